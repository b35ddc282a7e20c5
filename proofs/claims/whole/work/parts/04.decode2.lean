theorem dX7_set_90 : decode cX7_set 90 = .ok (.aload_n 0, 1) := by decide +kernel
theorem dX7_set_91 : decode cX7_set 91 = .ok (.getfield 12, 3) := by decide +kernel
theorem dX7_set_94 : decode cX7_set 94 = .ok (.iload_n 2, 1) := by decide +kernel
theorem dX7_set_95 : decode cX7_set 95 = .ok (.putfield 91, 3) := by decide +kernel
theorem dX7_set_98 : decode cX7_set 98 = .ok (.goto 6, 3) := by decide +kernel
theorem dX7_set_101 : decode cX7_set 101 = .ok (.bipush (-2), 2) := by decide +kernel
theorem dX7_set_103 : decode cX7_set 103 = .ok (.istore_n 3, 1) := by decide +kernel
theorem dX7_set_104 : decode cX7_set 104 = .ok (.iload_n 3, 1) := by decide +kernel
theorem dX7_set_105 : decode cX7_set 105 = .ok (.ireturn, 1) := by decide +kernel
theorem dX7_say_0 : decode cX7_say 0 = .ok (.iload_n 1, 1) := by decide +kernel
theorem dX7_say_1 : decode cX7_say 1 = .ok (.bipush 33, 2) := by decide +kernel
theorem dX7_say_3 : decode cX7_say 3 = .ok (.bipush 126, 2) := by decide +kernel
theorem dX7_say_5 : decode cX7_say 5 = .ok (.invokestatic 52, 3) := by decide +kernel
theorem dX7_say_8 : decode cX7_say 8 = .ok (.ifCond .ne 6, 3) := by decide +kernel
theorem dX7_say_11 : decode cX7_say 11 = .ok (.bipush (-2), 2) := by decide +kernel
theorem dX7_say_13 : decode cX7_say 13 = .ok (.ireturn, 1) := by decide +kernel
theorem dX7_say_14 : decode cX7_say 14 = .ok (.aload_n 0, 1) := by decide +kernel
theorem dX7_say_15 : decode cX7_say 15 = .ok (.getfield 27, 3) := by decide +kernel
theorem dX7_say_18 : decode cX7_say 18 = .ok (.getfield 94, 3) := by decide +kernel
theorem dX7_say_21 : decode cX7_say 21 = .ok (.bipush 110, 2) := by decide +kernel
theorem dX7_say_23 : decode cX7_say 23 = .ok (.if_icmp .lt 6, 3) := by decide +kernel
theorem dX7_say_26 : decode cX7_say 26 = .ok (.bipush (-4), 2) := by decide +kernel
theorem dX7_say_28 : decode cX7_say 28 = .ok (.ireturn, 1) := by decide +kernel
theorem dX7_say_29 : decode cX7_say 29 = .ok (.aload_n 0, 1) := by decide +kernel
theorem dX7_say_30 : decode cX7_say 30 = .ok (.getfield 27, 3) := by decide +kernel
theorem dX7_say_33 : decode cX7_say 33 = .ok (.iload_n 1, 1) := by decide +kernel
theorem dX7_say_34 : decode cX7_say 34 = .ok (.invokevirtual 97, 3) := by decide +kernel
theorem dX7_say_37 : decode cX7_say 37 = .ok (.aload_n 0, 1) := by decide +kernel
theorem dX7_say_38 : decode cX7_say 38 = .ok (.getfield 27, 3) := by decide +kernel
theorem dX7_say_41 : decode cX7_say 41 = .ok (.getfield 94, 3) := by decide +kernel
theorem dX7_say_44 : decode cX7_say 44 = .ok (.ireturn, 1) := by decide +kernel
theorem dX7_wipe_0 : decode cX7_wipe 0 = .ok (.aload_n 0, 1) := by decide +kernel
theorem dX7_wipe_1 : decode cX7_wipe 1 = .ok (.getfield 27, 3) := by decide +kernel
theorem dX7_wipe_4 : decode cX7_wipe 4 = .ok (.getfield 94, 3) := by decide +kernel
theorem dX7_wipe_7 : decode cX7_wipe 7 = .ok (.istore_n 1, 1) := by decide +kernel
theorem dX7_wipe_8 : decode cX7_wipe 8 = .ok (.aload_n 0, 1) := by decide +kernel
theorem dX7_wipe_9 : decode cX7_wipe 9 = .ok (.getfield 27, 3) := by decide +kernel
theorem dX7_wipe_12 : decode cX7_wipe 12 = .ok (.iconst 0, 1) := by decide +kernel
theorem dX7_wipe_13 : decode cX7_wipe 13 = .ok (.putfield 94, 3) := by decide +kernel
theorem dX7_wipe_16 : decode cX7_wipe 16 = .ok (.iload_n 1, 1) := by decide +kernel
theorem dX7_wipe_17 : decode cX7_wipe 17 = .ok (.ireturn, 1) := by decide +kernel
theorem dX7_fault_0 : decode cX7_fault 0 = .ok (.iload_n 1, 1) := by decide +kernel
theorem dX7_fault_1 : decode cX7_fault 1 = .ok (.ifCond .ne 11, 3) := by decide +kernel
theorem dX7_fault_4 : decode cX7_fault 4 = .ok (.aload_n 0, 1) := by decide +kernel
theorem dX7_fault_5 : decode cX7_fault 5 = .ok (.getfield 27, 3) := by decide +kernel
theorem dX7_fault_8 : decode cX7_fault 8 = .ok (.invokevirtual 101, 3) := by decide +kernel
theorem dX7_fault_11 : decode cX7_fault 11 = .ok (.ireturn, 1) := by decide +kernel
theorem dX7_fault_12 : decode cX7_fault 12 = .ok (.iload_n 1, 1) := by decide +kernel
theorem dX7_fault_13 : decode cX7_fault 13 = .ok (.iconst 1, 1) := by decide +kernel
theorem dX7_fault_14 : decode cX7_fault 14 = .ok (.if_icmp .ne 22, 3) := by decide +kernel
theorem dX7_fault_17 : decode cX7_fault 17 = .ok (.aload_n 0, 1) := by decide +kernel
theorem dX7_fault_18 : decode cX7_fault 18 = .ok (.getfield 34, 3) := by decide +kernel
theorem dX7_fault_21 : decode cX7_fault 21 = .ok (.aload_n 0, 1) := by decide +kernel
theorem dX7_fault_22 : decode cX7_fault 22 = .ok (.getfield 27, 3) := by decide +kernel
theorem dX7_fault_25 : decode cX7_fault 25 = .ok (.aload_n 0, 1) := by decide +kernel
theorem dX7_fault_26 : decode cX7_fault 26 = .ok (.getfield 12, 3) := by decide +kernel
theorem dX7_fault_29 : decode cX7_fault 29 = .ok (.getfield 104, 3) := by decide +kernel
theorem dX7_fault_32 : decode cX7_fault 32 = .ok (.invokevirtual 107, 3) := by decide +kernel
theorem dX7_fault_35 : decode cX7_fault 35 = .ok (.ireturn, 1) := by decide +kernel
theorem dX7_fault_36 : decode cX7_fault 36 = .ok (.bipush (-2), 2) := by decide +kernel
theorem dX7_fault_38 : decode cX7_fault 38 = .ok (.ireturn, 1) := by decide +kernel
theorem dX7_way_0 : decode cX7_way 0 = .ok (.aload_n 0, 1) := by decide +kernel
theorem dX7_way_1 : decode cX7_way 1 = .ok (.getfield 27, 3) := by decide +kernel
theorem dX7_way_4 : decode cX7_way 4 = .ok (.invokevirtual 101, 3) := by decide +kernel
theorem dX7_way_7 : decode cX7_way 7 = .ok (.bipush (-6), 2) := by decide +kernel
theorem dX7_way_9 : decode cX7_way 9 = .ok (.if_icmp .eq 6, 3) := by decide +kernel
theorem dX7_way_12 : decode cX7_way 12 = .ok (.bipush (-5), 2) := by decide +kernel
theorem dX7_way_14 : decode cX7_way 14 = .ok (.ireturn, 1) := by decide +kernel
theorem dX7_way_15 : decode cX7_way 15 = .ok (.aload_n 0, 1) := by decide +kernel
theorem dX7_way_16 : decode cX7_way 16 = .ok (.getfield 12, 3) := by decide +kernel
theorem dX7_way_19 : decode cX7_way 19 = .ok (.aload_n 0, 1) := by decide +kernel
theorem dX7_way_20 : decode cX7_way 20 = .ok (.getfield 27, 3) := by decide +kernel
theorem dX7_way_23 : decode cX7_way 23 = .ok (.invokevirtual 111, 3) := by decide +kernel
theorem dX7_way_26 : decode cX7_way 26 = .ok (.aload_n 0, 1) := by decide +kernel
theorem dX7_way_27 : decode cX7_way 27 = .ok (.getfield 27, 3) := by decide +kernel
theorem dX7_way_30 : decode cX7_way 30 = .ok (.iconst 0, 1) := by decide +kernel
theorem dX7_way_31 : decode cX7_way 31 = .ok (.putfield 94, 3) := by decide +kernel
theorem dX7_way_34 : decode cX7_way 34 = .ok (.aload_n 0, 1) := by decide +kernel
theorem dX7_way_35 : decode cX7_way 35 = .ok (.getfield 12, 3) := by decide +kernel
theorem dX7_way_38 : decode cX7_way 38 = .ok (.getfield 104, 3) := by decide +kernel
theorem dX7_way_41 : decode cX7_way 41 = .ok (.ireturn, 1) := by decide +kernel
theorem dX7_tread_0 : decode cX7_tread 0 = .ok (.aload_n 0, 1) := by decide +kernel
theorem dX7_tread_1 : decode cX7_tread 1 = .ok (.getfield 12, 3) := by decide +kernel
theorem dX7_tread_4 : decode cX7_tread 4 = .ok (.iload_n 1, 1) := by decide +kernel
theorem dX7_tread_5 : decode cX7_tread 5 = .ok (.invokevirtual 70, 3) := by decide +kernel
theorem dX7_tread_8 : decode cX7_tread 8 = .ok (.ifCond .ne 5, 3) := by decide +kernel
theorem dX7_tread_11 : decode cX7_tread 11 = .ok (.iconst (-1), 1) := by decide +kernel
theorem dX7_tread_12 : decode cX7_tread 12 = .ok (.ireturn, 1) := by decide +kernel
theorem dX7_tread_13 : decode cX7_tread 13 = .ok (.iload_n 2, 1) := by decide +kernel
theorem dX7_tread_14 : decode cX7_tread 14 = .ok (.invokestatic 115, 3) := by decide +kernel
theorem dX7_tread_17 : decode cX7_tread 17 = .ok (.ifCond .eq 13, 3) := by decide +kernel
theorem dX7_tread_20 : decode cX7_tread 20 = .ok (.iload_n 3, 1) := by decide +kernel
theorem dX7_tread_21 : decode cX7_tread 21 = .ok (.iconst 4, 1) := by decide +kernel
theorem dX7_tread_22 : decode cX7_tread 22 = .ok (.bipush 10, 2) := by decide +kernel
theorem dX7_tread_24 : decode cX7_tread 24 = .ok (.invokestatic 52, 3) := by decide +kernel
theorem dX7_tread_27 : decode cX7_tread 27 = .ok (.ifCond .ne 6, 3) := by decide +kernel
theorem dX7_tread_30 : decode cX7_tread 30 = .ok (.bipush (-2), 2) := by decide +kernel
theorem dX7_tread_32 : decode cX7_tread 32 = .ok (.ireturn, 1) := by decide +kernel
theorem dX7_tread_33 : decode cX7_tread 33 = .ok (.aload_n 0, 1) := by decide +kernel
theorem dX7_tread_34 : decode cX7_tread 34 = .ok (.getfield 12, 3) := by decide +kernel
theorem dX7_tread_37 : decode cX7_tread 37 = .ok (.getfield 56, 3) := by decide +kernel
theorem dX7_tread_40 : decode cX7_tread 40 = .ok (.iload_n 1, 1) := by decide +kernel
theorem dX7_tread_41 : decode cX7_tread 41 = .ok (.aaload, 1) := by decide +kernel
theorem dX7_tread_42 : decode cX7_tread 42 = .ok (.iload_n 2, 1) := by decide +kernel
theorem dX7_tread_43 : decode cX7_tread 43 = .ok (.iload_n 3, 1) := by decide +kernel
theorem dX7_tread_44 : decode cX7_tread 44 = .ok (.invokevirtual 118, 3) := by decide +kernel
theorem dX7_tread_47 : decode cX7_tread 47 = .ok (.ireturn, 1) := by decide +kernel
theorem dX7_judge_0 : decode cX7_judge 0 = .ok (.aload_n 0, 1) := by decide +kernel
theorem dX7_judge_1 : decode cX7_judge 1 = .ok (.invokevirtual 122, 3) := by decide +kernel
theorem dX7_judge_4 : decode cX7_judge 4 = .ok (.ifCond .ne 6, 3) := by decide +kernel
theorem dX7_judge_7 : decode cX7_judge 7 = .ok (.bipush (-3), 2) := by decide +kernel
theorem dX7_judge_9 : decode cX7_judge 9 = .ok (.ireturn, 1) := by decide +kernel
theorem dX7_judge_10 : decode cX7_judge 10 = .ok (.iload_n 1, 1) := by decide +kernel
theorem dX7_judge_11 : decode cX7_judge 11 = .ok (.iconst 0, 1) := by decide +kernel
theorem dX7_judge_12 : decode cX7_judge 12 = .ok (.iconst 1, 1) := by decide +kernel
theorem dX7_judge_13 : decode cX7_judge 13 = .ok (.invokestatic 52, 3) := by decide +kernel
theorem dX7_judge_16 : decode cX7_judge 16 = .ok (.ifCond .ne 6, 3) := by decide +kernel
theorem dX7_judge_19 : decode cX7_judge 19 = .ok (.bipush (-2), 2) := by decide +kernel
theorem dX7_judge_21 : decode cX7_judge 21 = .ok (.ireturn, 1) := by decide +kernel
theorem dX7_judge_22 : decode cX7_judge 22 = .ok (.aload_n 0, 1) := by decide +kernel
theorem dX7_judge_23 : decode cX7_judge 23 = .ok (.getfield 34, 3) := by decide +kernel
theorem dX7_judge_26 : decode cX7_judge 26 = .ok (.aload_n 0, 1) := by decide +kernel
theorem dX7_judge_27 : decode cX7_judge 27 = .ok (.getfield 27, 3) := by decide +kernel
theorem dX7_judge_30 : decode cX7_judge 30 = .ok (.aload_n 0, 1) := by decide +kernel
theorem dX7_judge_31 : decode cX7_judge 31 = .ok (.getfield 12, 3) := by decide +kernel
theorem dX7_judge_34 : decode cX7_judge 34 = .ok (.getfield 104, 3) := by decide +kernel
theorem dX7_judge_37 : decode cX7_judge 37 = .ok (.invokevirtual 107, 3) := by decide +kernel
theorem dX7_judge_40 : decode cX7_judge 40 = .ok (.bipush (-6), 2) := by decide +kernel
theorem dX7_judge_42 : decode cX7_judge 42 = .ok (.if_icmp .eq 6, 3) := by decide +kernel
theorem dX7_judge_45 : decode cX7_judge 45 = .ok (.bipush (-5), 2) := by decide +kernel
theorem dX7_judge_47 : decode cX7_judge 47 = .ok (.ireturn, 1) := by decide +kernel
theorem dX7_judge_48 : decode cX7_judge 48 = .ok (.aload_n 0, 1) := by decide +kernel
theorem dX7_judge_49 : decode cX7_judge 49 = .ok (.getfield 41, 3) := by decide +kernel
theorem dX7_judge_52 : decode cX7_judge 52 = .ok (.aload_n 0, 1) := by decide +kernel
theorem dX7_judge_53 : decode cX7_judge 53 = .ok (.getfield 12, 3) := by decide +kernel
theorem dX7_judge_56 : decode cX7_judge 56 = .ok (.aload_n 0, 1) := by decide +kernel
theorem dX7_judge_57 : decode cX7_judge 57 = .ok (.getfield 34, 3) := by decide +kernel
theorem dX7_judge_60 : decode cX7_judge 60 = .ok (.iconst (-1), 1) := by decide +kernel
theorem dX7_judge_61 : decode cX7_judge 61 = .ok (.invokevirtual 126, 3) := by decide +kernel
theorem dX7_judge_64 : decode cX7_judge 64 = .ok (.iload_n 1, 1) := by decide +kernel
theorem dX7_judge_65 : decode cX7_judge 65 = .ok (.ifCond .ne 13, 3) := by decide +kernel
theorem dX7_judge_68 : decode cX7_judge 68 = .ok (.aload_n 0, 1) := by decide +kernel
theorem dX7_judge_69 : decode cX7_judge 69 = .ok (.getfield 41, 3) := by decide +kernel
theorem dX7_judge_72 : decode cX7_judge 72 = .ok (.getfield 130, 3) := by decide +kernel
theorem dX7_judge_75 : decode cX7_judge 75 = .ok (.goto 10, 3) := by decide +kernel
theorem dX7_judge_78 : decode cX7_judge 78 = .ok (.aload_n 0, 1) := by decide +kernel
theorem dX7_judge_79 : decode cX7_judge 79 = .ok (.getfield 41, 3) := by decide +kernel
theorem dX7_judge_82 : decode cX7_judge 82 = .ok (.getfield 133, 3) := by decide +kernel
theorem dX7_judge_85 : decode cX7_judge 85 = .ok (.ireturn, 1) := by decide +kernel
theorem dX7_ridden_0 : decode cX7_ridden 0 = .ok (.aload_n 0, 1) := by decide +kernel
theorem dX7_ridden_1 : decode cX7_ridden 1 = .ok (.invokevirtual 122, 3) := by decide +kernel
theorem dX7_ridden_4 : decode cX7_ridden 4 = .ok (.ifCond .ne 6, 3) := by decide +kernel
theorem dX7_ridden_7 : decode cX7_ridden 7 = .ok (.bipush (-3), 2) := by decide +kernel
theorem dX7_ridden_9 : decode cX7_ridden 9 = .ok (.ireturn, 1) := by decide +kernel
theorem dX7_ridden_10 : decode cX7_ridden 10 = .ok (.iload_n 1, 1) := by decide +kernel
theorem dX7_ridden_11 : decode cX7_ridden 11 = .ok (.iconst (-1), 1) := by decide +kernel
theorem dX7_ridden_12 : decode cX7_ridden 12 = .ok (.aload_n 0, 1) := by decide +kernel
theorem dX7_ridden_13 : decode cX7_ridden 13 = .ok (.getfield 12, 3) := by decide +kernel
theorem dX7_ridden_16 : decode cX7_ridden 16 = .ok (.getfield 104, 3) := by decide +kernel
theorem dX7_ridden_19 : decode cX7_ridden 19 = .ok (.iconst 1, 1) := by decide +kernel
theorem dX7_ridden_20 : decode cX7_ridden 20 = .ok (.isub, 1) := by decide +kernel
theorem dX7_ridden_21 : decode cX7_ridden 21 = .ok (.invokestatic 52, 3) := by decide +kernel
theorem dX7_ridden_24 : decode cX7_ridden 24 = .ok (.ifCond .eq 12, 3) := by decide +kernel
theorem dX7_ridden_27 : decode cX7_ridden 27 = .ok (.iload_n 2, 1) := by decide +kernel
theorem dX7_ridden_28 : decode cX7_ridden 28 = .ok (.iconst 0, 1) := by decide +kernel
theorem dX7_ridden_29 : decode cX7_ridden 29 = .ok (.iconst 3, 1) := by decide +kernel
theorem dX7_ridden_30 : decode cX7_ridden 30 = .ok (.invokestatic 52, 3) := by decide +kernel
theorem dX7_ridden_33 : decode cX7_ridden 33 = .ok (.ifCond .ne 6, 3) := by decide +kernel
theorem dX7_ridden_36 : decode cX7_ridden 36 = .ok (.bipush (-2), 2) := by decide +kernel
theorem dX7_ridden_38 : decode cX7_ridden 38 = .ok (.ireturn, 1) := by decide +kernel
theorem dX7_ridden_39 : decode cX7_ridden 39 = .ok (.aload_n 0, 1) := by decide +kernel
theorem dX7_ridden_40 : decode cX7_ridden 40 = .ok (.invokevirtual 136, 3) := by decide +kernel
theorem dX7_ridden_43 : decode cX7_ridden 43 = .ok (.ifCond .ne 6, 3) := by decide +kernel
theorem dX7_ridden_46 : decode cX7_ridden 46 = .ok (.bipush (-5), 2) := by decide +kernel
theorem dX7_ridden_48 : decode cX7_ridden 48 = .ok (.ireturn, 1) := by decide +kernel
theorem dX7_ridden_49 : decode cX7_ridden 49 = .ok (.iload_n 1, 1) := by decide +kernel
theorem dX7_ridden_50 : decode cX7_ridden 50 = .ok (.ifCond .ge 15, 3) := by decide +kernel
theorem dX7_ridden_53 : decode cX7_ridden 53 = .ok (.aload_n 0, 1) := by decide +kernel
theorem dX7_ridden_54 : decode cX7_ridden 54 = .ok (.getfield 12, 3) := by decide +kernel
theorem dX7_ridden_57 : decode cX7_ridden 57 = .ok (.getfield 104, 3) := by decide +kernel
theorem dX7_ridden_60 : decode cX7_ridden 60 = .ok (.iconst 1, 1) := by decide +kernel
theorem dX7_ridden_61 : decode cX7_ridden 61 = .ok (.isub, 1) := by decide +kernel
theorem dX7_ridden_62 : decode cX7_ridden 62 = .ok (.goto 4, 3) := by decide +kernel
theorem dX7_ridden_65 : decode cX7_ridden 65 = .ok (.iload_n 1, 1) := by decide +kernel
theorem dX7_ridden_66 : decode cX7_ridden 66 = .ok (.istore_n 3, 1) := by decide +kernel
theorem dX7_ridden_67 : decode cX7_ridden 67 = .ok (.iload_n 2, 1) := by decide +kernel
theorem dX7_ridden_68 : decode cX7_ridden 68 = .ok (.ifCond .ne 13, 3) := by decide +kernel
theorem dX7_ridden_71 : decode cX7_ridden 71 = .ok (.aload_n 0, 1) := by decide +kernel
theorem dX7_ridden_72 : decode cX7_ridden 72 = .ok (.getfield 41, 3) := by decide +kernel
theorem dX7_ridden_75 : decode cX7_ridden 75 = .ok (.getfield 139, 3) := by decide +kernel
theorem dX7_ridden_78 : decode cX7_ridden 78 = .ok (.iload_n 3, 1) := by decide +kernel
theorem dX7_ridden_79 : decode cX7_ridden 79 = .ok (.iaload, 1) := by decide +kernel
theorem dX7_ridden_80 : decode cX7_ridden 80 = .ok (.ireturn, 1) := by decide +kernel
theorem dX7_ridden_81 : decode cX7_ridden 81 = .ok (.iload_n 2, 1) := by decide +kernel
theorem dX7_ridden_82 : decode cX7_ridden 82 = .ok (.iconst 1, 1) := by decide +kernel
theorem dX7_ridden_83 : decode cX7_ridden 83 = .ok (.if_icmp .ne 13, 3) := by decide +kernel
theorem dX7_ridden_86 : decode cX7_ridden 86 = .ok (.aload_n 0, 1) := by decide +kernel
theorem dX7_ridden_87 : decode cX7_ridden 87 = .ok (.getfield 41, 3) := by decide +kernel
theorem dX7_ridden_90 : decode cX7_ridden 90 = .ok (.getfield 143, 3) := by decide +kernel
theorem dX7_ridden_93 : decode cX7_ridden 93 = .ok (.iload_n 3, 1) := by decide +kernel
theorem dX7_ridden_94 : decode cX7_ridden 94 = .ok (.iaload, 1) := by decide +kernel
theorem dX7_ridden_95 : decode cX7_ridden 95 = .ok (.ireturn, 1) := by decide +kernel
theorem dX7_ridden_96 : decode cX7_ridden 96 = .ok (.iload_n 2, 1) := by decide +kernel
theorem dX7_ridden_97 : decode cX7_ridden 97 = .ok (.iconst 2, 1) := by decide +kernel
theorem dX7_ridden_98 : decode cX7_ridden 98 = .ok (.if_icmp .ne 13, 3) := by decide +kernel
theorem dX7_ridden_101 : decode cX7_ridden 101 = .ok (.aload_n 0, 1) := by decide +kernel
theorem dX7_ridden_102 : decode cX7_ridden 102 = .ok (.getfield 41, 3) := by decide +kernel
theorem dX7_ridden_105 : decode cX7_ridden 105 = .ok (.getfield 146, 3) := by decide +kernel
theorem dX7_ridden_108 : decode cX7_ridden 108 = .ok (.iload_n 3, 1) := by decide +kernel
theorem dX7_ridden_109 : decode cX7_ridden 109 = .ok (.iaload, 1) := by decide +kernel
theorem dX7_ridden_110 : decode cX7_ridden 110 = .ok (.ireturn, 1) := by decide +kernel
theorem dX7_ridden_111 : decode cX7_ridden 111 = .ok (.aload_n 0, 1) := by decide +kernel
theorem dX7_ridden_112 : decode cX7_ridden 112 = .ok (.getfield 41, 3) := by decide +kernel
theorem dX7_ridden_115 : decode cX7_ridden 115 = .ok (.getfield 149, 3) := by decide +kernel
theorem dX7_ridden_118 : decode cX7_ridden 118 = .ok (.iload_n 3, 1) := by decide +kernel
theorem dX7_ridden_119 : decode cX7_ridden 119 = .ok (.iaload, 1) := by decide +kernel
theorem dX7_ridden_120 : decode cX7_ridden 120 = .ok (.ireturn, 1) := by decide +kernel
theorem dX7_share_0 : decode cX7_share 0 = .ok (.aload_n 0, 1) := by decide +kernel
theorem dX7_share_1 : decode cX7_share 1 = .ok (.invokevirtual 122, 3) := by decide +kernel
theorem dX7_share_4 : decode cX7_share 4 = .ok (.ifCond .ne 7, 3) := by decide +kernel
theorem dX7_share_7 : decode cX7_share 7 = .ok (.ldc2_w 152, 3) := by decide +kernel
theorem dX7_share_10 : decode cX7_share 10 = .ok (.lreturn, 1) := by decide +kernel
theorem dX7_share_11 : decode cX7_share 11 = .ok (.iload_n 1, 1) := by decide +kernel
theorem dX7_share_12 : decode cX7_share 12 = .ok (.iconst 0, 1) := by decide +kernel
theorem dX7_share_13 : decode cX7_share 13 = .ok (.iconst 1, 1) := by decide +kernel
theorem dX7_share_14 : decode cX7_share 14 = .ok (.invokestatic 52, 3) := by decide +kernel
theorem dX7_share_17 : decode cX7_share 17 = .ok (.ifCond .ne 7, 3) := by decide +kernel
theorem dX7_share_20 : decode cX7_share 20 = .ok (.ldc2_w 154, 3) := by decide +kernel
theorem dX7_share_23 : decode cX7_share 23 = .ok (.lreturn, 1) := by decide +kernel
theorem dX7_share_24 : decode cX7_share 24 = .ok (.aload_n 0, 1) := by decide +kernel
theorem dX7_share_25 : decode cX7_share 25 = .ok (.invokevirtual 136, 3) := by decide +kernel
theorem dX7_share_28 : decode cX7_share 28 = .ok (.ifCond .ne 7, 3) := by decide +kernel
theorem dX7_share_31 : decode cX7_share 31 = .ok (.ldc2_w 156, 3) := by decide +kernel
theorem dX7_share_34 : decode cX7_share 34 = .ok (.lreturn, 1) := by decide +kernel
theorem dX7_share_35 : decode cX7_share 35 = .ok (.aload_n 0, 1) := by decide +kernel
theorem dX7_share_36 : decode cX7_share 36 = .ok (.getfield 41, 3) := by decide +kernel
theorem dX7_share_39 : decode cX7_share 39 = .ok (.getfield 158, 3) := by decide +kernel
theorem dX7_share_42 : decode cX7_share 42 = .ok (.aload_n 0, 1) := by decide +kernel
theorem dX7_share_43 : decode cX7_share 43 = .ok (.getfield 41, 3) := by decide +kernel
theorem dX7_share_46 : decode cX7_share 46 = .ok (.getfield 161, 3) := by decide +kernel
theorem dX7_share_49 : decode cX7_share 49 = .ok (.iadd, 1) := by decide +kernel
theorem dX7_share_50 : decode cX7_share 50 = .ok (.istore_n 2, 1) := by decide +kernel
theorem dX7_share_51 : decode cX7_share 51 = .ok (.iload_n 2, 1) := by decide +kernel
theorem dX7_share_52 : decode cX7_share 52 = .ok (.ifCond .ne 6, 3) := by decide +kernel
theorem dX7_share_55 : decode cX7_share 55 = .ok (.iload_n 1, 1) := by decide +kernel
theorem dX7_share_56 : decode cX7_share 56 = .ok (.i2l, 1) := by decide +kernel
theorem dX7_share_57 : decode cX7_share 57 = .ok (.lreturn, 1) := by decide +kernel
theorem dX7_share_58 : decode cX7_share 58 = .ok (.aload_n 0, 1) := by decide +kernel
theorem dX7_share_59 : decode cX7_share 59 = .ok (.getfield 41, 3) := by decide +kernel
theorem dX7_share_62 : decode cX7_share 62 = .ok (.getfield 158, 3) := by decide +kernel
theorem dX7_share_65 : decode cX7_share 65 = .ok (.i2l, 1) := by decide +kernel
theorem dX7_share_66 : decode cX7_share 66 = .ok (.iload_n 2, 1) := by decide +kernel
theorem dX7_share_67 : decode cX7_share 67 = .ok (.i2l, 1) := by decide +kernel
theorem dX7_share_68 : decode cX7_share 68 = .ok (.iload_n 1, 1) := by decide +kernel
theorem dX7_share_69 : decode cX7_share 69 = .ok (.invokestatic 164, 3) := by decide +kernel
theorem dX7_share_72 : decode cX7_share 72 = .ok (.lreturn, 1) := by decide +kernel
theorem dX7_unseen_0 : decode cX7_unseen 0 = .ok (.aload_n 0, 1) := by decide +kernel
theorem dX7_unseen_1 : decode cX7_unseen 1 = .ok (.invokevirtual 122, 3) := by decide +kernel
theorem dX7_unseen_4 : decode cX7_unseen 4 = .ok (.ifCond .ne 6, 3) := by decide +kernel
theorem dX7_unseen_7 : decode cX7_unseen 7 = .ok (.bipush (-3), 2) := by decide +kernel
theorem dX7_unseen_9 : decode cX7_unseen 9 = .ok (.ireturn, 1) := by decide +kernel
theorem dX7_unseen_10 : decode cX7_unseen 10 = .ok (.aload_n 0, 1) := by decide +kernel
theorem dX7_unseen_11 : decode cX7_unseen 11 = .ok (.invokevirtual 136, 3) := by decide +kernel
theorem dX7_unseen_14 : decode cX7_unseen 14 = .ok (.ifCond .ne 6, 3) := by decide +kernel
theorem dX7_unseen_17 : decode cX7_unseen 17 = .ok (.bipush (-5), 2) := by decide +kernel
theorem dX7_unseen_19 : decode cX7_unseen 19 = .ok (.ireturn, 1) := by decide +kernel
theorem dX7_unseen_20 : decode cX7_unseen 20 = .ok (.aload_n 0, 1) := by decide +kernel
theorem dX7_unseen_21 : decode cX7_unseen 21 = .ok (.getfield 41, 3) := by decide +kernel
theorem dX7_unseen_24 : decode cX7_unseen 24 = .ok (.getfield 168, 3) := by decide +kernel
theorem dX7_unseen_27 : decode cX7_unseen 27 = .ok (.ireturn, 1) := by decide +kernel
theorem dX7_soonest_0 : decode cX7_soonest 0 = .ok (.aload_n 0, 1) := by decide +kernel
theorem dX7_soonest_1 : decode cX7_soonest 1 = .ok (.invokevirtual 122, 3) := by decide +kernel
theorem dX7_soonest_4 : decode cX7_soonest 4 = .ok (.ifCond .ne 6, 3) := by decide +kernel
theorem dX7_soonest_7 : decode cX7_soonest 7 = .ok (.bipush (-3), 2) := by decide +kernel
theorem dX7_soonest_9 : decode cX7_soonest 9 = .ok (.ireturn, 1) := by decide +kernel
theorem dX7_soonest_10 : decode cX7_soonest 10 = .ok (.iload_n 1, 1) := by decide +kernel
theorem dX7_soonest_11 : decode cX7_soonest 11 = .ok (.iconst 0, 1) := by decide +kernel
theorem dX7_soonest_12 : decode cX7_soonest 12 = .ok (.iconst 1, 1) := by decide +kernel
theorem dX7_soonest_13 : decode cX7_soonest 13 = .ok (.invokestatic 52, 3) := by decide +kernel
theorem dX7_soonest_16 : decode cX7_soonest 16 = .ok (.ifCond .ne 6, 3) := by decide +kernel
theorem dX7_soonest_19 : decode cX7_soonest 19 = .ok (.bipush (-2), 2) := by decide +kernel
theorem dX7_soonest_21 : decode cX7_soonest 21 = .ok (.ireturn, 1) := by decide +kernel
theorem dX7_soonest_22 : decode cX7_soonest 22 = .ok (.aload_n 0, 1) := by decide +kernel
theorem dX7_soonest_23 : decode cX7_soonest 23 = .ok (.getfield 48, 3) := by decide +kernel
theorem dX7_soonest_26 : decode cX7_soonest 26 = .ok (.aload_n 0, 1) := by decide +kernel
theorem dX7_soonest_27 : decode cX7_soonest 27 = .ok (.getfield 12, 3) := by decide +kernel
theorem dX7_soonest_30 : decode cX7_soonest 30 = .ok (.aload_n 0, 1) := by decide +kernel
theorem dX7_soonest_31 : decode cX7_soonest 31 = .ok (.getfield 12, 3) := by decide +kernel
theorem dX7_soonest_34 : decode cX7_soonest 34 = .ok (.invokevirtual 171, 3) := by decide +kernel
theorem dX7_soonest_37 : decode cX7_soonest 37 = .ok (.aload_n 0, 1) := by decide +kernel
theorem dX7_soonest_38 : decode cX7_soonest 38 = .ok (.getfield 12, 3) := by decide +kernel
theorem dX7_soonest_41 : decode cX7_soonest 41 = .ok (.invokevirtual 175, 3) := by decide +kernel
theorem dX7_soonest_44 : decode cX7_soonest 44 = .ok (.invokevirtual 178, 3) := by decide +kernel
theorem dX7_soonest_47 : decode cX7_soonest 47 = .ok (.iload_n 1, 1) := by decide +kernel
theorem dX7_soonest_48 : decode cX7_soonest 48 = .ok (.ifCond .ne 13, 3) := by decide +kernel
theorem dX7_soonest_51 : decode cX7_soonest 51 = .ok (.aload_n 0, 1) := by decide +kernel
theorem dX7_soonest_52 : decode cX7_soonest 52 = .ok (.getfield 48, 3) := by decide +kernel
theorem dX7_soonest_55 : decode cX7_soonest 55 = .ok (.getfield 182, 3) := by decide +kernel
theorem dX7_soonest_58 : decode cX7_soonest 58 = .ok (.goto 10, 3) := by decide +kernel
theorem dX7_soonest_61 : decode cX7_soonest 61 = .ok (.aload_n 0, 1) := by decide +kernel
theorem dX7_soonest_62 : decode cX7_soonest 62 = .ok (.getfield 48, 3) := by decide +kernel
theorem dX7_soonest_65 : decode cX7_soonest 65 = .ok (.getfield 185, 3) := by decide +kernel
theorem dX7_soonest_68 : decode cX7_soonest 68 = .ok (.ireturn, 1) := by decide +kernel
theorem dX7_oneBeat_0 : decode cX7_oneBeat 0 = .ok (.aload_n 0, 1) := by decide +kernel
theorem dX7_oneBeat_1 : decode cX7_oneBeat 1 = .ok (.invokevirtual 122, 3) := by decide +kernel
theorem dX7_oneBeat_4 : decode cX7_oneBeat 4 = .ok (.ifCond .ne 6, 3) := by decide +kernel
theorem dX7_oneBeat_7 : decode cX7_oneBeat 7 = .ok (.bipush (-3), 2) := by decide +kernel
theorem dX7_oneBeat_9 : decode cX7_oneBeat 9 = .ok (.ireturn, 1) := by decide +kernel
theorem dX7_oneBeat_10 : decode cX7_oneBeat 10 = .ok (.iload_n 1, 1) := by decide +kernel
theorem dX7_oneBeat_11 : decode cX7_oneBeat 11 = .ok (.invokestatic 115, 3) := by decide +kernel
theorem dX7_oneBeat_14 : decode cX7_oneBeat 14 = .ok (.ifCond .eq 19, 3) := by decide +kernel
theorem dX7_oneBeat_17 : decode cX7_oneBeat 17 = .ok (.iload_n 2, 1) := by decide +kernel
theorem dX7_oneBeat_18 : decode cX7_oneBeat 18 = .ok (.invokestatic 115, 3) := by decide +kernel
theorem dX7_oneBeat_21 : decode cX7_oneBeat 21 = .ok (.ifCond .eq 12, 3) := by decide +kernel
theorem dX7_oneBeat_24 : decode cX7_oneBeat 24 = .ok (.iload_n 3, 1) := by decide +kernel
theorem dX7_oneBeat_25 : decode cX7_oneBeat 25 = .ok (.iconst 0, 1) := by decide +kernel
theorem dX7_oneBeat_26 : decode cX7_oneBeat 26 = .ok (.iconst 3, 1) := by decide +kernel
theorem dX7_oneBeat_27 : decode cX7_oneBeat 27 = .ok (.invokestatic 52, 3) := by decide +kernel
theorem dX7_oneBeat_30 : decode cX7_oneBeat 30 = .ok (.ifCond .ne 6, 3) := by decide +kernel
theorem dX7_oneBeat_33 : decode cX7_oneBeat 33 = .ok (.bipush (-2), 2) := by decide +kernel
theorem dX7_oneBeat_35 : decode cX7_oneBeat 35 = .ok (.ireturn, 1) := by decide +kernel
theorem dX7_oneBeat_36 : decode cX7_oneBeat 36 = .ok (.iconst 4, 1) := by decide +kernel
theorem dX7_oneBeat_37 : decode cX7_oneBeat 37 = .ok (.istore 4, 2) := by decide +kernel
theorem dX7_oneBeat_39 : decode cX7_oneBeat 39 = .ok (.aload_n 0, 1) := by decide +kernel
theorem dX7_oneBeat_40 : decode cX7_oneBeat 40 = .ok (.iload_n 1, 1) := by decide +kernel
theorem dX7_oneBeat_41 : decode cX7_oneBeat 41 = .ok (.iload_n 2, 1) := by decide +kernel
theorem dX7_oneBeat_42 : decode cX7_oneBeat 42 = .ok (.iload 4, 2) := by decide +kernel
theorem dX7_oneBeat_44 : decode cX7_oneBeat 44 = .ok (.invokevirtual 188, 3) := by decide +kernel
theorem dX7_oneBeat_47 : decode cX7_oneBeat 47 = .ok (.istore 5, 2) := by decide +kernel
theorem dX7_oneBeat_49 : decode cX7_oneBeat 49 = .ok (.iconst 5, 1) := by decide +kernel
theorem dX7_oneBeat_50 : decode cX7_oneBeat 50 = .ok (.istore 6, 2) := by decide +kernel
theorem dX7_oneBeat_52 : decode cX7_oneBeat 52 = .ok (.iload 6, 2) := by decide +kernel
theorem dX7_oneBeat_54 : decode cX7_oneBeat 54 = .ok (.bipush 10, 2) := by decide +kernel
theorem dX7_oneBeat_56 : decode cX7_oneBeat 56 = .ok (.if_icmp .gt 34, 3) := by decide +kernel
theorem dX7_oneBeat_59 : decode cX7_oneBeat 59 = .ok (.aload_n 0, 1) := by decide +kernel
theorem dX7_oneBeat_60 : decode cX7_oneBeat 60 = .ok (.iload_n 1, 1) := by decide +kernel
theorem dX7_oneBeat_61 : decode cX7_oneBeat 61 = .ok (.iload_n 2, 1) := by decide +kernel
theorem dX7_oneBeat_62 : decode cX7_oneBeat 62 = .ok (.iload 6, 2) := by decide +kernel
theorem dX7_oneBeat_64 : decode cX7_oneBeat 64 = .ok (.invokevirtual 188, 3) := by decide +kernel
theorem dX7_oneBeat_67 : decode cX7_oneBeat 67 = .ok (.istore 7, 2) := by decide +kernel
theorem dX7_oneBeat_69 : decode cX7_oneBeat 69 = .ok (.iload 7, 2) := by decide +kernel
theorem dX7_oneBeat_71 : decode cX7_oneBeat 71 = .ok (.iload 5, 2) := by decide +kernel
theorem dX7_oneBeat_73 : decode cX7_oneBeat 73 = .ok (.if_icmp .ge 11, 3) := by decide +kernel
theorem dX7_oneBeat_76 : decode cX7_oneBeat 76 = .ok (.iload 7, 2) := by decide +kernel
theorem dX7_oneBeat_78 : decode cX7_oneBeat 78 = .ok (.istore 5, 2) := by decide +kernel
theorem dX7_oneBeat_80 : decode cX7_oneBeat 80 = .ok (.iload 6, 2) := by decide +kernel
theorem dX7_oneBeat_82 : decode cX7_oneBeat 82 = .ok (.istore 4, 2) := by decide +kernel
theorem dX7_oneBeat_84 : decode cX7_oneBeat 84 = .ok (.iinc 6 1, 3) := by decide +kernel
theorem dX7_oneBeat_87 : decode cX7_oneBeat 87 = .ok (.goto (-35), 3) := by decide +kernel
theorem dX7_oneBeat_90 : decode cX7_oneBeat 90 = .ok (.iload_n 3, 1) := by decide +kernel
theorem dX7_oneBeat_91 : decode cX7_oneBeat 91 = .ok (.ifCond .ne 6, 3) := by decide +kernel
theorem dX7_oneBeat_94 : decode cX7_oneBeat 94 = .ok (.iload 4, 2) := by decide +kernel
theorem dX7_oneBeat_96 : decode cX7_oneBeat 96 = .ok (.ireturn, 1) := by decide +kernel
theorem dX7_oneBeat_97 : decode cX7_oneBeat 97 = .ok (.iload_n 3, 1) := by decide +kernel
theorem dX7_oneBeat_98 : decode cX7_oneBeat 98 = .ok (.iconst 1, 1) := by decide +kernel
theorem dX7_oneBeat_99 : decode cX7_oneBeat 99 = .ok (.if_icmp .ne 6, 3) := by decide +kernel
theorem dX7_oneBeat_102 : decode cX7_oneBeat 102 = .ok (.iload 5, 2) := by decide +kernel
theorem dX7_oneBeat_104 : decode cX7_oneBeat 104 = .ok (.ireturn, 1) := by decide +kernel
theorem dX7_oneBeat_105 : decode cX7_oneBeat 105 = .ok (.iload_n 3, 1) := by decide +kernel
theorem dX7_oneBeat_106 : decode cX7_oneBeat 106 = .ok (.iconst 2, 1) := by decide +kernel
theorem dX7_oneBeat_107 : decode cX7_oneBeat 107 = .ok (.if_icmp .ne 25, 3) := by decide +kernel
theorem dX7_oneBeat_110 : decode cX7_oneBeat 110 = .ok (.aload_n 0, 1) := by decide +kernel
theorem dX7_oneBeat_111 : decode cX7_oneBeat 111 = .ok (.getfield 12, 3) := by decide +kernel
theorem dX7_oneBeat_114 : decode cX7_oneBeat 114 = .ok (.getfield 104, 3) := by decide +kernel
theorem dX7_oneBeat_117 : decode cX7_oneBeat 117 = .ok (.aload_n 0, 1) := by decide +kernel
theorem dX7_oneBeat_118 : decode cX7_oneBeat 118 = .ok (.getfield 12, 3) := by decide +kernel
theorem dX7_oneBeat_121 : decode cX7_oneBeat 121 = .ok (.invokevirtual 171, 3) := by decide +kernel
theorem dX7_oneBeat_124 : decode cX7_oneBeat 124 = .ok (.iload_n 1, 1) := by decide +kernel
theorem dX7_oneBeat_125 : decode cX7_oneBeat 125 = .ok (.iload 4, 2) := by decide +kernel
theorem dX7_oneBeat_127 : decode cX7_oneBeat 127 = .ok (.invokevirtual 192, 3) := by decide +kernel
theorem dX7_oneBeat_130 : decode cX7_oneBeat 130 = .ok (.imul, 1) := by decide +kernel
theorem dX7_oneBeat_131 : decode cX7_oneBeat 131 = .ok (.ireturn, 1) := by decide +kernel
theorem dX7_oneBeat_132 : decode cX7_oneBeat 132 = .ok (.aload_n 0, 1) := by decide +kernel
theorem dX7_oneBeat_133 : decode cX7_oneBeat 133 = .ok (.getfield 12, 3) := by decide +kernel
theorem dX7_oneBeat_136 : decode cX7_oneBeat 136 = .ok (.getfield 104, 3) := by decide +kernel
theorem dX7_oneBeat_139 : decode cX7_oneBeat 139 = .ok (.aload_n 0, 1) := by decide +kernel
theorem dX7_oneBeat_140 : decode cX7_oneBeat 140 = .ok (.getfield 12, 3) := by decide +kernel
theorem dX7_oneBeat_143 : decode cX7_oneBeat 143 = .ok (.invokevirtual 175, 3) := by decide +kernel
theorem dX7_oneBeat_146 : decode cX7_oneBeat 146 = .ok (.iload_n 2, 1) := by decide +kernel
theorem dX7_oneBeat_147 : decode cX7_oneBeat 147 = .ok (.iload 4, 2) := by decide +kernel
theorem dX7_oneBeat_149 : decode cX7_oneBeat 149 = .ok (.invokevirtual 192, 3) := by decide +kernel
theorem dX7_oneBeat_152 : decode cX7_oneBeat 152 = .ok (.imul, 1) := by decide +kernel
theorem dX7_oneBeat_153 : decode cX7_oneBeat 153 = .ok (.ireturn, 1) := by decide +kernel
theorem dX7_single_0 : decode cX7_single 0 = .ok (.aload_n 0, 1) := by decide +kernel
theorem dX7_single_1 : decode cX7_single 1 = .ok (.getfield 12, 3) := by decide +kernel
theorem dX7_single_4 : decode cX7_single 4 = .ok (.iload_n 1, 1) := by decide +kernel
theorem dX7_single_5 : decode cX7_single 5 = .ok (.invokevirtual 70, 3) := by decide +kernel
theorem dX7_single_8 : decode cX7_single 8 = .ok (.ifCond .ne 5, 3) := by decide +kernel
theorem dX7_single_11 : decode cX7_single 11 = .ok (.iconst (-1), 1) := by decide +kernel
theorem dX7_single_12 : decode cX7_single 12 = .ok (.ireturn, 1) := by decide +kernel
theorem dX7_single_13 : decode cX7_single 13 = .ok (.iload_n 2, 1) := by decide +kernel
theorem dX7_single_14 : decode cX7_single 14 = .ok (.invokestatic 115, 3) := by decide +kernel
theorem dX7_single_17 : decode cX7_single 17 = .ok (.ifCond .ne 6, 3) := by decide +kernel
theorem dX7_single_20 : decode cX7_single 20 = .ok (.bipush (-2), 2) := by decide +kernel
theorem dX7_single_22 : decode cX7_single 22 = .ok (.ireturn, 1) := by decide +kernel
theorem dX7_single_23 : decode cX7_single 23 = .ok (.aload_n 0, 1) := by decide +kernel
theorem dX7_single_24 : decode cX7_single 24 = .ok (.getfield 12, 3) := by decide +kernel
theorem dX7_single_27 : decode cX7_single 27 = .ok (.aload_n 0, 1) := by decide +kernel
theorem dX7_single_28 : decode cX7_single 28 = .ok (.getfield 12, 3) := by decide +kernel
theorem dX7_single_31 : decode cX7_single 31 = .ok (.getfield 56, 3) := by decide +kernel
theorem dX7_single_34 : decode cX7_single 34 = .ok (.iload_n 1, 1) := by decide +kernel
theorem dX7_single_35 : decode cX7_single 35 = .ok (.aaload, 1) := by decide +kernel
theorem dX7_single_36 : decode cX7_single 36 = .ok (.iload_n 2, 1) := by decide +kernel
theorem dX7_single_37 : decode cX7_single 37 = .ok (.invokevirtual 195, 3) := by decide +kernel
theorem dX7_single_40 : decode cX7_single 40 = .ok (.invokevirtual 199, 3) := by decide +kernel
theorem dX7_single_43 : decode cX7_single 43 = .ok (.ireturn, 1) := by decide +kernel
theorem dX7_sorts_0 : decode cX7_sorts 0 = .ok (.aload_n 0, 1) := by decide +kernel
theorem dX7_sorts_1 : decode cX7_sorts 1 = .ok (.invokevirtual 122, 3) := by decide +kernel
theorem dX7_sorts_4 : decode cX7_sorts 4 = .ok (.ifCond .ne 6, 3) := by decide +kernel
theorem dX7_sorts_7 : decode cX7_sorts 7 = .ok (.bipush (-3), 2) := by decide +kernel
theorem dX7_sorts_9 : decode cX7_sorts 9 = .ok (.ireturn, 1) := by decide +kernel
theorem dX7_sorts_10 : decode cX7_sorts 10 = .ok (.iload_n 1, 1) := by decide +kernel
theorem dX7_sorts_11 : decode cX7_sorts 11 = .ok (.invokestatic 115, 3) := by decide +kernel
theorem dX7_sorts_14 : decode cX7_sorts 14 = .ok (.ifCond .ne 6, 3) := by decide +kernel
theorem dX7_sorts_17 : decode cX7_sorts 17 = .ok (.bipush (-2), 2) := by decide +kernel
theorem dX7_sorts_19 : decode cX7_sorts 19 = .ok (.ireturn, 1) := by decide +kernel
theorem dX7_sorts_20 : decode cX7_sorts 20 = .ok (.aload_n 0, 1) := by decide +kernel
theorem dX7_sorts_21 : decode cX7_sorts 21 = .ok (.getfield 12, 3) := by decide +kernel
theorem dX7_sorts_24 : decode cX7_sorts 24 = .ok (.invokevirtual 171, 3) := by decide +kernel
theorem dX7_sorts_27 : decode cX7_sorts 27 = .ok (.iload_n 1, 1) := by decide +kernel
theorem dX7_sorts_28 : decode cX7_sorts 28 = .ok (.aload_n 0, 1) := by decide +kernel
theorem dX7_sorts_29 : decode cX7_sorts 29 = .ok (.getfield 12, 3) := by decide +kernel
theorem dX7_sorts_32 : decode cX7_sorts 32 = .ok (.invokevirtual 175, 3) := by decide +kernel
theorem dX7_sorts_35 : decode cX7_sorts 35 = .ok (.iload_n 1, 1) := by decide +kernel
theorem dX7_sorts_36 : decode cX7_sorts 36 = .ok (.invokestatic 202, 3) := by decide +kernel
theorem dX7_sorts_39 : decode cX7_sorts 39 = .ok (.istore_n 2, 1) := by decide +kernel
theorem dX7_sorts_40 : decode cX7_sorts 40 = .ok (.aload_n 0, 1) := by decide +kernel
theorem dX7_sorts_41 : decode cX7_sorts 41 = .ok (.getfield 12, 3) := by decide +kernel
theorem dX7_sorts_44 : decode cX7_sorts 44 = .ok (.invokevirtual 171, 3) := by decide +kernel
theorem dX7_sorts_47 : decode cX7_sorts 47 = .ok (.iload_n 1, 1) := by decide +kernel
theorem dX7_sorts_48 : decode cX7_sorts 48 = .ok (.invokevirtual 195, 3) := by decide +kernel
theorem dX7_sorts_51 : decode cX7_sorts 51 = .ok (.aload_n 0, 1) := by decide +kernel
theorem dX7_sorts_52 : decode cX7_sorts 52 = .ok (.getfield 12, 3) := by decide +kernel
theorem dX7_sorts_55 : decode cX7_sorts 55 = .ok (.invokevirtual 175, 3) := by decide +kernel
theorem dX7_sorts_58 : decode cX7_sorts 58 = .ok (.iload_n 1, 1) := by decide +kernel
theorem dX7_sorts_59 : decode cX7_sorts 59 = .ok (.invokevirtual 195, 3) := by decide +kernel
theorem dX7_sorts_62 : decode cX7_sorts 62 = .ok (.invokestatic 206, 3) := by decide +kernel
theorem dX7_sorts_65 : decode cX7_sorts 65 = .ok (.istore_n 3, 1) := by decide +kernel
theorem dX7_sorts_66 : decode cX7_sorts 66 = .ok (.iconst 0, 1) := by decide +kernel
theorem dX7_sorts_67 : decode cX7_sorts 67 = .ok (.istore 4, 2) := by decide +kernel
theorem dX7_sorts_69 : decode cX7_sorts 69 = .ok (.iconst 0, 1) := by decide +kernel
theorem dX7_sorts_70 : decode cX7_sorts 70 = .ok (.istore 5, 2) := by decide +kernel
theorem dX7_sorts_72 : decode cX7_sorts 72 = .ok (.iload 5, 2) := by decide +kernel
theorem dX7_sorts_74 : decode cX7_sorts 74 = .ok (.iconst 5, 1) := by decide +kernel
theorem dX7_sorts_75 : decode cX7_sorts 75 = .ok (.if_icmp .ge 42, 3) := by decide +kernel
theorem dX7_sorts_78 : decode cX7_sorts 78 = .ok (.iload 5, 2) := by decide +kernel
theorem dX7_sorts_80 : decode cX7_sorts 80 = .ok (.invokestatic 211, 3) := by decide +kernel
theorem dX7_sorts_83 : decode cX7_sorts 83 = .ok (.istore 6, 2) := by decide +kernel
theorem dX7_sorts_85 : decode cX7_sorts 85 = .ok (.iload 6, 2) := by decide +kernel
theorem dX7_sorts_87 : decode cX7_sorts 87 = .ok (.iload_n 2, 1) := by decide +kernel
theorem dX7_sorts_88 : decode cX7_sorts 88 = .ok (.invokestatic 216, 3) := by decide +kernel
theorem dX7_sorts_91 : decode cX7_sorts 91 = .ok (.iload 6, 2) := by decide +kernel
theorem dX7_sorts_93 : decode cX7_sorts 93 = .ok (.iconst 2, 1) := by decide +kernel
theorem dX7_sorts_94 : decode cX7_sorts 94 = .ok (.idiv, 1) := by decide +kernel
theorem dX7_sorts_95 : decode cX7_sorts 95 = .ok (.iload_n 3, 1) := by decide +kernel
theorem dX7_sorts_96 : decode cX7_sorts 96 = .ok (.invokestatic 216, 3) := by decide +kernel
theorem dX7_sorts_99 : decode cX7_sorts 99 = .ok (.if_icmp .ge 12, 3) := by decide +kernel
theorem dX7_sorts_102 : decode cX7_sorts 102 = .ok (.iload 4, 2) := by decide +kernel
theorem dX7_sorts_104 : decode cX7_sorts 104 = .ok (.iconst 1, 1) := by decide +kernel
theorem dX7_sorts_105 : decode cX7_sorts 105 = .ok (.iload 5, 2) := by decide +kernel
theorem dX7_sorts_107 : decode cX7_sorts 107 = .ok (.ishl, 1) := by decide +kernel
theorem dX7_sorts_108 : decode cX7_sorts 108 = .ok (.ior, 1) := by decide +kernel
theorem dX7_sorts_109 : decode cX7_sorts 109 = .ok (.istore 4, 2) := by decide +kernel
theorem dX7_sorts_111 : decode cX7_sorts 111 = .ok (.iinc 5 1, 3) := by decide +kernel
theorem dX7_sorts_114 : decode cX7_sorts 114 = .ok (.goto (-42), 3) := by decide +kernel
theorem dX7_sorts_117 : decode cX7_sorts 117 = .ok (.iload 4, 2) := by decide +kernel
theorem dX7_sorts_119 : decode cX7_sorts 119 = .ok (.ireturn, 1) := by decide +kernel
theorem dX7_uneven_0 : decode cX7_uneven 0 = .ok (.aload_n 0, 1) := by decide +kernel
theorem dX7_uneven_1 : decode cX7_uneven 1 = .ok (.invokevirtual 122, 3) := by decide +kernel
theorem dX7_uneven_4 : decode cX7_uneven 4 = .ok (.ifCond .ne 6, 3) := by decide +kernel
theorem dX7_uneven_7 : decode cX7_uneven 7 = .ok (.bipush (-3), 2) := by decide +kernel
theorem dX7_uneven_9 : decode cX7_uneven 9 = .ok (.ireturn, 1) := by decide +kernel
theorem dX7_uneven_10 : decode cX7_uneven 10 = .ok (.iload_n 1, 1) := by decide +kernel
theorem dX7_uneven_11 : decode cX7_uneven 11 = .ok (.invokestatic 115, 3) := by decide +kernel
theorem dX7_uneven_14 : decode cX7_uneven 14 = .ok (.ifCond .eq 20, 3) := by decide +kernel
theorem dX7_uneven_17 : decode cX7_uneven 17 = .ok (.iload_n 2, 1) := by decide +kernel
theorem dX7_uneven_18 : decode cX7_uneven 18 = .ok (.invokestatic 115, 3) := by decide +kernel
theorem dX7_uneven_21 : decode cX7_uneven 21 = .ok (.ifCond .eq 13, 3) := by decide +kernel
theorem dX7_uneven_24 : decode cX7_uneven 24 = .ok (.iload_n 3, 1) := by decide +kernel
theorem dX7_uneven_25 : decode cX7_uneven 25 = .ok (.iconst 0, 1) := by decide +kernel
theorem dX7_uneven_26 : decode cX7_uneven 26 = .ok (.bipush 11, 2) := by decide +kernel
theorem dX7_uneven_28 : decode cX7_uneven 28 = .ok (.invokestatic 52, 3) := by decide +kernel
theorem dX7_uneven_31 : decode cX7_uneven 31 = .ok (.ifCond .ne 6, 3) := by decide +kernel
theorem dX7_uneven_34 : decode cX7_uneven 34 = .ok (.bipush (-2), 2) := by decide +kernel
theorem dX7_uneven_36 : decode cX7_uneven 36 = .ok (.ireturn, 1) := by decide +kernel
theorem dX7_uneven_37 : decode cX7_uneven 37 = .ok (.aload_n 0, 1) := by decide +kernel
theorem dX7_uneven_38 : decode cX7_uneven 38 = .ok (.iload_n 1, 1) := by decide +kernel
theorem dX7_uneven_39 : decode cX7_uneven 39 = .ok (.iload_n 2, 1) := by decide +kernel
theorem dX7_uneven_40 : decode cX7_uneven 40 = .ok (.iload_n 3, 1) := by decide +kernel
theorem dX7_uneven_41 : decode cX7_uneven 41 = .ok (.invokevirtual 219, 3) := by decide +kernel
theorem dX7_uneven_44 : decode cX7_uneven 44 = .ok (.ireturn, 1) := by decide +kernel
theorem dX7_evenest_0 : decode cX7_evenest 0 = .ok (.aload_n 0, 1) := by decide +kernel
theorem dX7_evenest_1 : decode cX7_evenest 1 = .ok (.invokevirtual 122, 3) := by decide +kernel
theorem dX7_evenest_4 : decode cX7_evenest 4 = .ok (.ifCond .ne 6, 3) := by decide +kernel
theorem dX7_evenest_7 : decode cX7_evenest 7 = .ok (.bipush (-3), 2) := by decide +kernel
theorem dX7_evenest_9 : decode cX7_evenest 9 = .ok (.ireturn, 1) := by decide +kernel
theorem dX7_evenest_10 : decode cX7_evenest 10 = .ok (.iload_n 1, 1) := by decide +kernel
theorem dX7_evenest_11 : decode cX7_evenest 11 = .ok (.invokestatic 115, 3) := by decide +kernel
theorem dX7_evenest_14 : decode cX7_evenest 14 = .ok (.ifCond .eq 10, 3) := by decide +kernel
theorem dX7_evenest_17 : decode cX7_evenest 17 = .ok (.iload_n 2, 1) := by decide +kernel
theorem dX7_evenest_18 : decode cX7_evenest 18 = .ok (.invokestatic 115, 3) := by decide +kernel
theorem dX7_evenest_21 : decode cX7_evenest 21 = .ok (.ifCond .ne 6, 3) := by decide +kernel
theorem dX7_evenest_24 : decode cX7_evenest 24 = .ok (.bipush (-2), 2) := by decide +kernel
theorem dX7_evenest_26 : decode cX7_evenest 26 = .ok (.ireturn, 1) := by decide +kernel
theorem dX7_evenest_27 : decode cX7_evenest 27 = .ok (.iconst 0, 1) := by decide +kernel
theorem dX7_evenest_28 : decode cX7_evenest 28 = .ok (.istore_n 3, 1) := by decide +kernel
theorem dX7_evenest_29 : decode cX7_evenest 29 = .ok (.aload_n 0, 1) := by decide +kernel
theorem dX7_evenest_30 : decode cX7_evenest 30 = .ok (.iload_n 1, 1) := by decide +kernel
theorem dX7_evenest_31 : decode cX7_evenest 31 = .ok (.iload_n 2, 1) := by decide +kernel
theorem dX7_evenest_32 : decode cX7_evenest 32 = .ok (.iconst 0, 1) := by decide +kernel
theorem dX7_evenest_33 : decode cX7_evenest 33 = .ok (.invokevirtual 219, 3) := by decide +kernel
theorem dX7_evenest_36 : decode cX7_evenest 36 = .ok (.istore 4, 2) := by decide +kernel
theorem dX7_evenest_38 : decode cX7_evenest 38 = .ok (.iconst 1, 1) := by decide +kernel
theorem dX7_evenest_39 : decode cX7_evenest 39 = .ok (.istore 5, 2) := by decide +kernel
theorem dX7_evenest_41 : decode cX7_evenest 41 = .ok (.iload 5, 2) := by decide +kernel
theorem dX7_evenest_43 : decode cX7_evenest 43 = .ok (.bipush 12, 2) := by decide +kernel
theorem dX7_evenest_45 : decode cX7_evenest 45 = .ok (.if_icmp .ge 33, 3) := by decide +kernel
theorem dX7_evenest_48 : decode cX7_evenest 48 = .ok (.aload_n 0, 1) := by decide +kernel
theorem dX7_evenest_49 : decode cX7_evenest 49 = .ok (.iload_n 1, 1) := by decide +kernel
theorem dX7_evenest_50 : decode cX7_evenest 50 = .ok (.iload_n 2, 1) := by decide +kernel
theorem dX7_evenest_51 : decode cX7_evenest 51 = .ok (.iload 5, 2) := by decide +kernel
theorem dX7_evenest_53 : decode cX7_evenest 53 = .ok (.invokevirtual 219, 3) := by decide +kernel
theorem dX7_evenest_56 : decode cX7_evenest 56 = .ok (.istore 6, 2) := by decide +kernel
theorem dX7_evenest_58 : decode cX7_evenest 58 = .ok (.iload 6, 2) := by decide +kernel
theorem dX7_evenest_60 : decode cX7_evenest 60 = .ok (.iload 4, 2) := by decide +kernel
theorem dX7_evenest_62 : decode cX7_evenest 62 = .ok (.if_icmp .ge 10, 3) := by decide +kernel
theorem dX7_evenest_65 : decode cX7_evenest 65 = .ok (.iload 6, 2) := by decide +kernel
theorem dX7_evenest_67 : decode cX7_evenest 67 = .ok (.istore 4, 2) := by decide +kernel
theorem dX7_evenest_69 : decode cX7_evenest 69 = .ok (.iload 5, 2) := by decide +kernel
theorem dX7_evenest_71 : decode cX7_evenest 71 = .ok (.istore_n 3, 1) := by decide +kernel
theorem dX7_evenest_72 : decode cX7_evenest 72 = .ok (.iinc 5 1, 3) := by decide +kernel
theorem dX7_evenest_75 : decode cX7_evenest 75 = .ok (.goto (-34), 3) := by decide +kernel
theorem dX7_evenest_78 : decode cX7_evenest 78 = .ok (.iload_n 3, 1) := by decide +kernel
theorem dX7_evenest_79 : decode cX7_evenest 79 = .ok (.ireturn, 1) := by decide +kernel
theorem dX7_calls_0 : decode cX7_calls 0 = .ok (.iload_n 1, 1) := by decide +kernel
theorem dX7_calls_1 : decode cX7_calls 1 = .ok (.iconst 0, 1) := by decide +kernel
theorem dX7_calls_2 : decode cX7_calls 2 = .ok (.bipush 20, 2) := by decide +kernel
theorem dX7_calls_4 : decode cX7_calls 4 = .ok (.invokestatic 52, 3) := by decide +kernel
theorem dX7_calls_7 : decode cX7_calls 7 = .ok (.ifCond .eq 12, 3) := by decide +kernel
theorem dX7_calls_10 : decode cX7_calls 10 = .ok (.iload_n 2, 1) := by decide +kernel
theorem dX7_calls_11 : decode cX7_calls 11 = .ok (.iconst 0, 1) := by decide +kernel
theorem dX7_calls_12 : decode cX7_calls 12 = .ok (.iconst 1, 1) := by decide +kernel
theorem dX7_calls_13 : decode cX7_calls 13 = .ok (.invokestatic 52, 3) := by decide +kernel
theorem dX7_calls_16 : decode cX7_calls 16 = .ok (.ifCond .ne 6, 3) := by decide +kernel
theorem dX7_calls_19 : decode cX7_calls 19 = .ok (.bipush (-2), 2) := by decide +kernel
theorem dX7_calls_21 : decode cX7_calls 21 = .ok (.ireturn, 1) := by decide +kernel
theorem dX7_calls_22 : decode cX7_calls 22 = .ok (.aload_n 0, 1) := by decide +kernel
theorem dX7_calls_23 : decode cX7_calls 23 = .ok (.getfield 12, 3) := by decide +kernel
theorem dX7_calls_26 : decode cX7_calls 26 = .ok (.invokevirtual 222, 3) := by decide +kernel
theorem dX7_calls_29 : decode cX7_calls 29 = .ok (.aload_n 0, 1) := by decide +kernel
theorem dX7_calls_30 : decode cX7_calls 30 = .ok (.getfield 12, 3) := by decide +kernel
theorem dX7_calls_33 : decode cX7_calls 33 = .ok (.invokevirtual 225, 3) := by decide +kernel
theorem dX7_calls_36 : decode cX7_calls 36 = .ok (.iadd, 1) := by decide +kernel
theorem dX7_calls_37 : decode cX7_calls 37 = .ok (.bipush 12, 2) := by decide +kernel
theorem dX7_calls_39 : decode cX7_calls 39 = .ok (.if_icmp .le 6, 3) := by decide +kernel
theorem dX7_calls_42 : decode cX7_calls 42 = .ok (.bipush (-4), 2) := by decide +kernel
theorem dX7_calls_44 : decode cX7_calls 44 = .ok (.ireturn, 1) := by decide +kernel
theorem dX7_calls_45 : decode cX7_calls 45 = .ok (.aload_n 0, 1) := by decide +kernel
theorem dX7_calls_46 : decode cX7_calls 46 = .ok (.getfield 48, 3) := by decide +kernel
theorem dX7_calls_49 : decode cX7_calls 49 = .ok (.aload_n 0, 1) := by decide +kernel
theorem dX7_calls_50 : decode cX7_calls 50 = .ok (.getfield 12, 3) := by decide +kernel
theorem dX7_calls_53 : decode cX7_calls 53 = .ok (.iload_n 1, 1) := by decide +kernel
theorem dX7_calls_54 : decode cX7_calls 54 = .ok (.invokevirtual 228, 3) := by decide +kernel
theorem dX7_calls_57 : decode cX7_calls 57 = .ok (.istore_n 3, 1) := by decide +kernel
theorem dX7_calls_58 : decode cX7_calls 58 = .ok (.iload_n 2, 1) := by decide +kernel
theorem dX7_calls_59 : decode cX7_calls 59 = .ok (.ifCond .ne 10, 3) := by decide +kernel
theorem dX7_calls_62 : decode cX7_calls 62 = .ok (.iload_n 3, 1) := by decide +kernel
theorem dX7_calls_63 : decode cX7_calls 63 = .ok (.bipush 24, 2) := by decide +kernel
theorem dX7_calls_65 : decode cX7_calls 65 = .ok (.ishr, 1) := by decide +kernel
theorem dX7_calls_66 : decode cX7_calls 66 = .ok (.goto 7, 3) := by decide +kernel
theorem dX7_calls_69 : decode cX7_calls 69 = .ok (.iload_n 3, 1) := by decide +kernel
theorem dX7_calls_70 : decode cX7_calls 70 = .ok (.ldc 232, 2) := by decide +kernel
theorem dX7_calls_72 : decode cX7_calls 72 = .ok (.iand, 1) := by decide +kernel
theorem dX7_calls_73 : decode cX7_calls 73 = .ok (.ireturn, 1) := by decide +kernel
theorem dX7_worth_0 : decode cX7_worth 0 = .ok (.aload_n 0, 1) := by decide +kernel
theorem dX7_worth_1 : decode cX7_worth 1 = .ok (.invokevirtual 122, 3) := by decide +kernel
theorem dX7_worth_4 : decode cX7_worth 4 = .ok (.ifCond .ne 6, 3) := by decide +kernel
theorem dX7_worth_7 : decode cX7_worth 7 = .ok (.bipush (-3), 2) := by decide +kernel
theorem dX7_worth_9 : decode cX7_worth 9 = .ok (.ireturn, 1) := by decide +kernel
theorem dX7_worth_10 : decode cX7_worth 10 = .ok (.aload_n 0, 1) := by decide +kernel
theorem dX7_worth_11 : decode cX7_worth 11 = .ok (.getfield 34, 3) := by decide +kernel
theorem dX7_worth_14 : decode cX7_worth 14 = .ok (.aload_n 0, 1) := by decide +kernel
theorem dX7_worth_15 : decode cX7_worth 15 = .ok (.getfield 27, 3) := by decide +kernel
theorem dX7_worth_18 : decode cX7_worth 18 = .ok (.aload_n 0, 1) := by decide +kernel
theorem dX7_worth_19 : decode cX7_worth 19 = .ok (.getfield 12, 3) := by decide +kernel
theorem dX7_worth_22 : decode cX7_worth 22 = .ok (.getfield 104, 3) := by decide +kernel
theorem dX7_worth_25 : decode cX7_worth 25 = .ok (.invokevirtual 107, 3) := by decide +kernel
theorem dX7_worth_28 : decode cX7_worth 28 = .ok (.bipush (-6), 2) := by decide +kernel
theorem dX7_worth_30 : decode cX7_worth 30 = .ok (.if_icmp .ne 20, 3) := by decide +kernel
theorem dX7_worth_33 : decode cX7_worth 33 = .ok (.aload_n 0, 1) := by decide +kernel
theorem dX7_worth_34 : decode cX7_worth 34 = .ok (.getfield 34, 3) := by decide +kernel
theorem dX7_worth_37 : decode cX7_worth 37 = .ok (.aload_n 0, 1) := by decide +kernel
theorem dX7_worth_38 : decode cX7_worth 38 = .ok (.getfield 12, 3) := by decide +kernel
theorem dX7_worth_41 : decode cX7_worth 41 = .ok (.getfield 104, 3) := by decide +kernel
theorem dX7_worth_44 : decode cX7_worth 44 = .ok (.invokevirtual 233, 3) := by decide +kernel
theorem dX7_worth_47 : decode cX7_worth 47 = .ok (.ifCond .eq 6, 3) := by decide +kernel
theorem dX7_worth_50 : decode cX7_worth 50 = .ok (.bipush (-5), 2) := by decide +kernel
theorem dX7_worth_52 : decode cX7_worth 52 = .ok (.ireturn, 1) := by decide +kernel
theorem dX7_worth_53 : decode cX7_worth 53 = .ok (.aload_n 0, 1) := by decide +kernel
theorem dX7_worth_54 : decode cX7_worth 54 = .ok (.getfield 41, 3) := by decide +kernel
theorem dX7_worth_57 : decode cX7_worth 57 = .ok (.aload_n 0, 1) := by decide +kernel
theorem dX7_worth_58 : decode cX7_worth 58 = .ok (.getfield 12, 3) := by decide +kernel
theorem dX7_worth_61 : decode cX7_worth 61 = .ok (.aload_n 0, 1) := by decide +kernel
theorem dX7_worth_62 : decode cX7_worth 62 = .ok (.getfield 34, 3) := by decide +kernel
theorem dX7_worth_65 : decode cX7_worth 65 = .ok (.iconst (-1), 1) := by decide +kernel
theorem dX7_worth_66 : decode cX7_worth 66 = .ok (.invokevirtual 126, 3) := by decide +kernel
theorem dX7_worth_69 : decode cX7_worth 69 = .ok (.aload_n 0, 1) := by decide +kernel
theorem dX7_worth_70 : decode cX7_worth 70 = .ok (.getfield 41, 3) := by decide +kernel
theorem dX7_worth_73 : decode cX7_worth 73 = .ok (.getfield 130, 3) := by decide +kernel
theorem dX7_worth_76 : decode cX7_worth 76 = .ok (.istore_n 1, 1) := by decide +kernel
theorem dX7_worth_77 : decode cX7_worth 77 = .ok (.iconst 0, 1) := by decide +kernel
theorem dX7_worth_78 : decode cX7_worth 78 = .ok (.istore_n 2, 1) := by decide +kernel
theorem dX7_worth_79 : decode cX7_worth 79 = .ok (.iload_n 2, 1) := by decide +kernel
theorem dX7_worth_80 : decode cX7_worth 80 = .ok (.iload_n 1, 1) := by decide +kernel
theorem dX7_worth_81 : decode cX7_worth 81 = .ok (.if_icmp .gt 39, 3) := by decide +kernel
theorem dX7_worth_84 : decode cX7_worth 84 = .ok (.aload_n 0, 1) := by decide +kernel
theorem dX7_worth_85 : decode cX7_worth 85 = .ok (.getfield 41, 3) := by decide +kernel
theorem dX7_worth_88 : decode cX7_worth 88 = .ok (.aload_n 0, 1) := by decide +kernel
theorem dX7_worth_89 : decode cX7_worth 89 = .ok (.getfield 12, 3) := by decide +kernel
theorem dX7_worth_92 : decode cX7_worth 92 = .ok (.aload_n 0, 1) := by decide +kernel
theorem dX7_worth_93 : decode cX7_worth 93 = .ok (.getfield 34, 3) := by decide +kernel
theorem dX7_worth_96 : decode cX7_worth 96 = .ok (.iload_n 2, 1) := by decide +kernel
theorem dX7_worth_97 : decode cX7_worth 97 = .ok (.invokevirtual 126, 3) := by decide +kernel
theorem dX7_worth_100 : decode cX7_worth 100 = .ok (.aload_n 0, 1) := by decide +kernel
theorem dX7_worth_101 : decode cX7_worth 101 = .ok (.getfield 41, 3) := by decide +kernel
theorem dX7_worth_104 : decode cX7_worth 104 = .ok (.getfield 130, 3) := by decide +kernel
theorem dX7_worth_107 : decode cX7_worth 107 = .ok (.bipush (-6), 2) := by decide +kernel
theorem dX7_worth_109 : decode cX7_worth 109 = .ok (.if_icmp .ne 5, 3) := by decide +kernel
theorem dX7_worth_112 : decode cX7_worth 112 = .ok (.iload_n 2, 1) := by decide +kernel
theorem dX7_worth_113 : decode cX7_worth 113 = .ok (.ireturn, 1) := by decide +kernel
theorem dX7_worth_114 : decode cX7_worth 114 = .ok (.iinc 2 1, 3) := by decide +kernel
theorem dX7_worth_117 : decode cX7_worth 117 = .ok (.goto (-38), 3) := by decide +kernel
theorem dX7_worth_120 : decode cX7_worth 120 = .ok (.bipush (-6), 2) := by decide +kernel
theorem dX7_worth_122 : decode cX7_worth 122 = .ok (.ireturn, 1) := by decide +kernel
theorem dX7_bestPair_0 : decode cX7_bestPair 0 = .ok (.iload_n 1, 1) := by decide +kernel
theorem dX7_bestPair_1 : decode cX7_bestPair 1 = .ok (.iconst 0, 1) := by decide +kernel
theorem dX7_bestPair_2 : decode cX7_bestPair 2 = .ok (.iconst 1, 1) := by decide +kernel
theorem dX7_bestPair_3 : decode cX7_bestPair 3 = .ok (.invokestatic 52, 3) := by decide +kernel
theorem dX7_bestPair_6 : decode cX7_bestPair 6 = .ok (.ifCond .ne 6, 3) := by decide +kernel
theorem dX7_bestPair_9 : decode cX7_bestPair 9 = .ok (.bipush (-2), 2) := by decide +kernel
theorem dX7_bestPair_11 : decode cX7_bestPair 11 = .ok (.ireturn, 1) := by decide +kernel
theorem dX7_bestPair_12 : decode cX7_bestPair 12 = .ok (.bipush (-6), 2) := by decide +kernel
theorem dX7_bestPair_14 : decode cX7_bestPair 14 = .ok (.istore_n 2, 1) := by decide +kernel
theorem dX7_bestPair_15 : decode cX7_bestPair 15 = .ok (.bipush (-6), 2) := by decide +kernel
theorem dX7_bestPair_17 : decode cX7_bestPair 17 = .ok (.istore_n 3, 1) := by decide +kernel
theorem dX7_bestPair_18 : decode cX7_bestPair 18 = .ok (.iconst 0, 1) := by decide +kernel
theorem dX7_bestPair_19 : decode cX7_bestPair 19 = .ok (.istore 4, 2) := by decide +kernel
theorem dX7_bestPair_21 : decode cX7_bestPair 21 = .ok (.iload 4, 2) := by decide +kernel
theorem dX7_bestPair_23 : decode cX7_bestPair 23 = .ok (.iconst 4, 1) := by decide +kernel
theorem dX7_bestPair_24 : decode cX7_bestPair 24 = .ok (.if_icmp .ge 119, 3) := by decide +kernel
theorem dX7_bestPair_27 : decode cX7_bestPair 27 = .ok (.iload 4, 2) := by decide +kernel
theorem dX7_bestPair_29 : decode cX7_bestPair 29 = .ok (.iconst 1, 1) := by decide +kernel
theorem dX7_bestPair_30 : decode cX7_bestPair 30 = .ok (.iadd, 1) := by decide +kernel
theorem dX7_bestPair_31 : decode cX7_bestPair 31 = .ok (.istore 5, 2) := by decide +kernel
theorem dX7_bestPair_33 : decode cX7_bestPair 33 = .ok (.iload 5, 2) := by decide +kernel
theorem dX7_bestPair_35 : decode cX7_bestPair 35 = .ok (.iconst 4, 1) := by decide +kernel
theorem dX7_bestPair_36 : decode cX7_bestPair 36 = .ok (.if_icmp .ge 101, 3) := by decide +kernel
theorem dX7_bestPair_39 : decode cX7_bestPair 39 = .ok (.aload_n 0, 1) := by decide +kernel
theorem dX7_bestPair_40 : decode cX7_bestPair 40 = .ok (.getfield 12, 3) := by decide +kernel
theorem dX7_bestPair_43 : decode cX7_bestPair 43 = .ok (.iload 4, 2) := by decide +kernel
theorem dX7_bestPair_45 : decode cX7_bestPair 45 = .ok (.invokevirtual 70, 3) := by decide +kernel
theorem dX7_bestPair_48 : decode cX7_bestPair 48 = .ok (.ifCond .eq 83, 3) := by decide +kernel
theorem dX7_bestPair_51 : decode cX7_bestPair 51 = .ok (.aload_n 0, 1) := by decide +kernel
theorem dX7_bestPair_52 : decode cX7_bestPair 52 = .ok (.getfield 12, 3) := by decide +kernel
theorem dX7_bestPair_55 : decode cX7_bestPair 55 = .ok (.iload 5, 2) := by decide +kernel
theorem dX7_bestPair_57 : decode cX7_bestPair 57 = .ok (.invokevirtual 70, 3) := by decide +kernel
theorem dX7_bestPair_60 : decode cX7_bestPair 60 = .ok (.ifCond .ne 6, 3) := by decide +kernel
theorem dX7_bestPair_63 : decode cX7_bestPair 63 = .ok (.goto 68, 3) := by decide +kernel
theorem dX7_bestPair_66 : decode cX7_bestPair 66 = .ok (.aload_n 0, 1) := by decide +kernel
theorem dX7_bestPair_67 : decode cX7_bestPair 67 = .ok (.getfield 48, 3) := by decide +kernel
theorem dX7_bestPair_70 : decode cX7_bestPair 70 = .ok (.aload_n 0, 1) := by decide +kernel
theorem dX7_bestPair_71 : decode cX7_bestPair 71 = .ok (.getfield 12, 3) := by decide +kernel
theorem dX7_bestPair_74 : decode cX7_bestPair 74 = .ok (.aload_n 0, 1) := by decide +kernel
theorem dX7_bestPair_75 : decode cX7_bestPair 75 = .ok (.getfield 12, 3) := by decide +kernel
theorem dX7_bestPair_78 : decode cX7_bestPair 78 = .ok (.getfield 56, 3) := by decide +kernel
theorem dX7_bestPair_81 : decode cX7_bestPair 81 = .ok (.iload 4, 2) := by decide +kernel
theorem dX7_bestPair_83 : decode cX7_bestPair 83 = .ok (.aaload, 1) := by decide +kernel
theorem dX7_bestPair_84 : decode cX7_bestPair 84 = .ok (.aload_n 0, 1) := by decide +kernel
theorem dX7_bestPair_85 : decode cX7_bestPair 85 = .ok (.getfield 12, 3) := by decide +kernel
theorem dX7_bestPair_88 : decode cX7_bestPair 88 = .ok (.getfield 56, 3) := by decide +kernel
theorem dX7_bestPair_91 : decode cX7_bestPair 91 = .ok (.iload 5, 2) := by decide +kernel
theorem dX7_bestPair_93 : decode cX7_bestPair 93 = .ok (.aaload, 1) := by decide +kernel
theorem dX7_bestPair_94 : decode cX7_bestPair 94 = .ok (.invokevirtual 178, 3) := by decide +kernel
theorem dX7_bestPair_97 : decode cX7_bestPair 97 = .ok (.iload_n 2, 1) := by decide +kernel
theorem dX7_bestPair_98 : decode cX7_bestPair 98 = .ok (.bipush (-6), 2) := by decide +kernel
theorem dX7_bestPair_100 : decode cX7_bestPair 100 = .ok (.if_icmp .eq 14, 3) := by decide +kernel
theorem dX7_bestPair_103 : decode cX7_bestPair 103 = .ok (.aload_n 0, 1) := by decide +kernel
theorem dX7_bestPair_104 : decode cX7_bestPair 104 = .ok (.getfield 48, 3) := by decide +kernel
theorem dX7_bestPair_107 : decode cX7_bestPair 107 = .ok (.getfield 182, 3) := by decide +kernel
theorem dX7_bestPair_110 : decode cX7_bestPair 110 = .ok (.iload_n 3, 1) := by decide +kernel
theorem dX7_bestPair_111 : decode cX7_bestPair 111 = .ok (.if_icmp .ge 20, 3) := by decide +kernel
theorem dX7_bestPair_114 : decode cX7_bestPair 114 = .ok (.bipush 10, 2) := by decide +kernel
theorem dX7_bestPair_116 : decode cX7_bestPair 116 = .ok (.iload 4, 2) := by decide +kernel
theorem dX7_bestPair_118 : decode cX7_bestPair 118 = .ok (.imul, 1) := by decide +kernel
theorem dX7_bestPair_119 : decode cX7_bestPair 119 = .ok (.iload 5, 2) := by decide +kernel
theorem dX7_bestPair_121 : decode cX7_bestPair 121 = .ok (.iadd, 1) := by decide +kernel
theorem dX7_bestPair_122 : decode cX7_bestPair 122 = .ok (.istore_n 2, 1) := by decide +kernel
theorem dX7_bestPair_123 : decode cX7_bestPair 123 = .ok (.aload_n 0, 1) := by decide +kernel
theorem dX7_bestPair_124 : decode cX7_bestPair 124 = .ok (.getfield 48, 3) := by decide +kernel
theorem dX7_bestPair_127 : decode cX7_bestPair 127 = .ok (.getfield 182, 3) := by decide +kernel
theorem dX7_bestPair_130 : decode cX7_bestPair 130 = .ok (.istore_n 3, 1) := by decide +kernel
theorem dX7_bestPair_131 : decode cX7_bestPair 131 = .ok (.iinc 5 1, 3) := by decide +kernel
theorem dX7_bestPair_134 : decode cX7_bestPair 134 = .ok (.goto (-101), 3) := by decide +kernel
theorem dX7_bestPair_137 : decode cX7_bestPair 137 = .ok (.iinc 4 1, 3) := by decide +kernel
theorem dX7_bestPair_140 : decode cX7_bestPair 140 = .ok (.goto (-119), 3) := by decide +kernel
theorem dX7_bestPair_143 : decode cX7_bestPair 143 = .ok (.iload_n 1, 1) := by decide +kernel
theorem dX7_bestPair_144 : decode cX7_bestPair 144 = .ok (.ifCond .ne 7, 3) := by decide +kernel
theorem dX7_bestPair_147 : decode cX7_bestPair 147 = .ok (.iload_n 2, 1) := by decide +kernel
theorem dX7_bestPair_148 : decode cX7_bestPair 148 = .ok (.goto 4, 3) := by decide +kernel
theorem dX7_bestPair_151 : decode cX7_bestPair 151 = .ok (.iload_n 3, 1) := by decide +kernel
theorem dX7_bestPair_152 : decode cX7_bestPair 152 = .ok (.ireturn, 1) := by decide +kernel
theorem dX7_quarrel_0 : decode cX7_quarrel 0 = .ok (.aload_n 0, 1) := by decide +kernel
theorem dX7_quarrel_1 : decode cX7_quarrel 1 = .ok (.invokevirtual 122, 3) := by decide +kernel
theorem dX7_quarrel_4 : decode cX7_quarrel 4 = .ok (.ifCond .ne 6, 3) := by decide +kernel
theorem dX7_quarrel_7 : decode cX7_quarrel 7 = .ok (.bipush (-3), 2) := by decide +kernel
theorem dX7_quarrel_9 : decode cX7_quarrel 9 = .ok (.ireturn, 1) := by decide +kernel
theorem dX7_quarrel_10 : decode cX7_quarrel 10 = .ok (.iload_n 1, 1) := by decide +kernel
theorem dX7_quarrel_11 : decode cX7_quarrel 11 = .ok (.iconst 0, 1) := by decide +kernel
theorem dX7_quarrel_12 : decode cX7_quarrel 12 = .ok (.bipush 99, 2) := by decide +kernel
theorem dX7_quarrel_14 : decode cX7_quarrel 14 = .ok (.invokestatic 52, 3) := by decide +kernel
theorem dX7_quarrel_17 : decode cX7_quarrel 17 = .ok (.ifCond .ne 6, 3) := by decide +kernel
theorem dX7_quarrel_20 : decode cX7_quarrel 20 = .ok (.bipush (-2), 2) := by decide +kernel
theorem dX7_quarrel_22 : decode cX7_quarrel 22 = .ok (.ireturn, 1) := by decide +kernel
theorem dX7_quarrel_23 : decode cX7_quarrel 23 = .ok (.aload_n 0, 1) := by decide +kernel
theorem dX7_quarrel_24 : decode cX7_quarrel 24 = .ok (.invokevirtual 136, 3) := by decide +kernel
theorem dX7_quarrel_27 : decode cX7_quarrel 27 = .ok (.ifCond .ne 6, 3) := by decide +kernel
theorem dX7_quarrel_30 : decode cX7_quarrel 30 = .ok (.bipush (-5), 2) := by decide +kernel
theorem dX7_quarrel_32 : decode cX7_quarrel 32 = .ok (.ireturn, 1) := by decide +kernel
theorem dX7_quarrel_33 : decode cX7_quarrel 33 = .ok (.aload_n 0, 1) := by decide +kernel
theorem dX7_quarrel_34 : decode cX7_quarrel 34 = .ok (.aload_n 0, 1) := by decide +kernel
theorem dX7_quarrel_35 : decode cX7_quarrel 35 = .ok (.getfield 12, 3) := by decide +kernel
theorem dX7_quarrel_38 : decode cX7_quarrel 38 = .ok (.invokevirtual 171, 3) := by decide +kernel
theorem dX7_quarrel_41 : decode cX7_quarrel 41 = .ok (.aload_n 0, 1) := by decide +kernel
theorem dX7_quarrel_42 : decode cX7_quarrel 42 = .ok (.getfield 41, 3) := by decide +kernel
theorem dX7_quarrel_45 : decode cX7_quarrel 45 = .ok (.getfield 158, 3) := by decide +kernel
theorem dX7_quarrel_48 : decode cX7_quarrel 48 = .ok (.invokevirtual 236, 3) := by decide +kernel
theorem dX7_quarrel_51 : decode cX7_quarrel 51 = .ok (.istore_n 2, 1) := by decide +kernel
theorem dX7_quarrel_52 : decode cX7_quarrel 52 = .ok (.aload_n 0, 1) := by decide +kernel
theorem dX7_quarrel_53 : decode cX7_quarrel 53 = .ok (.aload_n 0, 1) := by decide +kernel
theorem dX7_quarrel_54 : decode cX7_quarrel 54 = .ok (.getfield 12, 3) := by decide +kernel
theorem dX7_quarrel_57 : decode cX7_quarrel 57 = .ok (.invokevirtual 175, 3) := by decide +kernel
theorem dX7_quarrel_60 : decode cX7_quarrel 60 = .ok (.aload_n 0, 1) := by decide +kernel
theorem dX7_quarrel_61 : decode cX7_quarrel 61 = .ok (.getfield 41, 3) := by decide +kernel
theorem dX7_quarrel_64 : decode cX7_quarrel 64 = .ok (.getfield 161, 3) := by decide +kernel
theorem dX7_quarrel_67 : decode cX7_quarrel 67 = .ok (.invokevirtual 236, 3) := by decide +kernel
theorem dX7_quarrel_70 : decode cX7_quarrel 70 = .ok (.istore_n 3, 1) := by decide +kernel
theorem dX7_quarrel_71 : decode cX7_quarrel 71 = .ok (.iconst 0, 1) := by decide +kernel
theorem dX7_quarrel_72 : decode cX7_quarrel 72 = .ok (.iload_n 2, 1) := by decide +kernel
theorem dX7_quarrel_73 : decode cX7_quarrel 73 = .ok (.iload_n 3, 1) := by decide +kernel
theorem dX7_quarrel_74 : decode cX7_quarrel 74 = .ok (.iadd, 1) := by decide +kernel
theorem dX7_quarrel_75 : decode cX7_quarrel 75 = .ok (.bipush 100, 2) := by decide +kernel
theorem dX7_quarrel_77 : decode cX7_quarrel 77 = .ok (.isub, 1) := by decide +kernel
theorem dX7_quarrel_78 : decode cX7_quarrel 78 = .ok (.invokestatic 206, 3) := by decide +kernel
theorem dX7_quarrel_81 : decode cX7_quarrel 81 = .ok (.istore 4, 2) := by decide +kernel
theorem dX7_quarrel_83 : decode cX7_quarrel 83 = .ok (.iconst 0, 1) := by decide +kernel
theorem dX7_quarrel_84 : decode cX7_quarrel 84 = .ok (.istore 5, 2) := by decide +kernel
theorem dX7_quarrel_86 : decode cX7_quarrel 86 = .ok (.iconst 0, 1) := by decide +kernel
theorem dX7_quarrel_87 : decode cX7_quarrel 87 = .ok (.istore 6, 2) := by decide +kernel
theorem dX7_quarrel_89 : decode cX7_quarrel 89 = .ok (.iload 6, 2) := by decide +kernel
theorem dX7_quarrel_91 : decode cX7_quarrel 91 = .ok (.iload_n 1, 1) := by decide +kernel
theorem dX7_quarrel_92 : decode cX7_quarrel 92 = .ok (.if_icmp .ge 34, 3) := by decide +kernel
theorem dX7_quarrel_95 : decode cX7_quarrel 95 = .ok (.sipush 999, 3) := by decide +kernel
theorem dX7_quarrel_98 : decode cX7_quarrel 98 = .ok (.iconst 0, 1) := by decide +kernel
theorem dX7_quarrel_99 : decode cX7_quarrel 99 = .ok (.iload 5, 2) := by decide +kernel
theorem dX7_quarrel_101 : decode cX7_quarrel 101 = .ok (.iload 4, 2) := by decide +kernel
theorem dX7_quarrel_103 : decode cX7_quarrel 103 = .ok (.iadd, 1) := by decide +kernel
theorem dX7_quarrel_104 : decode cX7_quarrel 104 = .ok (.aload_n 0, 1) := by decide +kernel
theorem dX7_quarrel_105 : decode cX7_quarrel 105 = .ok (.getfield 12, 3) := by decide +kernel
theorem dX7_quarrel_108 : decode cX7_quarrel 108 = .ok (.getfield 91, 3) := by decide +kernel
theorem dX7_quarrel_111 : decode cX7_quarrel 111 = .ok (.isub, 1) := by decide +kernel
theorem dX7_quarrel_112 : decode cX7_quarrel 112 = .ok (.invokestatic 206, 3) := by decide +kernel
theorem dX7_quarrel_115 : decode cX7_quarrel 115 = .ok (.invokestatic 240, 3) := by decide +kernel
theorem dX7_quarrel_118 : decode cX7_quarrel 118 = .ok (.istore 5, 2) := by decide +kernel
theorem dX7_quarrel_120 : decode cX7_quarrel 120 = .ok (.iinc 6 1, 3) := by decide +kernel
theorem dX7_quarrel_123 : decode cX7_quarrel 123 = .ok (.goto (-34), 3) := by decide +kernel
theorem dX7_quarrel_126 : decode cX7_quarrel 126 = .ok (.iload 5, 2) := by decide +kernel
theorem dX7_quarrel_128 : decode cX7_quarrel 128 = .ok (.ireturn, 1) := by decide +kernel
theorem dX7_home_0 : decode cX7_home 0 = .ok (.aload_n 0, 1) := by decide +kernel
theorem dX7_home_1 : decode cX7_home 1 = .ok (.invokevirtual 122, 3) := by decide +kernel
theorem dX7_home_4 : decode cX7_home 4 = .ok (.ifCond .ne 7, 3) := by decide +kernel
theorem dX7_home_7 : decode cX7_home 7 = .ok (.ldc2_w 152, 3) := by decide +kernel
theorem dX7_home_10 : decode cX7_home 10 = .ok (.lreturn, 1) := by decide +kernel
theorem dX7_home_11 : decode cX7_home 11 = .ok (.iload_n 1, 1) := by decide +kernel
theorem dX7_home_12 : decode cX7_home 12 = .ok (.iconst 0, 1) := by decide +kernel
theorem dX7_home_13 : decode cX7_home 13 = .ok (.bipush 10, 2) := by decide +kernel
theorem dX7_home_15 : decode cX7_home 15 = .ok (.invokestatic 52, 3) := by decide +kernel
theorem dX7_home_18 : decode cX7_home 18 = .ok (.ifCond .eq 14, 3) := by decide +kernel
theorem dX7_home_21 : decode cX7_home 21 = .ok (.iload_n 2, 1) := by decide +kernel
theorem dX7_home_22 : decode cX7_home 22 = .ok (.iconst 0, 1) := by decide +kernel
theorem dX7_home_23 : decode cX7_home 23 = .ok (.sipush 9999, 3) := by decide +kernel
theorem dX7_home_26 : decode cX7_home 26 = .ok (.invokestatic 52, 3) := by decide +kernel
theorem dX7_home_29 : decode cX7_home 29 = .ok (.ifCond .ne 7, 3) := by decide +kernel
theorem dX7_home_32 : decode cX7_home 32 = .ok (.ldc2_w 154, 3) := by decide +kernel
theorem dX7_home_35 : decode cX7_home 35 = .ok (.lreturn, 1) := by decide +kernel
theorem dX7_home_36 : decode cX7_home 36 = .ok (.iload_n 3, 1) := by decide +kernel
theorem dX7_home_37 : decode cX7_home 37 = .ok (.iconst 0, 1) := by decide +kernel
theorem dX7_home_38 : decode cX7_home 38 = .ok (.iconst 1, 1) := by decide +kernel
theorem dX7_home_39 : decode cX7_home 39 = .ok (.invokestatic 52, 3) := by decide +kernel
theorem dX7_home_42 : decode cX7_home 42 = .ok (.ifCond .ne 7, 3) := by decide +kernel
theorem dX7_home_45 : decode cX7_home 45 = .ok (.ldc2_w 154, 3) := by decide +kernel
theorem dX7_home_48 : decode cX7_home 48 = .ok (.lreturn, 1) := by decide +kernel
theorem dX7_home_49 : decode cX7_home 49 = .ok (.aload_n 0, 1) := by decide +kernel
theorem dX7_home_50 : decode cX7_home 50 = .ok (.invokevirtual 136, 3) := by decide +kernel
theorem dX7_home_53 : decode cX7_home 53 = .ok (.ifCond .ne 7, 3) := by decide +kernel
theorem dX7_home_56 : decode cX7_home 56 = .ok (.ldc2_w 156, 3) := by decide +kernel
theorem dX7_home_59 : decode cX7_home 59 = .ok (.lreturn, 1) := by decide +kernel
theorem dX7_home_60 : decode cX7_home 60 = .ok (.aload_n 0, 1) := by decide +kernel
theorem dX7_home_61 : decode cX7_home 61 = .ok (.getfield 12, 3) := by decide +kernel
theorem dX7_home_64 : decode cX7_home 64 = .ok (.invokevirtual 222, 3) := by decide +kernel
theorem dX7_home_67 : decode cX7_home 67 = .ok (.istore 4, 2) := by decide +kernel
theorem dX7_home_69 : decode cX7_home 69 = .ok (.iload 4, 2) := by decide +kernel
theorem dX7_home_71 : decode cX7_home 71 = .ok (.bipush 12, 2) := by decide +kernel
theorem dX7_home_73 : decode cX7_home 73 = .ok (.if_icmp .le 7, 3) := by decide +kernel
theorem dX7_home_76 : decode cX7_home 76 = .ok (.ldc2_w 243, 3) := by decide +kernel
theorem dX7_home_79 : decode cX7_home 79 = .ok (.lreturn, 1) := by decide +kernel
theorem dX7_home_80 : decode cX7_home 80 = .ok (.iload_n 2, 1) := by decide +kernel
theorem dX7_home_81 : decode cX7_home 81 = .ok (.aload_n 0, 1) := by decide +kernel
theorem dX7_home_82 : decode cX7_home 82 = .ok (.getfield 41, 3) := by decide +kernel
theorem dX7_home_85 : decode cX7_home 85 = .ok (.getfield 139, 3) := by decide +kernel
theorem dX7_home_88 : decode cX7_home 88 = .ok (.aload_n 0, 1) := by decide +kernel
theorem dX7_home_89 : decode cX7_home 89 = .ok (.getfield 12, 3) := by decide +kernel
theorem dX7_home_92 : decode cX7_home 92 = .ok (.getfield 104, 3) := by decide +kernel
theorem dX7_home_95 : decode cX7_home 95 = .ok (.iconst 1, 1) := by decide +kernel
theorem dX7_home_96 : decode cX7_home 96 = .ok (.isub, 1) := by decide +kernel
theorem dX7_home_97 : decode cX7_home 97 = .ok (.iaload, 1) := by decide +kernel
theorem dX7_home_98 : decode cX7_home 98 = .ok (.isub, 1) := by decide +kernel
theorem dX7_home_99 : decode cX7_home 99 = .ok (.istore 5, 2) := by decide +kernel
theorem dX7_home_101 : decode cX7_home 101 = .ok (.iload 5, 2) := by decide +kernel
theorem dX7_home_103 : decode cX7_home 103 = .ok (.ifCond .ge 7, 3) := by decide +kernel
theorem dX7_home_106 : decode cX7_home 106 = .ok (.lconst 0, 1) := by decide +kernel
theorem dX7_home_107 : decode cX7_home 107 = .ok (.goto 18, 3) := by decide +kernel
theorem dX7_home_110 : decode cX7_home 110 = .ok (.iload 4, 2) := by decide +kernel
theorem dX7_home_112 : decode cX7_home 112 = .ok (.iload 4, 2) := by decide +kernel
theorem dX7_home_114 : decode cX7_home 114 = .ok (.iload 5, 2) := by decide +kernel
theorem dX7_home_116 : decode cX7_home 116 = .ok (.iconst 5, 1) := by decide +kernel
theorem dX7_home_117 : decode cX7_home 117 = .ok (.idiv, 1) := by decide +kernel
theorem dX7_home_118 : decode cX7_home 118 = .ok (.invokestatic 240, 3) := by decide +kernel
theorem dX7_home_121 : decode cX7_home 121 = .ok (.iload_n 1, 1) := by decide +kernel
theorem dX7_home_122 : decode cX7_home 122 = .ok (.invokestatic 245, 3) := by decide +kernel
theorem dX7_home_125 : decode cX7_home 125 = .ok (.lstore 6, 2) := by decide +kernel
theorem dX7_home_127 : decode cX7_home 127 = .ok (.lload 6, 2) := by decide +kernel
theorem dX7_home_129 : decode cX7_home 129 = .ok (.ldc2_w 249, 3) := by decide +kernel
theorem dX7_home_132 : decode cX7_home 132 = .ok (.iload 4, 2) := by decide +kernel
theorem dX7_home_134 : decode cX7_home 134 = .ok (.invokestatic 251, 3) := by decide +kernel
theorem dX7_home_137 : decode cX7_home 137 = .ok (.iload_n 3, 1) := by decide +kernel
theorem dX7_home_138 : decode cX7_home 138 = .ok (.invokestatic 164, 3) := by decide +kernel
theorem dX7_home_141 : decode cX7_home 141 = .ok (.lreturn, 1) := by decide +kernel
theorem dX7_mean_0 : decode cX7_mean 0 = .ok (.aload_n 0, 1) := by decide +kernel
theorem dX7_mean_1 : decode cX7_mean 1 = .ok (.invokevirtual 122, 3) := by decide +kernel
theorem dX7_mean_4 : decode cX7_mean 4 = .ok (.ifCond .ne 7, 3) := by decide +kernel
theorem dX7_mean_7 : decode cX7_mean 7 = .ok (.ldc2_w 152, 3) := by decide +kernel
theorem dX7_mean_10 : decode cX7_mean 10 = .ok (.lreturn, 1) := by decide +kernel
theorem dX7_mean_11 : decode cX7_mean 11 = .ok (.iload_n 1, 1) := by decide +kernel
theorem dX7_mean_12 : decode cX7_mean 12 = .ok (.iconst 0, 1) := by decide +kernel
theorem dX7_mean_13 : decode cX7_mean 13 = .ok (.bipush 10, 2) := by decide +kernel
theorem dX7_mean_15 : decode cX7_mean 15 = .ok (.invokestatic 52, 3) := by decide +kernel
theorem dX7_mean_18 : decode cX7_mean 18 = .ok (.ifCond .eq 12, 3) := by decide +kernel
theorem dX7_mean_21 : decode cX7_mean 21 = .ok (.iload_n 2, 1) := by decide +kernel
theorem dX7_mean_22 : decode cX7_mean 22 = .ok (.iconst 0, 1) := by decide +kernel
theorem dX7_mean_23 : decode cX7_mean 23 = .ok (.iconst 1, 1) := by decide +kernel
theorem dX7_mean_24 : decode cX7_mean 24 = .ok (.invokestatic 52, 3) := by decide +kernel
theorem dX7_mean_27 : decode cX7_mean 27 = .ok (.ifCond .ne 7, 3) := by decide +kernel
theorem dX7_mean_30 : decode cX7_mean 30 = .ok (.ldc2_w 154, 3) := by decide +kernel
theorem dX7_mean_33 : decode cX7_mean 33 = .ok (.lreturn, 1) := by decide +kernel
theorem dX7_mean_34 : decode cX7_mean 34 = .ok (.aload_n 0, 1) := by decide +kernel
theorem dX7_mean_35 : decode cX7_mean 35 = .ok (.invokevirtual 136, 3) := by decide +kernel
theorem dX7_mean_38 : decode cX7_mean 38 = .ok (.ifCond .ne 7, 3) := by decide +kernel
theorem dX7_mean_41 : decode cX7_mean 41 = .ok (.ldc2_w 156, 3) := by decide +kernel
theorem dX7_mean_44 : decode cX7_mean 44 = .ok (.lreturn, 1) := by decide +kernel
theorem dX7_mean_45 : decode cX7_mean 45 = .ok (.bipush 10, 2) := by decide +kernel
theorem dX7_mean_47 : decode cX7_mean 47 = .ok (.aload_n 0, 1) := by decide +kernel
theorem dX7_mean_48 : decode cX7_mean 48 = .ok (.getfield 41, 3) := by decide +kernel
theorem dX7_mean_51 : decode cX7_mean 51 = .ok (.getfield 139, 3) := by decide +kernel
theorem dX7_mean_54 : decode cX7_mean 54 = .ok (.aload_n 0, 1) := by decide +kernel
theorem dX7_mean_55 : decode cX7_mean 55 = .ok (.getfield 12, 3) := by decide +kernel
theorem dX7_mean_58 : decode cX7_mean 58 = .ok (.getfield 104, 3) := by decide +kernel
theorem dX7_mean_61 : decode cX7_mean 61 = .ok (.iconst 1, 1) := by decide +kernel
theorem dX7_mean_62 : decode cX7_mean 62 = .ok (.isub, 1) := by decide +kernel
theorem dX7_mean_63 : decode cX7_mean 63 = .ok (.iaload, 1) := by decide +kernel
theorem dX7_mean_64 : decode cX7_mean 64 = .ok (.imul, 1) := by decide +kernel
theorem dX7_mean_65 : decode cX7_mean 65 = .ok (.iconst 5, 1) := by decide +kernel
theorem dX7_mean_66 : decode cX7_mean 66 = .ok (.iload_n 1, 1) := by decide +kernel
theorem dX7_mean_67 : decode cX7_mean 67 = .ok (.imul, 1) := by decide +kernel
theorem dX7_mean_68 : decode cX7_mean 68 = .ok (.aload_n 0, 1) := by decide +kernel
theorem dX7_mean_69 : decode cX7_mean 69 = .ok (.getfield 12, 3) := by decide +kernel
theorem dX7_mean_72 : decode cX7_mean 72 = .ok (.invokevirtual 222, 3) := by decide +kernel
theorem dX7_mean_75 : decode cX7_mean 75 = .ok (.imul, 1) := by decide +kernel
theorem dX7_mean_76 : decode cX7_mean 76 = .ok (.iadd, 1) := by decide +kernel
theorem dX7_mean_77 : decode cX7_mean 77 = .ok (.istore_n 3, 1) := by decide +kernel
theorem dX7_mean_78 : decode cX7_mean 78 = .ok (.iload_n 3, 1) := by decide +kernel
theorem dX7_mean_79 : decode cX7_mean 79 = .ok (.i2l, 1) := by decide +kernel
theorem dX7_mean_80 : decode cX7_mean 80 = .ok (.ldc2_w 249, 3) := by decide +kernel
theorem dX7_mean_83 : decode cX7_mean 83 = .ok (.iload_n 2, 1) := by decide +kernel
theorem dX7_mean_84 : decode cX7_mean 84 = .ok (.invokestatic 164, 3) := by decide +kernel
theorem dX7_mean_87 : decode cX7_mean 87 = .ok (.lreturn, 1) := by decide +kernel
theorem dX7_time_0 : decode cX7_time 0 = .ok (.aload_n 0, 1) := by decide +kernel
theorem dX7_time_1 : decode cX7_time 1 = .ok (.getfield 12, 3) := by decide +kernel
theorem dX7_time_4 : decode cX7_time 4 = .ok (.iload_n 1, 1) := by decide +kernel
theorem dX7_time_5 : decode cX7_time 5 = .ok (.invokevirtual 70, 3) := by decide +kernel
theorem dX7_time_8 : decode cX7_time 8 = .ok (.ifCond .ne 5, 3) := by decide +kernel
theorem dX7_time_11 : decode cX7_time 11 = .ok (.iconst (-1), 1) := by decide +kernel
theorem dX7_time_12 : decode cX7_time 12 = .ok (.ireturn, 1) := by decide +kernel
theorem dX7_time_13 : decode cX7_time 13 = .ok (.iload_n 2, 1) := by decide +kernel
theorem dX7_time_14 : decode cX7_time 14 = .ok (.iconst 0, 1) := by decide +kernel
theorem dX7_time_15 : decode cX7_time 15 = .ok (.iconst 4, 1) := by decide +kernel
theorem dX7_time_16 : decode cX7_time 16 = .ok (.invokestatic 52, 3) := by decide +kernel
theorem dX7_time_19 : decode cX7_time 19 = .ok (.ifCond .eq 22, 3) := by decide +kernel
theorem dX7_time_22 : decode cX7_time 22 = .ok (.iload_n 3, 1) := by decide +kernel
theorem dX7_time_23 : decode cX7_time 23 = .ok (.invokestatic 115, 3) := by decide +kernel
theorem dX7_time_26 : decode cX7_time 26 = .ok (.ifCond .eq 15, 3) := by decide +kernel
theorem dX7_time_29 : decode cX7_time 29 = .ok (.iload 4, 2) := by decide +kernel
theorem dX7_time_31 : decode cX7_time 31 = .ok (.iconst 1, 1) := by decide +kernel
theorem dX7_time_32 : decode cX7_time 32 = .ok (.sipush 300, 3) := by decide +kernel
theorem dX7_time_35 : decode cX7_time 35 = .ok (.invokestatic 52, 3) := by decide +kernel
theorem dX7_time_38 : decode cX7_time 38 = .ok (.ifCond .ne 6, 3) := by decide +kernel
theorem dX7_time_41 : decode cX7_time 41 = .ok (.bipush (-2), 2) := by decide +kernel
theorem dX7_time_43 : decode cX7_time 43 = .ok (.ireturn, 1) := by decide +kernel
theorem dX7_time_44 : decode cX7_time 44 = .ok (.aload_n 0, 1) := by decide +kernel
theorem dX7_time_45 : decode cX7_time 45 = .ok (.getfield 12, 3) := by decide +kernel
theorem dX7_time_48 : decode cX7_time 48 = .ok (.getfield 255, 3) := by decide +kernel
theorem dX7_time_51 : decode cX7_time 51 = .ok (.bipush 6, 2) := by decide +kernel
theorem dX7_time_53 : decode cX7_time 53 = .ok (.if_icmp .lt 6, 3) := by decide +kernel
theorem dX7_time_56 : decode cX7_time 56 = .ok (.bipush (-4), 2) := by decide +kernel
theorem dX7_time_58 : decode cX7_time 58 = .ok (.ireturn, 1) := by decide +kernel
theorem dX7_time_59 : decode cX7_time 59 = .ok (.aload_n 0, 1) := by decide +kernel
theorem dX7_time_60 : decode cX7_time 60 = .ok (.getfield 12, 3) := by decide +kernel
theorem dX7_time_63 : decode cX7_time 63 = .ok (.iload_n 1, 1) := by decide +kernel
theorem dX7_time_64 : decode cX7_time 64 = .ok (.iload_n 2, 1) := by decide +kernel
theorem dX7_time_65 : decode cX7_time 65 = .ok (.iload_n 3, 1) := by decide +kernel
theorem dX7_time_66 : decode cX7_time 66 = .ok (.iload 4, 2) := by decide +kernel
theorem dX7_time_68 : decode cX7_time 68 = .ok (.invokevirtual 258, 3) := by decide +kernel
theorem dX7_time_71 : decode cX7_time 71 = .ok (.aload_n 0, 1) := by decide +kernel
theorem dX7_time_72 : decode cX7_time 72 = .ok (.getfield 12, 3) := by decide +kernel
theorem dX7_time_75 : decode cX7_time 75 = .ok (.getfield 255, 3) := by decide +kernel
theorem dX7_time_78 : decode cX7_time 78 = .ok (.ireturn, 1) := by decide +kernel
theorem dX7_forget_0 : decode cX7_forget 0 = .ok (.aload_n 0, 1) := by decide +kernel
theorem dX7_forget_1 : decode cX7_forget 1 = .ok (.getfield 12, 3) := by decide +kernel
theorem dX7_forget_4 : decode cX7_forget 4 = .ok (.getfield 255, 3) := by decide +kernel
theorem dX7_forget_7 : decode cX7_forget 7 = .ok (.istore_n 1, 1) := by decide +kernel
theorem dX7_forget_8 : decode cX7_forget 8 = .ok (.aload_n 0, 1) := by decide +kernel
theorem dX7_forget_9 : decode cX7_forget 9 = .ok (.getfield 12, 3) := by decide +kernel
theorem dX7_forget_12 : decode cX7_forget 12 = .ok (.iconst 0, 1) := by decide +kernel
theorem dX7_forget_13 : decode cX7_forget 13 = .ok (.putfield 255, 3) := by decide +kernel
theorem dX7_forget_16 : decode cX7_forget 16 = .ok (.iload_n 1, 1) := by decide +kernel
theorem dX7_forget_17 : decode cX7_forget 17 = .ok (.ireturn, 1) := by decide +kernel
theorem dX7_strong_0 : decode cX7_strong 0 = .ok (.aload_n 0, 1) := by decide +kernel
theorem dX7_strong_1 : decode cX7_strong 1 = .ok (.getfield 12, 3) := by decide +kernel
theorem dX7_strong_4 : decode cX7_strong 4 = .ok (.iload_n 1, 1) := by decide +kernel
theorem dX7_strong_5 : decode cX7_strong 5 = .ok (.invokevirtual 70, 3) := by decide +kernel
theorem dX7_strong_8 : decode cX7_strong 8 = .ok (.ifCond .ne 5, 3) := by decide +kernel
theorem dX7_strong_11 : decode cX7_strong 11 = .ok (.iconst (-1), 1) := by decide +kernel
theorem dX7_strong_12 : decode cX7_strong 12 = .ok (.ireturn, 1) := by decide +kernel
theorem dX7_strong_13 : decode cX7_strong 13 = .ok (.iload_n 2, 1) := by decide +kernel
theorem dX7_strong_14 : decode cX7_strong 14 = .ok (.iconst 0, 1) := by decide +kernel
theorem dX7_strong_15 : decode cX7_strong 15 = .ok (.iconst 2, 1) := by decide +kernel
theorem dX7_strong_16 : decode cX7_strong 16 = .ok (.invokestatic 52, 3) := by decide +kernel
theorem dX7_strong_19 : decode cX7_strong 19 = .ok (.ifCond .ne 6, 3) := by decide +kernel
theorem dX7_strong_22 : decode cX7_strong 22 = .ok (.bipush (-2), 2) := by decide +kernel
theorem dX7_strong_24 : decode cX7_strong 24 = .ok (.ireturn, 1) := by decide +kernel
theorem dX7_strong_25 : decode cX7_strong 25 = .ok (.iconst 0, 1) := by decide +kernel
theorem dX7_strong_26 : decode cX7_strong 26 = .ok (.istore_n 3, 1) := by decide +kernel
theorem dX7_strong_27 : decode cX7_strong 27 = .ok (.bipush (-6), 2) := by decide +kernel
theorem dX7_strong_29 : decode cX7_strong 29 = .ok (.istore 4, 2) := by decide +kernel
theorem dX7_strong_31 : decode cX7_strong 31 = .ok (.bipush (-6), 2) := by decide +kernel
theorem dX7_strong_33 : decode cX7_strong 33 = .ok (.istore 5, 2) := by decide +kernel
theorem dX7_strong_35 : decode cX7_strong 35 = .ok (.iconst 1, 1) := by decide +kernel
theorem dX7_strong_36 : decode cX7_strong 36 = .ok (.istore 6, 2) := by decide +kernel
theorem dX7_strong_38 : decode cX7_strong 38 = .ok (.iload 6, 2) := by decide +kernel
theorem dX7_strong_40 : decode cX7_strong 40 = .ok (.bipush 20, 2) := by decide +kernel
theorem dX7_strong_42 : decode cX7_strong 42 = .ok (.if_icmp .gt 40, 3) := by decide +kernel
theorem dX7_strong_45 : decode cX7_strong 45 = .ok (.aload_n 0, 1) := by decide +kernel
theorem dX7_strong_46 : decode cX7_strong 46 = .ok (.getfield 12, 3) := by decide +kernel
theorem dX7_strong_49 : decode cX7_strong 49 = .ok (.iload_n 1, 1) := by decide +kernel
theorem dX7_strong_50 : decode cX7_strong 50 = .ok (.iload 6, 2) := by decide +kernel
theorem dX7_strong_52 : decode cX7_strong 52 = .ok (.invokevirtual 261, 3) := by decide +kernel
theorem dX7_strong_55 : decode cX7_strong 55 = .ok (.ifCond .ne 6, 3) := by decide +kernel
theorem dX7_strong_58 : decode cX7_strong 58 = .ok (.goto 18, 3) := by decide +kernel
theorem dX7_strong_61 : decode cX7_strong 61 = .ok (.iload_n 3, 1) := by decide +kernel
theorem dX7_strong_62 : decode cX7_strong 62 = .ok (.ifCond .ne 7, 3) := by decide +kernel
theorem dX7_strong_65 : decode cX7_strong 65 = .ok (.iload 6, 2) := by decide +kernel
theorem dX7_strong_67 : decode cX7_strong 67 = .ok (.istore 4, 2) := by decide +kernel
theorem dX7_strong_69 : decode cX7_strong 69 = .ok (.iload 6, 2) := by decide +kernel
theorem dX7_strong_71 : decode cX7_strong 71 = .ok (.istore 5, 2) := by decide +kernel
theorem dX7_strong_73 : decode cX7_strong 73 = .ok (.iinc 3 1, 3) := by decide +kernel
theorem dX7_strong_76 : decode cX7_strong 76 = .ok (.iinc 6 1, 3) := by decide +kernel
theorem dX7_strong_79 : decode cX7_strong 79 = .ok (.goto (-41), 3) := by decide +kernel
theorem dX7_strong_82 : decode cX7_strong 82 = .ok (.iload_n 2, 1) := by decide +kernel
theorem dX7_strong_83 : decode cX7_strong 83 = .ok (.ifCond .ne 5, 3) := by decide +kernel
theorem dX7_strong_86 : decode cX7_strong 86 = .ok (.iload_n 3, 1) := by decide +kernel
theorem dX7_strong_87 : decode cX7_strong 87 = .ok (.ireturn, 1) := by decide +kernel
theorem dX7_strong_88 : decode cX7_strong 88 = .ok (.iload_n 2, 1) := by decide +kernel
theorem dX7_strong_89 : decode cX7_strong 89 = .ok (.iconst 1, 1) := by decide +kernel
theorem dX7_strong_90 : decode cX7_strong 90 = .ok (.if_icmp .ne 8, 3) := by decide +kernel
theorem dX7_strong_93 : decode cX7_strong 93 = .ok (.iload 4, 2) := by decide +kernel
theorem dX7_strong_95 : decode cX7_strong 95 = .ok (.goto 5, 3) := by decide +kernel
theorem dX7_strong_98 : decode cX7_strong 98 = .ok (.iload 5, 2) := by decide +kernel
theorem dX7_strong_100 : decode cX7_strong 100 = .ok (.ireturn, 1) := by decide +kernel
theorem dX7_year_0 : decode cX7_year 0 = .ok (.aload_n 0, 1) := by decide +kernel
theorem dX7_year_1 : decode cX7_year 1 = .ok (.invokevirtual 122, 3) := by decide +kernel
theorem dX7_year_4 : decode cX7_year 4 = .ok (.ifCond .ne 6, 3) := by decide +kernel
theorem dX7_year_7 : decode cX7_year 7 = .ok (.bipush (-3), 2) := by decide +kernel
theorem dX7_year_9 : decode cX7_year 9 = .ok (.ireturn, 1) := by decide +kernel
theorem dX7_year_10 : decode cX7_year 10 = .ok (.iload_n 1, 1) := by decide +kernel
theorem dX7_year_11 : decode cX7_year 11 = .ok (.iconst 0, 1) := by decide +kernel
theorem dX7_year_12 : decode cX7_year 12 = .ok (.sipush 9999, 3) := by decide +kernel
theorem dX7_year_15 : decode cX7_year 15 = .ok (.invokestatic 52, 3) := by decide +kernel
theorem dX7_year_18 : decode cX7_year 18 = .ok (.ifCond .eq 22, 3) := by decide +kernel
theorem dX7_year_21 : decode cX7_year 21 = .ok (.iload_n 2, 1) := by decide +kernel
theorem dX7_year_22 : decode cX7_year 22 = .ok (.iconst 1, 1) := by decide +kernel
theorem dX7_year_23 : decode cX7_year 23 = .ok (.bipush 99, 2) := by decide +kernel
theorem dX7_year_25 : decode cX7_year 25 = .ok (.invokestatic 52, 3) := by decide +kernel
theorem dX7_year_28 : decode cX7_year 28 = .ok (.ifCond .eq 12, 3) := by decide +kernel
theorem dX7_year_31 : decode cX7_year 31 = .ok (.iload_n 3, 1) := by decide +kernel
theorem dX7_year_32 : decode cX7_year 32 = .ok (.iconst 0, 1) := by decide +kernel
theorem dX7_year_33 : decode cX7_year 33 = .ok (.iconst 2, 1) := by decide +kernel
theorem dX7_year_34 : decode cX7_year 34 = .ok (.invokestatic 52, 3) := by decide +kernel
theorem dX7_year_37 : decode cX7_year 37 = .ok (.ifCond .ne 6, 3) := by decide +kernel
theorem dX7_year_40 : decode cX7_year 40 = .ok (.bipush (-2), 2) := by decide +kernel
theorem dX7_year_42 : decode cX7_year 42 = .ok (.ireturn, 1) := by decide +kernel
theorem dX7_year_43 : decode cX7_year 43 = .ok (.iload_n 1, 1) := by decide +kernel
theorem dX7_year_44 : decode cX7_year 44 = .ok (.istore 4, 2) := by decide +kernel
theorem dX7_year_46 : decode cX7_year 46 = .ok (.iconst 0, 1) := by decide +kernel
theorem dX7_year_47 : decode cX7_year 47 = .ok (.istore 5, 2) := by decide +kernel
theorem dX7_year_49 : decode cX7_year 49 = .ok (.ldc_w 265, 3) := by decide +kernel
theorem dX7_year_52 : decode cX7_year 52 = .ok (.istore 6, 2) := by decide +kernel
theorem dX7_year_54 : decode cX7_year 54 = .ok (.iconst 0, 1) := by decide +kernel
theorem dX7_year_55 : decode cX7_year 55 = .ok (.istore 7, 2) := by decide +kernel
theorem dX7_year_57 : decode cX7_year 57 = .ok (.iconst 0, 1) := by decide +kernel
theorem dX7_year_58 : decode cX7_year 58 = .ok (.istore 8, 2) := by decide +kernel
theorem dX7_year_60 : decode cX7_year 60 = .ok (.iload 8, 2) := by decide +kernel
theorem dX7_year_62 : decode cX7_year 62 = .ok (.iload_n 2, 1) := by decide +kernel
theorem dX7_year_63 : decode cX7_year 63 = .ok (.if_icmp .ge 75, 3) := by decide +kernel
theorem dX7_year_66 : decode cX7_year 66 = .ok (.bipush 75, 2) := by decide +kernel
theorem dX7_year_68 : decode cX7_year 68 = .ok (.iload 4, 2) := by decide +kernel
theorem dX7_year_70 : decode cX7_year 70 = .ok (.imul, 1) := by decide +kernel
theorem dX7_year_71 : decode cX7_year 71 = .ok (.bipush 74, 2) := by decide +kernel
theorem dX7_year_73 : decode cX7_year 73 = .ok (.iadd, 1) := by decide +kernel
theorem dX7_year_74 : decode cX7_year 74 = .ok (.ldc_w 266, 3) := by decide +kernel
theorem dX7_year_77 : decode cX7_year 77 = .ok (.irem, 1) := by decide +kernel
theorem dX7_year_78 : decode cX7_year 78 = .ok (.istore 4, 2) := by decide +kernel
theorem dX7_year_80 : decode cX7_year 80 = .ok (.iconst 1, 1) := by decide +kernel
theorem dX7_year_81 : decode cX7_year 81 = .ok (.iload 4, 2) := by decide +kernel
theorem dX7_year_83 : decode cX7_year 83 = .ok (.iconst 3, 1) := by decide +kernel
theorem dX7_year_84 : decode cX7_year 84 = .ok (.irem, 1) := by decide +kernel
theorem dX7_year_85 : decode cX7_year 85 = .ok (.iadd, 1) := by decide +kernel
theorem dX7_year_86 : decode cX7_year 86 = .ok (.istore 9, 2) := by decide +kernel
theorem dX7_year_88 : decode cX7_year 88 = .ok (.aload_n 0, 1) := by decide +kernel
theorem dX7_year_89 : decode cX7_year 89 = .ok (.iload 9, 2) := by decide +kernel
theorem dX7_year_91 : decode cX7_year 91 = .ok (.iload 9, 2) := by decide +kernel
theorem dX7_year_93 : decode cX7_year 93 = .ok (.iconst 4, 1) := by decide +kernel
theorem dX7_year_94 : decode cX7_year 94 = .ok (.iload 4, 2) := by decide +kernel
theorem dX7_year_96 : decode cX7_year 96 = .ok (.iconst 3, 1) := by decide +kernel
theorem dX7_year_97 : decode cX7_year 97 = .ok (.idiv, 1) := by decide +kernel
theorem dX7_year_98 : decode cX7_year 98 = .ok (.bipush 7, 2) := by decide +kernel
theorem dX7_year_100 : decode cX7_year 100 = .ok (.irem, 1) := by decide +kernel
theorem dX7_year_101 : decode cX7_year 101 = .ok (.iadd, 1) := by decide +kernel
theorem dX7_year_102 : decode cX7_year 102 = .ok (.invokevirtual 188, 3) := by decide +kernel
theorem dX7_year_105 : decode cX7_year 105 = .ok (.istore 10, 2) := by decide +kernel
theorem dX7_year_107 : decode cX7_year 107 = .ok (.iload 5, 2) := by decide +kernel
theorem dX7_year_109 : decode cX7_year 109 = .ok (.iload 10, 2) := by decide +kernel
theorem dX7_year_111 : decode cX7_year 111 = .ok (.iadd, 1) := by decide +kernel
theorem dX7_year_112 : decode cX7_year 112 = .ok (.istore 5, 2) := by decide +kernel
theorem dX7_year_114 : decode cX7_year 114 = .ok (.iload 6, 2) := by decide +kernel
theorem dX7_year_116 : decode cX7_year 116 = .ok (.iload 10, 2) := by decide +kernel
theorem dX7_year_118 : decode cX7_year 118 = .ok (.invokestatic 240, 3) := by decide +kernel
theorem dX7_year_121 : decode cX7_year 121 = .ok (.istore 6, 2) := by decide +kernel
theorem dX7_year_123 : decode cX7_year 123 = .ok (.iload 7, 2) := by decide +kernel
theorem dX7_year_125 : decode cX7_year 125 = .ok (.iload 10, 2) := by decide +kernel
theorem dX7_year_127 : decode cX7_year 127 = .ok (.invokestatic 206, 3) := by decide +kernel
theorem dX7_year_130 : decode cX7_year 130 = .ok (.istore 7, 2) := by decide +kernel
theorem dX7_year_132 : decode cX7_year 132 = .ok (.iinc 8 1, 3) := by decide +kernel
theorem dX7_year_135 : decode cX7_year 135 = .ok (.goto (-75), 3) := by decide +kernel
theorem dX7_year_138 : decode cX7_year 138 = .ok (.iload_n 3, 1) := by decide +kernel
theorem dX7_year_139 : decode cX7_year 139 = .ok (.ifCond .ne 6, 3) := by decide +kernel
theorem dX7_year_142 : decode cX7_year 142 = .ok (.iload 5, 2) := by decide +kernel
theorem dX7_year_144 : decode cX7_year 144 = .ok (.ireturn, 1) := by decide +kernel
theorem dX7_year_145 : decode cX7_year 145 = .ok (.iload_n 3, 1) := by decide +kernel
theorem dX7_year_146 : decode cX7_year 146 = .ok (.iconst 1, 1) := by decide +kernel
theorem dX7_year_147 : decode cX7_year 147 = .ok (.if_icmp .ne 8, 3) := by decide +kernel
theorem dX7_year_150 : decode cX7_year 150 = .ok (.iload 6, 2) := by decide +kernel
theorem dX7_year_152 : decode cX7_year 152 = .ok (.goto 5, 3) := by decide +kernel
theorem dX7_year_155 : decode cX7_year 155 = .ok (.iload 7, 2) := by decide +kernel
theorem dX7_year_157 : decode cX7_year 157 = .ok (.ireturn, 1) := by decide +kernel
theorem dX7_image_0 : decode cX7_image 0 = .ok (.iload_n 1, 1) := by decide +kernel
theorem dX7_image_1 : decode cX7_image 1 = .ok (.iconst 0, 1) := by decide +kernel
theorem dX7_image_2 : decode cX7_image 2 = .ok (.iconst 1, 1) := by decide +kernel
theorem dX7_image_3 : decode cX7_image 3 = .ok (.invokestatic 52, 3) := by decide +kernel
theorem dX7_image_6 : decode cX7_image 6 = .ok (.ifCond .ne 6, 3) := by decide +kernel
theorem dX7_image_9 : decode cX7_image 9 = .ok (.bipush (-2), 2) := by decide +kernel
theorem dX7_image_11 : decode cX7_image 11 = .ok (.ireturn, 1) := by decide +kernel
theorem dX7_image_12 : decode cX7_image 12 = .ok (.aload_n 0, 1) := by decide +kernel
theorem dX7_image_13 : decode cX7_image 13 = .ok (.getfield 16, 3) := by decide +kernel
theorem dX7_image_16 : decode cX7_image 16 = .ok (.iload_n 1, 1) := by decide +kernel
theorem dX7_image_17 : decode cX7_image 17 = .ok (.aaload, 1) := by decide +kernel
theorem dX7_image_18 : decode cX7_image 18 = .ok (.aload_n 0, 1) := by decide +kernel
theorem dX7_image_19 : decode cX7_image 19 = .ok (.getfield 12, 3) := by decide +kernel
theorem dX7_image_22 : decode cX7_image 22 = .ok (.invokevirtual 267, 3) := by decide +kernel
theorem dX7_image_25 : decode cX7_image 25 = .ok (.aload_n 0, 1) := by decide +kernel
theorem dX7_image_26 : decode cX7_image 26 = .ok (.getfield 20, 3) := by decide +kernel
theorem dX7_image_29 : decode cX7_image 29 = .ok (.iload_n 1, 1) := by decide +kernel
theorem dX7_image_30 : decode cX7_image 30 = .ok (.iconst 1, 1) := by decide +kernel
theorem dX7_image_31 : decode cX7_image 31 = .ok (.bastore, 1) := by decide +kernel
theorem dX7_image_32 : decode cX7_image 32 = .ok (.iconst 1, 1) := by decide +kernel
theorem dX7_image_33 : decode cX7_image 33 = .ok (.ireturn, 1) := by decide +kernel
theorem dX7_restore_0 : decode cX7_restore 0 = .ok (.iload_n 1, 1) := by decide +kernel
theorem dX7_restore_1 : decode cX7_restore 1 = .ok (.iconst 0, 1) := by decide +kernel
theorem dX7_restore_2 : decode cX7_restore 2 = .ok (.iconst 1, 1) := by decide +kernel
theorem dX7_restore_3 : decode cX7_restore 3 = .ok (.invokestatic 52, 3) := by decide +kernel
theorem dX7_restore_6 : decode cX7_restore 6 = .ok (.ifCond .ne 6, 3) := by decide +kernel
theorem dX7_restore_9 : decode cX7_restore 9 = .ok (.bipush (-2), 2) := by decide +kernel
theorem dX7_restore_11 : decode cX7_restore 11 = .ok (.ireturn, 1) := by decide +kernel
theorem dX7_restore_12 : decode cX7_restore 12 = .ok (.aload_n 0, 1) := by decide +kernel
theorem dX7_restore_13 : decode cX7_restore 13 = .ok (.getfield 20, 3) := by decide +kernel
theorem dX7_restore_16 : decode cX7_restore 16 = .ok (.iload_n 1, 1) := by decide +kernel
theorem dX7_restore_17 : decode cX7_restore 17 = .ok (.baload, 1) := by decide +kernel
theorem dX7_restore_18 : decode cX7_restore 18 = .ok (.ifCond .ne 6, 3) := by decide +kernel
theorem dX7_restore_21 : decode cX7_restore 21 = .ok (.bipush (-3), 2) := by decide +kernel
theorem dX7_restore_23 : decode cX7_restore 23 = .ok (.ireturn, 1) := by decide +kernel
theorem dX7_restore_24 : decode cX7_restore 24 = .ok (.aload_n 0, 1) := by decide +kernel
theorem dX7_restore_25 : decode cX7_restore 25 = .ok (.getfield 12, 3) := by decide +kernel
theorem dX7_restore_28 : decode cX7_restore 28 = .ok (.aload_n 0, 1) := by decide +kernel
theorem dX7_restore_29 : decode cX7_restore 29 = .ok (.getfield 16, 3) := by decide +kernel
theorem dX7_restore_32 : decode cX7_restore 32 = .ok (.iload_n 1, 1) := by decide +kernel
theorem dX7_restore_33 : decode cX7_restore 33 = .ok (.aaload, 1) := by decide +kernel
theorem dX7_restore_34 : decode cX7_restore 34 = .ok (.invokevirtual 267, 3) := by decide +kernel
theorem dX7_restore_37 : decode cX7_restore 37 = .ok (.iconst 1, 1) := by decide +kernel
theorem dX7_restore_38 : decode cX7_restore 38 = .ok (.ireturn, 1) := by decide +kernel
theorem dX7_told_0 : decode cX7_told 0 = .ok (.iload_n 1, 1) := by decide +kernel
theorem dX7_told_1 : decode cX7_told 1 = .ok (.tableswitch 123 0 8 #[51, 59, 67, 75, 83, 91, 99, 107, 115], 51) := by decide +kernel
theorem dX7_told_52 : decode cX7_told 52 = .ok (.aload_n 0, 1) := by decide +kernel
theorem dX7_told_53 : decode cX7_told 53 = .ok (.getfield 27, 3) := by decide +kernel
theorem dX7_told_56 : decode cX7_told 56 = .ok (.getfield 94, 3) := by decide +kernel
theorem dX7_told_59 : decode cX7_told 59 = .ok (.ireturn, 1) := by decide +kernel
theorem dX7_told_60 : decode cX7_told 60 = .ok (.aload_n 0, 1) := by decide +kernel
theorem dX7_told_61 : decode cX7_told 61 = .ok (.getfield 12, 3) := by decide +kernel
theorem dX7_told_64 : decode cX7_told 64 = .ok (.invokevirtual 271, 3) := by decide +kernel
theorem dX7_told_67 : decode cX7_told 67 = .ok (.ireturn, 1) := by decide +kernel
theorem dX7_told_68 : decode cX7_told 68 = .ok (.aload_n 0, 1) := by decide +kernel
theorem dX7_told_69 : decode cX7_told 69 = .ok (.getfield 12, 3) := by decide +kernel
theorem dX7_told_72 : decode cX7_told 72 = .ok (.getfield 78, 3) := by decide +kernel
theorem dX7_told_75 : decode cX7_told 75 = .ok (.ireturn, 1) := by decide +kernel
theorem dX7_told_76 : decode cX7_told 76 = .ok (.aload_n 0, 1) := by decide +kernel
theorem dX7_told_77 : decode cX7_told 77 = .ok (.getfield 12, 3) := by decide +kernel
theorem dX7_told_80 : decode cX7_told 80 = .ok (.getfield 82, 3) := by decide +kernel
theorem dX7_told_83 : decode cX7_told 83 = .ok (.ireturn, 1) := by decide +kernel
theorem dX7_told_84 : decode cX7_told 84 = .ok (.aload_n 0, 1) := by decide +kernel
theorem dX7_told_85 : decode cX7_told 85 = .ok (.getfield 12, 3) := by decide +kernel
theorem dX7_told_88 : decode cX7_told 88 = .ok (.getfield 85, 3) := by decide +kernel
theorem dX7_told_91 : decode cX7_told 91 = .ok (.ireturn, 1) := by decide +kernel
theorem dX7_told_92 : decode cX7_told 92 = .ok (.aload_n 0, 1) := by decide +kernel
theorem dX7_told_93 : decode cX7_told 93 = .ok (.getfield 12, 3) := by decide +kernel
theorem dX7_told_96 : decode cX7_told 96 = .ok (.getfield 88, 3) := by decide +kernel
theorem dX7_told_99 : decode cX7_told 99 = .ok (.ireturn, 1) := by decide +kernel
theorem dX7_told_100 : decode cX7_told 100 = .ok (.aload_n 0, 1) := by decide +kernel
theorem dX7_told_101 : decode cX7_told 101 = .ok (.getfield 12, 3) := by decide +kernel
theorem dX7_told_104 : decode cX7_told 104 = .ok (.getfield 91, 3) := by decide +kernel
theorem dX7_told_107 : decode cX7_told 107 = .ok (.ireturn, 1) := by decide +kernel
theorem dX7_told_108 : decode cX7_told 108 = .ok (.aload_n 0, 1) := by decide +kernel
theorem dX7_told_109 : decode cX7_told 109 = .ok (.getfield 12, 3) := by decide +kernel
theorem dX7_told_112 : decode cX7_told 112 = .ok (.getfield 104, 3) := by decide +kernel
theorem dX7_told_115 : decode cX7_told 115 = .ok (.ireturn, 1) := by decide +kernel
theorem dX7_told_116 : decode cX7_told 116 = .ok (.aload_n 0, 1) := by decide +kernel
theorem dX7_told_117 : decode cX7_told 117 = .ok (.getfield 12, 3) := by decide +kernel
theorem dX7_told_120 : decode cX7_told 120 = .ok (.getfield 255, 3) := by decide +kernel
theorem dX7_told_123 : decode cX7_told 123 = .ok (.ireturn, 1) := by decide +kernel
theorem dX7_told_124 : decode cX7_told 124 = .ok (.iload_n 1, 1) := by decide +kernel
theorem dX7_told_125 : decode cX7_told 125 = .ok (.bipush 100, 2) := by decide +kernel
theorem dX7_told_127 : decode cX7_told 127 = .ok (.bipush 99, 2) := by decide +kernel
theorem dX7_told_129 : decode cX7_told 129 = .ok (.aload_n 0, 1) := by decide +kernel
theorem dX7_told_130 : decode cX7_told 130 = .ok (.getfield 12, 3) := by decide +kernel
theorem dX7_told_133 : decode cX7_told 133 = .ok (.getfield 104, 3) := by decide +kernel
theorem dX7_told_136 : decode cX7_told 136 = .ok (.iadd, 1) := by decide +kernel
theorem dX7_told_137 : decode cX7_told 137 = .ok (.invokestatic 52, 3) := by decide +kernel
theorem dX7_told_140 : decode cX7_told 140 = .ok (.ifCond .eq 16, 3) := by decide +kernel
theorem dX7_told_143 : decode cX7_told 143 = .ok (.aload_n 0, 1) := by decide +kernel
theorem dX7_told_144 : decode cX7_told 144 = .ok (.getfield 12, 3) := by decide +kernel
theorem dX7_told_147 : decode cX7_told 147 = .ok (.getfield 274, 3) := by decide +kernel
theorem dX7_told_150 : decode cX7_told 150 = .ok (.iload_n 1, 1) := by decide +kernel
theorem dX7_told_151 : decode cX7_told 151 = .ok (.bipush 100, 2) := by decide +kernel
theorem dX7_told_153 : decode cX7_told 153 = .ok (.isub, 1) := by decide +kernel
theorem dX7_told_154 : decode cX7_told 154 = .ok (.iaload, 1) := by decide +kernel
theorem dX7_told_155 : decode cX7_told 155 = .ok (.ireturn, 1) := by decide +kernel
theorem dX7_told_156 : decode cX7_told 156 = .ok (.iload_n 1, 1) := by decide +kernel
theorem dX7_told_157 : decode cX7_told 157 = .ok (.bipush 10, 2) := by decide +kernel
theorem dX7_told_159 : decode cX7_told 159 = .ok (.bipush 49, 2) := by decide +kernel
theorem dX7_told_161 : decode cX7_told 161 = .ok (.invokestatic 52, 3) := by decide +kernel
theorem dX7_told_164 : decode cX7_told 164 = .ok (.ifCond .eq 18, 3) := by decide +kernel
theorem dX7_told_167 : decode cX7_told 167 = .ok (.aload_n 0, 1) := by decide +kernel
theorem dX7_told_168 : decode cX7_told 168 = .ok (.iload_n 1, 1) := by decide +kernel
theorem dX7_told_169 : decode cX7_told 169 = .ok (.bipush 10, 2) := by decide +kernel
theorem dX7_told_171 : decode cX7_told 171 = .ok (.idiv, 1) := by decide +kernel
theorem dX7_told_172 : decode cX7_told 172 = .ok (.iconst 1, 1) := by decide +kernel
theorem dX7_told_173 : decode cX7_told 173 = .ok (.isub, 1) := by decide +kernel
theorem dX7_told_174 : decode cX7_told 174 = .ok (.iload_n 1, 1) := by decide +kernel
theorem dX7_told_175 : decode cX7_told 175 = .ok (.bipush 10, 2) := by decide +kernel
theorem dX7_told_177 : decode cX7_told 177 = .ok (.irem, 1) := by decide +kernel
theorem dX7_told_178 : decode cX7_told 178 = .ok (.invokevirtual 277, 3) := by decide +kernel
theorem dX7_told_181 : decode cX7_told 181 = .ok (.ireturn, 1) := by decide +kernel
theorem dX7_told_182 : decode cX7_told 182 = .ok (.bipush (-2), 2) := by decide +kernel
theorem dX7_told_184 : decode cX7_told 184 = .ok (.ireturn, 1) := by decide +kernel
theorem dX7_toldOfRider_0 : decode cX7_toldOfRider 0 = .ok (.aload_n 0, 1) := by decide +kernel
theorem dX7_toldOfRider_1 : decode cX7_toldOfRider 1 = .ok (.getfield 12, 3) := by decide +kernel
theorem dX7_toldOfRider_4 : decode cX7_toldOfRider 4 = .ok (.iload_n 1, 1) := by decide +kernel
theorem dX7_toldOfRider_5 : decode cX7_toldOfRider 5 = .ok (.invokevirtual 70, 3) := by decide +kernel
theorem dX7_toldOfRider_8 : decode cX7_toldOfRider 8 = .ok (.ifCond .ne 6, 3) := by decide +kernel
theorem dX7_toldOfRider_11 : decode cX7_toldOfRider 11 = .ok (.bipush (-2), 2) := by decide +kernel
theorem dX7_toldOfRider_13 : decode cX7_toldOfRider 13 = .ok (.ireturn, 1) := by decide +kernel
theorem dX7_toldOfRider_14 : decode cX7_toldOfRider 14 = .ok (.aload_n 0, 1) := by decide +kernel
theorem dX7_toldOfRider_15 : decode cX7_toldOfRider 15 = .ok (.getfield 12, 3) := by decide +kernel
theorem dX7_toldOfRider_18 : decode cX7_toldOfRider 18 = .ok (.getfield 56, 3) := by decide +kernel
theorem dX7_toldOfRider_21 : decode cX7_toldOfRider 21 = .ok (.iload_n 1, 1) := by decide +kernel
theorem dX7_toldOfRider_22 : decode cX7_toldOfRider 22 = .ok (.aaload, 1) := by decide +kernel
theorem dX7_toldOfRider_23 : decode cX7_toldOfRider 23 = .ok (.astore_n 3, 1) := by decide +kernel
theorem dX7_toldOfRider_24 : decode cX7_toldOfRider 24 = .ok (.iload_n 2, 1) := by decide +kernel
theorem dX7_toldOfRider_25 : decode cX7_toldOfRider 25 = .ok (.tableswitch 51 0 3 #[31, 36, 41, 46], 31) := by decide +kernel
theorem dX7_toldOfRider_56 : decode cX7_toldOfRider 56 = .ok (.aload_n 3, 1) := by decide +kernel
theorem dX7_toldOfRider_57 : decode cX7_toldOfRider 57 = .ok (.getfield 280, 3) := by decide +kernel
theorem dX7_toldOfRider_60 : decode cX7_toldOfRider 60 = .ok (.ireturn, 1) := by decide +kernel
theorem dX7_toldOfRider_61 : decode cX7_toldOfRider 61 = .ok (.aload_n 3, 1) := by decide +kernel
theorem dX7_toldOfRider_62 : decode cX7_toldOfRider 62 = .ok (.getfield 283, 3) := by decide +kernel
theorem dX7_toldOfRider_65 : decode cX7_toldOfRider 65 = .ok (.ireturn, 1) := by decide +kernel
theorem dX7_toldOfRider_66 : decode cX7_toldOfRider 66 = .ok (.aload_n 3, 1) := by decide +kernel
theorem dX7_toldOfRider_67 : decode cX7_toldOfRider 67 = .ok (.getfield 286, 3) := by decide +kernel
theorem dX7_toldOfRider_70 : decode cX7_toldOfRider 70 = .ok (.ireturn, 1) := by decide +kernel
theorem dX7_toldOfRider_71 : decode cX7_toldOfRider 71 = .ok (.aload_n 3, 1) := by decide +kernel
theorem dX7_toldOfRider_72 : decode cX7_toldOfRider 72 = .ok (.getfield 289, 3) := by decide +kernel
theorem dX7_toldOfRider_75 : decode cX7_toldOfRider 75 = .ok (.ireturn, 1) := by decide +kernel
theorem dX7_toldOfRider_76 : decode cX7_toldOfRider 76 = .ok (.bipush (-2), 2) := by decide +kernel
theorem dX7_toldOfRider_78 : decode cX7_toldOfRider 78 = .ok (.ireturn, 1) := by decide +kernel
theorem dX7_isWithin_0 : decode cX7_isWithin 0 = .ok (.iload_n 0, 1) := by decide +kernel
theorem dX7_isWithin_1 : decode cX7_isWithin 1 = .ok (.iload_n 1, 1) := by decide +kernel
theorem dX7_isWithin_2 : decode cX7_isWithin 2 = .ok (.if_icmp .lt 12, 3) := by decide +kernel
theorem dX7_isWithin_5 : decode cX7_isWithin 5 = .ok (.iload_n 0, 1) := by decide +kernel
theorem dX7_isWithin_6 : decode cX7_isWithin 6 = .ok (.iload_n 2, 1) := by decide +kernel
theorem dX7_isWithin_7 : decode cX7_isWithin 7 = .ok (.if_icmp .gt 7, 3) := by decide +kernel
theorem dX7_isWithin_10 : decode cX7_isWithin 10 = .ok (.iconst 1, 1) := by decide +kernel
theorem dX7_isWithin_11 : decode cX7_isWithin 11 = .ok (.goto 4, 3) := by decide +kernel
theorem dX7_isWithin_14 : decode cX7_isWithin 14 = .ok (.iconst 0, 1) := by decide +kernel
theorem dX7_isWithin_15 : decode cX7_isWithin 15 = .ok (.ireturn, 1) := by decide +kernel
theorem dX7_isEffort_0 : decode cX7_isEffort 0 = .ok (.iload_n 0, 1) := by decide +kernel
theorem dX7_isEffort_1 : decode cX7_isEffort 1 = .ok (.iconst 0, 1) := by decide +kernel
theorem dX7_isEffort_2 : decode cX7_isEffort 2 = .ok (.iconst 4, 1) := by decide +kernel
theorem dX7_isEffort_3 : decode cX7_isEffort 3 = .ok (.invokestatic 52, 3) := by decide +kernel
theorem dX7_isEffort_6 : decode cX7_isEffort 6 = .ok (.ireturn, 1) := by decide +kernel
theorem dX7_areSeated_0 : decode cX7_areSeated 0 = .ok (.aload_n 0, 1) := by decide +kernel
theorem dX7_areSeated_1 : decode cX7_areSeated 1 = .ok (.getfield 12, 3) := by decide +kernel
theorem dX7_areSeated_4 : decode cX7_areSeated 4 = .ok (.aload_n 0, 1) := by decide +kernel
theorem dX7_areSeated_5 : decode cX7_areSeated 5 = .ok (.getfield 12, 3) := by decide +kernel
theorem dX7_areSeated_8 : decode cX7_areSeated 8 = .ok (.getfield 78, 3) := by decide +kernel
theorem dX7_areSeated_11 : decode cX7_areSeated 11 = .ok (.invokevirtual 70, 3) := by decide +kernel
theorem dX7_areSeated_14 : decode cX7_areSeated 14 = .ok (.ifCond .eq 24, 3) := by decide +kernel
theorem dX7_areSeated_17 : decode cX7_areSeated 17 = .ok (.aload_n 0, 1) := by decide +kernel
theorem dX7_areSeated_18 : decode cX7_areSeated 18 = .ok (.getfield 12, 3) := by decide +kernel
theorem dX7_areSeated_21 : decode cX7_areSeated 21 = .ok (.aload_n 0, 1) := by decide +kernel
theorem dX7_areSeated_22 : decode cX7_areSeated 22 = .ok (.getfield 12, 3) := by decide +kernel
theorem dX7_areSeated_25 : decode cX7_areSeated 25 = .ok (.getfield 82, 3) := by decide +kernel
theorem dX7_areSeated_28 : decode cX7_areSeated 28 = .ok (.invokevirtual 70, 3) := by decide +kernel
theorem dX7_areSeated_31 : decode cX7_areSeated 31 = .ok (.ifCond .eq 7, 3) := by decide +kernel
theorem dX7_areSeated_34 : decode cX7_areSeated 34 = .ok (.iconst 1, 1) := by decide +kernel
theorem dX7_areSeated_35 : decode cX7_areSeated 35 = .ok (.goto 4, 3) := by decide +kernel
theorem dX7_areSeated_38 : decode cX7_areSeated 38 = .ok (.iconst 0, 1) := by decide +kernel
theorem dX7_areSeated_39 : decode cX7_areSeated 39 = .ok (.ireturn, 1) := by decide +kernel
theorem dX7_planIsRidden_0 : decode cX7_planIsRidden 0 = .ok (.aload_n 0, 1) := by decide +kernel
theorem dX7_planIsRidden_1 : decode cX7_planIsRidden 1 = .ok (.getfield 34, 3) := by decide +kernel
theorem dX7_planIsRidden_4 : decode cX7_planIsRidden 4 = .ok (.aload_n 0, 1) := by decide +kernel
theorem dX7_planIsRidden_5 : decode cX7_planIsRidden 5 = .ok (.getfield 27, 3) := by decide +kernel
theorem dX7_planIsRidden_8 : decode cX7_planIsRidden 8 = .ok (.aload_n 0, 1) := by decide +kernel
theorem dX7_planIsRidden_9 : decode cX7_planIsRidden 9 = .ok (.getfield 12, 3) := by decide +kernel
theorem dX7_planIsRidden_12 : decode cX7_planIsRidden 12 = .ok (.getfield 104, 3) := by decide +kernel
theorem dX7_planIsRidden_15 : decode cX7_planIsRidden 15 = .ok (.invokevirtual 107, 3) := by decide +kernel
theorem dX7_planIsRidden_18 : decode cX7_planIsRidden 18 = .ok (.bipush (-6), 2) := by decide +kernel
theorem dX7_planIsRidden_20 : decode cX7_planIsRidden 20 = .ok (.if_icmp .eq 5, 3) := by decide +kernel
theorem dX7_planIsRidden_23 : decode cX7_planIsRidden 23 = .ok (.iconst 0, 1) := by decide +kernel
theorem dX7_planIsRidden_24 : decode cX7_planIsRidden 24 = .ok (.ireturn, 1) := by decide +kernel
theorem dX7_planIsRidden_25 : decode cX7_planIsRidden 25 = .ok (.aload_n 0, 1) := by decide +kernel
theorem dX7_planIsRidden_26 : decode cX7_planIsRidden 26 = .ok (.getfield 41, 3) := by decide +kernel
theorem dX7_planIsRidden_29 : decode cX7_planIsRidden 29 = .ok (.aload_n 0, 1) := by decide +kernel
theorem dX7_planIsRidden_30 : decode cX7_planIsRidden 30 = .ok (.getfield 12, 3) := by decide +kernel
theorem dX7_planIsRidden_33 : decode cX7_planIsRidden 33 = .ok (.aload_n 0, 1) := by decide +kernel
theorem dX7_planIsRidden_34 : decode cX7_planIsRidden 34 = .ok (.getfield 34, 3) := by decide +kernel
theorem dX7_planIsRidden_37 : decode cX7_planIsRidden 37 = .ok (.iconst (-1), 1) := by decide +kernel
theorem dX7_planIsRidden_38 : decode cX7_planIsRidden 38 = .ok (.invokevirtual 126, 3) := by decide +kernel
theorem dX7_planIsRidden_41 : decode cX7_planIsRidden 41 = .ok (.aload_n 0, 1) := by decide +kernel
theorem dX7_planIsRidden_42 : decode cX7_planIsRidden 42 = .ok (.getfield 41, 3) := by decide +kernel
theorem dX7_planIsRidden_45 : decode cX7_planIsRidden 45 = .ok (.getfield 130, 3) := by decide +kernel
theorem dX7_planIsRidden_48 : decode cX7_planIsRidden 48 = .ok (.bipush (-6), 2) := by decide +kernel
theorem dX7_planIsRidden_50 : decode cX7_planIsRidden 50 = .ok (.if_icmp .ne 7, 3) := by decide +kernel
theorem dX7_planIsRidden_53 : decode cX7_planIsRidden 53 = .ok (.iconst 1, 1) := by decide +kernel
theorem dX7_planIsRidden_54 : decode cX7_planIsRidden 54 = .ok (.goto 4, 3) := by decide +kernel
theorem dX7_planIsRidden_57 : decode cX7_planIsRidden 57 = .ok (.iconst 0, 1) := by decide +kernel
theorem dX7_planIsRidden_58 : decode cX7_planIsRidden 58 = .ok (.ireturn, 1) := by decide +kernel
theorem dX7_secondsAtBeat_0 : decode cX7_secondsAtBeat 0 = .ok (.aload_n 0, 1) := by decide +kernel
theorem dX7_secondsAtBeat_1 : decode cX7_secondsAtBeat 1 = .ok (.getfield 12, 3) := by decide +kernel
theorem dX7_secondsAtBeat_4 : decode cX7_secondsAtBeat 4 = .ok (.invokevirtual 171, 3) := by decide +kernel
theorem dX7_secondsAtBeat_7 : decode cX7_secondsAtBeat 7 = .ok (.iload_n 1, 1) := by decide +kernel
theorem dX7_secondsAtBeat_8 : decode cX7_secondsAtBeat 8 = .ok (.iload_n 3, 1) := by decide +kernel
theorem dX7_secondsAtBeat_9 : decode cX7_secondsAtBeat 9 = .ok (.invokevirtual 118, 3) := by decide +kernel
theorem dX7_secondsAtBeat_12 : decode cX7_secondsAtBeat 12 = .ok (.aload_n 0, 1) := by decide +kernel
theorem dX7_secondsAtBeat_13 : decode cX7_secondsAtBeat 13 = .ok (.getfield 12, 3) := by decide +kernel
theorem dX7_secondsAtBeat_16 : decode cX7_secondsAtBeat 16 = .ok (.invokevirtual 175, 3) := by decide +kernel
theorem dX7_secondsAtBeat_19 : decode cX7_secondsAtBeat 19 = .ok (.iload_n 2, 1) := by decide +kernel
theorem dX7_secondsAtBeat_20 : decode cX7_secondsAtBeat 20 = .ok (.iload_n 3, 1) := by decide +kernel
theorem dX7_secondsAtBeat_21 : decode cX7_secondsAtBeat 21 = .ok (.invokevirtual 118, 3) := by decide +kernel
theorem dX7_secondsAtBeat_24 : decode cX7_secondsAtBeat 24 = .ok (.iadd, 1) := by decide +kernel
theorem dX7_secondsAtBeat_25 : decode cX7_secondsAtBeat 25 = .ok (.istore 4, 2) := by decide +kernel
theorem dX7_secondsAtBeat_27 : decode cX7_secondsAtBeat 27 = .ok (.aload_n 0, 1) := by decide +kernel
theorem dX7_secondsAtBeat_28 : decode cX7_secondsAtBeat 28 = .ok (.getfield 12, 3) := by decide +kernel
theorem dX7_secondsAtBeat_31 : decode cX7_secondsAtBeat 31 = .ok (.iload 4, 2) := by decide +kernel
theorem dX7_secondsAtBeat_33 : decode cX7_secondsAtBeat 33 = .ok (.invokevirtual 292, 3) := by decide +kernel
theorem dX7_secondsAtBeat_36 : decode cX7_secondsAtBeat 36 = .ok (.ireturn, 1) := by decide +kernel
theorem dX7_mostTreads_0 : decode cX7_mostTreads 0 = .ok (.iconst 0, 1) := by decide +kernel
theorem dX7_mostTreads_1 : decode cX7_mostTreads 1 = .ok (.istore 4, 2) := by decide +kernel
theorem dX7_mostTreads_3 : decode cX7_mostTreads 3 = .ok (.iconst 4, 1) := by decide +kernel
theorem dX7_mostTreads_4 : decode cX7_mostTreads 4 = .ok (.istore 5, 2) := by decide +kernel
theorem dX7_mostTreads_6 : decode cX7_mostTreads 6 = .ok (.iload 5, 2) := by decide +kernel
theorem dX7_mostTreads_8 : decode cX7_mostTreads 8 = .ok (.bipush 10, 2) := by decide +kernel
theorem dX7_mostTreads_10 : decode cX7_mostTreads 10 = .ok (.if_icmp .gt 31, 3) := by decide +kernel
theorem dX7_mostTreads_13 : decode cX7_mostTreads 13 = .ok (.iload 4, 2) := by decide +kernel
theorem dX7_mostTreads_15 : decode cX7_mostTreads 15 = .ok (.aload_n 0, 1) := by decide +kernel
theorem dX7_mostTreads_16 : decode cX7_mostTreads 16 = .ok (.iload_n 1, 1) := by decide +kernel
theorem dX7_mostTreads_17 : decode cX7_mostTreads 17 = .ok (.iload 5, 2) := by decide +kernel
theorem dX7_mostTreads_19 : decode cX7_mostTreads 19 = .ok (.invokevirtual 118, 3) := by decide +kernel
theorem dX7_mostTreads_22 : decode cX7_mostTreads 22 = .ok (.aload_n 2, 1) := by decide +kernel
theorem dX7_mostTreads_23 : decode cX7_mostTreads 23 = .ok (.iload_n 3, 1) := by decide +kernel
theorem dX7_mostTreads_24 : decode cX7_mostTreads 24 = .ok (.iload 5, 2) := by decide +kernel
theorem dX7_mostTreads_26 : decode cX7_mostTreads 26 = .ok (.invokevirtual 118, 3) := by decide +kernel
theorem dX7_mostTreads_29 : decode cX7_mostTreads 29 = .ok (.iadd, 1) := by decide +kernel
theorem dX7_mostTreads_30 : decode cX7_mostTreads 30 = .ok (.invokestatic 206, 3) := by decide +kernel
theorem dX7_mostTreads_33 : decode cX7_mostTreads 33 = .ok (.istore 4, 2) := by decide +kernel
theorem dX7_mostTreads_35 : decode cX7_mostTreads 35 = .ok (.iinc 5 1, 3) := by decide +kernel
theorem dX7_mostTreads_38 : decode cX7_mostTreads 38 = .ok (.goto (-32), 3) := by decide +kernel
theorem dX7_mostTreads_41 : decode cX7_mostTreads 41 = .ok (.iload 4, 2) := by decide +kernel
theorem dX7_mostTreads_43 : decode cX7_mostTreads 43 = .ok (.ireturn, 1) := by decide +kernel
theorem dX7_unevenness_0 : decode cX7_unevenness 0 = .ok (.iload_n 1, 1) := by decide +kernel
theorem dX7_unevenness_1 : decode cX7_unevenness 1 = .ok (.aload_n 0, 1) := by decide +kernel
theorem dX7_unevenness_2 : decode cX7_unevenness 2 = .ok (.getfield 12, 3) := by decide +kernel
theorem dX7_unevenness_5 : decode cX7_unevenness 5 = .ok (.invokevirtual 171, 3) := by decide +kernel
theorem dX7_unevenness_8 : decode cX7_unevenness 8 = .ok (.getfield 280, 3) := by decide +kernel
theorem dX7_unevenness_11 : decode cX7_unevenness 11 = .ok (.imul, 1) := by decide +kernel
theorem dX7_unevenness_12 : decode cX7_unevenness 12 = .ok (.istore 4, 2) := by decide +kernel
theorem dX7_unevenness_14 : decode cX7_unevenness 14 = .ok (.iload_n 2, 1) := by decide +kernel
theorem dX7_unevenness_15 : decode cX7_unevenness 15 = .ok (.aload_n 0, 1) := by decide +kernel
theorem dX7_unevenness_16 : decode cX7_unevenness 16 = .ok (.getfield 12, 3) := by decide +kernel
theorem dX7_unevenness_19 : decode cX7_unevenness 19 = .ok (.invokevirtual 175, 3) := by decide +kernel
theorem dX7_unevenness_22 : decode cX7_unevenness 22 = .ok (.getfield 280, 3) := by decide +kernel
theorem dX7_unevenness_25 : decode cX7_unevenness 25 = .ok (.imul, 1) := by decide +kernel
theorem dX7_unevenness_26 : decode cX7_unevenness 26 = .ok (.istore 5, 2) := by decide +kernel
theorem dX7_unevenness_28 : decode cX7_unevenness 28 = .ok (.iconst 0, 1) := by decide +kernel
theorem dX7_unevenness_29 : decode cX7_unevenness 29 = .ok (.istore 6, 2) := by decide +kernel
theorem dX7_unevenness_31 : decode cX7_unevenness 31 = .ok (.ldc_w 265, 3) := by decide +kernel
theorem dX7_unevenness_34 : decode cX7_unevenness 34 = .ok (.istore 7, 2) := by decide +kernel
theorem dX7_unevenness_36 : decode cX7_unevenness 36 = .ok (.iconst 0, 1) := by decide +kernel
theorem dX7_unevenness_37 : decode cX7_unevenness 37 = .ok (.istore 8, 2) := by decide +kernel
theorem dX7_unevenness_39 : decode cX7_unevenness 39 = .ok (.iload 8, 2) := by decide +kernel
theorem dX7_unevenness_41 : decode cX7_unevenness 41 = .ok (.bipush 12, 2) := by decide +kernel
theorem dX7_unevenness_43 : decode cX7_unevenness 43 = .ok (.if_icmp .ge 51, 3) := by decide +kernel
theorem dX7_unevenness_46 : decode cX7_unevenness 46 = .ok (.iload 4, 2) := by decide +kernel
theorem dX7_unevenness_48 : decode cX7_unevenness 48 = .ok (.iload 8, 2) := by decide +kernel
theorem dX7_unevenness_50 : decode cX7_unevenness 50 = .ok (.invokestatic 295, 3) := by decide +kernel
theorem dX7_unevenness_53 : decode cX7_unevenness 53 = .ok (.imul, 1) := by decide +kernel
theorem dX7_unevenness_54 : decode cX7_unevenness 54 = .ok (.iload 5, 2) := by decide +kernel
theorem dX7_unevenness_56 : decode cX7_unevenness 56 = .ok (.iload 8, 2) := by decide +kernel
theorem dX7_unevenness_58 : decode cX7_unevenness 58 = .ok (.iload_n 3, 1) := by decide +kernel
theorem dX7_unevenness_59 : decode cX7_unevenness 59 = .ok (.iadd, 1) := by decide +kernel
theorem dX7_unevenness_60 : decode cX7_unevenness 60 = .ok (.bipush 12, 2) := by decide +kernel
theorem dX7_unevenness_62 : decode cX7_unevenness 62 = .ok (.irem, 1) := by decide +kernel
theorem dX7_unevenness_63 : decode cX7_unevenness 63 = .ok (.invokestatic 295, 3) := by decide +kernel
theorem dX7_unevenness_66 : decode cX7_unevenness 66 = .ok (.imul, 1) := by decide +kernel
theorem dX7_unevenness_67 : decode cX7_unevenness 67 = .ok (.iadd, 1) := by decide +kernel
theorem dX7_unevenness_68 : decode cX7_unevenness 68 = .ok (.istore 9, 2) := by decide +kernel
theorem dX7_unevenness_70 : decode cX7_unevenness 70 = .ok (.iload 6, 2) := by decide +kernel
theorem dX7_unevenness_72 : decode cX7_unevenness 72 = .ok (.iload 9, 2) := by decide +kernel
theorem dX7_unevenness_74 : decode cX7_unevenness 74 = .ok (.invokestatic 206, 3) := by decide +kernel
theorem dX7_unevenness_77 : decode cX7_unevenness 77 = .ok (.istore 6, 2) := by decide +kernel
theorem dX7_unevenness_79 : decode cX7_unevenness 79 = .ok (.iload 7, 2) := by decide +kernel
theorem dX7_unevenness_81 : decode cX7_unevenness 81 = .ok (.iload 9, 2) := by decide +kernel
theorem dX7_unevenness_83 : decode cX7_unevenness 83 = .ok (.invokestatic 240, 3) := by decide +kernel
theorem dX7_unevenness_86 : decode cX7_unevenness 86 = .ok (.istore 7, 2) := by decide +kernel
theorem dX7_unevenness_88 : decode cX7_unevenness 88 = .ok (.iinc 8 1, 3) := by decide +kernel
theorem dX7_unevenness_91 : decode cX7_unevenness 91 = .ok (.goto (-52), 3) := by decide +kernel
theorem dX7_unevenness_94 : decode cX7_unevenness 94 = .ok (.iload 6, 2) := by decide +kernel
theorem dX7_unevenness_96 : decode cX7_unevenness 96 = .ok (.iload 7, 2) := by decide +kernel
theorem dX7_unevenness_98 : decode cX7_unevenness 98 = .ok (.isub, 1) := by decide +kernel
theorem dX7_unevenness_99 : decode cX7_unevenness 99 = .ok (.ireturn, 1) := by decide +kernel
theorem dX7_crankAt_0 : decode cX7_crankAt 0 = .ok (.bipush 6, 2) := by decide +kernel
theorem dX7_crankAt_2 : decode cX7_crankAt 2 = .ok (.iload_n 0, 1) := by decide +kernel
theorem dX7_crankAt_3 : decode cX7_crankAt 3 = .ok (.bipush 6, 2) := by decide +kernel
theorem dX7_crankAt_5 : decode cX7_crankAt 5 = .ok (.isub, 1) := by decide +kernel
theorem dX7_crankAt_6 : decode cX7_crankAt 6 = .ok (.invokestatic 298, 3) := by decide +kernel
theorem dX7_crankAt_9 : decode cX7_crankAt 9 = .ok (.isub, 1) := by decide +kernel
theorem dX7_crankAt_10 : decode cX7_crankAt 10 = .ok (.ireturn, 1) := by decide +kernel
theorem dX7_believedBy_0 : decode cX7_believedBy 0 = .ok (.aload_n 0, 1) := by decide +kernel
theorem dX7_believedBy_1 : decode cX7_believedBy 1 = .ok (.getfield 41, 3) := by decide +kernel
theorem dX7_believedBy_4 : decode cX7_believedBy 4 = .ok (.getfield 158, 3) := by decide +kernel
theorem dX7_believedBy_7 : decode cX7_believedBy 7 = .ok (.aload_n 0, 1) := by decide +kernel
theorem dX7_believedBy_8 : decode cX7_believedBy 8 = .ok (.getfield 41, 3) := by decide +kernel
theorem dX7_believedBy_11 : decode cX7_believedBy 11 = .ok (.getfield 161, 3) := by decide +kernel
theorem dX7_believedBy_14 : decode cX7_believedBy 14 = .ok (.iadd, 1) := by decide +kernel
theorem dX7_believedBy_15 : decode cX7_believedBy 15 = .ok (.istore_n 3, 1) := by decide +kernel
theorem dX7_believedBy_16 : decode cX7_believedBy 16 = .ok (.iload_n 3, 1) := by decide +kernel
theorem dX7_believedBy_17 : decode cX7_believedBy 17 = .ok (.ifCond .ne 7, 3) := by decide +kernel
theorem dX7_believedBy_20 : decode cX7_believedBy 20 = .ok (.iconst 0, 1) := by decide +kernel
theorem dX7_believedBy_21 : decode cX7_believedBy 21 = .ok (.goto 9, 3) := by decide +kernel
theorem dX7_believedBy_24 : decode cX7_believedBy 24 = .ok (.bipush 100, 2) := by decide +kernel
theorem dX7_believedBy_26 : decode cX7_believedBy 26 = .ok (.iload_n 2, 1) := by decide +kernel
theorem dX7_believedBy_27 : decode cX7_believedBy 27 = .ok (.imul, 1) := by decide +kernel
theorem dX7_believedBy_28 : decode cX7_believedBy 28 = .ok (.iload_n 3, 1) := by decide +kernel
theorem dX7_believedBy_29 : decode cX7_believedBy 29 = .ok (.idiv, 1) := by decide +kernel
theorem dX7_believedBy_30 : decode cX7_believedBy 30 = .ok (.istore 4, 2) := by decide +kernel
theorem dX7_believedBy_32 : decode cX7_believedBy 32 = .ok (.bipush 100, 2) := by decide +kernel
theorem dX7_believedBy_34 : decode cX7_believedBy 34 = .ok (.iload 4, 2) := by decide +kernel
theorem dX7_believedBy_36 : decode cX7_believedBy 36 = .ok (.aload_n 1, 1) := by decide +kernel
theorem dX7_believedBy_37 : decode cX7_believedBy 37 = .ok (.getfield 289, 3) := by decide +kernel
theorem dX7_believedBy_40 : decode cX7_believedBy 40 = .ok (.iadd, 1) := by decide +kernel
theorem dX7_believedBy_41 : decode cX7_believedBy 41 = .ok (.invokestatic 240, 3) := by decide +kernel
theorem dX7_believedBy_44 : decode cX7_believedBy 44 = .ok (.ireturn, 1) := by decide +kernel
theorem dX7_chancesOfSlips_0 : decode cX7_chancesOfSlips 0 = .ok (.lconst 0, 1) := by decide +kernel
theorem dX7_chancesOfSlips_1 : decode cX7_chancesOfSlips 1 = .ok (.lstore_n 3, 1) := by decide +kernel
theorem dX7_chancesOfSlips_2 : decode cX7_chancesOfSlips 2 = .ok (.lconst 1, 1) := by decide +kernel
theorem dX7_chancesOfSlips_3 : decode cX7_chancesOfSlips 3 = .ok (.lstore 5, 2) := by decide +kernel
theorem dX7_chancesOfSlips_5 : decode cX7_chancesOfSlips 5 = .ok (.iconst 0, 1) := by decide +kernel
theorem dX7_chancesOfSlips_6 : decode cX7_chancesOfSlips 6 = .ok (.istore 7, 2) := by decide +kernel
theorem dX7_chancesOfSlips_8 : decode cX7_chancesOfSlips 8 = .ok (.iload 7, 2) := by decide +kernel
theorem dX7_chancesOfSlips_10 : decode cX7_chancesOfSlips 10 = .ok (.iload_n 1, 1) := by decide +kernel
theorem dX7_chancesOfSlips_11 : decode cX7_chancesOfSlips 11 = .ok (.if_icmp .gt 51, 3) := by decide +kernel
theorem dX7_chancesOfSlips_14 : decode cX7_chancesOfSlips 14 = .ok (.lload_n 3, 1) := by decide +kernel
theorem dX7_chancesOfSlips_15 : decode cX7_chancesOfSlips 15 = .ok (.lload 5, 2) := by decide +kernel
theorem dX7_chancesOfSlips_17 : decode cX7_chancesOfSlips 17 = .ok (.iload_n 2, 1) := by decide +kernel
theorem dX7_chancesOfSlips_18 : decode cX7_chancesOfSlips 18 = .ok (.i2l, 1) := by decide +kernel
theorem dX7_chancesOfSlips_19 : decode cX7_chancesOfSlips 19 = .ok (.iload 7, 2) := by decide +kernel
theorem dX7_chancesOfSlips_21 : decode cX7_chancesOfSlips 21 = .ok (.invokestatic 251, 3) := by decide +kernel
theorem dX7_chancesOfSlips_24 : decode cX7_chancesOfSlips 24 = .ok (.lmul, 1) := by decide +kernel
theorem dX7_chancesOfSlips_25 : decode cX7_chancesOfSlips 25 = .ok (.bipush 10, 2) := by decide +kernel
theorem dX7_chancesOfSlips_27 : decode cX7_chancesOfSlips 27 = .ok (.iload_n 2, 1) := by decide +kernel
theorem dX7_chancesOfSlips_28 : decode cX7_chancesOfSlips 28 = .ok (.isub, 1) := by decide +kernel
theorem dX7_chancesOfSlips_29 : decode cX7_chancesOfSlips 29 = .ok (.i2l, 1) := by decide +kernel
theorem dX7_chancesOfSlips_30 : decode cX7_chancesOfSlips 30 = .ok (.iload_n 0, 1) := by decide +kernel
theorem dX7_chancesOfSlips_31 : decode cX7_chancesOfSlips 31 = .ok (.iload 7, 2) := by decide +kernel
theorem dX7_chancesOfSlips_33 : decode cX7_chancesOfSlips 33 = .ok (.isub, 1) := by decide +kernel
theorem dX7_chancesOfSlips_34 : decode cX7_chancesOfSlips 34 = .ok (.invokestatic 251, 3) := by decide +kernel
theorem dX7_chancesOfSlips_37 : decode cX7_chancesOfSlips 37 = .ok (.lmul, 1) := by decide +kernel
theorem dX7_chancesOfSlips_38 : decode cX7_chancesOfSlips 38 = .ok (.ladd, 1) := by decide +kernel
theorem dX7_chancesOfSlips_39 : decode cX7_chancesOfSlips 39 = .ok (.lstore_n 3, 1) := by decide +kernel
theorem dX7_chancesOfSlips_40 : decode cX7_chancesOfSlips 40 = .ok (.lload 5, 2) := by decide +kernel
theorem dX7_chancesOfSlips_42 : decode cX7_chancesOfSlips 42 = .ok (.iload_n 0, 1) := by decide +kernel
theorem dX7_chancesOfSlips_43 : decode cX7_chancesOfSlips 43 = .ok (.iload 7, 2) := by decide +kernel
theorem dX7_chancesOfSlips_45 : decode cX7_chancesOfSlips 45 = .ok (.isub, 1) := by decide +kernel
theorem dX7_chancesOfSlips_46 : decode cX7_chancesOfSlips 46 = .ok (.i2l, 1) := by decide +kernel
theorem dX7_chancesOfSlips_47 : decode cX7_chancesOfSlips 47 = .ok (.lmul, 1) := by decide +kernel
theorem dX7_chancesOfSlips_48 : decode cX7_chancesOfSlips 48 = .ok (.iload 7, 2) := by decide +kernel
theorem dX7_chancesOfSlips_50 : decode cX7_chancesOfSlips 50 = .ok (.iconst 1, 1) := by decide +kernel
theorem dX7_chancesOfSlips_51 : decode cX7_chancesOfSlips 51 = .ok (.iadd, 1) := by decide +kernel
theorem dX7_chancesOfSlips_52 : decode cX7_chancesOfSlips 52 = .ok (.i2l, 1) := by decide +kernel
theorem dX7_chancesOfSlips_53 : decode cX7_chancesOfSlips 53 = .ok (.ldiv, 1) := by decide +kernel
theorem dX7_chancesOfSlips_54 : decode cX7_chancesOfSlips 54 = .ok (.lstore 5, 2) := by decide +kernel
theorem dX7_chancesOfSlips_56 : decode cX7_chancesOfSlips 56 = .ok (.iinc 7 1, 3) := by decide +kernel
theorem dX7_chancesOfSlips_59 : decode cX7_chancesOfSlips 59 = .ok (.goto (-51), 3) := by decide +kernel
theorem dX7_chancesOfSlips_62 : decode cX7_chancesOfSlips 62 = .ok (.lload_n 3, 1) := by decide +kernel
theorem dX7_chancesOfSlips_63 : decode cX7_chancesOfSlips 63 = .ok (.lreturn, 1) := by decide +kernel
theorem dX7_power_0 : decode cX7_power 0 = .ok (.lconst 1, 1) := by decide +kernel
theorem dX7_power_1 : decode cX7_power 1 = .ok (.lstore_n 3, 1) := by decide +kernel
theorem dX7_power_2 : decode cX7_power 2 = .ok (.iconst 0, 1) := by decide +kernel
theorem dX7_power_3 : decode cX7_power 3 = .ok (.istore 5, 2) := by decide +kernel
theorem dX7_power_5 : decode cX7_power 5 = .ok (.iload 5, 2) := by decide +kernel
theorem dX7_power_7 : decode cX7_power 7 = .ok (.iload_n 2, 1) := by decide +kernel
theorem dX7_power_8 : decode cX7_power 8 = .ok (.if_icmp .ge 13, 3) := by decide +kernel
theorem dX7_power_11 : decode cX7_power 11 = .ok (.lload_n 3, 1) := by decide +kernel
theorem dX7_power_12 : decode cX7_power 12 = .ok (.lload_n 0, 1) := by decide +kernel
theorem dX7_power_13 : decode cX7_power 13 = .ok (.lmul, 1) := by decide +kernel
theorem dX7_power_14 : decode cX7_power 14 = .ok (.lstore_n 3, 1) := by decide +kernel
theorem dX7_power_15 : decode cX7_power 15 = .ok (.iinc 5 1, 3) := by decide +kernel
theorem dX7_power_18 : decode cX7_power 18 = .ok (.goto (-13), 3) := by decide +kernel
theorem dX7_power_21 : decode cX7_power 21 = .ok (.lload_n 3, 1) := by decide +kernel
theorem dX7_power_22 : decode cX7_power 22 = .ok (.lreturn, 1) := by decide +kernel
theorem dX7_fractionPart_0 : decode cX7_fractionPart 0 = .ok (.lload_n 2, 1) := by decide +kernel
theorem dX7_fractionPart_1 : decode cX7_fractionPart 1 = .ok (.lstore 5, 2) := by decide +kernel
theorem dX7_fractionPart_3 : decode cX7_fractionPart 3 = .ok (.lload_n 0, 1) := by decide +kernel
theorem dX7_fractionPart_4 : decode cX7_fractionPart 4 = .ok (.lstore 7, 2) := by decide +kernel
theorem dX7_fractionPart_6 : decode cX7_fractionPart 6 = .ok (.iconst 0, 1) := by decide +kernel
theorem dX7_fractionPart_7 : decode cX7_fractionPart 7 = .ok (.istore 9, 2) := by decide +kernel
theorem dX7_fractionPart_9 : decode cX7_fractionPart 9 = .ok (.iload 9, 2) := by decide +kernel
theorem dX7_fractionPart_11 : decode cX7_fractionPart 11 = .ok (.sipush 1000, 3) := by decide +kernel
theorem dX7_fractionPart_14 : decode cX7_fractionPart 14 = .ok (.if_icmp .ge 31, 3) := by decide +kernel
theorem dX7_fractionPart_17 : decode cX7_fractionPart 17 = .ok (.lload 7, 2) := by decide +kernel
theorem dX7_fractionPart_19 : decode cX7_fractionPart 19 = .ok (.lconst 0, 1) := by decide +kernel
theorem dX7_fractionPart_20 : decode cX7_fractionPart 20 = .ok (.lcmp, 1) := by decide +kernel
theorem dX7_fractionPart_21 : decode cX7_fractionPart 21 = .ok (.ifCond .eq 24, 3) := by decide +kernel
theorem dX7_fractionPart_24 : decode cX7_fractionPart 24 = .ok (.lload 5, 2) := by decide +kernel
theorem dX7_fractionPart_26 : decode cX7_fractionPart 26 = .ok (.lload 7, 2) := by decide +kernel
theorem dX7_fractionPart_28 : decode cX7_fractionPart 28 = .ok (.lrem, 1) := by decide +kernel
theorem dX7_fractionPart_29 : decode cX7_fractionPart 29 = .ok (.lstore 10, 2) := by decide +kernel
theorem dX7_fractionPart_31 : decode cX7_fractionPart 31 = .ok (.lload 7, 2) := by decide +kernel
theorem dX7_fractionPart_33 : decode cX7_fractionPart 33 = .ok (.lstore 5, 2) := by decide +kernel
theorem dX7_fractionPart_35 : decode cX7_fractionPart 35 = .ok (.lload 10, 2) := by decide +kernel
theorem dX7_fractionPart_37 : decode cX7_fractionPart 37 = .ok (.lstore 7, 2) := by decide +kernel
theorem dX7_fractionPart_39 : decode cX7_fractionPart 39 = .ok (.iinc 9 1, 3) := by decide +kernel
theorem dX7_fractionPart_42 : decode cX7_fractionPart 42 = .ok (.goto (-33), 3) := by decide +kernel
theorem dX7_fractionPart_45 : decode cX7_fractionPart 45 = .ok (.lload 5, 2) := by decide +kernel
theorem dX7_fractionPart_47 : decode cX7_fractionPart 47 = .ok (.lconst 0, 1) := by decide +kernel
theorem dX7_fractionPart_48 : decode cX7_fractionPart 48 = .ok (.lcmp, 1) := by decide +kernel
theorem dX7_fractionPart_49 : decode cX7_fractionPart 49 = .ok (.ifCond .ne 7, 3) := by decide +kernel
theorem dX7_fractionPart_52 : decode cX7_fractionPart 52 = .ok (.iload 4, 2) := by decide +kernel
theorem dX7_fractionPart_54 : decode cX7_fractionPart 54 = .ok (.i2l, 1) := by decide +kernel
theorem dX7_fractionPart_55 : decode cX7_fractionPart 55 = .ok (.lreturn, 1) := by decide +kernel
theorem dX7_fractionPart_56 : decode cX7_fractionPart 56 = .ok (.iload 4, 2) := by decide +kernel
theorem dX7_fractionPart_58 : decode cX7_fractionPart 58 = .ok (.ifCond .ne 7, 3) := by decide +kernel
theorem dX7_fractionPart_61 : decode cX7_fractionPart 61 = .ok (.lload_n 0, 1) := by decide +kernel
theorem dX7_fractionPart_62 : decode cX7_fractionPart 62 = .ok (.goto 4, 3) := by decide +kernel
theorem dX7_fractionPart_65 : decode cX7_fractionPart 65 = .ok (.lload_n 2, 1) := by decide +kernel
theorem dX7_fractionPart_66 : decode cX7_fractionPart 66 = .ok (.lload 5, 2) := by decide +kernel
theorem dX7_fractionPart_68 : decode cX7_fractionPart 68 = .ok (.ldiv, 1) := by decide +kernel
theorem dX7_fractionPart_69 : decode cX7_fractionPart 69 = .ok (.lreturn, 1) := by decide +kernel
theorem dX8_init_0 : decode cX8_init 0 = .ok (.aload_n 0, 1) := by decide +kernel
theorem dX8_init_1 : decode cX8_init 1 = .ok (.invokespecial 1, 3) := by decide +kernel
theorem dX8_init_4 : decode cX8_init 4 = .ok (.aload_n 0, 1) := by decide +kernel
theorem dX8_init_5 : decode cX8_init 5 = .ok (.iconst 4, 1) := by decide +kernel
theorem dX8_init_6 : decode cX8_init 6 = .ok (.newarray .int, 2) := by decide +kernel
theorem dX8_init_8 : decode cX8_init 8 = .ok (.putfield 7, 3) := by decide +kernel
theorem dX8_init_11 : decode cX8_init 11 = .ok (.aload_n 0, 1) := by decide +kernel
theorem dX8_init_12 : decode cX8_init 12 = .ok (.iconst 4, 1) := by decide +kernel
theorem dX8_init_13 : decode cX8_init 13 = .ok (.newarray .int, 2) := by decide +kernel
theorem dX8_init_15 : decode cX8_init 15 = .ok (.putfield 13, 3) := by decide +kernel
theorem dX8_init_18 : decode cX8_init 18 = .ok (.aload_n 0, 1) := by decide +kernel
theorem dX8_init_19 : decode cX8_init 19 = .ok (.iconst 4, 1) := by decide +kernel
theorem dX8_init_20 : decode cX8_init 20 = .ok (.newarray .int, 2) := by decide +kernel
theorem dX8_init_22 : decode cX8_init 22 = .ok (.putfield 16, 3) := by decide +kernel
theorem dX8_init_25 : decode cX8_init 25 = .ok (.aload_n 0, 1) := by decide +kernel
theorem dX8_init_26 : decode cX8_init 26 = .ok (.iconst 4, 1) := by decide +kernel
theorem dX8_init_27 : decode cX8_init 27 = .ok (.newarray .int, 2) := by decide +kernel
theorem dX8_init_29 : decode cX8_init 29 = .ok (.putfield 19, 3) := by decide +kernel
theorem dX8_init_32 : decode cX8_init 32 = .ok (.aload_n 0, 1) := by decide +kernel
theorem dX8_init_33 : decode cX8_init 33 = .ok (.bipush 24, 2) := by decide +kernel
theorem dX8_init_35 : decode cX8_init 35 = .ok (.newarray .int, 2) := by decide +kernel
theorem dX8_init_37 : decode cX8_init 37 = .ok (.putfield 22, 3) := by decide +kernel
theorem dX8_init_40 : decode cX8_init 40 = .ok (.aload_n 0, 1) := by decide +kernel
theorem dX8_init_41 : decode cX8_init 41 = .ok (.bipush 6, 2) := by decide +kernel
theorem dX8_init_43 : decode cX8_init 43 = .ok (.newarray .int, 2) := by decide +kernel
theorem dX8_init_45 : decode cX8_init 45 = .ok (.putfield 25, 3) := by decide +kernel
theorem dX8_init_48 : decode cX8_init 48 = .ok (.aload_n 0, 1) := by decide +kernel
theorem dX8_init_49 : decode cX8_init 49 = .ok (.bipush 6, 2) := by decide +kernel
theorem dX8_init_51 : decode cX8_init 51 = .ok (.newarray .int, 2) := by decide +kernel
theorem dX8_init_53 : decode cX8_init 53 = .ok (.putfield 28, 3) := by decide +kernel
theorem dX8_init_56 : decode cX8_init 56 = .ok (.aload_n 0, 1) := by decide +kernel
theorem dX8_init_57 : decode cX8_init 57 = .ok (.bipush 6, 2) := by decide +kernel
theorem dX8_init_59 : decode cX8_init 59 = .ok (.newarray .int, 2) := by decide +kernel
theorem dX8_init_61 : decode cX8_init 61 = .ok (.putfield 31, 3) := by decide +kernel
theorem dX8_init_64 : decode cX8_init 64 = .ok (.aload_n 0, 1) := by decide +kernel
theorem dX8_init_65 : decode cX8_init 65 = .ok (.bipush 6, 2) := by decide +kernel
theorem dX8_init_67 : decode cX8_init 67 = .ok (.newarray .int, 2) := by decide +kernel
theorem dX8_init_69 : decode cX8_init 69 = .ok (.putfield 34, 3) := by decide +kernel
theorem dX8_init_72 : decode cX8_init 72 = .ok (.aload_n 0, 1) := by decide +kernel
theorem dX8_init_73 : decode cX8_init 73 = .ok (.bipush 110, 2) := by decide +kernel
theorem dX8_init_75 : decode cX8_init 75 = .ok (.newarray .int, 2) := by decide +kernel
theorem dX8_init_77 : decode cX8_init 77 = .ok (.putfield 37, 3) := by decide +kernel
theorem dX8_init_80 : decode cX8_init 80 = .ok (.aload_n 0, 1) := by decide +kernel
theorem dX8_init_81 : decode cX8_init 81 = .ok (.bipush 24, 2) := by decide +kernel
theorem dX8_init_83 : decode cX8_init 83 = .ok (.newarray .int, 2) := by decide +kernel
theorem dX8_init_85 : decode cX8_init 85 = .ok (.putfield 40, 3) := by decide +kernel
theorem dX8_init_88 : decode cX8_init 88 = .ok (.aload_n 0, 1) := by decide +kernel
theorem dX8_init_89 : decode cX8_init 89 = .ok (.bipush 24, 2) := by decide +kernel
theorem dX8_init_91 : decode cX8_init 91 = .ok (.newarray .int, 2) := by decide +kernel
theorem dX8_init_93 : decode cX8_init 93 = .ok (.putfield 43, 3) := by decide +kernel
theorem dX8_init_96 : decode cX8_init 96 = .ok (.aload_n 0, 1) := by decide +kernel
theorem dX8_init_97 : decode cX8_init 97 = .ok (.bipush 24, 2) := by decide +kernel
theorem dX8_init_99 : decode cX8_init 99 = .ok (.newarray .int, 2) := by decide +kernel
theorem dX8_init_101 : decode cX8_init 101 = .ok (.putfield 46, 3) := by decide +kernel
theorem dX8_init_104 : decode cX8_init 104 = .ok (.aload_n 0, 1) := by decide +kernel
theorem dX8_init_105 : decode cX8_init 105 = .ok (.bipush 24, 2) := by decide +kernel
theorem dX8_init_107 : decode cX8_init 107 = .ok (.newarray .int, 2) := by decide +kernel
theorem dX8_init_109 : decode cX8_init 109 = .ok (.putfield 49, 3) := by decide +kernel
theorem dX8_init_112 : decode cX8_init 112 = .ok (.aload_n 0, 1) := by decide +kernel
theorem dX8_init_113 : decode cX8_init 113 = .ok (.sipush 2100, 3) := by decide +kernel
theorem dX8_init_116 : decode cX8_init 116 = .ok (.newarray .int, 2) := by decide +kernel
theorem dX8_init_118 : decode cX8_init 118 = .ok (.putfield 52, 3) := by decide +kernel
theorem dX8_init_121 : decode cX8_init 121 = .ok (.aload_n 0, 1) := by decide +kernel
theorem dX8_init_122 : decode cX8_init 122 = .ok (.sipush 2100, 3) := by decide +kernel
theorem dX8_init_125 : decode cX8_init 125 = .ok (.newarray .int, 2) := by decide +kernel
theorem dX8_init_127 : decode cX8_init 127 = .ok (.putfield 55, 3) := by decide +kernel
theorem dX8_init_130 : decode cX8_init 130 = .ok (.aload_n 0, 1) := by decide +kernel
theorem dX8_init_131 : decode cX8_init 131 = .ok (.bipush 25, 2) := by decide +kernel
theorem dX8_init_133 : decode cX8_init 133 = .ok (.newarray .int, 2) := by decide +kernel
theorem dX8_init_135 : decode cX8_init 135 = .ok (.putfield 58, 3) := by decide +kernel
theorem dX8_init_138 : decode cX8_init 138 = .ok (.aload_n 0, 1) := by decide +kernel
theorem dX8_init_139 : decode cX8_init 139 = .ok (.sipush 160, 3) := by decide +kernel
theorem dX8_init_142 : decode cX8_init 142 = .ok (.newarray .int, 2) := by decide +kernel
theorem dX8_init_144 : decode cX8_init 144 = .ok (.putfield 61, 3) := by decide +kernel
theorem dX8_init_147 : decode cX8_init 147 = .ok (.aload_n 0, 1) := by decide +kernel
theorem dX8_init_148 : decode cX8_init 148 = .ok (.iconst 2, 1) := by decide +kernel
theorem dX8_init_149 : decode cX8_init 149 = .ok (.newarray .boolean, 2) := by decide +kernel
theorem dX8_init_151 : decode cX8_init 151 = .ok (.putfield 64, 3) := by decide +kernel
theorem dX8_init_154 : decode cX8_init 154 = .ok (.aload_n 0, 1) := by decide +kernel
theorem dX8_init_155 : decode cX8_init 155 = .ok (.iconst 1, 1) := by decide +kernel
theorem dX8_init_156 : decode cX8_init 156 = .ok (.putfield 68, 3) := by decide +kernel
theorem dX8_init_159 : decode cX8_init 159 = .ok (.aload_n 0, 1) := by decide +kernel
theorem dX8_init_160 : decode cX8_init 160 = .ok (.bipush 10, 2) := by decide +kernel
theorem dX8_init_162 : decode cX8_init 162 = .ok (.putfield 72, 3) := by decide +kernel
theorem dX8_init_165 : decode cX8_init 165 = .ok (.aload_n 0, 1) := by decide +kernel
theorem dX8_init_166 : decode cX8_init 166 = .ok (.bipush 60, 2) := by decide +kernel
theorem dX8_init_168 : decode cX8_init 168 = .ok (.putfield 75, 3) := by decide +kernel
theorem dX8_init_171 : decode cX8_init 171 = .ok (.aload_n 0, 1) := by decide +kernel
theorem dX8_init_172 : decode cX8_init 172 = .ok (.bipush 10, 2) := by decide +kernel
theorem dX8_init_174 : decode cX8_init 174 = .ok (.putfield 78, 3) := by decide +kernel
theorem dX8_init_177 : decode cX8_init 177 = .ok (.aload_n 0, 1) := by decide +kernel
theorem dX8_init_178 : decode cX8_init 178 = .ok (.iconst 1, 1) := by decide +kernel
theorem dX8_init_179 : decode cX8_init 179 = .ok (.putfield 81, 3) := by decide +kernel
theorem dX8_init_182 : decode cX8_init 182 = .ok (.aload_n 0, 1) := by decide +kernel
theorem dX8_init_183 : decode cX8_init 183 = .ok (.getfield 22, 3) := by decide +kernel
theorem dX8_init_186 : decode cX8_init 186 = .ok (.iconst 0, 1) := by decide +kernel
theorem dX8_init_187 : decode cX8_init 187 = .ok (.bipush 46, 2) := by decide +kernel
theorem dX8_init_189 : decode cX8_init 189 = .ok (.iastore, 1) := by decide +kernel
theorem dX8_init_190 : decode cX8_init 190 = .ok (.return_, 1) := by decide +kernel
theorem dX8_in_0 : decode cX8_in 0 = .ok (.lload_n 0, 1) := by decide +kernel
theorem dX8_in_1 : decode cX8_in 1 = .ok (.lload_n 2, 1) := by decide +kernel
theorem dX8_in_2 : decode cX8_in 2 = .ok (.lcmp, 1) := by decide +kernel
theorem dX8_in_3 : decode cX8_in 3 = .ok (.ifCond .lt 14, 3) := by decide +kernel
theorem dX8_in_6 : decode cX8_in 6 = .ok (.lload_n 0, 1) := by decide +kernel
theorem dX8_in_7 : decode cX8_in 7 = .ok (.lload 4, 2) := by decide +kernel
theorem dX8_in_9 : decode cX8_in 9 = .ok (.lcmp, 1) := by decide +kernel
theorem dX8_in_10 : decode cX8_in 10 = .ok (.ifCond .gt 7, 3) := by decide +kernel
theorem dX8_in_13 : decode cX8_in 13 = .ok (.iconst 1, 1) := by decide +kernel
theorem dX8_in_14 : decode cX8_in 14 = .ok (.goto 4, 3) := by decide +kernel
theorem dX8_in_17 : decode cX8_in 17 = .ok (.iconst 0, 1) := by decide +kernel
theorem dX8_in_18 : decode cX8_in 18 = .ok (.ireturn, 1) := by decide +kernel
theorem dX8_ones_0 : decode cX8_ones 0 = .ok (.iconst 0, 1) := by decide +kernel
theorem dX8_ones_1 : decode cX8_ones 1 = .ok (.istore_n 1, 1) := by decide +kernel
theorem dX8_ones_2 : decode cX8_ones 2 = .ok (.iload_n 0, 1) := by decide +kernel
theorem dX8_ones_3 : decode cX8_ones 3 = .ok (.istore_n 2, 1) := by decide +kernel
theorem dX8_ones_4 : decode cX8_ones 4 = .ok (.iload_n 2, 1) := by decide +kernel
theorem dX8_ones_5 : decode cX8_ones 5 = .ok (.ifCond .eq 15, 3) := by decide +kernel
theorem dX8_ones_8 : decode cX8_ones 8 = .ok (.iinc 1 1, 3) := by decide +kernel
theorem dX8_ones_11 : decode cX8_ones 11 = .ok (.iload_n 2, 1) := by decide +kernel
theorem dX8_ones_12 : decode cX8_ones 12 = .ok (.iload_n 2, 1) := by decide +kernel
theorem dX8_ones_13 : decode cX8_ones 13 = .ok (.iconst 1, 1) := by decide +kernel
theorem dX8_ones_14 : decode cX8_ones 14 = .ok (.isub, 1) := by decide +kernel
theorem dX8_ones_15 : decode cX8_ones 15 = .ok (.iand, 1) := by decide +kernel
theorem dX8_ones_16 : decode cX8_ones 16 = .ok (.istore_n 2, 1) := by decide +kernel
theorem dX8_ones_17 : decode cX8_ones 17 = .ok (.goto (-13), 3) := by decide +kernel
theorem dX8_ones_20 : decode cX8_ones 20 = .ok (.iload_n 1, 1) := by decide +kernel
theorem dX8_ones_21 : decode cX8_ones 21 = .ok (.ireturn, 1) := by decide +kernel
theorem dX8_isNumber_0 : decode cX8_isNumber 0 = .ok (.iload_n 0, 1) := by decide +kernel
theorem dX8_isNumber_1 : decode cX8_isNumber 1 = .ok (.i2l, 1) := by decide +kernel
theorem dX8_isNumber_2 : decode cX8_isNumber 2 = .ok (.lconst 0, 1) := by decide +kernel
theorem dX8_isNumber_3 : decode cX8_isNumber 3 = .ok (.ldc2_w 84, 3) := by decide +kernel
theorem dX8_isNumber_6 : decode cX8_isNumber 6 = .ok (.invokestatic 86, 3) := by decide +kernel
theorem dX8_isNumber_9 : decode cX8_isNumber 9 = .ok (.ireturn, 1) := by decide +kernel
theorem dX8_isThere_0 : decode cX8_isThere 0 = .ok (.iload_n 1, 1) := by decide +kernel
theorem dX8_isThere_1 : decode cX8_isThere 1 = .ok (.invokestatic 90, 3) := by decide +kernel
theorem dX8_isThere_4 : decode cX8_isThere 4 = .ok (.ifCond .eq 19, 3) := by decide +kernel
theorem dX8_isThere_7 : decode cX8_isThere 7 = .ok (.aload_n 0, 1) := by decide +kernel
theorem dX8_isThere_8 : decode cX8_isThere 8 = .ok (.getfield 94, 3) := by decide +kernel
theorem dX8_isThere_11 : decode cX8_isThere 11 = .ok (.iload_n 1, 1) := by decide +kernel
theorem dX8_isThere_12 : decode cX8_isThere 12 = .ok (.ishr, 1) := by decide +kernel
theorem dX8_isThere_13 : decode cX8_isThere 13 = .ok (.iconst 1, 1) := by decide +kernel
theorem dX8_isThere_14 : decode cX8_isThere 14 = .ok (.iand, 1) := by decide +kernel
theorem dX8_isThere_15 : decode cX8_isThere 15 = .ok (.iconst 1, 1) := by decide +kernel
theorem dX8_isThere_16 : decode cX8_isThere 16 = .ok (.if_icmp .ne 7, 3) := by decide +kernel
theorem dX8_isThere_19 : decode cX8_isThere 19 = .ok (.iconst 1, 1) := by decide +kernel
theorem dX8_isThere_20 : decode cX8_isThere 20 = .ok (.goto 4, 3) := by decide +kernel
theorem dX8_isThere_23 : decode cX8_isThere 23 = .ok (.iconst 0, 1) := by decide +kernel
theorem dX8_isThere_24 : decode cX8_isThere 24 = .ok (.ireturn, 1) := by decide +kernel
theorem dX8_rider_0 : decode cX8_rider 0 = .ok (.iload_n 1, 1) := by decide +kernel
theorem dX8_rider_1 : decode cX8_rider 1 = .ok (.invokestatic 90, 3) := by decide +kernel
theorem dX8_rider_4 : decode cX8_rider 4 = .ok (.ifCond .ne 5, 3) := by decide +kernel
theorem dX8_rider_7 : decode cX8_rider 7 = .ok (.iconst (-1), 1) := by decide +kernel
theorem dX8_rider_8 : decode cX8_rider 8 = .ok (.ireturn, 1) := by decide +kernel
theorem dX8_rider_9 : decode cX8_rider 9 = .ok (.iload_n 2, 1) := by decide +kernel
theorem dX8_rider_10 : decode cX8_rider 10 = .ok (.i2l, 1) := by decide +kernel
theorem dX8_rider_11 : decode cX8_rider 11 = .ok (.lconst 1, 1) := by decide +kernel
theorem dX8_rider_12 : decode cX8_rider 12 = .ok (.ldc2_w 97, 3) := by decide +kernel
theorem dX8_rider_15 : decode cX8_rider 15 = .ok (.invokestatic 86, 3) := by decide +kernel
theorem dX8_rider_18 : decode cX8_rider 18 = .ok (.ifCond .eq 36, 3) := by decide +kernel
theorem dX8_rider_21 : decode cX8_rider 21 = .ok (.iload_n 3, 1) := by decide +kernel
theorem dX8_rider_22 : decode cX8_rider 22 = .ok (.invokestatic 99, 3) := by decide +kernel
theorem dX8_rider_25 : decode cX8_rider 25 = .ok (.ifCond .eq 29, 3) := by decide +kernel
theorem dX8_rider_28 : decode cX8_rider 28 = .ok (.iload 4, 2) := by decide +kernel
theorem dX8_rider_30 : decode cX8_rider 30 = .ok (.i2l, 1) := by decide +kernel
theorem dX8_rider_31 : decode cX8_rider 31 = .ok (.lconst 1, 1) := by decide +kernel
theorem dX8_rider_32 : decode cX8_rider 32 = .ok (.ldc2_w 102, 3) := by decide +kernel
theorem dX8_rider_35 : decode cX8_rider 35 = .ok (.invokestatic 86, 3) := by decide +kernel
theorem dX8_rider_38 : decode cX8_rider 38 = .ok (.ifCond .eq 16, 3) := by decide +kernel
theorem dX8_rider_41 : decode cX8_rider 41 = .ok (.iload 5, 2) := by decide +kernel
theorem dX8_rider_43 : decode cX8_rider 43 = .ok (.i2l, 1) := by decide +kernel
theorem dX8_rider_44 : decode cX8_rider 44 = .ok (.lconst 0, 1) := by decide +kernel
theorem dX8_rider_45 : decode cX8_rider 45 = .ok (.ldc2_w 104, 3) := by decide +kernel
theorem dX8_rider_48 : decode cX8_rider 48 = .ok (.invokestatic 86, 3) := by decide +kernel
theorem dX8_rider_51 : decode cX8_rider 51 = .ok (.ifCond .ne 6, 3) := by decide +kernel
theorem dX8_rider_54 : decode cX8_rider 54 = .ok (.bipush (-2), 2) := by decide +kernel
theorem dX8_rider_56 : decode cX8_rider 56 = .ok (.ireturn, 1) := by decide +kernel
theorem dX8_rider_57 : decode cX8_rider 57 = .ok (.aload_n 0, 1) := by decide +kernel
theorem dX8_rider_58 : decode cX8_rider 58 = .ok (.getfield 7, 3) := by decide +kernel
theorem dX8_rider_61 : decode cX8_rider 61 = .ok (.iload_n 1, 1) := by decide +kernel
theorem dX8_rider_62 : decode cX8_rider 62 = .ok (.iload_n 2, 1) := by decide +kernel
theorem dX8_rider_63 : decode cX8_rider 63 = .ok (.iastore, 1) := by decide +kernel
theorem dX8_rider_64 : decode cX8_rider 64 = .ok (.aload_n 0, 1) := by decide +kernel
theorem dX8_rider_65 : decode cX8_rider 65 = .ok (.getfield 13, 3) := by decide +kernel
theorem dX8_rider_68 : decode cX8_rider 68 = .ok (.iload_n 1, 1) := by decide +kernel
theorem dX8_rider_69 : decode cX8_rider 69 = .ok (.iload_n 3, 1) := by decide +kernel
theorem dX8_rider_70 : decode cX8_rider 70 = .ok (.iastore, 1) := by decide +kernel
theorem dX8_rider_71 : decode cX8_rider 71 = .ok (.aload_n 0, 1) := by decide +kernel
theorem dX8_rider_72 : decode cX8_rider 72 = .ok (.getfield 16, 3) := by decide +kernel
theorem dX8_rider_75 : decode cX8_rider 75 = .ok (.iload_n 1, 1) := by decide +kernel
theorem dX8_rider_76 : decode cX8_rider 76 = .ok (.iload 4, 2) := by decide +kernel
theorem dX8_rider_78 : decode cX8_rider 78 = .ok (.iastore, 1) := by decide +kernel
theorem dX8_rider_79 : decode cX8_rider 79 = .ok (.aload_n 0, 1) := by decide +kernel
theorem dX8_rider_80 : decode cX8_rider 80 = .ok (.getfield 19, 3) := by decide +kernel
theorem dX8_rider_83 : decode cX8_rider 83 = .ok (.iload_n 1, 1) := by decide +kernel
theorem dX8_rider_84 : decode cX8_rider 84 = .ok (.iload 5, 2) := by decide +kernel
theorem dX8_rider_86 : decode cX8_rider 86 = .ok (.iastore, 1) := by decide +kernel
theorem dX8_rider_87 : decode cX8_rider 87 = .ok (.aload_n 0, 1) := by decide +kernel
theorem dX8_rider_88 : decode cX8_rider 88 = .ok (.dup, 1) := by decide +kernel
theorem dX8_rider_89 : decode cX8_rider 89 = .ok (.getfield 94, 3) := by decide +kernel
theorem dX8_rider_92 : decode cX8_rider 92 = .ok (.iconst 1, 1) := by decide +kernel
theorem dX8_rider_93 : decode cX8_rider 93 = .ok (.iload_n 1, 1) := by decide +kernel
theorem dX8_rider_94 : decode cX8_rider 94 = .ok (.ishl, 1) := by decide +kernel
theorem dX8_rider_95 : decode cX8_rider 95 = .ok (.ior, 1) := by decide +kernel
theorem dX8_rider_96 : decode cX8_rider 96 = .ok (.putfield 94, 3) := by decide +kernel
theorem dX8_rider_99 : decode cX8_rider 99 = .ok (.aload_n 0, 1) := by decide +kernel
theorem dX8_rider_100 : decode cX8_rider 100 = .ok (.getfield 94, 3) := by decide +kernel
theorem dX8_rider_103 : decode cX8_rider 103 = .ok (.invokestatic 106, 3) := by decide +kernel
theorem dX8_rider_106 : decode cX8_rider 106 = .ok (.ireturn, 1) := by decide +kernel
theorem dX8_leave_0 : decode cX8_leave 0 = .ok (.aload_n 0, 1) := by decide +kernel
theorem dX8_leave_1 : decode cX8_leave 1 = .ok (.iload_n 1, 1) := by decide +kernel
theorem dX8_leave_2 : decode cX8_leave 2 = .ok (.invokevirtual 110, 3) := by decide +kernel
theorem dX8_leave_5 : decode cX8_leave 5 = .ok (.ifCond .ne 5, 3) := by decide +kernel
theorem dX8_leave_8 : decode cX8_leave 8 = .ok (.iconst (-1), 1) := by decide +kernel
theorem dX8_leave_9 : decode cX8_leave 9 = .ok (.ireturn, 1) := by decide +kernel
theorem dX8_leave_10 : decode cX8_leave 10 = .ok (.aload_n 0, 1) := by decide +kernel
theorem dX8_leave_11 : decode cX8_leave 11 = .ok (.dup, 1) := by decide +kernel
theorem dX8_leave_12 : decode cX8_leave 12 = .ok (.getfield 94, 3) := by decide +kernel
theorem dX8_leave_15 : decode cX8_leave 15 = .ok (.iconst 1, 1) := by decide +kernel
theorem dX8_leave_16 : decode cX8_leave 16 = .ok (.iload_n 1, 1) := by decide +kernel
theorem dX8_leave_17 : decode cX8_leave 17 = .ok (.ishl, 1) := by decide +kernel
theorem dX8_leave_18 : decode cX8_leave 18 = .ok (.iconst (-1), 1) := by decide +kernel
theorem dX8_leave_19 : decode cX8_leave 19 = .ok (.ixor, 1) := by decide +kernel
theorem dX8_leave_20 : decode cX8_leave 20 = .ok (.iand, 1) := by decide +kernel
theorem dX8_leave_21 : decode cX8_leave 21 = .ok (.putfield 94, 3) := by decide +kernel
theorem dX8_leave_24 : decode cX8_leave 24 = .ok (.aload_n 0, 1) := by decide +kernel
theorem dX8_leave_25 : decode cX8_leave 25 = .ok (.getfield 94, 3) := by decide +kernel
theorem dX8_leave_28 : decode cX8_leave 28 = .ok (.invokestatic 106, 3) := by decide +kernel
theorem dX8_leave_31 : decode cX8_leave 31 = .ok (.ireturn, 1) := by decide +kernel
theorem dX8_seat_0 : decode cX8_seat 0 = .ok (.aload_n 0, 1) := by decide +kernel
theorem dX8_seat_1 : decode cX8_seat 1 = .ok (.iload_n 1, 1) := by decide +kernel
theorem dX8_seat_2 : decode cX8_seat 2 = .ok (.invokevirtual 110, 3) := by decide +kernel
theorem dX8_seat_5 : decode cX8_seat 5 = .ok (.ifCond .eq 16, 3) := by decide +kernel
theorem dX8_seat_8 : decode cX8_seat 8 = .ok (.aload_n 0, 1) := by decide +kernel
theorem dX8_seat_9 : decode cX8_seat 9 = .ok (.iload_n 2, 1) := by decide +kernel
theorem dX8_seat_10 : decode cX8_seat 10 = .ok (.invokevirtual 110, 3) := by decide +kernel
theorem dX8_seat_13 : decode cX8_seat 13 = .ok (.ifCond .eq 8, 3) := by decide +kernel
theorem dX8_seat_16 : decode cX8_seat 16 = .ok (.iload_n 1, 1) := by decide +kernel
theorem dX8_seat_17 : decode cX8_seat 17 = .ok (.iload_n 2, 1) := by decide +kernel
theorem dX8_seat_18 : decode cX8_seat 18 = .ok (.if_icmp .ne 5, 3) := by decide +kernel
theorem dX8_seat_21 : decode cX8_seat 21 = .ok (.iconst (-1), 1) := by decide +kernel
theorem dX8_seat_22 : decode cX8_seat 22 = .ok (.ireturn, 1) := by decide +kernel
theorem dX8_seat_23 : decode cX8_seat 23 = .ok (.aload_n 0, 1) := by decide +kernel
theorem dX8_seat_24 : decode cX8_seat 24 = .ok (.iload_n 1, 1) := by decide +kernel
theorem dX8_seat_25 : decode cX8_seat 25 = .ok (.putfield 113, 3) := by decide +kernel
theorem dX8_seat_28 : decode cX8_seat 28 = .ok (.aload_n 0, 1) := by decide +kernel
theorem dX8_seat_29 : decode cX8_seat 29 = .ok (.iload_n 2, 1) := by decide +kernel
theorem dX8_seat_30 : decode cX8_seat 30 = .ok (.putfield 68, 3) := by decide +kernel
theorem dX8_seat_33 : decode cX8_seat 33 = .ok (.iconst 1, 1) := by decide +kernel
theorem dX8_seat_34 : decode cX8_seat 34 = .ok (.ireturn, 1) := by decide +kernel
theorem dX8_set_0 : decode cX8_set 0 = .ok (.iload_n 1, 1) := by decide +kernel
theorem dX8_set_1 : decode cX8_set 1 = .ok (.ifCond .ne 17, 3) := by decide +kernel
theorem dX8_set_4 : decode cX8_set 4 = .ok (.iload_n 2, 1) := by decide +kernel
theorem dX8_set_5 : decode cX8_set 5 = .ok (.i2l, 1) := by decide +kernel
theorem dX8_set_6 : decode cX8_set 6 = .ok (.ldc2_w 116, 3) := by decide +kernel
theorem dX8_set_9 : decode cX8_set 9 = .ok (.ldc2_w 97, 3) := by decide +kernel
theorem dX8_set_12 : decode cX8_set 12 = .ok (.invokestatic 86, 3) := by decide +kernel
theorem dX8_set_15 : decode cX8_set 15 = .ok (.goto 42, 3) := by decide +kernel
theorem dX8_set_18 : decode cX8_set 18 = .ok (.iload_n 1, 1) := by decide +kernel
theorem dX8_set_19 : decode cX8_set 19 = .ok (.iconst 1, 1) := by decide +kernel
theorem dX8_set_20 : decode cX8_set 20 = .ok (.if_icmp .ne 15, 3) := by decide +kernel
theorem dX8_set_23 : decode cX8_set 23 = .ok (.iload_n 2, 1) := by decide +kernel
theorem dX8_set_24 : decode cX8_set 24 = .ok (.i2l, 1) := by decide +kernel
theorem dX8_set_25 : decode cX8_set 25 = .ok (.lconst 0, 1) := by decide +kernel
theorem dX8_set_26 : decode cX8_set 26 = .ok (.ldc2_w 118, 3) := by decide +kernel
theorem dX8_set_29 : decode cX8_set 29 = .ok (.invokestatic 86, 3) := by decide +kernel
theorem dX8_set_32 : decode cX8_set 32 = .ok (.goto 25, 3) := by decide +kernel
theorem dX8_set_35 : decode cX8_set 35 = .ok (.iload_n 1, 1) := by decide +kernel
theorem dX8_set_36 : decode cX8_set 36 = .ok (.iconst 2, 1) := by decide +kernel
theorem dX8_set_37 : decode cX8_set 37 = .ok (.if_icmp .ne 19, 3) := by decide +kernel
theorem dX8_set_40 : decode cX8_set 40 = .ok (.iload_n 2, 1) := by decide +kernel
theorem dX8_set_41 : decode cX8_set 41 = .ok (.i2l, 1) := by decide +kernel
theorem dX8_set_42 : decode cX8_set 42 = .ok (.lconst 0, 1) := by decide +kernel
theorem dX8_set_43 : decode cX8_set 43 = .ok (.ldc2_w 104, 3) := by decide +kernel
theorem dX8_set_46 : decode cX8_set 46 = .ok (.invokestatic 86, 3) := by decide +kernel
theorem dX8_set_49 : decode cX8_set 49 = .ok (.ifCond .eq 7, 3) := by decide +kernel
theorem dX8_set_52 : decode cX8_set 52 = .ok (.iconst 1, 1) := by decide +kernel
theorem dX8_set_53 : decode cX8_set 53 = .ok (.goto 4, 3) := by decide +kernel
theorem dX8_set_56 : decode cX8_set 56 = .ok (.iconst 0, 1) := by decide +kernel
theorem dX8_set_57 : decode cX8_set 57 = .ok (.istore_n 3, 1) := by decide +kernel
theorem dX8_set_58 : decode cX8_set 58 = .ok (.iload_n 3, 1) := by decide +kernel
theorem dX8_set_59 : decode cX8_set 59 = .ok (.ifCond .ne 6, 3) := by decide +kernel
theorem dX8_set_62 : decode cX8_set 62 = .ok (.bipush (-2), 2) := by decide +kernel
theorem dX8_set_64 : decode cX8_set 64 = .ok (.ireturn, 1) := by decide +kernel
theorem dX8_set_65 : decode cX8_set 65 = .ok (.iload_n 1, 1) := by decide +kernel
theorem dX8_set_66 : decode cX8_set 66 = .ok (.ifCond .ne 10, 3) := by decide +kernel
theorem dX8_set_69 : decode cX8_set 69 = .ok (.aload_n 0, 1) := by decide +kernel
theorem dX8_set_70 : decode cX8_set 70 = .ok (.getfield 72, 3) := by decide +kernel
theorem dX8_set_73 : decode cX8_set 73 = .ok (.goto 19, 3) := by decide +kernel
theorem dX8_set_76 : decode cX8_set 76 = .ok (.iload_n 1, 1) := by decide +kernel
theorem dX8_set_77 : decode cX8_set 77 = .ok (.iconst 1, 1) := by decide +kernel
theorem dX8_set_78 : decode cX8_set 78 = .ok (.if_icmp .ne 10, 3) := by decide +kernel
theorem dX8_set_81 : decode cX8_set 81 = .ok (.aload_n 0, 1) := by decide +kernel
theorem dX8_set_82 : decode cX8_set 82 = .ok (.getfield 75, 3) := by decide +kernel
theorem dX8_set_85 : decode cX8_set 85 = .ok (.goto 7, 3) := by decide +kernel
theorem dX8_set_88 : decode cX8_set 88 = .ok (.aload_n 0, 1) := by decide +kernel
theorem dX8_set_89 : decode cX8_set 89 = .ok (.getfield 78, 3) := by decide +kernel
theorem dX8_set_92 : decode cX8_set 92 = .ok (.istore 4, 2) := by decide +kernel
theorem dX8_set_94 : decode cX8_set 94 = .ok (.aload_n 0, 1) := by decide +kernel
theorem dX8_set_95 : decode cX8_set 95 = .ok (.iload_n 1, 1) := by decide +kernel
theorem dX8_set_96 : decode cX8_set 96 = .ok (.ifCond .ne 7, 3) := by decide +kernel
theorem dX8_set_99 : decode cX8_set 99 = .ok (.iload_n 2, 1) := by decide +kernel
theorem dX8_set_100 : decode cX8_set 100 = .ok (.goto 7, 3) := by decide +kernel
theorem dX8_set_103 : decode cX8_set 103 = .ok (.aload_n 0, 1) := by decide +kernel
theorem dX8_set_104 : decode cX8_set 104 = .ok (.getfield 72, 3) := by decide +kernel
theorem dX8_set_107 : decode cX8_set 107 = .ok (.putfield 72, 3) := by decide +kernel
theorem dX8_set_110 : decode cX8_set 110 = .ok (.aload_n 0, 1) := by decide +kernel
theorem dX8_set_111 : decode cX8_set 111 = .ok (.iload_n 1, 1) := by decide +kernel
theorem dX8_set_112 : decode cX8_set 112 = .ok (.iconst 1, 1) := by decide +kernel
theorem dX8_set_113 : decode cX8_set 113 = .ok (.if_icmp .ne 7, 3) := by decide +kernel
theorem dX8_set_116 : decode cX8_set 116 = .ok (.iload_n 2, 1) := by decide +kernel
theorem dX8_set_117 : decode cX8_set 117 = .ok (.goto 7, 3) := by decide +kernel
theorem dX8_set_120 : decode cX8_set 120 = .ok (.aload_n 0, 1) := by decide +kernel
theorem dX8_set_121 : decode cX8_set 121 = .ok (.getfield 75, 3) := by decide +kernel
theorem dX8_set_124 : decode cX8_set 124 = .ok (.putfield 75, 3) := by decide +kernel
theorem dX8_set_127 : decode cX8_set 127 = .ok (.aload_n 0, 1) := by decide +kernel
theorem dX8_set_128 : decode cX8_set 128 = .ok (.iload_n 1, 1) := by decide +kernel
theorem dX8_set_129 : decode cX8_set 129 = .ok (.iconst 2, 1) := by decide +kernel
theorem dX8_set_130 : decode cX8_set 130 = .ok (.if_icmp .ne 7, 3) := by decide +kernel
theorem dX8_set_133 : decode cX8_set 133 = .ok (.iload_n 2, 1) := by decide +kernel
theorem dX8_set_134 : decode cX8_set 134 = .ok (.goto 7, 3) := by decide +kernel
theorem dX8_set_137 : decode cX8_set 137 = .ok (.aload_n 0, 1) := by decide +kernel
theorem dX8_set_138 : decode cX8_set 138 = .ok (.getfield 78, 3) := by decide +kernel
theorem dX8_set_141 : decode cX8_set 141 = .ok (.putfield 78, 3) := by decide +kernel
theorem dX8_set_144 : decode cX8_set 144 = .ok (.iload 4, 2) := by decide +kernel
theorem dX8_set_146 : decode cX8_set 146 = .ok (.ireturn, 1) := by decide +kernel
theorem dX8_say_0 : decode cX8_say 0 = .ok (.iload_n 1, 1) := by decide +kernel
theorem dX8_say_1 : decode cX8_say 1 = .ok (.i2l, 1) := by decide +kernel
theorem dX8_say_2 : decode cX8_say 2 = .ok (.ldc2_w 120, 3) := by decide +kernel
theorem dX8_say_5 : decode cX8_say 5 = .ok (.ldc2_w 122, 3) := by decide +kernel
theorem dX8_say_8 : decode cX8_say 8 = .ok (.invokestatic 86, 3) := by decide +kernel
theorem dX8_say_11 : decode cX8_say 11 = .ok (.ifCond .ne 6, 3) := by decide +kernel
theorem dX8_say_14 : decode cX8_say 14 = .ok (.bipush (-2), 2) := by decide +kernel
theorem dX8_say_16 : decode cX8_say 16 = .ok (.ireturn, 1) := by decide +kernel
