theorem dX8_worth_14 : decode cX8_worth 14 = .ok (.ifCond .lt 6, 3) := by decide +kernel
theorem dX8_worth_17 : decode cX8_worth 17 = .ok (.bipush (-5), 2) := by decide +kernel
theorem dX8_worth_19 : decode cX8_worth 19 = .ok (.ireturn, 1) := by decide +kernel
theorem dX8_worth_20 : decode cX8_worth 20 = .ok (.iconst 0, 1) := by decide +kernel
theorem dX8_worth_21 : decode cX8_worth 21 = .ok (.istore_n 1, 1) := by decide +kernel
theorem dX8_worth_22 : decode cX8_worth 22 = .ok (.iconst 0, 1) := by decide +kernel
theorem dX8_worth_23 : decode cX8_worth 23 = .ok (.istore_n 2, 1) := by decide +kernel
theorem dX8_worth_24 : decode cX8_worth 24 = .ok (.iload_n 2, 1) := by decide +kernel
theorem dX8_worth_25 : decode cX8_worth 25 = .ok (.aload_n 0, 1) := by decide +kernel
theorem dX8_worth_26 : decode cX8_worth 26 = .ok (.getfield 81, 3) := by decide +kernel
theorem dX8_worth_29 : decode cX8_worth 29 = .ok (.if_icmp .ge 18, 3) := by decide +kernel
theorem dX8_worth_32 : decode cX8_worth 32 = .ok (.iload_n 1, 1) := by decide +kernel
theorem dX8_worth_33 : decode cX8_worth 33 = .ok (.aload_n 0, 1) := by decide +kernel
theorem dX8_worth_34 : decode cX8_worth 34 = .ok (.getfield 40, 3) := by decide +kernel
theorem dX8_worth_37 : decode cX8_worth 37 = .ok (.iload_n 2, 1) := by decide +kernel
theorem dX8_worth_38 : decode cX8_worth 38 = .ok (.iaload, 1) := by decide +kernel
theorem dX8_worth_39 : decode cX8_worth 39 = .ok (.iadd, 1) := by decide +kernel
theorem dX8_worth_40 : decode cX8_worth 40 = .ok (.istore_n 1, 1) := by decide +kernel
theorem dX8_worth_41 : decode cX8_worth 41 = .ok (.iinc 2 1, 3) := by decide +kernel
theorem dX8_worth_44 : decode cX8_worth 44 = .ok (.goto (-20), 3) := by decide +kernel
theorem dX8_worth_47 : decode cX8_worth 47 = .ok (.iload_n 1, 1) := by decide +kernel
theorem dX8_worth_48 : decode cX8_worth 48 = .ok (.ifCond .le 6, 3) := by decide +kernel
theorem dX8_worth_51 : decode cX8_worth 51 = .ok (.bipush (-5), 2) := by decide +kernel
theorem dX8_worth_53 : decode cX8_worth 53 = .ok (.ireturn, 1) := by decide +kernel
theorem dX8_worth_54 : decode cX8_worth 54 = .ok (.aload_n 0, 1) := by decide +kernel
theorem dX8_worth_55 : decode cX8_worth 55 = .ok (.invokevirtual 210, 3) := by decide +kernel
theorem dX8_worth_58 : decode cX8_worth 58 = .ok (.bipush (-6), 2) := by decide +kernel
theorem dX8_worth_60 : decode cX8_worth 60 = .ok (.istore_n 2, 1) := by decide +kernel
theorem dX8_worth_61 : decode cX8_worth 61 = .ok (.aload_n 0, 1) := by decide +kernel
theorem dX8_worth_62 : decode cX8_worth 62 = .ok (.getfield 81, 3) := by decide +kernel
theorem dX8_worth_65 : decode cX8_worth 65 = .ok (.iconst 1, 1) := by decide +kernel
theorem dX8_worth_66 : decode cX8_worth 66 = .ok (.isub, 1) := by decide +kernel
theorem dX8_worth_67 : decode cX8_worth 67 = .ok (.istore_n 3, 1) := by decide +kernel
theorem dX8_worth_68 : decode cX8_worth 68 = .ok (.iload_n 3, 1) := by decide +kernel
theorem dX8_worth_69 : decode cX8_worth 69 = .ok (.ifCond .lt 52, 3) := by decide +kernel
theorem dX8_worth_72 : decode cX8_worth 72 = .ok (.aload_n 0, 1) := by decide +kernel
theorem dX8_worth_73 : decode cX8_worth 73 = .ok (.getfield 159, 3) := by decide +kernel
theorem dX8_worth_76 : decode cX8_worth 76 = .ok (.ifCond .le 45, 3) := by decide +kernel
theorem dX8_worth_79 : decode cX8_worth 79 = .ok (.aload_n 0, 1) := by decide +kernel
theorem dX8_worth_80 : decode cX8_worth 80 = .ok (.getfield 40, 3) := by decide +kernel
theorem dX8_worth_83 : decode cX8_worth 83 = .ok (.iload_n 3, 1) := by decide +kernel
theorem dX8_worth_84 : decode cX8_worth 84 = .ok (.iconst 1, 1) := by decide +kernel
theorem dX8_worth_85 : decode cX8_worth 85 = .ok (.iastore, 1) := by decide +kernel
theorem dX8_worth_86 : decode cX8_worth 86 = .ok (.aload_n 0, 1) := by decide +kernel
theorem dX8_worth_87 : decode cX8_worth 87 = .ok (.invokevirtual 210, 3) := by decide +kernel
theorem dX8_worth_90 : decode cX8_worth 90 = .ok (.aload_n 0, 1) := by decide +kernel
theorem dX8_worth_91 : decode cX8_worth 91 = .ok (.getfield 156, 3) := by decide +kernel
theorem dX8_worth_94 : decode cX8_worth 94 = .ok (.ifCond .ge 7, 3) := by decide +kernel
theorem dX8_worth_97 : decode cX8_worth 97 = .ok (.iload_n 3, 1) := by decide +kernel
theorem dX8_worth_98 : decode cX8_worth 98 = .ok (.goto 4, 3) := by decide +kernel
theorem dX8_worth_101 : decode cX8_worth 101 = .ok (.iload_n 2, 1) := by decide +kernel
theorem dX8_worth_102 : decode cX8_worth 102 = .ok (.istore_n 2, 1) := by decide +kernel
theorem dX8_worth_103 : decode cX8_worth 103 = .ok (.aload_n 0, 1) := by decide +kernel
theorem dX8_worth_104 : decode cX8_worth 104 = .ok (.getfield 40, 3) := by decide +kernel
theorem dX8_worth_107 : decode cX8_worth 107 = .ok (.iload_n 3, 1) := by decide +kernel
theorem dX8_worth_108 : decode cX8_worth 108 = .ok (.iconst 0, 1) := by decide +kernel
theorem dX8_worth_109 : decode cX8_worth 109 = .ok (.iastore, 1) := by decide +kernel
theorem dX8_worth_110 : decode cX8_worth 110 = .ok (.aload_n 0, 1) := by decide +kernel
theorem dX8_worth_111 : decode cX8_worth 111 = .ok (.iconst 1, 1) := by decide +kernel
theorem dX8_worth_112 : decode cX8_worth 112 = .ok (.putfield 159, 3) := by decide +kernel
theorem dX8_worth_115 : decode cX8_worth 115 = .ok (.iinc 3 (-1), 3) := by decide +kernel
theorem dX8_worth_118 : decode cX8_worth 118 = .ok (.goto (-50), 3) := by decide +kernel
theorem dX8_worth_121 : decode cX8_worth 121 = .ok (.iload_n 2, 1) := by decide +kernel
theorem dX8_worth_122 : decode cX8_worth 122 = .ok (.ireturn, 1) := by decide +kernel
theorem dX8_bestPair_0 : decode cX8_bestPair 0 = .ok (.iload_n 1, 1) := by decide +kernel
theorem dX8_bestPair_1 : decode cX8_bestPair 1 = .ok (.i2l, 1) := by decide +kernel
theorem dX8_bestPair_2 : decode cX8_bestPair 2 = .ok (.lconst 0, 1) := by decide +kernel
theorem dX8_bestPair_3 : decode cX8_bestPair 3 = .ok (.lconst 1, 1) := by decide +kernel
theorem dX8_bestPair_4 : decode cX8_bestPair 4 = .ok (.invokestatic 86, 3) := by decide +kernel
theorem dX8_bestPair_7 : decode cX8_bestPair 7 = .ok (.ifCond .ne 6, 3) := by decide +kernel
theorem dX8_bestPair_10 : decode cX8_bestPair 10 = .ok (.bipush (-2), 2) := by decide +kernel
theorem dX8_bestPair_12 : decode cX8_bestPair 12 = .ok (.ireturn, 1) := by decide +kernel
theorem dX8_bestPair_13 : decode cX8_bestPair 13 = .ok (.bipush (-6), 2) := by decide +kernel
theorem dX8_bestPair_15 : decode cX8_bestPair 15 = .ok (.istore_n 2, 1) := by decide +kernel
theorem dX8_bestPair_16 : decode cX8_bestPair 16 = .ok (.ldc 228, 2) := by decide +kernel
theorem dX8_bestPair_18 : decode cX8_bestPair 18 = .ok (.istore_n 3, 1) := by decide +kernel
theorem dX8_bestPair_19 : decode cX8_bestPair 19 = .ok (.iconst 0, 1) := by decide +kernel
theorem dX8_bestPair_20 : decode cX8_bestPair 20 = .ok (.istore 4, 2) := by decide +kernel
theorem dX8_bestPair_22 : decode cX8_bestPair 22 = .ok (.iload 4, 2) := by decide +kernel
theorem dX8_bestPair_24 : decode cX8_bestPair 24 = .ok (.iconst 4, 1) := by decide +kernel
theorem dX8_bestPair_25 : decode cX8_bestPair 25 = .ok (.if_icmp .ge 107, 3) := by decide +kernel
theorem dX8_bestPair_28 : decode cX8_bestPair 28 = .ok (.iconst 0, 1) := by decide +kernel
theorem dX8_bestPair_29 : decode cX8_bestPair 29 = .ok (.istore 5, 2) := by decide +kernel
theorem dX8_bestPair_31 : decode cX8_bestPair 31 = .ok (.iload 5, 2) := by decide +kernel
theorem dX8_bestPair_33 : decode cX8_bestPair 33 = .ok (.iconst 4, 1) := by decide +kernel
theorem dX8_bestPair_34 : decode cX8_bestPair 34 = .ok (.if_icmp .ge 92, 3) := by decide +kernel
theorem dX8_bestPair_37 : decode cX8_bestPair 37 = .ok (.aload_n 0, 1) := by decide +kernel
theorem dX8_bestPair_38 : decode cX8_bestPair 38 = .ok (.iload 4, 2) := by decide +kernel
theorem dX8_bestPair_40 : decode cX8_bestPair 40 = .ok (.invokevirtual 110, 3) := by decide +kernel
theorem dX8_bestPair_43 : decode cX8_bestPair 43 = .ok (.ifCond .eq 77, 3) := by decide +kernel
theorem dX8_bestPair_46 : decode cX8_bestPair 46 = .ok (.aload_n 0, 1) := by decide +kernel
theorem dX8_bestPair_47 : decode cX8_bestPair 47 = .ok (.iload 5, 2) := by decide +kernel
theorem dX8_bestPair_49 : decode cX8_bestPair 49 = .ok (.invokevirtual 110, 3) := by decide +kernel
theorem dX8_bestPair_52 : decode cX8_bestPair 52 = .ok (.ifCond .eq 68, 3) := by decide +kernel
theorem dX8_bestPair_55 : decode cX8_bestPair 55 = .ok (.iload 4, 2) := by decide +kernel
theorem dX8_bestPair_57 : decode cX8_bestPair 57 = .ok (.iload 5, 2) := by decide +kernel
theorem dX8_bestPair_59 : decode cX8_bestPair 59 = .ok (.if_icmp .eq 61, 3) := by decide +kernel
theorem dX8_bestPair_62 : decode cX8_bestPair 62 = .ok (.aload_n 0, 1) := by decide +kernel
theorem dX8_bestPair_63 : decode cX8_bestPair 63 = .ok (.iload 4, 2) := by decide +kernel
theorem dX8_bestPair_65 : decode cX8_bestPair 65 = .ok (.iload 5, 2) := by decide +kernel
theorem dX8_bestPair_67 : decode cX8_bestPair 67 = .ok (.invokevirtual 252, 3) := by decide +kernel
theorem dX8_bestPair_70 : decode cX8_bestPair 70 = .ok (.istore 6, 2) := by decide +kernel
theorem dX8_bestPair_72 : decode cX8_bestPair 72 = .ok (.iload 6, 2) := by decide +kernel
theorem dX8_bestPair_74 : decode cX8_bestPair 74 = .ok (.ifCond .lt 13, 3) := by decide +kernel
theorem dX8_bestPair_77 : decode cX8_bestPair 77 = .ok (.iload 6, 2) := by decide +kernel
theorem dX8_bestPair_79 : decode cX8_bestPair 79 = .ok (.iload_n 3, 1) := by decide +kernel
theorem dX8_bestPair_80 : decode cX8_bestPair 80 = .ok (.if_icmp .ge 7, 3) := by decide +kernel
theorem dX8_bestPair_83 : decode cX8_bestPair 83 = .ok (.iconst 1, 1) := by decide +kernel
theorem dX8_bestPair_84 : decode cX8_bestPair 84 = .ok (.goto 4, 3) := by decide +kernel
theorem dX8_bestPair_87 : decode cX8_bestPair 87 = .ok (.iconst 0, 1) := by decide +kernel
theorem dX8_bestPair_88 : decode cX8_bestPair 88 = .ok (.istore 7, 2) := by decide +kernel
theorem dX8_bestPair_90 : decode cX8_bestPair 90 = .ok (.iload 7, 2) := by decide +kernel
theorem dX8_bestPair_92 : decode cX8_bestPair 92 = .ok (.ifCond .eq 14, 3) := by decide +kernel
theorem dX8_bestPair_95 : decode cX8_bestPair 95 = .ok (.bipush 10, 2) := by decide +kernel
theorem dX8_bestPair_97 : decode cX8_bestPair 97 = .ok (.iload 4, 2) := by decide +kernel
theorem dX8_bestPair_99 : decode cX8_bestPair 99 = .ok (.imul, 1) := by decide +kernel
theorem dX8_bestPair_100 : decode cX8_bestPair 100 = .ok (.iload 5, 2) := by decide +kernel
theorem dX8_bestPair_102 : decode cX8_bestPair 102 = .ok (.iadd, 1) := by decide +kernel
theorem dX8_bestPair_103 : decode cX8_bestPair 103 = .ok (.goto 4, 3) := by decide +kernel
theorem dX8_bestPair_106 : decode cX8_bestPair 106 = .ok (.iload_n 2, 1) := by decide +kernel
theorem dX8_bestPair_107 : decode cX8_bestPair 107 = .ok (.istore_n 2, 1) := by decide +kernel
theorem dX8_bestPair_108 : decode cX8_bestPair 108 = .ok (.iload 7, 2) := by decide +kernel
theorem dX8_bestPair_110 : decode cX8_bestPair 110 = .ok (.ifCond .eq 8, 3) := by decide +kernel
theorem dX8_bestPair_113 : decode cX8_bestPair 113 = .ok (.iload 6, 2) := by decide +kernel
theorem dX8_bestPair_115 : decode cX8_bestPair 115 = .ok (.goto 4, 3) := by decide +kernel
theorem dX8_bestPair_118 : decode cX8_bestPair 118 = .ok (.iload_n 3, 1) := by decide +kernel
theorem dX8_bestPair_119 : decode cX8_bestPair 119 = .ok (.istore_n 3, 1) := by decide +kernel
theorem dX8_bestPair_120 : decode cX8_bestPair 120 = .ok (.iinc 5 1, 3) := by decide +kernel
theorem dX8_bestPair_123 : decode cX8_bestPair 123 = .ok (.goto (-92), 3) := by decide +kernel
theorem dX8_bestPair_126 : decode cX8_bestPair 126 = .ok (.iinc 4 1, 3) := by decide +kernel
theorem dX8_bestPair_129 : decode cX8_bestPair 129 = .ok (.goto (-107), 3) := by decide +kernel
theorem dX8_bestPair_132 : decode cX8_bestPair 132 = .ok (.iload_n 2, 1) := by decide +kernel
theorem dX8_bestPair_133 : decode cX8_bestPair 133 = .ok (.ifCond .lt 7, 3) := by decide +kernel
theorem dX8_bestPair_136 : decode cX8_bestPair 136 = .ok (.iload_n 1, 1) := by decide +kernel
theorem dX8_bestPair_137 : decode cX8_bestPair 137 = .ok (.ifCond .ne 7, 3) := by decide +kernel
theorem dX8_bestPair_140 : decode cX8_bestPair 140 = .ok (.iload_n 2, 1) := by decide +kernel
theorem dX8_bestPair_141 : decode cX8_bestPair 141 = .ok (.goto 4, 3) := by decide +kernel
theorem dX8_bestPair_144 : decode cX8_bestPair 144 = .ok (.iload_n 3, 1) := by decide +kernel
theorem dX8_bestPair_145 : decode cX8_bestPair 145 = .ok (.ireturn, 1) := by decide +kernel
theorem dX8_believed_0 : decode cX8_believed 0 = .ok (.aload_n 0, 1) := by decide +kernel
theorem dX8_believed_1 : decode cX8_believed 1 = .ok (.getfield 174, 3) := by decide +kernel
theorem dX8_believed_4 : decode cX8_believed 4 = .ok (.aload_n 0, 1) := by decide +kernel
theorem dX8_believed_5 : decode cX8_believed 5 = .ok (.getfield 177, 3) := by decide +kernel
theorem dX8_believed_8 : decode cX8_believed 8 = .ok (.iadd, 1) := by decide +kernel
theorem dX8_believed_9 : decode cX8_believed 9 = .ok (.istore_n 3, 1) := by decide +kernel
theorem dX8_believed_10 : decode cX8_believed 10 = .ok (.iload_n 3, 1) := by decide +kernel
theorem dX8_believed_11 : decode cX8_believed 11 = .ok (.ifCond .ne 7, 3) := by decide +kernel
theorem dX8_believed_14 : decode cX8_believed 14 = .ok (.iconst 0, 1) := by decide +kernel
theorem dX8_believed_15 : decode cX8_believed 15 = .ok (.goto 9, 3) := by decide +kernel
theorem dX8_believed_18 : decode cX8_believed 18 = .ok (.bipush 100, 2) := by decide +kernel
theorem dX8_believed_20 : decode cX8_believed 20 = .ok (.iload_n 1, 1) := by decide +kernel
theorem dX8_believed_21 : decode cX8_believed 21 = .ok (.imul, 1) := by decide +kernel
theorem dX8_believed_22 : decode cX8_believed 22 = .ok (.iload_n 3, 1) := by decide +kernel
theorem dX8_believed_23 : decode cX8_believed 23 = .ok (.idiv, 1) := by decide +kernel
theorem dX8_believed_24 : decode cX8_believed 24 = .ok (.aload_n 0, 1) := by decide +kernel
theorem dX8_believed_25 : decode cX8_believed 25 = .ok (.getfield 19, 3) := by decide +kernel
theorem dX8_believed_28 : decode cX8_believed 28 = .ok (.iload_n 2, 1) := by decide +kernel
theorem dX8_believed_29 : decode cX8_believed 29 = .ok (.iaload, 1) := by decide +kernel
theorem dX8_believed_30 : decode cX8_believed 30 = .ok (.iadd, 1) := by decide +kernel
theorem dX8_believed_31 : decode cX8_believed 31 = .ok (.istore 4, 2) := by decide +kernel
theorem dX8_believed_33 : decode cX8_believed 33 = .ok (.iload 4, 2) := by decide +kernel
theorem dX8_believed_35 : decode cX8_believed 35 = .ok (.bipush 100, 2) := by decide +kernel
theorem dX8_believed_37 : decode cX8_believed 37 = .ok (.if_icmp .ge 8, 3) := by decide +kernel
theorem dX8_believed_40 : decode cX8_believed 40 = .ok (.iload 4, 2) := by decide +kernel
theorem dX8_believed_42 : decode cX8_believed 42 = .ok (.goto 5, 3) := by decide +kernel
theorem dX8_believed_45 : decode cX8_believed 45 = .ok (.bipush 100, 2) := by decide +kernel
theorem dX8_believed_47 : decode cX8_believed 47 = .ok (.ireturn, 1) := by decide +kernel
theorem dX8_quarrel_0 : decode cX8_quarrel 0 = .ok (.aload_n 0, 1) := by decide +kernel
theorem dX8_quarrel_1 : decode cX8_quarrel 1 = .ok (.invokevirtual 206, 3) := by decide +kernel
theorem dX8_quarrel_4 : decode cX8_quarrel 4 = .ok (.ifCond .eq 6, 3) := by decide +kernel
theorem dX8_quarrel_7 : decode cX8_quarrel 7 = .ok (.bipush (-3), 2) := by decide +kernel
theorem dX8_quarrel_9 : decode cX8_quarrel 9 = .ok (.ireturn, 1) := by decide +kernel
theorem dX8_quarrel_10 : decode cX8_quarrel 10 = .ok (.iload_n 1, 1) := by decide +kernel
theorem dX8_quarrel_11 : decode cX8_quarrel 11 = .ok (.i2l, 1) := by decide +kernel
theorem dX8_quarrel_12 : decode cX8_quarrel 12 = .ok (.lconst 0, 1) := by decide +kernel
theorem dX8_quarrel_13 : decode cX8_quarrel 13 = .ok (.ldc2_w 118, 3) := by decide +kernel
theorem dX8_quarrel_16 : decode cX8_quarrel 16 = .ok (.invokestatic 86, 3) := by decide +kernel
theorem dX8_quarrel_19 : decode cX8_quarrel 19 = .ok (.ifCond .ne 6, 3) := by decide +kernel
theorem dX8_quarrel_22 : decode cX8_quarrel 22 = .ok (.bipush (-2), 2) := by decide +kernel
theorem dX8_quarrel_24 : decode cX8_quarrel 24 = .ok (.ireturn, 1) := by decide +kernel
theorem dX8_quarrel_25 : decode cX8_quarrel 25 = .ok (.aload_n 0, 1) := by decide +kernel
theorem dX8_quarrel_26 : decode cX8_quarrel 26 = .ok (.invokevirtual 215, 3) := by decide +kernel
theorem dX8_quarrel_29 : decode cX8_quarrel 29 = .ok (.ifCond .eq 6, 3) := by decide +kernel
theorem dX8_quarrel_32 : decode cX8_quarrel 32 = .ok (.bipush (-5), 2) := by decide +kernel
theorem dX8_quarrel_34 : decode cX8_quarrel 34 = .ok (.ireturn, 1) := by decide +kernel
theorem dX8_quarrel_35 : decode cX8_quarrel 35 = .ok (.aload_n 0, 1) := by decide +kernel
theorem dX8_quarrel_36 : decode cX8_quarrel 36 = .ok (.aload_n 0, 1) := by decide +kernel
theorem dX8_quarrel_37 : decode cX8_quarrel 37 = .ok (.getfield 174, 3) := by decide +kernel
theorem dX8_quarrel_40 : decode cX8_quarrel 40 = .ok (.aload_n 0, 1) := by decide +kernel
theorem dX8_quarrel_41 : decode cX8_quarrel 41 = .ok (.getfield 113, 3) := by decide +kernel
theorem dX8_quarrel_44 : decode cX8_quarrel 44 = .ok (.invokevirtual 285, 3) := by decide +kernel
theorem dX8_quarrel_47 : decode cX8_quarrel 47 = .ok (.aload_n 0, 1) := by decide +kernel
theorem dX8_quarrel_48 : decode cX8_quarrel 48 = .ok (.aload_n 0, 1) := by decide +kernel
theorem dX8_quarrel_49 : decode cX8_quarrel 49 = .ok (.getfield 177, 3) := by decide +kernel
theorem dX8_quarrel_52 : decode cX8_quarrel 52 = .ok (.aload_n 0, 1) := by decide +kernel
theorem dX8_quarrel_53 : decode cX8_quarrel 53 = .ok (.getfield 68, 3) := by decide +kernel
theorem dX8_quarrel_56 : decode cX8_quarrel 56 = .ok (.invokevirtual 285, 3) := by decide +kernel
theorem dX8_quarrel_59 : decode cX8_quarrel 59 = .ok (.iadd, 1) := by decide +kernel
theorem dX8_quarrel_60 : decode cX8_quarrel 60 = .ok (.bipush 100, 2) := by decide +kernel
theorem dX8_quarrel_62 : decode cX8_quarrel 62 = .ok (.isub, 1) := by decide +kernel
theorem dX8_quarrel_63 : decode cX8_quarrel 63 = .ok (.istore_n 2, 1) := by decide +kernel
theorem dX8_quarrel_64 : decode cX8_quarrel 64 = .ok (.iconst 0, 1) := by decide +kernel
theorem dX8_quarrel_65 : decode cX8_quarrel 65 = .ok (.istore_n 3, 1) := by decide +kernel
theorem dX8_quarrel_66 : decode cX8_quarrel 66 = .ok (.iconst 0, 1) := by decide +kernel
theorem dX8_quarrel_67 : decode cX8_quarrel 67 = .ok (.istore 4, 2) := by decide +kernel
theorem dX8_quarrel_69 : decode cX8_quarrel 69 = .ok (.iload 4, 2) := by decide +kernel
theorem dX8_quarrel_71 : decode cX8_quarrel 71 = .ok (.iload_n 1, 1) := by decide +kernel
theorem dX8_quarrel_72 : decode cX8_quarrel 72 = .ok (.if_icmp .ge 49, 3) := by decide +kernel
theorem dX8_quarrel_75 : decode cX8_quarrel 75 = .ok (.iload_n 3, 1) := by decide +kernel
theorem dX8_quarrel_76 : decode cX8_quarrel 76 = .ok (.iload_n 2, 1) := by decide +kernel
theorem dX8_quarrel_77 : decode cX8_quarrel 77 = .ok (.ifCond .le 7, 3) := by decide +kernel
theorem dX8_quarrel_80 : decode cX8_quarrel 80 = .ok (.iload_n 2, 1) := by decide +kernel
theorem dX8_quarrel_81 : decode cX8_quarrel 81 = .ok (.goto 4, 3) := by decide +kernel
theorem dX8_quarrel_84 : decode cX8_quarrel 84 = .ok (.iconst 0, 1) := by decide +kernel
theorem dX8_quarrel_85 : decode cX8_quarrel 85 = .ok (.aload_n 0, 1) := by decide +kernel
theorem dX8_quarrel_86 : decode cX8_quarrel 86 = .ok (.getfield 78, 3) := by decide +kernel
theorem dX8_quarrel_89 : decode cX8_quarrel 89 = .ok (.isub, 1) := by decide +kernel
theorem dX8_quarrel_90 : decode cX8_quarrel 90 = .ok (.iadd, 1) := by decide +kernel
theorem dX8_quarrel_91 : decode cX8_quarrel 91 = .ok (.istore_n 3, 1) := by decide +kernel
theorem dX8_quarrel_92 : decode cX8_quarrel 92 = .ok (.iload_n 3, 1) := by decide +kernel
theorem dX8_quarrel_93 : decode cX8_quarrel 93 = .ok (.ifCond .ge 7, 3) := by decide +kernel
theorem dX8_quarrel_96 : decode cX8_quarrel 96 = .ok (.iconst 0, 1) := by decide +kernel
theorem dX8_quarrel_97 : decode cX8_quarrel 97 = .ok (.goto 17, 3) := by decide +kernel
theorem dX8_quarrel_100 : decode cX8_quarrel 100 = .ok (.iload_n 3, 1) := by decide +kernel
theorem dX8_quarrel_101 : decode cX8_quarrel 101 = .ok (.sipush 999, 3) := by decide +kernel
theorem dX8_quarrel_104 : decode cX8_quarrel 104 = .ok (.if_icmp .le 9, 3) := by decide +kernel
theorem dX8_quarrel_107 : decode cX8_quarrel 107 = .ok (.sipush 999, 3) := by decide +kernel
theorem dX8_quarrel_110 : decode cX8_quarrel 110 = .ok (.goto 4, 3) := by decide +kernel
theorem dX8_quarrel_113 : decode cX8_quarrel 113 = .ok (.iload_n 3, 1) := by decide +kernel
theorem dX8_quarrel_114 : decode cX8_quarrel 114 = .ok (.istore_n 3, 1) := by decide +kernel
theorem dX8_quarrel_115 : decode cX8_quarrel 115 = .ok (.iinc 4 1, 3) := by decide +kernel
theorem dX8_quarrel_118 : decode cX8_quarrel 118 = .ok (.goto (-49), 3) := by decide +kernel
theorem dX8_quarrel_121 : decode cX8_quarrel 121 = .ok (.iload_n 3, 1) := by decide +kernel
theorem dX8_quarrel_122 : decode cX8_quarrel 122 = .ok (.ireturn, 1) := by decide +kernel
theorem dX8_corners_0 : decode cX8_corners 0 = .ok (.iconst 0, 1) := by decide +kernel
theorem dX8_corners_1 : decode cX8_corners 1 = .ok (.istore_n 1, 1) := by decide +kernel
theorem dX8_corners_2 : decode cX8_corners 2 = .ok (.iconst 0, 1) := by decide +kernel
theorem dX8_corners_3 : decode cX8_corners 3 = .ok (.istore_n 2, 1) := by decide +kernel
theorem dX8_corners_4 : decode cX8_corners 4 = .ok (.iload_n 2, 1) := by decide +kernel
theorem dX8_corners_5 : decode cX8_corners 5 = .ok (.aload_n 0, 1) := by decide +kernel
theorem dX8_corners_6 : decode cX8_corners 6 = .ok (.getfield 81, 3) := by decide +kernel
theorem dX8_corners_9 : decode cX8_corners 9 = .ok (.if_icmp .ge 28, 3) := by decide +kernel
theorem dX8_corners_12 : decode cX8_corners 12 = .ok (.iload_n 1, 1) := by decide +kernel
theorem dX8_corners_13 : decode cX8_corners 13 = .ok (.aload_n 0, 1) := by decide +kernel
theorem dX8_corners_14 : decode cX8_corners 14 = .ok (.getfield 22, 3) := by decide +kernel
theorem dX8_corners_17 : decode cX8_corners 17 = .ok (.iload_n 2, 1) := by decide +kernel
theorem dX8_corners_18 : decode cX8_corners 18 = .ok (.iaload, 1) := by decide +kernel
theorem dX8_corners_19 : decode cX8_corners 19 = .ok (.bipush 99, 2) := by decide +kernel
theorem dX8_corners_21 : decode cX8_corners 21 = .ok (.if_icmp .ne 7, 3) := by decide +kernel
theorem dX8_corners_24 : decode cX8_corners 24 = .ok (.iconst 1, 1) := by decide +kernel
theorem dX8_corners_25 : decode cX8_corners 25 = .ok (.goto 4, 3) := by decide +kernel
theorem dX8_corners_28 : decode cX8_corners 28 = .ok (.iconst 0, 1) := by decide +kernel
theorem dX8_corners_29 : decode cX8_corners 29 = .ok (.iadd, 1) := by decide +kernel
theorem dX8_corners_30 : decode cX8_corners 30 = .ok (.istore_n 1, 1) := by decide +kernel
theorem dX8_corners_31 : decode cX8_corners 31 = .ok (.iinc 2 1, 3) := by decide +kernel
theorem dX8_corners_34 : decode cX8_corners 34 = .ok (.goto (-30), 3) := by decide +kernel
theorem dX8_corners_37 : decode cX8_corners 37 = .ok (.iload_n 1, 1) := by decide +kernel
theorem dX8_corners_38 : decode cX8_corners 38 = .ok (.ireturn, 1) := by decide +kernel
theorem dX8_powers_0 : decode cX8_powers 0 = .ok (.lconst 1, 1) := by decide +kernel
theorem dX8_powers_1 : decode cX8_powers 1 = .ok (.lstore_n 2, 1) := by decide +kernel
theorem dX8_powers_2 : decode cX8_powers 2 = .ok (.iconst 0, 1) := by decide +kernel
theorem dX8_powers_3 : decode cX8_powers 3 = .ok (.istore 4, 2) := by decide +kernel
theorem dX8_powers_5 : decode cX8_powers 5 = .ok (.iload 4, 2) := by decide +kernel
theorem dX8_powers_7 : decode cX8_powers 7 = .ok (.iload_n 1, 1) := by decide +kernel
theorem dX8_powers_8 : decode cX8_powers 8 = .ok (.if_icmp .ge 14, 3) := by decide +kernel
theorem dX8_powers_11 : decode cX8_powers 11 = .ok (.lload_n 2, 1) := by decide +kernel
theorem dX8_powers_12 : decode cX8_powers 12 = .ok (.iload_n 0, 1) := by decide +kernel
theorem dX8_powers_13 : decode cX8_powers 13 = .ok (.i2l, 1) := by decide +kernel
theorem dX8_powers_14 : decode cX8_powers 14 = .ok (.lmul, 1) := by decide +kernel
theorem dX8_powers_15 : decode cX8_powers 15 = .ok (.lstore_n 2, 1) := by decide +kernel
theorem dX8_powers_16 : decode cX8_powers 16 = .ok (.iinc 4 1, 3) := by decide +kernel
theorem dX8_powers_19 : decode cX8_powers 19 = .ok (.goto (-14), 3) := by decide +kernel
theorem dX8_powers_22 : decode cX8_powers 22 = .ok (.lload_n 2, 1) := by decide +kernel
theorem dX8_powers_23 : decode cX8_powers 23 = .ok (.lreturn, 1) := by decide +kernel
theorem dX8_home_0 : decode cX8_home 0 = .ok (.aload_n 0, 1) := by decide +kernel
theorem dX8_home_1 : decode cX8_home 1 = .ok (.invokevirtual 206, 3) := by decide +kernel
theorem dX8_home_4 : decode cX8_home 4 = .ok (.ifCond .eq 7, 3) := by decide +kernel
theorem dX8_home_7 : decode cX8_home 7 = .ok (.ldc2_w 218, 3) := by decide +kernel
theorem dX8_home_10 : decode cX8_home 10 = .ok (.lreturn, 1) := by decide +kernel
theorem dX8_home_11 : decode cX8_home 11 = .ok (.iload_n 1, 1) := by decide +kernel
theorem dX8_home_12 : decode cX8_home 12 = .ok (.i2l, 1) := by decide +kernel
theorem dX8_home_13 : decode cX8_home 13 = .ok (.lconst 0, 1) := by decide +kernel
theorem dX8_home_14 : decode cX8_home 14 = .ok (.ldc2_w 147, 3) := by decide +kernel
theorem dX8_home_17 : decode cX8_home 17 = .ok (.invokestatic 86, 3) := by decide +kernel
theorem dX8_home_20 : decode cX8_home 20 = .ok (.ifCond .eq 25, 3) := by decide +kernel
theorem dX8_home_23 : decode cX8_home 23 = .ok (.iload_n 2, 1) := by decide +kernel
theorem dX8_home_24 : decode cX8_home 24 = .ok (.i2l, 1) := by decide +kernel
theorem dX8_home_25 : decode cX8_home 25 = .ok (.lconst 0, 1) := by decide +kernel
theorem dX8_home_26 : decode cX8_home 26 = .ok (.ldc2_w 288, 3) := by decide +kernel
theorem dX8_home_29 : decode cX8_home 29 = .ok (.invokestatic 86, 3) := by decide +kernel
theorem dX8_home_32 : decode cX8_home 32 = .ok (.ifCond .eq 13, 3) := by decide +kernel
theorem dX8_home_35 : decode cX8_home 35 = .ok (.iload_n 3, 1) := by decide +kernel
theorem dX8_home_36 : decode cX8_home 36 = .ok (.i2l, 1) := by decide +kernel
theorem dX8_home_37 : decode cX8_home 37 = .ok (.lconst 0, 1) := by decide +kernel
theorem dX8_home_38 : decode cX8_home 38 = .ok (.lconst 1, 1) := by decide +kernel
theorem dX8_home_39 : decode cX8_home 39 = .ok (.invokestatic 86, 3) := by decide +kernel
theorem dX8_home_42 : decode cX8_home 42 = .ok (.ifCond .ne 7, 3) := by decide +kernel
theorem dX8_home_45 : decode cX8_home 45 = .ok (.ldc2_w 220, 3) := by decide +kernel
theorem dX8_home_48 : decode cX8_home 48 = .ok (.lreturn, 1) := by decide +kernel
theorem dX8_home_49 : decode cX8_home 49 = .ok (.aload_n 0, 1) := by decide +kernel
theorem dX8_home_50 : decode cX8_home 50 = .ok (.invokevirtual 215, 3) := by decide +kernel
theorem dX8_home_53 : decode cX8_home 53 = .ok (.ifCond .eq 7, 3) := by decide +kernel
theorem dX8_home_56 : decode cX8_home 56 = .ok (.ldc2_w 222, 3) := by decide +kernel
theorem dX8_home_59 : decode cX8_home 59 = .ok (.lreturn, 1) := by decide +kernel
theorem dX8_home_60 : decode cX8_home 60 = .ok (.aload_n 0, 1) := by decide +kernel
theorem dX8_home_61 : decode cX8_home 61 = .ok (.invokevirtual 290, 3) := by decide +kernel
theorem dX8_home_64 : decode cX8_home 64 = .ok (.istore 4, 2) := by decide +kernel
theorem dX8_home_66 : decode cX8_home 66 = .ok (.iload 4, 2) := by decide +kernel
theorem dX8_home_68 : decode cX8_home 68 = .ok (.bipush 12, 2) := by decide +kernel
theorem dX8_home_70 : decode cX8_home 70 = .ok (.if_icmp .le 7, 3) := by decide +kernel
theorem dX8_home_73 : decode cX8_home 73 = .ok (.ldc2_w 293, 3) := by decide +kernel
theorem dX8_home_76 : decode cX8_home 76 = .ok (.lreturn, 1) := by decide +kernel
theorem dX8_home_77 : decode cX8_home 77 = .ok (.lconst 0, 1) := by decide +kernel
theorem dX8_home_78 : decode cX8_home 78 = .ok (.lstore 5, 2) := by decide +kernel
theorem dX8_home_80 : decode cX8_home 80 = .ok (.iconst 0, 1) := by decide +kernel
theorem dX8_home_81 : decode cX8_home 81 = .ok (.istore 7, 2) := by decide +kernel
theorem dX8_home_83 : decode cX8_home 83 = .ok (.iload 7, 2) := by decide +kernel
theorem dX8_home_85 : decode cX8_home 85 = .ok (.iconst 1, 1) := by decide +kernel
theorem dX8_home_86 : decode cX8_home 86 = .ok (.iload 4, 2) := by decide +kernel
theorem dX8_home_88 : decode cX8_home 88 = .ok (.ishl, 1) := by decide +kernel
theorem dX8_home_89 : decode cX8_home 89 = .ok (.if_icmp .ge 57, 3) := by decide +kernel
theorem dX8_home_92 : decode cX8_home 92 = .ok (.iload 7, 2) := by decide +kernel
theorem dX8_home_94 : decode cX8_home 94 = .ok (.invokestatic 106, 3) := by decide +kernel
theorem dX8_home_97 : decode cX8_home 97 = .ok (.istore 8, 2) := by decide +kernel
theorem dX8_home_99 : decode cX8_home 99 = .ok (.lload 5, 2) := by decide +kernel
theorem dX8_home_101 : decode cX8_home 101 = .ok (.aload_n 0, 1) := by decide +kernel
theorem dX8_home_102 : decode cX8_home 102 = .ok (.getfield 162, 3) := by decide +kernel
theorem dX8_home_105 : decode cX8_home 105 = .ok (.iconst 5, 1) := by decide +kernel
theorem dX8_home_106 : decode cX8_home 106 = .ok (.iload 8, 2) := by decide +kernel
theorem dX8_home_108 : decode cX8_home 108 = .ok (.imul, 1) := by decide +kernel
theorem dX8_home_109 : decode cX8_home 109 = .ok (.iadd, 1) := by decide +kernel
theorem dX8_home_110 : decode cX8_home 110 = .ok (.iload_n 2, 1) := by decide +kernel
theorem dX8_home_111 : decode cX8_home 111 = .ok (.if_icmp .gt 25, 3) := by decide +kernel
theorem dX8_home_114 : decode cX8_home 114 = .ok (.iload_n 1, 1) := by decide +kernel
theorem dX8_home_115 : decode cX8_home 115 = .ok (.iload 8, 2) := by decide +kernel
theorem dX8_home_117 : decode cX8_home 117 = .ok (.invokestatic 295, 3) := by decide +kernel
theorem dX8_home_120 : decode cX8_home 120 = .ok (.bipush 10, 2) := by decide +kernel
theorem dX8_home_122 : decode cX8_home 122 = .ok (.iload_n 1, 1) := by decide +kernel
theorem dX8_home_123 : decode cX8_home 123 = .ok (.isub, 1) := by decide +kernel
theorem dX8_home_124 : decode cX8_home 124 = .ok (.iload 4, 2) := by decide +kernel
theorem dX8_home_126 : decode cX8_home 126 = .ok (.iload 8, 2) := by decide +kernel
theorem dX8_home_128 : decode cX8_home 128 = .ok (.isub, 1) := by decide +kernel
theorem dX8_home_129 : decode cX8_home 129 = .ok (.invokestatic 295, 3) := by decide +kernel
theorem dX8_home_132 : decode cX8_home 132 = .ok (.lmul, 1) := by decide +kernel
theorem dX8_home_133 : decode cX8_home 133 = .ok (.goto 4, 3) := by decide +kernel
theorem dX8_home_136 : decode cX8_home 136 = .ok (.lconst 0, 1) := by decide +kernel
theorem dX8_home_137 : decode cX8_home 137 = .ok (.ladd, 1) := by decide +kernel
theorem dX8_home_138 : decode cX8_home 138 = .ok (.lstore 5, 2) := by decide +kernel
theorem dX8_home_140 : decode cX8_home 140 = .ok (.iinc 7 1, 3) := by decide +kernel
theorem dX8_home_143 : decode cX8_home 143 = .ok (.goto (-60), 3) := by decide +kernel
theorem dX8_home_146 : decode cX8_home 146 = .ok (.lload 5, 2) := by decide +kernel
theorem dX8_home_148 : decode cX8_home 148 = .ok (.bipush 10, 2) := by decide +kernel
theorem dX8_home_150 : decode cX8_home 150 = .ok (.iload 4, 2) := by decide +kernel
theorem dX8_home_152 : decode cX8_home 152 = .ok (.invokestatic 295, 3) := by decide +kernel
theorem dX8_home_155 : decode cX8_home 155 = .ok (.iload_n 3, 1) := by decide +kernel
theorem dX8_home_156 : decode cX8_home 156 = .ok (.invokestatic 224, 3) := by decide +kernel
theorem dX8_home_159 : decode cX8_home 159 = .ok (.lreturn, 1) := by decide +kernel
theorem dX8_mean_0 : decode cX8_mean 0 = .ok (.aload_n 0, 1) := by decide +kernel
theorem dX8_mean_1 : decode cX8_mean 1 = .ok (.invokevirtual 206, 3) := by decide +kernel
theorem dX8_mean_4 : decode cX8_mean 4 = .ok (.ifCond .eq 7, 3) := by decide +kernel
theorem dX8_mean_7 : decode cX8_mean 7 = .ok (.ldc2_w 218, 3) := by decide +kernel
theorem dX8_mean_10 : decode cX8_mean 10 = .ok (.lreturn, 1) := by decide +kernel
theorem dX8_mean_11 : decode cX8_mean 11 = .ok (.iload_n 1, 1) := by decide +kernel
theorem dX8_mean_12 : decode cX8_mean 12 = .ok (.i2l, 1) := by decide +kernel
theorem dX8_mean_13 : decode cX8_mean 13 = .ok (.lconst 0, 1) := by decide +kernel
theorem dX8_mean_14 : decode cX8_mean 14 = .ok (.ldc2_w 147, 3) := by decide +kernel
theorem dX8_mean_17 : decode cX8_mean 17 = .ok (.invokestatic 86, 3) := by decide +kernel
theorem dX8_mean_20 : decode cX8_mean 20 = .ok (.ifCond .eq 13, 3) := by decide +kernel
theorem dX8_mean_23 : decode cX8_mean 23 = .ok (.iload_n 2, 1) := by decide +kernel
theorem dX8_mean_24 : decode cX8_mean 24 = .ok (.i2l, 1) := by decide +kernel
theorem dX8_mean_25 : decode cX8_mean 25 = .ok (.lconst 0, 1) := by decide +kernel
theorem dX8_mean_26 : decode cX8_mean 26 = .ok (.lconst 1, 1) := by decide +kernel
theorem dX8_mean_27 : decode cX8_mean 27 = .ok (.invokestatic 86, 3) := by decide +kernel
theorem dX8_mean_30 : decode cX8_mean 30 = .ok (.ifCond .ne 7, 3) := by decide +kernel
theorem dX8_mean_33 : decode cX8_mean 33 = .ok (.ldc2_w 220, 3) := by decide +kernel
theorem dX8_mean_36 : decode cX8_mean 36 = .ok (.lreturn, 1) := by decide +kernel
theorem dX8_mean_37 : decode cX8_mean 37 = .ok (.aload_n 0, 1) := by decide +kernel
theorem dX8_mean_38 : decode cX8_mean 38 = .ok (.invokevirtual 215, 3) := by decide +kernel
theorem dX8_mean_41 : decode cX8_mean 41 = .ok (.ifCond .eq 7, 3) := by decide +kernel
theorem dX8_mean_44 : decode cX8_mean 44 = .ok (.ldc2_w 222, 3) := by decide +kernel
theorem dX8_mean_47 : decode cX8_mean 47 = .ok (.lreturn, 1) := by decide +kernel
theorem dX8_mean_48 : decode cX8_mean 48 = .ok (.ldc2_w 147, 3) := by decide +kernel
theorem dX8_mean_51 : decode cX8_mean 51 = .ok (.aload_n 0, 1) := by decide +kernel
theorem dX8_mean_52 : decode cX8_mean 52 = .ok (.getfield 162, 3) := by decide +kernel
theorem dX8_mean_55 : decode cX8_mean 55 = .ok (.i2l, 1) := by decide +kernel
theorem dX8_mean_56 : decode cX8_mean 56 = .ok (.lmul, 1) := by decide +kernel
theorem dX8_mean_57 : decode cX8_mean 57 = .ok (.ldc2_w 116, 3) := by decide +kernel
theorem dX8_mean_60 : decode cX8_mean 60 = .ok (.aload_n 0, 1) := by decide +kernel
theorem dX8_mean_61 : decode cX8_mean 61 = .ok (.invokevirtual 290, 3) := by decide +kernel
theorem dX8_mean_64 : decode cX8_mean 64 = .ok (.i2l, 1) := by decide +kernel
theorem dX8_mean_65 : decode cX8_mean 65 = .ok (.lmul, 1) := by decide +kernel
theorem dX8_mean_66 : decode cX8_mean 66 = .ok (.iload_n 1, 1) := by decide +kernel
theorem dX8_mean_67 : decode cX8_mean 67 = .ok (.i2l, 1) := by decide +kernel
theorem dX8_mean_68 : decode cX8_mean 68 = .ok (.lmul, 1) := by decide +kernel
theorem dX8_mean_69 : decode cX8_mean 69 = .ok (.ladd, 1) := by decide +kernel
theorem dX8_mean_70 : decode cX8_mean 70 = .ok (.ldc2_w 147, 3) := by decide +kernel
theorem dX8_mean_73 : decode cX8_mean 73 = .ok (.iload_n 2, 1) := by decide +kernel
theorem dX8_mean_74 : decode cX8_mean 74 = .ok (.invokestatic 224, 3) := by decide +kernel
theorem dX8_mean_77 : decode cX8_mean 77 = .ok (.lreturn, 1) := by decide +kernel
theorem dX8_time_0 : decode cX8_time 0 = .ok (.aload_n 0, 1) := by decide +kernel
theorem dX8_time_1 : decode cX8_time 1 = .ok (.iload_n 1, 1) := by decide +kernel
theorem dX8_time_2 : decode cX8_time 2 = .ok (.invokevirtual 110, 3) := by decide +kernel
theorem dX8_time_5 : decode cX8_time 5 = .ok (.ifCond .ne 5, 3) := by decide +kernel
theorem dX8_time_8 : decode cX8_time 8 = .ok (.iconst (-1), 1) := by decide +kernel
theorem dX8_time_9 : decode cX8_time 9 = .ok (.ireturn, 1) := by decide +kernel
theorem dX8_time_10 : decode cX8_time 10 = .ok (.iload_n 2, 1) := by decide +kernel
theorem dX8_time_11 : decode cX8_time 11 = .ok (.i2l, 1) := by decide +kernel
theorem dX8_time_12 : decode cX8_time 12 = .ok (.lconst 0, 1) := by decide +kernel
theorem dX8_time_13 : decode cX8_time 13 = .ok (.ldc2_w 145, 3) := by decide +kernel
theorem dX8_time_16 : decode cX8_time 16 = .ok (.invokestatic 86, 3) := by decide +kernel
theorem dX8_time_19 : decode cX8_time 19 = .ok (.ifCond .eq 23, 3) := by decide +kernel
theorem dX8_time_22 : decode cX8_time 22 = .ok (.iload_n 3, 1) := by decide +kernel
theorem dX8_time_23 : decode cX8_time 23 = .ok (.invokestatic 149, 3) := by decide +kernel
theorem dX8_time_26 : decode cX8_time 26 = .ok (.ifCond .eq 16, 3) := by decide +kernel
theorem dX8_time_29 : decode cX8_time 29 = .ok (.iload 4, 2) := by decide +kernel
theorem dX8_time_31 : decode cX8_time 31 = .ok (.i2l, 1) := by decide +kernel
theorem dX8_time_32 : decode cX8_time 32 = .ok (.lconst 1, 1) := by decide +kernel
theorem dX8_time_33 : decode cX8_time 33 = .ok (.ldc2_w 299, 3) := by decide +kernel
theorem dX8_time_36 : decode cX8_time 36 = .ok (.invokestatic 86, 3) := by decide +kernel
theorem dX8_time_39 : decode cX8_time 39 = .ok (.ifCond .ne 6, 3) := by decide +kernel
theorem dX8_time_42 : decode cX8_time 42 = .ok (.bipush (-2), 2) := by decide +kernel
theorem dX8_time_44 : decode cX8_time 44 = .ok (.ireturn, 1) := by decide +kernel
theorem dX8_time_45 : decode cX8_time 45 = .ok (.aload_n 0, 1) := by decide +kernel
theorem dX8_time_46 : decode cX8_time 46 = .ok (.getfield 301, 3) := by decide +kernel
theorem dX8_time_49 : decode cX8_time 49 = .ok (.bipush 6, 2) := by decide +kernel
theorem dX8_time_51 : decode cX8_time 51 = .ok (.if_icmp .ne 6, 3) := by decide +kernel
theorem dX8_time_54 : decode cX8_time 54 = .ok (.bipush (-4), 2) := by decide +kernel
theorem dX8_time_56 : decode cX8_time 56 = .ok (.ireturn, 1) := by decide +kernel
theorem dX8_time_57 : decode cX8_time 57 = .ok (.aload_n 0, 1) := by decide +kernel
theorem dX8_time_58 : decode cX8_time 58 = .ok (.getfield 25, 3) := by decide +kernel
theorem dX8_time_61 : decode cX8_time 61 = .ok (.aload_n 0, 1) := by decide +kernel
theorem dX8_time_62 : decode cX8_time 62 = .ok (.getfield 301, 3) := by decide +kernel
theorem dX8_time_65 : decode cX8_time 65 = .ok (.iload_n 1, 1) := by decide +kernel
theorem dX8_time_66 : decode cX8_time 66 = .ok (.iastore, 1) := by decide +kernel
theorem dX8_time_67 : decode cX8_time 67 = .ok (.aload_n 0, 1) := by decide +kernel
theorem dX8_time_68 : decode cX8_time 68 = .ok (.getfield 28, 3) := by decide +kernel
theorem dX8_time_71 : decode cX8_time 71 = .ok (.aload_n 0, 1) := by decide +kernel
theorem dX8_time_72 : decode cX8_time 72 = .ok (.getfield 301, 3) := by decide +kernel
theorem dX8_time_75 : decode cX8_time 75 = .ok (.iload_n 2, 1) := by decide +kernel
theorem dX8_time_76 : decode cX8_time 76 = .ok (.iastore, 1) := by decide +kernel
theorem dX8_time_77 : decode cX8_time 77 = .ok (.aload_n 0, 1) := by decide +kernel
theorem dX8_time_78 : decode cX8_time 78 = .ok (.getfield 31, 3) := by decide +kernel
theorem dX8_time_81 : decode cX8_time 81 = .ok (.aload_n 0, 1) := by decide +kernel
theorem dX8_time_82 : decode cX8_time 82 = .ok (.getfield 301, 3) := by decide +kernel
theorem dX8_time_85 : decode cX8_time 85 = .ok (.iload_n 3, 1) := by decide +kernel
theorem dX8_time_86 : decode cX8_time 86 = .ok (.iastore, 1) := by decide +kernel
theorem dX8_time_87 : decode cX8_time 87 = .ok (.aload_n 0, 1) := by decide +kernel
theorem dX8_time_88 : decode cX8_time 88 = .ok (.getfield 34, 3) := by decide +kernel
theorem dX8_time_91 : decode cX8_time 91 = .ok (.aload_n 0, 1) := by decide +kernel
theorem dX8_time_92 : decode cX8_time 92 = .ok (.getfield 301, 3) := by decide +kernel
theorem dX8_time_95 : decode cX8_time 95 = .ok (.iload 4, 2) := by decide +kernel
theorem dX8_time_97 : decode cX8_time 97 = .ok (.iastore, 1) := by decide +kernel
theorem dX8_time_98 : decode cX8_time 98 = .ok (.aload_n 0, 1) := by decide +kernel
theorem dX8_time_99 : decode cX8_time 99 = .ok (.dup, 1) := by decide +kernel
theorem dX8_time_100 : decode cX8_time 100 = .ok (.getfield 301, 3) := by decide +kernel
theorem dX8_time_103 : decode cX8_time 103 = .ok (.iconst 1, 1) := by decide +kernel
theorem dX8_time_104 : decode cX8_time 104 = .ok (.iadd, 1) := by decide +kernel
theorem dX8_time_105 : decode cX8_time 105 = .ok (.putfield 301, 3) := by decide +kernel
theorem dX8_time_108 : decode cX8_time 108 = .ok (.aload_n 0, 1) := by decide +kernel
theorem dX8_time_109 : decode cX8_time 109 = .ok (.getfield 301, 3) := by decide +kernel
theorem dX8_time_112 : decode cX8_time 112 = .ok (.ireturn, 1) := by decide +kernel
theorem dX8_forget_0 : decode cX8_forget 0 = .ok (.aload_n 0, 1) := by decide +kernel
theorem dX8_forget_1 : decode cX8_forget 1 = .ok (.getfield 301, 3) := by decide +kernel
theorem dX8_forget_4 : decode cX8_forget 4 = .ok (.istore_n 1, 1) := by decide +kernel
theorem dX8_forget_5 : decode cX8_forget 5 = .ok (.aload_n 0, 1) := by decide +kernel
theorem dX8_forget_6 : decode cX8_forget 6 = .ok (.iconst 0, 1) := by decide +kernel
theorem dX8_forget_7 : decode cX8_forget 7 = .ok (.putfield 301, 3) := by decide +kernel
theorem dX8_forget_10 : decode cX8_forget 10 = .ok (.iload_n 1, 1) := by decide +kernel
theorem dX8_forget_11 : decode cX8_forget 11 = .ok (.ireturn, 1) := by decide +kernel
theorem dX8_holds_0 : decode cX8_holds 0 = .ok (.iconst 1, 1) := by decide +kernel
theorem dX8_holds_1 : decode cX8_holds 1 = .ok (.istore_n 3, 1) := by decide +kernel
theorem dX8_holds_2 : decode cX8_holds 2 = .ok (.iconst 0, 1) := by decide +kernel
theorem dX8_holds_3 : decode cX8_holds 3 = .ok (.istore 4, 2) := by decide +kernel
theorem dX8_holds_5 : decode cX8_holds 5 = .ok (.iload 4, 2) := by decide +kernel
theorem dX8_holds_7 : decode cX8_holds 7 = .ok (.aload_n 0, 1) := by decide +kernel
theorem dX8_holds_8 : decode cX8_holds 8 = .ok (.getfield 301, 3) := by decide +kernel
theorem dX8_holds_11 : decode cX8_holds 11 = .ok (.if_icmp .ge 71, 3) := by decide +kernel
theorem dX8_holds_14 : decode cX8_holds 14 = .ok (.aload_n 0, 1) := by decide +kernel
theorem dX8_holds_15 : decode cX8_holds 15 = .ok (.getfield 28, 3) := by decide +kernel
theorem dX8_holds_18 : decode cX8_holds 18 = .ok (.iload 4, 2) := by decide +kernel
theorem dX8_holds_20 : decode cX8_holds 20 = .ok (.iaload, 1) := by decide +kernel
theorem dX8_holds_21 : decode cX8_holds 21 = .ok (.invokestatic 264, 3) := by decide +kernel
theorem dX8_holds_24 : decode cX8_holds 24 = .ok (.invokestatic 190, 3) := by decide +kernel
theorem dX8_holds_27 : decode cX8_holds 27 = .ok (.iconst 2, 1) := by decide +kernel
theorem dX8_holds_28 : decode cX8_holds 28 = .ok (.idiv, 1) := by decide +kernel
theorem dX8_holds_29 : decode cX8_holds 29 = .ok (.aload_n 0, 1) := by decide +kernel
theorem dX8_holds_30 : decode cX8_holds 30 = .ok (.getfield 31, 3) := by decide +kernel
theorem dX8_holds_33 : decode cX8_holds 33 = .ok (.iload 4, 2) := by decide +kernel
theorem dX8_holds_35 : decode cX8_holds 35 = .ok (.iaload, 1) := by decide +kernel
theorem dX8_holds_36 : decode cX8_holds 36 = .ok (.iload_n 2, 1) := by decide +kernel
theorem dX8_holds_37 : decode cX8_holds 37 = .ok (.imul, 1) := by decide +kernel
theorem dX8_holds_38 : decode cX8_holds 38 = .ok (.invokestatic 193, 3) := by decide +kernel
theorem dX8_holds_41 : decode cX8_holds 41 = .ok (.istore 5, 2) := by decide +kernel
theorem dX8_holds_43 : decode cX8_holds 43 = .ok (.iload_n 3, 1) := by decide +kernel
theorem dX8_holds_44 : decode cX8_holds 44 = .ok (.ifCond .eq 30, 3) := by decide +kernel
theorem dX8_holds_47 : decode cX8_holds 47 = .ok (.aload_n 0, 1) := by decide +kernel
theorem dX8_holds_48 : decode cX8_holds 48 = .ok (.getfield 25, 3) := by decide +kernel
theorem dX8_holds_51 : decode cX8_holds 51 = .ok (.iload 4, 2) := by decide +kernel
theorem dX8_holds_53 : decode cX8_holds 53 = .ok (.iaload, 1) := by decide +kernel
theorem dX8_holds_54 : decode cX8_holds 54 = .ok (.iload_n 1, 1) := by decide +kernel
theorem dX8_holds_55 : decode cX8_holds 55 = .ok (.if_icmp .ne 15, 3) := by decide +kernel
theorem dX8_holds_58 : decode cX8_holds 58 = .ok (.iload 5, 2) := by decide +kernel
theorem dX8_holds_60 : decode cX8_holds 60 = .ok (.aload_n 0, 1) := by decide +kernel
theorem dX8_holds_61 : decode cX8_holds 61 = .ok (.getfield 34, 3) := by decide +kernel
theorem dX8_holds_64 : decode cX8_holds 64 = .ok (.iload 4, 2) := by decide +kernel
theorem dX8_holds_66 : decode cX8_holds 66 = .ok (.iaload, 1) := by decide +kernel
theorem dX8_holds_67 : decode cX8_holds 67 = .ok (.if_icmp .ne 7, 3) := by decide +kernel
theorem dX8_holds_70 : decode cX8_holds 70 = .ok (.iconst 1, 1) := by decide +kernel
theorem dX8_holds_71 : decode cX8_holds 71 = .ok (.goto 4, 3) := by decide +kernel
theorem dX8_holds_74 : decode cX8_holds 74 = .ok (.iconst 0, 1) := by decide +kernel
theorem dX8_holds_75 : decode cX8_holds 75 = .ok (.istore_n 3, 1) := by decide +kernel
theorem dX8_holds_76 : decode cX8_holds 76 = .ok (.iinc 4 1, 3) := by decide +kernel
theorem dX8_holds_79 : decode cX8_holds 79 = .ok (.goto (-74), 3) := by decide +kernel
theorem dX8_holds_82 : decode cX8_holds 82 = .ok (.iload_n 3, 1) := by decide +kernel
theorem dX8_holds_83 : decode cX8_holds 83 = .ok (.ireturn, 1) := by decide +kernel
theorem dX8_strong_0 : decode cX8_strong 0 = .ok (.aload_n 0, 1) := by decide +kernel
theorem dX8_strong_1 : decode cX8_strong 1 = .ok (.iload_n 1, 1) := by decide +kernel
theorem dX8_strong_2 : decode cX8_strong 2 = .ok (.invokevirtual 110, 3) := by decide +kernel
theorem dX8_strong_5 : decode cX8_strong 5 = .ok (.ifCond .ne 5, 3) := by decide +kernel
theorem dX8_strong_8 : decode cX8_strong 8 = .ok (.iconst (-1), 1) := by decide +kernel
theorem dX8_strong_9 : decode cX8_strong 9 = .ok (.ireturn, 1) := by decide +kernel
theorem dX8_strong_10 : decode cX8_strong 10 = .ok (.iload_n 2, 1) := by decide +kernel
theorem dX8_strong_11 : decode cX8_strong 11 = .ok (.i2l, 1) := by decide +kernel
theorem dX8_strong_12 : decode cX8_strong 12 = .ok (.lconst 0, 1) := by decide +kernel
theorem dX8_strong_13 : decode cX8_strong 13 = .ok (.ldc2_w 304, 3) := by decide +kernel
theorem dX8_strong_16 : decode cX8_strong 16 = .ok (.invokestatic 86, 3) := by decide +kernel
theorem dX8_strong_19 : decode cX8_strong 19 = .ok (.ifCond .ne 6, 3) := by decide +kernel
theorem dX8_strong_22 : decode cX8_strong 22 = .ok (.bipush (-2), 2) := by decide +kernel
theorem dX8_strong_24 : decode cX8_strong 24 = .ok (.ireturn, 1) := by decide +kernel
theorem dX8_strong_25 : decode cX8_strong 25 = .ok (.iconst 0, 1) := by decide +kernel
theorem dX8_strong_26 : decode cX8_strong 26 = .ok (.istore_n 3, 1) := by decide +kernel
theorem dX8_strong_27 : decode cX8_strong 27 = .ok (.bipush (-6), 2) := by decide +kernel
theorem dX8_strong_29 : decode cX8_strong 29 = .ok (.istore 4, 2) := by decide +kernel
theorem dX8_strong_31 : decode cX8_strong 31 = .ok (.bipush (-6), 2) := by decide +kernel
theorem dX8_strong_33 : decode cX8_strong 33 = .ok (.istore 5, 2) := by decide +kernel
theorem dX8_strong_35 : decode cX8_strong 35 = .ok (.iconst 1, 1) := by decide +kernel
theorem dX8_strong_36 : decode cX8_strong 36 = .ok (.istore 6, 2) := by decide +kernel
theorem dX8_strong_38 : decode cX8_strong 38 = .ok (.iload 6, 2) := by decide +kernel
theorem dX8_strong_40 : decode cX8_strong 40 = .ok (.bipush 20, 2) := by decide +kernel
theorem dX8_strong_42 : decode cX8_strong 42 = .ok (.if_icmp .gt 39, 3) := by decide +kernel
theorem dX8_strong_45 : decode cX8_strong 45 = .ok (.aload_n 0, 1) := by decide +kernel
theorem dX8_strong_46 : decode cX8_strong 46 = .ok (.iload_n 1, 1) := by decide +kernel
theorem dX8_strong_47 : decode cX8_strong 47 = .ok (.iload 6, 2) := by decide +kernel
theorem dX8_strong_49 : decode cX8_strong 49 = .ok (.invokevirtual 306, 3) := by decide +kernel
theorem dX8_strong_52 : decode cX8_strong 52 = .ok (.ifCond .eq 23, 3) := by decide +kernel
theorem dX8_strong_55 : decode cX8_strong 55 = .ok (.iload_n 3, 1) := by decide +kernel
theorem dX8_strong_56 : decode cX8_strong 56 = .ok (.ifCond .ne 8, 3) := by decide +kernel
theorem dX8_strong_59 : decode cX8_strong 59 = .ok (.iload 6, 2) := by decide +kernel
theorem dX8_strong_61 : decode cX8_strong 61 = .ok (.goto 5, 3) := by decide +kernel
theorem dX8_strong_64 : decode cX8_strong 64 = .ok (.iload 4, 2) := by decide +kernel
theorem dX8_strong_66 : decode cX8_strong 66 = .ok (.istore 4, 2) := by decide +kernel
theorem dX8_strong_68 : decode cX8_strong 68 = .ok (.iload 6, 2) := by decide +kernel
theorem dX8_strong_70 : decode cX8_strong 70 = .ok (.istore 5, 2) := by decide +kernel
theorem dX8_strong_72 : decode cX8_strong 72 = .ok (.iinc 3 1, 3) := by decide +kernel
theorem dX8_strong_75 : decode cX8_strong 75 = .ok (.iinc 6 1, 3) := by decide +kernel
theorem dX8_strong_78 : decode cX8_strong 78 = .ok (.goto (-40), 3) := by decide +kernel
theorem dX8_strong_81 : decode cX8_strong 81 = .ok (.iload_n 2, 1) := by decide +kernel
theorem dX8_strong_82 : decode cX8_strong 82 = .ok (.ifCond .ne 7, 3) := by decide +kernel
theorem dX8_strong_85 : decode cX8_strong 85 = .ok (.iload_n 3, 1) := by decide +kernel
theorem dX8_strong_86 : decode cX8_strong 86 = .ok (.goto 15, 3) := by decide +kernel
theorem dX8_strong_89 : decode cX8_strong 89 = .ok (.iload_n 2, 1) := by decide +kernel
theorem dX8_strong_90 : decode cX8_strong 90 = .ok (.iconst 1, 1) := by decide +kernel
theorem dX8_strong_91 : decode cX8_strong 91 = .ok (.if_icmp .ne 8, 3) := by decide +kernel
theorem dX8_strong_94 : decode cX8_strong 94 = .ok (.iload 4, 2) := by decide +kernel
theorem dX8_strong_96 : decode cX8_strong 96 = .ok (.goto 5, 3) := by decide +kernel
theorem dX8_strong_99 : decode cX8_strong 99 = .ok (.iload 5, 2) := by decide +kernel
theorem dX8_strong_101 : decode cX8_strong 101 = .ok (.ireturn, 1) := by decide +kernel
theorem dX8_year_0 : decode cX8_year 0 = .ok (.aload_n 0, 1) := by decide +kernel
theorem dX8_year_1 : decode cX8_year 1 = .ok (.invokevirtual 206, 3) := by decide +kernel
theorem dX8_year_4 : decode cX8_year 4 = .ok (.ifCond .eq 6, 3) := by decide +kernel
theorem dX8_year_7 : decode cX8_year 7 = .ok (.bipush (-3), 2) := by decide +kernel
theorem dX8_year_9 : decode cX8_year 9 = .ok (.ireturn, 1) := by decide +kernel
theorem dX8_year_10 : decode cX8_year 10 = .ok (.iload_n 1, 1) := by decide +kernel
theorem dX8_year_11 : decode cX8_year 11 = .ok (.i2l, 1) := by decide +kernel
theorem dX8_year_12 : decode cX8_year 12 = .ok (.lconst 0, 1) := by decide +kernel
theorem dX8_year_13 : decode cX8_year 13 = .ok (.ldc2_w 288, 3) := by decide +kernel
theorem dX8_year_16 : decode cX8_year 16 = .ok (.invokestatic 86, 3) := by decide +kernel
theorem dX8_year_19 : decode cX8_year 19 = .ok (.ifCond .eq 27, 3) := by decide +kernel
theorem dX8_year_22 : decode cX8_year 22 = .ok (.iload_n 2, 1) := by decide +kernel
theorem dX8_year_23 : decode cX8_year 23 = .ok (.i2l, 1) := by decide +kernel
theorem dX8_year_24 : decode cX8_year 24 = .ok (.lconst 1, 1) := by decide +kernel
theorem dX8_year_25 : decode cX8_year 25 = .ok (.ldc2_w 118, 3) := by decide +kernel
theorem dX8_year_28 : decode cX8_year 28 = .ok (.invokestatic 86, 3) := by decide +kernel
theorem dX8_year_31 : decode cX8_year 31 = .ok (.ifCond .eq 15, 3) := by decide +kernel
theorem dX8_year_34 : decode cX8_year 34 = .ok (.iload_n 3, 1) := by decide +kernel
theorem dX8_year_35 : decode cX8_year 35 = .ok (.i2l, 1) := by decide +kernel
theorem dX8_year_36 : decode cX8_year 36 = .ok (.lconst 0, 1) := by decide +kernel
theorem dX8_year_37 : decode cX8_year 37 = .ok (.ldc2_w 304, 3) := by decide +kernel
theorem dX8_year_40 : decode cX8_year 40 = .ok (.invokestatic 86, 3) := by decide +kernel
theorem dX8_year_43 : decode cX8_year 43 = .ok (.ifCond .ne 6, 3) := by decide +kernel
theorem dX8_year_46 : decode cX8_year 46 = .ok (.bipush (-2), 2) := by decide +kernel
theorem dX8_year_48 : decode cX8_year 48 = .ok (.ireturn, 1) := by decide +kernel
theorem dX8_year_49 : decode cX8_year 49 = .ok (.iload_n 1, 1) := by decide +kernel
theorem dX8_year_50 : decode cX8_year 50 = .ok (.istore 4, 2) := by decide +kernel
theorem dX8_year_52 : decode cX8_year 52 = .ok (.iconst 0, 1) := by decide +kernel
theorem dX8_year_53 : decode cX8_year 53 = .ok (.istore 5, 2) := by decide +kernel
theorem dX8_year_55 : decode cX8_year 55 = .ok (.ldc 228, 2) := by decide +kernel
theorem dX8_year_57 : decode cX8_year 57 = .ok (.istore 6, 2) := by decide +kernel
theorem dX8_year_59 : decode cX8_year 59 = .ok (.iconst 0, 1) := by decide +kernel
theorem dX8_year_60 : decode cX8_year 60 = .ok (.istore 7, 2) := by decide +kernel
theorem dX8_year_62 : decode cX8_year 62 = .ok (.iconst 0, 1) := by decide +kernel
theorem dX8_year_63 : decode cX8_year 63 = .ok (.istore 8, 2) := by decide +kernel
theorem dX8_year_65 : decode cX8_year 65 = .ok (.iload 8, 2) := by decide +kernel
theorem dX8_year_67 : decode cX8_year 67 = .ok (.iload_n 2, 1) := by decide +kernel
theorem dX8_year_68 : decode cX8_year 68 = .ok (.if_icmp .ge 94, 3) := by decide +kernel
theorem dX8_year_71 : decode cX8_year 71 = .ok (.ldc2_w 309, 3) := by decide +kernel
theorem dX8_year_74 : decode cX8_year 74 = .ok (.iload 4, 2) := by decide +kernel
theorem dX8_year_76 : decode cX8_year 76 = .ok (.i2l, 1) := by decide +kernel
theorem dX8_year_77 : decode cX8_year 77 = .ok (.lmul, 1) := by decide +kernel
theorem dX8_year_78 : decode cX8_year 78 = .ok (.ldc2_w 311, 3) := by decide +kernel
theorem dX8_year_81 : decode cX8_year 81 = .ok (.ladd, 1) := by decide +kernel
theorem dX8_year_82 : decode cX8_year 82 = .ok (.ldc2_w 313, 3) := by decide +kernel
theorem dX8_year_85 : decode cX8_year 85 = .ok (.lrem, 1) := by decide +kernel
theorem dX8_year_86 : decode cX8_year 86 = .ok (.l2i, 1) := by decide +kernel
theorem dX8_year_87 : decode cX8_year 87 = .ok (.istore 4, 2) := by decide +kernel
theorem dX8_year_89 : decode cX8_year 89 = .ok (.iconst 1, 1) := by decide +kernel
theorem dX8_year_90 : decode cX8_year 90 = .ok (.iload 4, 2) := by decide +kernel
theorem dX8_year_92 : decode cX8_year 92 = .ok (.iconst 3, 1) := by decide +kernel
theorem dX8_year_93 : decode cX8_year 93 = .ok (.irem, 1) := by decide +kernel
theorem dX8_year_94 : decode cX8_year 94 = .ok (.iadd, 1) := by decide +kernel
theorem dX8_year_95 : decode cX8_year 95 = .ok (.istore 9, 2) := by decide +kernel
theorem dX8_year_97 : decode cX8_year 97 = .ok (.aload_n 0, 1) := by decide +kernel
theorem dX8_year_98 : decode cX8_year 98 = .ok (.bipush 6, 2) := by decide +kernel
theorem dX8_year_100 : decode cX8_year 100 = .ok (.iload 9, 2) := by decide +kernel
theorem dX8_year_102 : decode cX8_year 102 = .ok (.imul, 1) := by decide +kernel
theorem dX8_year_103 : decode cX8_year 103 = .ok (.iconst 4, 1) := by decide +kernel
theorem dX8_year_104 : decode cX8_year 104 = .ok (.iload 4, 2) := by decide +kernel
theorem dX8_year_106 : decode cX8_year 106 = .ok (.iconst 3, 1) := by decide +kernel
theorem dX8_year_107 : decode cX8_year 107 = .ok (.idiv, 1) := by decide +kernel
theorem dX8_year_108 : decode cX8_year 108 = .ok (.bipush 7, 2) := by decide +kernel
theorem dX8_year_110 : decode cX8_year 110 = .ok (.irem, 1) := by decide +kernel
theorem dX8_year_111 : decode cX8_year 111 = .ok (.iadd, 1) := by decide +kernel
theorem dX8_year_112 : decode cX8_year 112 = .ok (.invokevirtual 255, 3) := by decide +kernel
theorem dX8_year_115 : decode cX8_year 115 = .ok (.istore 10, 2) := by decide +kernel
theorem dX8_year_117 : decode cX8_year 117 = .ok (.iload 5, 2) := by decide +kernel
theorem dX8_year_119 : decode cX8_year 119 = .ok (.iload 10, 2) := by decide +kernel
theorem dX8_year_121 : decode cX8_year 121 = .ok (.iadd, 1) := by decide +kernel
theorem dX8_year_122 : decode cX8_year 122 = .ok (.istore 5, 2) := by decide +kernel
theorem dX8_year_124 : decode cX8_year 124 = .ok (.iload 10, 2) := by decide +kernel
theorem dX8_year_126 : decode cX8_year 126 = .ok (.iload 6, 2) := by decide +kernel
theorem dX8_year_128 : decode cX8_year 128 = .ok (.if_icmp .ge 8, 3) := by decide +kernel
theorem dX8_year_131 : decode cX8_year 131 = .ok (.iload 10, 2) := by decide +kernel
theorem dX8_year_133 : decode cX8_year 133 = .ok (.goto 5, 3) := by decide +kernel
theorem dX8_year_136 : decode cX8_year 136 = .ok (.iload 6, 2) := by decide +kernel
theorem dX8_year_138 : decode cX8_year 138 = .ok (.istore 6, 2) := by decide +kernel
theorem dX8_year_140 : decode cX8_year 140 = .ok (.iload 10, 2) := by decide +kernel
theorem dX8_year_142 : decode cX8_year 142 = .ok (.iload 7, 2) := by decide +kernel
theorem dX8_year_144 : decode cX8_year 144 = .ok (.if_icmp .le 8, 3) := by decide +kernel
theorem dX8_year_147 : decode cX8_year 147 = .ok (.iload 10, 2) := by decide +kernel
theorem dX8_year_149 : decode cX8_year 149 = .ok (.goto 5, 3) := by decide +kernel
theorem dX8_year_152 : decode cX8_year 152 = .ok (.iload 7, 2) := by decide +kernel
theorem dX8_year_154 : decode cX8_year 154 = .ok (.istore 7, 2) := by decide +kernel
theorem dX8_year_156 : decode cX8_year 156 = .ok (.iinc 8 1, 3) := by decide +kernel
theorem dX8_year_159 : decode cX8_year 159 = .ok (.goto (-94), 3) := by decide +kernel
theorem dX8_year_162 : decode cX8_year 162 = .ok (.iload_n 3, 1) := by decide +kernel
theorem dX8_year_163 : decode cX8_year 163 = .ok (.ifCond .ne 8, 3) := by decide +kernel
theorem dX8_year_166 : decode cX8_year 166 = .ok (.iload 5, 2) := by decide +kernel
theorem dX8_year_168 : decode cX8_year 168 = .ok (.goto 15, 3) := by decide +kernel
theorem dX8_year_171 : decode cX8_year 171 = .ok (.iload_n 3, 1) := by decide +kernel
theorem dX8_year_172 : decode cX8_year 172 = .ok (.iconst 1, 1) := by decide +kernel
theorem dX8_year_173 : decode cX8_year 173 = .ok (.if_icmp .ne 8, 3) := by decide +kernel
theorem dX8_year_176 : decode cX8_year 176 = .ok (.iload 6, 2) := by decide +kernel
theorem dX8_year_178 : decode cX8_year 178 = .ok (.goto 5, 3) := by decide +kernel
theorem dX8_year_181 : decode cX8_year 181 = .ok (.iload 7, 2) := by decide +kernel
theorem dX8_year_183 : decode cX8_year 183 = .ok (.ireturn, 1) := by decide +kernel
theorem dX8_pass_0 : decode cX8_pass 0 = .ok (.aload_n 0, 1) := by decide +kernel
theorem dX8_pass_1 : decode cX8_pass 1 = .ok (.getfield 315, 3) := by decide +kernel
theorem dX8_pass_4 : decode cX8_pass 4 = .ok (.ifCond .eq 7, 3) := by decide +kernel
theorem dX8_pass_7 : decode cX8_pass 7 = .ok (.iload_n 1, 1) := by decide +kernel
theorem dX8_pass_8 : decode cX8_pass 8 = .ok (.goto 12, 3) := by decide +kernel
theorem dX8_pass_11 : decode cX8_pass 11 = .ok (.aload_n 0, 1) := by decide +kernel
theorem dX8_pass_12 : decode cX8_pass 12 = .ok (.getfield 61, 3) := by decide +kernel
theorem dX8_pass_15 : decode cX8_pass 15 = .ok (.aload_n 0, 1) := by decide +kernel
theorem dX8_pass_16 : decode cX8_pass 16 = .ok (.getfield 319, 3) := by decide +kernel
theorem dX8_pass_19 : decode cX8_pass 19 = .ok (.iaload, 1) := by decide +kernel
theorem dX8_pass_20 : decode cX8_pass 20 = .ok (.istore_n 2, 1) := by decide +kernel
theorem dX8_pass_21 : decode cX8_pass 21 = .ok (.aload_n 0, 1) := by decide +kernel
theorem dX8_pass_22 : decode cX8_pass 22 = .ok (.getfield 61, 3) := by decide +kernel
theorem dX8_pass_25 : decode cX8_pass 25 = .ok (.aload_n 0, 1) := by decide +kernel
theorem dX8_pass_26 : decode cX8_pass 26 = .ok (.getfield 319, 3) := by decide +kernel
theorem dX8_pass_29 : decode cX8_pass 29 = .ok (.iload_n 2, 1) := by decide +kernel
theorem dX8_pass_30 : decode cX8_pass 30 = .ok (.iastore, 1) := by decide +kernel
theorem dX8_pass_31 : decode cX8_pass 31 = .ok (.aload_n 0, 1) := by decide +kernel
theorem dX8_pass_32 : decode cX8_pass 32 = .ok (.dup, 1) := by decide +kernel
theorem dX8_pass_33 : decode cX8_pass 33 = .ok (.getfield 319, 3) := by decide +kernel
theorem dX8_pass_36 : decode cX8_pass 36 = .ok (.iconst 1, 1) := by decide +kernel
theorem dX8_pass_37 : decode cX8_pass 37 = .ok (.iadd, 1) := by decide +kernel
theorem dX8_pass_38 : decode cX8_pass 38 = .ok (.putfield 319, 3) := by decide +kernel
theorem dX8_pass_41 : decode cX8_pass 41 = .ok (.iload_n 2, 1) := by decide +kernel
theorem dX8_pass_42 : decode cX8_pass 42 = .ok (.ireturn, 1) := by decide +kernel
theorem dX8_passAll_0 : decode cX8_passAll 0 = .ok (.aload_n 0, 1) := by decide +kernel
theorem dX8_passAll_1 : decode cX8_passAll 1 = .ok (.aload_n 0, 1) := by decide +kernel
theorem dX8_passAll_2 : decode cX8_passAll 2 = .ok (.aload_n 0, 1) := by decide +kernel
theorem dX8_passAll_3 : decode cX8_passAll 3 = .ok (.getfield 94, 3) := by decide +kernel
theorem dX8_passAll_6 : decode cX8_passAll 6 = .ok (.invokevirtual 322, 3) := by decide +kernel
theorem dX8_passAll_9 : decode cX8_passAll 9 = .ok (.putfield 94, 3) := by decide +kernel
theorem dX8_passAll_12 : decode cX8_passAll 12 = .ok (.aload_n 0, 1) := by decide +kernel
theorem dX8_passAll_13 : decode cX8_passAll 13 = .ok (.aload_n 0, 1) := by decide +kernel
theorem dX8_passAll_14 : decode cX8_passAll 14 = .ok (.aload_n 0, 1) := by decide +kernel
theorem dX8_passAll_15 : decode cX8_passAll 15 = .ok (.getfield 113, 3) := by decide +kernel
theorem dX8_passAll_18 : decode cX8_passAll 18 = .ok (.invokevirtual 322, 3) := by decide +kernel
theorem dX8_passAll_21 : decode cX8_passAll 21 = .ok (.putfield 113, 3) := by decide +kernel
theorem dX8_passAll_24 : decode cX8_passAll 24 = .ok (.aload_n 0, 1) := by decide +kernel
theorem dX8_passAll_25 : decode cX8_passAll 25 = .ok (.aload_n 0, 1) := by decide +kernel
theorem dX8_passAll_26 : decode cX8_passAll 26 = .ok (.aload_n 0, 1) := by decide +kernel
theorem dX8_passAll_27 : decode cX8_passAll 27 = .ok (.getfield 68, 3) := by decide +kernel
theorem dX8_passAll_30 : decode cX8_passAll 30 = .ok (.invokevirtual 322, 3) := by decide +kernel
theorem dX8_passAll_33 : decode cX8_passAll 33 = .ok (.putfield 68, 3) := by decide +kernel
theorem dX8_passAll_36 : decode cX8_passAll 36 = .ok (.aload_n 0, 1) := by decide +kernel
theorem dX8_passAll_37 : decode cX8_passAll 37 = .ok (.aload_n 0, 1) := by decide +kernel
theorem dX8_passAll_38 : decode cX8_passAll 38 = .ok (.aload_n 0, 1) := by decide +kernel
theorem dX8_passAll_39 : decode cX8_passAll 39 = .ok (.getfield 72, 3) := by decide +kernel
theorem dX8_passAll_42 : decode cX8_passAll 42 = .ok (.invokevirtual 322, 3) := by decide +kernel
theorem dX8_passAll_45 : decode cX8_passAll 45 = .ok (.putfield 72, 3) := by decide +kernel
theorem dX8_passAll_48 : decode cX8_passAll 48 = .ok (.aload_n 0, 1) := by decide +kernel
theorem dX8_passAll_49 : decode cX8_passAll 49 = .ok (.aload_n 0, 1) := by decide +kernel
theorem dX8_passAll_50 : decode cX8_passAll 50 = .ok (.aload_n 0, 1) := by decide +kernel
theorem dX8_passAll_51 : decode cX8_passAll 51 = .ok (.getfield 75, 3) := by decide +kernel
theorem dX8_passAll_54 : decode cX8_passAll 54 = .ok (.invokevirtual 322, 3) := by decide +kernel
theorem dX8_passAll_57 : decode cX8_passAll 57 = .ok (.putfield 75, 3) := by decide +kernel
theorem dX8_passAll_60 : decode cX8_passAll 60 = .ok (.aload_n 0, 1) := by decide +kernel
theorem dX8_passAll_61 : decode cX8_passAll 61 = .ok (.aload_n 0, 1) := by decide +kernel
theorem dX8_passAll_62 : decode cX8_passAll 62 = .ok (.aload_n 0, 1) := by decide +kernel
theorem dX8_passAll_63 : decode cX8_passAll 63 = .ok (.getfield 78, 3) := by decide +kernel
theorem dX8_passAll_66 : decode cX8_passAll 66 = .ok (.invokevirtual 322, 3) := by decide +kernel
theorem dX8_passAll_69 : decode cX8_passAll 69 = .ok (.putfield 78, 3) := by decide +kernel
theorem dX8_passAll_72 : decode cX8_passAll 72 = .ok (.aload_n 0, 1) := by decide +kernel
theorem dX8_passAll_73 : decode cX8_passAll 73 = .ok (.aload_n 0, 1) := by decide +kernel
theorem dX8_passAll_74 : decode cX8_passAll 74 = .ok (.aload_n 0, 1) := by decide +kernel
theorem dX8_passAll_75 : decode cX8_passAll 75 = .ok (.getfield 81, 3) := by decide +kernel
theorem dX8_passAll_78 : decode cX8_passAll 78 = .ok (.invokevirtual 322, 3) := by decide +kernel
theorem dX8_passAll_81 : decode cX8_passAll 81 = .ok (.putfield 81, 3) := by decide +kernel
theorem dX8_passAll_84 : decode cX8_passAll 84 = .ok (.aload_n 0, 1) := by decide +kernel
theorem dX8_passAll_85 : decode cX8_passAll 85 = .ok (.aload_n 0, 1) := by decide +kernel
theorem dX8_passAll_86 : decode cX8_passAll 86 = .ok (.aload_n 0, 1) := by decide +kernel
theorem dX8_passAll_87 : decode cX8_passAll 87 = .ok (.getfield 301, 3) := by decide +kernel
theorem dX8_passAll_90 : decode cX8_passAll 90 = .ok (.invokevirtual 322, 3) := by decide +kernel
theorem dX8_passAll_93 : decode cX8_passAll 93 = .ok (.putfield 301, 3) := by decide +kernel
theorem dX8_passAll_96 : decode cX8_passAll 96 = .ok (.iconst 0, 1) := by decide +kernel
theorem dX8_passAll_97 : decode cX8_passAll 97 = .ok (.istore_n 1, 1) := by decide +kernel
theorem dX8_passAll_98 : decode cX8_passAll 98 = .ok (.iload_n 1, 1) := by decide +kernel
theorem dX8_passAll_99 : decode cX8_passAll 99 = .ok (.iconst 4, 1) := by decide +kernel
theorem dX8_passAll_100 : decode cX8_passAll 100 = .ok (.if_icmp .ge 73, 3) := by decide +kernel
theorem dX8_passAll_103 : decode cX8_passAll 103 = .ok (.aload_n 0, 1) := by decide +kernel
theorem dX8_passAll_104 : decode cX8_passAll 104 = .ok (.getfield 7, 3) := by decide +kernel
theorem dX8_passAll_107 : decode cX8_passAll 107 = .ok (.iload_n 1, 1) := by decide +kernel
theorem dX8_passAll_108 : decode cX8_passAll 108 = .ok (.aload_n 0, 1) := by decide +kernel
theorem dX8_passAll_109 : decode cX8_passAll 109 = .ok (.aload_n 0, 1) := by decide +kernel
theorem dX8_passAll_110 : decode cX8_passAll 110 = .ok (.getfield 7, 3) := by decide +kernel
theorem dX8_passAll_113 : decode cX8_passAll 113 = .ok (.iload_n 1, 1) := by decide +kernel
theorem dX8_passAll_114 : decode cX8_passAll 114 = .ok (.iaload, 1) := by decide +kernel
theorem dX8_passAll_115 : decode cX8_passAll 115 = .ok (.invokevirtual 322, 3) := by decide +kernel
theorem dX8_passAll_118 : decode cX8_passAll 118 = .ok (.iastore, 1) := by decide +kernel
theorem dX8_passAll_119 : decode cX8_passAll 119 = .ok (.aload_n 0, 1) := by decide +kernel
theorem dX8_passAll_120 : decode cX8_passAll 120 = .ok (.getfield 13, 3) := by decide +kernel
theorem dX8_passAll_123 : decode cX8_passAll 123 = .ok (.iload_n 1, 1) := by decide +kernel
theorem dX8_passAll_124 : decode cX8_passAll 124 = .ok (.aload_n 0, 1) := by decide +kernel
theorem dX8_passAll_125 : decode cX8_passAll 125 = .ok (.aload_n 0, 1) := by decide +kernel
theorem dX8_passAll_126 : decode cX8_passAll 126 = .ok (.getfield 13, 3) := by decide +kernel
theorem dX8_passAll_129 : decode cX8_passAll 129 = .ok (.iload_n 1, 1) := by decide +kernel
theorem dX8_passAll_130 : decode cX8_passAll 130 = .ok (.iaload, 1) := by decide +kernel
theorem dX8_passAll_131 : decode cX8_passAll 131 = .ok (.invokevirtual 322, 3) := by decide +kernel
theorem dX8_passAll_134 : decode cX8_passAll 134 = .ok (.iastore, 1) := by decide +kernel
theorem dX8_passAll_135 : decode cX8_passAll 135 = .ok (.aload_n 0, 1) := by decide +kernel
theorem dX8_passAll_136 : decode cX8_passAll 136 = .ok (.getfield 16, 3) := by decide +kernel
theorem dX8_passAll_139 : decode cX8_passAll 139 = .ok (.iload_n 1, 1) := by decide +kernel
theorem dX8_passAll_140 : decode cX8_passAll 140 = .ok (.aload_n 0, 1) := by decide +kernel
theorem dX8_passAll_141 : decode cX8_passAll 141 = .ok (.aload_n 0, 1) := by decide +kernel
theorem dX8_passAll_142 : decode cX8_passAll 142 = .ok (.getfield 16, 3) := by decide +kernel
theorem dX8_passAll_145 : decode cX8_passAll 145 = .ok (.iload_n 1, 1) := by decide +kernel
theorem dX8_passAll_146 : decode cX8_passAll 146 = .ok (.iaload, 1) := by decide +kernel
theorem dX8_passAll_147 : decode cX8_passAll 147 = .ok (.invokevirtual 322, 3) := by decide +kernel
theorem dX8_passAll_150 : decode cX8_passAll 150 = .ok (.iastore, 1) := by decide +kernel
theorem dX8_passAll_151 : decode cX8_passAll 151 = .ok (.aload_n 0, 1) := by decide +kernel
theorem dX8_passAll_152 : decode cX8_passAll 152 = .ok (.getfield 19, 3) := by decide +kernel
theorem dX8_passAll_155 : decode cX8_passAll 155 = .ok (.iload_n 1, 1) := by decide +kernel
theorem dX8_passAll_156 : decode cX8_passAll 156 = .ok (.aload_n 0, 1) := by decide +kernel
theorem dX8_passAll_157 : decode cX8_passAll 157 = .ok (.aload_n 0, 1) := by decide +kernel
theorem dX8_passAll_158 : decode cX8_passAll 158 = .ok (.getfield 19, 3) := by decide +kernel
theorem dX8_passAll_161 : decode cX8_passAll 161 = .ok (.iload_n 1, 1) := by decide +kernel
theorem dX8_passAll_162 : decode cX8_passAll 162 = .ok (.iaload, 1) := by decide +kernel
theorem dX8_passAll_163 : decode cX8_passAll 163 = .ok (.invokevirtual 322, 3) := by decide +kernel
theorem dX8_passAll_166 : decode cX8_passAll 166 = .ok (.iastore, 1) := by decide +kernel
theorem dX8_passAll_167 : decode cX8_passAll 167 = .ok (.iinc 1 1, 3) := by decide +kernel
theorem dX8_passAll_170 : decode cX8_passAll 170 = .ok (.goto (-72), 3) := by decide +kernel
theorem dX8_passAll_173 : decode cX8_passAll 173 = .ok (.iconst 0, 1) := by decide +kernel
theorem dX8_passAll_174 : decode cX8_passAll 174 = .ok (.istore_n 1, 1) := by decide +kernel
theorem dX8_passAll_175 : decode cX8_passAll 175 = .ok (.iload_n 1, 1) := by decide +kernel
theorem dX8_passAll_176 : decode cX8_passAll 176 = .ok (.bipush 24, 2) := by decide +kernel
theorem dX8_passAll_178 : decode cX8_passAll 178 = .ok (.if_icmp .ge 25, 3) := by decide +kernel
theorem dX8_passAll_181 : decode cX8_passAll 181 = .ok (.aload_n 0, 1) := by decide +kernel
theorem dX8_passAll_182 : decode cX8_passAll 182 = .ok (.getfield 22, 3) := by decide +kernel
theorem dX8_passAll_185 : decode cX8_passAll 185 = .ok (.iload_n 1, 1) := by decide +kernel
theorem dX8_passAll_186 : decode cX8_passAll 186 = .ok (.aload_n 0, 1) := by decide +kernel
theorem dX8_passAll_187 : decode cX8_passAll 187 = .ok (.aload_n 0, 1) := by decide +kernel
theorem dX8_passAll_188 : decode cX8_passAll 188 = .ok (.getfield 22, 3) := by decide +kernel
theorem dX8_passAll_191 : decode cX8_passAll 191 = .ok (.iload_n 1, 1) := by decide +kernel
theorem dX8_passAll_192 : decode cX8_passAll 192 = .ok (.iaload, 1) := by decide +kernel
theorem dX8_passAll_193 : decode cX8_passAll 193 = .ok (.invokevirtual 322, 3) := by decide +kernel
theorem dX8_passAll_196 : decode cX8_passAll 196 = .ok (.iastore, 1) := by decide +kernel
theorem dX8_passAll_197 : decode cX8_passAll 197 = .ok (.iinc 1 1, 3) := by decide +kernel
theorem dX8_passAll_200 : decode cX8_passAll 200 = .ok (.goto (-25), 3) := by decide +kernel
theorem dX8_passAll_203 : decode cX8_passAll 203 = .ok (.iconst 0, 1) := by decide +kernel
theorem dX8_passAll_204 : decode cX8_passAll 204 = .ok (.istore_n 1, 1) := by decide +kernel
theorem dX8_passAll_205 : decode cX8_passAll 205 = .ok (.iload_n 1, 1) := by decide +kernel
theorem dX8_passAll_206 : decode cX8_passAll 206 = .ok (.bipush 6, 2) := by decide +kernel
theorem dX8_passAll_208 : decode cX8_passAll 208 = .ok (.if_icmp .ge 73, 3) := by decide +kernel
theorem dX8_passAll_211 : decode cX8_passAll 211 = .ok (.aload_n 0, 1) := by decide +kernel
theorem dX8_passAll_212 : decode cX8_passAll 212 = .ok (.getfield 25, 3) := by decide +kernel
theorem dX8_passAll_215 : decode cX8_passAll 215 = .ok (.iload_n 1, 1) := by decide +kernel
theorem dX8_passAll_216 : decode cX8_passAll 216 = .ok (.aload_n 0, 1) := by decide +kernel
theorem dX8_passAll_217 : decode cX8_passAll 217 = .ok (.aload_n 0, 1) := by decide +kernel
theorem dX8_passAll_218 : decode cX8_passAll 218 = .ok (.getfield 25, 3) := by decide +kernel
theorem dX8_passAll_221 : decode cX8_passAll 221 = .ok (.iload_n 1, 1) := by decide +kernel
theorem dX8_passAll_222 : decode cX8_passAll 222 = .ok (.iaload, 1) := by decide +kernel
theorem dX8_passAll_223 : decode cX8_passAll 223 = .ok (.invokevirtual 322, 3) := by decide +kernel
theorem dX8_passAll_226 : decode cX8_passAll 226 = .ok (.iastore, 1) := by decide +kernel
theorem dX8_passAll_227 : decode cX8_passAll 227 = .ok (.aload_n 0, 1) := by decide +kernel
theorem dX8_passAll_228 : decode cX8_passAll 228 = .ok (.getfield 28, 3) := by decide +kernel
theorem dX8_passAll_231 : decode cX8_passAll 231 = .ok (.iload_n 1, 1) := by decide +kernel
theorem dX8_passAll_232 : decode cX8_passAll 232 = .ok (.aload_n 0, 1) := by decide +kernel
theorem dX8_passAll_233 : decode cX8_passAll 233 = .ok (.aload_n 0, 1) := by decide +kernel
theorem dX8_passAll_234 : decode cX8_passAll 234 = .ok (.getfield 28, 3) := by decide +kernel
theorem dX8_passAll_237 : decode cX8_passAll 237 = .ok (.iload_n 1, 1) := by decide +kernel
theorem dX8_passAll_238 : decode cX8_passAll 238 = .ok (.iaload, 1) := by decide +kernel
theorem dX8_passAll_239 : decode cX8_passAll 239 = .ok (.invokevirtual 322, 3) := by decide +kernel
theorem dX8_passAll_242 : decode cX8_passAll 242 = .ok (.iastore, 1) := by decide +kernel
theorem dX8_passAll_243 : decode cX8_passAll 243 = .ok (.aload_n 0, 1) := by decide +kernel
theorem dX8_passAll_244 : decode cX8_passAll 244 = .ok (.getfield 31, 3) := by decide +kernel
theorem dX8_passAll_247 : decode cX8_passAll 247 = .ok (.iload_n 1, 1) := by decide +kernel
theorem dX8_passAll_248 : decode cX8_passAll 248 = .ok (.aload_n 0, 1) := by decide +kernel
theorem dX8_passAll_249 : decode cX8_passAll 249 = .ok (.aload_n 0, 1) := by decide +kernel
theorem dX8_passAll_250 : decode cX8_passAll 250 = .ok (.getfield 31, 3) := by decide +kernel
theorem dX8_passAll_253 : decode cX8_passAll 253 = .ok (.iload_n 1, 1) := by decide +kernel
theorem dX8_passAll_254 : decode cX8_passAll 254 = .ok (.iaload, 1) := by decide +kernel
theorem dX8_passAll_255 : decode cX8_passAll 255 = .ok (.invokevirtual 322, 3) := by decide +kernel
theorem dX8_passAll_258 : decode cX8_passAll 258 = .ok (.iastore, 1) := by decide +kernel
theorem dX8_passAll_259 : decode cX8_passAll 259 = .ok (.aload_n 0, 1) := by decide +kernel
theorem dX8_passAll_260 : decode cX8_passAll 260 = .ok (.getfield 34, 3) := by decide +kernel
theorem dX8_passAll_263 : decode cX8_passAll 263 = .ok (.iload_n 1, 1) := by decide +kernel
theorem dX8_passAll_264 : decode cX8_passAll 264 = .ok (.aload_n 0, 1) := by decide +kernel
theorem dX8_passAll_265 : decode cX8_passAll 265 = .ok (.aload_n 0, 1) := by decide +kernel
theorem dX8_passAll_266 : decode cX8_passAll 266 = .ok (.getfield 34, 3) := by decide +kernel
theorem dX8_passAll_269 : decode cX8_passAll 269 = .ok (.iload_n 1, 1) := by decide +kernel
theorem dX8_passAll_270 : decode cX8_passAll 270 = .ok (.iaload, 1) := by decide +kernel
theorem dX8_passAll_271 : decode cX8_passAll 271 = .ok (.invokevirtual 322, 3) := by decide +kernel
theorem dX8_passAll_274 : decode cX8_passAll 274 = .ok (.iastore, 1) := by decide +kernel
theorem dX8_passAll_275 : decode cX8_passAll 275 = .ok (.iinc 1 1, 3) := by decide +kernel
theorem dX8_passAll_278 : decode cX8_passAll 278 = .ok (.goto (-73), 3) := by decide +kernel
theorem dX8_passAll_281 : decode cX8_passAll 281 = .ok (.return_, 1) := by decide +kernel
theorem dX8_image_0 : decode cX8_image 0 = .ok (.iload_n 1, 1) := by decide +kernel
theorem dX8_image_1 : decode cX8_image 1 = .ok (.i2l, 1) := by decide +kernel
theorem dX8_image_2 : decode cX8_image 2 = .ok (.lconst 0, 1) := by decide +kernel
theorem dX8_image_3 : decode cX8_image 3 = .ok (.lconst 1, 1) := by decide +kernel
theorem dX8_image_4 : decode cX8_image 4 = .ok (.invokestatic 86, 3) := by decide +kernel
theorem dX8_image_7 : decode cX8_image 7 = .ok (.ifCond .ne 6, 3) := by decide +kernel
theorem dX8_image_10 : decode cX8_image 10 = .ok (.bipush (-2), 2) := by decide +kernel
theorem dX8_image_12 : decode cX8_image 12 = .ok (.ireturn, 1) := by decide +kernel
theorem dX8_image_13 : decode cX8_image 13 = .ok (.aload_n 0, 1) := by decide +kernel
theorem dX8_image_14 : decode cX8_image 14 = .ok (.bipush 80, 2) := by decide +kernel
theorem dX8_image_16 : decode cX8_image 16 = .ok (.iload_n 1, 1) := by decide +kernel
theorem dX8_image_17 : decode cX8_image 17 = .ok (.imul, 1) := by decide +kernel
theorem dX8_image_18 : decode cX8_image 18 = .ok (.putfield 319, 3) := by decide +kernel
theorem dX8_image_21 : decode cX8_image 21 = .ok (.aload_n 0, 1) := by decide +kernel
theorem dX8_image_22 : decode cX8_image 22 = .ok (.iconst 1, 1) := by decide +kernel
theorem dX8_image_23 : decode cX8_image 23 = .ok (.putfield 315, 3) := by decide +kernel
theorem dX8_image_26 : decode cX8_image 26 = .ok (.aload_n 0, 1) := by decide +kernel
theorem dX8_image_27 : decode cX8_image 27 = .ok (.invokevirtual 325, 3) := by decide +kernel
theorem dX8_image_30 : decode cX8_image 30 = .ok (.aload_n 0, 1) := by decide +kernel
theorem dX8_image_31 : decode cX8_image 31 = .ok (.getfield 64, 3) := by decide +kernel
theorem dX8_image_34 : decode cX8_image 34 = .ok (.iload_n 1, 1) := by decide +kernel
theorem dX8_image_35 : decode cX8_image 35 = .ok (.iconst 1, 1) := by decide +kernel
theorem dX8_image_36 : decode cX8_image 36 = .ok (.bastore, 1) := by decide +kernel
theorem dX8_image_37 : decode cX8_image 37 = .ok (.iconst 1, 1) := by decide +kernel
theorem dX8_image_38 : decode cX8_image 38 = .ok (.ireturn, 1) := by decide +kernel
theorem dX8_restore_0 : decode cX8_restore 0 = .ok (.iload_n 1, 1) := by decide +kernel
theorem dX8_restore_1 : decode cX8_restore 1 = .ok (.i2l, 1) := by decide +kernel
theorem dX8_restore_2 : decode cX8_restore 2 = .ok (.lconst 0, 1) := by decide +kernel
theorem dX8_restore_3 : decode cX8_restore 3 = .ok (.lconst 1, 1) := by decide +kernel
theorem dX8_restore_4 : decode cX8_restore 4 = .ok (.invokestatic 86, 3) := by decide +kernel
theorem dX8_restore_7 : decode cX8_restore 7 = .ok (.ifCond .ne 6, 3) := by decide +kernel
theorem dX8_restore_10 : decode cX8_restore 10 = .ok (.bipush (-2), 2) := by decide +kernel
theorem dX8_restore_12 : decode cX8_restore 12 = .ok (.ireturn, 1) := by decide +kernel
theorem dX8_restore_13 : decode cX8_restore 13 = .ok (.aload_n 0, 1) := by decide +kernel
theorem dX8_restore_14 : decode cX8_restore 14 = .ok (.getfield 64, 3) := by decide +kernel
theorem dX8_restore_17 : decode cX8_restore 17 = .ok (.iload_n 1, 1) := by decide +kernel
theorem dX8_restore_18 : decode cX8_restore 18 = .ok (.baload, 1) := by decide +kernel
theorem dX8_restore_19 : decode cX8_restore 19 = .ok (.ifCond .ne 6, 3) := by decide +kernel
theorem dX8_restore_22 : decode cX8_restore 22 = .ok (.bipush (-3), 2) := by decide +kernel
theorem dX8_restore_24 : decode cX8_restore 24 = .ok (.ireturn, 1) := by decide +kernel
theorem dX8_restore_25 : decode cX8_restore 25 = .ok (.aload_n 0, 1) := by decide +kernel
theorem dX8_restore_26 : decode cX8_restore 26 = .ok (.bipush 80, 2) := by decide +kernel
theorem dX8_restore_28 : decode cX8_restore 28 = .ok (.iload_n 1, 1) := by decide +kernel
theorem dX8_restore_29 : decode cX8_restore 29 = .ok (.imul, 1) := by decide +kernel
theorem dX8_restore_30 : decode cX8_restore 30 = .ok (.putfield 319, 3) := by decide +kernel
theorem dX8_restore_33 : decode cX8_restore 33 = .ok (.aload_n 0, 1) := by decide +kernel
theorem dX8_restore_34 : decode cX8_restore 34 = .ok (.iconst 0, 1) := by decide +kernel
theorem dX8_restore_35 : decode cX8_restore 35 = .ok (.putfield 315, 3) := by decide +kernel
theorem dX8_restore_38 : decode cX8_restore 38 = .ok (.aload_n 0, 1) := by decide +kernel
theorem dX8_restore_39 : decode cX8_restore 39 = .ok (.invokevirtual 325, 3) := by decide +kernel
theorem dX8_restore_42 : decode cX8_restore 42 = .ok (.iconst 1, 1) := by decide +kernel
theorem dX8_restore_43 : decode cX8_restore 43 = .ok (.ireturn, 1) := by decide +kernel
theorem dX8_toldOf_0 : decode cX8_toldOf 0 = .ok (.aload_n 0, 1) := by decide +kernel
theorem dX8_toldOf_1 : decode cX8_toldOf 1 = .ok (.iload_n 1, 1) := by decide +kernel
theorem dX8_toldOf_2 : decode cX8_toldOf 2 = .ok (.invokevirtual 110, 3) := by decide +kernel
theorem dX8_toldOf_5 : decode cX8_toldOf 5 = .ok (.ifCond .ne 6, 3) := by decide +kernel
theorem dX8_toldOf_8 : decode cX8_toldOf 8 = .ok (.bipush (-2), 2) := by decide +kernel
theorem dX8_toldOf_10 : decode cX8_toldOf 10 = .ok (.ireturn, 1) := by decide +kernel
theorem dX8_toldOf_11 : decode cX8_toldOf 11 = .ok (.iload_n 2, 1) := by decide +kernel
theorem dX8_toldOf_12 : decode cX8_toldOf 12 = .ok (.ifCond .ne 12, 3) := by decide +kernel
theorem dX8_toldOf_15 : decode cX8_toldOf 15 = .ok (.aload_n 0, 1) := by decide +kernel
theorem dX8_toldOf_16 : decode cX8_toldOf 16 = .ok (.getfield 7, 3) := by decide +kernel
theorem dX8_toldOf_19 : decode cX8_toldOf 19 = .ok (.iload_n 1, 1) := by decide +kernel
theorem dX8_toldOf_20 : decode cX8_toldOf 20 = .ok (.iaload, 1) := by decide +kernel
theorem dX8_toldOf_21 : decode cX8_toldOf 21 = .ok (.goto 47, 3) := by decide +kernel
theorem dX8_toldOf_24 : decode cX8_toldOf 24 = .ok (.iload_n 2, 1) := by decide +kernel
theorem dX8_toldOf_25 : decode cX8_toldOf 25 = .ok (.iconst 1, 1) := by decide +kernel
theorem dX8_toldOf_26 : decode cX8_toldOf 26 = .ok (.if_icmp .ne 12, 3) := by decide +kernel
theorem dX8_toldOf_29 : decode cX8_toldOf 29 = .ok (.aload_n 0, 1) := by decide +kernel
theorem dX8_toldOf_30 : decode cX8_toldOf 30 = .ok (.getfield 13, 3) := by decide +kernel
theorem dX8_toldOf_33 : decode cX8_toldOf 33 = .ok (.iload_n 1, 1) := by decide +kernel
theorem dX8_toldOf_34 : decode cX8_toldOf 34 = .ok (.iaload, 1) := by decide +kernel
theorem dX8_toldOf_35 : decode cX8_toldOf 35 = .ok (.goto 33, 3) := by decide +kernel
theorem dX8_toldOf_38 : decode cX8_toldOf 38 = .ok (.iload_n 2, 1) := by decide +kernel
theorem dX8_toldOf_39 : decode cX8_toldOf 39 = .ok (.iconst 2, 1) := by decide +kernel
theorem dX8_toldOf_40 : decode cX8_toldOf 40 = .ok (.if_icmp .ne 12, 3) := by decide +kernel
theorem dX8_toldOf_43 : decode cX8_toldOf 43 = .ok (.aload_n 0, 1) := by decide +kernel
theorem dX8_toldOf_44 : decode cX8_toldOf 44 = .ok (.getfield 16, 3) := by decide +kernel
theorem dX8_toldOf_47 : decode cX8_toldOf 47 = .ok (.iload_n 1, 1) := by decide +kernel
theorem dX8_toldOf_48 : decode cX8_toldOf 48 = .ok (.iaload, 1) := by decide +kernel
theorem dX8_toldOf_49 : decode cX8_toldOf 49 = .ok (.goto 19, 3) := by decide +kernel
theorem dX8_toldOf_52 : decode cX8_toldOf 52 = .ok (.iload_n 2, 1) := by decide +kernel
theorem dX8_toldOf_53 : decode cX8_toldOf 53 = .ok (.iconst 3, 1) := by decide +kernel
theorem dX8_toldOf_54 : decode cX8_toldOf 54 = .ok (.if_icmp .ne 12, 3) := by decide +kernel
theorem dX8_toldOf_57 : decode cX8_toldOf 57 = .ok (.aload_n 0, 1) := by decide +kernel
theorem dX8_toldOf_58 : decode cX8_toldOf 58 = .ok (.getfield 19, 3) := by decide +kernel
theorem dX8_toldOf_61 : decode cX8_toldOf 61 = .ok (.iload_n 1, 1) := by decide +kernel
theorem dX8_toldOf_62 : decode cX8_toldOf 62 = .ok (.iaload, 1) := by decide +kernel
theorem dX8_toldOf_63 : decode cX8_toldOf 63 = .ok (.goto 5, 3) := by decide +kernel
theorem dX8_toldOf_66 : decode cX8_toldOf 66 = .ok (.bipush (-2), 2) := by decide +kernel
theorem dX8_toldOf_68 : decode cX8_toldOf 68 = .ok (.ireturn, 1) := by decide +kernel
theorem dX8_told_0 : decode cX8_told 0 = .ok (.iload_n 1, 1) := by decide +kernel
theorem dX8_told_1 : decode cX8_told 1 = .ok (.i2l, 1) := by decide +kernel
theorem dX8_told_2 : decode cX8_told 2 = .ok (.ldc2_w 147, 3) := by decide +kernel
theorem dX8_told_5 : decode cX8_told 5 = .ok (.ldc2_w 328, 3) := by decide +kernel
theorem dX8_told_8 : decode cX8_told 8 = .ok (.invokestatic 86, 3) := by decide +kernel
theorem dX8_told_11 : decode cX8_told 11 = .ok (.ifCond .eq 18, 3) := by decide +kernel
theorem dX8_told_14 : decode cX8_told 14 = .ok (.aload_n 0, 1) := by decide +kernel
theorem dX8_told_15 : decode cX8_told 15 = .ok (.iload_n 1, 1) := by decide +kernel
theorem dX8_told_16 : decode cX8_told 16 = .ok (.bipush 10, 2) := by decide +kernel
theorem dX8_told_18 : decode cX8_told 18 = .ok (.idiv, 1) := by decide +kernel
theorem dX8_told_19 : decode cX8_told 19 = .ok (.iconst 1, 1) := by decide +kernel
theorem dX8_told_20 : decode cX8_told 20 = .ok (.isub, 1) := by decide +kernel
theorem dX8_told_21 : decode cX8_told 21 = .ok (.iload_n 1, 1) := by decide +kernel
theorem dX8_told_22 : decode cX8_told 22 = .ok (.bipush 10, 2) := by decide +kernel
theorem dX8_told_24 : decode cX8_told 24 = .ok (.irem, 1) := by decide +kernel
theorem dX8_told_25 : decode cX8_told 25 = .ok (.invokevirtual 330, 3) := by decide +kernel
theorem dX8_told_28 : decode cX8_told 28 = .ok (.ireturn, 1) := by decide +kernel
theorem dX8_told_29 : decode cX8_told 29 = .ok (.iload_n 1, 1) := by decide +kernel
theorem dX8_told_30 : decode cX8_told 30 = .ok (.i2l, 1) := by decide +kernel
theorem dX8_told_31 : decode cX8_told 31 = .ok (.ldc2_w 333, 3) := by decide +kernel
theorem dX8_told_34 : decode cX8_told 34 = .ok (.ldc2_w 118, 3) := by decide +kernel
theorem dX8_told_37 : decode cX8_told 37 = .ok (.aload_n 0, 1) := by decide +kernel
theorem dX8_told_38 : decode cX8_told 38 = .ok (.getfield 81, 3) := by decide +kernel
theorem dX8_told_41 : decode cX8_told 41 = .ok (.i2l, 1) := by decide +kernel
theorem dX8_told_42 : decode cX8_told 42 = .ok (.ladd, 1) := by decide +kernel
theorem dX8_told_43 : decode cX8_told 43 = .ok (.invokestatic 86, 3) := by decide +kernel
theorem dX8_told_46 : decode cX8_told 46 = .ok (.ifCond .eq 13, 3) := by decide +kernel
theorem dX8_told_49 : decode cX8_told 49 = .ok (.aload_n 0, 1) := by decide +kernel
theorem dX8_told_50 : decode cX8_told 50 = .ok (.getfield 22, 3) := by decide +kernel
theorem dX8_told_53 : decode cX8_told 53 = .ok (.iload_n 1, 1) := by decide +kernel
theorem dX8_told_54 : decode cX8_told 54 = .ok (.bipush 100, 2) := by decide +kernel
theorem dX8_told_56 : decode cX8_told 56 = .ok (.isub, 1) := by decide +kernel
theorem dX8_told_57 : decode cX8_told 57 = .ok (.iaload, 1) := by decide +kernel
theorem dX8_told_58 : decode cX8_told 58 = .ok (.ireturn, 1) := by decide +kernel
theorem dX8_told_59 : decode cX8_told 59 = .ok (.iload_n 1, 1) := by decide +kernel
theorem dX8_told_60 : decode cX8_told 60 = .ok (.tableswitch 97 0 8 #[52, 57, 62, 67, 72, 77, 82, 87, 92], 52) := by decide +kernel
theorem dX8_told_112 : decode cX8_told 112 = .ok (.aload_n 0, 1) := by decide +kernel
theorem dX8_told_113 : decode cX8_told 113 = .ok (.getfield 124, 3) := by decide +kernel
theorem dX8_told_116 : decode cX8_told 116 = .ok (.ireturn, 1) := by decide +kernel
theorem dX8_told_117 : decode cX8_told 117 = .ok (.aload_n 0, 1) := by decide +kernel
theorem dX8_told_118 : decode cX8_told 118 = .ok (.getfield 94, 3) := by decide +kernel
theorem dX8_told_121 : decode cX8_told 121 = .ok (.ireturn, 1) := by decide +kernel
theorem dX8_told_122 : decode cX8_told 122 = .ok (.aload_n 0, 1) := by decide +kernel
theorem dX8_told_123 : decode cX8_told 123 = .ok (.getfield 113, 3) := by decide +kernel
theorem dX8_told_126 : decode cX8_told 126 = .ok (.ireturn, 1) := by decide +kernel
theorem dX8_told_127 : decode cX8_told 127 = .ok (.aload_n 0, 1) := by decide +kernel
theorem dX8_told_128 : decode cX8_told 128 = .ok (.getfield 68, 3) := by decide +kernel
theorem dX8_told_131 : decode cX8_told 131 = .ok (.ireturn, 1) := by decide +kernel
theorem dX8_told_132 : decode cX8_told 132 = .ok (.aload_n 0, 1) := by decide +kernel
theorem dX8_told_133 : decode cX8_told 133 = .ok (.getfield 72, 3) := by decide +kernel
theorem dX8_told_136 : decode cX8_told 136 = .ok (.ireturn, 1) := by decide +kernel
theorem dX8_told_137 : decode cX8_told 137 = .ok (.aload_n 0, 1) := by decide +kernel
theorem dX8_told_138 : decode cX8_told 138 = .ok (.getfield 75, 3) := by decide +kernel
theorem dX8_told_141 : decode cX8_told 141 = .ok (.ireturn, 1) := by decide +kernel
theorem dX8_told_142 : decode cX8_told 142 = .ok (.aload_n 0, 1) := by decide +kernel
theorem dX8_told_143 : decode cX8_told 143 = .ok (.getfield 78, 3) := by decide +kernel
theorem dX8_told_146 : decode cX8_told 146 = .ok (.ireturn, 1) := by decide +kernel
theorem dX8_told_147 : decode cX8_told 147 = .ok (.aload_n 0, 1) := by decide +kernel
theorem dX8_told_148 : decode cX8_told 148 = .ok (.getfield 81, 3) := by decide +kernel
theorem dX8_told_151 : decode cX8_told 151 = .ok (.ireturn, 1) := by decide +kernel
theorem dX8_told_152 : decode cX8_told 152 = .ok (.aload_n 0, 1) := by decide +kernel
theorem dX8_told_153 : decode cX8_told 153 = .ok (.getfield 301, 3) := by decide +kernel
theorem dX8_told_156 : decode cX8_told 156 = .ok (.ireturn, 1) := by decide +kernel
theorem dX8_told_157 : decode cX8_told 157 = .ok (.bipush (-2), 2) := by decide +kernel
theorem dX8_told_159 : decode cX8_told 159 = .ok (.ireturn, 1) := by decide +kernel
theorem dJ6_bitCount_0f7a4_0 : decode cJ6_bitCount_0f7a4 0 = .ok (.iload_n 0, 1) := by decide +kernel
theorem dJ6_bitCount_0f7a4_1 : decode cJ6_bitCount_0f7a4 1 = .ok (.iload_n 0, 1) := by decide +kernel
theorem dJ6_bitCount_0f7a4_2 : decode cJ6_bitCount_0f7a4 2 = .ok (.iconst 1, 1) := by decide +kernel
theorem dJ6_bitCount_0f7a4_3 : decode cJ6_bitCount_0f7a4 3 = .ok (.iushr, 1) := by decide +kernel
theorem dJ6_bitCount_0f7a4_4 : decode cJ6_bitCount_0f7a4 4 = .ok (.ldc_w 265, 3) := by decide +kernel
theorem dJ6_bitCount_0f7a4_7 : decode cJ6_bitCount_0f7a4 7 = .ok (.iand, 1) := by decide +kernel
theorem dJ6_bitCount_0f7a4_8 : decode cJ6_bitCount_0f7a4 8 = .ok (.isub, 1) := by decide +kernel
theorem dJ6_bitCount_0f7a4_9 : decode cJ6_bitCount_0f7a4 9 = .ok (.istore_n 0, 1) := by decide +kernel
theorem dJ6_bitCount_0f7a4_10 : decode cJ6_bitCount_0f7a4 10 = .ok (.iload_n 0, 1) := by decide +kernel
theorem dJ6_bitCount_0f7a4_11 : decode cJ6_bitCount_0f7a4 11 = .ok (.ldc_w 266, 3) := by decide +kernel
theorem dJ6_bitCount_0f7a4_14 : decode cJ6_bitCount_0f7a4 14 = .ok (.iand, 1) := by decide +kernel
theorem dJ6_bitCount_0f7a4_15 : decode cJ6_bitCount_0f7a4 15 = .ok (.iload_n 0, 1) := by decide +kernel
theorem dJ6_bitCount_0f7a4_16 : decode cJ6_bitCount_0f7a4 16 = .ok (.iconst 2, 1) := by decide +kernel
theorem dJ6_bitCount_0f7a4_17 : decode cJ6_bitCount_0f7a4 17 = .ok (.iushr, 1) := by decide +kernel
theorem dJ6_bitCount_0f7a4_18 : decode cJ6_bitCount_0f7a4 18 = .ok (.ldc_w 266, 3) := by decide +kernel
theorem dJ6_bitCount_0f7a4_21 : decode cJ6_bitCount_0f7a4 21 = .ok (.iand, 1) := by decide +kernel
theorem dJ6_bitCount_0f7a4_22 : decode cJ6_bitCount_0f7a4 22 = .ok (.iadd, 1) := by decide +kernel
theorem dJ6_bitCount_0f7a4_23 : decode cJ6_bitCount_0f7a4 23 = .ok (.istore_n 0, 1) := by decide +kernel
theorem dJ6_bitCount_0f7a4_24 : decode cJ6_bitCount_0f7a4 24 = .ok (.iload_n 0, 1) := by decide +kernel
theorem dJ6_bitCount_0f7a4_25 : decode cJ6_bitCount_0f7a4 25 = .ok (.iload_n 0, 1) := by decide +kernel
theorem dJ6_bitCount_0f7a4_26 : decode cJ6_bitCount_0f7a4 26 = .ok (.iconst 4, 1) := by decide +kernel
theorem dJ6_bitCount_0f7a4_27 : decode cJ6_bitCount_0f7a4 27 = .ok (.iushr, 1) := by decide +kernel
theorem dJ6_bitCount_0f7a4_28 : decode cJ6_bitCount_0f7a4 28 = .ok (.iadd, 1) := by decide +kernel
theorem dJ6_bitCount_0f7a4_29 : decode cJ6_bitCount_0f7a4 29 = .ok (.ldc_w 267, 3) := by decide +kernel
theorem dJ6_bitCount_0f7a4_32 : decode cJ6_bitCount_0f7a4 32 = .ok (.iand, 1) := by decide +kernel
theorem dJ6_bitCount_0f7a4_33 : decode cJ6_bitCount_0f7a4 33 = .ok (.istore_n 0, 1) := by decide +kernel
theorem dJ6_bitCount_0f7a4_34 : decode cJ6_bitCount_0f7a4 34 = .ok (.iload_n 0, 1) := by decide +kernel
theorem dJ6_bitCount_0f7a4_35 : decode cJ6_bitCount_0f7a4 35 = .ok (.iload_n 0, 1) := by decide +kernel
theorem dJ6_bitCount_0f7a4_36 : decode cJ6_bitCount_0f7a4 36 = .ok (.bipush 8, 2) := by decide +kernel
theorem dJ6_bitCount_0f7a4_38 : decode cJ6_bitCount_0f7a4 38 = .ok (.iushr, 1) := by decide +kernel
theorem dJ6_bitCount_0f7a4_39 : decode cJ6_bitCount_0f7a4 39 = .ok (.iadd, 1) := by decide +kernel
theorem dJ6_bitCount_0f7a4_40 : decode cJ6_bitCount_0f7a4 40 = .ok (.istore_n 0, 1) := by decide +kernel
theorem dJ6_bitCount_0f7a4_41 : decode cJ6_bitCount_0f7a4 41 = .ok (.iload_n 0, 1) := by decide +kernel
theorem dJ6_bitCount_0f7a4_42 : decode cJ6_bitCount_0f7a4 42 = .ok (.iload_n 0, 1) := by decide +kernel
theorem dJ6_bitCount_0f7a4_43 : decode cJ6_bitCount_0f7a4 43 = .ok (.bipush 16, 2) := by decide +kernel
theorem dJ6_bitCount_0f7a4_45 : decode cJ6_bitCount_0f7a4 45 = .ok (.iushr, 1) := by decide +kernel
theorem dJ6_bitCount_0f7a4_46 : decode cJ6_bitCount_0f7a4 46 = .ok (.iadd, 1) := by decide +kernel
theorem dJ6_bitCount_0f7a4_47 : decode cJ6_bitCount_0f7a4 47 = .ok (.istore_n 0, 1) := by decide +kernel
theorem dJ6_bitCount_0f7a4_48 : decode cJ6_bitCount_0f7a4 48 = .ok (.iload_n 0, 1) := by decide +kernel
theorem dJ6_bitCount_0f7a4_49 : decode cJ6_bitCount_0f7a4 49 = .ok (.bipush 63, 2) := by decide +kernel
theorem dJ6_bitCount_0f7a4_51 : decode cJ6_bitCount_0f7a4 51 = .ok (.iand, 1) := by decide +kernel
theorem dJ6_bitCount_0f7a4_52 : decode cJ6_bitCount_0f7a4 52 = .ok (.ireturn, 1) := by decide +kernel
theorem dJ9_abs_0f7a4_0 : decode cJ9_abs_0f7a4 0 = .ok (.iload_n 0, 1) := by decide +kernel
theorem dJ9_abs_0f7a4_1 : decode cJ9_abs_0f7a4 1 = .ok (.ifCond .ge 8, 3) := by decide +kernel
theorem dJ9_abs_0f7a4_4 : decode cJ9_abs_0f7a4 4 = .ok (.iload_n 0, 1) := by decide +kernel
theorem dJ9_abs_0f7a4_5 : decode cJ9_abs_0f7a4 5 = .ok (.ineg, 1) := by decide +kernel
theorem dJ9_abs_0f7a4_6 : decode cJ9_abs_0f7a4 6 = .ok (.goto 4, 3) := by decide +kernel
theorem dJ9_abs_0f7a4_9 : decode cJ9_abs_0f7a4 9 = .ok (.iload_n 0, 1) := by decide +kernel
theorem dJ9_abs_0f7a4_10 : decode cJ9_abs_0f7a4 10 = .ok (.ireturn, 1) := by decide +kernel
theorem dJ9_max_7cf53_0 : decode cJ9_max_7cf53 0 = .ok (.iload_n 0, 1) := by decide +kernel
theorem dJ9_max_7cf53_1 : decode cJ9_max_7cf53 1 = .ok (.iload_n 1, 1) := by decide +kernel
theorem dJ9_max_7cf53_2 : decode cJ9_max_7cf53 2 = .ok (.if_icmp .lt 7, 3) := by decide +kernel
theorem dJ9_max_7cf53_5 : decode cJ9_max_7cf53 5 = .ok (.iload_n 0, 1) := by decide +kernel
theorem dJ9_max_7cf53_6 : decode cJ9_max_7cf53 6 = .ok (.goto 4, 3) := by decide +kernel
theorem dJ9_max_7cf53_9 : decode cJ9_max_7cf53 9 = .ok (.iload_n 1, 1) := by decide +kernel
theorem dJ9_max_7cf53_10 : decode cJ9_max_7cf53 10 = .ok (.ireturn, 1) := by decide +kernel
theorem dJ9_min_7cf53_0 : decode cJ9_min_7cf53 0 = .ok (.iload_n 0, 1) := by decide +kernel
theorem dJ9_min_7cf53_1 : decode cJ9_min_7cf53 1 = .ok (.iload_n 1, 1) := by decide +kernel
theorem dJ9_min_7cf53_2 : decode cJ9_min_7cf53 2 = .ok (.if_icmp .gt 7, 3) := by decide +kernel
theorem dJ9_min_7cf53_5 : decode cJ9_min_7cf53 5 = .ok (.iload_n 0, 1) := by decide +kernel
theorem dJ9_min_7cf53_6 : decode cJ9_min_7cf53 6 = .ok (.goto 4, 3) := by decide +kernel
theorem dJ9_min_7cf53_9 : decode cJ9_min_7cf53 9 = .ok (.iload_n 1, 1) := by decide +kernel
theorem dJ9_min_7cf53_10 : decode cJ9_min_7cf53 10 = .ok (.ireturn, 1) := by decide +kernel
theorem dL_law_0 : decode cL_law 0 = .ok (.new 7, 3) := by decide +kernel
theorem dL_law_3 : decode cL_law 3 = .ok (.dup, 1) := by decide +kernel
theorem dL_law_4 : decode cL_law 4 = .ok (.invokespecial 9, 3) := by decide +kernel
theorem dL_law_7 : decode cL_law 7 = .ok (.astore_n 1, 1) := by decide +kernel
theorem dL_law_8 : decode cL_law 8 = .ok (.new 10, 3) := by decide +kernel
theorem dL_law_11 : decode cL_law 11 = .ok (.dup, 1) := by decide +kernel
theorem dL_law_12 : decode cL_law 12 = .ok (.invokespecial 12, 3) := by decide +kernel
theorem dL_law_15 : decode cL_law 15 = .ok (.astore_n 2, 1) := by decide +kernel
theorem dL_law_16 : decode cL_law 16 = .ok (.iconst 0, 1) := by decide +kernel
theorem dL_law_17 : decode cL_law 17 = .ok (.istore_n 3, 1) := by decide +kernel
theorem dL_law_18 : decode cL_law 18 = .ok (.iload_n 3, 1) := by decide +kernel
theorem dL_law_19 : decode cL_law 19 = .ok (.aload_n 0, 1) := by decide +kernel
theorem dL_law_20 : decode cL_law 20 = .ok (.arraylength, 1) := by decide +kernel
theorem dL_law_21 : decode cL_law 21 = .ok (.bipush 6, 2) := by decide +kernel
theorem dL_law_23 : decode cL_law 23 = .ok (.isub, 1) := by decide +kernel
theorem dL_law_24 : decode cL_law 24 = .ok (.if_icmp .gt 1097, 3) := by decide +kernel
theorem dL_law_27 : decode cL_law 27 = .ok (.aload_n 0, 1) := by decide +kernel
theorem dL_law_28 : decode cL_law 28 = .ok (.iload_n 3, 1) := by decide +kernel
theorem dL_law_29 : decode cL_law 29 = .ok (.iaload, 1) := by decide +kernel
theorem dL_law_30 : decode cL_law 30 = .ok (.bipush 31, 2) := by decide +kernel
theorem dL_law_32 : decode cL_law 32 = .ok (.iand, 1) := by decide +kernel
theorem dL_law_33 : decode cL_law 33 = .ok (.tableswitch 1082 0 31 #[143, 206, 229, 262, 295, 318, 331, 354, 367, 410, 433, 466, 490, 503, 526, 569, 602, 625, 668, 701, 734, 747, 770, 793, 837, 871, 924, 937, 970, 1013, 1036, 1059], 143) := by decide +kernel
theorem dL_law_176 : decode cL_law 176 = .ok (.aload_n 1, 1) := by decide +kernel
theorem dL_law_177 : decode cL_law 177 = .ok (.aload_n 0, 1) := by decide +kernel
theorem dL_law_178 : decode cL_law 178 = .ok (.iload_n 3, 1) := by decide +kernel
theorem dL_law_179 : decode cL_law 179 = .ok (.iconst 1, 1) := by decide +kernel
theorem dL_law_180 : decode cL_law 180 = .ok (.iadd, 1) := by decide +kernel
theorem dL_law_181 : decode cL_law 181 = .ok (.iaload, 1) := by decide +kernel
theorem dL_law_182 : decode cL_law 182 = .ok (.aload_n 0, 1) := by decide +kernel
theorem dL_law_183 : decode cL_law 183 = .ok (.iload_n 3, 1) := by decide +kernel
theorem dL_law_184 : decode cL_law 184 = .ok (.iconst 2, 1) := by decide +kernel
theorem dL_law_185 : decode cL_law 185 = .ok (.iadd, 1) := by decide +kernel
theorem dL_law_186 : decode cL_law 186 = .ok (.iaload, 1) := by decide +kernel
theorem dL_law_187 : decode cL_law 187 = .ok (.aload_n 0, 1) := by decide +kernel
theorem dL_law_188 : decode cL_law 188 = .ok (.iload_n 3, 1) := by decide +kernel
theorem dL_law_189 : decode cL_law 189 = .ok (.iconst 3, 1) := by decide +kernel
theorem dL_law_190 : decode cL_law 190 = .ok (.iadd, 1) := by decide +kernel
theorem dL_law_191 : decode cL_law 191 = .ok (.iaload, 1) := by decide +kernel
theorem dL_law_192 : decode cL_law 192 = .ok (.aload_n 0, 1) := by decide +kernel
theorem dL_law_193 : decode cL_law 193 = .ok (.iload_n 3, 1) := by decide +kernel
theorem dL_law_194 : decode cL_law 194 = .ok (.iconst 4, 1) := by decide +kernel
theorem dL_law_195 : decode cL_law 195 = .ok (.iadd, 1) := by decide +kernel
theorem dL_law_196 : decode cL_law 196 = .ok (.iaload, 1) := by decide +kernel
theorem dL_law_197 : decode cL_law 197 = .ok (.aload_n 0, 1) := by decide +kernel
theorem dL_law_198 : decode cL_law 198 = .ok (.iload_n 3, 1) := by decide +kernel
theorem dL_law_199 : decode cL_law 199 = .ok (.iconst 5, 1) := by decide +kernel
theorem dL_law_200 : decode cL_law 200 = .ok (.iadd, 1) := by decide +kernel
theorem dL_law_201 : decode cL_law 201 = .ok (.iaload, 1) := by decide +kernel
theorem dL_law_202 : decode cL_law 202 = .ok (.invokevirtual 13, 3) := by decide +kernel
theorem dL_law_205 : decode cL_law 205 = .ok (.aload_n 2, 1) := by decide +kernel
theorem dL_law_206 : decode cL_law 206 = .ok (.aload_n 0, 1) := by decide +kernel
theorem dL_law_207 : decode cL_law 207 = .ok (.iload_n 3, 1) := by decide +kernel
theorem dL_law_208 : decode cL_law 208 = .ok (.iconst 1, 1) := by decide +kernel
theorem dL_law_209 : decode cL_law 209 = .ok (.iadd, 1) := by decide +kernel
theorem dL_law_210 : decode cL_law 210 = .ok (.iaload, 1) := by decide +kernel
theorem dL_law_211 : decode cL_law 211 = .ok (.aload_n 0, 1) := by decide +kernel
theorem dL_law_212 : decode cL_law 212 = .ok (.iload_n 3, 1) := by decide +kernel
theorem dL_law_213 : decode cL_law 213 = .ok (.iconst 2, 1) := by decide +kernel
theorem dL_law_214 : decode cL_law 214 = .ok (.iadd, 1) := by decide +kernel
theorem dL_law_215 : decode cL_law 215 = .ok (.iaload, 1) := by decide +kernel
theorem dL_law_216 : decode cL_law 216 = .ok (.aload_n 0, 1) := by decide +kernel
theorem dL_law_217 : decode cL_law 217 = .ok (.iload_n 3, 1) := by decide +kernel
theorem dL_law_218 : decode cL_law 218 = .ok (.iconst 3, 1) := by decide +kernel
theorem dL_law_219 : decode cL_law 219 = .ok (.iadd, 1) := by decide +kernel
theorem dL_law_220 : decode cL_law 220 = .ok (.iaload, 1) := by decide +kernel
theorem dL_law_221 : decode cL_law 221 = .ok (.aload_n 0, 1) := by decide +kernel
theorem dL_law_222 : decode cL_law 222 = .ok (.iload_n 3, 1) := by decide +kernel
theorem dL_law_223 : decode cL_law 223 = .ok (.iconst 4, 1) := by decide +kernel
theorem dL_law_224 : decode cL_law 224 = .ok (.iadd, 1) := by decide +kernel
theorem dL_law_225 : decode cL_law 225 = .ok (.iaload, 1) := by decide +kernel
theorem dL_law_226 : decode cL_law 226 = .ok (.aload_n 0, 1) := by decide +kernel
theorem dL_law_227 : decode cL_law 227 = .ok (.iload_n 3, 1) := by decide +kernel
theorem dL_law_228 : decode cL_law 228 = .ok (.iconst 5, 1) := by decide +kernel
theorem dL_law_229 : decode cL_law 229 = .ok (.iadd, 1) := by decide +kernel
theorem dL_law_230 : decode cL_law 230 = .ok (.iaload, 1) := by decide +kernel
theorem dL_law_231 : decode cL_law 231 = .ok (.invokevirtual 17, 3) := by decide +kernel
theorem dL_law_234 : decode cL_law 234 = .ok (.if_icmp .eq 881, 3) := by decide +kernel
theorem dL_law_237 : decode cL_law 237 = .ok (.iconst 0, 1) := by decide +kernel
theorem dL_law_238 : decode cL_law 238 = .ok (.ireturn, 1) := by decide +kernel
theorem dL_law_239 : decode cL_law 239 = .ok (.aload_n 1, 1) := by decide +kernel
theorem dL_law_240 : decode cL_law 240 = .ok (.aload_n 0, 1) := by decide +kernel
theorem dL_law_241 : decode cL_law 241 = .ok (.iload_n 3, 1) := by decide +kernel
theorem dL_law_242 : decode cL_law 242 = .ok (.iconst 1, 1) := by decide +kernel
theorem dL_law_243 : decode cL_law 243 = .ok (.iadd, 1) := by decide +kernel
theorem dL_law_244 : decode cL_law 244 = .ok (.iaload, 1) := by decide +kernel
theorem dL_law_245 : decode cL_law 245 = .ok (.invokevirtual 18, 3) := by decide +kernel
theorem dL_law_248 : decode cL_law 248 = .ok (.aload_n 2, 1) := by decide +kernel
theorem dL_law_249 : decode cL_law 249 = .ok (.aload_n 0, 1) := by decide +kernel
theorem dL_law_250 : decode cL_law 250 = .ok (.iload_n 3, 1) := by decide +kernel
theorem dL_law_251 : decode cL_law 251 = .ok (.iconst 1, 1) := by decide +kernel
theorem dL_law_252 : decode cL_law 252 = .ok (.iadd, 1) := by decide +kernel
theorem dL_law_253 : decode cL_law 253 = .ok (.iaload, 1) := by decide +kernel
theorem dL_law_254 : decode cL_law 254 = .ok (.invokevirtual 22, 3) := by decide +kernel
theorem dL_law_257 : decode cL_law 257 = .ok (.if_icmp .eq 858, 3) := by decide +kernel
theorem dL_law_260 : decode cL_law 260 = .ok (.iconst 0, 1) := by decide +kernel
theorem dL_law_261 : decode cL_law 261 = .ok (.ireturn, 1) := by decide +kernel
theorem dL_law_262 : decode cL_law 262 = .ok (.aload_n 1, 1) := by decide +kernel
theorem dL_law_263 : decode cL_law 263 = .ok (.aload_n 0, 1) := by decide +kernel
theorem dL_law_264 : decode cL_law 264 = .ok (.iload_n 3, 1) := by decide +kernel
theorem dL_law_265 : decode cL_law 265 = .ok (.iconst 1, 1) := by decide +kernel
theorem dL_law_266 : decode cL_law 266 = .ok (.iadd, 1) := by decide +kernel
theorem dL_law_267 : decode cL_law 267 = .ok (.iaload, 1) := by decide +kernel
theorem dL_law_268 : decode cL_law 268 = .ok (.aload_n 0, 1) := by decide +kernel
theorem dL_law_269 : decode cL_law 269 = .ok (.iload_n 3, 1) := by decide +kernel
theorem dL_law_270 : decode cL_law 270 = .ok (.iconst 2, 1) := by decide +kernel
theorem dL_law_271 : decode cL_law 271 = .ok (.iadd, 1) := by decide +kernel
theorem dL_law_272 : decode cL_law 272 = .ok (.iaload, 1) := by decide +kernel
theorem dL_law_273 : decode cL_law 273 = .ok (.invokevirtual 23, 3) := by decide +kernel
theorem dL_law_276 : decode cL_law 276 = .ok (.aload_n 2, 1) := by decide +kernel
theorem dL_law_277 : decode cL_law 277 = .ok (.aload_n 0, 1) := by decide +kernel
theorem dL_law_278 : decode cL_law 278 = .ok (.iload_n 3, 1) := by decide +kernel
theorem dL_law_279 : decode cL_law 279 = .ok (.iconst 1, 1) := by decide +kernel
theorem dL_law_280 : decode cL_law 280 = .ok (.iadd, 1) := by decide +kernel
theorem dL_law_281 : decode cL_law 281 = .ok (.iaload, 1) := by decide +kernel
theorem dL_law_282 : decode cL_law 282 = .ok (.aload_n 0, 1) := by decide +kernel
theorem dL_law_283 : decode cL_law 283 = .ok (.iload_n 3, 1) := by decide +kernel
theorem dL_law_284 : decode cL_law 284 = .ok (.iconst 2, 1) := by decide +kernel
theorem dL_law_285 : decode cL_law 285 = .ok (.iadd, 1) := by decide +kernel
theorem dL_law_286 : decode cL_law 286 = .ok (.iaload, 1) := by decide +kernel
theorem dL_law_287 : decode cL_law 287 = .ok (.invokevirtual 27, 3) := by decide +kernel
theorem dL_law_290 : decode cL_law 290 = .ok (.if_icmp .eq 825, 3) := by decide +kernel
theorem dL_law_293 : decode cL_law 293 = .ok (.iconst 0, 1) := by decide +kernel
theorem dL_law_294 : decode cL_law 294 = .ok (.ireturn, 1) := by decide +kernel
theorem dL_law_295 : decode cL_law 295 = .ok (.aload_n 1, 1) := by decide +kernel
theorem dL_law_296 : decode cL_law 296 = .ok (.aload_n 0, 1) := by decide +kernel
theorem dL_law_297 : decode cL_law 297 = .ok (.iload_n 3, 1) := by decide +kernel
theorem dL_law_298 : decode cL_law 298 = .ok (.iconst 1, 1) := by decide +kernel
theorem dL_law_299 : decode cL_law 299 = .ok (.iadd, 1) := by decide +kernel
theorem dL_law_300 : decode cL_law 300 = .ok (.iaload, 1) := by decide +kernel
theorem dL_law_301 : decode cL_law 301 = .ok (.aload_n 0, 1) := by decide +kernel
theorem dL_law_302 : decode cL_law 302 = .ok (.iload_n 3, 1) := by decide +kernel
theorem dL_law_303 : decode cL_law 303 = .ok (.iconst 2, 1) := by decide +kernel
theorem dL_law_304 : decode cL_law 304 = .ok (.iadd, 1) := by decide +kernel
theorem dL_law_305 : decode cL_law 305 = .ok (.iaload, 1) := by decide +kernel
theorem dL_law_306 : decode cL_law 306 = .ok (.invokevirtual 28, 3) := by decide +kernel
theorem dL_law_309 : decode cL_law 309 = .ok (.aload_n 2, 1) := by decide +kernel
theorem dL_law_310 : decode cL_law 310 = .ok (.aload_n 0, 1) := by decide +kernel
theorem dL_law_311 : decode cL_law 311 = .ok (.iload_n 3, 1) := by decide +kernel
theorem dL_law_312 : decode cL_law 312 = .ok (.iconst 1, 1) := by decide +kernel
theorem dL_law_313 : decode cL_law 313 = .ok (.iadd, 1) := by decide +kernel
theorem dL_law_314 : decode cL_law 314 = .ok (.iaload, 1) := by decide +kernel
theorem dL_law_315 : decode cL_law 315 = .ok (.aload_n 0, 1) := by decide +kernel
theorem dL_law_316 : decode cL_law 316 = .ok (.iload_n 3, 1) := by decide +kernel
theorem dL_law_317 : decode cL_law 317 = .ok (.iconst 2, 1) := by decide +kernel
theorem dL_law_318 : decode cL_law 318 = .ok (.iadd, 1) := by decide +kernel
theorem dL_law_319 : decode cL_law 319 = .ok (.iaload, 1) := by decide +kernel
theorem dL_law_320 : decode cL_law 320 = .ok (.invokevirtual 31, 3) := by decide +kernel
theorem dL_law_323 : decode cL_law 323 = .ok (.if_icmp .eq 792, 3) := by decide +kernel
theorem dL_law_326 : decode cL_law 326 = .ok (.iconst 0, 1) := by decide +kernel
theorem dL_law_327 : decode cL_law 327 = .ok (.ireturn, 1) := by decide +kernel
theorem dL_law_328 : decode cL_law 328 = .ok (.aload_n 1, 1) := by decide +kernel
theorem dL_law_329 : decode cL_law 329 = .ok (.aload_n 0, 1) := by decide +kernel
theorem dL_law_330 : decode cL_law 330 = .ok (.iload_n 3, 1) := by decide +kernel
theorem dL_law_331 : decode cL_law 331 = .ok (.iconst 1, 1) := by decide +kernel
theorem dL_law_332 : decode cL_law 332 = .ok (.iadd, 1) := by decide +kernel
theorem dL_law_333 : decode cL_law 333 = .ok (.iaload, 1) := by decide +kernel
theorem dL_law_334 : decode cL_law 334 = .ok (.invokevirtual 32, 3) := by decide +kernel
theorem dL_law_337 : decode cL_law 337 = .ok (.aload_n 2, 1) := by decide +kernel
theorem dL_law_338 : decode cL_law 338 = .ok (.aload_n 0, 1) := by decide +kernel
theorem dL_law_339 : decode cL_law 339 = .ok (.iload_n 3, 1) := by decide +kernel
theorem dL_law_340 : decode cL_law 340 = .ok (.iconst 1, 1) := by decide +kernel
theorem dL_law_341 : decode cL_law 341 = .ok (.iadd, 1) := by decide +kernel
theorem dL_law_342 : decode cL_law 342 = .ok (.iaload, 1) := by decide +kernel
theorem dL_law_343 : decode cL_law 343 = .ok (.invokevirtual 35, 3) := by decide +kernel
theorem dL_law_346 : decode cL_law 346 = .ok (.if_icmp .eq 769, 3) := by decide +kernel
theorem dL_law_349 : decode cL_law 349 = .ok (.iconst 0, 1) := by decide +kernel
theorem dL_law_350 : decode cL_law 350 = .ok (.ireturn, 1) := by decide +kernel
theorem dL_law_351 : decode cL_law 351 = .ok (.aload_n 1, 1) := by decide +kernel
theorem dL_law_352 : decode cL_law 352 = .ok (.invokevirtual 36, 3) := by decide +kernel
theorem dL_law_355 : decode cL_law 355 = .ok (.aload_n 2, 1) := by decide +kernel
theorem dL_law_356 : decode cL_law 356 = .ok (.invokevirtual 40, 3) := by decide +kernel
theorem dL_law_359 : decode cL_law 359 = .ok (.if_icmp .eq 756, 3) := by decide +kernel
theorem dL_law_362 : decode cL_law 362 = .ok (.iconst 0, 1) := by decide +kernel
theorem dL_law_363 : decode cL_law 363 = .ok (.ireturn, 1) := by decide +kernel
theorem dL_law_364 : decode cL_law 364 = .ok (.aload_n 1, 1) := by decide +kernel
theorem dL_law_365 : decode cL_law 365 = .ok (.aload_n 0, 1) := by decide +kernel
theorem dL_law_366 : decode cL_law 366 = .ok (.iload_n 3, 1) := by decide +kernel
theorem dL_law_367 : decode cL_law 367 = .ok (.iconst 1, 1) := by decide +kernel
theorem dL_law_368 : decode cL_law 368 = .ok (.iadd, 1) := by decide +kernel
theorem dL_law_369 : decode cL_law 369 = .ok (.iaload, 1) := by decide +kernel
theorem dL_law_370 : decode cL_law 370 = .ok (.invokevirtual 41, 3) := by decide +kernel
theorem dL_law_373 : decode cL_law 373 = .ok (.aload_n 2, 1) := by decide +kernel
theorem dL_law_374 : decode cL_law 374 = .ok (.aload_n 0, 1) := by decide +kernel
theorem dL_law_375 : decode cL_law 375 = .ok (.iload_n 3, 1) := by decide +kernel
theorem dL_law_376 : decode cL_law 376 = .ok (.iconst 1, 1) := by decide +kernel
theorem dL_law_377 : decode cL_law 377 = .ok (.iadd, 1) := by decide +kernel
theorem dL_law_378 : decode cL_law 378 = .ok (.iaload, 1) := by decide +kernel
theorem dL_law_379 : decode cL_law 379 = .ok (.invokevirtual 44, 3) := by decide +kernel
theorem dL_law_382 : decode cL_law 382 = .ok (.if_icmp .eq 733, 3) := by decide +kernel
theorem dL_law_385 : decode cL_law 385 = .ok (.iconst 0, 1) := by decide +kernel
theorem dL_law_386 : decode cL_law 386 = .ok (.ireturn, 1) := by decide +kernel
theorem dL_law_387 : decode cL_law 387 = .ok (.aload_n 1, 1) := by decide +kernel
theorem dL_law_388 : decode cL_law 388 = .ok (.invokevirtual 45, 3) := by decide +kernel
theorem dL_law_391 : decode cL_law 391 = .ok (.aload_n 2, 1) := by decide +kernel
theorem dL_law_392 : decode cL_law 392 = .ok (.invokevirtual 48, 3) := by decide +kernel
theorem dL_law_395 : decode cL_law 395 = .ok (.if_icmp .eq 720, 3) := by decide +kernel
theorem dL_law_398 : decode cL_law 398 = .ok (.iconst 0, 1) := by decide +kernel
theorem dL_law_399 : decode cL_law 399 = .ok (.ireturn, 1) := by decide +kernel
theorem dL_law_400 : decode cL_law 400 = .ok (.aload_n 1, 1) := by decide +kernel
theorem dL_law_401 : decode cL_law 401 = .ok (.aload_n 0, 1) := by decide +kernel
theorem dL_law_402 : decode cL_law 402 = .ok (.iload_n 3, 1) := by decide +kernel
theorem dL_law_403 : decode cL_law 403 = .ok (.iconst 1, 1) := by decide +kernel
theorem dL_law_404 : decode cL_law 404 = .ok (.iadd, 1) := by decide +kernel
theorem dL_law_405 : decode cL_law 405 = .ok (.iaload, 1) := by decide +kernel
theorem dL_law_406 : decode cL_law 406 = .ok (.aload_n 0, 1) := by decide +kernel
theorem dL_law_407 : decode cL_law 407 = .ok (.iload_n 3, 1) := by decide +kernel
theorem dL_law_408 : decode cL_law 408 = .ok (.iconst 2, 1) := by decide +kernel
theorem dL_law_409 : decode cL_law 409 = .ok (.iadd, 1) := by decide +kernel
theorem dL_law_410 : decode cL_law 410 = .ok (.iaload, 1) := by decide +kernel
theorem dL_law_411 : decode cL_law 411 = .ok (.aload_n 0, 1) := by decide +kernel
theorem dL_law_412 : decode cL_law 412 = .ok (.iload_n 3, 1) := by decide +kernel
theorem dL_law_413 : decode cL_law 413 = .ok (.iconst 3, 1) := by decide +kernel
theorem dL_law_414 : decode cL_law 414 = .ok (.iadd, 1) := by decide +kernel
theorem dL_law_415 : decode cL_law 415 = .ok (.iaload, 1) := by decide +kernel
theorem dL_law_416 : decode cL_law 416 = .ok (.invokevirtual 49, 3) := by decide +kernel
theorem dL_law_419 : decode cL_law 419 = .ok (.aload_n 2, 1) := by decide +kernel
theorem dL_law_420 : decode cL_law 420 = .ok (.aload_n 0, 1) := by decide +kernel
theorem dL_law_421 : decode cL_law 421 = .ok (.iload_n 3, 1) := by decide +kernel
theorem dL_law_422 : decode cL_law 422 = .ok (.iconst 1, 1) := by decide +kernel
theorem dL_law_423 : decode cL_law 423 = .ok (.iadd, 1) := by decide +kernel
theorem dL_law_424 : decode cL_law 424 = .ok (.iaload, 1) := by decide +kernel
theorem dL_law_425 : decode cL_law 425 = .ok (.aload_n 0, 1) := by decide +kernel
theorem dL_law_426 : decode cL_law 426 = .ok (.iload_n 3, 1) := by decide +kernel
theorem dL_law_427 : decode cL_law 427 = .ok (.iconst 2, 1) := by decide +kernel
theorem dL_law_428 : decode cL_law 428 = .ok (.iadd, 1) := by decide +kernel
theorem dL_law_429 : decode cL_law 429 = .ok (.iaload, 1) := by decide +kernel
theorem dL_law_430 : decode cL_law 430 = .ok (.aload_n 0, 1) := by decide +kernel
theorem dL_law_431 : decode cL_law 431 = .ok (.iload_n 3, 1) := by decide +kernel
theorem dL_law_432 : decode cL_law 432 = .ok (.iconst 3, 1) := by decide +kernel
theorem dL_law_433 : decode cL_law 433 = .ok (.iadd, 1) := by decide +kernel
theorem dL_law_434 : decode cL_law 434 = .ok (.iaload, 1) := by decide +kernel
theorem dL_law_435 : decode cL_law 435 = .ok (.invokevirtual 53, 3) := by decide +kernel
theorem dL_law_438 : decode cL_law 438 = .ok (.if_icmp .eq 677, 3) := by decide +kernel
theorem dL_law_441 : decode cL_law 441 = .ok (.iconst 0, 1) := by decide +kernel
theorem dL_law_442 : decode cL_law 442 = .ok (.ireturn, 1) := by decide +kernel
theorem dL_law_443 : decode cL_law 443 = .ok (.aload_n 1, 1) := by decide +kernel
theorem dL_law_444 : decode cL_law 444 = .ok (.aload_n 0, 1) := by decide +kernel
theorem dL_law_445 : decode cL_law 445 = .ok (.iload_n 3, 1) := by decide +kernel
theorem dL_law_446 : decode cL_law 446 = .ok (.iconst 1, 1) := by decide +kernel
theorem dL_law_447 : decode cL_law 447 = .ok (.iadd, 1) := by decide +kernel
theorem dL_law_448 : decode cL_law 448 = .ok (.iaload, 1) := by decide +kernel
theorem dL_law_449 : decode cL_law 449 = .ok (.invokevirtual 54, 3) := by decide +kernel
theorem dL_law_452 : decode cL_law 452 = .ok (.aload_n 2, 1) := by decide +kernel
theorem dL_law_453 : decode cL_law 453 = .ok (.aload_n 0, 1) := by decide +kernel
theorem dL_law_454 : decode cL_law 454 = .ok (.iload_n 3, 1) := by decide +kernel
theorem dL_law_455 : decode cL_law 455 = .ok (.iconst 1, 1) := by decide +kernel
theorem dL_law_456 : decode cL_law 456 = .ok (.iadd, 1) := by decide +kernel
theorem dL_law_457 : decode cL_law 457 = .ok (.iaload, 1) := by decide +kernel
theorem dL_law_458 : decode cL_law 458 = .ok (.invokevirtual 57, 3) := by decide +kernel
theorem dL_law_461 : decode cL_law 461 = .ok (.if_icmp .eq 654, 3) := by decide +kernel
theorem dL_law_464 : decode cL_law 464 = .ok (.iconst 0, 1) := by decide +kernel
theorem dL_law_465 : decode cL_law 465 = .ok (.ireturn, 1) := by decide +kernel
theorem dL_law_466 : decode cL_law 466 = .ok (.aload_n 1, 1) := by decide +kernel
theorem dL_law_467 : decode cL_law 467 = .ok (.aload_n 0, 1) := by decide +kernel
theorem dL_law_468 : decode cL_law 468 = .ok (.iload_n 3, 1) := by decide +kernel
theorem dL_law_469 : decode cL_law 469 = .ok (.iconst 1, 1) := by decide +kernel
theorem dL_law_470 : decode cL_law 470 = .ok (.iadd, 1) := by decide +kernel
theorem dL_law_471 : decode cL_law 471 = .ok (.iaload, 1) := by decide +kernel
theorem dL_law_472 : decode cL_law 472 = .ok (.aload_n 0, 1) := by decide +kernel
theorem dL_law_473 : decode cL_law 473 = .ok (.iload_n 3, 1) := by decide +kernel
theorem dL_law_474 : decode cL_law 474 = .ok (.iconst 2, 1) := by decide +kernel
theorem dL_law_475 : decode cL_law 475 = .ok (.iadd, 1) := by decide +kernel
theorem dL_law_476 : decode cL_law 476 = .ok (.iaload, 1) := by decide +kernel
theorem dL_law_477 : decode cL_law 477 = .ok (.invokevirtual 58, 3) := by decide +kernel
theorem dL_law_480 : decode cL_law 480 = .ok (.aload_n 2, 1) := by decide +kernel
theorem dL_law_481 : decode cL_law 481 = .ok (.aload_n 0, 1) := by decide +kernel
theorem dL_law_482 : decode cL_law 482 = .ok (.iload_n 3, 1) := by decide +kernel
theorem dL_law_483 : decode cL_law 483 = .ok (.iconst 1, 1) := by decide +kernel
theorem dL_law_484 : decode cL_law 484 = .ok (.iadd, 1) := by decide +kernel
theorem dL_law_485 : decode cL_law 485 = .ok (.iaload, 1) := by decide +kernel
theorem dL_law_486 : decode cL_law 486 = .ok (.aload_n 0, 1) := by decide +kernel
theorem dL_law_487 : decode cL_law 487 = .ok (.iload_n 3, 1) := by decide +kernel
theorem dL_law_488 : decode cL_law 488 = .ok (.iconst 2, 1) := by decide +kernel
theorem dL_law_489 : decode cL_law 489 = .ok (.iadd, 1) := by decide +kernel
theorem dL_law_490 : decode cL_law 490 = .ok (.iaload, 1) := by decide +kernel
theorem dL_law_491 : decode cL_law 491 = .ok (.invokevirtual 61, 3) := by decide +kernel
theorem dL_law_494 : decode cL_law 494 = .ok (.if_icmp .eq 621, 3) := by decide +kernel
theorem dL_law_497 : decode cL_law 497 = .ok (.iconst 0, 1) := by decide +kernel
theorem dL_law_498 : decode cL_law 498 = .ok (.ireturn, 1) := by decide +kernel
theorem dL_law_499 : decode cL_law 499 = .ok (.aload_n 1, 1) := by decide +kernel
theorem dL_law_500 : decode cL_law 500 = .ok (.aload_n 0, 1) := by decide +kernel
theorem dL_law_501 : decode cL_law 501 = .ok (.iload_n 3, 1) := by decide +kernel
theorem dL_law_502 : decode cL_law 502 = .ok (.iconst 1, 1) := by decide +kernel
theorem dL_law_503 : decode cL_law 503 = .ok (.iadd, 1) := by decide +kernel
theorem dL_law_504 : decode cL_law 504 = .ok (.iaload, 1) := by decide +kernel
theorem dL_law_505 : decode cL_law 505 = .ok (.invokevirtual 62, 3) := by decide +kernel
theorem dL_law_508 : decode cL_law 508 = .ok (.aload_n 2, 1) := by decide +kernel
theorem dL_law_509 : decode cL_law 509 = .ok (.aload_n 0, 1) := by decide +kernel
theorem dL_law_510 : decode cL_law 510 = .ok (.iload_n 3, 1) := by decide +kernel
theorem dL_law_511 : decode cL_law 511 = .ok (.iconst 1, 1) := by decide +kernel
theorem dL_law_512 : decode cL_law 512 = .ok (.iadd, 1) := by decide +kernel
theorem dL_law_513 : decode cL_law 513 = .ok (.iaload, 1) := by decide +kernel
theorem dL_law_514 : decode cL_law 514 = .ok (.invokevirtual 66, 3) := by decide +kernel
theorem dL_law_517 : decode cL_law 517 = .ok (.lcmp, 1) := by decide +kernel
theorem dL_law_518 : decode cL_law 518 = .ok (.ifCond .eq 597, 3) := by decide +kernel
theorem dL_law_521 : decode cL_law 521 = .ok (.iconst 0, 1) := by decide +kernel
theorem dL_law_522 : decode cL_law 522 = .ok (.ireturn, 1) := by decide +kernel
theorem dL_law_523 : decode cL_law 523 = .ok (.aload_n 1, 1) := by decide +kernel
theorem dL_law_524 : decode cL_law 524 = .ok (.invokevirtual 67, 3) := by decide +kernel
theorem dL_law_527 : decode cL_law 527 = .ok (.aload_n 2, 1) := by decide +kernel
theorem dL_law_528 : decode cL_law 528 = .ok (.invokevirtual 70, 3) := by decide +kernel
theorem dL_law_531 : decode cL_law 531 = .ok (.if_icmp .eq 584, 3) := by decide +kernel
theorem dL_law_534 : decode cL_law 534 = .ok (.iconst 0, 1) := by decide +kernel
theorem dL_law_535 : decode cL_law 535 = .ok (.ireturn, 1) := by decide +kernel
theorem dL_law_536 : decode cL_law 536 = .ok (.aload_n 1, 1) := by decide +kernel
theorem dL_law_537 : decode cL_law 537 = .ok (.aload_n 0, 1) := by decide +kernel
theorem dL_law_538 : decode cL_law 538 = .ok (.iload_n 3, 1) := by decide +kernel
theorem dL_law_539 : decode cL_law 539 = .ok (.iconst 1, 1) := by decide +kernel
theorem dL_law_540 : decode cL_law 540 = .ok (.iadd, 1) := by decide +kernel
theorem dL_law_541 : decode cL_law 541 = .ok (.iaload, 1) := by decide +kernel
theorem dL_law_542 : decode cL_law 542 = .ok (.invokevirtual 71, 3) := by decide +kernel
theorem dL_law_545 : decode cL_law 545 = .ok (.aload_n 2, 1) := by decide +kernel
theorem dL_law_546 : decode cL_law 546 = .ok (.aload_n 0, 1) := by decide +kernel
theorem dL_law_547 : decode cL_law 547 = .ok (.iload_n 3, 1) := by decide +kernel
theorem dL_law_548 : decode cL_law 548 = .ok (.iconst 1, 1) := by decide +kernel
theorem dL_law_549 : decode cL_law 549 = .ok (.iadd, 1) := by decide +kernel
theorem dL_law_550 : decode cL_law 550 = .ok (.iaload, 1) := by decide +kernel
theorem dL_law_551 : decode cL_law 551 = .ok (.invokevirtual 74, 3) := by decide +kernel
theorem dL_law_554 : decode cL_law 554 = .ok (.if_icmp .eq 561, 3) := by decide +kernel
theorem dL_law_557 : decode cL_law 557 = .ok (.iconst 0, 1) := by decide +kernel
theorem dL_law_558 : decode cL_law 558 = .ok (.ireturn, 1) := by decide +kernel
theorem dL_law_559 : decode cL_law 559 = .ok (.aload_n 1, 1) := by decide +kernel
theorem dL_law_560 : decode cL_law 560 = .ok (.aload_n 0, 1) := by decide +kernel
theorem dL_law_561 : decode cL_law 561 = .ok (.iload_n 3, 1) := by decide +kernel
theorem dL_law_562 : decode cL_law 562 = .ok (.iconst 1, 1) := by decide +kernel
theorem dL_law_563 : decode cL_law 563 = .ok (.iadd, 1) := by decide +kernel
theorem dL_law_564 : decode cL_law 564 = .ok (.iaload, 1) := by decide +kernel
theorem dL_law_565 : decode cL_law 565 = .ok (.aload_n 0, 1) := by decide +kernel
theorem dL_law_566 : decode cL_law 566 = .ok (.iload_n 3, 1) := by decide +kernel
theorem dL_law_567 : decode cL_law 567 = .ok (.iconst 2, 1) := by decide +kernel
theorem dL_law_568 : decode cL_law 568 = .ok (.iadd, 1) := by decide +kernel
theorem dL_law_569 : decode cL_law 569 = .ok (.iaload, 1) := by decide +kernel
theorem dL_law_570 : decode cL_law 570 = .ok (.aload_n 0, 1) := by decide +kernel
theorem dL_law_571 : decode cL_law 571 = .ok (.iload_n 3, 1) := by decide +kernel
theorem dL_law_572 : decode cL_law 572 = .ok (.iconst 3, 1) := by decide +kernel
theorem dL_law_573 : decode cL_law 573 = .ok (.iadd, 1) := by decide +kernel
theorem dL_law_574 : decode cL_law 574 = .ok (.iaload, 1) := by decide +kernel
theorem dL_law_575 : decode cL_law 575 = .ok (.invokevirtual 75, 3) := by decide +kernel
theorem dL_law_578 : decode cL_law 578 = .ok (.aload_n 2, 1) := by decide +kernel
theorem dL_law_579 : decode cL_law 579 = .ok (.aload_n 0, 1) := by decide +kernel
theorem dL_law_580 : decode cL_law 580 = .ok (.iload_n 3, 1) := by decide +kernel
theorem dL_law_581 : decode cL_law 581 = .ok (.iconst 1, 1) := by decide +kernel
theorem dL_law_582 : decode cL_law 582 = .ok (.iadd, 1) := by decide +kernel
theorem dL_law_583 : decode cL_law 583 = .ok (.iaload, 1) := by decide +kernel
theorem dL_law_584 : decode cL_law 584 = .ok (.aload_n 0, 1) := by decide +kernel
theorem dL_law_585 : decode cL_law 585 = .ok (.iload_n 3, 1) := by decide +kernel
theorem dL_law_586 : decode cL_law 586 = .ok (.iconst 2, 1) := by decide +kernel
theorem dL_law_587 : decode cL_law 587 = .ok (.iadd, 1) := by decide +kernel
theorem dL_law_588 : decode cL_law 588 = .ok (.iaload, 1) := by decide +kernel
theorem dL_law_589 : decode cL_law 589 = .ok (.aload_n 0, 1) := by decide +kernel
theorem dL_law_590 : decode cL_law 590 = .ok (.iload_n 3, 1) := by decide +kernel
theorem dL_law_591 : decode cL_law 591 = .ok (.iconst 3, 1) := by decide +kernel
theorem dL_law_592 : decode cL_law 592 = .ok (.iadd, 1) := by decide +kernel
theorem dL_law_593 : decode cL_law 593 = .ok (.iaload, 1) := by decide +kernel
theorem dL_law_594 : decode cL_law 594 = .ok (.invokevirtual 78, 3) := by decide +kernel
theorem dL_law_597 : decode cL_law 597 = .ok (.if_icmp .eq 518, 3) := by decide +kernel
theorem dL_law_600 : decode cL_law 600 = .ok (.iconst 0, 1) := by decide +kernel
theorem dL_law_601 : decode cL_law 601 = .ok (.ireturn, 1) := by decide +kernel
theorem dL_law_602 : decode cL_law 602 = .ok (.aload_n 1, 1) := by decide +kernel
theorem dL_law_603 : decode cL_law 603 = .ok (.aload_n 0, 1) := by decide +kernel
theorem dL_law_604 : decode cL_law 604 = .ok (.iload_n 3, 1) := by decide +kernel
theorem dL_law_605 : decode cL_law 605 = .ok (.iconst 1, 1) := by decide +kernel
theorem dL_law_606 : decode cL_law 606 = .ok (.iadd, 1) := by decide +kernel
theorem dL_law_607 : decode cL_law 607 = .ok (.iaload, 1) := by decide +kernel
theorem dL_law_608 : decode cL_law 608 = .ok (.aload_n 0, 1) := by decide +kernel
theorem dL_law_609 : decode cL_law 609 = .ok (.iload_n 3, 1) := by decide +kernel
theorem dL_law_610 : decode cL_law 610 = .ok (.iconst 2, 1) := by decide +kernel
theorem dL_law_611 : decode cL_law 611 = .ok (.iadd, 1) := by decide +kernel
theorem dL_law_612 : decode cL_law 612 = .ok (.iaload, 1) := by decide +kernel
theorem dL_law_613 : decode cL_law 613 = .ok (.invokevirtual 79, 3) := by decide +kernel
theorem dL_law_616 : decode cL_law 616 = .ok (.aload_n 2, 1) := by decide +kernel
theorem dL_law_617 : decode cL_law 617 = .ok (.aload_n 0, 1) := by decide +kernel
theorem dL_law_618 : decode cL_law 618 = .ok (.iload_n 3, 1) := by decide +kernel
theorem dL_law_619 : decode cL_law 619 = .ok (.iconst 1, 1) := by decide +kernel
theorem dL_law_620 : decode cL_law 620 = .ok (.iadd, 1) := by decide +kernel
theorem dL_law_621 : decode cL_law 621 = .ok (.iaload, 1) := by decide +kernel
theorem dL_law_622 : decode cL_law 622 = .ok (.aload_n 0, 1) := by decide +kernel
theorem dL_law_623 : decode cL_law 623 = .ok (.iload_n 3, 1) := by decide +kernel
theorem dL_law_624 : decode cL_law 624 = .ok (.iconst 2, 1) := by decide +kernel
theorem dL_law_625 : decode cL_law 625 = .ok (.iadd, 1) := by decide +kernel
theorem dL_law_626 : decode cL_law 626 = .ok (.iaload, 1) := by decide +kernel
theorem dL_law_627 : decode cL_law 627 = .ok (.invokevirtual 82, 3) := by decide +kernel
theorem dL_law_630 : decode cL_law 630 = .ok (.if_icmp .eq 485, 3) := by decide +kernel
theorem dL_law_633 : decode cL_law 633 = .ok (.iconst 0, 1) := by decide +kernel
theorem dL_law_634 : decode cL_law 634 = .ok (.ireturn, 1) := by decide +kernel
theorem dL_law_635 : decode cL_law 635 = .ok (.aload_n 1, 1) := by decide +kernel
theorem dL_law_636 : decode cL_law 636 = .ok (.aload_n 0, 1) := by decide +kernel
theorem dL_law_637 : decode cL_law 637 = .ok (.iload_n 3, 1) := by decide +kernel
theorem dL_law_638 : decode cL_law 638 = .ok (.iconst 1, 1) := by decide +kernel
theorem dL_law_639 : decode cL_law 639 = .ok (.iadd, 1) := by decide +kernel
theorem dL_law_640 : decode cL_law 640 = .ok (.iaload, 1) := by decide +kernel
theorem dL_law_641 : decode cL_law 641 = .ok (.invokevirtual 83, 3) := by decide +kernel
theorem dL_law_644 : decode cL_law 644 = .ok (.aload_n 2, 1) := by decide +kernel
theorem dL_law_645 : decode cL_law 645 = .ok (.aload_n 0, 1) := by decide +kernel
theorem dL_law_646 : decode cL_law 646 = .ok (.iload_n 3, 1) := by decide +kernel
theorem dL_law_647 : decode cL_law 647 = .ok (.iconst 1, 1) := by decide +kernel
theorem dL_law_648 : decode cL_law 648 = .ok (.iadd, 1) := by decide +kernel
theorem dL_law_649 : decode cL_law 649 = .ok (.iaload, 1) := by decide +kernel
theorem dL_law_650 : decode cL_law 650 = .ok (.invokevirtual 86, 3) := by decide +kernel
theorem dL_law_653 : decode cL_law 653 = .ok (.if_icmp .eq 462, 3) := by decide +kernel
theorem dL_law_656 : decode cL_law 656 = .ok (.iconst 0, 1) := by decide +kernel
theorem dL_law_657 : decode cL_law 657 = .ok (.ireturn, 1) := by decide +kernel
theorem dL_law_658 : decode cL_law 658 = .ok (.aload_n 1, 1) := by decide +kernel
theorem dL_law_659 : decode cL_law 659 = .ok (.aload_n 0, 1) := by decide +kernel
theorem dL_law_660 : decode cL_law 660 = .ok (.iload_n 3, 1) := by decide +kernel
theorem dL_law_661 : decode cL_law 661 = .ok (.iconst 1, 1) := by decide +kernel
theorem dL_law_662 : decode cL_law 662 = .ok (.iadd, 1) := by decide +kernel
theorem dL_law_663 : decode cL_law 663 = .ok (.iaload, 1) := by decide +kernel
theorem dL_law_664 : decode cL_law 664 = .ok (.aload_n 0, 1) := by decide +kernel
theorem dL_law_665 : decode cL_law 665 = .ok (.iload_n 3, 1) := by decide +kernel
theorem dL_law_666 : decode cL_law 666 = .ok (.iconst 2, 1) := by decide +kernel
theorem dL_law_667 : decode cL_law 667 = .ok (.iadd, 1) := by decide +kernel
theorem dL_law_668 : decode cL_law 668 = .ok (.iaload, 1) := by decide +kernel
theorem dL_law_669 : decode cL_law 669 = .ok (.aload_n 0, 1) := by decide +kernel
theorem dL_law_670 : decode cL_law 670 = .ok (.iload_n 3, 1) := by decide +kernel
theorem dL_law_671 : decode cL_law 671 = .ok (.iconst 3, 1) := by decide +kernel
theorem dL_law_672 : decode cL_law 672 = .ok (.iadd, 1) := by decide +kernel
theorem dL_law_673 : decode cL_law 673 = .ok (.iaload, 1) := by decide +kernel
theorem dL_law_674 : decode cL_law 674 = .ok (.invokevirtual 87, 3) := by decide +kernel
theorem dL_law_677 : decode cL_law 677 = .ok (.aload_n 2, 1) := by decide +kernel
theorem dL_law_678 : decode cL_law 678 = .ok (.aload_n 0, 1) := by decide +kernel
theorem dL_law_679 : decode cL_law 679 = .ok (.iload_n 3, 1) := by decide +kernel
theorem dL_law_680 : decode cL_law 680 = .ok (.iconst 1, 1) := by decide +kernel
theorem dL_law_681 : decode cL_law 681 = .ok (.iadd, 1) := by decide +kernel
theorem dL_law_682 : decode cL_law 682 = .ok (.iaload, 1) := by decide +kernel
theorem dL_law_683 : decode cL_law 683 = .ok (.aload_n 0, 1) := by decide +kernel
theorem dL_law_684 : decode cL_law 684 = .ok (.iload_n 3, 1) := by decide +kernel
theorem dL_law_685 : decode cL_law 685 = .ok (.iconst 2, 1) := by decide +kernel
theorem dL_law_686 : decode cL_law 686 = .ok (.iadd, 1) := by decide +kernel
theorem dL_law_687 : decode cL_law 687 = .ok (.iaload, 1) := by decide +kernel
theorem dL_law_688 : decode cL_law 688 = .ok (.aload_n 0, 1) := by decide +kernel
theorem dL_law_689 : decode cL_law 689 = .ok (.iload_n 3, 1) := by decide +kernel
theorem dL_law_690 : decode cL_law 690 = .ok (.iconst 3, 1) := by decide +kernel
theorem dL_law_691 : decode cL_law 691 = .ok (.iadd, 1) := by decide +kernel
theorem dL_law_692 : decode cL_law 692 = .ok (.iaload, 1) := by decide +kernel
theorem dL_law_693 : decode cL_law 693 = .ok (.invokevirtual 90, 3) := by decide +kernel
theorem dL_law_696 : decode cL_law 696 = .ok (.if_icmp .eq 419, 3) := by decide +kernel
theorem dL_law_699 : decode cL_law 699 = .ok (.iconst 0, 1) := by decide +kernel
theorem dL_law_700 : decode cL_law 700 = .ok (.ireturn, 1) := by decide +kernel
theorem dL_law_701 : decode cL_law 701 = .ok (.aload_n 1, 1) := by decide +kernel
theorem dL_law_702 : decode cL_law 702 = .ok (.aload_n 0, 1) := by decide +kernel
theorem dL_law_703 : decode cL_law 703 = .ok (.iload_n 3, 1) := by decide +kernel
theorem dL_law_704 : decode cL_law 704 = .ok (.iconst 1, 1) := by decide +kernel
theorem dL_law_705 : decode cL_law 705 = .ok (.iadd, 1) := by decide +kernel
theorem dL_law_706 : decode cL_law 706 = .ok (.iaload, 1) := by decide +kernel
theorem dL_law_707 : decode cL_law 707 = .ok (.aload_n 0, 1) := by decide +kernel
theorem dL_law_708 : decode cL_law 708 = .ok (.iload_n 3, 1) := by decide +kernel
theorem dL_law_709 : decode cL_law 709 = .ok (.iconst 2, 1) := by decide +kernel
theorem dL_law_710 : decode cL_law 710 = .ok (.iadd, 1) := by decide +kernel
theorem dL_law_711 : decode cL_law 711 = .ok (.iaload, 1) := by decide +kernel
theorem dL_law_712 : decode cL_law 712 = .ok (.invokevirtual 91, 3) := by decide +kernel
theorem dL_law_715 : decode cL_law 715 = .ok (.aload_n 2, 1) := by decide +kernel
theorem dL_law_716 : decode cL_law 716 = .ok (.aload_n 0, 1) := by decide +kernel
theorem dL_law_717 : decode cL_law 717 = .ok (.iload_n 3, 1) := by decide +kernel
theorem dL_law_718 : decode cL_law 718 = .ok (.iconst 1, 1) := by decide +kernel
theorem dL_law_719 : decode cL_law 719 = .ok (.iadd, 1) := by decide +kernel
theorem dL_law_720 : decode cL_law 720 = .ok (.iaload, 1) := by decide +kernel
theorem dL_law_721 : decode cL_law 721 = .ok (.aload_n 0, 1) := by decide +kernel
theorem dL_law_722 : decode cL_law 722 = .ok (.iload_n 3, 1) := by decide +kernel
theorem dL_law_723 : decode cL_law 723 = .ok (.iconst 2, 1) := by decide +kernel
theorem dL_law_724 : decode cL_law 724 = .ok (.iadd, 1) := by decide +kernel
theorem dL_law_725 : decode cL_law 725 = .ok (.iaload, 1) := by decide +kernel
theorem dL_law_726 : decode cL_law 726 = .ok (.invokevirtual 94, 3) := by decide +kernel
theorem dL_law_729 : decode cL_law 729 = .ok (.if_icmp .eq 386, 3) := by decide +kernel
theorem dL_law_732 : decode cL_law 732 = .ok (.iconst 0, 1) := by decide +kernel
theorem dL_law_733 : decode cL_law 733 = .ok (.ireturn, 1) := by decide +kernel
theorem dL_law_734 : decode cL_law 734 = .ok (.aload_n 1, 1) := by decide +kernel
theorem dL_law_735 : decode cL_law 735 = .ok (.aload_n 0, 1) := by decide +kernel
theorem dL_law_736 : decode cL_law 736 = .ok (.iload_n 3, 1) := by decide +kernel
theorem dL_law_737 : decode cL_law 737 = .ok (.iconst 1, 1) := by decide +kernel
theorem dL_law_738 : decode cL_law 738 = .ok (.iadd, 1) := by decide +kernel
theorem dL_law_739 : decode cL_law 739 = .ok (.iaload, 1) := by decide +kernel
theorem dL_law_740 : decode cL_law 740 = .ok (.aload_n 0, 1) := by decide +kernel
theorem dL_law_741 : decode cL_law 741 = .ok (.iload_n 3, 1) := by decide +kernel
theorem dL_law_742 : decode cL_law 742 = .ok (.iconst 2, 1) := by decide +kernel
theorem dL_law_743 : decode cL_law 743 = .ok (.iadd, 1) := by decide +kernel
theorem dL_law_744 : decode cL_law 744 = .ok (.iaload, 1) := by decide +kernel
theorem dL_law_745 : decode cL_law 745 = .ok (.invokevirtual 95, 3) := by decide +kernel
theorem dL_law_748 : decode cL_law 748 = .ok (.aload_n 2, 1) := by decide +kernel
theorem dL_law_749 : decode cL_law 749 = .ok (.aload_n 0, 1) := by decide +kernel
theorem dL_law_750 : decode cL_law 750 = .ok (.iload_n 3, 1) := by decide +kernel
theorem dL_law_751 : decode cL_law 751 = .ok (.iconst 1, 1) := by decide +kernel
theorem dL_law_752 : decode cL_law 752 = .ok (.iadd, 1) := by decide +kernel
theorem dL_law_753 : decode cL_law 753 = .ok (.iaload, 1) := by decide +kernel
theorem dL_law_754 : decode cL_law 754 = .ok (.aload_n 0, 1) := by decide +kernel
theorem dL_law_755 : decode cL_law 755 = .ok (.iload_n 3, 1) := by decide +kernel
theorem dL_law_756 : decode cL_law 756 = .ok (.iconst 2, 1) := by decide +kernel
theorem dL_law_757 : decode cL_law 757 = .ok (.iadd, 1) := by decide +kernel
theorem dL_law_758 : decode cL_law 758 = .ok (.iaload, 1) := by decide +kernel
theorem dL_law_759 : decode cL_law 759 = .ok (.invokevirtual 98, 3) := by decide +kernel
theorem dL_law_762 : decode cL_law 762 = .ok (.if_icmp .eq 353, 3) := by decide +kernel
theorem dL_law_765 : decode cL_law 765 = .ok (.iconst 0, 1) := by decide +kernel
theorem dL_law_766 : decode cL_law 766 = .ok (.ireturn, 1) := by decide +kernel
theorem dL_law_767 : decode cL_law 767 = .ok (.aload_n 1, 1) := by decide +kernel
theorem dL_law_768 : decode cL_law 768 = .ok (.invokevirtual 99, 3) := by decide +kernel
theorem dL_law_771 : decode cL_law 771 = .ok (.aload_n 2, 1) := by decide +kernel
theorem dL_law_772 : decode cL_law 772 = .ok (.invokevirtual 102, 3) := by decide +kernel
theorem dL_law_775 : decode cL_law 775 = .ok (.if_icmp .eq 340, 3) := by decide +kernel
theorem dL_law_778 : decode cL_law 778 = .ok (.iconst 0, 1) := by decide +kernel
theorem dL_law_779 : decode cL_law 779 = .ok (.ireturn, 1) := by decide +kernel
theorem dL_law_780 : decode cL_law 780 = .ok (.aload_n 1, 1) := by decide +kernel
theorem dL_law_781 : decode cL_law 781 = .ok (.aload_n 0, 1) := by decide +kernel
theorem dL_law_782 : decode cL_law 782 = .ok (.iload_n 3, 1) := by decide +kernel
theorem dL_law_783 : decode cL_law 783 = .ok (.iconst 1, 1) := by decide +kernel
theorem dL_law_784 : decode cL_law 784 = .ok (.iadd, 1) := by decide +kernel
theorem dL_law_785 : decode cL_law 785 = .ok (.iaload, 1) := by decide +kernel
theorem dL_law_786 : decode cL_law 786 = .ok (.invokevirtual 103, 3) := by decide +kernel
theorem dL_law_789 : decode cL_law 789 = .ok (.aload_n 2, 1) := by decide +kernel
theorem dL_law_790 : decode cL_law 790 = .ok (.aload_n 0, 1) := by decide +kernel
theorem dL_law_791 : decode cL_law 791 = .ok (.iload_n 3, 1) := by decide +kernel
theorem dL_law_792 : decode cL_law 792 = .ok (.iconst 1, 1) := by decide +kernel
theorem dL_law_793 : decode cL_law 793 = .ok (.iadd, 1) := by decide +kernel
theorem dL_law_794 : decode cL_law 794 = .ok (.iaload, 1) := by decide +kernel
theorem dL_law_795 : decode cL_law 795 = .ok (.invokevirtual 106, 3) := by decide +kernel
theorem dL_law_798 : decode cL_law 798 = .ok (.if_icmp .eq 317, 3) := by decide +kernel
theorem dL_law_801 : decode cL_law 801 = .ok (.iconst 0, 1) := by decide +kernel
theorem dL_law_802 : decode cL_law 802 = .ok (.ireturn, 1) := by decide +kernel
theorem dL_law_803 : decode cL_law 803 = .ok (.aload_n 1, 1) := by decide +kernel
theorem dL_law_804 : decode cL_law 804 = .ok (.aload_n 0, 1) := by decide +kernel
theorem dL_law_805 : decode cL_law 805 = .ok (.iload_n 3, 1) := by decide +kernel
theorem dL_law_806 : decode cL_law 806 = .ok (.iconst 1, 1) := by decide +kernel
theorem dL_law_807 : decode cL_law 807 = .ok (.iadd, 1) := by decide +kernel
theorem dL_law_808 : decode cL_law 808 = .ok (.iaload, 1) := by decide +kernel
theorem dL_law_809 : decode cL_law 809 = .ok (.invokevirtual 107, 3) := by decide +kernel
theorem dL_law_812 : decode cL_law 812 = .ok (.aload_n 2, 1) := by decide +kernel
theorem dL_law_813 : decode cL_law 813 = .ok (.aload_n 0, 1) := by decide +kernel
theorem dL_law_814 : decode cL_law 814 = .ok (.iload_n 3, 1) := by decide +kernel
theorem dL_law_815 : decode cL_law 815 = .ok (.iconst 1, 1) := by decide +kernel
theorem dL_law_816 : decode cL_law 816 = .ok (.iadd, 1) := by decide +kernel
theorem dL_law_817 : decode cL_law 817 = .ok (.iaload, 1) := by decide +kernel
theorem dL_law_818 : decode cL_law 818 = .ok (.invokevirtual 110, 3) := by decide +kernel
theorem dL_law_821 : decode cL_law 821 = .ok (.if_icmp .eq 294, 3) := by decide +kernel
theorem dL_law_824 : decode cL_law 824 = .ok (.iconst 0, 1) := by decide +kernel
theorem dL_law_825 : decode cL_law 825 = .ok (.ireturn, 1) := by decide +kernel
theorem dL_law_826 : decode cL_law 826 = .ok (.aload_n 1, 1) := by decide +kernel
theorem dL_law_827 : decode cL_law 827 = .ok (.aload_n 0, 1) := by decide +kernel
theorem dL_law_828 : decode cL_law 828 = .ok (.iload_n 3, 1) := by decide +kernel
theorem dL_law_829 : decode cL_law 829 = .ok (.iconst 1, 1) := by decide +kernel
theorem dL_law_830 : decode cL_law 830 = .ok (.iadd, 1) := by decide +kernel
theorem dL_law_831 : decode cL_law 831 = .ok (.iaload, 1) := by decide +kernel
theorem dL_law_832 : decode cL_law 832 = .ok (.aload_n 0, 1) := by decide +kernel
theorem dL_law_833 : decode cL_law 833 = .ok (.iload_n 3, 1) := by decide +kernel
theorem dL_law_834 : decode cL_law 834 = .ok (.iconst 2, 1) := by decide +kernel
theorem dL_law_835 : decode cL_law 835 = .ok (.iadd, 1) := by decide +kernel
theorem dL_law_836 : decode cL_law 836 = .ok (.iaload, 1) := by decide +kernel
theorem dL_law_837 : decode cL_law 837 = .ok (.aload_n 0, 1) := by decide +kernel
theorem dL_law_838 : decode cL_law 838 = .ok (.iload_n 3, 1) := by decide +kernel
theorem dL_law_839 : decode cL_law 839 = .ok (.iconst 3, 1) := by decide +kernel
theorem dL_law_840 : decode cL_law 840 = .ok (.iadd, 1) := by decide +kernel
theorem dL_law_841 : decode cL_law 841 = .ok (.iaload, 1) := by decide +kernel
theorem dL_law_842 : decode cL_law 842 = .ok (.invokevirtual 111, 3) := by decide +kernel
theorem dL_law_845 : decode cL_law 845 = .ok (.aload_n 2, 1) := by decide +kernel
theorem dL_law_846 : decode cL_law 846 = .ok (.aload_n 0, 1) := by decide +kernel
theorem dL_law_847 : decode cL_law 847 = .ok (.iload_n 3, 1) := by decide +kernel
theorem dL_law_848 : decode cL_law 848 = .ok (.iconst 1, 1) := by decide +kernel
theorem dL_law_849 : decode cL_law 849 = .ok (.iadd, 1) := by decide +kernel
theorem dL_law_850 : decode cL_law 850 = .ok (.iaload, 1) := by decide +kernel
theorem dL_law_851 : decode cL_law 851 = .ok (.aload_n 0, 1) := by decide +kernel
theorem dL_law_852 : decode cL_law 852 = .ok (.iload_n 3, 1) := by decide +kernel
theorem dL_law_853 : decode cL_law 853 = .ok (.iconst 2, 1) := by decide +kernel
theorem dL_law_854 : decode cL_law 854 = .ok (.iadd, 1) := by decide +kernel
theorem dL_law_855 : decode cL_law 855 = .ok (.iaload, 1) := by decide +kernel
theorem dL_law_856 : decode cL_law 856 = .ok (.aload_n 0, 1) := by decide +kernel
theorem dL_law_857 : decode cL_law 857 = .ok (.iload_n 3, 1) := by decide +kernel
theorem dL_law_858 : decode cL_law 858 = .ok (.iconst 3, 1) := by decide +kernel
theorem dL_law_859 : decode cL_law 859 = .ok (.iadd, 1) := by decide +kernel
theorem dL_law_860 : decode cL_law 860 = .ok (.iaload, 1) := by decide +kernel
theorem dL_law_861 : decode cL_law 861 = .ok (.invokevirtual 115, 3) := by decide +kernel
theorem dL_law_864 : decode cL_law 864 = .ok (.lcmp, 1) := by decide +kernel
theorem dL_law_865 : decode cL_law 865 = .ok (.ifCond .eq 250, 3) := by decide +kernel
theorem dL_law_868 : decode cL_law 868 = .ok (.iconst 0, 1) := by decide +kernel
theorem dL_law_869 : decode cL_law 869 = .ok (.ireturn, 1) := by decide +kernel
theorem dL_law_870 : decode cL_law 870 = .ok (.aload_n 1, 1) := by decide +kernel
theorem dL_law_871 : decode cL_law 871 = .ok (.aload_n 0, 1) := by decide +kernel
theorem dL_law_872 : decode cL_law 872 = .ok (.iload_n 3, 1) := by decide +kernel
theorem dL_law_873 : decode cL_law 873 = .ok (.iconst 1, 1) := by decide +kernel
theorem dL_law_874 : decode cL_law 874 = .ok (.iadd, 1) := by decide +kernel
theorem dL_law_875 : decode cL_law 875 = .ok (.iaload, 1) := by decide +kernel
theorem dL_law_876 : decode cL_law 876 = .ok (.aload_n 0, 1) := by decide +kernel
theorem dL_law_877 : decode cL_law 877 = .ok (.iload_n 3, 1) := by decide +kernel
theorem dL_law_878 : decode cL_law 878 = .ok (.iconst 2, 1) := by decide +kernel
theorem dL_law_879 : decode cL_law 879 = .ok (.iadd, 1) := by decide +kernel
theorem dL_law_880 : decode cL_law 880 = .ok (.iaload, 1) := by decide +kernel
theorem dL_law_881 : decode cL_law 881 = .ok (.invokevirtual 116, 3) := by decide +kernel
theorem dL_law_884 : decode cL_law 884 = .ok (.aload_n 2, 1) := by decide +kernel
theorem dL_law_885 : decode cL_law 885 = .ok (.aload_n 0, 1) := by decide +kernel
theorem dL_law_886 : decode cL_law 886 = .ok (.iload_n 3, 1) := by decide +kernel
theorem dL_law_887 : decode cL_law 887 = .ok (.iconst 1, 1) := by decide +kernel
theorem dL_law_888 : decode cL_law 888 = .ok (.iadd, 1) := by decide +kernel
theorem dL_law_889 : decode cL_law 889 = .ok (.iaload, 1) := by decide +kernel
theorem dL_law_890 : decode cL_law 890 = .ok (.aload_n 0, 1) := by decide +kernel
theorem dL_law_891 : decode cL_law 891 = .ok (.iload_n 3, 1) := by decide +kernel
theorem dL_law_892 : decode cL_law 892 = .ok (.iconst 2, 1) := by decide +kernel
theorem dL_law_893 : decode cL_law 893 = .ok (.iadd, 1) := by decide +kernel
theorem dL_law_894 : decode cL_law 894 = .ok (.iaload, 1) := by decide +kernel
theorem dL_law_895 : decode cL_law 895 = .ok (.invokevirtual 120, 3) := by decide +kernel
theorem dL_law_898 : decode cL_law 898 = .ok (.lcmp, 1) := by decide +kernel
theorem dL_law_899 : decode cL_law 899 = .ok (.ifCond .eq 216, 3) := by decide +kernel
theorem dL_law_902 : decode cL_law 902 = .ok (.iconst 0, 1) := by decide +kernel
theorem dL_law_903 : decode cL_law 903 = .ok (.ireturn, 1) := by decide +kernel
theorem dL_law_904 : decode cL_law 904 = .ok (.aload_n 1, 1) := by decide +kernel
theorem dL_law_905 : decode cL_law 905 = .ok (.aload_n 0, 1) := by decide +kernel
theorem dL_law_906 : decode cL_law 906 = .ok (.iload_n 3, 1) := by decide +kernel
theorem dL_law_907 : decode cL_law 907 = .ok (.iconst 1, 1) := by decide +kernel
theorem dL_law_908 : decode cL_law 908 = .ok (.iadd, 1) := by decide +kernel
theorem dL_law_909 : decode cL_law 909 = .ok (.iaload, 1) := by decide +kernel
theorem dL_law_910 : decode cL_law 910 = .ok (.aload_n 0, 1) := by decide +kernel
theorem dL_law_911 : decode cL_law 911 = .ok (.iload_n 3, 1) := by decide +kernel
theorem dL_law_912 : decode cL_law 912 = .ok (.iconst 2, 1) := by decide +kernel
theorem dL_law_913 : decode cL_law 913 = .ok (.iadd, 1) := by decide +kernel
theorem dL_law_914 : decode cL_law 914 = .ok (.iaload, 1) := by decide +kernel
theorem dL_law_915 : decode cL_law 915 = .ok (.aload_n 0, 1) := by decide +kernel
theorem dL_law_916 : decode cL_law 916 = .ok (.iload_n 3, 1) := by decide +kernel
theorem dL_law_917 : decode cL_law 917 = .ok (.iconst 3, 1) := by decide +kernel
theorem dL_law_918 : decode cL_law 918 = .ok (.iadd, 1) := by decide +kernel
theorem dL_law_919 : decode cL_law 919 = .ok (.iaload, 1) := by decide +kernel
theorem dL_law_920 : decode cL_law 920 = .ok (.aload_n 0, 1) := by decide +kernel
theorem dL_law_921 : decode cL_law 921 = .ok (.iload_n 3, 1) := by decide +kernel
theorem dL_law_922 : decode cL_law 922 = .ok (.iconst 4, 1) := by decide +kernel
theorem dL_law_923 : decode cL_law 923 = .ok (.iadd, 1) := by decide +kernel
theorem dL_law_924 : decode cL_law 924 = .ok (.iaload, 1) := by decide +kernel
theorem dL_law_925 : decode cL_law 925 = .ok (.invokevirtual 121, 3) := by decide +kernel
theorem dL_law_928 : decode cL_law 928 = .ok (.aload_n 2, 1) := by decide +kernel
theorem dL_law_929 : decode cL_law 929 = .ok (.aload_n 0, 1) := by decide +kernel
theorem dL_law_930 : decode cL_law 930 = .ok (.iload_n 3, 1) := by decide +kernel
theorem dL_law_931 : decode cL_law 931 = .ok (.iconst 1, 1) := by decide +kernel
theorem dL_law_932 : decode cL_law 932 = .ok (.iadd, 1) := by decide +kernel
theorem dL_law_933 : decode cL_law 933 = .ok (.iaload, 1) := by decide +kernel
theorem dL_law_934 : decode cL_law 934 = .ok (.aload_n 0, 1) := by decide +kernel
theorem dL_law_935 : decode cL_law 935 = .ok (.iload_n 3, 1) := by decide +kernel
theorem dL_law_936 : decode cL_law 936 = .ok (.iconst 2, 1) := by decide +kernel
theorem dL_law_937 : decode cL_law 937 = .ok (.iadd, 1) := by decide +kernel
theorem dL_law_938 : decode cL_law 938 = .ok (.iaload, 1) := by decide +kernel
theorem dL_law_939 : decode cL_law 939 = .ok (.aload_n 0, 1) := by decide +kernel
theorem dL_law_940 : decode cL_law 940 = .ok (.iload_n 3, 1) := by decide +kernel
theorem dL_law_941 : decode cL_law 941 = .ok (.iconst 3, 1) := by decide +kernel
theorem dL_law_942 : decode cL_law 942 = .ok (.iadd, 1) := by decide +kernel
theorem dL_law_943 : decode cL_law 943 = .ok (.iaload, 1) := by decide +kernel
theorem dL_law_944 : decode cL_law 944 = .ok (.aload_n 0, 1) := by decide +kernel
theorem dL_law_945 : decode cL_law 945 = .ok (.iload_n 3, 1) := by decide +kernel
theorem dL_law_946 : decode cL_law 946 = .ok (.iconst 4, 1) := by decide +kernel
theorem dL_law_947 : decode cL_law 947 = .ok (.iadd, 1) := by decide +kernel
theorem dL_law_948 : decode cL_law 948 = .ok (.iaload, 1) := by decide +kernel
theorem dL_law_949 : decode cL_law 949 = .ok (.invokevirtual 125, 3) := by decide +kernel
theorem dL_law_952 : decode cL_law 952 = .ok (.if_icmp .eq 163, 3) := by decide +kernel
theorem dL_law_955 : decode cL_law 955 = .ok (.iconst 0, 1) := by decide +kernel
theorem dL_law_956 : decode cL_law 956 = .ok (.ireturn, 1) := by decide +kernel
theorem dL_law_957 : decode cL_law 957 = .ok (.aload_n 1, 1) := by decide +kernel
theorem dL_law_958 : decode cL_law 958 = .ok (.invokevirtual 126, 3) := by decide +kernel
theorem dL_law_961 : decode cL_law 961 = .ok (.aload_n 2, 1) := by decide +kernel
theorem dL_law_962 : decode cL_law 962 = .ok (.invokevirtual 129, 3) := by decide +kernel
theorem dL_law_965 : decode cL_law 965 = .ok (.if_icmp .eq 150, 3) := by decide +kernel
theorem dL_law_968 : decode cL_law 968 = .ok (.iconst 0, 1) := by decide +kernel
theorem dL_law_969 : decode cL_law 969 = .ok (.ireturn, 1) := by decide +kernel
theorem dL_law_970 : decode cL_law 970 = .ok (.aload_n 1, 1) := by decide +kernel
theorem dL_law_971 : decode cL_law 971 = .ok (.aload_n 0, 1) := by decide +kernel
theorem dL_law_972 : decode cL_law 972 = .ok (.iload_n 3, 1) := by decide +kernel
theorem dL_law_973 : decode cL_law 973 = .ok (.iconst 1, 1) := by decide +kernel
theorem dL_law_974 : decode cL_law 974 = .ok (.iadd, 1) := by decide +kernel
theorem dL_law_975 : decode cL_law 975 = .ok (.iaload, 1) := by decide +kernel
theorem dL_law_976 : decode cL_law 976 = .ok (.aload_n 0, 1) := by decide +kernel
theorem dL_law_977 : decode cL_law 977 = .ok (.iload_n 3, 1) := by decide +kernel
theorem dL_law_978 : decode cL_law 978 = .ok (.iconst 2, 1) := by decide +kernel
theorem dL_law_979 : decode cL_law 979 = .ok (.iadd, 1) := by decide +kernel
theorem dL_law_980 : decode cL_law 980 = .ok (.iaload, 1) := by decide +kernel
theorem dL_law_981 : decode cL_law 981 = .ok (.invokevirtual 130, 3) := by decide +kernel
theorem dL_law_984 : decode cL_law 984 = .ok (.aload_n 2, 1) := by decide +kernel
theorem dL_law_985 : decode cL_law 985 = .ok (.aload_n 0, 1) := by decide +kernel
theorem dL_law_986 : decode cL_law 986 = .ok (.iload_n 3, 1) := by decide +kernel
theorem dL_law_987 : decode cL_law 987 = .ok (.iconst 1, 1) := by decide +kernel
theorem dL_law_988 : decode cL_law 988 = .ok (.iadd, 1) := by decide +kernel
theorem dL_law_989 : decode cL_law 989 = .ok (.iaload, 1) := by decide +kernel
theorem dL_law_990 : decode cL_law 990 = .ok (.aload_n 0, 1) := by decide +kernel
theorem dL_law_991 : decode cL_law 991 = .ok (.iload_n 3, 1) := by decide +kernel
theorem dL_law_992 : decode cL_law 992 = .ok (.iconst 2, 1) := by decide +kernel
theorem dL_law_993 : decode cL_law 993 = .ok (.iadd, 1) := by decide +kernel
theorem dL_law_994 : decode cL_law 994 = .ok (.iaload, 1) := by decide +kernel
theorem dL_law_995 : decode cL_law 995 = .ok (.invokevirtual 133, 3) := by decide +kernel
theorem dL_law_998 : decode cL_law 998 = .ok (.if_icmp .eq 117, 3) := by decide +kernel
theorem dL_law_1001 : decode cL_law 1001 = .ok (.iconst 0, 1) := by decide +kernel
theorem dL_law_1002 : decode cL_law 1002 = .ok (.ireturn, 1) := by decide +kernel
theorem dL_law_1003 : decode cL_law 1003 = .ok (.aload_n 1, 1) := by decide +kernel
theorem dL_law_1004 : decode cL_law 1004 = .ok (.aload_n 0, 1) := by decide +kernel
theorem dL_law_1005 : decode cL_law 1005 = .ok (.iload_n 3, 1) := by decide +kernel
theorem dL_law_1006 : decode cL_law 1006 = .ok (.iconst 1, 1) := by decide +kernel
theorem dL_law_1007 : decode cL_law 1007 = .ok (.iadd, 1) := by decide +kernel
theorem dL_law_1008 : decode cL_law 1008 = .ok (.iaload, 1) := by decide +kernel
theorem dL_law_1009 : decode cL_law 1009 = .ok (.aload_n 0, 1) := by decide +kernel
theorem dL_law_1010 : decode cL_law 1010 = .ok (.iload_n 3, 1) := by decide +kernel
theorem dL_law_1011 : decode cL_law 1011 = .ok (.iconst 2, 1) := by decide +kernel
theorem dL_law_1012 : decode cL_law 1012 = .ok (.iadd, 1) := by decide +kernel
theorem dL_law_1013 : decode cL_law 1013 = .ok (.iaload, 1) := by decide +kernel
theorem dL_law_1014 : decode cL_law 1014 = .ok (.aload_n 0, 1) := by decide +kernel
theorem dL_law_1015 : decode cL_law 1015 = .ok (.iload_n 3, 1) := by decide +kernel
theorem dL_law_1016 : decode cL_law 1016 = .ok (.iconst 3, 1) := by decide +kernel
theorem dL_law_1017 : decode cL_law 1017 = .ok (.iadd, 1) := by decide +kernel
theorem dL_law_1018 : decode cL_law 1018 = .ok (.iaload, 1) := by decide +kernel
theorem dL_law_1019 : decode cL_law 1019 = .ok (.invokevirtual 134, 3) := by decide +kernel
theorem dL_law_1022 : decode cL_law 1022 = .ok (.aload_n 2, 1) := by decide +kernel
theorem dL_law_1023 : decode cL_law 1023 = .ok (.aload_n 0, 1) := by decide +kernel
theorem dL_law_1024 : decode cL_law 1024 = .ok (.iload_n 3, 1) := by decide +kernel
theorem dL_law_1025 : decode cL_law 1025 = .ok (.iconst 1, 1) := by decide +kernel
theorem dL_law_1026 : decode cL_law 1026 = .ok (.iadd, 1) := by decide +kernel
theorem dL_law_1027 : decode cL_law 1027 = .ok (.iaload, 1) := by decide +kernel
theorem dL_law_1028 : decode cL_law 1028 = .ok (.aload_n 0, 1) := by decide +kernel
theorem dL_law_1029 : decode cL_law 1029 = .ok (.iload_n 3, 1) := by decide +kernel
theorem dL_law_1030 : decode cL_law 1030 = .ok (.iconst 2, 1) := by decide +kernel
theorem dL_law_1031 : decode cL_law 1031 = .ok (.iadd, 1) := by decide +kernel
theorem dL_law_1032 : decode cL_law 1032 = .ok (.iaload, 1) := by decide +kernel
theorem dL_law_1033 : decode cL_law 1033 = .ok (.aload_n 0, 1) := by decide +kernel
theorem dL_law_1034 : decode cL_law 1034 = .ok (.iload_n 3, 1) := by decide +kernel
theorem dL_law_1035 : decode cL_law 1035 = .ok (.iconst 3, 1) := by decide +kernel
theorem dL_law_1036 : decode cL_law 1036 = .ok (.iadd, 1) := by decide +kernel
theorem dL_law_1037 : decode cL_law 1037 = .ok (.iaload, 1) := by decide +kernel
theorem dL_law_1038 : decode cL_law 1038 = .ok (.invokevirtual 137, 3) := by decide +kernel
theorem dL_law_1041 : decode cL_law 1041 = .ok (.if_icmp .eq 74, 3) := by decide +kernel
theorem dL_law_1044 : decode cL_law 1044 = .ok (.iconst 0, 1) := by decide +kernel
theorem dL_law_1045 : decode cL_law 1045 = .ok (.ireturn, 1) := by decide +kernel
theorem dL_law_1046 : decode cL_law 1046 = .ok (.aload_n 1, 1) := by decide +kernel
theorem dL_law_1047 : decode cL_law 1047 = .ok (.aload_n 0, 1) := by decide +kernel
theorem dL_law_1048 : decode cL_law 1048 = .ok (.iload_n 3, 1) := by decide +kernel
theorem dL_law_1049 : decode cL_law 1049 = .ok (.iconst 1, 1) := by decide +kernel
theorem dL_law_1050 : decode cL_law 1050 = .ok (.iadd, 1) := by decide +kernel
theorem dL_law_1051 : decode cL_law 1051 = .ok (.iaload, 1) := by decide +kernel
theorem dL_law_1052 : decode cL_law 1052 = .ok (.invokevirtual 138, 3) := by decide +kernel
theorem dL_law_1055 : decode cL_law 1055 = .ok (.aload_n 2, 1) := by decide +kernel
theorem dL_law_1056 : decode cL_law 1056 = .ok (.aload_n 0, 1) := by decide +kernel
theorem dL_law_1057 : decode cL_law 1057 = .ok (.iload_n 3, 1) := by decide +kernel
theorem dL_law_1058 : decode cL_law 1058 = .ok (.iconst 1, 1) := by decide +kernel
theorem dL_law_1059 : decode cL_law 1059 = .ok (.iadd, 1) := by decide +kernel
theorem dL_law_1060 : decode cL_law 1060 = .ok (.iaload, 1) := by decide +kernel
theorem dL_law_1061 : decode cL_law 1061 = .ok (.invokevirtual 141, 3) := by decide +kernel
theorem dL_law_1064 : decode cL_law 1064 = .ok (.if_icmp .eq 51, 3) := by decide +kernel
theorem dL_law_1067 : decode cL_law 1067 = .ok (.iconst 0, 1) := by decide +kernel
theorem dL_law_1068 : decode cL_law 1068 = .ok (.ireturn, 1) := by decide +kernel
theorem dL_law_1069 : decode cL_law 1069 = .ok (.aload_n 1, 1) := by decide +kernel
theorem dL_law_1070 : decode cL_law 1070 = .ok (.aload_n 0, 1) := by decide +kernel
theorem dL_law_1071 : decode cL_law 1071 = .ok (.iload_n 3, 1) := by decide +kernel
theorem dL_law_1072 : decode cL_law 1072 = .ok (.iconst 1, 1) := by decide +kernel
theorem dL_law_1073 : decode cL_law 1073 = .ok (.iadd, 1) := by decide +kernel
theorem dL_law_1074 : decode cL_law 1074 = .ok (.iaload, 1) := by decide +kernel
theorem dL_law_1075 : decode cL_law 1075 = .ok (.invokevirtual 142, 3) := by decide +kernel
theorem dL_law_1078 : decode cL_law 1078 = .ok (.aload_n 2, 1) := by decide +kernel
theorem dL_law_1079 : decode cL_law 1079 = .ok (.aload_n 0, 1) := by decide +kernel
theorem dL_law_1080 : decode cL_law 1080 = .ok (.iload_n 3, 1) := by decide +kernel
theorem dL_law_1081 : decode cL_law 1081 = .ok (.iconst 1, 1) := by decide +kernel
theorem dL_law_1082 : decode cL_law 1082 = .ok (.iadd, 1) := by decide +kernel
theorem dL_law_1083 : decode cL_law 1083 = .ok (.iaload, 1) := by decide +kernel
theorem dL_law_1084 : decode cL_law 1084 = .ok (.invokevirtual 145, 3) := by decide +kernel
theorem dL_law_1087 : decode cL_law 1087 = .ok (.if_icmp .eq 28, 3) := by decide +kernel
theorem dL_law_1090 : decode cL_law 1090 = .ok (.iconst 0, 1) := by decide +kernel
theorem dL_law_1091 : decode cL_law 1091 = .ok (.ireturn, 1) := by decide +kernel
theorem dL_law_1092 : decode cL_law 1092 = .ok (.aload_n 1, 1) := by decide +kernel
theorem dL_law_1093 : decode cL_law 1093 = .ok (.aload_n 0, 1) := by decide +kernel
theorem dL_law_1094 : decode cL_law 1094 = .ok (.iload_n 3, 1) := by decide +kernel
theorem dL_law_1095 : decode cL_law 1095 = .ok (.iconst 1, 1) := by decide +kernel
theorem dL_law_1096 : decode cL_law 1096 = .ok (.iadd, 1) := by decide +kernel
theorem dL_law_1097 : decode cL_law 1097 = .ok (.iaload, 1) := by decide +kernel
theorem dL_law_1098 : decode cL_law 1098 = .ok (.invokevirtual 146, 3) := by decide +kernel
theorem dL_law_1101 : decode cL_law 1101 = .ok (.aload_n 2, 1) := by decide +kernel
theorem dL_law_1102 : decode cL_law 1102 = .ok (.aload_n 0, 1) := by decide +kernel
theorem dL_law_1103 : decode cL_law 1103 = .ok (.iload_n 3, 1) := by decide +kernel
theorem dL_law_1104 : decode cL_law 1104 = .ok (.iconst 1, 1) := by decide +kernel
theorem dL_law_1105 : decode cL_law 1105 = .ok (.iadd, 1) := by decide +kernel
theorem dL_law_1106 : decode cL_law 1106 = .ok (.iaload, 1) := by decide +kernel
theorem dL_law_1107 : decode cL_law 1107 = .ok (.invokevirtual 149, 3) := by decide +kernel
theorem dL_law_1110 : decode cL_law 1110 = .ok (.if_icmp .eq 5, 3) := by decide +kernel
theorem dL_law_1113 : decode cL_law 1113 = .ok (.iconst 0, 1) := by decide +kernel
theorem dL_law_1114 : decode cL_law 1114 = .ok (.ireturn, 1) := by decide +kernel
theorem dL_law_1115 : decode cL_law 1115 = .ok (.iinc 3 6, 3) := by decide +kernel
theorem dL_law_1118 : decode cL_law 1118 = .ok (.goto (-1100), 3) := by decide +kernel
theorem dL_law_1121 : decode cL_law 1121 = .ok (.iconst 1, 1) := by decide +kernel
theorem dL_law_1122 : decode cL_law 1122 = .ok (.ireturn, 1) := by decide +kernel
