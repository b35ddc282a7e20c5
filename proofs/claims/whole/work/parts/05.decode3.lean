theorem dX8_say_17 : decode cX8_say 17 = .ok (.aload_n 0, 1) := by decide +kernel
theorem dX8_say_18 : decode cX8_say 18 = .ok (.getfield 124, 3) := by decide +kernel
theorem dX8_say_21 : decode cX8_say 21 = .ok (.bipush 110, 2) := by decide +kernel
theorem dX8_say_23 : decode cX8_say 23 = .ok (.if_icmp .ne 6, 3) := by decide +kernel
theorem dX8_say_26 : decode cX8_say 26 = .ok (.bipush (-4), 2) := by decide +kernel
theorem dX8_say_28 : decode cX8_say 28 = .ok (.ireturn, 1) := by decide +kernel
theorem dX8_say_29 : decode cX8_say 29 = .ok (.aload_n 0, 1) := by decide +kernel
theorem dX8_say_30 : decode cX8_say 30 = .ok (.getfield 37, 3) := by decide +kernel
theorem dX8_say_33 : decode cX8_say 33 = .ok (.aload_n 0, 1) := by decide +kernel
theorem dX8_say_34 : decode cX8_say 34 = .ok (.getfield 124, 3) := by decide +kernel
theorem dX8_say_37 : decode cX8_say 37 = .ok (.iload_n 1, 1) := by decide +kernel
theorem dX8_say_38 : decode cX8_say 38 = .ok (.iastore, 1) := by decide +kernel
theorem dX8_say_39 : decode cX8_say 39 = .ok (.aload_n 0, 1) := by decide +kernel
theorem dX8_say_40 : decode cX8_say 40 = .ok (.dup, 1) := by decide +kernel
theorem dX8_say_41 : decode cX8_say 41 = .ok (.getfield 124, 3) := by decide +kernel
theorem dX8_say_44 : decode cX8_say 44 = .ok (.iconst 1, 1) := by decide +kernel
theorem dX8_say_45 : decode cX8_say 45 = .ok (.iadd, 1) := by decide +kernel
theorem dX8_say_46 : decode cX8_say 46 = .ok (.putfield 124, 3) := by decide +kernel
theorem dX8_say_49 : decode cX8_say 49 = .ok (.aload_n 0, 1) := by decide +kernel
theorem dX8_say_50 : decode cX8_say 50 = .ok (.getfield 124, 3) := by decide +kernel
theorem dX8_say_53 : decode cX8_say 53 = .ok (.ireturn, 1) := by decide +kernel
theorem dX8_wipe_0 : decode cX8_wipe 0 = .ok (.aload_n 0, 1) := by decide +kernel
theorem dX8_wipe_1 : decode cX8_wipe 1 = .ok (.getfield 124, 3) := by decide +kernel
theorem dX8_wipe_4 : decode cX8_wipe 4 = .ok (.istore_n 1, 1) := by decide +kernel
theorem dX8_wipe_5 : decode cX8_wipe 5 = .ok (.aload_n 0, 1) := by decide +kernel
theorem dX8_wipe_6 : decode cX8_wipe 6 = .ok (.iconst 0, 1) := by decide +kernel
theorem dX8_wipe_7 : decode cX8_wipe 7 = .ok (.putfield 124, 3) := by decide +kernel
theorem dX8_wipe_10 : decode cX8_wipe 10 = .ok (.iload_n 1, 1) := by decide +kernel
theorem dX8_wipe_11 : decode cX8_wipe 11 = .ok (.ireturn, 1) := by decide +kernel
theorem dX8_isSort_0 : decode cX8_isSort 0 = .ok (.iload_n 0, 1) := by decide +kernel
theorem dX8_isSort_1 : decode cX8_isSort 1 = .ok (.bipush 46, 2) := by decide +kernel
theorem dX8_isSort_3 : decode cX8_isSort 3 = .ok (.if_icmp .eq 39, 3) := by decide +kernel
theorem dX8_isSort_6 : decode cX8_isSort 6 = .ok (.iload_n 0, 1) := by decide +kernel
theorem dX8_isSort_7 : decode cX8_isSort 7 = .ok (.bipush 117, 2) := by decide +kernel
theorem dX8_isSort_9 : decode cX8_isSort 9 = .ok (.if_icmp .eq 33, 3) := by decide +kernel
theorem dX8_isSort_12 : decode cX8_isSort 12 = .ok (.iload_n 0, 1) := by decide +kernel
theorem dX8_isSort_13 : decode cX8_isSort 13 = .ok (.bipush 85, 2) := by decide +kernel
theorem dX8_isSort_15 : decode cX8_isSort 15 = .ok (.if_icmp .eq 27, 3) := by decide +kernel
theorem dX8_isSort_18 : decode cX8_isSort 18 = .ok (.iload_n 0, 1) := by decide +kernel
theorem dX8_isSort_19 : decode cX8_isSort 19 = .ok (.bipush 100, 2) := by decide +kernel
theorem dX8_isSort_21 : decode cX8_isSort 21 = .ok (.if_icmp .eq 21, 3) := by decide +kernel
theorem dX8_isSort_24 : decode cX8_isSort 24 = .ok (.iload_n 0, 1) := by decide +kernel
theorem dX8_isSort_25 : decode cX8_isSort 25 = .ok (.bipush 68, 2) := by decide +kernel
theorem dX8_isSort_27 : decode cX8_isSort 27 = .ok (.if_icmp .eq 15, 3) := by decide +kernel
theorem dX8_isSort_30 : decode cX8_isSort 30 = .ok (.iload_n 0, 1) := by decide +kernel
theorem dX8_isSort_31 : decode cX8_isSort 31 = .ok (.bipush 99, 2) := by decide +kernel
theorem dX8_isSort_33 : decode cX8_isSort 33 = .ok (.if_icmp .eq 9, 3) := by decide +kernel
theorem dX8_isSort_36 : decode cX8_isSort 36 = .ok (.iload_n 0, 1) := by decide +kernel
theorem dX8_isSort_37 : decode cX8_isSort 37 = .ok (.bipush 126, 2) := by decide +kernel
theorem dX8_isSort_39 : decode cX8_isSort 39 = .ok (.if_icmp .ne 7, 3) := by decide +kernel
theorem dX8_isSort_42 : decode cX8_isSort 42 = .ok (.iconst 1, 1) := by decide +kernel
theorem dX8_isSort_43 : decode cX8_isSort 43 = .ok (.goto 4, 3) := by decide +kernel
theorem dX8_isSort_46 : decode cX8_isSort 46 = .ok (.iconst 0, 1) := by decide +kernel
theorem dX8_isSort_47 : decode cX8_isSort 47 = .ok (.ireturn, 1) := by decide +kernel
theorem dX8_faultOfWay_0 : decode cX8_faultOfWay 0 = .ok (.iconst 0, 1) := by decide +kernel
theorem dX8_faultOfWay_1 : decode cX8_faultOfWay 1 = .ok (.istore_n 1, 1) := by decide +kernel
theorem dX8_faultOfWay_2 : decode cX8_faultOfWay 2 = .ok (.iload_n 1, 1) := by decide +kernel
theorem dX8_faultOfWay_3 : decode cX8_faultOfWay 3 = .ok (.aload_n 0, 1) := by decide +kernel
theorem dX8_faultOfWay_4 : decode cX8_faultOfWay 4 = .ok (.getfield 124, 3) := by decide +kernel
theorem dX8_faultOfWay_7 : decode cX8_faultOfWay 7 = .ok (.if_icmp .ge 29, 3) := by decide +kernel
theorem dX8_faultOfWay_10 : decode cX8_faultOfWay 10 = .ok (.iload_n 1, 1) := by decide +kernel
theorem dX8_faultOfWay_11 : decode cX8_faultOfWay 11 = .ok (.bipush 24, 2) := by decide +kernel
theorem dX8_faultOfWay_13 : decode cX8_faultOfWay 13 = .ok (.if_icmp .eq 15, 3) := by decide +kernel
theorem dX8_faultOfWay_16 : decode cX8_faultOfWay 16 = .ok (.aload_n 0, 1) := by decide +kernel
theorem dX8_faultOfWay_17 : decode cX8_faultOfWay 17 = .ok (.getfield 37, 3) := by decide +kernel
theorem dX8_faultOfWay_20 : decode cX8_faultOfWay 20 = .ok (.iload_n 1, 1) := by decide +kernel
theorem dX8_faultOfWay_21 : decode cX8_faultOfWay 21 = .ok (.iaload, 1) := by decide +kernel
theorem dX8_faultOfWay_22 : decode cX8_faultOfWay 22 = .ok (.invokestatic 127, 3) := by decide +kernel
theorem dX8_faultOfWay_25 : decode cX8_faultOfWay 25 = .ok (.ifCond .ne 5, 3) := by decide +kernel
theorem dX8_faultOfWay_28 : decode cX8_faultOfWay 28 = .ok (.iload_n 1, 1) := by decide +kernel
theorem dX8_faultOfWay_29 : decode cX8_faultOfWay 29 = .ok (.ireturn, 1) := by decide +kernel
theorem dX8_faultOfWay_30 : decode cX8_faultOfWay 30 = .ok (.iinc 1 1, 3) := by decide +kernel
theorem dX8_faultOfWay_33 : decode cX8_faultOfWay 33 = .ok (.goto (-31), 3) := by decide +kernel
theorem dX8_faultOfWay_36 : decode cX8_faultOfWay 36 = .ok (.aload_n 0, 1) := by decide +kernel
theorem dX8_faultOfWay_37 : decode cX8_faultOfWay 37 = .ok (.getfield 124, 3) := by decide +kernel
theorem dX8_faultOfWay_40 : decode cX8_faultOfWay 40 = .ok (.ifCond .ne 7, 3) := by decide +kernel
theorem dX8_faultOfWay_43 : decode cX8_faultOfWay 43 = .ok (.iconst 0, 1) := by decide +kernel
theorem dX8_faultOfWay_44 : decode cX8_faultOfWay 44 = .ok (.goto 5, 3) := by decide +kernel
theorem dX8_faultOfWay_47 : decode cX8_faultOfWay 47 = .ok (.bipush (-6), 2) := by decide +kernel
theorem dX8_faultOfWay_49 : decode cX8_faultOfWay 49 = .ok (.ireturn, 1) := by decide +kernel
theorem dX8_faultOfPlan_0 : decode cX8_faultOfPlan 0 = .ok (.iconst 0, 1) := by decide +kernel
theorem dX8_faultOfPlan_1 : decode cX8_faultOfPlan 1 = .ok (.istore_n 1, 1) := by decide +kernel
theorem dX8_faultOfPlan_2 : decode cX8_faultOfPlan 2 = .ok (.iconst 0, 1) := by decide +kernel
theorem dX8_faultOfPlan_3 : decode cX8_faultOfPlan 3 = .ok (.istore_n 2, 1) := by decide +kernel
theorem dX8_faultOfPlan_4 : decode cX8_faultOfPlan 4 = .ok (.iconst 0, 1) := by decide +kernel
theorem dX8_faultOfPlan_5 : decode cX8_faultOfPlan 5 = .ok (.istore_n 3, 1) := by decide +kernel
theorem dX8_faultOfPlan_6 : decode cX8_faultOfPlan 6 = .ok (.iload_n 3, 1) := by decide +kernel
theorem dX8_faultOfPlan_7 : decode cX8_faultOfPlan 7 = .ok (.aload_n 0, 1) := by decide +kernel
theorem dX8_faultOfPlan_8 : decode cX8_faultOfPlan 8 = .ok (.getfield 124, 3) := by decide +kernel
theorem dX8_faultOfPlan_11 : decode cX8_faultOfPlan 11 = .ok (.if_icmp .ge 219, 3) := by decide +kernel
theorem dX8_faultOfPlan_14 : decode cX8_faultOfPlan 14 = .ok (.aload_n 0, 1) := by decide +kernel
theorem dX8_faultOfPlan_15 : decode cX8_faultOfPlan 15 = .ok (.getfield 37, 3) := by decide +kernel
theorem dX8_faultOfPlan_18 : decode cX8_faultOfPlan 18 = .ok (.iload_n 3, 1) := by decide +kernel
theorem dX8_faultOfPlan_19 : decode cX8_faultOfPlan 19 = .ok (.iaload, 1) := by decide +kernel
theorem dX8_faultOfPlan_20 : decode cX8_faultOfPlan 20 = .ok (.istore 4, 2) := by decide +kernel
theorem dX8_faultOfPlan_22 : decode cX8_faultOfPlan 22 = .ok (.iload 4, 2) := by decide +kernel
theorem dX8_faultOfPlan_24 : decode cX8_faultOfPlan 24 = .ok (.i2l, 1) := by decide +kernel
theorem dX8_faultOfPlan_25 : decode cX8_faultOfPlan 25 = .ok (.ldc2_w 130, 3) := by decide +kernel
theorem dX8_faultOfPlan_28 : decode cX8_faultOfPlan 28 = .ok (.ldc2_w 132, 3) := by decide +kernel
theorem dX8_faultOfPlan_31 : decode cX8_faultOfPlan 31 = .ok (.invokestatic 86, 3) := by decide +kernel
theorem dX8_faultOfPlan_34 : decode cX8_faultOfPlan 34 = .ok (.istore 5, 2) := by decide +kernel
theorem dX8_faultOfPlan_36 : decode cX8_faultOfPlan 36 = .ok (.iload_n 1, 1) := by decide +kernel
theorem dX8_faultOfPlan_37 : decode cX8_faultOfPlan 37 = .ok (.aload_n 0, 1) := by decide +kernel
theorem dX8_faultOfPlan_38 : decode cX8_faultOfPlan 38 = .ok (.getfield 81, 3) := by decide +kernel
theorem dX8_faultOfPlan_41 : decode cX8_faultOfPlan 41 = .ok (.if_icmp .ge 54, 3) := by decide +kernel
theorem dX8_faultOfPlan_44 : decode cX8_faultOfPlan 44 = .ok (.iload_n 2, 1) := by decide +kernel
theorem dX8_faultOfPlan_45 : decode cX8_faultOfPlan 45 = .ok (.ifCond .ne 18, 3) := by decide +kernel
theorem dX8_faultOfPlan_48 : decode cX8_faultOfPlan 48 = .ok (.iload 4, 2) := by decide +kernel
theorem dX8_faultOfPlan_50 : decode cX8_faultOfPlan 50 = .ok (.bipush 82, 2) := by decide +kernel
theorem dX8_faultOfPlan_52 : decode cX8_faultOfPlan 52 = .ok (.if_icmp .eq 39, 3) := by decide +kernel
theorem dX8_faultOfPlan_55 : decode cX8_faultOfPlan 55 = .ok (.iload 5, 2) := by decide +kernel
theorem dX8_faultOfPlan_57 : decode cX8_faultOfPlan 57 = .ok (.ifCond .eq 38, 3) := by decide +kernel
theorem dX8_faultOfPlan_60 : decode cX8_faultOfPlan 60 = .ok (.goto 31, 3) := by decide +kernel
theorem dX8_faultOfPlan_63 : decode cX8_faultOfPlan 63 = .ok (.iload_n 2, 1) := by decide +kernel
theorem dX8_faultOfPlan_64 : decode cX8_faultOfPlan 64 = .ok (.iconst 3, 1) := by decide +kernel
theorem dX8_faultOfPlan_65 : decode cX8_faultOfPlan 65 = .ok (.if_icmp .ge 11, 3) := by decide +kernel
theorem dX8_faultOfPlan_68 : decode cX8_faultOfPlan 68 = .ok (.iload 5, 2) := by decide +kernel
theorem dX8_faultOfPlan_70 : decode cX8_faultOfPlan 70 = .ok (.ifCond .eq 25, 3) := by decide +kernel
theorem dX8_faultOfPlan_73 : decode cX8_faultOfPlan 73 = .ok (.goto 18, 3) := by decide +kernel
theorem dX8_faultOfPlan_76 : decode cX8_faultOfPlan 76 = .ok (.iload 4, 2) := by decide +kernel
theorem dX8_faultOfPlan_78 : decode cX8_faultOfPlan 78 = .ok (.i2l, 1) := by decide +kernel
theorem dX8_faultOfPlan_79 : decode cX8_faultOfPlan 79 = .ok (.ldc2_w 134, 3) := by decide +kernel
theorem dX8_faultOfPlan_82 : decode cX8_faultOfPlan 82 = .ok (.ldc2_w 136, 3) := by decide +kernel
theorem dX8_faultOfPlan_85 : decode cX8_faultOfPlan 85 = .ok (.invokestatic 86, 3) := by decide +kernel
theorem dX8_faultOfPlan_88 : decode cX8_faultOfPlan 88 = .ok (.ifCond .eq 7, 3) := by decide +kernel
theorem dX8_faultOfPlan_91 : decode cX8_faultOfPlan 91 = .ok (.iconst 1, 1) := by decide +kernel
theorem dX8_faultOfPlan_92 : decode cX8_faultOfPlan 92 = .ok (.goto 4, 3) := by decide +kernel
theorem dX8_faultOfPlan_95 : decode cX8_faultOfPlan 95 = .ok (.iconst 0, 1) := by decide +kernel
theorem dX8_faultOfPlan_96 : decode cX8_faultOfPlan 96 = .ok (.istore 6, 2) := by decide +kernel
theorem dX8_faultOfPlan_98 : decode cX8_faultOfPlan 98 = .ok (.iload 6, 2) := by decide +kernel
theorem dX8_faultOfPlan_100 : decode cX8_faultOfPlan 100 = .ok (.ifCond .ne 5, 3) := by decide +kernel
theorem dX8_faultOfPlan_103 : decode cX8_faultOfPlan 103 = .ok (.iload_n 3, 1) := by decide +kernel
theorem dX8_faultOfPlan_104 : decode cX8_faultOfPlan 104 = .ok (.ireturn, 1) := by decide +kernel
theorem dX8_faultOfPlan_105 : decode cX8_faultOfPlan 105 = .ok (.iload_n 2, 1) := by decide +kernel
theorem dX8_faultOfPlan_106 : decode cX8_faultOfPlan 106 = .ok (.ifCond .ne 21, 3) := by decide +kernel
theorem dX8_faultOfPlan_109 : decode cX8_faultOfPlan 109 = .ok (.aload_n 0, 1) := by decide +kernel
theorem dX8_faultOfPlan_110 : decode cX8_faultOfPlan 110 = .ok (.getfield 40, 3) := by decide +kernel
theorem dX8_faultOfPlan_113 : decode cX8_faultOfPlan 113 = .ok (.iload_n 1, 1) := by decide +kernel
theorem dX8_faultOfPlan_114 : decode cX8_faultOfPlan 114 = .ok (.iload 4, 2) := by decide +kernel
theorem dX8_faultOfPlan_116 : decode cX8_faultOfPlan 116 = .ok (.bipush 82, 2) := by decide +kernel
theorem dX8_faultOfPlan_118 : decode cX8_faultOfPlan 118 = .ok (.if_icmp .ne 7, 3) := by decide +kernel
theorem dX8_faultOfPlan_121 : decode cX8_faultOfPlan 121 = .ok (.iconst 1, 1) := by decide +kernel
theorem dX8_faultOfPlan_122 : decode cX8_faultOfPlan 122 = .ok (.goto 4, 3) := by decide +kernel
theorem dX8_faultOfPlan_125 : decode cX8_faultOfPlan 125 = .ok (.iconst 0, 1) := by decide +kernel
theorem dX8_faultOfPlan_126 : decode cX8_faultOfPlan 126 = .ok (.iastore, 1) := by decide +kernel
theorem dX8_faultOfPlan_127 : decode cX8_faultOfPlan 127 = .ok (.iload_n 2, 1) := by decide +kernel
theorem dX8_faultOfPlan_128 : decode cX8_faultOfPlan 128 = .ok (.iconst 2, 1) := by decide +kernel
theorem dX8_faultOfPlan_129 : decode cX8_faultOfPlan 129 = .ok (.if_icmp .ge 22, 3) := by decide +kernel
theorem dX8_faultOfPlan_132 : decode cX8_faultOfPlan 132 = .ok (.iload 5, 2) := by decide +kernel
theorem dX8_faultOfPlan_134 : decode cX8_faultOfPlan 134 = .ok (.ifCond .eq 17, 3) := by decide +kernel
theorem dX8_faultOfPlan_137 : decode cX8_faultOfPlan 137 = .ok (.aload_n 0, 1) := by decide +kernel
theorem dX8_faultOfPlan_138 : decode cX8_faultOfPlan 138 = .ok (.getfield 43, 3) := by decide +kernel
theorem dX8_faultOfPlan_141 : decode cX8_faultOfPlan 141 = .ok (.iload_n 1, 1) := by decide +kernel
theorem dX8_faultOfPlan_142 : decode cX8_faultOfPlan 142 = .ok (.iload 4, 2) := by decide +kernel
theorem dX8_faultOfPlan_144 : decode cX8_faultOfPlan 144 = .ok (.bipush 48, 2) := by decide +kernel
theorem dX8_faultOfPlan_146 : decode cX8_faultOfPlan 146 = .ok (.isub, 1) := by decide +kernel
theorem dX8_faultOfPlan_147 : decode cX8_faultOfPlan 147 = .ok (.iastore, 1) := by decide +kernel
theorem dX8_faultOfPlan_148 : decode cX8_faultOfPlan 148 = .ok (.goto 43, 3) := by decide +kernel
theorem dX8_faultOfPlan_151 : decode cX8_faultOfPlan 151 = .ok (.iload_n 2, 1) := by decide +kernel
theorem dX8_faultOfPlan_152 : decode cX8_faultOfPlan 152 = .ok (.iconst 2, 1) := by decide +kernel
theorem dX8_faultOfPlan_153 : decode cX8_faultOfPlan 153 = .ok (.if_icmp .ne 17, 3) := by decide +kernel
theorem dX8_faultOfPlan_156 : decode cX8_faultOfPlan 156 = .ok (.aload_n 0, 1) := by decide +kernel
theorem dX8_faultOfPlan_157 : decode cX8_faultOfPlan 157 = .ok (.getfield 46, 3) := by decide +kernel
theorem dX8_faultOfPlan_160 : decode cX8_faultOfPlan 160 = .ok (.iload_n 1, 1) := by decide +kernel
theorem dX8_faultOfPlan_161 : decode cX8_faultOfPlan 161 = .ok (.iload 4, 2) := by decide +kernel
theorem dX8_faultOfPlan_163 : decode cX8_faultOfPlan 163 = .ok (.bipush 48, 2) := by decide +kernel
theorem dX8_faultOfPlan_165 : decode cX8_faultOfPlan 165 = .ok (.isub, 1) := by decide +kernel
theorem dX8_faultOfPlan_166 : decode cX8_faultOfPlan 166 = .ok (.iastore, 1) := by decide +kernel
theorem dX8_faultOfPlan_167 : decode cX8_faultOfPlan 167 = .ok (.goto 24, 3) := by decide +kernel
theorem dX8_faultOfPlan_170 : decode cX8_faultOfPlan 170 = .ok (.iload_n 2, 1) := by decide +kernel
theorem dX8_faultOfPlan_171 : decode cX8_faultOfPlan 171 = .ok (.iconst 3, 1) := by decide +kernel
theorem dX8_faultOfPlan_172 : decode cX8_faultOfPlan 172 = .ok (.if_icmp .ne 19, 3) := by decide +kernel
theorem dX8_faultOfPlan_175 : decode cX8_faultOfPlan 175 = .ok (.aload_n 0, 1) := by decide +kernel
theorem dX8_faultOfPlan_176 : decode cX8_faultOfPlan 176 = .ok (.getfield 49, 3) := by decide +kernel
theorem dX8_faultOfPlan_179 : decode cX8_faultOfPlan 179 = .ok (.iload_n 1, 1) := by decide +kernel
theorem dX8_faultOfPlan_180 : decode cX8_faultOfPlan 180 = .ok (.iload 4, 2) := by decide +kernel
theorem dX8_faultOfPlan_182 : decode cX8_faultOfPlan 182 = .ok (.bipush 97, 2) := by decide +kernel
theorem dX8_faultOfPlan_184 : decode cX8_faultOfPlan 184 = .ok (.isub, 1) := by decide +kernel
theorem dX8_faultOfPlan_185 : decode cX8_faultOfPlan 185 = .ok (.iconst 4, 1) := by decide +kernel
theorem dX8_faultOfPlan_186 : decode cX8_faultOfPlan 186 = .ok (.iadd, 1) := by decide +kernel
theorem dX8_faultOfPlan_187 : decode cX8_faultOfPlan 187 = .ok (.iastore, 1) := by decide +kernel
theorem dX8_faultOfPlan_188 : decode cX8_faultOfPlan 188 = .ok (.iinc 1 1, 3) := by decide +kernel
theorem dX8_faultOfPlan_191 : decode cX8_faultOfPlan 191 = .ok (.iload_n 2, 1) := by decide +kernel
theorem dX8_faultOfPlan_192 : decode cX8_faultOfPlan 192 = .ok (.iconst 3, 1) := by decide +kernel
theorem dX8_faultOfPlan_193 : decode cX8_faultOfPlan 193 = .ok (.if_icmp .ne 7, 3) := by decide +kernel
theorem dX8_faultOfPlan_196 : decode cX8_faultOfPlan 196 = .ok (.iconst 0, 1) := by decide +kernel
theorem dX8_faultOfPlan_197 : decode cX8_faultOfPlan 197 = .ok (.goto 26, 3) := by decide +kernel
theorem dX8_faultOfPlan_200 : decode cX8_faultOfPlan 200 = .ok (.iload_n 2, 1) := by decide +kernel
theorem dX8_faultOfPlan_201 : decode cX8_faultOfPlan 201 = .ok (.ifCond .ne 12, 3) := by decide +kernel
theorem dX8_faultOfPlan_204 : decode cX8_faultOfPlan 204 = .ok (.iload 5, 2) := by decide +kernel
theorem dX8_faultOfPlan_206 : decode cX8_faultOfPlan 206 = .ok (.ifCond .ne 7, 3) := by decide +kernel
theorem dX8_faultOfPlan_209 : decode cX8_faultOfPlan 209 = .ok (.iconst 1, 1) := by decide +kernel
theorem dX8_faultOfPlan_210 : decode cX8_faultOfPlan 210 = .ok (.goto 13, 3) := by decide +kernel
theorem dX8_faultOfPlan_213 : decode cX8_faultOfPlan 213 = .ok (.iload_n 2, 1) := by decide +kernel
theorem dX8_faultOfPlan_214 : decode cX8_faultOfPlan 214 = .ok (.iconst 2, 1) := by decide +kernel
theorem dX8_faultOfPlan_215 : decode cX8_faultOfPlan 215 = .ok (.if_icmp .ge 7, 3) := by decide +kernel
theorem dX8_faultOfPlan_218 : decode cX8_faultOfPlan 218 = .ok (.iconst 2, 1) := by decide +kernel
theorem dX8_faultOfPlan_219 : decode cX8_faultOfPlan 219 = .ok (.goto 4, 3) := by decide +kernel
theorem dX8_faultOfPlan_222 : decode cX8_faultOfPlan 222 = .ok (.iconst 3, 1) := by decide +kernel
theorem dX8_faultOfPlan_223 : decode cX8_faultOfPlan 223 = .ok (.istore_n 2, 1) := by decide +kernel
theorem dX8_faultOfPlan_224 : decode cX8_faultOfPlan 224 = .ok (.iinc 3 1, 3) := by decide +kernel
theorem dX8_faultOfPlan_227 : decode cX8_faultOfPlan 227 = .ok (.goto (-221), 3) := by decide +kernel
theorem dX8_faultOfPlan_230 : decode cX8_faultOfPlan 230 = .ok (.iload_n 1, 1) := by decide +kernel
theorem dX8_faultOfPlan_231 : decode cX8_faultOfPlan 231 = .ok (.aload_n 0, 1) := by decide +kernel
theorem dX8_faultOfPlan_232 : decode cX8_faultOfPlan 232 = .ok (.getfield 81, 3) := by decide +kernel
theorem dX8_faultOfPlan_235 : decode cX8_faultOfPlan 235 = .ok (.if_icmp .ge 10, 3) := by decide +kernel
theorem dX8_faultOfPlan_238 : decode cX8_faultOfPlan 238 = .ok (.aload_n 0, 1) := by decide +kernel
theorem dX8_faultOfPlan_239 : decode cX8_faultOfPlan 239 = .ok (.getfield 124, 3) := by decide +kernel
theorem dX8_faultOfPlan_242 : decode cX8_faultOfPlan 242 = .ok (.goto 5, 3) := by decide +kernel
theorem dX8_faultOfPlan_245 : decode cX8_faultOfPlan 245 = .ok (.bipush (-6), 2) := by decide +kernel
theorem dX8_faultOfPlan_247 : decode cX8_faultOfPlan 247 = .ok (.ireturn, 1) := by decide +kernel
theorem dX8_fault_0 : decode cX8_fault 0 = .ok (.iload_n 1, 1) := by decide +kernel
theorem dX8_fault_1 : decode cX8_fault 1 = .ok (.ifCond .ne 10, 3) := by decide +kernel
theorem dX8_fault_4 : decode cX8_fault 4 = .ok (.aload_n 0, 1) := by decide +kernel
theorem dX8_fault_5 : decode cX8_fault 5 = .ok (.invokevirtual 138, 3) := by decide +kernel
theorem dX8_fault_8 : decode cX8_fault 8 = .ok (.goto 17, 3) := by decide +kernel
theorem dX8_fault_11 : decode cX8_fault 11 = .ok (.iload_n 1, 1) := by decide +kernel
theorem dX8_fault_12 : decode cX8_fault 12 = .ok (.iconst 1, 1) := by decide +kernel
theorem dX8_fault_13 : decode cX8_fault 13 = .ok (.if_icmp .ne 10, 3) := by decide +kernel
theorem dX8_fault_16 : decode cX8_fault 16 = .ok (.aload_n 0, 1) := by decide +kernel
theorem dX8_fault_17 : decode cX8_fault 17 = .ok (.invokevirtual 142, 3) := by decide +kernel
theorem dX8_fault_20 : decode cX8_fault 20 = .ok (.goto 5, 3) := by decide +kernel
theorem dX8_fault_23 : decode cX8_fault 23 = .ok (.bipush (-2), 2) := by decide +kernel
theorem dX8_fault_25 : decode cX8_fault 25 = .ok (.ireturn, 1) := by decide +kernel
theorem dX8_way_0 : decode cX8_way 0 = .ok (.aload_n 0, 1) := by decide +kernel
theorem dX8_way_1 : decode cX8_way 1 = .ok (.invokevirtual 138, 3) := by decide +kernel
theorem dX8_way_4 : decode cX8_way 4 = .ok (.ifCond .lt 6, 3) := by decide +kernel
theorem dX8_way_7 : decode cX8_way 7 = .ok (.bipush (-5), 2) := by decide +kernel
theorem dX8_way_9 : decode cX8_way 9 = .ok (.ireturn, 1) := by decide +kernel
theorem dX8_way_10 : decode cX8_way 10 = .ok (.iconst 0, 1) := by decide +kernel
theorem dX8_way_11 : decode cX8_way 11 = .ok (.istore_n 1, 1) := by decide +kernel
theorem dX8_way_12 : decode cX8_way 12 = .ok (.iload_n 1, 1) := by decide +kernel
theorem dX8_way_13 : decode cX8_way 13 = .ok (.aload_n 0, 1) := by decide +kernel
theorem dX8_way_14 : decode cX8_way 14 = .ok (.getfield 124, 3) := by decide +kernel
theorem dX8_way_17 : decode cX8_way 17 = .ok (.if_icmp .ge 21, 3) := by decide +kernel
theorem dX8_way_20 : decode cX8_way 20 = .ok (.aload_n 0, 1) := by decide +kernel
theorem dX8_way_21 : decode cX8_way 21 = .ok (.getfield 22, 3) := by decide +kernel
theorem dX8_way_24 : decode cX8_way 24 = .ok (.iload_n 1, 1) := by decide +kernel
theorem dX8_way_25 : decode cX8_way 25 = .ok (.aload_n 0, 1) := by decide +kernel
theorem dX8_way_26 : decode cX8_way 26 = .ok (.getfield 37, 3) := by decide +kernel
theorem dX8_way_29 : decode cX8_way 29 = .ok (.iload_n 1, 1) := by decide +kernel
theorem dX8_way_30 : decode cX8_way 30 = .ok (.iaload, 1) := by decide +kernel
theorem dX8_way_31 : decode cX8_way 31 = .ok (.iastore, 1) := by decide +kernel
theorem dX8_way_32 : decode cX8_way 32 = .ok (.iinc 1 1, 3) := by decide +kernel
theorem dX8_way_35 : decode cX8_way 35 = .ok (.goto (-23), 3) := by decide +kernel
theorem dX8_way_38 : decode cX8_way 38 = .ok (.aload_n 0, 1) := by decide +kernel
theorem dX8_way_39 : decode cX8_way 39 = .ok (.aload_n 0, 1) := by decide +kernel
theorem dX8_way_40 : decode cX8_way 40 = .ok (.getfield 124, 3) := by decide +kernel
theorem dX8_way_43 : decode cX8_way 43 = .ok (.putfield 81, 3) := by decide +kernel
theorem dX8_way_46 : decode cX8_way 46 = .ok (.aload_n 0, 1) := by decide +kernel
theorem dX8_way_47 : decode cX8_way 47 = .ok (.iconst 0, 1) := by decide +kernel
theorem dX8_way_48 : decode cX8_way 48 = .ok (.putfield 124, 3) := by decide +kernel
theorem dX8_way_51 : decode cX8_way 51 = .ok (.aload_n 0, 1) := by decide +kernel
theorem dX8_way_52 : decode cX8_way 52 = .ok (.getfield 81, 3) := by decide +kernel
theorem dX8_way_55 : decode cX8_way 55 = .ok (.ireturn, 1) := by decide +kernel
theorem dX8_isBeat_0 : decode cX8_isBeat 0 = .ok (.iload_n 0, 1) := by decide +kernel
theorem dX8_isBeat_1 : decode cX8_isBeat 1 = .ok (.i2l, 1) := by decide +kernel
theorem dX8_isBeat_2 : decode cX8_isBeat 2 = .ok (.ldc2_w 145, 3) := by decide +kernel
theorem dX8_isBeat_5 : decode cX8_isBeat 5 = .ok (.ldc2_w 147, 3) := by decide +kernel
theorem dX8_isBeat_8 : decode cX8_isBeat 8 = .ok (.invokestatic 86, 3) := by decide +kernel
theorem dX8_isBeat_11 : decode cX8_isBeat 11 = .ok (.ireturn, 1) := by decide +kernel
theorem dX8_isEffort_0 : decode cX8_isEffort 0 = .ok (.iload_n 0, 1) := by decide +kernel
theorem dX8_isEffort_1 : decode cX8_isEffort 1 = .ok (.i2l, 1) := by decide +kernel
theorem dX8_isEffort_2 : decode cX8_isEffort 2 = .ok (.lconst 0, 1) := by decide +kernel
theorem dX8_isEffort_3 : decode cX8_isEffort 3 = .ok (.ldc2_w 145, 3) := by decide +kernel
theorem dX8_isEffort_6 : decode cX8_isEffort 6 = .ok (.invokestatic 86, 3) := by decide +kernel
theorem dX8_isEffort_9 : decode cX8_isEffort 9 = .ok (.ireturn, 1) := by decide +kernel
theorem dX8_treadOf_0 : decode cX8_treadOf 0 = .ok (.iload_n 3, 1) := by decide +kernel
theorem dX8_treadOf_1 : decode cX8_treadOf 1 = .ok (.aload_n 0, 1) := by decide +kernel
theorem dX8_treadOf_2 : decode cX8_treadOf 2 = .ok (.getfield 13, 3) := by decide +kernel
theorem dX8_treadOf_5 : decode cX8_treadOf 5 = .ok (.iload_n 1, 1) := by decide +kernel
theorem dX8_treadOf_6 : decode cX8_treadOf 6 = .ok (.iaload, 1) := by decide +kernel
theorem dX8_treadOf_7 : decode cX8_treadOf 7 = .ok (.isub, 1) := by decide +kernel
theorem dX8_treadOf_8 : decode cX8_treadOf 8 = .ok (.istore 4, 2) := by decide +kernel
theorem dX8_treadOf_10 : decode cX8_treadOf 10 = .ok (.iload_n 2, 1) := by decide +kernel
theorem dX8_treadOf_11 : decode cX8_treadOf 11 = .ok (.aload_n 0, 1) := by decide +kernel
theorem dX8_treadOf_12 : decode cX8_treadOf 12 = .ok (.getfield 7, 3) := by decide +kernel
theorem dX8_treadOf_15 : decode cX8_treadOf 15 = .ok (.iload_n 1, 1) := by decide +kernel
theorem dX8_treadOf_16 : decode cX8_treadOf 16 = .ok (.iaload, 1) := by decide +kernel
theorem dX8_treadOf_17 : decode cX8_treadOf 17 = .ok (.imul, 1) := by decide +kernel
theorem dX8_treadOf_18 : decode cX8_treadOf 18 = .ok (.bipush 10, 2) := by decide +kernel
theorem dX8_treadOf_20 : decode cX8_treadOf 20 = .ok (.iload 4, 2) := by decide +kernel
theorem dX8_treadOf_22 : decode cX8_treadOf 22 = .ok (.ifCond .ge 9, 3) := by decide +kernel
theorem dX8_treadOf_25 : decode cX8_treadOf 25 = .ok (.iload 4, 2) := by decide +kernel
theorem dX8_treadOf_27 : decode cX8_treadOf 27 = .ok (.ineg, 1) := by decide +kernel
theorem dX8_treadOf_28 : decode cX8_treadOf 28 = .ok (.goto 5, 3) := by decide +kernel
theorem dX8_treadOf_31 : decode cX8_treadOf 31 = .ok (.iload 4, 2) := by decide +kernel
theorem dX8_treadOf_33 : decode cX8_treadOf 33 = .ok (.isub, 1) := by decide +kernel
theorem dX8_treadOf_34 : decode cX8_treadOf 34 = .ok (.imul, 1) := by decide +kernel
theorem dX8_treadOf_35 : decode cX8_treadOf 35 = .ok (.bipush 10, 2) := by decide +kernel
theorem dX8_treadOf_37 : decode cX8_treadOf 37 = .ok (.idiv, 1) := by decide +kernel
theorem dX8_treadOf_38 : decode cX8_treadOf 38 = .ok (.ireturn, 1) := by decide +kernel
theorem dX8_tread_0 : decode cX8_tread 0 = .ok (.aload_n 0, 1) := by decide +kernel
theorem dX8_tread_1 : decode cX8_tread 1 = .ok (.iload_n 1, 1) := by decide +kernel
theorem dX8_tread_2 : decode cX8_tread 2 = .ok (.invokevirtual 110, 3) := by decide +kernel
theorem dX8_tread_5 : decode cX8_tread 5 = .ok (.ifCond .ne 5, 3) := by decide +kernel
theorem dX8_tread_8 : decode cX8_tread 8 = .ok (.iconst (-1), 1) := by decide +kernel
theorem dX8_tread_9 : decode cX8_tread 9 = .ok (.ireturn, 1) := by decide +kernel
theorem dX8_tread_10 : decode cX8_tread 10 = .ok (.iload_n 2, 1) := by decide +kernel
theorem dX8_tread_11 : decode cX8_tread 11 = .ok (.invokestatic 149, 3) := by decide +kernel
theorem dX8_tread_14 : decode cX8_tread 14 = .ok (.ifCond .eq 20, 3) := by decide +kernel
theorem dX8_tread_17 : decode cX8_tread 17 = .ok (.iload_n 3, 1) := by decide +kernel
theorem dX8_tread_18 : decode cX8_tread 18 = .ok (.invokestatic 99, 3) := by decide +kernel
theorem dX8_tread_21 : decode cX8_tread 21 = .ok (.ifCond .eq 13, 3) := by decide +kernel
theorem dX8_tread_24 : decode cX8_tread 24 = .ok (.aload_n 0, 1) := by decide +kernel
theorem dX8_tread_25 : decode cX8_tread 25 = .ok (.iload_n 1, 1) := by decide +kernel
theorem dX8_tread_26 : decode cX8_tread 26 = .ok (.iload_n 2, 1) := by decide +kernel
theorem dX8_tread_27 : decode cX8_tread 27 = .ok (.iload_n 3, 1) := by decide +kernel
theorem dX8_tread_28 : decode cX8_tread 28 = .ok (.invokevirtual 152, 3) := by decide +kernel
theorem dX8_tread_31 : decode cX8_tread 31 = .ok (.goto 5, 3) := by decide +kernel
theorem dX8_tread_34 : decode cX8_tread 34 = .ok (.bipush (-2), 2) := by decide +kernel
theorem dX8_tread_36 : decode cX8_tread 36 = .ok (.ireturn, 1) := by decide +kernel
theorem dX8_hard_0 : decode cX8_hard 0 = .ok (.iload_n 0, 1) := by decide +kernel
theorem dX8_hard_1 : decode cX8_hard 1 = .ok (.bipush 117, 2) := by decide +kernel
theorem dX8_hard_3 : decode cX8_hard 3 = .ok (.if_icmp .ne 8, 3) := by decide +kernel
theorem dX8_hard_6 : decode cX8_hard 6 = .ok (.bipush 120, 2) := by decide +kernel
theorem dX8_hard_8 : decode cX8_hard 8 = .ok (.goto 39, 3) := by decide +kernel
theorem dX8_hard_11 : decode cX8_hard 11 = .ok (.iload_n 0, 1) := by decide +kernel
theorem dX8_hard_12 : decode cX8_hard 12 = .ok (.bipush 85, 2) := by decide +kernel
theorem dX8_hard_14 : decode cX8_hard 14 = .ok (.if_icmp .ne 9, 3) := by decide +kernel
theorem dX8_hard_17 : decode cX8_hard 17 = .ok (.sipush 240, 3) := by decide +kernel
theorem dX8_hard_20 : decode cX8_hard 20 = .ok (.goto 27, 3) := by decide +kernel
theorem dX8_hard_23 : decode cX8_hard 23 = .ok (.iload_n 0, 1) := by decide +kernel
theorem dX8_hard_24 : decode cX8_hard 24 = .ok (.bipush 100, 2) := by decide +kernel
theorem dX8_hard_26 : decode cX8_hard 26 = .ok (.if_icmp .ne 8, 3) := by decide +kernel
theorem dX8_hard_29 : decode cX8_hard 29 = .ok (.bipush 30, 2) := by decide +kernel
theorem dX8_hard_31 : decode cX8_hard 31 = .ok (.goto 16, 3) := by decide +kernel
theorem dX8_hard_34 : decode cX8_hard 34 = .ok (.iload_n 0, 1) := by decide +kernel
theorem dX8_hard_35 : decode cX8_hard 35 = .ok (.bipush 68, 2) := by decide +kernel
theorem dX8_hard_37 : decode cX8_hard 37 = .ok (.if_icmp .ne 8, 3) := by decide +kernel
theorem dX8_hard_40 : decode cX8_hard 40 = .ok (.bipush 20, 2) := by decide +kernel
theorem dX8_hard_42 : decode cX8_hard 42 = .ok (.goto 5, 3) := by decide +kernel
theorem dX8_hard_45 : decode cX8_hard 45 = .ok (.bipush 60, 2) := by decide +kernel
theorem dX8_hard_47 : decode cX8_hard 47 = .ok (.ireturn, 1) := by decide +kernel
theorem dX8_seconds_0 : decode cX8_seconds 0 = .ok (.iload_n 0, 1) := by decide +kernel
theorem dX8_seconds_1 : decode cX8_seconds 1 = .ok (.iconst 1, 1) := by decide +kernel
theorem dX8_seconds_2 : decode cX8_seconds 2 = .ok (.iload_n 1, 1) := by decide +kernel
theorem dX8_seconds_3 : decode cX8_seconds 3 = .ok (.iadd, 1) := by decide +kernel
theorem dX8_seconds_4 : decode cX8_seconds 4 = .ok (.idiv, 1) := by decide +kernel
theorem dX8_seconds_5 : decode cX8_seconds 5 = .ok (.iconst 1, 1) := by decide +kernel
theorem dX8_seconds_6 : decode cX8_seconds 6 = .ok (.iadd, 1) := by decide +kernel
theorem dX8_seconds_7 : decode cX8_seconds 7 = .ok (.ireturn, 1) := by decide +kernel
theorem dX8_heated_0 : decode cX8_heated 0 = .ok (.iload_n 1, 1) := by decide +kernel
theorem dX8_heated_1 : decode cX8_heated 1 = .ok (.bipush 100, 2) := by decide +kernel
theorem dX8_heated_3 : decode cX8_heated 3 = .ok (.if_icmp .ne 9, 3) := by decide +kernel
theorem dX8_heated_6 : decode cX8_heated 6 = .ok (.iload_n 0, 1) := by decide +kernel
theorem dX8_heated_7 : decode cX8_heated 7 = .ok (.iconst 2, 1) := by decide +kernel
theorem dX8_heated_8 : decode cX8_heated 8 = .ok (.iadd, 1) := by decide +kernel
theorem dX8_heated_9 : decode cX8_heated 9 = .ok (.goto 18, 3) := by decide +kernel
theorem dX8_heated_12 : decode cX8_heated 12 = .ok (.iload_n 1, 1) := by decide +kernel
theorem dX8_heated_13 : decode cX8_heated 13 = .ok (.bipush 68, 2) := by decide +kernel
theorem dX8_heated_15 : decode cX8_heated 15 = .ok (.if_icmp .ne 9, 3) := by decide +kernel
theorem dX8_heated_18 : decode cX8_heated 18 = .ok (.iload_n 0, 1) := by decide +kernel
theorem dX8_heated_19 : decode cX8_heated 19 = .ok (.iconst 5, 1) := by decide +kernel
theorem dX8_heated_20 : decode cX8_heated 20 = .ok (.iadd, 1) := by decide +kernel
theorem dX8_heated_21 : decode cX8_heated 21 = .ok (.goto 6, 3) := by decide +kernel
theorem dX8_heated_24 : decode cX8_heated 24 = .ok (.iload_n 0, 1) := by decide +kernel
theorem dX8_heated_25 : decode cX8_heated 25 = .ok (.iconst 1, 1) := by decide +kernel
theorem dX8_heated_26 : decode cX8_heated 26 = .ok (.isub, 1) := by decide +kernel
theorem dX8_heated_27 : decode cX8_heated 27 = .ok (.istore_n 2, 1) := by decide +kernel
theorem dX8_heated_28 : decode cX8_heated 28 = .ok (.iload_n 2, 1) := by decide +kernel
theorem dX8_heated_29 : decode cX8_heated 29 = .ok (.ifCond .ge 7, 3) := by decide +kernel
theorem dX8_heated_32 : decode cX8_heated 32 = .ok (.iconst 0, 1) := by decide +kernel
theorem dX8_heated_33 : decode cX8_heated 33 = .ok (.goto 4, 3) := by decide +kernel
theorem dX8_heated_36 : decode cX8_heated 36 = .ok (.iload_n 2, 1) := by decide +kernel
theorem dX8_heated_37 : decode cX8_heated 37 = .ok (.ireturn, 1) := by decide +kernel
theorem dX8_winded_0 : decode cX8_winded 0 = .ok (.iload_n 2, 1) := by decide +kernel
theorem dX8_winded_1 : decode cX8_winded 1 = .ok (.iload_n 3, 1) := by decide +kernel
theorem dX8_winded_2 : decode cX8_winded 2 = .ok (.isub, 1) := by decide +kernel
theorem dX8_winded_3 : decode cX8_winded 3 = .ok (.iconst 2, 1) := by decide +kernel
theorem dX8_winded_4 : decode cX8_winded 4 = .ok (.iadd, 1) := by decide +kernel
theorem dX8_winded_5 : decode cX8_winded 5 = .ok (.istore 4, 2) := by decide +kernel
theorem dX8_winded_7 : decode cX8_winded 7 = .ok (.iload 4, 2) := by decide +kernel
theorem dX8_winded_9 : decode cX8_winded 9 = .ok (.aload_n 0, 1) := by decide +kernel
theorem dX8_winded_10 : decode cX8_winded 10 = .ok (.getfield 16, 3) := by decide +kernel
theorem dX8_winded_13 : decode cX8_winded 13 = .ok (.iload_n 1, 1) := by decide +kernel
theorem dX8_winded_14 : decode cX8_winded 14 = .ok (.iaload, 1) := by decide +kernel
theorem dX8_winded_15 : decode cX8_winded 15 = .ok (.if_icmp .ge 8, 3) := by decide +kernel
theorem dX8_winded_18 : decode cX8_winded 18 = .ok (.iload 4, 2) := by decide +kernel
theorem dX8_winded_20 : decode cX8_winded 20 = .ok (.goto 9, 3) := by decide +kernel
theorem dX8_winded_23 : decode cX8_winded 23 = .ok (.aload_n 0, 1) := by decide +kernel
theorem dX8_winded_24 : decode cX8_winded 24 = .ok (.getfield 16, 3) := by decide +kernel
theorem dX8_winded_27 : decode cX8_winded 27 = .ok (.iload_n 1, 1) := by decide +kernel
theorem dX8_winded_28 : decode cX8_winded 28 = .ok (.iaload, 1) := by decide +kernel
theorem dX8_winded_29 : decode cX8_winded 29 = .ok (.ireturn, 1) := by decide +kernel
theorem dX8_isNobody_0 : decode cX8_isNobody 0 = .ok (.aload_n 0, 1) := by decide +kernel
theorem dX8_isNobody_1 : decode cX8_isNobody 1 = .ok (.aload_n 0, 1) := by decide +kernel
theorem dX8_isNobody_2 : decode cX8_isNobody 2 = .ok (.getfield 113, 3) := by decide +kernel
theorem dX8_isNobody_5 : decode cX8_isNobody 5 = .ok (.invokevirtual 110, 3) := by decide +kernel
theorem dX8_isNobody_8 : decode cX8_isNobody 8 = .ok (.ifCond .eq 25, 3) := by decide +kernel
theorem dX8_isNobody_11 : decode cX8_isNobody 11 = .ok (.aload_n 0, 1) := by decide +kernel
theorem dX8_isNobody_12 : decode cX8_isNobody 12 = .ok (.aload_n 0, 1) := by decide +kernel
theorem dX8_isNobody_13 : decode cX8_isNobody 13 = .ok (.getfield 68, 3) := by decide +kernel
theorem dX8_isNobody_16 : decode cX8_isNobody 16 = .ok (.invokevirtual 110, 3) := by decide +kernel
theorem dX8_isNobody_19 : decode cX8_isNobody 19 = .ok (.ifCond .eq 14, 3) := by decide +kernel
theorem dX8_isNobody_22 : decode cX8_isNobody 22 = .ok (.aload_n 0, 1) := by decide +kernel
theorem dX8_isNobody_23 : decode cX8_isNobody 23 = .ok (.getfield 113, 3) := by decide +kernel
theorem dX8_isNobody_26 : decode cX8_isNobody 26 = .ok (.aload_n 0, 1) := by decide +kernel
theorem dX8_isNobody_27 : decode cX8_isNobody 27 = .ok (.getfield 68, 3) := by decide +kernel
theorem dX8_isNobody_30 : decode cX8_isNobody 30 = .ok (.if_icmp .ne 7, 3) := by decide +kernel
theorem dX8_isNobody_33 : decode cX8_isNobody 33 = .ok (.iconst 1, 1) := by decide +kernel
theorem dX8_isNobody_34 : decode cX8_isNobody 34 = .ok (.goto 4, 3) := by decide +kernel
theorem dX8_isNobody_37 : decode cX8_isNobody 37 = .ok (.iconst 0, 1) := by decide +kernel
theorem dX8_isNobody_38 : decode cX8_isNobody 38 = .ok (.ireturn, 1) := by decide +kernel
theorem dX8_begin_0 : decode cX8_begin 0 = .ok (.aload_n 0, 1) := by decide +kernel
theorem dX8_begin_1 : decode cX8_begin 1 = .ok (.bipush (-6), 2) := by decide +kernel
theorem dX8_begin_3 : decode cX8_begin 3 = .ok (.putfield 156, 3) := by decide +kernel
theorem dX8_begin_6 : decode cX8_begin 6 = .ok (.aload_n 0, 1) := by decide +kernel
theorem dX8_begin_7 : decode cX8_begin 7 = .ok (.bipush (-6), 2) := by decide +kernel
theorem dX8_begin_9 : decode cX8_begin 9 = .ok (.putfield 159, 3) := by decide +kernel
theorem dX8_begin_12 : decode cX8_begin 12 = .ok (.aload_n 0, 1) := by decide +kernel
theorem dX8_begin_13 : decode cX8_begin 13 = .ok (.iconst 0, 1) := by decide +kernel
theorem dX8_begin_14 : decode cX8_begin 14 = .ok (.putfield 162, 3) := by decide +kernel
theorem dX8_begin_17 : decode cX8_begin 17 = .ok (.aload_n 0, 1) := by decide +kernel
theorem dX8_begin_18 : decode cX8_begin 18 = .ok (.aload_n 0, 1) := by decide +kernel
theorem dX8_begin_19 : decode cX8_begin 19 = .ok (.getfield 16, 3) := by decide +kernel
theorem dX8_begin_22 : decode cX8_begin 22 = .ok (.aload_n 0, 1) := by decide +kernel
theorem dX8_begin_23 : decode cX8_begin 23 = .ok (.getfield 113, 3) := by decide +kernel
theorem dX8_begin_26 : decode cX8_begin 26 = .ok (.iaload, 1) := by decide +kernel
theorem dX8_begin_27 : decode cX8_begin 27 = .ok (.putfield 165, 3) := by decide +kernel
theorem dX8_begin_30 : decode cX8_begin 30 = .ok (.aload_n 0, 1) := by decide +kernel
theorem dX8_begin_31 : decode cX8_begin 31 = .ok (.aload_n 0, 1) := by decide +kernel
theorem dX8_begin_32 : decode cX8_begin 32 = .ok (.getfield 16, 3) := by decide +kernel
theorem dX8_begin_35 : decode cX8_begin 35 = .ok (.aload_n 0, 1) := by decide +kernel
theorem dX8_begin_36 : decode cX8_begin 36 = .ok (.getfield 68, 3) := by decide +kernel
theorem dX8_begin_39 : decode cX8_begin 39 = .ok (.iaload, 1) := by decide +kernel
theorem dX8_begin_40 : decode cX8_begin 40 = .ok (.putfield 168, 3) := by decide +kernel
theorem dX8_begin_43 : decode cX8_begin 43 = .ok (.aload_n 0, 1) := by decide +kernel
theorem dX8_begin_44 : decode cX8_begin 44 = .ok (.iconst 0, 1) := by decide +kernel
theorem dX8_begin_45 : decode cX8_begin 45 = .ok (.putfield 171, 3) := by decide +kernel
theorem dX8_begin_48 : decode cX8_begin 48 = .ok (.aload_n 0, 1) := by decide +kernel
theorem dX8_begin_49 : decode cX8_begin 49 = .ok (.iconst 0, 1) := by decide +kernel
theorem dX8_begin_50 : decode cX8_begin 50 = .ok (.putfield 174, 3) := by decide +kernel
theorem dX8_begin_53 : decode cX8_begin 53 = .ok (.aload_n 0, 1) := by decide +kernel
theorem dX8_begin_54 : decode cX8_begin 54 = .ok (.iconst 0, 1) := by decide +kernel
theorem dX8_begin_55 : decode cX8_begin 55 = .ok (.putfield 177, 3) := by decide +kernel
theorem dX8_begin_58 : decode cX8_begin 58 = .ok (.return_, 1) := by decide +kernel
theorem dX8_rest_0 : decode cX8_rest 0 = .ok (.aload_n 0, 1) := by decide +kernel
theorem dX8_rest_1 : decode cX8_rest 1 = .ok (.dup, 1) := by decide +kernel
theorem dX8_rest_2 : decode cX8_rest 2 = .ok (.getfield 162, 3) := by decide +kernel
theorem dX8_rest_5 : decode cX8_rest 5 = .ok (.aload_n 0, 1) := by decide +kernel
theorem dX8_rest_6 : decode cX8_rest 6 = .ok (.getfield 75, 3) := by decide +kernel
theorem dX8_rest_9 : decode cX8_rest 9 = .ok (.iadd, 1) := by decide +kernel
theorem dX8_rest_10 : decode cX8_rest 10 = .ok (.putfield 162, 3) := by decide +kernel
theorem dX8_rest_13 : decode cX8_rest 13 = .ok (.aload_n 0, 1) := by decide +kernel
theorem dX8_rest_14 : decode cX8_rest 14 = .ok (.aload_n 0, 1) := by decide +kernel
theorem dX8_rest_15 : decode cX8_rest 15 = .ok (.getfield 16, 3) := by decide +kernel
theorem dX8_rest_18 : decode cX8_rest 18 = .ok (.aload_n 0, 1) := by decide +kernel
theorem dX8_rest_19 : decode cX8_rest 19 = .ok (.getfield 113, 3) := by decide +kernel
theorem dX8_rest_22 : decode cX8_rest 22 = .ok (.iaload, 1) := by decide +kernel
theorem dX8_rest_23 : decode cX8_rest 23 = .ok (.putfield 165, 3) := by decide +kernel
theorem dX8_rest_26 : decode cX8_rest 26 = .ok (.aload_n 0, 1) := by decide +kernel
theorem dX8_rest_27 : decode cX8_rest 27 = .ok (.aload_n 0, 1) := by decide +kernel
theorem dX8_rest_28 : decode cX8_rest 28 = .ok (.getfield 16, 3) := by decide +kernel
theorem dX8_rest_31 : decode cX8_rest 31 = .ok (.aload_n 0, 1) := by decide +kernel
theorem dX8_rest_32 : decode cX8_rest 32 = .ok (.getfield 68, 3) := by decide +kernel
theorem dX8_rest_35 : decode cX8_rest 35 = .ok (.iaload, 1) := by decide +kernel
theorem dX8_rest_36 : decode cX8_rest 36 = .ok (.putfield 168, 3) := by decide +kernel
theorem dX8_rest_39 : decode cX8_rest 39 = .ok (.aload_n 0, 1) := by decide +kernel
theorem dX8_rest_40 : decode cX8_rest 40 = .ok (.iconst 0, 1) := by decide +kernel
theorem dX8_rest_41 : decode cX8_rest 41 = .ok (.putfield 171, 3) := by decide +kernel
theorem dX8_rest_44 : decode cX8_rest 44 = .ok (.return_, 1) := by decide +kernel
theorem dX8_rideOne_0 : decode cX8_rideOne 0 = .ok (.aload_n 0, 1) := by decide +kernel
theorem dX8_rideOne_1 : decode cX8_rideOne 1 = .ok (.getfield 40, 3) := by decide +kernel
theorem dX8_rideOne_4 : decode cX8_rideOne 4 = .ok (.iload_n 1, 1) := by decide +kernel
theorem dX8_rideOne_5 : decode cX8_rideOne 5 = .ok (.iaload, 1) := by decide +kernel
theorem dX8_rideOne_6 : decode cX8_rideOne 6 = .ok (.iconst 1, 1) := by decide +kernel
theorem dX8_rideOne_7 : decode cX8_rideOne 7 = .ok (.if_icmp .ne 7, 3) := by decide +kernel
theorem dX8_rideOne_10 : decode cX8_rideOne 10 = .ok (.aload_n 0, 1) := by decide +kernel
theorem dX8_rideOne_11 : decode cX8_rideOne 11 = .ok (.invokevirtual 180, 3) := by decide +kernel
theorem dX8_rideOne_14 : decode cX8_rideOne 14 = .ok (.aload_n 0, 1) := by decide +kernel
theorem dX8_rideOne_15 : decode cX8_rideOne 15 = .ok (.aload_n 0, 1) := by decide +kernel
theorem dX8_rideOne_16 : decode cX8_rideOne 16 = .ok (.getfield 113, 3) := by decide +kernel
theorem dX8_rideOne_19 : decode cX8_rideOne 19 = .ok (.aload_n 0, 1) := by decide +kernel
theorem dX8_rideOne_20 : decode cX8_rideOne 20 = .ok (.getfield 43, 3) := by decide +kernel
theorem dX8_rideOne_23 : decode cX8_rideOne 23 = .ok (.iload_n 1, 1) := by decide +kernel
theorem dX8_rideOne_24 : decode cX8_rideOne 24 = .ok (.iaload, 1) := by decide +kernel
theorem dX8_rideOne_25 : decode cX8_rideOne 25 = .ok (.aload_n 0, 1) := by decide +kernel
theorem dX8_rideOne_26 : decode cX8_rideOne 26 = .ok (.getfield 49, 3) := by decide +kernel
theorem dX8_rideOne_29 : decode cX8_rideOne 29 = .ok (.iload_n 1, 1) := by decide +kernel
theorem dX8_rideOne_30 : decode cX8_rideOne 30 = .ok (.iaload, 1) := by decide +kernel
theorem dX8_rideOne_31 : decode cX8_rideOne 31 = .ok (.invokevirtual 152, 3) := by decide +kernel
theorem dX8_rideOne_34 : decode cX8_rideOne 34 = .ok (.istore_n 2, 1) := by decide +kernel
theorem dX8_rideOne_35 : decode cX8_rideOne 35 = .ok (.aload_n 0, 1) := by decide +kernel
theorem dX8_rideOne_36 : decode cX8_rideOne 36 = .ok (.aload_n 0, 1) := by decide +kernel
theorem dX8_rideOne_37 : decode cX8_rideOne 37 = .ok (.getfield 68, 3) := by decide +kernel
theorem dX8_rideOne_40 : decode cX8_rideOne 40 = .ok (.aload_n 0, 1) := by decide +kernel
theorem dX8_rideOne_41 : decode cX8_rideOne 41 = .ok (.getfield 46, 3) := by decide +kernel
theorem dX8_rideOne_44 : decode cX8_rideOne 44 = .ok (.iload_n 1, 1) := by decide +kernel
theorem dX8_rideOne_45 : decode cX8_rideOne 45 = .ok (.iaload, 1) := by decide +kernel
theorem dX8_rideOne_46 : decode cX8_rideOne 46 = .ok (.aload_n 0, 1) := by decide +kernel
theorem dX8_rideOne_47 : decode cX8_rideOne 47 = .ok (.getfield 49, 3) := by decide +kernel
theorem dX8_rideOne_50 : decode cX8_rideOne 50 = .ok (.iload_n 1, 1) := by decide +kernel
theorem dX8_rideOne_51 : decode cX8_rideOne 51 = .ok (.iaload, 1) := by decide +kernel
theorem dX8_rideOne_52 : decode cX8_rideOne 52 = .ok (.invokevirtual 152, 3) := by decide +kernel
theorem dX8_rideOne_55 : decode cX8_rideOne 55 = .ok (.istore_n 3, 1) := by decide +kernel
theorem dX8_rideOne_56 : decode cX8_rideOne 56 = .ok (.aload_n 0, 1) := by decide +kernel
theorem dX8_rideOne_57 : decode cX8_rideOne 57 = .ok (.aload_n 0, 1) := by decide +kernel
theorem dX8_rideOne_58 : decode cX8_rideOne 58 = .ok (.aload_n 0, 1) := by decide +kernel
theorem dX8_rideOne_59 : decode cX8_rideOne 59 = .ok (.getfield 113, 3) := by decide +kernel
theorem dX8_rideOne_62 : decode cX8_rideOne 62 = .ok (.aload_n 0, 1) := by decide +kernel
theorem dX8_rideOne_63 : decode cX8_rideOne 63 = .ok (.getfield 165, 3) := by decide +kernel
theorem dX8_rideOne_66 : decode cX8_rideOne 66 = .ok (.aload_n 0, 1) := by decide +kernel
theorem dX8_rideOne_67 : decode cX8_rideOne 67 = .ok (.getfield 43, 3) := by decide +kernel
theorem dX8_rideOne_70 : decode cX8_rideOne 70 = .ok (.iload_n 1, 1) := by decide +kernel
theorem dX8_rideOne_71 : decode cX8_rideOne 71 = .ok (.iaload, 1) := by decide +kernel
theorem dX8_rideOne_72 : decode cX8_rideOne 72 = .ok (.invokevirtual 183, 3) := by decide +kernel
theorem dX8_rideOne_75 : decode cX8_rideOne 75 = .ok (.putfield 165, 3) := by decide +kernel
theorem dX8_rideOne_78 : decode cX8_rideOne 78 = .ok (.aload_n 0, 1) := by decide +kernel
theorem dX8_rideOne_79 : decode cX8_rideOne 79 = .ok (.aload_n 0, 1) := by decide +kernel
theorem dX8_rideOne_80 : decode cX8_rideOne 80 = .ok (.aload_n 0, 1) := by decide +kernel
theorem dX8_rideOne_81 : decode cX8_rideOne 81 = .ok (.getfield 68, 3) := by decide +kernel
theorem dX8_rideOne_84 : decode cX8_rideOne 84 = .ok (.aload_n 0, 1) := by decide +kernel
theorem dX8_rideOne_85 : decode cX8_rideOne 85 = .ok (.getfield 168, 3) := by decide +kernel
theorem dX8_rideOne_88 : decode cX8_rideOne 88 = .ok (.aload_n 0, 1) := by decide +kernel
theorem dX8_rideOne_89 : decode cX8_rideOne 89 = .ok (.getfield 46, 3) := by decide +kernel
theorem dX8_rideOne_92 : decode cX8_rideOne 92 = .ok (.iload_n 1, 1) := by decide +kernel
theorem dX8_rideOne_93 : decode cX8_rideOne 93 = .ok (.iaload, 1) := by decide +kernel
theorem dX8_rideOne_94 : decode cX8_rideOne 94 = .ok (.invokevirtual 183, 3) := by decide +kernel
theorem dX8_rideOne_97 : decode cX8_rideOne 97 = .ok (.putfield 168, 3) := by decide +kernel
theorem dX8_rideOne_100 : decode cX8_rideOne 100 = .ok (.aload_n 0, 1) := by decide +kernel
theorem dX8_rideOne_101 : decode cX8_rideOne 101 = .ok (.aload_n 0, 1) := by decide +kernel
theorem dX8_rideOne_102 : decode cX8_rideOne 102 = .ok (.getfield 171, 3) := by decide +kernel
theorem dX8_rideOne_105 : decode cX8_rideOne 105 = .ok (.aload_n 0, 1) := by decide +kernel
theorem dX8_rideOne_106 : decode cX8_rideOne 106 = .ok (.getfield 22, 3) := by decide +kernel
theorem dX8_rideOne_109 : decode cX8_rideOne 109 = .ok (.iload_n 1, 1) := by decide +kernel
theorem dX8_rideOne_110 : decode cX8_rideOne 110 = .ok (.iaload, 1) := by decide +kernel
theorem dX8_rideOne_111 : decode cX8_rideOne 111 = .ok (.invokestatic 186, 3) := by decide +kernel
theorem dX8_rideOne_114 : decode cX8_rideOne 114 = .ok (.putfield 171, 3) := by decide +kernel
theorem dX8_rideOne_117 : decode cX8_rideOne 117 = .ok (.aload_n 0, 1) := by decide +kernel
theorem dX8_rideOne_118 : decode cX8_rideOne 118 = .ok (.getfield 165, 3) := by decide +kernel
theorem dX8_rideOne_121 : decode cX8_rideOne 121 = .ok (.ifCond .ge 7, 3) := by decide +kernel
theorem dX8_rideOne_124 : decode cX8_rideOne 124 = .ok (.iconst 1, 1) := by decide +kernel
theorem dX8_rideOne_125 : decode cX8_rideOne 125 = .ok (.goto 31, 3) := by decide +kernel
theorem dX8_rideOne_128 : decode cX8_rideOne 128 = .ok (.aload_n 0, 1) := by decide +kernel
theorem dX8_rideOne_129 : decode cX8_rideOne 129 = .ok (.getfield 168, 3) := by decide +kernel
theorem dX8_rideOne_132 : decode cX8_rideOne 132 = .ok (.ifCond .ge 7, 3) := by decide +kernel
theorem dX8_rideOne_135 : decode cX8_rideOne 135 = .ok (.iconst 2, 1) := by decide +kernel
theorem dX8_rideOne_136 : decode cX8_rideOne 136 = .ok (.goto 20, 3) := by decide +kernel
theorem dX8_rideOne_139 : decode cX8_rideOne 139 = .ok (.aload_n 0, 1) := by decide +kernel
theorem dX8_rideOne_140 : decode cX8_rideOne 140 = .ok (.getfield 171, 3) := by decide +kernel
theorem dX8_rideOne_143 : decode cX8_rideOne 143 = .ok (.aload_n 0, 1) := by decide +kernel
theorem dX8_rideOne_144 : decode cX8_rideOne 144 = .ok (.getfield 72, 3) := by decide +kernel
theorem dX8_rideOne_147 : decode cX8_rideOne 147 = .ok (.if_icmp .le 7, 3) := by decide +kernel
theorem dX8_rideOne_150 : decode cX8_rideOne 150 = .ok (.iconst 3, 1) := by decide +kernel
theorem dX8_rideOne_151 : decode cX8_rideOne 151 = .ok (.goto 5, 3) := by decide +kernel
theorem dX8_rideOne_154 : decode cX8_rideOne 154 = .ok (.bipush (-6), 2) := by decide +kernel
theorem dX8_rideOne_156 : decode cX8_rideOne 156 = .ok (.istore 4, 2) := by decide +kernel
theorem dX8_rideOne_158 : decode cX8_rideOne 158 = .ok (.aload_n 0, 1) := by decide +kernel
theorem dX8_rideOne_159 : decode cX8_rideOne 159 = .ok (.iload 4, 2) := by decide +kernel
theorem dX8_rideOne_161 : decode cX8_rideOne 161 = .ok (.ifCond .le 7, 3) := by decide +kernel
theorem dX8_rideOne_164 : decode cX8_rideOne 164 = .ok (.iload_n 1, 1) := by decide +kernel
theorem dX8_rideOne_165 : decode cX8_rideOne 165 = .ok (.goto 5, 3) := by decide +kernel
theorem dX8_rideOne_168 : decode cX8_rideOne 168 = .ok (.bipush (-6), 2) := by decide +kernel
theorem dX8_rideOne_170 : decode cX8_rideOne 170 = .ok (.putfield 156, 3) := by decide +kernel
theorem dX8_rideOne_173 : decode cX8_rideOne 173 = .ok (.aload_n 0, 1) := by decide +kernel
theorem dX8_rideOne_174 : decode cX8_rideOne 174 = .ok (.iload 4, 2) := by decide +kernel
theorem dX8_rideOne_176 : decode cX8_rideOne 176 = .ok (.putfield 159, 3) := by decide +kernel
theorem dX8_rideOne_179 : decode cX8_rideOne 179 = .ok (.aload_n 0, 1) := by decide +kernel
theorem dX8_rideOne_180 : decode cX8_rideOne 180 = .ok (.dup, 1) := by decide +kernel
theorem dX8_rideOne_181 : decode cX8_rideOne 181 = .ok (.getfield 174, 3) := by decide +kernel
theorem dX8_rideOne_184 : decode cX8_rideOne 184 = .ok (.iload_n 2, 1) := by decide +kernel
theorem dX8_rideOne_185 : decode cX8_rideOne 185 = .ok (.iadd, 1) := by decide +kernel
theorem dX8_rideOne_186 : decode cX8_rideOne 186 = .ok (.putfield 174, 3) := by decide +kernel
theorem dX8_rideOne_189 : decode cX8_rideOne 189 = .ok (.aload_n 0, 1) := by decide +kernel
theorem dX8_rideOne_190 : decode cX8_rideOne 190 = .ok (.dup, 1) := by decide +kernel
theorem dX8_rideOne_191 : decode cX8_rideOne 191 = .ok (.getfield 177, 3) := by decide +kernel
theorem dX8_rideOne_194 : decode cX8_rideOne 194 = .ok (.iload_n 3, 1) := by decide +kernel
theorem dX8_rideOne_195 : decode cX8_rideOne 195 = .ok (.iadd, 1) := by decide +kernel
theorem dX8_rideOne_196 : decode cX8_rideOne 196 = .ok (.putfield 177, 3) := by decide +kernel
theorem dX8_rideOne_199 : decode cX8_rideOne 199 = .ok (.aload_n 0, 1) := by decide +kernel
theorem dX8_rideOne_200 : decode cX8_rideOne 200 = .ok (.dup, 1) := by decide +kernel
theorem dX8_rideOne_201 : decode cX8_rideOne 201 = .ok (.getfield 162, 3) := by decide +kernel
theorem dX8_rideOne_204 : decode cX8_rideOne 204 = .ok (.aload_n 0, 1) := by decide +kernel
theorem dX8_rideOne_205 : decode cX8_rideOne 205 = .ok (.getfield 22, 3) := by decide +kernel
theorem dX8_rideOne_208 : decode cX8_rideOne 208 = .ok (.iload_n 1, 1) := by decide +kernel
theorem dX8_rideOne_209 : decode cX8_rideOne 209 = .ok (.iaload, 1) := by decide +kernel
theorem dX8_rideOne_210 : decode cX8_rideOne 210 = .ok (.invokestatic 190, 3) := by decide +kernel
theorem dX8_rideOne_213 : decode cX8_rideOne 213 = .ok (.iload_n 2, 1) := by decide +kernel
theorem dX8_rideOne_214 : decode cX8_rideOne 214 = .ok (.iload_n 3, 1) := by decide +kernel
theorem dX8_rideOne_215 : decode cX8_rideOne 215 = .ok (.iadd, 1) := by decide +kernel
theorem dX8_rideOne_216 : decode cX8_rideOne 216 = .ok (.invokestatic 193, 3) := by decide +kernel
theorem dX8_rideOne_219 : decode cX8_rideOne 219 = .ok (.iadd, 1) := by decide +kernel
theorem dX8_rideOne_220 : decode cX8_rideOne 220 = .ok (.putfield 162, 3) := by decide +kernel
theorem dX8_rideOne_223 : decode cX8_rideOne 223 = .ok (.return_, 1) := by decide +kernel
theorem dX8_ride_0 : decode cX8_ride 0 = .ok (.aload_n 0, 1) := by decide +kernel
theorem dX8_ride_1 : decode cX8_ride 1 = .ok (.invokevirtual 196, 3) := by decide +kernel
theorem dX8_ride_4 : decode cX8_ride 4 = .ok (.iconst 0, 1) := by decide +kernel
theorem dX8_ride_5 : decode cX8_ride 5 = .ok (.istore_n 2, 1) := by decide +kernel
theorem dX8_ride_6 : decode cX8_ride 6 = .ok (.iload_n 2, 1) := by decide +kernel
theorem dX8_ride_7 : decode cX8_ride 7 = .ok (.iload_n 1, 1) := by decide +kernel
theorem dX8_ride_8 : decode cX8_ride 8 = .ok (.if_icmp .gt 21, 3) := by decide +kernel
theorem dX8_ride_11 : decode cX8_ride 11 = .ok (.aload_n 0, 1) := by decide +kernel
theorem dX8_ride_12 : decode cX8_ride 12 = .ok (.getfield 156, 3) := by decide +kernel
theorem dX8_ride_15 : decode cX8_ride 15 = .ok (.ifCond .ge 14, 3) := by decide +kernel
theorem dX8_ride_18 : decode cX8_ride 18 = .ok (.aload_n 0, 1) := by decide +kernel
theorem dX8_ride_19 : decode cX8_ride 19 = .ok (.iload_n 2, 1) := by decide +kernel
theorem dX8_ride_20 : decode cX8_ride 20 = .ok (.invokevirtual 199, 3) := by decide +kernel
theorem dX8_ride_23 : decode cX8_ride 23 = .ok (.iinc 2 1, 3) := by decide +kernel
theorem dX8_ride_26 : decode cX8_ride 26 = .ok (.goto (-20), 3) := by decide +kernel
theorem dX8_ride_29 : decode cX8_ride 29 = .ok (.return_, 1) := by decide +kernel
theorem dX8_rideAll_0 : decode cX8_rideAll 0 = .ok (.aload_n 0, 1) := by decide +kernel
theorem dX8_rideAll_1 : decode cX8_rideAll 1 = .ok (.aload_n 0, 1) := by decide +kernel
theorem dX8_rideAll_2 : decode cX8_rideAll 2 = .ok (.getfield 81, 3) := by decide +kernel
theorem dX8_rideAll_5 : decode cX8_rideAll 5 = .ok (.iconst 1, 1) := by decide +kernel
theorem dX8_rideAll_6 : decode cX8_rideAll 6 = .ok (.isub, 1) := by decide +kernel
theorem dX8_rideAll_7 : decode cX8_rideAll 7 = .ok (.invokevirtual 203, 3) := by decide +kernel
theorem dX8_rideAll_10 : decode cX8_rideAll 10 = .ok (.return_, 1) := by decide +kernel
theorem dX8_judge_0 : decode cX8_judge 0 = .ok (.aload_n 0, 1) := by decide +kernel
theorem dX8_judge_1 : decode cX8_judge 1 = .ok (.invokevirtual 206, 3) := by decide +kernel
theorem dX8_judge_4 : decode cX8_judge 4 = .ok (.ifCond .eq 6, 3) := by decide +kernel
theorem dX8_judge_7 : decode cX8_judge 7 = .ok (.bipush (-3), 2) := by decide +kernel
theorem dX8_judge_9 : decode cX8_judge 9 = .ok (.ireturn, 1) := by decide +kernel
theorem dX8_judge_10 : decode cX8_judge 10 = .ok (.iload_n 1, 1) := by decide +kernel
theorem dX8_judge_11 : decode cX8_judge 11 = .ok (.i2l, 1) := by decide +kernel
theorem dX8_judge_12 : decode cX8_judge 12 = .ok (.lconst 0, 1) := by decide +kernel
theorem dX8_judge_13 : decode cX8_judge 13 = .ok (.lconst 1, 1) := by decide +kernel
theorem dX8_judge_14 : decode cX8_judge 14 = .ok (.invokestatic 86, 3) := by decide +kernel
theorem dX8_judge_17 : decode cX8_judge 17 = .ok (.ifCond .ne 6, 3) := by decide +kernel
theorem dX8_judge_20 : decode cX8_judge 20 = .ok (.bipush (-2), 2) := by decide +kernel
theorem dX8_judge_22 : decode cX8_judge 22 = .ok (.ireturn, 1) := by decide +kernel
theorem dX8_judge_23 : decode cX8_judge 23 = .ok (.aload_n 0, 1) := by decide +kernel
theorem dX8_judge_24 : decode cX8_judge 24 = .ok (.invokevirtual 142, 3) := by decide +kernel
theorem dX8_judge_27 : decode cX8_judge 27 = .ok (.ifCond .lt 6, 3) := by decide +kernel
theorem dX8_judge_30 : decode cX8_judge 30 = .ok (.bipush (-5), 2) := by decide +kernel
theorem dX8_judge_32 : decode cX8_judge 32 = .ok (.ireturn, 1) := by decide +kernel
theorem dX8_judge_33 : decode cX8_judge 33 = .ok (.aload_n 0, 1) := by decide +kernel
theorem dX8_judge_34 : decode cX8_judge 34 = .ok (.invokevirtual 210, 3) := by decide +kernel
theorem dX8_judge_37 : decode cX8_judge 37 = .ok (.iload_n 1, 1) := by decide +kernel
theorem dX8_judge_38 : decode cX8_judge 38 = .ok (.ifCond .ne 10, 3) := by decide +kernel
theorem dX8_judge_41 : decode cX8_judge 41 = .ok (.aload_n 0, 1) := by decide +kernel
theorem dX8_judge_42 : decode cX8_judge 42 = .ok (.getfield 156, 3) := by decide +kernel
theorem dX8_judge_45 : decode cX8_judge 45 = .ok (.goto 7, 3) := by decide +kernel
theorem dX8_judge_48 : decode cX8_judge 48 = .ok (.aload_n 0, 1) := by decide +kernel
theorem dX8_judge_49 : decode cX8_judge 49 = .ok (.getfield 159, 3) := by decide +kernel
theorem dX8_judge_52 : decode cX8_judge 52 = .ok (.ireturn, 1) := by decide +kernel
theorem dX8_isRefused_0 : decode cX8_isRefused 0 = .ok (.aload_n 0, 1) := by decide +kernel
theorem dX8_isRefused_1 : decode cX8_isRefused 1 = .ok (.invokevirtual 142, 3) := by decide +kernel
theorem dX8_isRefused_4 : decode cX8_isRefused 4 = .ok (.ifCond .lt 5, 3) := by decide +kernel
theorem dX8_isRefused_7 : decode cX8_isRefused 7 = .ok (.iconst 1, 1) := by decide +kernel
theorem dX8_isRefused_8 : decode cX8_isRefused 8 = .ok (.ireturn, 1) := by decide +kernel
theorem dX8_isRefused_9 : decode cX8_isRefused 9 = .ok (.aload_n 0, 1) := by decide +kernel
theorem dX8_isRefused_10 : decode cX8_isRefused 10 = .ok (.invokevirtual 210, 3) := by decide +kernel
theorem dX8_isRefused_13 : decode cX8_isRefused 13 = .ok (.aload_n 0, 1) := by decide +kernel
theorem dX8_isRefused_14 : decode cX8_isRefused 14 = .ok (.getfield 156, 3) := by decide +kernel
theorem dX8_isRefused_17 : decode cX8_isRefused 17 = .ok (.ifCond .lt 7, 3) := by decide +kernel
theorem dX8_isRefused_20 : decode cX8_isRefused 20 = .ok (.iconst 1, 1) := by decide +kernel
theorem dX8_isRefused_21 : decode cX8_isRefused 21 = .ok (.goto 4, 3) := by decide +kernel
theorem dX8_isRefused_24 : decode cX8_isRefused 24 = .ok (.iconst 0, 1) := by decide +kernel
theorem dX8_isRefused_25 : decode cX8_isRefused 25 = .ok (.ireturn, 1) := by decide +kernel
theorem dX8_ridden_0 : decode cX8_ridden 0 = .ok (.aload_n 0, 1) := by decide +kernel
theorem dX8_ridden_1 : decode cX8_ridden 1 = .ok (.invokevirtual 206, 3) := by decide +kernel
theorem dX8_ridden_4 : decode cX8_ridden 4 = .ok (.ifCond .eq 6, 3) := by decide +kernel
theorem dX8_ridden_7 : decode cX8_ridden 7 = .ok (.bipush (-3), 2) := by decide +kernel
theorem dX8_ridden_9 : decode cX8_ridden 9 = .ok (.ireturn, 1) := by decide +kernel
theorem dX8_ridden_10 : decode cX8_ridden 10 = .ok (.iload_n 1, 1) := by decide +kernel
theorem dX8_ridden_11 : decode cX8_ridden 11 = .ok (.i2l, 1) := by decide +kernel
theorem dX8_ridden_12 : decode cX8_ridden 12 = .ok (.ldc2_w 213, 3) := by decide +kernel
theorem dX8_ridden_15 : decode cX8_ridden 15 = .ok (.aload_n 0, 1) := by decide +kernel
theorem dX8_ridden_16 : decode cX8_ridden 16 = .ok (.getfield 81, 3) := by decide +kernel
theorem dX8_ridden_19 : decode cX8_ridden 19 = .ok (.iconst 1, 1) := by decide +kernel
theorem dX8_ridden_20 : decode cX8_ridden 20 = .ok (.isub, 1) := by decide +kernel
theorem dX8_ridden_21 : decode cX8_ridden 21 = .ok (.i2l, 1) := by decide +kernel
theorem dX8_ridden_22 : decode cX8_ridden 22 = .ok (.invokestatic 86, 3) := by decide +kernel
theorem dX8_ridden_25 : decode cX8_ridden 25 = .ok (.ifCond .eq 15, 3) := by decide +kernel
theorem dX8_ridden_28 : decode cX8_ridden 28 = .ok (.iload_n 2, 1) := by decide +kernel
theorem dX8_ridden_29 : decode cX8_ridden 29 = .ok (.i2l, 1) := by decide +kernel
theorem dX8_ridden_30 : decode cX8_ridden 30 = .ok (.lconst 0, 1) := by decide +kernel
theorem dX8_ridden_31 : decode cX8_ridden 31 = .ok (.ldc2_w 84, 3) := by decide +kernel
theorem dX8_ridden_34 : decode cX8_ridden 34 = .ok (.invokestatic 86, 3) := by decide +kernel
theorem dX8_ridden_37 : decode cX8_ridden 37 = .ok (.ifCond .ne 6, 3) := by decide +kernel
theorem dX8_ridden_40 : decode cX8_ridden 40 = .ok (.bipush (-2), 2) := by decide +kernel
theorem dX8_ridden_42 : decode cX8_ridden 42 = .ok (.ireturn, 1) := by decide +kernel
theorem dX8_ridden_43 : decode cX8_ridden 43 = .ok (.aload_n 0, 1) := by decide +kernel
theorem dX8_ridden_44 : decode cX8_ridden 44 = .ok (.invokevirtual 215, 3) := by decide +kernel
theorem dX8_ridden_47 : decode cX8_ridden 47 = .ok (.ifCond .eq 6, 3) := by decide +kernel
theorem dX8_ridden_50 : decode cX8_ridden 50 = .ok (.bipush (-5), 2) := by decide +kernel
theorem dX8_ridden_52 : decode cX8_ridden 52 = .ok (.ireturn, 1) := by decide +kernel
theorem dX8_ridden_53 : decode cX8_ridden 53 = .ok (.aload_n 0, 1) := by decide +kernel
theorem dX8_ridden_54 : decode cX8_ridden 54 = .ok (.iload_n 1, 1) := by decide +kernel
theorem dX8_ridden_55 : decode cX8_ridden 55 = .ok (.ifCond .ge 12, 3) := by decide +kernel
theorem dX8_ridden_58 : decode cX8_ridden 58 = .ok (.aload_n 0, 1) := by decide +kernel
theorem dX8_ridden_59 : decode cX8_ridden 59 = .ok (.getfield 81, 3) := by decide +kernel
theorem dX8_ridden_62 : decode cX8_ridden 62 = .ok (.iconst 1, 1) := by decide +kernel
theorem dX8_ridden_63 : decode cX8_ridden 63 = .ok (.isub, 1) := by decide +kernel
theorem dX8_ridden_64 : decode cX8_ridden 64 = .ok (.goto 4, 3) := by decide +kernel
theorem dX8_ridden_67 : decode cX8_ridden 67 = .ok (.iload_n 1, 1) := by decide +kernel
theorem dX8_ridden_68 : decode cX8_ridden 68 = .ok (.invokevirtual 203, 3) := by decide +kernel
theorem dX8_ridden_71 : decode cX8_ridden 71 = .ok (.iload_n 2, 1) := by decide +kernel
theorem dX8_ridden_72 : decode cX8_ridden 72 = .ok (.ifCond .ne 10, 3) := by decide +kernel
theorem dX8_ridden_75 : decode cX8_ridden 75 = .ok (.aload_n 0, 1) := by decide +kernel
theorem dX8_ridden_76 : decode cX8_ridden 76 = .ok (.getfield 162, 3) := by decide +kernel
theorem dX8_ridden_79 : decode cX8_ridden 79 = .ok (.goto 31, 3) := by decide +kernel
theorem dX8_ridden_82 : decode cX8_ridden 82 = .ok (.iload_n 2, 1) := by decide +kernel
theorem dX8_ridden_83 : decode cX8_ridden 83 = .ok (.iconst 1, 1) := by decide +kernel
theorem dX8_ridden_84 : decode cX8_ridden 84 = .ok (.if_icmp .ne 10, 3) := by decide +kernel
theorem dX8_ridden_87 : decode cX8_ridden 87 = .ok (.aload_n 0, 1) := by decide +kernel
theorem dX8_ridden_88 : decode cX8_ridden 88 = .ok (.getfield 165, 3) := by decide +kernel
theorem dX8_ridden_91 : decode cX8_ridden 91 = .ok (.goto 19, 3) := by decide +kernel
theorem dX8_ridden_94 : decode cX8_ridden 94 = .ok (.iload_n 2, 1) := by decide +kernel
theorem dX8_ridden_95 : decode cX8_ridden 95 = .ok (.iconst 2, 1) := by decide +kernel
theorem dX8_ridden_96 : decode cX8_ridden 96 = .ok (.if_icmp .ne 10, 3) := by decide +kernel
theorem dX8_ridden_99 : decode cX8_ridden 99 = .ok (.aload_n 0, 1) := by decide +kernel
theorem dX8_ridden_100 : decode cX8_ridden 100 = .ok (.getfield 168, 3) := by decide +kernel
theorem dX8_ridden_103 : decode cX8_ridden 103 = .ok (.goto 7, 3) := by decide +kernel
theorem dX8_ridden_106 : decode cX8_ridden 106 = .ok (.aload_n 0, 1) := by decide +kernel
theorem dX8_ridden_107 : decode cX8_ridden 107 = .ok (.getfield 171, 3) := by decide +kernel
theorem dX8_ridden_110 : decode cX8_ridden 110 = .ok (.ireturn, 1) := by decide +kernel
theorem dX8_lowest_0 : decode cX8_lowest 0 = .ok (.lload_n 2, 1) := by decide +kernel
theorem dX8_lowest_1 : decode cX8_lowest 1 = .ok (.lstore 5, 2) := by decide +kernel
theorem dX8_lowest_3 : decode cX8_lowest 3 = .ok (.lload_n 0, 1) := by decide +kernel
theorem dX8_lowest_4 : decode cX8_lowest 4 = .ok (.lstore 7, 2) := by decide +kernel
theorem dX8_lowest_6 : decode cX8_lowest 6 = .ok (.lload 7, 2) := by decide +kernel
theorem dX8_lowest_8 : decode cX8_lowest 8 = .ok (.lconst 0, 1) := by decide +kernel
theorem dX8_lowest_9 : decode cX8_lowest 9 = .ok (.lcmp, 1) := by decide +kernel
theorem dX8_lowest_10 : decode cX8_lowest 10 = .ok (.ifCond .eq 21, 3) := by decide +kernel
theorem dX8_lowest_13 : decode cX8_lowest 13 = .ok (.lload 5, 2) := by decide +kernel
theorem dX8_lowest_15 : decode cX8_lowest 15 = .ok (.lload 7, 2) := by decide +kernel
theorem dX8_lowest_17 : decode cX8_lowest 17 = .ok (.lrem, 1) := by decide +kernel
theorem dX8_lowest_18 : decode cX8_lowest 18 = .ok (.lstore 9, 2) := by decide +kernel
theorem dX8_lowest_20 : decode cX8_lowest 20 = .ok (.lload 7, 2) := by decide +kernel
theorem dX8_lowest_22 : decode cX8_lowest 22 = .ok (.lstore 5, 2) := by decide +kernel
theorem dX8_lowest_24 : decode cX8_lowest 24 = .ok (.lload 9, 2) := by decide +kernel
theorem dX8_lowest_26 : decode cX8_lowest 26 = .ok (.lstore 7, 2) := by decide +kernel
theorem dX8_lowest_28 : decode cX8_lowest 28 = .ok (.goto (-22), 3) := by decide +kernel
theorem dX8_lowest_31 : decode cX8_lowest 31 = .ok (.iload 4, 2) := by decide +kernel
theorem dX8_lowest_33 : decode cX8_lowest 33 = .ok (.ifCond .ne 10, 3) := by decide +kernel
theorem dX8_lowest_36 : decode cX8_lowest 36 = .ok (.lload_n 0, 1) := by decide +kernel
theorem dX8_lowest_37 : decode cX8_lowest 37 = .ok (.lload 5, 2) := by decide +kernel
theorem dX8_lowest_39 : decode cX8_lowest 39 = .ok (.ldiv, 1) := by decide +kernel
theorem dX8_lowest_40 : decode cX8_lowest 40 = .ok (.goto 7, 3) := by decide +kernel
theorem dX8_lowest_43 : decode cX8_lowest 43 = .ok (.lload_n 2, 1) := by decide +kernel
theorem dX8_lowest_44 : decode cX8_lowest 44 = .ok (.lload 5, 2) := by decide +kernel
theorem dX8_lowest_46 : decode cX8_lowest 46 = .ok (.ldiv, 1) := by decide +kernel
theorem dX8_lowest_47 : decode cX8_lowest 47 = .ok (.lreturn, 1) := by decide +kernel
theorem dX8_share_0 : decode cX8_share 0 = .ok (.aload_n 0, 1) := by decide +kernel
theorem dX8_share_1 : decode cX8_share 1 = .ok (.invokevirtual 206, 3) := by decide +kernel
theorem dX8_share_4 : decode cX8_share 4 = .ok (.ifCond .eq 7, 3) := by decide +kernel
theorem dX8_share_7 : decode cX8_share 7 = .ok (.ldc2_w 218, 3) := by decide +kernel
theorem dX8_share_10 : decode cX8_share 10 = .ok (.lreturn, 1) := by decide +kernel
theorem dX8_share_11 : decode cX8_share 11 = .ok (.iload_n 1, 1) := by decide +kernel
theorem dX8_share_12 : decode cX8_share 12 = .ok (.i2l, 1) := by decide +kernel
theorem dX8_share_13 : decode cX8_share 13 = .ok (.lconst 0, 1) := by decide +kernel
theorem dX8_share_14 : decode cX8_share 14 = .ok (.lconst 1, 1) := by decide +kernel
theorem dX8_share_15 : decode cX8_share 15 = .ok (.invokestatic 86, 3) := by decide +kernel
theorem dX8_share_18 : decode cX8_share 18 = .ok (.ifCond .ne 7, 3) := by decide +kernel
theorem dX8_share_21 : decode cX8_share 21 = .ok (.ldc2_w 220, 3) := by decide +kernel
theorem dX8_share_24 : decode cX8_share 24 = .ok (.lreturn, 1) := by decide +kernel
theorem dX8_share_25 : decode cX8_share 25 = .ok (.aload_n 0, 1) := by decide +kernel
theorem dX8_share_26 : decode cX8_share 26 = .ok (.invokevirtual 215, 3) := by decide +kernel
theorem dX8_share_29 : decode cX8_share 29 = .ok (.ifCond .eq 7, 3) := by decide +kernel
theorem dX8_share_32 : decode cX8_share 32 = .ok (.ldc2_w 222, 3) := by decide +kernel
theorem dX8_share_35 : decode cX8_share 35 = .ok (.lreturn, 1) := by decide +kernel
theorem dX8_share_36 : decode cX8_share 36 = .ok (.aload_n 0, 1) := by decide +kernel
theorem dX8_share_37 : decode cX8_share 37 = .ok (.getfield 174, 3) := by decide +kernel
theorem dX8_share_40 : decode cX8_share 40 = .ok (.aload_n 0, 1) := by decide +kernel
theorem dX8_share_41 : decode cX8_share 41 = .ok (.getfield 177, 3) := by decide +kernel
theorem dX8_share_44 : decode cX8_share 44 = .ok (.iadd, 1) := by decide +kernel
theorem dX8_share_45 : decode cX8_share 45 = .ok (.istore_n 2, 1) := by decide +kernel
theorem dX8_share_46 : decode cX8_share 46 = .ok (.aload_n 0, 1) := by decide +kernel
theorem dX8_share_47 : decode cX8_share 47 = .ok (.getfield 174, 3) := by decide +kernel
theorem dX8_share_50 : decode cX8_share 50 = .ok (.i2l, 1) := by decide +kernel
theorem dX8_share_51 : decode cX8_share 51 = .ok (.iload_n 2, 1) := by decide +kernel
theorem dX8_share_52 : decode cX8_share 52 = .ok (.ifCond .ne 7, 3) := by decide +kernel
theorem dX8_share_55 : decode cX8_share 55 = .ok (.lconst 1, 1) := by decide +kernel
theorem dX8_share_56 : decode cX8_share 56 = .ok (.goto 5, 3) := by decide +kernel
theorem dX8_share_59 : decode cX8_share 59 = .ok (.iload_n 2, 1) := by decide +kernel
theorem dX8_share_60 : decode cX8_share 60 = .ok (.i2l, 1) := by decide +kernel
theorem dX8_share_61 : decode cX8_share 61 = .ok (.iload_n 1, 1) := by decide +kernel
theorem dX8_share_62 : decode cX8_share 62 = .ok (.invokestatic 224, 3) := by decide +kernel
theorem dX8_share_65 : decode cX8_share 65 = .ok (.lreturn, 1) := by decide +kernel
theorem dX8_unseen_0 : decode cX8_unseen 0 = .ok (.aload_n 0, 1) := by decide +kernel
theorem dX8_unseen_1 : decode cX8_unseen 1 = .ok (.invokevirtual 206, 3) := by decide +kernel
theorem dX8_unseen_4 : decode cX8_unseen 4 = .ok (.ifCond .eq 6, 3) := by decide +kernel
theorem dX8_unseen_7 : decode cX8_unseen 7 = .ok (.bipush (-3), 2) := by decide +kernel
theorem dX8_unseen_9 : decode cX8_unseen 9 = .ok (.ireturn, 1) := by decide +kernel
theorem dX8_unseen_10 : decode cX8_unseen 10 = .ok (.aload_n 0, 1) := by decide +kernel
theorem dX8_unseen_11 : decode cX8_unseen 11 = .ok (.invokevirtual 215, 3) := by decide +kernel
theorem dX8_unseen_14 : decode cX8_unseen 14 = .ok (.ifCond .eq 6, 3) := by decide +kernel
theorem dX8_unseen_17 : decode cX8_unseen 17 = .ok (.bipush (-5), 2) := by decide +kernel
theorem dX8_unseen_19 : decode cX8_unseen 19 = .ok (.ireturn, 1) := by decide +kernel
theorem dX8_unseen_20 : decode cX8_unseen 20 = .ok (.iconst 0, 1) := by decide +kernel
theorem dX8_unseen_21 : decode cX8_unseen 21 = .ok (.istore_n 1, 1) := by decide +kernel
theorem dX8_unseen_22 : decode cX8_unseen 22 = .ok (.iconst 0, 1) := by decide +kernel
theorem dX8_unseen_23 : decode cX8_unseen 23 = .ok (.istore_n 2, 1) := by decide +kernel
theorem dX8_unseen_24 : decode cX8_unseen 24 = .ok (.iload_n 2, 1) := by decide +kernel
theorem dX8_unseen_25 : decode cX8_unseen 25 = .ok (.aload_n 0, 1) := by decide +kernel
theorem dX8_unseen_26 : decode cX8_unseen 26 = .ok (.getfield 81, 3) := by decide +kernel
theorem dX8_unseen_29 : decode cX8_unseen 29 = .ok (.if_icmp .ge 106, 3) := by decide +kernel
theorem dX8_unseen_32 : decode cX8_unseen 32 = .ok (.aload_n 0, 1) := by decide +kernel
theorem dX8_unseen_33 : decode cX8_unseen 33 = .ok (.aload_n 0, 1) := by decide +kernel
theorem dX8_unseen_34 : decode cX8_unseen 34 = .ok (.getfield 113, 3) := by decide +kernel
theorem dX8_unseen_37 : decode cX8_unseen 37 = .ok (.aload_n 0, 1) := by decide +kernel
theorem dX8_unseen_38 : decode cX8_unseen 38 = .ok (.getfield 43, 3) := by decide +kernel
theorem dX8_unseen_41 : decode cX8_unseen 41 = .ok (.iload_n 2, 1) := by decide +kernel
theorem dX8_unseen_42 : decode cX8_unseen 42 = .ok (.iaload, 1) := by decide +kernel
theorem dX8_unseen_43 : decode cX8_unseen 43 = .ok (.aload_n 0, 1) := by decide +kernel
theorem dX8_unseen_44 : decode cX8_unseen 44 = .ok (.getfield 49, 3) := by decide +kernel
theorem dX8_unseen_47 : decode cX8_unseen 47 = .ok (.iload_n 2, 1) := by decide +kernel
theorem dX8_unseen_48 : decode cX8_unseen 48 = .ok (.iaload, 1) := by decide +kernel
theorem dX8_unseen_49 : decode cX8_unseen 49 = .ok (.invokevirtual 152, 3) := by decide +kernel
theorem dX8_unseen_52 : decode cX8_unseen 52 = .ok (.istore_n 3, 1) := by decide +kernel
theorem dX8_unseen_53 : decode cX8_unseen 53 = .ok (.aload_n 0, 1) := by decide +kernel
theorem dX8_unseen_54 : decode cX8_unseen 54 = .ok (.aload_n 0, 1) := by decide +kernel
theorem dX8_unseen_55 : decode cX8_unseen 55 = .ok (.getfield 68, 3) := by decide +kernel
theorem dX8_unseen_58 : decode cX8_unseen 58 = .ok (.aload_n 0, 1) := by decide +kernel
theorem dX8_unseen_59 : decode cX8_unseen 59 = .ok (.getfield 46, 3) := by decide +kernel
theorem dX8_unseen_62 : decode cX8_unseen 62 = .ok (.iload_n 2, 1) := by decide +kernel
theorem dX8_unseen_63 : decode cX8_unseen 63 = .ok (.iaload, 1) := by decide +kernel
theorem dX8_unseen_64 : decode cX8_unseen 64 = .ok (.aload_n 0, 1) := by decide +kernel
theorem dX8_unseen_65 : decode cX8_unseen 65 = .ok (.getfield 49, 3) := by decide +kernel
theorem dX8_unseen_68 : decode cX8_unseen 68 = .ok (.iload_n 2, 1) := by decide +kernel
theorem dX8_unseen_69 : decode cX8_unseen 69 = .ok (.iaload, 1) := by decide +kernel
theorem dX8_unseen_70 : decode cX8_unseen 70 = .ok (.invokevirtual 152, 3) := by decide +kernel
theorem dX8_unseen_73 : decode cX8_unseen 73 = .ok (.istore 4, 2) := by decide +kernel
theorem dX8_unseen_75 : decode cX8_unseen 75 = .ok (.aload_n 0, 1) := by decide +kernel
theorem dX8_unseen_76 : decode cX8_unseen 76 = .ok (.getfield 22, 3) := by decide +kernel
theorem dX8_unseen_79 : decode cX8_unseen 79 = .ok (.iload_n 2, 1) := by decide +kernel
theorem dX8_unseen_80 : decode cX8_unseen 80 = .ok (.iaload, 1) := by decide +kernel
theorem dX8_unseen_81 : decode cX8_unseen 81 = .ok (.invokestatic 190, 3) := by decide +kernel
theorem dX8_unseen_84 : decode cX8_unseen 84 = .ok (.iload_n 3, 1) := by decide +kernel
theorem dX8_unseen_85 : decode cX8_unseen 85 = .ok (.invokestatic 193, 3) := by decide +kernel
theorem dX8_unseen_88 : decode cX8_unseen 88 = .ok (.aload_n 0, 1) := by decide +kernel
theorem dX8_unseen_89 : decode cX8_unseen 89 = .ok (.getfield 22, 3) := by decide +kernel
theorem dX8_unseen_92 : decode cX8_unseen 92 = .ok (.iload_n 2, 1) := by decide +kernel
theorem dX8_unseen_93 : decode cX8_unseen 93 = .ok (.iaload, 1) := by decide +kernel
theorem dX8_unseen_94 : decode cX8_unseen 94 = .ok (.invokestatic 190, 3) := by decide +kernel
theorem dX8_unseen_97 : decode cX8_unseen 97 = .ok (.iload_n 3, 1) := by decide +kernel
theorem dX8_unseen_98 : decode cX8_unseen 98 = .ok (.iload 4, 2) := by decide +kernel
theorem dX8_unseen_100 : decode cX8_unseen 100 = .ok (.iadd, 1) := by decide +kernel
theorem dX8_unseen_101 : decode cX8_unseen 101 = .ok (.invokestatic 193, 3) := by decide +kernel
theorem dX8_unseen_104 : decode cX8_unseen 104 = .ok (.if_icmp .ne 7, 3) := by decide +kernel
theorem dX8_unseen_107 : decode cX8_unseen 107 = .ok (.iconst 1, 1) := by decide +kernel
theorem dX8_unseen_108 : decode cX8_unseen 108 = .ok (.goto 4, 3) := by decide +kernel
theorem dX8_unseen_111 : decode cX8_unseen 111 = .ok (.iconst 0, 1) := by decide +kernel
theorem dX8_unseen_112 : decode cX8_unseen 112 = .ok (.istore 5, 2) := by decide +kernel
theorem dX8_unseen_114 : decode cX8_unseen 114 = .ok (.iload_n 1, 1) := by decide +kernel
theorem dX8_unseen_115 : decode cX8_unseen 115 = .ok (.iload 5, 2) := by decide +kernel
theorem dX8_unseen_117 : decode cX8_unseen 117 = .ok (.ifCond .eq 9, 3) := by decide +kernel
theorem dX8_unseen_120 : decode cX8_unseen 120 = .ok (.iconst 1, 1) := by decide +kernel
theorem dX8_unseen_121 : decode cX8_unseen 121 = .ok (.iload_n 2, 1) := by decide +kernel
theorem dX8_unseen_122 : decode cX8_unseen 122 = .ok (.ishl, 1) := by decide +kernel
theorem dX8_unseen_123 : decode cX8_unseen 123 = .ok (.goto 4, 3) := by decide +kernel
theorem dX8_unseen_126 : decode cX8_unseen 126 = .ok (.iconst 0, 1) := by decide +kernel
theorem dX8_unseen_127 : decode cX8_unseen 127 = .ok (.ior, 1) := by decide +kernel
theorem dX8_unseen_128 : decode cX8_unseen 128 = .ok (.istore_n 1, 1) := by decide +kernel
theorem dX8_unseen_129 : decode cX8_unseen 129 = .ok (.iinc 2 1, 3) := by decide +kernel
theorem dX8_unseen_132 : decode cX8_unseen 132 = .ok (.goto (-108), 3) := by decide +kernel
theorem dX8_unseen_135 : decode cX8_unseen 135 = .ok (.iload_n 1, 1) := by decide +kernel
theorem dX8_unseen_136 : decode cX8_unseen 136 = .ok (.ireturn, 1) := by decide +kernel
theorem dX8_stateOf_0 : decode cX8_stateOf 0 = .ok (.iload_n 0, 1) := by decide +kernel
theorem dX8_stateOf_1 : decode cX8_stateOf 1 = .ok (.bipush 10, 2) := by decide +kernel
theorem dX8_stateOf_3 : decode cX8_stateOf 3 = .ok (.imul, 1) := by decide +kernel
theorem dX8_stateOf_4 : decode cX8_stateOf 4 = .ok (.iload_n 1, 1) := by decide +kernel
theorem dX8_stateOf_5 : decode cX8_stateOf 5 = .ok (.iadd, 1) := by decide +kernel
theorem dX8_stateOf_6 : decode cX8_stateOf 6 = .ok (.bipush 21, 2) := by decide +kernel
theorem dX8_stateOf_8 : decode cX8_stateOf 8 = .ok (.imul, 1) := by decide +kernel
theorem dX8_stateOf_9 : decode cX8_stateOf 9 = .ok (.iload_n 2, 1) := by decide +kernel
theorem dX8_stateOf_10 : decode cX8_stateOf 10 = .ok (.iadd, 1) := by decide +kernel
theorem dX8_stateOf_11 : decode cX8_stateOf 11 = .ok (.ireturn, 1) := by decide +kernel
theorem dX8_secondsBy_0 : decode cX8_secondsBy 0 = .ok (.iload_n 3, 1) := by decide +kernel
theorem dX8_secondsBy_1 : decode cX8_secondsBy 1 = .ok (.invokestatic 190, 3) := by decide +kernel
theorem dX8_secondsBy_4 : decode cX8_secondsBy 4 = .ok (.aload_n 0, 1) := by decide +kernel
theorem dX8_secondsBy_5 : decode cX8_secondsBy 5 = .ok (.iload_n 1, 1) := by decide +kernel
theorem dX8_secondsBy_6 : decode cX8_secondsBy 6 = .ok (.iload 4, 2) := by decide +kernel
theorem dX8_secondsBy_8 : decode cX8_secondsBy 8 = .ok (.iconst 5, 1) := by decide +kernel
theorem dX8_secondsBy_9 : decode cX8_secondsBy 9 = .ok (.idiv, 1) := by decide +kernel
theorem dX8_secondsBy_10 : decode cX8_secondsBy 10 = .ok (.iload 5, 2) := by decide +kernel
theorem dX8_secondsBy_12 : decode cX8_secondsBy 12 = .ok (.invokevirtual 152, 3) := by decide +kernel
theorem dX8_secondsBy_15 : decode cX8_secondsBy 15 = .ok (.aload_n 0, 1) := by decide +kernel
theorem dX8_secondsBy_16 : decode cX8_secondsBy 16 = .ok (.iload_n 2, 1) := by decide +kernel
theorem dX8_secondsBy_17 : decode cX8_secondsBy 17 = .ok (.iload 4, 2) := by decide +kernel
theorem dX8_secondsBy_19 : decode cX8_secondsBy 19 = .ok (.iconst 5, 1) := by decide +kernel
theorem dX8_secondsBy_20 : decode cX8_secondsBy 20 = .ok (.irem, 1) := by decide +kernel
theorem dX8_secondsBy_21 : decode cX8_secondsBy 21 = .ok (.iload 5, 2) := by decide +kernel
theorem dX8_secondsBy_23 : decode cX8_secondsBy 23 = .ok (.invokevirtual 152, 3) := by decide +kernel
theorem dX8_secondsBy_26 : decode cX8_secondsBy 26 = .ok (.iadd, 1) := by decide +kernel
theorem dX8_secondsBy_27 : decode cX8_secondsBy 27 = .ok (.invokestatic 193, 3) := by decide +kernel
theorem dX8_secondsBy_30 : decode cX8_secondsBy 30 = .ok (.ireturn, 1) := by decide +kernel
theorem dX8_findQuickest_0 : decode cX8_findQuickest 0 = .ok (.iconst 0, 1) := by decide +kernel
theorem dX8_findQuickest_1 : decode cX8_findQuickest 1 = .ok (.istore 4, 2) := by decide +kernel
theorem dX8_findQuickest_3 : decode cX8_findQuickest 3 = .ok (.iload 4, 2) := by decide +kernel
theorem dX8_findQuickest_5 : decode cX8_findQuickest 5 = .ok (.bipush 25, 2) := by decide +kernel
theorem dX8_findQuickest_7 : decode cX8_findQuickest 7 = .ok (.if_icmp .ge 78, 3) := by decide +kernel
theorem dX8_findQuickest_10 : decode cX8_findQuickest 10 = .ok (.aload_n 0, 1) := by decide +kernel
theorem dX8_findQuickest_11 : decode cX8_findQuickest 11 = .ok (.getfield 58, 3) := by decide +kernel
theorem dX8_findQuickest_14 : decode cX8_findQuickest 14 = .ok (.iload 4, 2) := by decide +kernel
theorem dX8_findQuickest_16 : decode cX8_findQuickest 16 = .ok (.ldc 228, 2) := by decide +kernel
theorem dX8_findQuickest_18 : decode cX8_findQuickest 18 = .ok (.iastore, 1) := by decide +kernel
theorem dX8_findQuickest_19 : decode cX8_findQuickest 19 = .ok (.iconst 4, 1) := by decide +kernel
theorem dX8_findQuickest_20 : decode cX8_findQuickest 20 = .ok (.istore 5, 2) := by decide +kernel
theorem dX8_findQuickest_22 : decode cX8_findQuickest 22 = .ok (.iload 5, 2) := by decide +kernel
theorem dX8_findQuickest_24 : decode cX8_findQuickest 24 = .ok (.bipush 10, 2) := by decide +kernel
theorem dX8_findQuickest_26 : decode cX8_findQuickest 26 = .ok (.if_icmp .gt 53, 3) := by decide +kernel
theorem dX8_findQuickest_29 : decode cX8_findQuickest 29 = .ok (.aload_n 0, 1) := by decide +kernel
theorem dX8_findQuickest_30 : decode cX8_findQuickest 30 = .ok (.iload_n 1, 1) := by decide +kernel
theorem dX8_findQuickest_31 : decode cX8_findQuickest 31 = .ok (.iload_n 2, 1) := by decide +kernel
theorem dX8_findQuickest_32 : decode cX8_findQuickest 32 = .ok (.iload_n 3, 1) := by decide +kernel
theorem dX8_findQuickest_33 : decode cX8_findQuickest 33 = .ok (.iload 4, 2) := by decide +kernel
theorem dX8_findQuickest_35 : decode cX8_findQuickest 35 = .ok (.iload 5, 2) := by decide +kernel
theorem dX8_findQuickest_37 : decode cX8_findQuickest 37 = .ok (.invokevirtual 229, 3) := by decide +kernel
theorem dX8_findQuickest_40 : decode cX8_findQuickest 40 = .ok (.istore 6, 2) := by decide +kernel
theorem dX8_findQuickest_42 : decode cX8_findQuickest 42 = .ok (.aload_n 0, 1) := by decide +kernel
theorem dX8_findQuickest_43 : decode cX8_findQuickest 43 = .ok (.getfield 58, 3) := by decide +kernel
theorem dX8_findQuickest_46 : decode cX8_findQuickest 46 = .ok (.iload 4, 2) := by decide +kernel
theorem dX8_findQuickest_48 : decode cX8_findQuickest 48 = .ok (.iload 6, 2) := by decide +kernel
theorem dX8_findQuickest_50 : decode cX8_findQuickest 50 = .ok (.aload_n 0, 1) := by decide +kernel
theorem dX8_findQuickest_51 : decode cX8_findQuickest 51 = .ok (.getfield 58, 3) := by decide +kernel
theorem dX8_findQuickest_54 : decode cX8_findQuickest 54 = .ok (.iload 4, 2) := by decide +kernel
theorem dX8_findQuickest_56 : decode cX8_findQuickest 56 = .ok (.iaload, 1) := by decide +kernel
theorem dX8_findQuickest_57 : decode cX8_findQuickest 57 = .ok (.if_icmp .ge 8, 3) := by decide +kernel
theorem dX8_findQuickest_60 : decode cX8_findQuickest 60 = .ok (.iload 6, 2) := by decide +kernel
theorem dX8_findQuickest_62 : decode cX8_findQuickest 62 = .ok (.goto 10, 3) := by decide +kernel
theorem dX8_findQuickest_65 : decode cX8_findQuickest 65 = .ok (.aload_n 0, 1) := by decide +kernel
theorem dX8_findQuickest_66 : decode cX8_findQuickest 66 = .ok (.getfield 58, 3) := by decide +kernel
theorem dX8_findQuickest_69 : decode cX8_findQuickest 69 = .ok (.iload 4, 2) := by decide +kernel
theorem dX8_findQuickest_71 : decode cX8_findQuickest 71 = .ok (.iaload, 1) := by decide +kernel
theorem dX8_findQuickest_72 : decode cX8_findQuickest 72 = .ok (.iastore, 1) := by decide +kernel
theorem dX8_findQuickest_73 : decode cX8_findQuickest 73 = .ok (.iinc 5 1, 3) := by decide +kernel
theorem dX8_findQuickest_76 : decode cX8_findQuickest 76 = .ok (.goto (-54), 3) := by decide +kernel
theorem dX8_findQuickest_79 : decode cX8_findQuickest 79 = .ok (.iinc 4 1, 3) := by decide +kernel
theorem dX8_findQuickest_82 : decode cX8_findQuickest 82 = .ok (.goto (-79), 3) := by decide +kernel
theorem dX8_findQuickest_85 : decode cX8_findQuickest 85 = .ok (.return_, 1) := by decide +kernel
theorem dX8_secondsFrom_0 : decode cX8_secondsFrom 0 = .ok (.aload_n 0, 1) := by decide +kernel
theorem dX8_secondsFrom_1 : decode cX8_secondsFrom 1 = .ok (.iload_n 1, 1) := by decide +kernel
theorem dX8_secondsFrom_2 : decode cX8_secondsFrom 2 = .ok (.iload_n 3, 1) := by decide +kernel
theorem dX8_secondsFrom_3 : decode cX8_secondsFrom 3 = .ok (.iload 7, 2) := by decide +kernel
theorem dX8_secondsFrom_5 : decode cX8_secondsFrom 5 = .ok (.iconst 5, 1) := by decide +kernel
theorem dX8_secondsFrom_6 : decode cX8_secondsFrom 6 = .ok (.idiv, 1) := by decide +kernel
theorem dX8_secondsFrom_7 : decode cX8_secondsFrom 7 = .ok (.invokevirtual 183, 3) := by decide +kernel
theorem dX8_secondsFrom_10 : decode cX8_secondsFrom 10 = .ok (.istore 8, 2) := by decide +kernel
theorem dX8_secondsFrom_12 : decode cX8_secondsFrom 12 = .ok (.aload_n 0, 1) := by decide +kernel
theorem dX8_secondsFrom_13 : decode cX8_secondsFrom 13 = .ok (.iload_n 2, 1) := by decide +kernel
theorem dX8_secondsFrom_14 : decode cX8_secondsFrom 14 = .ok (.iload 4, 2) := by decide +kernel
theorem dX8_secondsFrom_16 : decode cX8_secondsFrom 16 = .ok (.iload 7, 2) := by decide +kernel
theorem dX8_secondsFrom_18 : decode cX8_secondsFrom 18 = .ok (.iconst 5, 1) := by decide +kernel
theorem dX8_secondsFrom_19 : decode cX8_secondsFrom 19 = .ok (.irem, 1) := by decide +kernel
theorem dX8_secondsFrom_20 : decode cX8_secondsFrom 20 = .ok (.invokevirtual 183, 3) := by decide +kernel
theorem dX8_secondsFrom_23 : decode cX8_secondsFrom 23 = .ok (.istore 9, 2) := by decide +kernel
theorem dX8_secondsFrom_25 : decode cX8_secondsFrom 25 = .ok (.iload 5, 2) := by decide +kernel
theorem dX8_secondsFrom_27 : decode cX8_secondsFrom 27 = .ok (.iload 6, 2) := by decide +kernel
theorem dX8_secondsFrom_29 : decode cX8_secondsFrom 29 = .ok (.invokestatic 186, 3) := by decide +kernel
theorem dX8_secondsFrom_32 : decode cX8_secondsFrom 32 = .ok (.istore 10, 2) := by decide +kernel
theorem dX8_secondsFrom_34 : decode cX8_secondsFrom 34 = .ok (.iload 8, 2) := by decide +kernel
theorem dX8_secondsFrom_36 : decode cX8_secondsFrom 36 = .ok (.ifCond .lt 17, 3) := by decide +kernel
theorem dX8_secondsFrom_39 : decode cX8_secondsFrom 39 = .ok (.iload 9, 2) := by decide +kernel
theorem dX8_secondsFrom_41 : decode cX8_secondsFrom 41 = .ok (.ifCond .lt 12, 3) := by decide +kernel
theorem dX8_secondsFrom_44 : decode cX8_secondsFrom 44 = .ok (.iload 10, 2) := by decide +kernel
theorem dX8_secondsFrom_46 : decode cX8_secondsFrom 46 = .ok (.aload_n 0, 1) := by decide +kernel
theorem dX8_secondsFrom_47 : decode cX8_secondsFrom 47 = .ok (.getfield 72, 3) := by decide +kernel
theorem dX8_secondsFrom_50 : decode cX8_secondsFrom 50 = .ok (.if_icmp .le 8, 3) := by decide +kernel
theorem dX8_secondsFrom_53 : decode cX8_secondsFrom 53 = .ok (.ldc 228, 2) := by decide +kernel
theorem dX8_secondsFrom_55 : decode cX8_secondsFrom 55 = .ok (.goto 25, 3) := by decide +kernel
theorem dX8_secondsFrom_58 : decode cX8_secondsFrom 58 = .ok (.aload_n 0, 1) := by decide +kernel
theorem dX8_secondsFrom_59 : decode cX8_secondsFrom 59 = .ok (.getfield 58, 3) := by decide +kernel
theorem dX8_secondsFrom_62 : decode cX8_secondsFrom 62 = .ok (.iload 7, 2) := by decide +kernel
theorem dX8_secondsFrom_64 : decode cX8_secondsFrom 64 = .ok (.iaload, 1) := by decide +kernel
theorem dX8_secondsFrom_65 : decode cX8_secondsFrom 65 = .ok (.aload_n 0, 1) := by decide +kernel
theorem dX8_secondsFrom_66 : decode cX8_secondsFrom 66 = .ok (.getfield 55, 3) := by decide +kernel
theorem dX8_secondsFrom_69 : decode cX8_secondsFrom 69 = .ok (.iload 8, 2) := by decide +kernel
theorem dX8_secondsFrom_71 : decode cX8_secondsFrom 71 = .ok (.iload 9, 2) := by decide +kernel
theorem dX8_secondsFrom_73 : decode cX8_secondsFrom 73 = .ok (.iload 10, 2) := by decide +kernel
theorem dX8_secondsFrom_75 : decode cX8_secondsFrom 75 = .ok (.invokestatic 233, 3) := by decide +kernel
theorem dX8_secondsFrom_78 : decode cX8_secondsFrom 78 = .ok (.iaload, 1) := by decide +kernel
theorem dX8_secondsFrom_79 : decode cX8_secondsFrom 79 = .ok (.iadd, 1) := by decide +kernel
theorem dX8_secondsFrom_80 : decode cX8_secondsFrom 80 = .ok (.ireturn, 1) := by decide +kernel
theorem dX8_bestFrom_0 : decode cX8_bestFrom 0 = .ok (.ldc 228, 2) := by decide +kernel
theorem dX8_bestFrom_2 : decode cX8_bestFrom 2 = .ok (.istore 7, 2) := by decide +kernel
theorem dX8_bestFrom_4 : decode cX8_bestFrom 4 = .ok (.iconst 0, 1) := by decide +kernel
theorem dX8_bestFrom_5 : decode cX8_bestFrom 5 = .ok (.istore 8, 2) := by decide +kernel
theorem dX8_bestFrom_7 : decode cX8_bestFrom 7 = .ok (.iload 8, 2) := by decide +kernel
theorem dX8_bestFrom_9 : decode cX8_bestFrom 9 = .ok (.bipush 25, 2) := by decide +kernel
theorem dX8_bestFrom_11 : decode cX8_bestFrom 11 = .ok (.if_icmp .ge 42, 3) := by decide +kernel
theorem dX8_bestFrom_14 : decode cX8_bestFrom 14 = .ok (.aload_n 0, 1) := by decide +kernel
theorem dX8_bestFrom_15 : decode cX8_bestFrom 15 = .ok (.iload_n 1, 1) := by decide +kernel
theorem dX8_bestFrom_16 : decode cX8_bestFrom 16 = .ok (.iload_n 2, 1) := by decide +kernel
theorem dX8_bestFrom_17 : decode cX8_bestFrom 17 = .ok (.iload_n 3, 1) := by decide +kernel
theorem dX8_bestFrom_18 : decode cX8_bestFrom 18 = .ok (.iload 4, 2) := by decide +kernel
theorem dX8_bestFrom_20 : decode cX8_bestFrom 20 = .ok (.iload 5, 2) := by decide +kernel
theorem dX8_bestFrom_22 : decode cX8_bestFrom 22 = .ok (.iload 6, 2) := by decide +kernel
theorem dX8_bestFrom_24 : decode cX8_bestFrom 24 = .ok (.iload 8, 2) := by decide +kernel
theorem dX8_bestFrom_26 : decode cX8_bestFrom 26 = .ok (.invokevirtual 236, 3) := by decide +kernel
theorem dX8_bestFrom_29 : decode cX8_bestFrom 29 = .ok (.istore 9, 2) := by decide +kernel
theorem dX8_bestFrom_31 : decode cX8_bestFrom 31 = .ok (.iload 9, 2) := by decide +kernel
theorem dX8_bestFrom_33 : decode cX8_bestFrom 33 = .ok (.iload 7, 2) := by decide +kernel
theorem dX8_bestFrom_35 : decode cX8_bestFrom 35 = .ok (.if_icmp .ge 8, 3) := by decide +kernel
theorem dX8_bestFrom_38 : decode cX8_bestFrom 38 = .ok (.iload 9, 2) := by decide +kernel
theorem dX8_bestFrom_40 : decode cX8_bestFrom 40 = .ok (.goto 5, 3) := by decide +kernel
theorem dX8_bestFrom_43 : decode cX8_bestFrom 43 = .ok (.iload 7, 2) := by decide +kernel
theorem dX8_bestFrom_45 : decode cX8_bestFrom 45 = .ok (.istore 7, 2) := by decide +kernel
theorem dX8_bestFrom_47 : decode cX8_bestFrom 47 = .ok (.iinc 8 1, 3) := by decide +kernel
theorem dX8_bestFrom_50 : decode cX8_bestFrom 50 = .ok (.goto (-43), 3) := by decide +kernel
theorem dX8_bestFrom_53 : decode cX8_bestFrom 53 = .ok (.iload 7, 2) := by decide +kernel
theorem dX8_bestFrom_55 : decode cX8_bestFrom 55 = .ok (.ireturn, 1) := by decide +kernel
theorem dX8_goBack_0 : decode cX8_goBack 0 = .ok (.iconst 0, 1) := by decide +kernel
theorem dX8_goBack_1 : decode cX8_goBack 1 = .ok (.istore_n 3, 1) := by decide +kernel
theorem dX8_goBack_2 : decode cX8_goBack 2 = .ok (.iload_n 3, 1) := by decide +kernel
theorem dX8_goBack_3 : decode cX8_goBack 3 = .ok (.sipush 2100, 3) := by decide +kernel
theorem dX8_goBack_6 : decode cX8_goBack 6 = .ok (.if_icmp .ge 16, 3) := by decide +kernel
theorem dX8_goBack_9 : decode cX8_goBack 9 = .ok (.aload_n 0, 1) := by decide +kernel
theorem dX8_goBack_10 : decode cX8_goBack 10 = .ok (.getfield 55, 3) := by decide +kernel
theorem dX8_goBack_13 : decode cX8_goBack 13 = .ok (.iload_n 3, 1) := by decide +kernel
theorem dX8_goBack_14 : decode cX8_goBack 14 = .ok (.iconst 0, 1) := by decide +kernel
theorem dX8_goBack_15 : decode cX8_goBack 15 = .ok (.iastore, 1) := by decide +kernel
theorem dX8_goBack_16 : decode cX8_goBack 16 = .ok (.iinc 3 1, 3) := by decide +kernel
theorem dX8_goBack_19 : decode cX8_goBack 19 = .ok (.goto (-17), 3) := by decide +kernel
theorem dX8_goBack_22 : decode cX8_goBack 22 = .ok (.aload_n 0, 1) := by decide +kernel
theorem dX8_goBack_23 : decode cX8_goBack 23 = .ok (.getfield 81, 3) := by decide +kernel
theorem dX8_goBack_26 : decode cX8_goBack 26 = .ok (.iconst 1, 1) := by decide +kernel
theorem dX8_goBack_27 : decode cX8_goBack 27 = .ok (.isub, 1) := by decide +kernel
theorem dX8_goBack_28 : decode cX8_goBack 28 = .ok (.istore_n 3, 1) := by decide +kernel
theorem dX8_goBack_29 : decode cX8_goBack 29 = .ok (.iload_n 3, 1) := by decide +kernel
theorem dX8_goBack_30 : decode cX8_goBack 30 = .ok (.ifCond .le 190, 3) := by decide +kernel
theorem dX8_goBack_33 : decode cX8_goBack 33 = .ok (.aload_n 0, 1) := by decide +kernel
theorem dX8_goBack_34 : decode cX8_goBack 34 = .ok (.iload_n 1, 1) := by decide +kernel
theorem dX8_goBack_35 : decode cX8_goBack 35 = .ok (.iload_n 2, 1) := by decide +kernel
theorem dX8_goBack_36 : decode cX8_goBack 36 = .ok (.aload_n 0, 1) := by decide +kernel
theorem dX8_goBack_37 : decode cX8_goBack 37 = .ok (.getfield 22, 3) := by decide +kernel
theorem dX8_goBack_40 : decode cX8_goBack 40 = .ok (.iload_n 3, 1) := by decide +kernel
theorem dX8_goBack_41 : decode cX8_goBack 41 = .ok (.iaload, 1) := by decide +kernel
theorem dX8_goBack_42 : decode cX8_goBack 42 = .ok (.invokevirtual 240, 3) := by decide +kernel
theorem dX8_goBack_45 : decode cX8_goBack 45 = .ok (.aload_n 0, 1) := by decide +kernel
theorem dX8_goBack_46 : decode cX8_goBack 46 = .ok (.iload_n 1, 1) := by decide +kernel
theorem dX8_goBack_47 : decode cX8_goBack 47 = .ok (.iload_n 2, 1) := by decide +kernel
theorem dX8_goBack_48 : decode cX8_goBack 48 = .ok (.aload_n 0, 1) := by decide +kernel
theorem dX8_goBack_49 : decode cX8_goBack 49 = .ok (.getfield 16, 3) := by decide +kernel
theorem dX8_goBack_52 : decode cX8_goBack 52 = .ok (.iload_n 1, 1) := by decide +kernel
theorem dX8_goBack_53 : decode cX8_goBack 53 = .ok (.iaload, 1) := by decide +kernel
theorem dX8_goBack_54 : decode cX8_goBack 54 = .ok (.aload_n 0, 1) := by decide +kernel
theorem dX8_goBack_55 : decode cX8_goBack 55 = .ok (.getfield 16, 3) := by decide +kernel
theorem dX8_goBack_58 : decode cX8_goBack 58 = .ok (.iload_n 2, 1) := by decide +kernel
theorem dX8_goBack_59 : decode cX8_goBack 59 = .ok (.iaload, 1) := by decide +kernel
theorem dX8_goBack_60 : decode cX8_goBack 60 = .ok (.iconst 0, 1) := by decide +kernel
theorem dX8_goBack_61 : decode cX8_goBack 61 = .ok (.aload_n 0, 1) := by decide +kernel
theorem dX8_goBack_62 : decode cX8_goBack 62 = .ok (.getfield 22, 3) := by decide +kernel
theorem dX8_goBack_65 : decode cX8_goBack 65 = .ok (.iload_n 3, 1) := by decide +kernel
theorem dX8_goBack_66 : decode cX8_goBack 66 = .ok (.iaload, 1) := by decide +kernel
theorem dX8_goBack_67 : decode cX8_goBack 67 = .ok (.invokevirtual 244, 3) := by decide +kernel
theorem dX8_goBack_70 : decode cX8_goBack 70 = .ok (.aload_n 0, 1) := by decide +kernel
theorem dX8_goBack_71 : decode cX8_goBack 71 = .ok (.getfield 75, 3) := by decide +kernel
theorem dX8_goBack_74 : decode cX8_goBack 74 = .ok (.iadd, 1) := by decide +kernel
theorem dX8_goBack_75 : decode cX8_goBack 75 = .ok (.istore 4, 2) := by decide +kernel
theorem dX8_goBack_77 : decode cX8_goBack 77 = .ok (.iconst 0, 1) := by decide +kernel
theorem dX8_goBack_78 : decode cX8_goBack 78 = .ok (.istore 5, 2) := by decide +kernel
theorem dX8_goBack_80 : decode cX8_goBack 80 = .ok (.iload 5, 2) := by decide +kernel
theorem dX8_goBack_82 : decode cX8_goBack 82 = .ok (.aload_n 0, 1) := by decide +kernel
theorem dX8_goBack_83 : decode cX8_goBack 83 = .ok (.getfield 16, 3) := by decide +kernel
theorem dX8_goBack_86 : decode cX8_goBack 86 = .ok (.iload_n 1, 1) := by decide +kernel
theorem dX8_goBack_87 : decode cX8_goBack 87 = .ok (.iaload, 1) := by decide +kernel
theorem dX8_goBack_88 : decode cX8_goBack 88 = .ok (.if_icmp .gt 95, 3) := by decide +kernel
theorem dX8_goBack_91 : decode cX8_goBack 91 = .ok (.iconst 0, 1) := by decide +kernel
theorem dX8_goBack_92 : decode cX8_goBack 92 = .ok (.istore 6, 2) := by decide +kernel
theorem dX8_goBack_94 : decode cX8_goBack 94 = .ok (.iload 6, 2) := by decide +kernel
theorem dX8_goBack_96 : decode cX8_goBack 96 = .ok (.aload_n 0, 1) := by decide +kernel
theorem dX8_goBack_97 : decode cX8_goBack 97 = .ok (.getfield 16, 3) := by decide +kernel
theorem dX8_goBack_100 : decode cX8_goBack 100 = .ok (.iload_n 2, 1) := by decide +kernel
theorem dX8_goBack_101 : decode cX8_goBack 101 = .ok (.iaload, 1) := by decide +kernel
theorem dX8_goBack_102 : decode cX8_goBack 102 = .ok (.if_icmp .gt 75, 3) := by decide +kernel
theorem dX8_goBack_105 : decode cX8_goBack 105 = .ok (.iconst 0, 1) := by decide +kernel
theorem dX8_goBack_106 : decode cX8_goBack 106 = .ok (.istore 7, 2) := by decide +kernel
theorem dX8_goBack_108 : decode cX8_goBack 108 = .ok (.iload 7, 2) := by decide +kernel
theorem dX8_goBack_110 : decode cX8_goBack 110 = .ok (.aload_n 0, 1) := by decide +kernel
theorem dX8_goBack_111 : decode cX8_goBack 111 = .ok (.getfield 72, 3) := by decide +kernel
theorem dX8_goBack_114 : decode cX8_goBack 114 = .ok (.if_icmp .gt 57, 3) := by decide +kernel
theorem dX8_goBack_117 : decode cX8_goBack 117 = .ok (.aload_n 0, 1) := by decide +kernel
theorem dX8_goBack_118 : decode cX8_goBack 118 = .ok (.iload_n 1, 1) := by decide +kernel
theorem dX8_goBack_119 : decode cX8_goBack 119 = .ok (.iload_n 2, 1) := by decide +kernel
theorem dX8_goBack_120 : decode cX8_goBack 120 = .ok (.iload 5, 2) := by decide +kernel
theorem dX8_goBack_122 : decode cX8_goBack 122 = .ok (.iload 6, 2) := by decide +kernel
theorem dX8_goBack_124 : decode cX8_goBack 124 = .ok (.iload 7, 2) := by decide +kernel
theorem dX8_goBack_126 : decode cX8_goBack 126 = .ok (.aload_n 0, 1) := by decide +kernel
theorem dX8_goBack_127 : decode cX8_goBack 127 = .ok (.getfield 22, 3) := by decide +kernel
theorem dX8_goBack_130 : decode cX8_goBack 130 = .ok (.iload_n 3, 1) := by decide +kernel
theorem dX8_goBack_131 : decode cX8_goBack 131 = .ok (.iaload, 1) := by decide +kernel
theorem dX8_goBack_132 : decode cX8_goBack 132 = .ok (.invokevirtual 244, 3) := by decide +kernel
theorem dX8_goBack_135 : decode cX8_goBack 135 = .ok (.istore 8, 2) := by decide +kernel
theorem dX8_goBack_137 : decode cX8_goBack 137 = .ok (.aload_n 0, 1) := by decide +kernel
theorem dX8_goBack_138 : decode cX8_goBack 138 = .ok (.getfield 52, 3) := by decide +kernel
theorem dX8_goBack_141 : decode cX8_goBack 141 = .ok (.iload 5, 2) := by decide +kernel
theorem dX8_goBack_143 : decode cX8_goBack 143 = .ok (.iload 6, 2) := by decide +kernel
theorem dX8_goBack_145 : decode cX8_goBack 145 = .ok (.iload 7, 2) := by decide +kernel
theorem dX8_goBack_147 : decode cX8_goBack 147 = .ok (.invokestatic 233, 3) := by decide +kernel
theorem dX8_goBack_150 : decode cX8_goBack 150 = .ok (.iload 8, 2) := by decide +kernel
theorem dX8_goBack_152 : decode cX8_goBack 152 = .ok (.iload 4, 2) := by decide +kernel
theorem dX8_goBack_154 : decode cX8_goBack 154 = .ok (.if_icmp .ge 8, 3) := by decide +kernel
theorem dX8_goBack_157 : decode cX8_goBack 157 = .ok (.iload 8, 2) := by decide +kernel
theorem dX8_goBack_159 : decode cX8_goBack 159 = .ok (.goto 5, 3) := by decide +kernel
theorem dX8_goBack_162 : decode cX8_goBack 162 = .ok (.iload 4, 2) := by decide +kernel
theorem dX8_goBack_164 : decode cX8_goBack 164 = .ok (.iastore, 1) := by decide +kernel
theorem dX8_goBack_165 : decode cX8_goBack 165 = .ok (.iinc 7 1, 3) := by decide +kernel
theorem dX8_goBack_168 : decode cX8_goBack 168 = .ok (.goto (-60), 3) := by decide +kernel
theorem dX8_goBack_171 : decode cX8_goBack 171 = .ok (.iinc 6 1, 3) := by decide +kernel
theorem dX8_goBack_174 : decode cX8_goBack 174 = .ok (.goto (-80), 3) := by decide +kernel
theorem dX8_goBack_177 : decode cX8_goBack 177 = .ok (.iinc 5 1, 3) := by decide +kernel
theorem dX8_goBack_180 : decode cX8_goBack 180 = .ok (.goto (-100), 3) := by decide +kernel
theorem dX8_goBack_183 : decode cX8_goBack 183 = .ok (.iconst 0, 1) := by decide +kernel
theorem dX8_goBack_184 : decode cX8_goBack 184 = .ok (.istore 5, 2) := by decide +kernel
theorem dX8_goBack_186 : decode cX8_goBack 186 = .ok (.iload 5, 2) := by decide +kernel
theorem dX8_goBack_188 : decode cX8_goBack 188 = .ok (.sipush 2100, 3) := by decide +kernel
theorem dX8_goBack_191 : decode cX8_goBack 191 = .ok (.if_icmp .ge 23, 3) := by decide +kernel
theorem dX8_goBack_194 : decode cX8_goBack 194 = .ok (.aload_n 0, 1) := by decide +kernel
theorem dX8_goBack_195 : decode cX8_goBack 195 = .ok (.getfield 55, 3) := by decide +kernel
theorem dX8_goBack_198 : decode cX8_goBack 198 = .ok (.iload 5, 2) := by decide +kernel
theorem dX8_goBack_200 : decode cX8_goBack 200 = .ok (.aload_n 0, 1) := by decide +kernel
theorem dX8_goBack_201 : decode cX8_goBack 201 = .ok (.getfield 52, 3) := by decide +kernel
theorem dX8_goBack_204 : decode cX8_goBack 204 = .ok (.iload 5, 2) := by decide +kernel
theorem dX8_goBack_206 : decode cX8_goBack 206 = .ok (.iaload, 1) := by decide +kernel
theorem dX8_goBack_207 : decode cX8_goBack 207 = .ok (.iastore, 1) := by decide +kernel
theorem dX8_goBack_208 : decode cX8_goBack 208 = .ok (.iinc 5 1, 3) := by decide +kernel
theorem dX8_goBack_211 : decode cX8_goBack 211 = .ok (.goto (-25), 3) := by decide +kernel
theorem dX8_goBack_214 : decode cX8_goBack 214 = .ok (.iinc 3 (-1), 3) := by decide +kernel
theorem dX8_goBack_217 : decode cX8_goBack 217 = .ok (.goto (-188), 3) := by decide +kernel
theorem dX8_goBack_220 : decode cX8_goBack 220 = .ok (.aload_n 0, 1) := by decide +kernel
theorem dX8_goBack_221 : decode cX8_goBack 221 = .ok (.iload_n 1, 1) := by decide +kernel
theorem dX8_goBack_222 : decode cX8_goBack 222 = .ok (.iload_n 2, 1) := by decide +kernel
theorem dX8_goBack_223 : decode cX8_goBack 223 = .ok (.aload_n 0, 1) := by decide +kernel
theorem dX8_goBack_224 : decode cX8_goBack 224 = .ok (.getfield 22, 3) := by decide +kernel
theorem dX8_goBack_227 : decode cX8_goBack 227 = .ok (.iconst 0, 1) := by decide +kernel
theorem dX8_goBack_228 : decode cX8_goBack 228 = .ok (.iaload, 1) := by decide +kernel
theorem dX8_goBack_229 : decode cX8_goBack 229 = .ok (.invokevirtual 240, 3) := by decide +kernel
theorem dX8_goBack_232 : decode cX8_goBack 232 = .ok (.return_, 1) := by decide +kernel
theorem dX8_soonestOf_0 : decode cX8_soonestOf 0 = .ok (.aload_n 0, 1) := by decide +kernel
theorem dX8_soonestOf_1 : decode cX8_soonestOf 1 = .ok (.iload_n 1, 1) := by decide +kernel
theorem dX8_soonestOf_2 : decode cX8_soonestOf 2 = .ok (.iload_n 2, 1) := by decide +kernel
theorem dX8_soonestOf_3 : decode cX8_soonestOf 3 = .ok (.invokevirtual 248, 3) := by decide +kernel
theorem dX8_soonestOf_6 : decode cX8_soonestOf 6 = .ok (.aload_n 0, 1) := by decide +kernel
theorem dX8_soonestOf_7 : decode cX8_soonestOf 7 = .ok (.iload_n 1, 1) := by decide +kernel
theorem dX8_soonestOf_8 : decode cX8_soonestOf 8 = .ok (.iload_n 2, 1) := by decide +kernel
theorem dX8_soonestOf_9 : decode cX8_soonestOf 9 = .ok (.aload_n 0, 1) := by decide +kernel
theorem dX8_soonestOf_10 : decode cX8_soonestOf 10 = .ok (.getfield 16, 3) := by decide +kernel
theorem dX8_soonestOf_13 : decode cX8_soonestOf 13 = .ok (.iload_n 1, 1) := by decide +kernel
theorem dX8_soonestOf_14 : decode cX8_soonestOf 14 = .ok (.iaload, 1) := by decide +kernel
theorem dX8_soonestOf_15 : decode cX8_soonestOf 15 = .ok (.aload_n 0, 1) := by decide +kernel
theorem dX8_soonestOf_16 : decode cX8_soonestOf 16 = .ok (.getfield 16, 3) := by decide +kernel
theorem dX8_soonestOf_19 : decode cX8_soonestOf 19 = .ok (.iload_n 2, 1) := by decide +kernel
theorem dX8_soonestOf_20 : decode cX8_soonestOf 20 = .ok (.iaload, 1) := by decide +kernel
theorem dX8_soonestOf_21 : decode cX8_soonestOf 21 = .ok (.iconst 0, 1) := by decide +kernel
theorem dX8_soonestOf_22 : decode cX8_soonestOf 22 = .ok (.aload_n 0, 1) := by decide +kernel
theorem dX8_soonestOf_23 : decode cX8_soonestOf 23 = .ok (.getfield 22, 3) := by decide +kernel
theorem dX8_soonestOf_26 : decode cX8_soonestOf 26 = .ok (.iconst 0, 1) := by decide +kernel
theorem dX8_soonestOf_27 : decode cX8_soonestOf 27 = .ok (.iaload, 1) := by decide +kernel
theorem dX8_soonestOf_28 : decode cX8_soonestOf 28 = .ok (.invokevirtual 244, 3) := by decide +kernel
theorem dX8_soonestOf_31 : decode cX8_soonestOf 31 = .ok (.istore_n 3, 1) := by decide +kernel
theorem dX8_soonestOf_32 : decode cX8_soonestOf 32 = .ok (.iload_n 3, 1) := by decide +kernel
theorem dX8_soonestOf_33 : decode cX8_soonestOf 33 = .ok (.ldc 228, 2) := by decide +kernel
theorem dX8_soonestOf_35 : decode cX8_soonestOf 35 = .ok (.if_icmp .ge 7, 3) := by decide +kernel
theorem dX8_soonestOf_38 : decode cX8_soonestOf 38 = .ok (.iload_n 3, 1) := by decide +kernel
theorem dX8_soonestOf_39 : decode cX8_soonestOf 39 = .ok (.goto 5, 3) := by decide +kernel
theorem dX8_soonestOf_42 : decode cX8_soonestOf 42 = .ok (.bipush (-6), 2) := by decide +kernel
theorem dX8_soonestOf_44 : decode cX8_soonestOf 44 = .ok (.ireturn, 1) := by decide +kernel
theorem dX8_soonest_0 : decode cX8_soonest 0 = .ok (.aload_n 0, 1) := by decide +kernel
theorem dX8_soonest_1 : decode cX8_soonest 1 = .ok (.invokevirtual 206, 3) := by decide +kernel
theorem dX8_soonest_4 : decode cX8_soonest 4 = .ok (.ifCond .eq 6, 3) := by decide +kernel
theorem dX8_soonest_7 : decode cX8_soonest 7 = .ok (.bipush (-3), 2) := by decide +kernel
theorem dX8_soonest_9 : decode cX8_soonest 9 = .ok (.ireturn, 1) := by decide +kernel
theorem dX8_soonest_10 : decode cX8_soonest 10 = .ok (.iload_n 1, 1) := by decide +kernel
theorem dX8_soonest_11 : decode cX8_soonest 11 = .ok (.i2l, 1) := by decide +kernel
theorem dX8_soonest_12 : decode cX8_soonest 12 = .ok (.lconst 0, 1) := by decide +kernel
theorem dX8_soonest_13 : decode cX8_soonest 13 = .ok (.lconst 1, 1) := by decide +kernel
theorem dX8_soonest_14 : decode cX8_soonest 14 = .ok (.invokestatic 86, 3) := by decide +kernel
theorem dX8_soonest_17 : decode cX8_soonest 17 = .ok (.ifCond .ne 6, 3) := by decide +kernel
theorem dX8_soonest_20 : decode cX8_soonest 20 = .ok (.bipush (-2), 2) := by decide +kernel
theorem dX8_soonest_22 : decode cX8_soonest 22 = .ok (.ireturn, 1) := by decide +kernel
theorem dX8_soonest_23 : decode cX8_soonest 23 = .ok (.aload_n 0, 1) := by decide +kernel
theorem dX8_soonest_24 : decode cX8_soonest 24 = .ok (.aload_n 0, 1) := by decide +kernel
theorem dX8_soonest_25 : decode cX8_soonest 25 = .ok (.getfield 113, 3) := by decide +kernel
theorem dX8_soonest_28 : decode cX8_soonest 28 = .ok (.aload_n 0, 1) := by decide +kernel
theorem dX8_soonest_29 : decode cX8_soonest 29 = .ok (.getfield 68, 3) := by decide +kernel
theorem dX8_soonest_32 : decode cX8_soonest 32 = .ok (.invokevirtual 252, 3) := by decide +kernel
theorem dX8_soonest_35 : decode cX8_soonest 35 = .ok (.istore_n 2, 1) := by decide +kernel
theorem dX8_soonest_36 : decode cX8_soonest 36 = .ok (.iload_n 2, 1) := by decide +kernel
theorem dX8_soonest_37 : decode cX8_soonest 37 = .ok (.ifCond .lt 7, 3) := by decide +kernel
theorem dX8_soonest_40 : decode cX8_soonest 40 = .ok (.iload_n 1, 1) := by decide +kernel
theorem dX8_soonest_41 : decode cX8_soonest 41 = .ok (.ifCond .ne 5, 3) := by decide +kernel
theorem dX8_soonest_44 : decode cX8_soonest 44 = .ok (.iload_n 2, 1) := by decide +kernel
theorem dX8_soonest_45 : decode cX8_soonest 45 = .ok (.ireturn, 1) := by decide +kernel
theorem dX8_soonest_46 : decode cX8_soonest 46 = .ok (.iconst 0, 1) := by decide +kernel
theorem dX8_soonest_47 : decode cX8_soonest 47 = .ok (.istore_n 3, 1) := by decide +kernel
theorem dX8_soonest_48 : decode cX8_soonest 48 = .ok (.aload_n 0, 1) := by decide +kernel
theorem dX8_soonest_49 : decode cX8_soonest 49 = .ok (.aload_n 0, 1) := by decide +kernel
theorem dX8_soonest_50 : decode cX8_soonest 50 = .ok (.getfield 113, 3) := by decide +kernel
theorem dX8_soonest_53 : decode cX8_soonest 53 = .ok (.aload_n 0, 1) := by decide +kernel
theorem dX8_soonest_54 : decode cX8_soonest 54 = .ok (.getfield 68, 3) := by decide +kernel
theorem dX8_soonest_57 : decode cX8_soonest 57 = .ok (.aload_n 0, 1) := by decide +kernel
theorem dX8_soonest_58 : decode cX8_soonest 58 = .ok (.getfield 16, 3) := by decide +kernel
theorem dX8_soonest_61 : decode cX8_soonest 61 = .ok (.aload_n 0, 1) := by decide +kernel
theorem dX8_soonest_62 : decode cX8_soonest 62 = .ok (.getfield 113, 3) := by decide +kernel
theorem dX8_soonest_65 : decode cX8_soonest 65 = .ok (.iaload, 1) := by decide +kernel
theorem dX8_soonest_66 : decode cX8_soonest 66 = .ok (.aload_n 0, 1) := by decide +kernel
theorem dX8_soonest_67 : decode cX8_soonest 67 = .ok (.getfield 16, 3) := by decide +kernel
theorem dX8_soonest_70 : decode cX8_soonest 70 = .ok (.aload_n 0, 1) := by decide +kernel
theorem dX8_soonest_71 : decode cX8_soonest 71 = .ok (.getfield 68, 3) := by decide +kernel
theorem dX8_soonest_74 : decode cX8_soonest 74 = .ok (.iaload, 1) := by decide +kernel
theorem dX8_soonest_75 : decode cX8_soonest 75 = .ok (.iconst 0, 1) := by decide +kernel
theorem dX8_soonest_76 : decode cX8_soonest 76 = .ok (.aload_n 0, 1) := by decide +kernel
theorem dX8_soonest_77 : decode cX8_soonest 77 = .ok (.getfield 22, 3) := by decide +kernel
theorem dX8_soonest_80 : decode cX8_soonest 80 = .ok (.iconst 0, 1) := by decide +kernel
theorem dX8_soonest_81 : decode cX8_soonest 81 = .ok (.iaload, 1) := by decide +kernel
theorem dX8_soonest_82 : decode cX8_soonest 82 = .ok (.iload_n 3, 1) := by decide +kernel
theorem dX8_soonest_83 : decode cX8_soonest 83 = .ok (.invokevirtual 236, 3) := by decide +kernel
theorem dX8_soonest_86 : decode cX8_soonest 86 = .ok (.iload_n 2, 1) := by decide +kernel
theorem dX8_soonest_87 : decode cX8_soonest 87 = .ok (.if_icmp .eq 9, 3) := by decide +kernel
theorem dX8_soonest_90 : decode cX8_soonest 90 = .ok (.iinc 3 1, 3) := by decide +kernel
theorem dX8_soonest_93 : decode cX8_soonest 93 = .ok (.goto (-45), 3) := by decide +kernel
theorem dX8_soonest_96 : decode cX8_soonest 96 = .ok (.iconst 4, 1) := by decide +kernel
theorem dX8_soonest_97 : decode cX8_soonest 97 = .ok (.istore 4, 2) := by decide +kernel
theorem dX8_soonest_99 : decode cX8_soonest 99 = .ok (.aload_n 0, 1) := by decide +kernel
theorem dX8_soonest_100 : decode cX8_soonest 100 = .ok (.aload_n 0, 1) := by decide +kernel
theorem dX8_soonest_101 : decode cX8_soonest 101 = .ok (.getfield 113, 3) := by decide +kernel
theorem dX8_soonest_104 : decode cX8_soonest 104 = .ok (.aload_n 0, 1) := by decide +kernel
theorem dX8_soonest_105 : decode cX8_soonest 105 = .ok (.getfield 68, 3) := by decide +kernel
theorem dX8_soonest_108 : decode cX8_soonest 108 = .ok (.aload_n 0, 1) := by decide +kernel
theorem dX8_soonest_109 : decode cX8_soonest 109 = .ok (.getfield 22, 3) := by decide +kernel
theorem dX8_soonest_112 : decode cX8_soonest 112 = .ok (.iconst 0, 1) := by decide +kernel
theorem dX8_soonest_113 : decode cX8_soonest 113 = .ok (.iaload, 1) := by decide +kernel
theorem dX8_soonest_114 : decode cX8_soonest 114 = .ok (.iload_n 3, 1) := by decide +kernel
theorem dX8_soonest_115 : decode cX8_soonest 115 = .ok (.iload 4, 2) := by decide +kernel
theorem dX8_soonest_117 : decode cX8_soonest 117 = .ok (.invokevirtual 229, 3) := by decide +kernel
theorem dX8_soonest_120 : decode cX8_soonest 120 = .ok (.aload_n 0, 1) := by decide +kernel
theorem dX8_soonest_121 : decode cX8_soonest 121 = .ok (.getfield 58, 3) := by decide +kernel
theorem dX8_soonest_124 : decode cX8_soonest 124 = .ok (.iload_n 3, 1) := by decide +kernel
theorem dX8_soonest_125 : decode cX8_soonest 125 = .ok (.iaload, 1) := by decide +kernel
theorem dX8_soonest_126 : decode cX8_soonest 126 = .ok (.if_icmp .eq 9, 3) := by decide +kernel
theorem dX8_soonest_129 : decode cX8_soonest 129 = .ok (.iinc 4 1, 3) := by decide +kernel
theorem dX8_soonest_132 : decode cX8_soonest 132 = .ok (.goto (-33), 3) := by decide +kernel
theorem dX8_soonest_135 : decode cX8_soonest 135 = .ok (.bipush 100, 2) := by decide +kernel
theorem dX8_soonest_137 : decode cX8_soonest 137 = .ok (.iload_n 3, 1) := by decide +kernel
theorem dX8_soonest_138 : decode cX8_soonest 138 = .ok (.iconst 5, 1) := by decide +kernel
theorem dX8_soonest_139 : decode cX8_soonest 139 = .ok (.idiv, 1) := by decide +kernel
theorem dX8_soonest_140 : decode cX8_soonest 140 = .ok (.imul, 1) := by decide +kernel
theorem dX8_soonest_141 : decode cX8_soonest 141 = .ok (.bipush 10, 2) := by decide +kernel
theorem dX8_soonest_143 : decode cX8_soonest 143 = .ok (.iload_n 3, 1) := by decide +kernel
theorem dX8_soonest_144 : decode cX8_soonest 144 = .ok (.iconst 5, 1) := by decide +kernel
theorem dX8_soonest_145 : decode cX8_soonest 145 = .ok (.irem, 1) := by decide +kernel
theorem dX8_soonest_146 : decode cX8_soonest 146 = .ok (.imul, 1) := by decide +kernel
theorem dX8_soonest_147 : decode cX8_soonest 147 = .ok (.iadd, 1) := by decide +kernel
theorem dX8_soonest_148 : decode cX8_soonest 148 = .ok (.iload 4, 2) := by decide +kernel
theorem dX8_soonest_150 : decode cX8_soonest 150 = .ok (.iadd, 1) := by decide +kernel
theorem dX8_soonest_151 : decode cX8_soonest 151 = .ok (.iconst 4, 1) := by decide +kernel
theorem dX8_soonest_152 : decode cX8_soonest 152 = .ok (.isub, 1) := by decide +kernel
theorem dX8_soonest_153 : decode cX8_soonest 153 = .ok (.ireturn, 1) := by decide +kernel
theorem dX8_secondsAt_0 : decode cX8_secondsAt 0 = .ok (.iconst 0, 1) := by decide +kernel
theorem dX8_secondsAt_1 : decode cX8_secondsAt 1 = .ok (.istore_n 3, 1) := by decide +kernel
theorem dX8_secondsAt_2 : decode cX8_secondsAt 2 = .ok (.iconst 0, 1) := by decide +kernel
theorem dX8_secondsAt_3 : decode cX8_secondsAt 3 = .ok (.istore 4, 2) := by decide +kernel
theorem dX8_secondsAt_5 : decode cX8_secondsAt 5 = .ok (.iload 4, 2) := by decide +kernel
theorem dX8_secondsAt_7 : decode cX8_secondsAt 7 = .ok (.aload_n 0, 1) := by decide +kernel
theorem dX8_secondsAt_8 : decode cX8_secondsAt 8 = .ok (.getfield 81, 3) := by decide +kernel
theorem dX8_secondsAt_11 : decode cX8_secondsAt 11 = .ok (.if_icmp .ge 33, 3) := by decide +kernel
theorem dX8_secondsAt_14 : decode cX8_secondsAt 14 = .ok (.iload_n 3, 1) := by decide +kernel
theorem dX8_secondsAt_15 : decode cX8_secondsAt 15 = .ok (.aload_n 0, 1) := by decide +kernel
theorem dX8_secondsAt_16 : decode cX8_secondsAt 16 = .ok (.aload_n 0, 1) := by decide +kernel
theorem dX8_secondsAt_17 : decode cX8_secondsAt 17 = .ok (.getfield 113, 3) := by decide +kernel
theorem dX8_secondsAt_20 : decode cX8_secondsAt 20 = .ok (.aload_n 0, 1) := by decide +kernel
theorem dX8_secondsAt_21 : decode cX8_secondsAt 21 = .ok (.getfield 68, 3) := by decide +kernel
theorem dX8_secondsAt_24 : decode cX8_secondsAt 24 = .ok (.aload_n 0, 1) := by decide +kernel
theorem dX8_secondsAt_25 : decode cX8_secondsAt 25 = .ok (.getfield 22, 3) := by decide +kernel
theorem dX8_secondsAt_28 : decode cX8_secondsAt 28 = .ok (.iload 4, 2) := by decide +kernel
theorem dX8_secondsAt_30 : decode cX8_secondsAt 30 = .ok (.iaload, 1) := by decide +kernel
theorem dX8_secondsAt_31 : decode cX8_secondsAt 31 = .ok (.iload_n 1, 1) := by decide +kernel
theorem dX8_secondsAt_32 : decode cX8_secondsAt 32 = .ok (.iload_n 2, 1) := by decide +kernel
theorem dX8_secondsAt_33 : decode cX8_secondsAt 33 = .ok (.invokevirtual 229, 3) := by decide +kernel
theorem dX8_secondsAt_36 : decode cX8_secondsAt 36 = .ok (.iadd, 1) := by decide +kernel
theorem dX8_secondsAt_37 : decode cX8_secondsAt 37 = .ok (.istore_n 3, 1) := by decide +kernel
theorem dX8_secondsAt_38 : decode cX8_secondsAt 38 = .ok (.iinc 4 1, 3) := by decide +kernel
theorem dX8_secondsAt_41 : decode cX8_secondsAt 41 = .ok (.goto (-36), 3) := by decide +kernel
theorem dX8_secondsAt_44 : decode cX8_secondsAt 44 = .ok (.iload_n 3, 1) := by decide +kernel
theorem dX8_secondsAt_45 : decode cX8_secondsAt 45 = .ok (.ireturn, 1) := by decide +kernel
theorem dX8_lost_0 : decode cX8_lost 0 = .ok (.aload_n 0, 1) := by decide +kernel
theorem dX8_lost_1 : decode cX8_lost 1 = .ok (.getfield 81, 3) := by decide +kernel
theorem dX8_lost_4 : decode cX8_lost 4 = .ok (.aload_n 0, 1) := by decide +kernel
theorem dX8_lost_5 : decode cX8_lost 5 = .ok (.iload_n 1, 1) := by decide +kernel
theorem dX8_lost_6 : decode cX8_lost 6 = .ok (.iload_n 2, 1) := by decide +kernel
theorem dX8_lost_7 : decode cX8_lost 7 = .ok (.aload_n 0, 1) := by decide +kernel
theorem dX8_lost_8 : decode cX8_lost 8 = .ok (.getfield 13, 3) := by decide +kernel
theorem dX8_lost_11 : decode cX8_lost 11 = .ok (.iload_n 1, 1) := by decide +kernel
theorem dX8_lost_12 : decode cX8_lost 12 = .ok (.iaload, 1) := by decide +kernel
theorem dX8_lost_13 : decode cX8_lost 13 = .ok (.invokevirtual 152, 3) := by decide +kernel
theorem dX8_lost_16 : decode cX8_lost 16 = .ok (.aload_n 0, 1) := by decide +kernel
theorem dX8_lost_17 : decode cX8_lost 17 = .ok (.iload_n 1, 1) := by decide +kernel
theorem dX8_lost_18 : decode cX8_lost 18 = .ok (.iload_n 2, 1) := by decide +kernel
theorem dX8_lost_19 : decode cX8_lost 19 = .ok (.iload_n 3, 1) := by decide +kernel
theorem dX8_lost_20 : decode cX8_lost 20 = .ok (.invokevirtual 152, 3) := by decide +kernel
theorem dX8_lost_23 : decode cX8_lost 23 = .ok (.isub, 1) := by decide +kernel
theorem dX8_lost_24 : decode cX8_lost 24 = .ok (.imul, 1) := by decide +kernel
theorem dX8_lost_25 : decode cX8_lost 25 = .ok (.ireturn, 1) := by decide +kernel
theorem dX8_oneBeat_0 : decode cX8_oneBeat 0 = .ok (.aload_n 0, 1) := by decide +kernel
theorem dX8_oneBeat_1 : decode cX8_oneBeat 1 = .ok (.invokevirtual 206, 3) := by decide +kernel
theorem dX8_oneBeat_4 : decode cX8_oneBeat 4 = .ok (.ifCond .eq 6, 3) := by decide +kernel
theorem dX8_oneBeat_7 : decode cX8_oneBeat 7 = .ok (.bipush (-3), 2) := by decide +kernel
theorem dX8_oneBeat_9 : decode cX8_oneBeat 9 = .ok (.ireturn, 1) := by decide +kernel
theorem dX8_oneBeat_10 : decode cX8_oneBeat 10 = .ok (.iload_n 1, 1) := by decide +kernel
theorem dX8_oneBeat_11 : decode cX8_oneBeat 11 = .ok (.invokestatic 149, 3) := by decide +kernel
theorem dX8_oneBeat_14 : decode cX8_oneBeat 14 = .ok (.ifCond .eq 22, 3) := by decide +kernel
theorem dX8_oneBeat_17 : decode cX8_oneBeat 17 = .ok (.iload_n 2, 1) := by decide +kernel
theorem dX8_oneBeat_18 : decode cX8_oneBeat 18 = .ok (.invokestatic 149, 3) := by decide +kernel
theorem dX8_oneBeat_21 : decode cX8_oneBeat 21 = .ok (.ifCond .eq 15, 3) := by decide +kernel
theorem dX8_oneBeat_24 : decode cX8_oneBeat 24 = .ok (.iload_n 3, 1) := by decide +kernel
theorem dX8_oneBeat_25 : decode cX8_oneBeat 25 = .ok (.i2l, 1) := by decide +kernel
theorem dX8_oneBeat_26 : decode cX8_oneBeat 26 = .ok (.lconst 0, 1) := by decide +kernel
theorem dX8_oneBeat_27 : decode cX8_oneBeat 27 = .ok (.ldc2_w 84, 3) := by decide +kernel
theorem dX8_oneBeat_30 : decode cX8_oneBeat 30 = .ok (.invokestatic 86, 3) := by decide +kernel
theorem dX8_oneBeat_33 : decode cX8_oneBeat 33 = .ok (.ifCond .ne 6, 3) := by decide +kernel
theorem dX8_oneBeat_36 : decode cX8_oneBeat 36 = .ok (.bipush (-2), 2) := by decide +kernel
theorem dX8_oneBeat_38 : decode cX8_oneBeat 38 = .ok (.ireturn, 1) := by decide +kernel
theorem dX8_oneBeat_39 : decode cX8_oneBeat 39 = .ok (.iconst 5, 1) := by decide +kernel
theorem dX8_oneBeat_40 : decode cX8_oneBeat 40 = .ok (.iload_n 1, 1) := by decide +kernel
theorem dX8_oneBeat_41 : decode cX8_oneBeat 41 = .ok (.imul, 1) := by decide +kernel
theorem dX8_oneBeat_42 : decode cX8_oneBeat 42 = .ok (.iload_n 2, 1) := by decide +kernel
theorem dX8_oneBeat_43 : decode cX8_oneBeat 43 = .ok (.iadd, 1) := by decide +kernel
theorem dX8_oneBeat_44 : decode cX8_oneBeat 44 = .ok (.istore 4, 2) := by decide +kernel
theorem dX8_oneBeat_46 : decode cX8_oneBeat 46 = .ok (.iconst 4, 1) := by decide +kernel
theorem dX8_oneBeat_47 : decode cX8_oneBeat 47 = .ok (.istore 5, 2) := by decide +kernel
theorem dX8_oneBeat_49 : decode cX8_oneBeat 49 = .ok (.iconst 4, 1) := by decide +kernel
theorem dX8_oneBeat_50 : decode cX8_oneBeat 50 = .ok (.istore 6, 2) := by decide +kernel
theorem dX8_oneBeat_52 : decode cX8_oneBeat 52 = .ok (.iload 6, 2) := by decide +kernel
theorem dX8_oneBeat_54 : decode cX8_oneBeat 54 = .ok (.bipush 10, 2) := by decide +kernel
theorem dX8_oneBeat_56 : decode cX8_oneBeat 56 = .ok (.if_icmp .gt 37, 3) := by decide +kernel
theorem dX8_oneBeat_59 : decode cX8_oneBeat 59 = .ok (.aload_n 0, 1) := by decide +kernel
theorem dX8_oneBeat_60 : decode cX8_oneBeat 60 = .ok (.iload 4, 2) := by decide +kernel
theorem dX8_oneBeat_62 : decode cX8_oneBeat 62 = .ok (.iload 6, 2) := by decide +kernel
theorem dX8_oneBeat_64 : decode cX8_oneBeat 64 = .ok (.invokevirtual 255, 3) := by decide +kernel
theorem dX8_oneBeat_67 : decode cX8_oneBeat 67 = .ok (.aload_n 0, 1) := by decide +kernel
theorem dX8_oneBeat_68 : decode cX8_oneBeat 68 = .ok (.iload 4, 2) := by decide +kernel
theorem dX8_oneBeat_70 : decode cX8_oneBeat 70 = .ok (.iload 5, 2) := by decide +kernel
theorem dX8_oneBeat_72 : decode cX8_oneBeat 72 = .ok (.invokevirtual 255, 3) := by decide +kernel
theorem dX8_oneBeat_75 : decode cX8_oneBeat 75 = .ok (.if_icmp .ge 8, 3) := by decide +kernel
theorem dX8_oneBeat_78 : decode cX8_oneBeat 78 = .ok (.iload 6, 2) := by decide +kernel
theorem dX8_oneBeat_80 : decode cX8_oneBeat 80 = .ok (.goto 5, 3) := by decide +kernel
theorem dX8_oneBeat_83 : decode cX8_oneBeat 83 = .ok (.iload 5, 2) := by decide +kernel
theorem dX8_oneBeat_85 : decode cX8_oneBeat 85 = .ok (.istore 5, 2) := by decide +kernel
theorem dX8_oneBeat_87 : decode cX8_oneBeat 87 = .ok (.iinc 6 1, 3) := by decide +kernel
theorem dX8_oneBeat_90 : decode cX8_oneBeat 90 = .ok (.goto (-38), 3) := by decide +kernel
theorem dX8_oneBeat_93 : decode cX8_oneBeat 93 = .ok (.iload_n 3, 1) := by decide +kernel
theorem dX8_oneBeat_94 : decode cX8_oneBeat 94 = .ok (.ifCond .ne 8, 3) := by decide +kernel
theorem dX8_oneBeat_97 : decode cX8_oneBeat 97 = .ok (.iload 5, 2) := by decide +kernel
theorem dX8_oneBeat_99 : decode cX8_oneBeat 99 = .ok (.goto 49, 3) := by decide +kernel
theorem dX8_oneBeat_102 : decode cX8_oneBeat 102 = .ok (.iload_n 3, 1) := by decide +kernel
theorem dX8_oneBeat_103 : decode cX8_oneBeat 103 = .ok (.iconst 1, 1) := by decide +kernel
theorem dX8_oneBeat_104 : decode cX8_oneBeat 104 = .ok (.if_icmp .ne 14, 3) := by decide +kernel
theorem dX8_oneBeat_107 : decode cX8_oneBeat 107 = .ok (.aload_n 0, 1) := by decide +kernel
theorem dX8_oneBeat_108 : decode cX8_oneBeat 108 = .ok (.iload 4, 2) := by decide +kernel
theorem dX8_oneBeat_110 : decode cX8_oneBeat 110 = .ok (.iload 5, 2) := by decide +kernel
theorem dX8_oneBeat_112 : decode cX8_oneBeat 112 = .ok (.invokevirtual 255, 3) := by decide +kernel
theorem dX8_oneBeat_115 : decode cX8_oneBeat 115 = .ok (.goto 33, 3) := by decide +kernel
theorem dX8_oneBeat_118 : decode cX8_oneBeat 118 = .ok (.iload_n 3, 1) := by decide +kernel
theorem dX8_oneBeat_119 : decode cX8_oneBeat 119 = .ok (.iconst 2, 1) := by decide +kernel
theorem dX8_oneBeat_120 : decode cX8_oneBeat 120 = .ok (.if_icmp .ne 17, 3) := by decide +kernel
theorem dX8_oneBeat_123 : decode cX8_oneBeat 123 = .ok (.aload_n 0, 1) := by decide +kernel
theorem dX8_oneBeat_124 : decode cX8_oneBeat 124 = .ok (.aload_n 0, 1) := by decide +kernel
theorem dX8_oneBeat_125 : decode cX8_oneBeat 125 = .ok (.getfield 113, 3) := by decide +kernel
theorem dX8_oneBeat_128 : decode cX8_oneBeat 128 = .ok (.iload_n 1, 1) := by decide +kernel
theorem dX8_oneBeat_129 : decode cX8_oneBeat 129 = .ok (.iload 5, 2) := by decide +kernel
theorem dX8_oneBeat_131 : decode cX8_oneBeat 131 = .ok (.invokevirtual 258, 3) := by decide +kernel
theorem dX8_oneBeat_134 : decode cX8_oneBeat 134 = .ok (.goto 14, 3) := by decide +kernel
theorem dX8_oneBeat_137 : decode cX8_oneBeat 137 = .ok (.aload_n 0, 1) := by decide +kernel
theorem dX8_oneBeat_138 : decode cX8_oneBeat 138 = .ok (.aload_n 0, 1) := by decide +kernel
theorem dX8_oneBeat_139 : decode cX8_oneBeat 139 = .ok (.getfield 68, 3) := by decide +kernel
theorem dX8_oneBeat_142 : decode cX8_oneBeat 142 = .ok (.iload_n 2, 1) := by decide +kernel
theorem dX8_oneBeat_143 : decode cX8_oneBeat 143 = .ok (.iload 5, 2) := by decide +kernel
theorem dX8_oneBeat_145 : decode cX8_oneBeat 145 = .ok (.invokevirtual 258, 3) := by decide +kernel
theorem dX8_oneBeat_148 : decode cX8_oneBeat 148 = .ok (.ireturn, 1) := by decide +kernel
theorem dX8_alone_0 : decode cX8_alone 0 = .ok (.iload_n 3, 1) := by decide +kernel
theorem dX8_alone_1 : decode cX8_alone 1 = .ok (.invokestatic 190, 3) := by decide +kernel
theorem dX8_alone_4 : decode cX8_alone 4 = .ok (.iconst 2, 1) := by decide +kernel
theorem dX8_alone_5 : decode cX8_alone 5 = .ok (.idiv, 1) := by decide +kernel
theorem dX8_alone_6 : decode cX8_alone 6 = .ok (.aload_n 0, 1) := by decide +kernel
theorem dX8_alone_7 : decode cX8_alone 7 = .ok (.iload_n 1, 1) := by decide +kernel
theorem dX8_alone_8 : decode cX8_alone 8 = .ok (.iload_n 2, 1) := by decide +kernel
theorem dX8_alone_9 : decode cX8_alone 9 = .ok (.aload_n 0, 1) := by decide +kernel
theorem dX8_alone_10 : decode cX8_alone 10 = .ok (.getfield 13, 3) := by decide +kernel
theorem dX8_alone_13 : decode cX8_alone 13 = .ok (.iload_n 1, 1) := by decide +kernel
theorem dX8_alone_14 : decode cX8_alone 14 = .ok (.iaload, 1) := by decide +kernel
theorem dX8_alone_15 : decode cX8_alone 15 = .ok (.invokevirtual 152, 3) := by decide +kernel
theorem dX8_alone_18 : decode cX8_alone 18 = .ok (.invokestatic 193, 3) := by decide +kernel
theorem dX8_alone_21 : decode cX8_alone 21 = .ok (.ireturn, 1) := by decide +kernel
theorem dX8_single_0 : decode cX8_single 0 = .ok (.aload_n 0, 1) := by decide +kernel
theorem dX8_single_1 : decode cX8_single 1 = .ok (.iload_n 1, 1) := by decide +kernel
theorem dX8_single_2 : decode cX8_single 2 = .ok (.invokevirtual 110, 3) := by decide +kernel
theorem dX8_single_5 : decode cX8_single 5 = .ok (.ifCond .ne 5, 3) := by decide +kernel
theorem dX8_single_8 : decode cX8_single 8 = .ok (.iconst (-1), 1) := by decide +kernel
theorem dX8_single_9 : decode cX8_single 9 = .ok (.ireturn, 1) := by decide +kernel
theorem dX8_single_10 : decode cX8_single 10 = .ok (.iload_n 2, 1) := by decide +kernel
theorem dX8_single_11 : decode cX8_single 11 = .ok (.invokestatic 149, 3) := by decide +kernel
theorem dX8_single_14 : decode cX8_single 14 = .ok (.ifCond .ne 6, 3) := by decide +kernel
theorem dX8_single_17 : decode cX8_single 17 = .ok (.bipush (-2), 2) := by decide +kernel
theorem dX8_single_19 : decode cX8_single 19 = .ok (.ireturn, 1) := by decide +kernel
theorem dX8_single_20 : decode cX8_single 20 = .ok (.iconst 0, 1) := by decide +kernel
theorem dX8_single_21 : decode cX8_single 21 = .ok (.istore_n 3, 1) := by decide +kernel
theorem dX8_single_22 : decode cX8_single 22 = .ok (.iconst 0, 1) := by decide +kernel
theorem dX8_single_23 : decode cX8_single 23 = .ok (.istore 4, 2) := by decide +kernel
theorem dX8_single_25 : decode cX8_single 25 = .ok (.iload 4, 2) := by decide +kernel
theorem dX8_single_27 : decode cX8_single 27 = .ok (.aload_n 0, 1) := by decide +kernel
theorem dX8_single_28 : decode cX8_single 28 = .ok (.getfield 81, 3) := by decide +kernel
theorem dX8_single_31 : decode cX8_single 31 = .ok (.if_icmp .ge 25, 3) := by decide +kernel
theorem dX8_single_34 : decode cX8_single 34 = .ok (.iload_n 3, 1) := by decide +kernel
theorem dX8_single_35 : decode cX8_single 35 = .ok (.aload_n 0, 1) := by decide +kernel
theorem dX8_single_36 : decode cX8_single 36 = .ok (.iload_n 1, 1) := by decide +kernel
theorem dX8_single_37 : decode cX8_single 37 = .ok (.iload_n 2, 1) := by decide +kernel
theorem dX8_single_38 : decode cX8_single 38 = .ok (.aload_n 0, 1) := by decide +kernel
theorem dX8_single_39 : decode cX8_single 39 = .ok (.getfield 22, 3) := by decide +kernel
theorem dX8_single_42 : decode cX8_single 42 = .ok (.iload 4, 2) := by decide +kernel
theorem dX8_single_44 : decode cX8_single 44 = .ok (.iaload, 1) := by decide +kernel
theorem dX8_single_45 : decode cX8_single 45 = .ok (.invokevirtual 261, 3) := by decide +kernel
theorem dX8_single_48 : decode cX8_single 48 = .ok (.iadd, 1) := by decide +kernel
theorem dX8_single_49 : decode cX8_single 49 = .ok (.istore_n 3, 1) := by decide +kernel
theorem dX8_single_50 : decode cX8_single 50 = .ok (.iinc 4 1, 3) := by decide +kernel
theorem dX8_single_53 : decode cX8_single 53 = .ok (.goto (-28), 3) := by decide +kernel
theorem dX8_single_56 : decode cX8_single 56 = .ok (.iload_n 3, 1) := by decide +kernel
theorem dX8_single_57 : decode cX8_single 57 = .ok (.ireturn, 1) := by decide +kernel
theorem dX8_sortOf_0 : decode cX8_sortOf 0 = .ok (.iload_n 0, 1) := by decide +kernel
theorem dX8_sortOf_1 : decode cX8_sortOf 1 = .ok (.ifCond .ne 8, 3) := by decide +kernel
theorem dX8_sortOf_4 : decode cX8_sortOf 4 = .ok (.bipush 46, 2) := by decide +kernel
theorem dX8_sortOf_6 : decode cX8_sortOf 6 = .ok (.goto 35, 3) := by decide +kernel
theorem dX8_sortOf_9 : decode cX8_sortOf 9 = .ok (.iload_n 0, 1) := by decide +kernel
theorem dX8_sortOf_10 : decode cX8_sortOf 10 = .ok (.iconst 1, 1) := by decide +kernel
theorem dX8_sortOf_11 : decode cX8_sortOf 11 = .ok (.if_icmp .ne 8, 3) := by decide +kernel
theorem dX8_sortOf_14 : decode cX8_sortOf 14 = .ok (.bipush 117, 2) := by decide +kernel
theorem dX8_sortOf_16 : decode cX8_sortOf 16 = .ok (.goto 25, 3) := by decide +kernel
theorem dX8_sortOf_19 : decode cX8_sortOf 19 = .ok (.iload_n 0, 1) := by decide +kernel
theorem dX8_sortOf_20 : decode cX8_sortOf 20 = .ok (.iconst 2, 1) := by decide +kernel
theorem dX8_sortOf_21 : decode cX8_sortOf 21 = .ok (.if_icmp .ne 8, 3) := by decide +kernel
theorem dX8_sortOf_24 : decode cX8_sortOf 24 = .ok (.bipush 85, 2) := by decide +kernel
theorem dX8_sortOf_26 : decode cX8_sortOf 26 = .ok (.goto 15, 3) := by decide +kernel
theorem dX8_sortOf_29 : decode cX8_sortOf 29 = .ok (.iload_n 0, 1) := by decide +kernel
theorem dX8_sortOf_30 : decode cX8_sortOf 30 = .ok (.iconst 3, 1) := by decide +kernel
theorem dX8_sortOf_31 : decode cX8_sortOf 31 = .ok (.if_icmp .ne 8, 3) := by decide +kernel
theorem dX8_sortOf_34 : decode cX8_sortOf 34 = .ok (.bipush 100, 2) := by decide +kernel
theorem dX8_sortOf_36 : decode cX8_sortOf 36 = .ok (.goto 5, 3) := by decide +kernel
theorem dX8_sortOf_39 : decode cX8_sortOf 39 = .ok (.bipush 68, 2) := by decide +kernel
theorem dX8_sortOf_41 : decode cX8_sortOf 41 = .ok (.ireturn, 1) := by decide +kernel
theorem dX8_sorts_0 : decode cX8_sorts 0 = .ok (.aload_n 0, 1) := by decide +kernel
theorem dX8_sorts_1 : decode cX8_sorts 1 = .ok (.invokevirtual 206, 3) := by decide +kernel
theorem dX8_sorts_4 : decode cX8_sorts 4 = .ok (.ifCond .eq 6, 3) := by decide +kernel
theorem dX8_sorts_7 : decode cX8_sorts 7 = .ok (.bipush (-3), 2) := by decide +kernel
theorem dX8_sorts_9 : decode cX8_sorts 9 = .ok (.ireturn, 1) := by decide +kernel
theorem dX8_sorts_10 : decode cX8_sorts 10 = .ok (.iload_n 1, 1) := by decide +kernel
theorem dX8_sorts_11 : decode cX8_sorts 11 = .ok (.invokestatic 149, 3) := by decide +kernel
theorem dX8_sorts_14 : decode cX8_sorts 14 = .ok (.ifCond .ne 6, 3) := by decide +kernel
theorem dX8_sorts_17 : decode cX8_sorts 17 = .ok (.bipush (-2), 2) := by decide +kernel
theorem dX8_sorts_19 : decode cX8_sorts 19 = .ok (.ireturn, 1) := by decide +kernel
theorem dX8_sorts_20 : decode cX8_sorts 20 = .ok (.iconst 0, 1) := by decide +kernel
theorem dX8_sorts_21 : decode cX8_sorts 21 = .ok (.istore_n 2, 1) := by decide +kernel
theorem dX8_sorts_22 : decode cX8_sorts 22 = .ok (.iconst 0, 1) := by decide +kernel
theorem dX8_sorts_23 : decode cX8_sorts 23 = .ok (.istore_n 3, 1) := by decide +kernel
theorem dX8_sorts_24 : decode cX8_sorts 24 = .ok (.iload_n 3, 1) := by decide +kernel
theorem dX8_sorts_25 : decode cX8_sorts 25 = .ok (.iconst 5, 1) := by decide +kernel
theorem dX8_sorts_26 : decode cX8_sorts 26 = .ok (.if_icmp .ge 91, 3) := by decide +kernel
theorem dX8_sorts_29 : decode cX8_sorts 29 = .ok (.aload_n 0, 1) := by decide +kernel
theorem dX8_sorts_30 : decode cX8_sorts 30 = .ok (.aload_n 0, 1) := by decide +kernel
theorem dX8_sorts_31 : decode cX8_sorts 31 = .ok (.getfield 113, 3) := by decide +kernel
theorem dX8_sorts_34 : decode cX8_sorts 34 = .ok (.aload_n 0, 1) := by decide +kernel
theorem dX8_sorts_35 : decode cX8_sorts 35 = .ok (.getfield 68, 3) := by decide +kernel
theorem dX8_sorts_38 : decode cX8_sorts 38 = .ok (.iload_n 3, 1) := by decide +kernel
theorem dX8_sorts_39 : decode cX8_sorts 39 = .ok (.invokestatic 264, 3) := by decide +kernel
theorem dX8_sorts_42 : decode cX8_sorts 42 = .ok (.invokevirtual 240, 3) := by decide +kernel
theorem dX8_sorts_45 : decode cX8_sorts 45 = .ok (.aload_n 0, 1) := by decide +kernel
theorem dX8_sorts_46 : decode cX8_sorts 46 = .ok (.aload_n 0, 1) := by decide +kernel
theorem dX8_sorts_47 : decode cX8_sorts 47 = .ok (.getfield 113, 3) := by decide +kernel
theorem dX8_sorts_50 : decode cX8_sorts 50 = .ok (.iload_n 1, 1) := by decide +kernel
theorem dX8_sorts_51 : decode cX8_sorts 51 = .ok (.iload_n 3, 1) := by decide +kernel
theorem dX8_sorts_52 : decode cX8_sorts 52 = .ok (.invokestatic 264, 3) := by decide +kernel
theorem dX8_sorts_55 : decode cX8_sorts 55 = .ok (.invokevirtual 261, 3) := by decide +kernel
theorem dX8_sorts_58 : decode cX8_sorts 58 = .ok (.istore 4, 2) := by decide +kernel
theorem dX8_sorts_60 : decode cX8_sorts 60 = .ok (.aload_n 0, 1) := by decide +kernel
theorem dX8_sorts_61 : decode cX8_sorts 61 = .ok (.aload_n 0, 1) := by decide +kernel
theorem dX8_sorts_62 : decode cX8_sorts 62 = .ok (.getfield 68, 3) := by decide +kernel
theorem dX8_sorts_65 : decode cX8_sorts 65 = .ok (.iload_n 1, 1) := by decide +kernel
theorem dX8_sorts_66 : decode cX8_sorts 66 = .ok (.iload_n 3, 1) := by decide +kernel
theorem dX8_sorts_67 : decode cX8_sorts 67 = .ok (.invokestatic 264, 3) := by decide +kernel
theorem dX8_sorts_70 : decode cX8_sorts 70 = .ok (.invokevirtual 261, 3) := by decide +kernel
theorem dX8_sorts_73 : decode cX8_sorts 73 = .ok (.istore 5, 2) := by decide +kernel
theorem dX8_sorts_75 : decode cX8_sorts 75 = .ok (.iload_n 2, 1) := by decide +kernel
theorem dX8_sorts_76 : decode cX8_sorts 76 = .ok (.aload_n 0, 1) := by decide +kernel
theorem dX8_sorts_77 : decode cX8_sorts 77 = .ok (.getfield 58, 3) := by decide +kernel
theorem dX8_sorts_80 : decode cX8_sorts 80 = .ok (.bipush 6, 2) := by decide +kernel
theorem dX8_sorts_82 : decode cX8_sorts 82 = .ok (.iload_n 1, 1) := by decide +kernel
theorem dX8_sorts_83 : decode cX8_sorts 83 = .ok (.imul, 1) := by decide +kernel
theorem dX8_sorts_84 : decode cX8_sorts 84 = .ok (.iaload, 1) := by decide +kernel
theorem dX8_sorts_85 : decode cX8_sorts 85 = .ok (.iload 4, 2) := by decide +kernel
theorem dX8_sorts_87 : decode cX8_sorts 87 = .ok (.iload 5, 2) := by decide +kernel
theorem dX8_sorts_89 : decode cX8_sorts 89 = .ok (.if_icmp .ge 8, 3) := by decide +kernel
theorem dX8_sorts_92 : decode cX8_sorts 92 = .ok (.iload 4, 2) := by decide +kernel
theorem dX8_sorts_94 : decode cX8_sorts 94 = .ok (.goto 5, 3) := by decide +kernel
theorem dX8_sorts_97 : decode cX8_sorts 97 = .ok (.iload 5, 2) := by decide +kernel
theorem dX8_sorts_99 : decode cX8_sorts 99 = .ok (.if_icmp .ge 9, 3) := by decide +kernel
theorem dX8_sorts_102 : decode cX8_sorts 102 = .ok (.iconst 1, 1) := by decide +kernel
theorem dX8_sorts_103 : decode cX8_sorts 103 = .ok (.iload_n 3, 1) := by decide +kernel
theorem dX8_sorts_104 : decode cX8_sorts 104 = .ok (.ishl, 1) := by decide +kernel
theorem dX8_sorts_105 : decode cX8_sorts 105 = .ok (.goto 4, 3) := by decide +kernel
theorem dX8_sorts_108 : decode cX8_sorts 108 = .ok (.iconst 0, 1) := by decide +kernel
theorem dX8_sorts_109 : decode cX8_sorts 109 = .ok (.ior, 1) := by decide +kernel
theorem dX8_sorts_110 : decode cX8_sorts 110 = .ok (.istore_n 2, 1) := by decide +kernel
theorem dX8_sorts_111 : decode cX8_sorts 111 = .ok (.iinc 3 1, 3) := by decide +kernel
theorem dX8_sorts_114 : decode cX8_sorts 114 = .ok (.goto (-90), 3) := by decide +kernel
theorem dX8_sorts_117 : decode cX8_sorts 117 = .ok (.iload_n 2, 1) := by decide +kernel
theorem dX8_sorts_118 : decode cX8_sorts 118 = .ok (.ireturn, 1) := by decide +kernel
theorem dX8_fromSix_0 : decode cX8_fromSix 0 = .ok (.bipush 6, 2) := by decide +kernel
theorem dX8_fromSix_2 : decode cX8_fromSix 2 = .ok (.iload_n 0, 1) := by decide +kernel
theorem dX8_fromSix_3 : decode cX8_fromSix 3 = .ok (.bipush 6, 2) := by decide +kernel
theorem dX8_fromSix_5 : decode cX8_fromSix 5 = .ok (.if_icmp .ge 10, 3) := by decide +kernel
theorem dX8_fromSix_8 : decode cX8_fromSix 8 = .ok (.bipush 6, 2) := by decide +kernel
theorem dX8_fromSix_10 : decode cX8_fromSix 10 = .ok (.iload_n 0, 1) := by decide +kernel
theorem dX8_fromSix_11 : decode cX8_fromSix 11 = .ok (.isub, 1) := by decide +kernel
theorem dX8_fromSix_12 : decode cX8_fromSix 12 = .ok (.goto 7, 3) := by decide +kernel
theorem dX8_fromSix_15 : decode cX8_fromSix 15 = .ok (.iload_n 0, 1) := by decide +kernel
theorem dX8_fromSix_16 : decode cX8_fromSix 16 = .ok (.bipush 6, 2) := by decide +kernel
theorem dX8_fromSix_18 : decode cX8_fromSix 18 = .ok (.isub, 1) := by decide +kernel
theorem dX8_fromSix_19 : decode cX8_fromSix 19 = .ok (.isub, 1) := by decide +kernel
theorem dX8_fromSix_20 : decode cX8_fromSix 20 = .ok (.ireturn, 1) := by decide +kernel
theorem dX8_unevenBy_0 : decode cX8_unevenBy 0 = .ok (.iconst (-1), 1) := by decide +kernel
theorem dX8_unevenBy_1 : decode cX8_unevenBy 1 = .ok (.istore 4, 2) := by decide +kernel
theorem dX8_unevenBy_3 : decode cX8_unevenBy 3 = .ok (.ldc 228, 2) := by decide +kernel
theorem dX8_unevenBy_5 : decode cX8_unevenBy 5 = .ok (.istore 5, 2) := by decide +kernel
theorem dX8_unevenBy_7 : decode cX8_unevenBy 7 = .ok (.iconst 0, 1) := by decide +kernel
theorem dX8_unevenBy_8 : decode cX8_unevenBy 8 = .ok (.istore 6, 2) := by decide +kernel
theorem dX8_unevenBy_10 : decode cX8_unevenBy 10 = .ok (.iload 6, 2) := by decide +kernel
theorem dX8_unevenBy_12 : decode cX8_unevenBy 12 = .ok (.bipush 12, 2) := by decide +kernel
theorem dX8_unevenBy_14 : decode cX8_unevenBy 14 = .ok (.if_icmp .ge 83, 3) := by decide +kernel
theorem dX8_unevenBy_17 : decode cX8_unevenBy 17 = .ok (.iload_n 1, 1) := by decide +kernel
theorem dX8_unevenBy_18 : decode cX8_unevenBy 18 = .ok (.aload_n 0, 1) := by decide +kernel
theorem dX8_unevenBy_19 : decode cX8_unevenBy 19 = .ok (.getfield 7, 3) := by decide +kernel
theorem dX8_unevenBy_22 : decode cX8_unevenBy 22 = .ok (.aload_n 0, 1) := by decide +kernel
theorem dX8_unevenBy_23 : decode cX8_unevenBy 23 = .ok (.getfield 113, 3) := by decide +kernel
theorem dX8_unevenBy_26 : decode cX8_unevenBy 26 = .ok (.iaload, 1) := by decide +kernel
theorem dX8_unevenBy_27 : decode cX8_unevenBy 27 = .ok (.imul, 1) := by decide +kernel
theorem dX8_unevenBy_28 : decode cX8_unevenBy 28 = .ok (.iload 6, 2) := by decide +kernel
theorem dX8_unevenBy_30 : decode cX8_unevenBy 30 = .ok (.invokestatic 267, 3) := by decide +kernel
theorem dX8_unevenBy_33 : decode cX8_unevenBy 33 = .ok (.imul, 1) := by decide +kernel
theorem dX8_unevenBy_34 : decode cX8_unevenBy 34 = .ok (.iload_n 2, 1) := by decide +kernel
theorem dX8_unevenBy_35 : decode cX8_unevenBy 35 = .ok (.aload_n 0, 1) := by decide +kernel
theorem dX8_unevenBy_36 : decode cX8_unevenBy 36 = .ok (.getfield 7, 3) := by decide +kernel
theorem dX8_unevenBy_39 : decode cX8_unevenBy 39 = .ok (.aload_n 0, 1) := by decide +kernel
theorem dX8_unevenBy_40 : decode cX8_unevenBy 40 = .ok (.getfield 68, 3) := by decide +kernel
theorem dX8_unevenBy_43 : decode cX8_unevenBy 43 = .ok (.iaload, 1) := by decide +kernel
theorem dX8_unevenBy_44 : decode cX8_unevenBy 44 = .ok (.imul, 1) := by decide +kernel
theorem dX8_unevenBy_45 : decode cX8_unevenBy 45 = .ok (.iload 6, 2) := by decide +kernel
theorem dX8_unevenBy_47 : decode cX8_unevenBy 47 = .ok (.iload_n 3, 1) := by decide +kernel
theorem dX8_unevenBy_48 : decode cX8_unevenBy 48 = .ok (.iadd, 1) := by decide +kernel
theorem dX8_unevenBy_49 : decode cX8_unevenBy 49 = .ok (.bipush 12, 2) := by decide +kernel
theorem dX8_unevenBy_51 : decode cX8_unevenBy 51 = .ok (.irem, 1) := by decide +kernel
theorem dX8_unevenBy_52 : decode cX8_unevenBy 52 = .ok (.invokestatic 267, 3) := by decide +kernel
theorem dX8_unevenBy_55 : decode cX8_unevenBy 55 = .ok (.imul, 1) := by decide +kernel
theorem dX8_unevenBy_56 : decode cX8_unevenBy 56 = .ok (.iadd, 1) := by decide +kernel
theorem dX8_unevenBy_57 : decode cX8_unevenBy 57 = .ok (.istore 7, 2) := by decide +kernel
theorem dX8_unevenBy_59 : decode cX8_unevenBy 59 = .ok (.iload 7, 2) := by decide +kernel
theorem dX8_unevenBy_61 : decode cX8_unevenBy 61 = .ok (.iload 4, 2) := by decide +kernel
theorem dX8_unevenBy_63 : decode cX8_unevenBy 63 = .ok (.if_icmp .le 8, 3) := by decide +kernel
theorem dX8_unevenBy_66 : decode cX8_unevenBy 66 = .ok (.iload 7, 2) := by decide +kernel
theorem dX8_unevenBy_68 : decode cX8_unevenBy 68 = .ok (.goto 5, 3) := by decide +kernel
theorem dX8_unevenBy_71 : decode cX8_unevenBy 71 = .ok (.iload 4, 2) := by decide +kernel
theorem dX8_unevenBy_73 : decode cX8_unevenBy 73 = .ok (.istore 4, 2) := by decide +kernel
theorem dX8_unevenBy_75 : decode cX8_unevenBy 75 = .ok (.iload 7, 2) := by decide +kernel
theorem dX8_unevenBy_77 : decode cX8_unevenBy 77 = .ok (.iload 5, 2) := by decide +kernel
theorem dX8_unevenBy_79 : decode cX8_unevenBy 79 = .ok (.if_icmp .ge 8, 3) := by decide +kernel
theorem dX8_unevenBy_82 : decode cX8_unevenBy 82 = .ok (.iload 7, 2) := by decide +kernel
theorem dX8_unevenBy_84 : decode cX8_unevenBy 84 = .ok (.goto 5, 3) := by decide +kernel
theorem dX8_unevenBy_87 : decode cX8_unevenBy 87 = .ok (.iload 5, 2) := by decide +kernel
theorem dX8_unevenBy_89 : decode cX8_unevenBy 89 = .ok (.istore 5, 2) := by decide +kernel
theorem dX8_unevenBy_91 : decode cX8_unevenBy 91 = .ok (.iinc 6 1, 3) := by decide +kernel
theorem dX8_unevenBy_94 : decode cX8_unevenBy 94 = .ok (.goto (-84), 3) := by decide +kernel
theorem dX8_unevenBy_97 : decode cX8_unevenBy 97 = .ok (.iload 4, 2) := by decide +kernel
theorem dX8_unevenBy_99 : decode cX8_unevenBy 99 = .ok (.iload 5, 2) := by decide +kernel
theorem dX8_unevenBy_101 : decode cX8_unevenBy 101 = .ok (.isub, 1) := by decide +kernel
theorem dX8_unevenBy_102 : decode cX8_unevenBy 102 = .ok (.ireturn, 1) := by decide +kernel
theorem dX8_uneven_0 : decode cX8_uneven 0 = .ok (.aload_n 0, 1) := by decide +kernel
theorem dX8_uneven_1 : decode cX8_uneven 1 = .ok (.invokevirtual 206, 3) := by decide +kernel
theorem dX8_uneven_4 : decode cX8_uneven 4 = .ok (.ifCond .eq 6, 3) := by decide +kernel
theorem dX8_uneven_7 : decode cX8_uneven 7 = .ok (.bipush (-3), 2) := by decide +kernel
theorem dX8_uneven_9 : decode cX8_uneven 9 = .ok (.ireturn, 1) := by decide +kernel
theorem dX8_uneven_10 : decode cX8_uneven 10 = .ok (.iload_n 1, 1) := by decide +kernel
theorem dX8_uneven_11 : decode cX8_uneven 11 = .ok (.invokestatic 149, 3) := by decide +kernel
theorem dX8_uneven_14 : decode cX8_uneven 14 = .ok (.ifCond .eq 32, 3) := by decide +kernel
theorem dX8_uneven_17 : decode cX8_uneven 17 = .ok (.iload_n 2, 1) := by decide +kernel
theorem dX8_uneven_18 : decode cX8_uneven 18 = .ok (.invokestatic 149, 3) := by decide +kernel
theorem dX8_uneven_21 : decode cX8_uneven 21 = .ok (.ifCond .eq 25, 3) := by decide +kernel
theorem dX8_uneven_24 : decode cX8_uneven 24 = .ok (.iload_n 3, 1) := by decide +kernel
theorem dX8_uneven_25 : decode cX8_uneven 25 = .ok (.i2l, 1) := by decide +kernel
theorem dX8_uneven_26 : decode cX8_uneven 26 = .ok (.lconst 0, 1) := by decide +kernel
theorem dX8_uneven_27 : decode cX8_uneven 27 = .ok (.ldc2_w 270, 3) := by decide +kernel
theorem dX8_uneven_30 : decode cX8_uneven 30 = .ok (.invokestatic 86, 3) := by decide +kernel
theorem dX8_uneven_33 : decode cX8_uneven 33 = .ok (.ifCond .eq 13, 3) := by decide +kernel
theorem dX8_uneven_36 : decode cX8_uneven 36 = .ok (.aload_n 0, 1) := by decide +kernel
theorem dX8_uneven_37 : decode cX8_uneven 37 = .ok (.iload_n 1, 1) := by decide +kernel
theorem dX8_uneven_38 : decode cX8_uneven 38 = .ok (.iload_n 2, 1) := by decide +kernel
theorem dX8_uneven_39 : decode cX8_uneven 39 = .ok (.iload_n 3, 1) := by decide +kernel
theorem dX8_uneven_40 : decode cX8_uneven 40 = .ok (.invokevirtual 272, 3) := by decide +kernel
theorem dX8_uneven_43 : decode cX8_uneven 43 = .ok (.goto 5, 3) := by decide +kernel
theorem dX8_uneven_46 : decode cX8_uneven 46 = .ok (.bipush (-2), 2) := by decide +kernel
theorem dX8_uneven_48 : decode cX8_uneven 48 = .ok (.ireturn, 1) := by decide +kernel
theorem dX8_evenest_0 : decode cX8_evenest 0 = .ok (.aload_n 0, 1) := by decide +kernel
theorem dX8_evenest_1 : decode cX8_evenest 1 = .ok (.invokevirtual 206, 3) := by decide +kernel
theorem dX8_evenest_4 : decode cX8_evenest 4 = .ok (.ifCond .eq 6, 3) := by decide +kernel
theorem dX8_evenest_7 : decode cX8_evenest 7 = .ok (.bipush (-3), 2) := by decide +kernel
theorem dX8_evenest_9 : decode cX8_evenest 9 = .ok (.ireturn, 1) := by decide +kernel
theorem dX8_evenest_10 : decode cX8_evenest 10 = .ok (.iload_n 1, 1) := by decide +kernel
theorem dX8_evenest_11 : decode cX8_evenest 11 = .ok (.invokestatic 149, 3) := by decide +kernel
theorem dX8_evenest_14 : decode cX8_evenest 14 = .ok (.ifCond .eq 10, 3) := by decide +kernel
theorem dX8_evenest_17 : decode cX8_evenest 17 = .ok (.iload_n 2, 1) := by decide +kernel
theorem dX8_evenest_18 : decode cX8_evenest 18 = .ok (.invokestatic 149, 3) := by decide +kernel
theorem dX8_evenest_21 : decode cX8_evenest 21 = .ok (.ifCond .ne 6, 3) := by decide +kernel
theorem dX8_evenest_24 : decode cX8_evenest 24 = .ok (.bipush (-2), 2) := by decide +kernel
theorem dX8_evenest_26 : decode cX8_evenest 26 = .ok (.ireturn, 1) := by decide +kernel
theorem dX8_evenest_27 : decode cX8_evenest 27 = .ok (.iconst 0, 1) := by decide +kernel
theorem dX8_evenest_28 : decode cX8_evenest 28 = .ok (.istore_n 3, 1) := by decide +kernel
theorem dX8_evenest_29 : decode cX8_evenest 29 = .ok (.iconst 1, 1) := by decide +kernel
theorem dX8_evenest_30 : decode cX8_evenest 30 = .ok (.istore 4, 2) := by decide +kernel
theorem dX8_evenest_32 : decode cX8_evenest 32 = .ok (.iload 4, 2) := by decide +kernel
theorem dX8_evenest_34 : decode cX8_evenest 34 = .ok (.bipush 12, 2) := by decide +kernel
theorem dX8_evenest_36 : decode cX8_evenest 36 = .ok (.if_icmp .ge 34, 3) := by decide +kernel
theorem dX8_evenest_39 : decode cX8_evenest 39 = .ok (.aload_n 0, 1) := by decide +kernel
theorem dX8_evenest_40 : decode cX8_evenest 40 = .ok (.iload_n 1, 1) := by decide +kernel
theorem dX8_evenest_41 : decode cX8_evenest 41 = .ok (.iload_n 2, 1) := by decide +kernel
theorem dX8_evenest_42 : decode cX8_evenest 42 = .ok (.iload 4, 2) := by decide +kernel
theorem dX8_evenest_44 : decode cX8_evenest 44 = .ok (.invokevirtual 272, 3) := by decide +kernel
theorem dX8_evenest_47 : decode cX8_evenest 47 = .ok (.aload_n 0, 1) := by decide +kernel
theorem dX8_evenest_48 : decode cX8_evenest 48 = .ok (.iload_n 1, 1) := by decide +kernel
theorem dX8_evenest_49 : decode cX8_evenest 49 = .ok (.iload_n 2, 1) := by decide +kernel
theorem dX8_evenest_50 : decode cX8_evenest 50 = .ok (.iload_n 3, 1) := by decide +kernel
theorem dX8_evenest_51 : decode cX8_evenest 51 = .ok (.invokevirtual 272, 3) := by decide +kernel
theorem dX8_evenest_54 : decode cX8_evenest 54 = .ok (.if_icmp .ge 8, 3) := by decide +kernel
theorem dX8_evenest_57 : decode cX8_evenest 57 = .ok (.iload 4, 2) := by decide +kernel
theorem dX8_evenest_59 : decode cX8_evenest 59 = .ok (.goto 4, 3) := by decide +kernel
theorem dX8_evenest_62 : decode cX8_evenest 62 = .ok (.iload_n 3, 1) := by decide +kernel
theorem dX8_evenest_63 : decode cX8_evenest 63 = .ok (.istore_n 3, 1) := by decide +kernel
theorem dX8_evenest_64 : decode cX8_evenest 64 = .ok (.iinc 4 1, 3) := by decide +kernel
theorem dX8_evenest_67 : decode cX8_evenest 67 = .ok (.goto (-35), 3) := by decide +kernel
theorem dX8_evenest_70 : decode cX8_evenest 70 = .ok (.iload_n 3, 1) := by decide +kernel
theorem dX8_evenest_71 : decode cX8_evenest 71 = .ok (.ireturn, 1) := by decide +kernel
theorem dX8_bumps_0 : decode cX8_bumps 0 = .ok (.iconst 0, 1) := by decide +kernel
theorem dX8_bumps_1 : decode cX8_bumps 1 = .ok (.istore_n 1, 1) := by decide +kernel
theorem dX8_bumps_2 : decode cX8_bumps 2 = .ok (.iconst 0, 1) := by decide +kernel
theorem dX8_bumps_3 : decode cX8_bumps 3 = .ok (.istore_n 2, 1) := by decide +kernel
theorem dX8_bumps_4 : decode cX8_bumps 4 = .ok (.iload_n 2, 1) := by decide +kernel
theorem dX8_bumps_5 : decode cX8_bumps 5 = .ok (.aload_n 0, 1) := by decide +kernel
theorem dX8_bumps_6 : decode cX8_bumps 6 = .ok (.getfield 81, 3) := by decide +kernel
theorem dX8_bumps_9 : decode cX8_bumps 9 = .ok (.if_icmp .ge 39, 3) := by decide +kernel
theorem dX8_bumps_12 : decode cX8_bumps 12 = .ok (.iload_n 1, 1) := by decide +kernel
theorem dX8_bumps_13 : decode cX8_bumps 13 = .ok (.aload_n 0, 1) := by decide +kernel
theorem dX8_bumps_14 : decode cX8_bumps 14 = .ok (.getfield 22, 3) := by decide +kernel
theorem dX8_bumps_17 : decode cX8_bumps 17 = .ok (.iload_n 2, 1) := by decide +kernel
theorem dX8_bumps_18 : decode cX8_bumps 18 = .ok (.iaload, 1) := by decide +kernel
theorem dX8_bumps_19 : decode cX8_bumps 19 = .ok (.bipush 99, 2) := by decide +kernel
theorem dX8_bumps_21 : decode cX8_bumps 21 = .ok (.if_icmp .eq 14, 3) := by decide +kernel
theorem dX8_bumps_24 : decode cX8_bumps 24 = .ok (.aload_n 0, 1) := by decide +kernel
theorem dX8_bumps_25 : decode cX8_bumps 25 = .ok (.getfield 22, 3) := by decide +kernel
theorem dX8_bumps_28 : decode cX8_bumps 28 = .ok (.iload_n 2, 1) := by decide +kernel
theorem dX8_bumps_29 : decode cX8_bumps 29 = .ok (.iaload, 1) := by decide +kernel
theorem dX8_bumps_30 : decode cX8_bumps 30 = .ok (.bipush 126, 2) := by decide +kernel
theorem dX8_bumps_32 : decode cX8_bumps 32 = .ok (.if_icmp .ne 7, 3) := by decide +kernel
theorem dX8_bumps_35 : decode cX8_bumps 35 = .ok (.iconst 1, 1) := by decide +kernel
theorem dX8_bumps_36 : decode cX8_bumps 36 = .ok (.goto 4, 3) := by decide +kernel
theorem dX8_bumps_39 : decode cX8_bumps 39 = .ok (.iconst 0, 1) := by decide +kernel
theorem dX8_bumps_40 : decode cX8_bumps 40 = .ok (.iadd, 1) := by decide +kernel
theorem dX8_bumps_41 : decode cX8_bumps 41 = .ok (.istore_n 1, 1) := by decide +kernel
theorem dX8_bumps_42 : decode cX8_bumps 42 = .ok (.iinc 2 1, 3) := by decide +kernel
theorem dX8_bumps_45 : decode cX8_bumps 45 = .ok (.goto (-41), 3) := by decide +kernel
theorem dX8_bumps_48 : decode cX8_bumps 48 = .ok (.iload_n 1, 1) := by decide +kernel
theorem dX8_bumps_49 : decode cX8_bumps 49 = .ok (.ireturn, 1) := by decide +kernel
theorem dX8_isBorne_0 : decode cX8_isBorne 0 = .ok (.iconst 0, 1) := by decide +kernel
theorem dX8_isBorne_1 : decode cX8_isBorne 1 = .ok (.istore_n 3, 1) := by decide +kernel
theorem dX8_isBorne_2 : decode cX8_isBorne 2 = .ok (.iconst 0, 1) := by decide +kernel
theorem dX8_isBorne_3 : decode cX8_isBorne 3 = .ok (.istore 4, 2) := by decide +kernel
theorem dX8_isBorne_5 : decode cX8_isBorne 5 = .ok (.iconst 1, 1) := by decide +kernel
theorem dX8_isBorne_6 : decode cX8_isBorne 6 = .ok (.istore 5, 2) := by decide +kernel
theorem dX8_isBorne_8 : decode cX8_isBorne 8 = .ok (.iconst 0, 1) := by decide +kernel
theorem dX8_isBorne_9 : decode cX8_isBorne 9 = .ok (.istore 6, 2) := by decide +kernel
theorem dX8_isBorne_11 : decode cX8_isBorne 11 = .ok (.iload 6, 2) := by decide +kernel
theorem dX8_isBorne_13 : decode cX8_isBorne 13 = .ok (.aload_n 0, 1) := by decide +kernel
theorem dX8_isBorne_14 : decode cX8_isBorne 14 = .ok (.getfield 81, 3) := by decide +kernel
theorem dX8_isBorne_17 : decode cX8_isBorne 17 = .ok (.if_icmp .ge 114, 3) := by decide +kernel
theorem dX8_isBorne_20 : decode cX8_isBorne 20 = .ok (.aload_n 0, 1) := by decide +kernel
theorem dX8_isBorne_21 : decode cX8_isBorne 21 = .ok (.getfield 22, 3) := by decide +kernel
theorem dX8_isBorne_24 : decode cX8_isBorne 24 = .ok (.iload 6, 2) := by decide +kernel
theorem dX8_isBorne_26 : decode cX8_isBorne 26 = .ok (.iaload, 1) := by decide +kernel
theorem dX8_isBorne_27 : decode cX8_isBorne 27 = .ok (.bipush 99, 2) := by decide +kernel
theorem dX8_isBorne_29 : decode cX8_isBorne 29 = .ok (.if_icmp .eq 15, 3) := by decide +kernel
theorem dX8_isBorne_32 : decode cX8_isBorne 32 = .ok (.aload_n 0, 1) := by decide +kernel
theorem dX8_isBorne_33 : decode cX8_isBorne 33 = .ok (.getfield 22, 3) := by decide +kernel
theorem dX8_isBorne_36 : decode cX8_isBorne 36 = .ok (.iload 6, 2) := by decide +kernel
theorem dX8_isBorne_38 : decode cX8_isBorne 38 = .ok (.iaload, 1) := by decide +kernel
theorem dX8_isBorne_39 : decode cX8_isBorne 39 = .ok (.bipush 126, 2) := by decide +kernel
theorem dX8_isBorne_41 : decode cX8_isBorne 41 = .ok (.if_icmp .ne 7, 3) := by decide +kernel
theorem dX8_isBorne_44 : decode cX8_isBorne 44 = .ok (.iconst 1, 1) := by decide +kernel
theorem dX8_isBorne_45 : decode cX8_isBorne 45 = .ok (.goto 4, 3) := by decide +kernel
theorem dX8_isBorne_48 : decode cX8_isBorne 48 = .ok (.iconst 0, 1) := by decide +kernel
theorem dX8_isBorne_49 : decode cX8_isBorne 49 = .ok (.istore 7, 2) := by decide +kernel
theorem dX8_isBorne_51 : decode cX8_isBorne 51 = .ok (.iload 7, 2) := by decide +kernel
theorem dX8_isBorne_53 : decode cX8_isBorne 53 = .ok (.ifCond .eq 43, 3) := by decide +kernel
theorem dX8_isBorne_56 : decode cX8_isBorne 56 = .ok (.iload_n 3, 1) := by decide +kernel
theorem dX8_isBorne_57 : decode cX8_isBorne 57 = .ok (.iload_n 1, 1) := by decide +kernel
theorem dX8_isBorne_58 : decode cX8_isBorne 58 = .ok (.iload 4, 2) := by decide +kernel
theorem dX8_isBorne_60 : decode cX8_isBorne 60 = .ok (.ishr, 1) := by decide +kernel
theorem dX8_isBorne_61 : decode cX8_isBorne 61 = .ok (.iconst 1, 1) := by decide +kernel
theorem dX8_isBorne_62 : decode cX8_isBorne 62 = .ok (.iand, 1) := by decide +kernel
theorem dX8_isBorne_63 : decode cX8_isBorne 63 = .ok (.iconst 1, 1) := by decide +kernel
theorem dX8_isBorne_64 : decode cX8_isBorne 64 = .ok (.if_icmp .ne 7, 3) := by decide +kernel
theorem dX8_isBorne_67 : decode cX8_isBorne 67 = .ok (.iconst 0, 1) := by decide +kernel
theorem dX8_isBorne_68 : decode cX8_isBorne 68 = .ok (.goto 20, 3) := by decide +kernel
theorem dX8_isBorne_71 : decode cX8_isBorne 71 = .ok (.aload_n 0, 1) := by decide +kernel
theorem dX8_isBorne_72 : decode cX8_isBorne 72 = .ok (.getfield 22, 3) := by decide +kernel
theorem dX8_isBorne_75 : decode cX8_isBorne 75 = .ok (.iload 6, 2) := by decide +kernel
theorem dX8_isBorne_77 : decode cX8_isBorne 77 = .ok (.iaload, 1) := by decide +kernel
theorem dX8_isBorne_78 : decode cX8_isBorne 78 = .ok (.bipush 99, 2) := by decide +kernel
theorem dX8_isBorne_80 : decode cX8_isBorne 80 = .ok (.if_icmp .ne 7, 3) := by decide +kernel
theorem dX8_isBorne_83 : decode cX8_isBorne 83 = .ok (.iconst 3, 1) := by decide +kernel
theorem dX8_isBorne_84 : decode cX8_isBorne 84 = .ok (.goto 4, 3) := by decide +kernel
theorem dX8_isBorne_87 : decode cX8_isBorne 87 = .ok (.iconst 2, 1) := by decide +kernel
theorem dX8_isBorne_88 : decode cX8_isBorne 88 = .ok (.iadd, 1) := by decide +kernel
theorem dX8_isBorne_89 : decode cX8_isBorne 89 = .ok (.istore_n 3, 1) := by decide +kernel
theorem dX8_isBorne_90 : decode cX8_isBorne 90 = .ok (.iinc 4 1, 3) := by decide +kernel
theorem dX8_isBorne_93 : decode cX8_isBorne 93 = .ok (.goto 15, 3) := by decide +kernel
theorem dX8_isBorne_96 : decode cX8_isBorne 96 = .ok (.iload_n 3, 1) := by decide +kernel
theorem dX8_isBorne_97 : decode cX8_isBorne 97 = .ok (.ifCond .le 9, 3) := by decide +kernel
theorem dX8_isBorne_100 : decode cX8_isBorne 100 = .ok (.iload_n 3, 1) := by decide +kernel
theorem dX8_isBorne_101 : decode cX8_isBorne 101 = .ok (.iconst 1, 1) := by decide +kernel
theorem dX8_isBorne_102 : decode cX8_isBorne 102 = .ok (.isub, 1) := by decide +kernel
theorem dX8_isBorne_103 : decode cX8_isBorne 103 = .ok (.goto 4, 3) := by decide +kernel
theorem dX8_isBorne_106 : decode cX8_isBorne 106 = .ok (.iconst 0, 1) := by decide +kernel
theorem dX8_isBorne_107 : decode cX8_isBorne 107 = .ok (.istore_n 3, 1) := by decide +kernel
theorem dX8_isBorne_108 : decode cX8_isBorne 108 = .ok (.iload 5, 2) := by decide +kernel
theorem dX8_isBorne_110 : decode cX8_isBorne 110 = .ok (.ifCond .eq 12, 3) := by decide +kernel
theorem dX8_isBorne_113 : decode cX8_isBorne 113 = .ok (.iload_n 3, 1) := by decide +kernel
theorem dX8_isBorne_114 : decode cX8_isBorne 114 = .ok (.iload_n 2, 1) := by decide +kernel
theorem dX8_isBorne_115 : decode cX8_isBorne 115 = .ok (.if_icmp .gt 7, 3) := by decide +kernel
theorem dX8_isBorne_118 : decode cX8_isBorne 118 = .ok (.iconst 1, 1) := by decide +kernel
theorem dX8_isBorne_119 : decode cX8_isBorne 119 = .ok (.goto 4, 3) := by decide +kernel
theorem dX8_isBorne_122 : decode cX8_isBorne 122 = .ok (.iconst 0, 1) := by decide +kernel
theorem dX8_isBorne_123 : decode cX8_isBorne 123 = .ok (.istore 5, 2) := by decide +kernel
theorem dX8_isBorne_125 : decode cX8_isBorne 125 = .ok (.iinc 6 1, 3) := by decide +kernel
theorem dX8_isBorne_128 : decode cX8_isBorne 128 = .ok (.goto (-117), 3) := by decide +kernel
theorem dX8_isBorne_131 : decode cX8_isBorne 131 = .ok (.iload 5, 2) := by decide +kernel
theorem dX8_isBorne_133 : decode cX8_isBorne 133 = .ok (.ireturn, 1) := by decide +kernel
theorem dX8_stretchesOf_0 : decode cX8_stretchesOf 0 = .ok (.iconst 0, 1) := by decide +kernel
theorem dX8_stretchesOf_1 : decode cX8_stretchesOf 1 = .ok (.istore_n 2, 1) := by decide +kernel
theorem dX8_stretchesOf_2 : decode cX8_stretchesOf 2 = .ok (.iconst 0, 1) := by decide +kernel
theorem dX8_stretchesOf_3 : decode cX8_stretchesOf 3 = .ok (.istore_n 3, 1) := by decide +kernel
theorem dX8_stretchesOf_4 : decode cX8_stretchesOf 4 = .ok (.iconst 0, 1) := by decide +kernel
theorem dX8_stretchesOf_5 : decode cX8_stretchesOf 5 = .ok (.istore 4, 2) := by decide +kernel
theorem dX8_stretchesOf_7 : decode cX8_stretchesOf 7 = .ok (.iload 4, 2) := by decide +kernel
theorem dX8_stretchesOf_9 : decode cX8_stretchesOf 9 = .ok (.aload_n 0, 1) := by decide +kernel
theorem dX8_stretchesOf_10 : decode cX8_stretchesOf 10 = .ok (.getfield 81, 3) := by decide +kernel
theorem dX8_stretchesOf_13 : decode cX8_stretchesOf 13 = .ok (.if_icmp .ge 56, 3) := by decide +kernel
theorem dX8_stretchesOf_16 : decode cX8_stretchesOf 16 = .ok (.aload_n 0, 1) := by decide +kernel
theorem dX8_stretchesOf_17 : decode cX8_stretchesOf 17 = .ok (.getfield 22, 3) := by decide +kernel
theorem dX8_stretchesOf_20 : decode cX8_stretchesOf 20 = .ok (.iload 4, 2) := by decide +kernel
theorem dX8_stretchesOf_22 : decode cX8_stretchesOf 22 = .ok (.iaload, 1) := by decide +kernel
theorem dX8_stretchesOf_23 : decode cX8_stretchesOf 23 = .ok (.bipush 99, 2) := by decide +kernel
theorem dX8_stretchesOf_25 : decode cX8_stretchesOf 25 = .ok (.if_icmp .eq 15, 3) := by decide +kernel
theorem dX8_stretchesOf_28 : decode cX8_stretchesOf 28 = .ok (.aload_n 0, 1) := by decide +kernel
theorem dX8_stretchesOf_29 : decode cX8_stretchesOf 29 = .ok (.getfield 22, 3) := by decide +kernel
theorem dX8_stretchesOf_32 : decode cX8_stretchesOf 32 = .ok (.iload 4, 2) := by decide +kernel
theorem dX8_stretchesOf_34 : decode cX8_stretchesOf 34 = .ok (.iaload, 1) := by decide +kernel
theorem dX8_stretchesOf_35 : decode cX8_stretchesOf 35 = .ok (.bipush 126, 2) := by decide +kernel
theorem dX8_stretchesOf_37 : decode cX8_stretchesOf 37 = .ok (.if_icmp .ne 26, 3) := by decide +kernel
theorem dX8_stretchesOf_40 : decode cX8_stretchesOf 40 = .ok (.iload_n 2, 1) := by decide +kernel
theorem dX8_stretchesOf_41 : decode cX8_stretchesOf 41 = .ok (.iload_n 1, 1) := by decide +kernel
theorem dX8_stretchesOf_42 : decode cX8_stretchesOf 42 = .ok (.iload_n 3, 1) := by decide +kernel
theorem dX8_stretchesOf_43 : decode cX8_stretchesOf 43 = .ok (.ishr, 1) := by decide +kernel
theorem dX8_stretchesOf_44 : decode cX8_stretchesOf 44 = .ok (.iconst 1, 1) := by decide +kernel
theorem dX8_stretchesOf_45 : decode cX8_stretchesOf 45 = .ok (.iand, 1) := by decide +kernel
theorem dX8_stretchesOf_46 : decode cX8_stretchesOf 46 = .ok (.iconst 1, 1) := by decide +kernel
theorem dX8_stretchesOf_47 : decode cX8_stretchesOf 47 = .ok (.if_icmp .ne 10, 3) := by decide +kernel
theorem dX8_stretchesOf_50 : decode cX8_stretchesOf 50 = .ok (.iconst 1, 1) := by decide +kernel
theorem dX8_stretchesOf_51 : decode cX8_stretchesOf 51 = .ok (.iload 4, 2) := by decide +kernel
theorem dX8_stretchesOf_53 : decode cX8_stretchesOf 53 = .ok (.ishl, 1) := by decide +kernel
theorem dX8_stretchesOf_54 : decode cX8_stretchesOf 54 = .ok (.goto 4, 3) := by decide +kernel
theorem dX8_stretchesOf_57 : decode cX8_stretchesOf 57 = .ok (.iconst 0, 1) := by decide +kernel
theorem dX8_stretchesOf_58 : decode cX8_stretchesOf 58 = .ok (.ior, 1) := by decide +kernel
theorem dX8_stretchesOf_59 : decode cX8_stretchesOf 59 = .ok (.istore_n 2, 1) := by decide +kernel
theorem dX8_stretchesOf_60 : decode cX8_stretchesOf 60 = .ok (.iinc 3 1, 3) := by decide +kernel
theorem dX8_stretchesOf_63 : decode cX8_stretchesOf 63 = .ok (.iinc 4 1, 3) := by decide +kernel
theorem dX8_stretchesOf_66 : decode cX8_stretchesOf 66 = .ok (.goto (-59), 3) := by decide +kernel
theorem dX8_stretchesOf_69 : decode cX8_stretchesOf 69 = .ok (.iload_n 2, 1) := by decide +kernel
theorem dX8_stretchesOf_70 : decode cX8_stretchesOf 70 = .ok (.ireturn, 1) := by decide +kernel
theorem dX8_calls_0 : decode cX8_calls 0 = .ok (.iload_n 1, 1) := by decide +kernel
theorem dX8_calls_1 : decode cX8_calls 1 = .ok (.i2l, 1) := by decide +kernel
theorem dX8_calls_2 : decode cX8_calls 2 = .ok (.lconst 0, 1) := by decide +kernel
theorem dX8_calls_3 : decode cX8_calls 3 = .ok (.ldc2_w 97, 3) := by decide +kernel
theorem dX8_calls_6 : decode cX8_calls 6 = .ok (.invokestatic 86, 3) := by decide +kernel
theorem dX8_calls_9 : decode cX8_calls 9 = .ok (.ifCond .eq 13, 3) := by decide +kernel
theorem dX8_calls_12 : decode cX8_calls 12 = .ok (.iload_n 2, 1) := by decide +kernel
theorem dX8_calls_13 : decode cX8_calls 13 = .ok (.i2l, 1) := by decide +kernel
theorem dX8_calls_14 : decode cX8_calls 14 = .ok (.lconst 0, 1) := by decide +kernel
theorem dX8_calls_15 : decode cX8_calls 15 = .ok (.lconst 1, 1) := by decide +kernel
theorem dX8_calls_16 : decode cX8_calls 16 = .ok (.invokestatic 86, 3) := by decide +kernel
theorem dX8_calls_19 : decode cX8_calls 19 = .ok (.ifCond .ne 6, 3) := by decide +kernel
theorem dX8_calls_22 : decode cX8_calls 22 = .ok (.bipush (-2), 2) := by decide +kernel
theorem dX8_calls_24 : decode cX8_calls 24 = .ok (.ireturn, 1) := by decide +kernel
theorem dX8_calls_25 : decode cX8_calls 25 = .ok (.aload_n 0, 1) := by decide +kernel
theorem dX8_calls_26 : decode cX8_calls 26 = .ok (.invokevirtual 275, 3) := by decide +kernel
theorem dX8_calls_29 : decode cX8_calls 29 = .ok (.bipush 12, 2) := by decide +kernel
theorem dX8_calls_31 : decode cX8_calls 31 = .ok (.if_icmp .le 6, 3) := by decide +kernel
theorem dX8_calls_34 : decode cX8_calls 34 = .ok (.bipush (-4), 2) := by decide +kernel
theorem dX8_calls_36 : decode cX8_calls 36 = .ok (.ireturn, 1) := by decide +kernel
theorem dX8_calls_37 : decode cX8_calls 37 = .ok (.bipush (-6), 2) := by decide +kernel
theorem dX8_calls_39 : decode cX8_calls 39 = .ok (.istore_n 3, 1) := by decide +kernel
theorem dX8_calls_40 : decode cX8_calls 40 = .ok (.iconst 0, 1) := by decide +kernel
theorem dX8_calls_41 : decode cX8_calls 41 = .ok (.istore 4, 2) := by decide +kernel
theorem dX8_calls_43 : decode cX8_calls 43 = .ok (.iload 4, 2) := by decide +kernel
theorem dX8_calls_45 : decode cX8_calls 45 = .ok (.iconst 1, 1) := by decide +kernel
theorem dX8_calls_46 : decode cX8_calls 46 = .ok (.aload_n 0, 1) := by decide +kernel
theorem dX8_calls_47 : decode cX8_calls 47 = .ok (.invokevirtual 275, 3) := by decide +kernel
theorem dX8_calls_50 : decode cX8_calls 50 = .ok (.ishl, 1) := by decide +kernel
theorem dX8_calls_51 : decode cX8_calls 51 = .ok (.if_icmp .ge 54, 3) := by decide +kernel
theorem dX8_calls_54 : decode cX8_calls 54 = .ok (.iload_n 3, 1) := by decide +kernel
theorem dX8_calls_55 : decode cX8_calls 55 = .ok (.ifCond .lt 15, 3) := by decide +kernel
theorem dX8_calls_58 : decode cX8_calls 58 = .ok (.iload 4, 2) := by decide +kernel
theorem dX8_calls_60 : decode cX8_calls 60 = .ok (.invokestatic 106, 3) := by decide +kernel
theorem dX8_calls_63 : decode cX8_calls 63 = .ok (.iload_n 3, 1) := by decide +kernel
theorem dX8_calls_64 : decode cX8_calls 64 = .ok (.invokestatic 106, 3) := by decide +kernel
theorem dX8_calls_67 : decode cX8_calls 67 = .ok (.if_icmp .ge 7, 3) := by decide +kernel
theorem dX8_calls_70 : decode cX8_calls 70 = .ok (.iconst 1, 1) := by decide +kernel
theorem dX8_calls_71 : decode cX8_calls 71 = .ok (.goto 4, 3) := by decide +kernel
theorem dX8_calls_74 : decode cX8_calls 74 = .ok (.iconst 0, 1) := by decide +kernel
theorem dX8_calls_75 : decode cX8_calls 75 = .ok (.istore 5, 2) := by decide +kernel
theorem dX8_calls_77 : decode cX8_calls 77 = .ok (.iload 5, 2) := by decide +kernel
theorem dX8_calls_79 : decode cX8_calls 79 = .ok (.ifCond .eq 18, 3) := by decide +kernel
theorem dX8_calls_82 : decode cX8_calls 82 = .ok (.aload_n 0, 1) := by decide +kernel
theorem dX8_calls_83 : decode cX8_calls 83 = .ok (.iload 4, 2) := by decide +kernel
theorem dX8_calls_85 : decode cX8_calls 85 = .ok (.iload_n 1, 1) := by decide +kernel
theorem dX8_calls_86 : decode cX8_calls 86 = .ok (.invokevirtual 278, 3) := by decide +kernel
theorem dX8_calls_89 : decode cX8_calls 89 = .ok (.ifCond .eq 8, 3) := by decide +kernel
theorem dX8_calls_92 : decode cX8_calls 92 = .ok (.iload 4, 2) := by decide +kernel
theorem dX8_calls_94 : decode cX8_calls 94 = .ok (.goto 4, 3) := by decide +kernel
theorem dX8_calls_97 : decode cX8_calls 97 = .ok (.iload_n 3, 1) := by decide +kernel
theorem dX8_calls_98 : decode cX8_calls 98 = .ok (.istore_n 3, 1) := by decide +kernel
theorem dX8_calls_99 : decode cX8_calls 99 = .ok (.iinc 4 1, 3) := by decide +kernel
theorem dX8_calls_102 : decode cX8_calls 102 = .ok (.goto (-59), 3) := by decide +kernel
theorem dX8_calls_105 : decode cX8_calls 105 = .ok (.iload_n 2, 1) := by decide +kernel
theorem dX8_calls_106 : decode cX8_calls 106 = .ok (.ifCond .ne 10, 3) := by decide +kernel
theorem dX8_calls_109 : decode cX8_calls 109 = .ok (.iload_n 3, 1) := by decide +kernel
theorem dX8_calls_110 : decode cX8_calls 110 = .ok (.invokestatic 106, 3) := by decide +kernel
theorem dX8_calls_113 : decode cX8_calls 113 = .ok (.goto 8, 3) := by decide +kernel
theorem dX8_calls_116 : decode cX8_calls 116 = .ok (.aload_n 0, 1) := by decide +kernel
theorem dX8_calls_117 : decode cX8_calls 117 = .ok (.iload_n 3, 1) := by decide +kernel
theorem dX8_calls_118 : decode cX8_calls 118 = .ok (.invokevirtual 282, 3) := by decide +kernel
theorem dX8_calls_121 : decode cX8_calls 121 = .ok (.ireturn, 1) := by decide +kernel
theorem dX8_worth_0 : decode cX8_worth 0 = .ok (.aload_n 0, 1) := by decide +kernel
theorem dX8_worth_1 : decode cX8_worth 1 = .ok (.invokevirtual 206, 3) := by decide +kernel
theorem dX8_worth_4 : decode cX8_worth 4 = .ok (.ifCond .eq 6, 3) := by decide +kernel
theorem dX8_worth_7 : decode cX8_worth 7 = .ok (.bipush (-3), 2) := by decide +kernel
theorem dX8_worth_9 : decode cX8_worth 9 = .ok (.ireturn, 1) := by decide +kernel
theorem dX8_worth_10 : decode cX8_worth 10 = .ok (.aload_n 0, 1) := by decide +kernel
theorem dX8_worth_11 : decode cX8_worth 11 = .ok (.invokevirtual 142, 3) := by decide +kernel
