theorem dY_offer_126 : decode cY_offer 126 = .ok (.getfield 22, 3) := by decide +kernel
theorem dY_offer_129 : decode cY_offer 129 = .ok (.iload 7, 2) := by decide +kernel
theorem dY_offer_131 : decode cY_offer 131 = .ok (.iaload, 1) := by decide +kernel
theorem dY_offer_132 : decode cY_offer 132 = .ok (.aload_n 0, 1) := by decide +kernel
theorem dY_offer_133 : decode cY_offer 133 = .ok (.getfield 25, 3) := by decide +kernel
theorem dY_offer_136 : decode cY_offer 136 = .ok (.iload 7, 2) := by decide +kernel
theorem dY_offer_138 : decode cY_offer 138 = .ok (.iaload, 1) := by decide +kernel
theorem dY_offer_139 : decode cY_offer 139 = .ok (.aload_n 0, 1) := by decide +kernel
theorem dY_offer_140 : decode cY_offer 140 = .ok (.getfield 32, 3) := by decide +kernel
theorem dY_offer_143 : decode cY_offer 143 = .ok (.iload 7, 2) := by decide +kernel
theorem dY_offer_145 : decode cY_offer 145 = .ok (.iaload, 1) := by decide +kernel
theorem dY_offer_146 : decode cY_offer 146 = .ok (.invokevirtual 77, 3) := by decide +kernel
theorem dY_offer_149 : decode cY_offer 149 = .ok (.aload_n 0, 1) := by decide +kernel
theorem dY_offer_150 : decode cY_offer 150 = .ok (.iload 7, 2) := by decide +kernel
theorem dY_offer_152 : decode cY_offer 152 = .ok (.invokevirtual 81, 3) := by decide +kernel
theorem dY_offer_155 : decode cY_offer 155 = .ok (.aload_n 0, 1) := by decide +kernel
theorem dY_offer_156 : decode cY_offer 156 = .ok (.invokevirtual 73, 3) := by decide +kernel
theorem dY_offer_159 : decode cY_offer 159 = .ok (.istore 7, 2) := by decide +kernel
theorem dY_offer_161 : decode cY_offer 161 = .ok (.goto (-42), 3) := by decide +kernel
theorem dY_offer_164 : decode cY_offer 164 = .ok (.aload_n 0, 1) := by decide +kernel
theorem dY_offer_165 : decode cY_offer 165 = .ok (.aload_n 0, 1) := by decide +kernel
theorem dY_offer_166 : decode cY_offer 166 = .ok (.getfield 49, 3) := by decide +kernel
theorem dY_offer_169 : decode cY_offer 169 = .ok (.aload_n 0, 1) := by decide +kernel
theorem dY_offer_170 : decode cY_offer 170 = .ok (.getfield 62, 3) := by decide +kernel
theorem dY_offer_173 : decode cY_offer 173 = .ok (.if_icmp .le 10, 3) := by decide +kernel
theorem dY_offer_176 : decode cY_offer 176 = .ok (.aload_n 0, 1) := by decide +kernel
theorem dY_offer_177 : decode cY_offer 177 = .ok (.getfield 49, 3) := by decide +kernel
theorem dY_offer_180 : decode cY_offer 180 = .ok (.goto 7, 3) := by decide +kernel
theorem dY_offer_183 : decode cY_offer 183 = .ok (.aload_n 0, 1) := by decide +kernel
theorem dY_offer_184 : decode cY_offer 184 = .ok (.getfield 62, 3) := by decide +kernel
theorem dY_offer_187 : decode cY_offer 187 = .ok (.putfield 62, 3) := by decide +kernel
theorem dY_offer_190 : decode cY_offer 190 = .ok (.aload_n 0, 1) := by decide +kernel
theorem dY_offer_191 : decode cY_offer 191 = .ok (.getfield 52, 3) := by decide +kernel
theorem dY_offer_194 : decode cY_offer 194 = .ok (.iload 6, 2) := by decide +kernel
theorem dY_offer_196 : decode cY_offer 196 = .ok (.isub, 1) := by decide +kernel
theorem dY_offer_197 : decode cY_offer 197 = .ok (.ireturn, 1) := by decide +kernel
theorem dY_known_0 : decode cY_known 0 = .ok (.aload_n 0, 1) := by decide +kernel
theorem dY_known_1 : decode cY_known 1 = .ok (.iconst 0, 1) := by decide +kernel
theorem dY_known_2 : decode cY_known 2 = .ok (.putfield 35, 3) := by decide +kernel
theorem dY_known_5 : decode cY_known 5 = .ok (.iload_n 1, 1) := by decide +kernel
theorem dY_known_6 : decode cY_known 6 = .ok (.ifCond .lt 33, 3) := by decide +kernel
theorem dY_known_9 : decode cY_known 9 = .ok (.iload_n 1, 1) := by decide +kernel
theorem dY_known_10 : decode cY_known 10 = .ok (.bipush 8, 2) := by decide +kernel
theorem dY_known_12 : decode cY_known 12 = .ok (.if_icmp .ge 27, 3) := by decide +kernel
theorem dY_known_15 : decode cY_known 15 = .ok (.iload_n 2, 1) := by decide +kernel
theorem dY_known_16 : decode cY_known 16 = .ok (.ifCond .le 23, 3) := by decide +kernel
theorem dY_known_19 : decode cY_known 19 = .ok (.iload_n 2, 1) := by decide +kernel
theorem dY_known_20 : decode cY_known 20 = .ok (.sipush 256, 3) := by decide +kernel
theorem dY_known_23 : decode cY_known 23 = .ok (.if_icmp .ge 16, 3) := by decide +kernel
theorem dY_known_26 : decode cY_known 26 = .ok (.aload_n 0, 1) := by decide +kernel
theorem dY_known_27 : decode cY_known 27 = .ok (.iload_n 1, 1) := by decide +kernel
theorem dY_known_28 : decode cY_known 28 = .ok (.iload_n 2, 1) := by decide +kernel
theorem dY_known_29 : decode cY_known 29 = .ok (.invokevirtual 65, 3) := by decide +kernel
theorem dY_known_32 : decode cY_known 32 = .ok (.ifCond .eq 7, 3) := by decide +kernel
theorem dY_known_35 : decode cY_known 35 = .ok (.iconst 1, 1) := by decide +kernel
theorem dY_known_36 : decode cY_known 36 = .ok (.goto 4, 3) := by decide +kernel
theorem dY_known_39 : decode cY_known 39 = .ok (.iconst 0, 1) := by decide +kernel
theorem dY_known_40 : decode cY_known 40 = .ok (.ireturn, 1) := by decide +kernel
theorem dY_clock_0 : decode cY_clock 0 = .ok (.aload_n 0, 1) := by decide +kernel
theorem dY_clock_1 : decode cY_clock 1 = .ok (.iconst 0, 1) := by decide +kernel
theorem dY_clock_2 : decode cY_clock 2 = .ok (.putfield 35, 3) := by decide +kernel
theorem dY_clock_5 : decode cY_clock 5 = .ok (.lconst 0, 1) := by decide +kernel
theorem dY_clock_6 : decode cY_clock 6 = .ok (.lstore_n 1, 1) := by decide +kernel
theorem dY_clock_7 : decode cY_clock 7 = .ok (.bipush 7, 2) := by decide +kernel
theorem dY_clock_9 : decode cY_clock 9 = .ok (.istore_n 3, 1) := by decide +kernel
theorem dY_clock_10 : decode cY_clock 10 = .ok (.iload_n 3, 1) := by decide +kernel
theorem dY_clock_11 : decode cY_clock 11 = .ok (.ifCond .lt 22, 3) := by decide +kernel
theorem dY_clock_14 : decode cY_clock 14 = .ok (.lload_n 1, 1) := by decide +kernel
theorem dY_clock_15 : decode cY_clock 15 = .ok (.bipush 8, 2) := by decide +kernel
theorem dY_clock_17 : decode cY_clock 17 = .ok (.lshl, 1) := by decide +kernel
theorem dY_clock_18 : decode cY_clock 18 = .ok (.aload_n 0, 1) := by decide +kernel
theorem dY_clock_19 : decode cY_clock 19 = .ok (.getfield 7, 3) := by decide +kernel
theorem dY_clock_22 : decode cY_clock 22 = .ok (.iload_n 3, 1) := by decide +kernel
theorem dY_clock_23 : decode cY_clock 23 = .ok (.iaload, 1) := by decide +kernel
theorem dY_clock_24 : decode cY_clock 24 = .ok (.i2l, 1) := by decide +kernel
theorem dY_clock_25 : decode cY_clock 25 = .ok (.lor, 1) := by decide +kernel
theorem dY_clock_26 : decode cY_clock 26 = .ok (.lstore_n 1, 1) := by decide +kernel
theorem dY_clock_27 : decode cY_clock 27 = .ok (.iinc 3 (-1), 3) := by decide +kernel
theorem dY_clock_30 : decode cY_clock 30 = .ok (.goto (-20), 3) := by decide +kernel
theorem dY_clock_33 : decode cY_clock 33 = .ok (.lload_n 1, 1) := by decide +kernel
theorem dY_clock_34 : decode cY_clock 34 = .ok (.lreturn, 1) := by decide +kernel
theorem dY_through_0 : decode cY_through 0 = .ok (.aload_n 0, 1) := by decide +kernel
theorem dY_through_1 : decode cY_through 1 = .ok (.iload_n 1, 1) := by decide +kernel
theorem dY_through_2 : decode cY_through 2 = .ok (.ifCond .lt 20, 3) := by decide +kernel
theorem dY_through_5 : decode cY_through 5 = .ok (.iload_n 1, 1) := by decide +kernel
theorem dY_through_6 : decode cY_through 6 = .ok (.aload_n 0, 1) := by decide +kernel
theorem dY_through_7 : decode cY_through 7 = .ok (.getfield 52, 3) := by decide +kernel
theorem dY_through_10 : decode cY_through 10 = .ok (.if_icmp .ge 12, 3) := by decide +kernel
theorem dY_through_13 : decode cY_through 13 = .ok (.iload_n 2, 1) := by decide +kernel
theorem dY_through_14 : decode cY_through 14 = .ok (.ifCond .lt 8, 3) := by decide +kernel
theorem dY_through_17 : decode cY_through 17 = .ok (.iload_n 2, 1) := by decide +kernel
theorem dY_through_18 : decode cY_through 18 = .ok (.iconst 2, 1) := by decide +kernel
theorem dY_through_19 : decode cY_through 19 = .ok (.if_icmp .le 7, 3) := by decide +kernel
theorem dY_through_22 : decode cY_through 22 = .ok (.iconst 1, 1) := by decide +kernel
theorem dY_through_23 : decode cY_through 23 = .ok (.goto 4, 3) := by decide +kernel
theorem dY_through_26 : decode cY_through 26 = .ok (.iconst 0, 1) := by decide +kernel
theorem dY_through_27 : decode cY_through 27 = .ok (.putfield 35, 3) := by decide +kernel
theorem dY_through_30 : decode cY_through 30 = .ok (.aload_n 0, 1) := by decide +kernel
theorem dY_through_31 : decode cY_through 31 = .ok (.getfield 35, 3) := by decide +kernel
theorem dY_through_34 : decode cY_through 34 = .ok (.ifCond .le 7, 3) := by decide +kernel
theorem dY_through_37 : decode cY_through 37 = .ok (.iconst 0, 1) := by decide +kernel
theorem dY_through_38 : decode cY_through 38 = .ok (.goto 36, 3) := by decide +kernel
theorem dY_through_41 : decode cY_through 41 = .ok (.iload_n 2, 1) := by decide +kernel
theorem dY_through_42 : decode cY_through 42 = .ok (.ifCond .ne 12, 3) := by decide +kernel
theorem dY_through_45 : decode cY_through 45 = .ok (.aload_n 0, 1) := by decide +kernel
theorem dY_through_46 : decode cY_through 46 = .ok (.getfield 13, 3) := by decide +kernel
theorem dY_through_49 : decode cY_through 49 = .ok (.iload_n 1, 1) := by decide +kernel
theorem dY_through_50 : decode cY_through 50 = .ok (.iaload, 1) := by decide +kernel
theorem dY_through_51 : decode cY_through 51 = .ok (.goto 23, 3) := by decide +kernel
theorem dY_through_54 : decode cY_through 54 = .ok (.iload_n 2, 1) := by decide +kernel
theorem dY_through_55 : decode cY_through 55 = .ok (.iconst 1, 1) := by decide +kernel
theorem dY_through_56 : decode cY_through 56 = .ok (.if_icmp .ne 12, 3) := by decide +kernel
theorem dY_through_59 : decode cY_through 59 = .ok (.aload_n 0, 1) := by decide +kernel
theorem dY_through_60 : decode cY_through 60 = .ok (.getfield 16, 3) := by decide +kernel
theorem dY_through_63 : decode cY_through 63 = .ok (.iload_n 1, 1) := by decide +kernel
theorem dY_through_64 : decode cY_through 64 = .ok (.iaload, 1) := by decide +kernel
theorem dY_through_65 : decode cY_through 65 = .ok (.goto 9, 3) := by decide +kernel
theorem dY_through_68 : decode cY_through 68 = .ok (.aload_n 0, 1) := by decide +kernel
theorem dY_through_69 : decode cY_through 69 = .ok (.getfield 19, 3) := by decide +kernel
theorem dY_through_72 : decode cY_through 72 = .ok (.iload_n 1, 1) := by decide +kernel
theorem dY_through_73 : decode cY_through 73 = .ok (.iaload, 1) := by decide +kernel
theorem dY_through_74 : decode cY_through 74 = .ok (.ireturn, 1) := by decide +kernel
theorem dY_waiting_0 : decode cY_waiting 0 = .ok (.aload_n 0, 1) := by decide +kernel
theorem dY_waiting_1 : decode cY_waiting 1 = .ok (.iload_n 1, 1) := by decide +kernel
theorem dY_waiting_2 : decode cY_waiting 2 = .ok (.ifCond .lt 20, 3) := by decide +kernel
theorem dY_waiting_5 : decode cY_waiting 5 = .ok (.iload_n 1, 1) := by decide +kernel
theorem dY_waiting_6 : decode cY_waiting 6 = .ok (.aload_n 0, 1) := by decide +kernel
theorem dY_waiting_7 : decode cY_waiting 7 = .ok (.getfield 49, 3) := by decide +kernel
theorem dY_waiting_10 : decode cY_waiting 10 = .ok (.if_icmp .ge 12, 3) := by decide +kernel
theorem dY_waiting_13 : decode cY_waiting 13 = .ok (.iload_n 2, 1) := by decide +kernel
theorem dY_waiting_14 : decode cY_waiting 14 = .ok (.ifCond .lt 8, 3) := by decide +kernel
theorem dY_waiting_17 : decode cY_waiting 17 = .ok (.iload_n 2, 1) := by decide +kernel
theorem dY_waiting_18 : decode cY_waiting 18 = .ok (.iconst 4, 1) := by decide +kernel
theorem dY_waiting_19 : decode cY_waiting 19 = .ok (.if_icmp .le 7, 3) := by decide +kernel
theorem dY_waiting_22 : decode cY_waiting 22 = .ok (.iconst 1, 1) := by decide +kernel
theorem dY_waiting_23 : decode cY_waiting 23 = .ok (.goto 4, 3) := by decide +kernel
theorem dY_waiting_26 : decode cY_waiting 26 = .ok (.iconst 0, 1) := by decide +kernel
theorem dY_waiting_27 : decode cY_waiting 27 = .ok (.putfield 35, 3) := by decide +kernel
theorem dY_waiting_30 : decode cY_waiting 30 = .ok (.aload_n 0, 1) := by decide +kernel
theorem dY_waiting_31 : decode cY_waiting 31 = .ok (.getfield 35, 3) := by decide +kernel
theorem dY_waiting_34 : decode cY_waiting 34 = .ok (.ifCond .le 5, 3) := by decide +kernel
theorem dY_waiting_37 : decode cY_waiting 37 = .ok (.iconst 0, 1) := by decide +kernel
theorem dY_waiting_38 : decode cY_waiting 38 = .ok (.ireturn, 1) := by decide +kernel
theorem dY_waiting_39 : decode cY_waiting 39 = .ok (.aload_n 0, 1) := by decide +kernel
theorem dY_waiting_40 : decode cY_waiting 40 = .ok (.getfield 22, 3) := by decide +kernel
theorem dY_waiting_43 : decode cY_waiting 43 = .ok (.iload_n 1, 1) := by decide +kernel
theorem dY_waiting_44 : decode cY_waiting 44 = .ok (.iaload, 1) := by decide +kernel
theorem dY_waiting_45 : decode cY_waiting 45 = .ok (.istore_n 3, 1) := by decide +kernel
theorem dY_waiting_46 : decode cY_waiting 46 = .ok (.aload_n 0, 1) := by decide +kernel
theorem dY_waiting_47 : decode cY_waiting 47 = .ok (.getfield 25, 3) := by decide +kernel
theorem dY_waiting_50 : decode cY_waiting 50 = .ok (.iload_n 1, 1) := by decide +kernel
theorem dY_waiting_51 : decode cY_waiting 51 = .ok (.iaload, 1) := by decide +kernel
theorem dY_waiting_52 : decode cY_waiting 52 = .ok (.aload_n 0, 1) := by decide +kernel
theorem dY_waiting_53 : decode cY_waiting 53 = .ok (.getfield 7, 3) := by decide +kernel
theorem dY_waiting_56 : decode cY_waiting 56 = .ok (.iload_n 3, 1) := by decide +kernel
theorem dY_waiting_57 : decode cY_waiting 57 = .ok (.iaload, 1) := by decide +kernel
theorem dY_waiting_58 : decode cY_waiting 58 = .ok (.iconst 1, 1) := by decide +kernel
theorem dY_waiting_59 : decode cY_waiting 59 = .ok (.iadd, 1) := by decide +kernel
theorem dY_waiting_60 : decode cY_waiting 60 = .ok (.if_icmp .le 7, 3) := by decide +kernel
theorem dY_waiting_63 : decode cY_waiting 63 = .ok (.iconst 1, 1) := by decide +kernel
theorem dY_waiting_64 : decode cY_waiting 64 = .ok (.goto 4, 3) := by decide +kernel
theorem dY_waiting_67 : decode cY_waiting 67 = .ok (.iconst 0, 1) := by decide +kernel
theorem dY_waiting_68 : decode cY_waiting 68 = .ok (.istore 4, 2) := by decide +kernel
theorem dY_waiting_70 : decode cY_waiting 70 = .ok (.iload 4, 2) := by decide +kernel
theorem dY_waiting_72 : decode cY_waiting 72 = .ok (.ifCond .eq 7, 3) := by decide +kernel
theorem dY_waiting_75 : decode cY_waiting 75 = .ok (.iload_n 3, 1) := by decide +kernel
theorem dY_waiting_76 : decode cY_waiting 76 = .ok (.goto 14, 3) := by decide +kernel
theorem dY_waiting_79 : decode cY_waiting 79 = .ok (.aload_n 0, 1) := by decide +kernel
theorem dY_waiting_80 : decode cY_waiting 80 = .ok (.iload_n 3, 1) := by decide +kernel
theorem dY_waiting_81 : decode cY_waiting 81 = .ok (.aload_n 0, 1) := by decide +kernel
theorem dY_waiting_82 : decode cY_waiting 82 = .ok (.getfield 28, 3) := by decide +kernel
theorem dY_waiting_85 : decode cY_waiting 85 = .ok (.iload_n 1, 1) := by decide +kernel
theorem dY_waiting_86 : decode cY_waiting 86 = .ok (.laload, 1) := by decide +kernel
theorem dY_waiting_87 : decode cY_waiting 87 = .ok (.invokevirtual 45, 3) := by decide +kernel
theorem dY_waiting_90 : decode cY_waiting 90 = .ok (.istore 5, 2) := by decide +kernel
theorem dY_waiting_92 : decode cY_waiting 92 = .ok (.iload_n 2, 1) := by decide +kernel
theorem dY_waiting_93 : decode cY_waiting 93 = .ok (.ifCond .ne 7, 3) := by decide +kernel
theorem dY_waiting_96 : decode cY_waiting 96 = .ok (.iload_n 3, 1) := by decide +kernel
theorem dY_waiting_97 : decode cY_waiting 97 = .ok (.goto 59, 3) := by decide +kernel
theorem dY_waiting_100 : decode cY_waiting 100 = .ok (.iload_n 2, 1) := by decide +kernel
theorem dY_waiting_101 : decode cY_waiting 101 = .ok (.iconst 1, 1) := by decide +kernel
theorem dY_waiting_102 : decode cY_waiting 102 = .ok (.if_icmp .ne 12, 3) := by decide +kernel
theorem dY_waiting_105 : decode cY_waiting 105 = .ok (.aload_n 0, 1) := by decide +kernel
theorem dY_waiting_106 : decode cY_waiting 106 = .ok (.getfield 25, 3) := by decide +kernel
theorem dY_waiting_109 : decode cY_waiting 109 = .ok (.iload_n 1, 1) := by decide +kernel
theorem dY_waiting_110 : decode cY_waiting 110 = .ok (.iaload, 1) := by decide +kernel
theorem dY_waiting_111 : decode cY_waiting 111 = .ok (.goto 45, 3) := by decide +kernel
theorem dY_waiting_114 : decode cY_waiting 114 = .ok (.iload_n 2, 1) := by decide +kernel
theorem dY_waiting_115 : decode cY_waiting 115 = .ok (.iconst 2, 1) := by decide +kernel
theorem dY_waiting_116 : decode cY_waiting 116 = .ok (.if_icmp .ne 12, 3) := by decide +kernel
theorem dY_waiting_119 : decode cY_waiting 119 = .ok (.aload_n 0, 1) := by decide +kernel
theorem dY_waiting_120 : decode cY_waiting 120 = .ok (.getfield 32, 3) := by decide +kernel
theorem dY_waiting_123 : decode cY_waiting 123 = .ok (.iload_n 1, 1) := by decide +kernel
theorem dY_waiting_124 : decode cY_waiting 124 = .ok (.iaload, 1) := by decide +kernel
theorem dY_waiting_125 : decode cY_waiting 125 = .ok (.goto 31, 3) := by decide +kernel
theorem dY_waiting_128 : decode cY_waiting 128 = .ok (.iload_n 2, 1) := by decide +kernel
theorem dY_waiting_129 : decode cY_waiting 129 = .ok (.iconst 3, 1) := by decide +kernel
theorem dY_waiting_130 : decode cY_waiting 130 = .ok (.if_icmp .ne 8, 3) := by decide +kernel
theorem dY_waiting_133 : decode cY_waiting 133 = .ok (.iload 5, 2) := by decide +kernel
theorem dY_waiting_135 : decode cY_waiting 135 = .ok (.goto 21, 3) := by decide +kernel
theorem dY_waiting_138 : decode cY_waiting 138 = .ok (.aload_n 0, 1) := by decide +kernel
theorem dY_waiting_139 : decode cY_waiting 139 = .ok (.getfield 7, 3) := by decide +kernel
theorem dY_waiting_142 : decode cY_waiting 142 = .ok (.iload 5, 2) := by decide +kernel
theorem dY_waiting_144 : decode cY_waiting 144 = .ok (.ifCond .ge 7, 3) := by decide +kernel
theorem dY_waiting_147 : decode cY_waiting 147 = .ok (.iconst 0, 1) := by decide +kernel
theorem dY_waiting_148 : decode cY_waiting 148 = .ok (.goto 5, 3) := by decide +kernel
theorem dY_waiting_151 : decode cY_waiting 151 = .ok (.iload 5, 2) := by decide +kernel
theorem dY_waiting_153 : decode cY_waiting 153 = .ok (.iaload, 1) := by decide +kernel
theorem dY_waiting_154 : decode cY_waiting 154 = .ok (.iconst 1, 1) := by decide +kernel
theorem dY_waiting_155 : decode cY_waiting 155 = .ok (.iadd, 1) := by decide +kernel
theorem dY_waiting_156 : decode cY_waiting 156 = .ok (.ireturn, 1) := by decide +kernel
theorem dY_lacks_0 : decode cY_lacks 0 = .ok (.aload_n 0, 1) := by decide +kernel
theorem dY_lacks_1 : decode cY_lacks 1 = .ok (.getfield 16, 3) := by decide +kernel
theorem dY_lacks_4 : decode cY_lacks 4 = .ok (.iload_n 3, 1) := by decide +kernel
theorem dY_lacks_5 : decode cY_lacks 5 = .ok (.iaload, 1) := by decide +kernel
theorem dY_lacks_6 : decode cY_lacks 6 = .ok (.lload_n 1, 1) := by decide +kernel
theorem dY_lacks_7 : decode cY_lacks 7 = .ok (.aload_n 0, 1) := by decide +kernel
theorem dY_lacks_8 : decode cY_lacks 8 = .ok (.getfield 13, 3) := by decide +kernel
theorem dY_lacks_11 : decode cY_lacks 11 = .ok (.iload_n 3, 1) := by decide +kernel
theorem dY_lacks_12 : decode cY_lacks 12 = .ok (.iaload, 1) := by decide +kernel
