theorem dY_keep_17 : decode cY_keep 17 = .ok (.iconst 1, 1) := by decide +kernel
theorem dY_keep_18 : decode cY_keep 18 = .ok (.isub, 1) := by decide +kernel
theorem dY_keep_19 : decode cY_keep 19 = .ok (.iaload, 1) := by decide +kernel
theorem dY_keep_20 : decode cY_keep 20 = .ok (.iload_n 1, 1) := by decide +kernel
theorem dY_keep_21 : decode cY_keep 21 = .ok (.if_icmp .gt 29, 3) := by decide +kernel
theorem dY_keep_24 : decode cY_keep 24 = .ok (.aload_n 0, 1) := by decide +kernel
theorem dY_keep_25 : decode cY_keep 25 = .ok (.getfield 22, 3) := by decide +kernel
theorem dY_keep_28 : decode cY_keep 28 = .ok (.iload 6, 2) := by decide +kernel
theorem dY_keep_30 : decode cY_keep 30 = .ok (.iconst 1, 1) := by decide +kernel
theorem dY_keep_31 : decode cY_keep 31 = .ok (.isub, 1) := by decide +kernel
theorem dY_keep_32 : decode cY_keep 32 = .ok (.iaload, 1) := by decide +kernel
theorem dY_keep_33 : decode cY_keep 33 = .ok (.iload_n 1, 1) := by decide +kernel
theorem dY_keep_34 : decode cY_keep 34 = .ok (.if_icmp .ne 86, 3) := by decide +kernel
theorem dY_keep_37 : decode cY_keep 37 = .ok (.aload_n 0, 1) := by decide +kernel
theorem dY_keep_38 : decode cY_keep 38 = .ok (.getfield 25, 3) := by decide +kernel
theorem dY_keep_41 : decode cY_keep 41 = .ok (.iload 6, 2) := by decide +kernel
theorem dY_keep_43 : decode cY_keep 43 = .ok (.iconst 1, 1) := by decide +kernel
theorem dY_keep_44 : decode cY_keep 44 = .ok (.isub, 1) := by decide +kernel
theorem dY_keep_45 : decode cY_keep 45 = .ok (.iaload, 1) := by decide +kernel
theorem dY_keep_46 : decode cY_keep 46 = .ok (.iload_n 2, 1) := by decide +kernel
theorem dY_keep_47 : decode cY_keep 47 = .ok (.if_icmp .le 73, 3) := by decide +kernel
theorem dY_keep_50 : decode cY_keep 50 = .ok (.aload_n 0, 1) := by decide +kernel
theorem dY_keep_51 : decode cY_keep 51 = .ok (.getfield 22, 3) := by decide +kernel
theorem dY_keep_54 : decode cY_keep 54 = .ok (.iload 6, 2) := by decide +kernel
theorem dY_keep_56 : decode cY_keep 56 = .ok (.aload_n 0, 1) := by decide +kernel
theorem dY_keep_57 : decode cY_keep 57 = .ok (.getfield 22, 3) := by decide +kernel
theorem dY_keep_60 : decode cY_keep 60 = .ok (.iload 6, 2) := by decide +kernel
theorem dY_keep_62 : decode cY_keep 62 = .ok (.iconst 1, 1) := by decide +kernel
theorem dY_keep_63 : decode cY_keep 63 = .ok (.isub, 1) := by decide +kernel
theorem dY_keep_64 : decode cY_keep 64 = .ok (.iaload, 1) := by decide +kernel
theorem dY_keep_65 : decode cY_keep 65 = .ok (.iastore, 1) := by decide +kernel
theorem dY_keep_66 : decode cY_keep 66 = .ok (.aload_n 0, 1) := by decide +kernel
theorem dY_keep_67 : decode cY_keep 67 = .ok (.getfield 25, 3) := by decide +kernel
theorem dY_keep_70 : decode cY_keep 70 = .ok (.iload 6, 2) := by decide +kernel
theorem dY_keep_72 : decode cY_keep 72 = .ok (.aload_n 0, 1) := by decide +kernel
theorem dY_keep_73 : decode cY_keep 73 = .ok (.getfield 25, 3) := by decide +kernel
theorem dY_keep_76 : decode cY_keep 76 = .ok (.iload 6, 2) := by decide +kernel
theorem dY_keep_78 : decode cY_keep 78 = .ok (.iconst 1, 1) := by decide +kernel
theorem dY_keep_79 : decode cY_keep 79 = .ok (.isub, 1) := by decide +kernel
theorem dY_keep_80 : decode cY_keep 80 = .ok (.iaload, 1) := by decide +kernel
theorem dY_keep_81 : decode cY_keep 81 = .ok (.iastore, 1) := by decide +kernel
theorem dY_keep_82 : decode cY_keep 82 = .ok (.aload_n 0, 1) := by decide +kernel
theorem dY_keep_83 : decode cY_keep 83 = .ok (.getfield 28, 3) := by decide +kernel
theorem dY_keep_86 : decode cY_keep 86 = .ok (.iload 6, 2) := by decide +kernel
theorem dY_keep_88 : decode cY_keep 88 = .ok (.aload_n 0, 1) := by decide +kernel
theorem dY_keep_89 : decode cY_keep 89 = .ok (.getfield 28, 3) := by decide +kernel
theorem dY_keep_92 : decode cY_keep 92 = .ok (.iload 6, 2) := by decide +kernel
theorem dY_keep_94 : decode cY_keep 94 = .ok (.iconst 1, 1) := by decide +kernel
theorem dY_keep_95 : decode cY_keep 95 = .ok (.isub, 1) := by decide +kernel
theorem dY_keep_96 : decode cY_keep 96 = .ok (.laload, 1) := by decide +kernel
theorem dY_keep_97 : decode cY_keep 97 = .ok (.lastore, 1) := by decide +kernel
theorem dY_keep_98 : decode cY_keep 98 = .ok (.aload_n 0, 1) := by decide +kernel
theorem dY_keep_99 : decode cY_keep 99 = .ok (.getfield 32, 3) := by decide +kernel
theorem dY_keep_102 : decode cY_keep 102 = .ok (.iload 6, 2) := by decide +kernel
theorem dY_keep_104 : decode cY_keep 104 = .ok (.aload_n 0, 1) := by decide +kernel
theorem dY_keep_105 : decode cY_keep 105 = .ok (.getfield 32, 3) := by decide +kernel
theorem dY_keep_108 : decode cY_keep 108 = .ok (.iload 6, 2) := by decide +kernel
theorem dY_keep_110 : decode cY_keep 110 = .ok (.iconst 1, 1) := by decide +kernel
theorem dY_keep_111 : decode cY_keep 111 = .ok (.isub, 1) := by decide +kernel
theorem dY_keep_112 : decode cY_keep 112 = .ok (.iaload, 1) := by decide +kernel
theorem dY_keep_113 : decode cY_keep 113 = .ok (.iastore, 1) := by decide +kernel
theorem dY_keep_114 : decode cY_keep 114 = .ok (.iinc 6 (-1), 3) := by decide +kernel
theorem dY_keep_117 : decode cY_keep 117 = .ok (.goto (-111), 3) := by decide +kernel
theorem dY_keep_120 : decode cY_keep 120 = .ok (.aload_n 0, 1) := by decide +kernel
theorem dY_keep_121 : decode cY_keep 121 = .ok (.getfield 22, 3) := by decide +kernel
theorem dY_keep_124 : decode cY_keep 124 = .ok (.iload 6, 2) := by decide +kernel
theorem dY_keep_126 : decode cY_keep 126 = .ok (.iload_n 1, 1) := by decide +kernel
theorem dY_keep_127 : decode cY_keep 127 = .ok (.iastore, 1) := by decide +kernel
theorem dY_keep_128 : decode cY_keep 128 = .ok (.aload_n 0, 1) := by decide +kernel
theorem dY_keep_129 : decode cY_keep 129 = .ok (.getfield 25, 3) := by decide +kernel
theorem dY_keep_132 : decode cY_keep 132 = .ok (.iload 6, 2) := by decide +kernel
theorem dY_keep_134 : decode cY_keep 134 = .ok (.iload_n 2, 1) := by decide +kernel
theorem dY_keep_135 : decode cY_keep 135 = .ok (.iastore, 1) := by decide +kernel
theorem dY_keep_136 : decode cY_keep 136 = .ok (.aload_n 0, 1) := by decide +kernel
theorem dY_keep_137 : decode cY_keep 137 = .ok (.getfield 28, 3) := by decide +kernel
theorem dY_keep_140 : decode cY_keep 140 = .ok (.iload 6, 2) := by decide +kernel
theorem dY_keep_142 : decode cY_keep 142 = .ok (.lload_n 3, 1) := by decide +kernel
theorem dY_keep_143 : decode cY_keep 143 = .ok (.lastore, 1) := by decide +kernel
theorem dY_keep_144 : decode cY_keep 144 = .ok (.aload_n 0, 1) := by decide +kernel
theorem dY_keep_145 : decode cY_keep 145 = .ok (.getfield 32, 3) := by decide +kernel
theorem dY_keep_148 : decode cY_keep 148 = .ok (.iload 6, 2) := by decide +kernel
theorem dY_keep_150 : decode cY_keep 150 = .ok (.iload 5, 2) := by decide +kernel
theorem dY_keep_152 : decode cY_keep 152 = .ok (.iastore, 1) := by decide +kernel
theorem dY_keep_153 : decode cY_keep 153 = .ok (.aload_n 0, 1) := by decide +kernel
theorem dY_keep_154 : decode cY_keep 154 = .ok (.dup, 1) := by decide +kernel
theorem dY_keep_155 : decode cY_keep 155 = .ok (.getfield 49, 3) := by decide +kernel
theorem dY_keep_158 : decode cY_keep 158 = .ok (.iconst 1, 1) := by decide +kernel
theorem dY_keep_159 : decode cY_keep 159 = .ok (.iadd, 1) := by decide +kernel
theorem dY_keep_160 : decode cY_keep 160 = .ok (.putfield 49, 3) := by decide +kernel
theorem dY_keep_163 : decode cY_keep 163 = .ok (.return_, 1) := by decide +kernel
theorem dY_ready_0 : decode cY_ready 0 = .ok (.iconst (-1), 1) := by decide +kernel
theorem dY_ready_1 : decode cY_ready 1 = .ok (.istore_n 1, 1) := by decide +kernel
theorem dY_ready_2 : decode cY_ready 2 = .ok (.aload_n 0, 1) := by decide +kernel
theorem dY_ready_3 : decode cY_ready 3 = .ok (.getfield 49, 3) := by decide +kernel
theorem dY_ready_6 : decode cY_ready 6 = .ok (.iconst 1, 1) := by decide +kernel
theorem dY_ready_7 : decode cY_ready 7 = .ok (.isub, 1) := by decide +kernel
theorem dY_ready_8 : decode cY_ready 8 = .ok (.istore_n 2, 1) := by decide +kernel
theorem dY_ready_9 : decode cY_ready 9 = .ok (.iload_n 2, 1) := by decide +kernel
theorem dY_ready_10 : decode cY_ready 10 = .ok (.ifCond .lt 40, 3) := by decide +kernel
theorem dY_ready_13 : decode cY_ready 13 = .ok (.aload_n 0, 1) := by decide +kernel
theorem dY_ready_14 : decode cY_ready 14 = .ok (.aload_n 0, 1) := by decide +kernel
theorem dY_ready_15 : decode cY_ready 15 = .ok (.getfield 22, 3) := by decide +kernel
theorem dY_ready_18 : decode cY_ready 18 = .ok (.iload_n 2, 1) := by decide +kernel
theorem dY_ready_19 : decode cY_ready 19 = .ok (.iaload, 1) := by decide +kernel
theorem dY_ready_20 : decode cY_ready 20 = .ok (.aload_n 0, 1) := by decide +kernel
theorem dY_ready_21 : decode cY_ready 21 = .ok (.getfield 25, 3) := by decide +kernel
theorem dY_ready_24 : decode cY_ready 24 = .ok (.iload_n 2, 1) := by decide +kernel
theorem dY_ready_25 : decode cY_ready 25 = .ok (.iaload, 1) := by decide +kernel
theorem dY_ready_26 : decode cY_ready 26 = .ok (.aload_n 0, 1) := by decide +kernel
theorem dY_ready_27 : decode cY_ready 27 = .ok (.getfield 28, 3) := by decide +kernel
theorem dY_ready_30 : decode cY_ready 30 = .ok (.iload_n 2, 1) := by decide +kernel
theorem dY_ready_31 : decode cY_ready 31 = .ok (.laload, 1) := by decide +kernel
theorem dY_ready_32 : decode cY_ready 32 = .ok (.invokevirtual 55, 3) := by decide +kernel
theorem dY_ready_35 : decode cY_ready 35 = .ok (.ifCond .eq 7, 3) := by decide +kernel
theorem dY_ready_38 : decode cY_ready 38 = .ok (.iload_n 2, 1) := by decide +kernel
theorem dY_ready_39 : decode cY_ready 39 = .ok (.goto 4, 3) := by decide +kernel
theorem dY_ready_42 : decode cY_ready 42 = .ok (.iload_n 1, 1) := by decide +kernel
theorem dY_ready_43 : decode cY_ready 43 = .ok (.istore_n 1, 1) := by decide +kernel
theorem dY_ready_44 : decode cY_ready 44 = .ok (.iinc 2 (-1), 3) := by decide +kernel
theorem dY_ready_47 : decode cY_ready 47 = .ok (.goto (-38), 3) := by decide +kernel
theorem dY_ready_50 : decode cY_ready 50 = .ok (.iload_n 1, 1) := by decide +kernel
theorem dY_ready_51 : decode cY_ready 51 = .ok (.ireturn, 1) := by decide +kernel
theorem dY_clear_0 : decode cY_clear 0 = .ok (.aload_n 0, 1) := by decide +kernel
theorem dY_clear_1 : decode cY_clear 1 = .ok (.iconst 0, 1) := by decide +kernel
theorem dY_clear_2 : decode cY_clear 2 = .ok (.putfield 35, 3) := by decide +kernel
theorem dY_clear_5 : decode cY_clear 5 = .ok (.iconst 0, 1) := by decide +kernel
theorem dY_clear_6 : decode cY_clear 6 = .ok (.istore_n 1, 1) := by decide +kernel
theorem dY_clear_7 : decode cY_clear 7 = .ok (.iload_n 1, 1) := by decide +kernel
theorem dY_clear_8 : decode cY_clear 8 = .ok (.bipush 8, 2) := by decide +kernel
theorem dY_clear_10 : decode cY_clear 10 = .ok (.if_icmp .ge 16, 3) := by decide +kernel
theorem dY_clear_13 : decode cY_clear 13 = .ok (.aload_n 0, 1) := by decide +kernel
theorem dY_clear_14 : decode cY_clear 14 = .ok (.getfield 7, 3) := by decide +kernel
theorem dY_clear_17 : decode cY_clear 17 = .ok (.iload_n 1, 1) := by decide +kernel
theorem dY_clear_18 : decode cY_clear 18 = .ok (.iconst 0, 1) := by decide +kernel
theorem dY_clear_19 : decode cY_clear 19 = .ok (.iastore, 1) := by decide +kernel
theorem dY_clear_20 : decode cY_clear 20 = .ok (.iinc 1 1, 3) := by decide +kernel
theorem dY_clear_23 : decode cY_clear 23 = .ok (.goto (-16), 3) := by decide +kernel
theorem dY_clear_26 : decode cY_clear 26 = .ok (.aload_n 0, 1) := by decide +kernel
theorem dY_clear_27 : decode cY_clear 27 = .ok (.iconst 0, 1) := by decide +kernel
theorem dY_clear_28 : decode cY_clear 28 = .ok (.putfield 52, 3) := by decide +kernel
theorem dY_clear_31 : decode cY_clear 31 = .ok (.aload_n 0, 1) := by decide +kernel
theorem dY_clear_32 : decode cY_clear 32 = .ok (.iconst 0, 1) := by decide +kernel
theorem dY_clear_33 : decode cY_clear 33 = .ok (.putfield 49, 3) := by decide +kernel
theorem dY_clear_36 : decode cY_clear 36 = .ok (.aload_n 0, 1) := by decide +kernel
theorem dY_clear_37 : decode cY_clear 37 = .ok (.iconst 0, 1) := by decide +kernel
theorem dY_clear_38 : decode cY_clear 38 = .ok (.putfield 59, 3) := by decide +kernel
theorem dY_clear_41 : decode cY_clear 41 = .ok (.aload_n 0, 1) := by decide +kernel
theorem dY_clear_42 : decode cY_clear 42 = .ok (.iconst 0, 1) := by decide +kernel
theorem dY_clear_43 : decode cY_clear 43 = .ok (.putfield 62, 3) := by decide +kernel
theorem dY_clear_46 : decode cY_clear 46 = .ok (.return_, 1) := by decide +kernel
theorem dY_offer_0 : decode cY_offer 0 = .ok (.aload_n 0, 1) := by decide +kernel
theorem dY_offer_1 : decode cY_offer 1 = .ok (.iload_n 1, 1) := by decide +kernel
theorem dY_offer_2 : decode cY_offer 2 = .ok (.ifCond .lt 21, 3) := by decide +kernel
theorem dY_offer_5 : decode cY_offer 5 = .ok (.iload_n 1, 1) := by decide +kernel
theorem dY_offer_6 : decode cY_offer 6 = .ok (.bipush 7, 2) := by decide +kernel
theorem dY_offer_8 : decode cY_offer 8 = .ok (.if_icmp .gt 15, 3) := by decide +kernel
theorem dY_offer_11 : decode cY_offer 11 = .ok (.iload_n 2, 1) := by decide +kernel
theorem dY_offer_12 : decode cY_offer 12 = .ok (.iconst 1, 1) := by decide +kernel
theorem dY_offer_13 : decode cY_offer 13 = .ok (.if_icmp .lt 10, 3) := by decide +kernel
theorem dY_offer_16 : decode cY_offer 16 = .ok (.iload_n 2, 1) := by decide +kernel
theorem dY_offer_17 : decode cY_offer 17 = .ok (.sipush 255, 3) := by decide +kernel
theorem dY_offer_20 : decode cY_offer 20 = .ok (.if_icmp .le 7, 3) := by decide +kernel
theorem dY_offer_23 : decode cY_offer 23 = .ok (.iconst 1, 1) := by decide +kernel
theorem dY_offer_24 : decode cY_offer 24 = .ok (.goto 4, 3) := by decide +kernel
theorem dY_offer_27 : decode cY_offer 27 = .ok (.iconst 0, 1) := by decide +kernel
theorem dY_offer_28 : decode cY_offer 28 = .ok (.putfield 35, 3) := by decide +kernel
theorem dY_offer_31 : decode cY_offer 31 = .ok (.aload_n 0, 1) := by decide +kernel
theorem dY_offer_32 : decode cY_offer 32 = .ok (.getfield 35, 3) := by decide +kernel
theorem dY_offer_35 : decode cY_offer 35 = .ok (.ifCond .le 5, 3) := by decide +kernel
theorem dY_offer_38 : decode cY_offer 38 = .ok (.iconst 0, 1) := by decide +kernel
theorem dY_offer_39 : decode cY_offer 39 = .ok (.ireturn, 1) := by decide +kernel
theorem dY_offer_40 : decode cY_offer 40 = .ok (.aload_n 0, 1) := by decide +kernel
theorem dY_offer_41 : decode cY_offer 41 = .ok (.iload_n 1, 1) := by decide +kernel
theorem dY_offer_42 : decode cY_offer 42 = .ok (.iload_n 2, 1) := by decide +kernel
theorem dY_offer_43 : decode cY_offer 43 = .ok (.invokevirtual 65, 3) := by decide +kernel
theorem dY_offer_46 : decode cY_offer 46 = .ok (.ifCond .eq 15, 3) := by decide +kernel
theorem dY_offer_49 : decode cY_offer 49 = .ok (.aload_n 0, 1) := by decide +kernel
theorem dY_offer_50 : decode cY_offer 50 = .ok (.dup, 1) := by decide +kernel
theorem dY_offer_51 : decode cY_offer 51 = .ok (.getfield 59, 3) := by decide +kernel
theorem dY_offer_54 : decode cY_offer 54 = .ok (.iconst 1, 1) := by decide +kernel
theorem dY_offer_55 : decode cY_offer 55 = .ok (.iadd, 1) := by decide +kernel
theorem dY_offer_56 : decode cY_offer 56 = .ok (.putfield 59, 3) := by decide +kernel
theorem dY_offer_59 : decode cY_offer 59 = .ok (.iconst 0, 1) := by decide +kernel
theorem dY_offer_60 : decode cY_offer 60 = .ok (.ireturn, 1) := by decide +kernel
theorem dY_offer_61 : decode cY_offer 61 = .ok (.aload_n 0, 1) := by decide +kernel
theorem dY_offer_62 : decode cY_offer 62 = .ok (.aload_n 0, 1) := by decide +kernel
theorem dY_offer_63 : decode cY_offer 63 = .ok (.iload_n 1, 1) := by decide +kernel
theorem dY_offer_64 : decode cY_offer 64 = .ok (.iload_n 2, 1) := by decide +kernel
theorem dY_offer_65 : decode cY_offer 65 = .ok (.lload_n 3, 1) := by decide +kernel
theorem dY_offer_66 : decode cY_offer 66 = .ok (.invokevirtual 55, 3) := by decide +kernel
theorem dY_offer_69 : decode cY_offer 69 = .ok (.ifCond .ne 16, 3) := by decide +kernel
theorem dY_offer_72 : decode cY_offer 72 = .ok (.aload_n 0, 1) := by decide +kernel
theorem dY_offer_73 : decode cY_offer 73 = .ok (.getfield 49, 3) := by decide +kernel
theorem dY_offer_76 : decode cY_offer 76 = .ok (.bipush 64, 2) := by decide +kernel
theorem dY_offer_78 : decode cY_offer 78 = .ok (.if_icmp .ne 7, 3) := by decide +kernel
theorem dY_offer_81 : decode cY_offer 81 = .ok (.iconst 2, 1) := by decide +kernel
theorem dY_offer_82 : decode cY_offer 82 = .ok (.goto 4, 3) := by decide +kernel
theorem dY_offer_85 : decode cY_offer 85 = .ok (.iconst 0, 1) := by decide +kernel
theorem dY_offer_86 : decode cY_offer 86 = .ok (.putfield 35, 3) := by decide +kernel
theorem dY_offer_89 : decode cY_offer 89 = .ok (.aload_n 0, 1) := by decide +kernel
theorem dY_offer_90 : decode cY_offer 90 = .ok (.getfield 35, 3) := by decide +kernel
theorem dY_offer_93 : decode cY_offer 93 = .ok (.ifCond .le 5, 3) := by decide +kernel
theorem dY_offer_96 : decode cY_offer 96 = .ok (.iconst 0, 1) := by decide +kernel
theorem dY_offer_97 : decode cY_offer 97 = .ok (.ireturn, 1) := by decide +kernel
theorem dY_offer_98 : decode cY_offer 98 = .ok (.aload_n 0, 1) := by decide +kernel
theorem dY_offer_99 : decode cY_offer 99 = .ok (.iload_n 1, 1) := by decide +kernel
theorem dY_offer_100 : decode cY_offer 100 = .ok (.iload_n 2, 1) := by decide +kernel
theorem dY_offer_101 : decode cY_offer 101 = .ok (.lload_n 3, 1) := by decide +kernel
theorem dY_offer_102 : decode cY_offer 102 = .ok (.iload 5, 2) := by decide +kernel
theorem dY_offer_104 : decode cY_offer 104 = .ok (.invokevirtual 69, 3) := by decide +kernel
theorem dY_offer_107 : decode cY_offer 107 = .ok (.aload_n 0, 1) := by decide +kernel
theorem dY_offer_108 : decode cY_offer 108 = .ok (.getfield 52, 3) := by decide +kernel
theorem dY_offer_111 : decode cY_offer 111 = .ok (.istore 6, 2) := by decide +kernel
theorem dY_offer_113 : decode cY_offer 113 = .ok (.aload_n 0, 1) := by decide +kernel
theorem dY_offer_114 : decode cY_offer 114 = .ok (.invokevirtual 73, 3) := by decide +kernel
theorem dY_offer_117 : decode cY_offer 117 = .ok (.istore 7, 2) := by decide +kernel
theorem dY_offer_119 : decode cY_offer 119 = .ok (.iload 7, 2) := by decide +kernel
theorem dY_offer_121 : decode cY_offer 121 = .ok (.ifCond .lt 43, 3) := by decide +kernel
theorem dY_offer_124 : decode cY_offer 124 = .ok (.aload_n 0, 1) := by decide +kernel
theorem dY_offer_125 : decode cY_offer 125 = .ok (.aload_n 0, 1) := by decide +kernel
