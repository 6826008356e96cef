theorem dY_init_0 : decode cY_init 0 = .ok (.aload_n 0, 1) := by decide +kernel
theorem dY_init_1 : decode cY_init 1 = .ok (.invokespecial 1, 3) := by decide +kernel
theorem dY_init_4 : decode cY_init 4 = .ok (.aload_n 0, 1) := by decide +kernel
theorem dY_init_5 : decode cY_init 5 = .ok (.bipush 8, 2) := by decide +kernel
theorem dY_init_7 : decode cY_init 7 = .ok (.newarray .int, 2) := by decide +kernel
theorem dY_init_9 : decode cY_init 9 = .ok (.putfield 7, 3) := by decide +kernel
theorem dY_init_12 : decode cY_init 12 = .ok (.aload_n 0, 1) := by decide +kernel
theorem dY_init_13 : decode cY_init 13 = .ok (.sipush 2040, 3) := by decide +kernel
theorem dY_init_16 : decode cY_init 16 = .ok (.newarray .int, 2) := by decide +kernel
theorem dY_init_18 : decode cY_init 18 = .ok (.putfield 13, 3) := by decide +kernel
theorem dY_init_21 : decode cY_init 21 = .ok (.aload_n 0, 1) := by decide +kernel
theorem dY_init_22 : decode cY_init 22 = .ok (.sipush 2040, 3) := by decide +kernel
theorem dY_init_25 : decode cY_init 25 = .ok (.newarray .int, 2) := by decide +kernel
theorem dY_init_27 : decode cY_init 27 = .ok (.putfield 16, 3) := by decide +kernel
theorem dY_init_30 : decode cY_init 30 = .ok (.aload_n 0, 1) := by decide +kernel
theorem dY_init_31 : decode cY_init 31 = .ok (.sipush 2040, 3) := by decide +kernel
theorem dY_init_34 : decode cY_init 34 = .ok (.newarray .int, 2) := by decide +kernel
theorem dY_init_36 : decode cY_init 36 = .ok (.putfield 19, 3) := by decide +kernel
theorem dY_init_39 : decode cY_init 39 = .ok (.aload_n 0, 1) := by decide +kernel
theorem dY_init_40 : decode cY_init 40 = .ok (.bipush 65, 2) := by decide +kernel
theorem dY_init_42 : decode cY_init 42 = .ok (.newarray .int, 2) := by decide +kernel
theorem dY_init_44 : decode cY_init 44 = .ok (.putfield 22, 3) := by decide +kernel
theorem dY_init_47 : decode cY_init 47 = .ok (.aload_n 0, 1) := by decide +kernel
theorem dY_init_48 : decode cY_init 48 = .ok (.bipush 65, 2) := by decide +kernel
theorem dY_init_50 : decode cY_init 50 = .ok (.newarray .int, 2) := by decide +kernel
theorem dY_init_52 : decode cY_init 52 = .ok (.putfield 25, 3) := by decide +kernel
theorem dY_init_55 : decode cY_init 55 = .ok (.aload_n 0, 1) := by decide +kernel
theorem dY_init_56 : decode cY_init 56 = .ok (.bipush 65, 2) := by decide +kernel
theorem dY_init_58 : decode cY_init 58 = .ok (.newarray .long, 2) := by decide +kernel
theorem dY_init_60 : decode cY_init 60 = .ok (.putfield 28, 3) := by decide +kernel
theorem dY_init_63 : decode cY_init 63 = .ok (.aload_n 0, 1) := by decide +kernel
theorem dY_init_64 : decode cY_init 64 = .ok (.bipush 65, 2) := by decide +kernel
theorem dY_init_66 : decode cY_init 66 = .ok (.newarray .int, 2) := by decide +kernel
theorem dY_init_68 : decode cY_init 68 = .ok (.putfield 32, 3) := by decide +kernel
theorem dY_init_71 : decode cY_init 71 = .ok (.return_, 1) := by decide +kernel
theorem dY_thrown_0 : decode cY_thrown 0 = .ok (.aload_n 0, 1) := by decide +kernel
theorem dY_thrown_1 : decode cY_thrown 1 = .ok (.getfield 35, 3) := by decide +kernel
theorem dY_thrown_4 : decode cY_thrown 4 = .ok (.ireturn, 1) := by decide +kernel
theorem dY_part_0 : decode cY_part 0 = .ok (.lload_n 0, 1) := by decide +kernel
theorem dY_part_1 : decode cY_part 1 = .ok (.bipush 8, 2) := by decide +kernel
theorem dY_part_3 : decode cY_part 3 = .ok (.iload_n 2, 1) := by decide +kernel
theorem dY_part_4 : decode cY_part 4 = .ok (.imul, 1) := by decide +kernel
theorem dY_part_5 : decode cY_part 5 = .ok (.lshr, 1) := by decide +kernel
theorem dY_part_6 : decode cY_part 6 = .ok (.ldc2_w 39, 3) := by decide +kernel
theorem dY_part_9 : decode cY_part 9 = .ok (.land, 1) := by decide +kernel
theorem dY_part_10 : decode cY_part 10 = .ok (.l2i, 1) := by decide +kernel
theorem dY_part_11 : decode cY_part 11 = .ok (.ireturn, 1) := by decide +kernel
theorem dY_lacking_0 : decode cY_lacking 0 = .ok (.iconst (-1), 1) := by decide +kernel
theorem dY_lacking_1 : decode cY_lacking 1 = .ok (.istore 4, 2) := by decide +kernel
theorem dY_lacking_3 : decode cY_lacking 3 = .ok (.bipush 7, 2) := by decide +kernel
theorem dY_lacking_5 : decode cY_lacking 5 = .ok (.istore 5, 2) := by decide +kernel
theorem dY_lacking_7 : decode cY_lacking 7 = .ok (.iload 5, 2) := by decide +kernel
theorem dY_lacking_9 : decode cY_lacking 9 = .ok (.ifCond .lt 40, 3) := by decide +kernel
theorem dY_lacking_12 : decode cY_lacking 12 = .ok (.iload 5, 2) := by decide +kernel
theorem dY_lacking_14 : decode cY_lacking 14 = .ok (.iload_n 1, 1) := by decide +kernel
theorem dY_lacking_15 : decode cY_lacking 15 = .ok (.if_icmp .eq 24, 3) := by decide +kernel
theorem dY_lacking_18 : decode cY_lacking 18 = .ok (.lload_n 2, 1) := by decide +kernel
theorem dY_lacking_19 : decode cY_lacking 19 = .ok (.iload 5, 2) := by decide +kernel
theorem dY_lacking_21 : decode cY_lacking 21 = .ok (.invokestatic 41, 3) := by decide +kernel
theorem dY_lacking_24 : decode cY_lacking 24 = .ok (.aload_n 0, 1) := by decide +kernel
theorem dY_lacking_25 : decode cY_lacking 25 = .ok (.getfield 7, 3) := by decide +kernel
theorem dY_lacking_28 : decode cY_lacking 28 = .ok (.iload 5, 2) := by decide +kernel
theorem dY_lacking_30 : decode cY_lacking 30 = .ok (.iaload, 1) := by decide +kernel
theorem dY_lacking_31 : decode cY_lacking 31 = .ok (.if_icmp .le 8, 3) := by decide +kernel
theorem dY_lacking_34 : decode cY_lacking 34 = .ok (.iload 5, 2) := by decide +kernel
theorem dY_lacking_36 : decode cY_lacking 36 = .ok (.goto 5, 3) := by decide +kernel
theorem dY_lacking_39 : decode cY_lacking 39 = .ok (.iload 4, 2) := by decide +kernel
theorem dY_lacking_41 : decode cY_lacking 41 = .ok (.istore 4, 2) := by decide +kernel
theorem dY_lacking_43 : decode cY_lacking 43 = .ok (.iinc 5 (-1), 3) := by decide +kernel
theorem dY_lacking_46 : decode cY_lacking 46 = .ok (.goto (-39), 3) := by decide +kernel
theorem dY_lacking_49 : decode cY_lacking 49 = .ok (.iload 4, 2) := by decide +kernel
theorem dY_lacking_51 : decode cY_lacking 51 = .ok (.ireturn, 1) := by decide +kernel
theorem dY_canCome_0 : decode cY_canCome 0 = .ok (.iload_n 2, 1) := by decide +kernel
theorem dY_canCome_1 : decode cY_canCome 1 = .ok (.aload_n 0, 1) := by decide +kernel
theorem dY_canCome_2 : decode cY_canCome 2 = .ok (.getfield 7, 3) := by decide +kernel
theorem dY_canCome_5 : decode cY_canCome 5 = .ok (.iload_n 1, 1) := by decide +kernel
theorem dY_canCome_6 : decode cY_canCome 6 = .ok (.iaload, 1) := by decide +kernel
theorem dY_canCome_7 : decode cY_canCome 7 = .ok (.iconst 1, 1) := by decide +kernel
theorem dY_canCome_8 : decode cY_canCome 8 = .ok (.iadd, 1) := by decide +kernel
theorem dY_canCome_9 : decode cY_canCome 9 = .ok (.if_icmp .ne 16, 3) := by decide +kernel
theorem dY_canCome_12 : decode cY_canCome 12 = .ok (.aload_n 0, 1) := by decide +kernel
theorem dY_canCome_13 : decode cY_canCome 13 = .ok (.iload_n 1, 1) := by decide +kernel
theorem dY_canCome_14 : decode cY_canCome 14 = .ok (.lload_n 3, 1) := by decide +kernel
theorem dY_canCome_15 : decode cY_canCome 15 = .ok (.invokevirtual 45, 3) := by decide +kernel
theorem dY_canCome_18 : decode cY_canCome 18 = .ok (.ifCond .ge 7, 3) := by decide +kernel
theorem dY_canCome_21 : decode cY_canCome 21 = .ok (.iconst 1, 1) := by decide +kernel
theorem dY_canCome_22 : decode cY_canCome 22 = .ok (.goto 4, 3) := by decide +kernel
theorem dY_canCome_25 : decode cY_canCome 25 = .ok (.iconst 0, 1) := by decide +kernel
theorem dY_canCome_26 : decode cY_canCome 26 = .ok (.ireturn, 1) := by decide +kernel
theorem dY_isKnown_0 : decode cY_isKnown 0 = .ok (.iload_n 2, 1) := by decide +kernel
theorem dY_isKnown_1 : decode cY_isKnown 1 = .ok (.aload_n 0, 1) := by decide +kernel
theorem dY_isKnown_2 : decode cY_isKnown 2 = .ok (.getfield 7, 3) := by decide +kernel
theorem dY_isKnown_5 : decode cY_isKnown 5 = .ok (.iload_n 1, 1) := by decide +kernel
theorem dY_isKnown_6 : decode cY_isKnown 6 = .ok (.iaload, 1) := by decide +kernel
theorem dY_isKnown_7 : decode cY_isKnown 7 = .ok (.if_icmp .gt 7, 3) := by decide +kernel
theorem dY_isKnown_10 : decode cY_isKnown 10 = .ok (.iconst 1, 1) := by decide +kernel
theorem dY_isKnown_11 : decode cY_isKnown 11 = .ok (.goto 4, 3) := by decide +kernel
theorem dY_isKnown_14 : decode cY_isKnown 14 = .ok (.iconst 0, 1) := by decide +kernel
theorem dY_isKnown_15 : decode cY_isKnown 15 = .ok (.istore_n 3, 1) := by decide +kernel
theorem dY_isKnown_16 : decode cY_isKnown 16 = .ok (.iconst 0, 1) := by decide +kernel
theorem dY_isKnown_17 : decode cY_isKnown 17 = .ok (.istore 4, 2) := by decide +kernel
theorem dY_isKnown_19 : decode cY_isKnown 19 = .ok (.iload 4, 2) := by decide +kernel
theorem dY_isKnown_21 : decode cY_isKnown 21 = .ok (.aload_n 0, 1) := by decide +kernel
theorem dY_isKnown_22 : decode cY_isKnown 22 = .ok (.getfield 49, 3) := by decide +kernel
theorem dY_isKnown_25 : decode cY_isKnown 25 = .ok (.if_icmp .ge 41, 3) := by decide +kernel
theorem dY_isKnown_28 : decode cY_isKnown 28 = .ok (.iload_n 3, 1) := by decide +kernel
theorem dY_isKnown_29 : decode cY_isKnown 29 = .ok (.ifCond .ne 25, 3) := by decide +kernel
theorem dY_isKnown_32 : decode cY_isKnown 32 = .ok (.aload_n 0, 1) := by decide +kernel
theorem dY_isKnown_33 : decode cY_isKnown 33 = .ok (.getfield 22, 3) := by decide +kernel
theorem dY_isKnown_36 : decode cY_isKnown 36 = .ok (.iload 4, 2) := by decide +kernel
theorem dY_isKnown_38 : decode cY_isKnown 38 = .ok (.iaload, 1) := by decide +kernel
theorem dY_isKnown_39 : decode cY_isKnown 39 = .ok (.iload_n 1, 1) := by decide +kernel
theorem dY_isKnown_40 : decode cY_isKnown 40 = .ok (.if_icmp .ne 18, 3) := by decide +kernel
theorem dY_isKnown_43 : decode cY_isKnown 43 = .ok (.aload_n 0, 1) := by decide +kernel
theorem dY_isKnown_44 : decode cY_isKnown 44 = .ok (.getfield 25, 3) := by decide +kernel
theorem dY_isKnown_47 : decode cY_isKnown 47 = .ok (.iload 4, 2) := by decide +kernel
theorem dY_isKnown_49 : decode cY_isKnown 49 = .ok (.iaload, 1) := by decide +kernel
theorem dY_isKnown_50 : decode cY_isKnown 50 = .ok (.iload_n 2, 1) := by decide +kernel
theorem dY_isKnown_51 : decode cY_isKnown 51 = .ok (.if_icmp .ne 7, 3) := by decide +kernel
theorem dY_isKnown_54 : decode cY_isKnown 54 = .ok (.iconst 1, 1) := by decide +kernel
theorem dY_isKnown_55 : decode cY_isKnown 55 = .ok (.goto 4, 3) := by decide +kernel
theorem dY_isKnown_58 : decode cY_isKnown 58 = .ok (.iconst 0, 1) := by decide +kernel
theorem dY_isKnown_59 : decode cY_isKnown 59 = .ok (.istore_n 3, 1) := by decide +kernel
theorem dY_isKnown_60 : decode cY_isKnown 60 = .ok (.iinc 4 1, 3) := by decide +kernel
theorem dY_isKnown_63 : decode cY_isKnown 63 = .ok (.goto (-44), 3) := by decide +kernel
theorem dY_isKnown_66 : decode cY_isKnown 66 = .ok (.iload_n 3, 1) := by decide +kernel
theorem dY_isKnown_67 : decode cY_isKnown 67 = .ok (.ireturn, 1) := by decide +kernel
theorem dY_comes_0 : decode cY_comes 0 = .ok (.aload_n 0, 1) := by decide +kernel
theorem dY_comes_1 : decode cY_comes 1 = .ok (.getfield 13, 3) := by decide +kernel
theorem dY_comes_4 : decode cY_comes 4 = .ok (.aload_n 0, 1) := by decide +kernel
theorem dY_comes_5 : decode cY_comes 5 = .ok (.getfield 52, 3) := by decide +kernel
theorem dY_comes_8 : decode cY_comes 8 = .ok (.iload_n 1, 1) := by decide +kernel
theorem dY_comes_9 : decode cY_comes 9 = .ok (.iastore, 1) := by decide +kernel
theorem dY_comes_10 : decode cY_comes 10 = .ok (.aload_n 0, 1) := by decide +kernel
theorem dY_comes_11 : decode cY_comes 11 = .ok (.getfield 16, 3) := by decide +kernel
theorem dY_comes_14 : decode cY_comes 14 = .ok (.aload_n 0, 1) := by decide +kernel
theorem dY_comes_15 : decode cY_comes 15 = .ok (.getfield 52, 3) := by decide +kernel
theorem dY_comes_18 : decode cY_comes 18 = .ok (.iload_n 2, 1) := by decide +kernel
theorem dY_comes_19 : decode cY_comes 19 = .ok (.iastore, 1) := by decide +kernel
theorem dY_comes_20 : decode cY_comes 20 = .ok (.aload_n 0, 1) := by decide +kernel
theorem dY_comes_21 : decode cY_comes 21 = .ok (.getfield 19, 3) := by decide +kernel
theorem dY_comes_24 : decode cY_comes 24 = .ok (.aload_n 0, 1) := by decide +kernel
theorem dY_comes_25 : decode cY_comes 25 = .ok (.getfield 52, 3) := by decide +kernel
theorem dY_comes_28 : decode cY_comes 28 = .ok (.iload_n 3, 1) := by decide +kernel
theorem dY_comes_29 : decode cY_comes 29 = .ok (.iastore, 1) := by decide +kernel
theorem dY_comes_30 : decode cY_comes 30 = .ok (.aload_n 0, 1) := by decide +kernel
theorem dY_comes_31 : decode cY_comes 31 = .ok (.dup, 1) := by decide +kernel
theorem dY_comes_32 : decode cY_comes 32 = .ok (.getfield 52, 3) := by decide +kernel
theorem dY_comes_35 : decode cY_comes 35 = .ok (.iconst 1, 1) := by decide +kernel
theorem dY_comes_36 : decode cY_comes 36 = .ok (.iadd, 1) := by decide +kernel
theorem dY_comes_37 : decode cY_comes 37 = .ok (.putfield 52, 3) := by decide +kernel
theorem dY_comes_40 : decode cY_comes 40 = .ok (.aload_n 0, 1) := by decide +kernel
theorem dY_comes_41 : decode cY_comes 41 = .ok (.getfield 7, 3) := by decide +kernel
theorem dY_comes_44 : decode cY_comes 44 = .ok (.iload_n 1, 1) := by decide +kernel
theorem dY_comes_45 : decode cY_comes 45 = .ok (.iload_n 2, 1) := by decide +kernel
theorem dY_comes_46 : decode cY_comes 46 = .ok (.iastore, 1) := by decide +kernel
theorem dY_comes_47 : decode cY_comes 47 = .ok (.return_, 1) := by decide +kernel
theorem dY_drop_0 : decode cY_drop 0 = .ok (.aload_n 0, 1) := by decide +kernel
theorem dY_drop_1 : decode cY_drop 1 = .ok (.dup, 1) := by decide +kernel
theorem dY_drop_2 : decode cY_drop 2 = .ok (.getfield 49, 3) := by decide +kernel
theorem dY_drop_5 : decode cY_drop 5 = .ok (.iconst 1, 1) := by decide +kernel
theorem dY_drop_6 : decode cY_drop 6 = .ok (.isub, 1) := by decide +kernel
theorem dY_drop_7 : decode cY_drop 7 = .ok (.putfield 49, 3) := by decide +kernel
theorem dY_drop_10 : decode cY_drop 10 = .ok (.iload_n 1, 1) := by decide +kernel
theorem dY_drop_11 : decode cY_drop 11 = .ok (.istore_n 2, 1) := by decide +kernel
theorem dY_drop_12 : decode cY_drop 12 = .ok (.iload_n 2, 1) := by decide +kernel
theorem dY_drop_13 : decode cY_drop 13 = .ok (.aload_n 0, 1) := by decide +kernel
theorem dY_drop_14 : decode cY_drop 14 = .ok (.getfield 49, 3) := by decide +kernel
theorem dY_drop_17 : decode cY_drop 17 = .ok (.if_icmp .ge 65, 3) := by decide +kernel
theorem dY_drop_20 : decode cY_drop 20 = .ok (.aload_n 0, 1) := by decide +kernel
theorem dY_drop_21 : decode cY_drop 21 = .ok (.getfield 22, 3) := by decide +kernel
theorem dY_drop_24 : decode cY_drop 24 = .ok (.iload_n 2, 1) := by decide +kernel
theorem dY_drop_25 : decode cY_drop 25 = .ok (.aload_n 0, 1) := by decide +kernel
theorem dY_drop_26 : decode cY_drop 26 = .ok (.getfield 22, 3) := by decide +kernel
theorem dY_drop_29 : decode cY_drop 29 = .ok (.iload_n 2, 1) := by decide +kernel
theorem dY_drop_30 : decode cY_drop 30 = .ok (.iconst 1, 1) := by decide +kernel
theorem dY_drop_31 : decode cY_drop 31 = .ok (.iadd, 1) := by decide +kernel
theorem dY_drop_32 : decode cY_drop 32 = .ok (.iaload, 1) := by decide +kernel
theorem dY_drop_33 : decode cY_drop 33 = .ok (.iastore, 1) := by decide +kernel
theorem dY_drop_34 : decode cY_drop 34 = .ok (.aload_n 0, 1) := by decide +kernel
theorem dY_drop_35 : decode cY_drop 35 = .ok (.getfield 25, 3) := by decide +kernel
theorem dY_drop_38 : decode cY_drop 38 = .ok (.iload_n 2, 1) := by decide +kernel
theorem dY_drop_39 : decode cY_drop 39 = .ok (.aload_n 0, 1) := by decide +kernel
theorem dY_drop_40 : decode cY_drop 40 = .ok (.getfield 25, 3) := by decide +kernel
theorem dY_drop_43 : decode cY_drop 43 = .ok (.iload_n 2, 1) := by decide +kernel
theorem dY_drop_44 : decode cY_drop 44 = .ok (.iconst 1, 1) := by decide +kernel
theorem dY_drop_45 : decode cY_drop 45 = .ok (.iadd, 1) := by decide +kernel
theorem dY_drop_46 : decode cY_drop 46 = .ok (.iaload, 1) := by decide +kernel
theorem dY_drop_47 : decode cY_drop 47 = .ok (.iastore, 1) := by decide +kernel
theorem dY_drop_48 : decode cY_drop 48 = .ok (.aload_n 0, 1) := by decide +kernel
theorem dY_drop_49 : decode cY_drop 49 = .ok (.getfield 28, 3) := by decide +kernel
theorem dY_drop_52 : decode cY_drop 52 = .ok (.iload_n 2, 1) := by decide +kernel
theorem dY_drop_53 : decode cY_drop 53 = .ok (.aload_n 0, 1) := by decide +kernel
theorem dY_drop_54 : decode cY_drop 54 = .ok (.getfield 28, 3) := by decide +kernel
theorem dY_drop_57 : decode cY_drop 57 = .ok (.iload_n 2, 1) := by decide +kernel
theorem dY_drop_58 : decode cY_drop 58 = .ok (.iconst 1, 1) := by decide +kernel
theorem dY_drop_59 : decode cY_drop 59 = .ok (.iadd, 1) := by decide +kernel
theorem dY_drop_60 : decode cY_drop 60 = .ok (.laload, 1) := by decide +kernel
theorem dY_drop_61 : decode cY_drop 61 = .ok (.lastore, 1) := by decide +kernel
theorem dY_drop_62 : decode cY_drop 62 = .ok (.aload_n 0, 1) := by decide +kernel
theorem dY_drop_63 : decode cY_drop 63 = .ok (.getfield 32, 3) := by decide +kernel
theorem dY_drop_66 : decode cY_drop 66 = .ok (.iload_n 2, 1) := by decide +kernel
theorem dY_drop_67 : decode cY_drop 67 = .ok (.aload_n 0, 1) := by decide +kernel
theorem dY_drop_68 : decode cY_drop 68 = .ok (.getfield 32, 3) := by decide +kernel
theorem dY_drop_71 : decode cY_drop 71 = .ok (.iload_n 2, 1) := by decide +kernel
theorem dY_drop_72 : decode cY_drop 72 = .ok (.iconst 1, 1) := by decide +kernel
theorem dY_drop_73 : decode cY_drop 73 = .ok (.iadd, 1) := by decide +kernel
theorem dY_drop_74 : decode cY_drop 74 = .ok (.iaload, 1) := by decide +kernel
theorem dY_drop_75 : decode cY_drop 75 = .ok (.iastore, 1) := by decide +kernel
theorem dY_drop_76 : decode cY_drop 76 = .ok (.iinc 2 1, 3) := by decide +kernel
theorem dY_drop_79 : decode cY_drop 79 = .ok (.goto (-67), 3) := by decide +kernel
theorem dY_drop_82 : decode cY_drop 82 = .ok (.return_, 1) := by decide +kernel
theorem dY_keep_0 : decode cY_keep 0 = .ok (.aload_n 0, 1) := by decide +kernel
theorem dY_keep_1 : decode cY_keep 1 = .ok (.getfield 49, 3) := by decide +kernel
theorem dY_keep_4 : decode cY_keep 4 = .ok (.istore 6, 2) := by decide +kernel
theorem dY_keep_6 : decode cY_keep 6 = .ok (.iload 6, 2) := by decide +kernel
theorem dY_keep_8 : decode cY_keep 8 = .ok (.ifCond .le 112, 3) := by decide +kernel
theorem dY_keep_11 : decode cY_keep 11 = .ok (.aload_n 0, 1) := by decide +kernel
theorem dY_keep_12 : decode cY_keep 12 = .ok (.getfield 22, 3) := by decide +kernel
theorem dY_keep_15 : decode cY_keep 15 = .ok (.iload 6, 2) := by decide +kernel
