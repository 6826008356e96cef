theorem dY_lacks_13 : decode cY_lacks 13 = .ok (.invokestatic 41, 3) := by decide +kernel
theorem dY_lacks_16 : decode cY_lacks 16 = .ok (.if_icmp .le 7, 3) := by decide +kernel
theorem dY_lacks_19 : decode cY_lacks 19 = .ok (.iconst 1, 1) := by decide +kernel
theorem dY_lacks_20 : decode cY_lacks 20 = .ok (.goto 4, 3) := by decide +kernel
theorem dY_lacks_23 : decode cY_lacks 23 = .ok (.iconst 0, 1) := by decide +kernel
theorem dY_lacks_24 : decode cY_lacks 24 = .ok (.ireturn, 1) := by decide +kernel
theorem dY_ahead_0 : decode cY_ahead 0 = .ok (.aload_n 0, 1) := by decide +kernel
theorem dY_ahead_1 : decode cY_ahead 1 = .ok (.iconst 0, 1) := by decide +kernel
theorem dY_ahead_2 : decode cY_ahead 2 = .ok (.putfield 35, 3) := by decide +kernel
theorem dY_ahead_5 : decode cY_ahead 5 = .ok (.iconst 0, 1) := by decide +kernel
theorem dY_ahead_6 : decode cY_ahead 6 = .ok (.istore_n 3, 1) := by decide +kernel
theorem dY_ahead_7 : decode cY_ahead 7 = .ok (.iconst 0, 1) := by decide +kernel
theorem dY_ahead_8 : decode cY_ahead 8 = .ok (.istore 4, 2) := by decide +kernel
theorem dY_ahead_10 : decode cY_ahead 10 = .ok (.iload 4, 2) := by decide +kernel
theorem dY_ahead_12 : decode cY_ahead 12 = .ok (.aload_n 0, 1) := by decide +kernel
theorem dY_ahead_13 : decode cY_ahead 13 = .ok (.getfield 52, 3) := by decide +kernel
theorem dY_ahead_16 : decode cY_ahead 16 = .ok (.if_icmp .ge 27, 3) := by decide +kernel
theorem dY_ahead_19 : decode cY_ahead 19 = .ok (.iload_n 3, 1) := by decide +kernel
theorem dY_ahead_20 : decode cY_ahead 20 = .ok (.aload_n 0, 1) := by decide +kernel
theorem dY_ahead_21 : decode cY_ahead 21 = .ok (.lload_n 1, 1) := by decide +kernel
theorem dY_ahead_22 : decode cY_ahead 22 = .ok (.iload 4, 2) := by decide +kernel
theorem dY_ahead_24 : decode cY_ahead 24 = .ok (.invokevirtual 85, 3) := by decide +kernel
theorem dY_ahead_27 : decode cY_ahead 27 = .ok (.ifCond .eq 7, 3) := by decide +kernel
theorem dY_ahead_30 : decode cY_ahead 30 = .ok (.iconst 1, 1) := by decide +kernel
theorem dY_ahead_31 : decode cY_ahead 31 = .ok (.goto 4, 3) := by decide +kernel
theorem dY_ahead_34 : decode cY_ahead 34 = .ok (.iconst 0, 1) := by decide +kernel
theorem dY_ahead_35 : decode cY_ahead 35 = .ok (.iadd, 1) := by decide +kernel
theorem dY_ahead_36 : decode cY_ahead 36 = .ok (.istore_n 3, 1) := by decide +kernel
theorem dY_ahead_37 : decode cY_ahead 37 = .ok (.iinc 4 1, 3) := by decide +kernel
theorem dY_ahead_40 : decode cY_ahead 40 = .ok (.goto (-30), 3) := by decide +kernel
theorem dY_ahead_43 : decode cY_ahead 43 = .ok (.iload_n 3, 1) := by decide +kernel
theorem dY_ahead_44 : decode cY_ahead 44 = .ok (.ireturn, 1) := by decide +kernel
theorem dY_next_0 : decode cY_next 0 = .ok (.aload_n 0, 1) := by decide +kernel
theorem dY_next_1 : decode cY_next 1 = .ok (.iconst 0, 1) := by decide +kernel
theorem dY_next_2 : decode cY_next 2 = .ok (.putfield 35, 3) := by decide +kernel
theorem dY_next_5 : decode cY_next 5 = .ok (.iconst 0, 1) := by decide +kernel
theorem dY_next_6 : decode cY_next 6 = .ok (.istore 4, 2) := by decide +kernel
theorem dY_next_8 : decode cY_next 8 = .ok (.iload 4, 2) := by decide +kernel
theorem dY_next_10 : decode cY_next 10 = .ok (.aload_n 0, 1) := by decide +kernel
theorem dY_next_11 : decode cY_next 11 = .ok (.getfield 52, 3) := by decide +kernel
theorem dY_next_14 : decode cY_next 14 = .ok (.if_icmp .ge 28, 3) := by decide +kernel
theorem dY_next_17 : decode cY_next 17 = .ok (.iload 4, 2) := by decide +kernel
theorem dY_next_19 : decode cY_next 19 = .ok (.iload_n 3, 1) := by decide +kernel
theorem dY_next_20 : decode cY_next 20 = .ok (.if_icmp .le 16, 3) := by decide +kernel
theorem dY_next_23 : decode cY_next 23 = .ok (.aload_n 0, 1) := by decide +kernel
theorem dY_next_24 : decode cY_next 24 = .ok (.lload_n 1, 1) := by decide +kernel
theorem dY_next_25 : decode cY_next 25 = .ok (.iload 4, 2) := by decide +kernel
theorem dY_next_27 : decode cY_next 27 = .ok (.invokevirtual 85, 3) := by decide +kernel
theorem dY_next_30 : decode cY_next 30 = .ok (.ifCond .eq 6, 3) := by decide +kernel
theorem dY_next_33 : decode cY_next 33 = .ok (.iload 4, 2) := by decide +kernel
theorem dY_next_35 : decode cY_next 35 = .ok (.ireturn, 1) := by decide +kernel
theorem dY_next_36 : decode cY_next 36 = .ok (.iinc 4 1, 3) := by decide +kernel
theorem dY_next_39 : decode cY_next 39 = .ok (.goto (-31), 3) := by decide +kernel
theorem dY_next_42 : decode cY_next 42 = .ok (.iconst (-1), 1) := by decide +kernel
theorem dY_next_43 : decode cY_next 43 = .ok (.ireturn, 1) := by decide +kernel
theorem dY_compare_0 : decode cY_compare 0 = .ok (.aload_n 0, 1) := by decide +kernel
theorem dY_compare_1 : decode cY_compare 1 = .ok (.iconst 0, 1) := by decide +kernel
theorem dY_compare_2 : decode cY_compare 2 = .ok (.putfield 35, 3) := by decide +kernel
theorem dY_compare_5 : decode cY_compare 5 = .ok (.iconst 0, 1) := by decide +kernel
theorem dY_compare_6 : decode cY_compare 6 = .ok (.istore_n 3, 1) := by decide +kernel
theorem dY_compare_7 : decode cY_compare 7 = .ok (.iconst 0, 1) := by decide +kernel
theorem dY_compare_8 : decode cY_compare 8 = .ok (.istore 4, 2) := by decide +kernel
theorem dY_compare_10 : decode cY_compare 10 = .ok (.iconst 0, 1) := by decide +kernel
theorem dY_compare_11 : decode cY_compare 11 = .ok (.istore 5, 2) := by decide +kernel
theorem dY_compare_13 : decode cY_compare 13 = .ok (.iload 5, 2) := by decide +kernel
theorem dY_compare_15 : decode cY_compare 15 = .ok (.bipush 8, 2) := by decide +kernel
theorem dY_compare_17 : decode cY_compare 17 = .ok (.if_icmp .ge 63, 3) := by decide +kernel
theorem dY_compare_20 : decode cY_compare 20 = .ok (.iload_n 3, 1) := by decide +kernel
theorem dY_compare_21 : decode cY_compare 21 = .ok (.ifCond .ne 19, 3) := by decide +kernel
theorem dY_compare_24 : decode cY_compare 24 = .ok (.aload_n 0, 1) := by decide +kernel
theorem dY_compare_25 : decode cY_compare 25 = .ok (.getfield 7, 3) := by decide +kernel
theorem dY_compare_28 : decode cY_compare 28 = .ok (.iload 5, 2) := by decide +kernel
theorem dY_compare_30 : decode cY_compare 30 = .ok (.iaload, 1) := by decide +kernel
theorem dY_compare_31 : decode cY_compare 31 = .ok (.lload_n 1, 1) := by decide +kernel
theorem dY_compare_32 : decode cY_compare 32 = .ok (.iload 5, 2) := by decide +kernel
theorem dY_compare_34 : decode cY_compare 34 = .ok (.invokestatic 41, 3) := by decide +kernel
theorem dY_compare_37 : decode cY_compare 37 = .ok (.if_icmp .ge 7, 3) := by decide +kernel
theorem dY_compare_40 : decode cY_compare 40 = .ok (.iconst 1, 1) := by decide +kernel
theorem dY_compare_41 : decode cY_compare 41 = .ok (.goto 4, 3) := by decide +kernel
theorem dY_compare_44 : decode cY_compare 44 = .ok (.iconst 0, 1) := by decide +kernel
theorem dY_compare_45 : decode cY_compare 45 = .ok (.istore_n 3, 1) := by decide +kernel
theorem dY_compare_46 : decode cY_compare 46 = .ok (.iload 4, 2) := by decide +kernel
theorem dY_compare_48 : decode cY_compare 48 = .ok (.ifCond .ne 19, 3) := by decide +kernel
theorem dY_compare_51 : decode cY_compare 51 = .ok (.aload_n 0, 1) := by decide +kernel
theorem dY_compare_52 : decode cY_compare 52 = .ok (.getfield 7, 3) := by decide +kernel
theorem dY_compare_55 : decode cY_compare 55 = .ok (.iload 5, 2) := by decide +kernel
theorem dY_compare_57 : decode cY_compare 57 = .ok (.iaload, 1) := by decide +kernel
theorem dY_compare_58 : decode cY_compare 58 = .ok (.lload_n 1, 1) := by decide +kernel
theorem dY_compare_59 : decode cY_compare 59 = .ok (.iload 5, 2) := by decide +kernel
theorem dY_compare_61 : decode cY_compare 61 = .ok (.invokestatic 41, 3) := by decide +kernel
theorem dY_compare_64 : decode cY_compare 64 = .ok (.if_icmp .le 7, 3) := by decide +kernel
theorem dY_compare_67 : decode cY_compare 67 = .ok (.iconst 1, 1) := by decide +kernel
theorem dY_compare_68 : decode cY_compare 68 = .ok (.goto 4, 3) := by decide +kernel
theorem dY_compare_71 : decode cY_compare 71 = .ok (.iconst 0, 1) := by decide +kernel
theorem dY_compare_72 : decode cY_compare 72 = .ok (.istore 4, 2) := by decide +kernel
theorem dY_compare_74 : decode cY_compare 74 = .ok (.iinc 5 1, 3) := by decide +kernel
theorem dY_compare_77 : decode cY_compare 77 = .ok (.goto (-64), 3) := by decide +kernel
theorem dY_compare_80 : decode cY_compare 80 = .ok (.iload_n 3, 1) := by decide +kernel
theorem dY_compare_81 : decode cY_compare 81 = .ok (.ifCond .eq 16, 3) := by decide +kernel
theorem dY_compare_84 : decode cY_compare 84 = .ok (.iload 4, 2) := by decide +kernel
theorem dY_compare_86 : decode cY_compare 86 = .ok (.ifCond .eq 7, 3) := by decide +kernel
theorem dY_compare_89 : decode cY_compare 89 = .ok (.iconst 3, 1) := by decide +kernel
theorem dY_compare_90 : decode cY_compare 90 = .ok (.goto 17, 3) := by decide +kernel
theorem dY_compare_93 : decode cY_compare 93 = .ok (.iconst 2, 1) := by decide +kernel
theorem dY_compare_94 : decode cY_compare 94 = .ok (.goto 13, 3) := by decide +kernel
theorem dY_compare_97 : decode cY_compare 97 = .ok (.iload 4, 2) := by decide +kernel
theorem dY_compare_99 : decode cY_compare 99 = .ok (.ifCond .eq 7, 3) := by decide +kernel
theorem dY_compare_102 : decode cY_compare 102 = .ok (.iconst 1, 1) := by decide +kernel
theorem dY_compare_103 : decode cY_compare 103 = .ok (.goto 4, 3) := by decide +kernel
theorem dY_compare_106 : decode cY_compare 106 = .ok (.iconst 0, 1) := by decide +kernel
theorem dY_compare_107 : decode cY_compare 107 = .ok (.ireturn, 1) := by decide +kernel
theorem dY_forget_0 : decode cY_forget 0 = .ok (.aload_n 0, 1) := by decide +kernel
theorem dY_forget_1 : decode cY_forget 1 = .ok (.iconst 0, 1) := by decide +kernel
theorem dY_forget_2 : decode cY_forget 2 = .ok (.putfield 35, 3) := by decide +kernel
theorem dY_forget_5 : decode cY_forget 5 = .ok (.iconst 0, 1) := by decide +kernel
theorem dY_forget_6 : decode cY_forget 6 = .ok (.istore_n 2, 1) := by decide +kernel
theorem dY_forget_7 : decode cY_forget 7 = .ok (.aload_n 0, 1) := by decide +kernel
theorem dY_forget_8 : decode cY_forget 8 = .ok (.getfield 49, 3) := by decide +kernel
theorem dY_forget_11 : decode cY_forget 11 = .ok (.iconst 1, 1) := by decide +kernel
theorem dY_forget_12 : decode cY_forget 12 = .ok (.isub, 1) := by decide +kernel
theorem dY_forget_13 : decode cY_forget 13 = .ok (.istore_n 3, 1) := by decide +kernel
theorem dY_forget_14 : decode cY_forget 14 = .ok (.iload_n 3, 1) := by decide +kernel
theorem dY_forget_15 : decode cY_forget 15 = .ok (.ifCond .lt 27, 3) := by decide +kernel
theorem dY_forget_18 : decode cY_forget 18 = .ok (.aload_n 0, 1) := by decide +kernel
theorem dY_forget_19 : decode cY_forget 19 = .ok (.getfield 22, 3) := by decide +kernel
theorem dY_forget_22 : decode cY_forget 22 = .ok (.iload_n 3, 1) := by decide +kernel
theorem dY_forget_23 : decode cY_forget 23 = .ok (.iaload, 1) := by decide +kernel
theorem dY_forget_24 : decode cY_forget 24 = .ok (.iload_n 1, 1) := by decide +kernel
theorem dY_forget_25 : decode cY_forget 25 = .ok (.if_icmp .ne 11, 3) := by decide +kernel
theorem dY_forget_28 : decode cY_forget 28 = .ok (.aload_n 0, 1) := by decide +kernel
theorem dY_forget_29 : decode cY_forget 29 = .ok (.iload_n 3, 1) := by decide +kernel
theorem dY_forget_30 : decode cY_forget 30 = .ok (.invokevirtual 81, 3) := by decide +kernel
theorem dY_forget_33 : decode cY_forget 33 = .ok (.iinc 2 1, 3) := by decide +kernel
theorem dY_forget_36 : decode cY_forget 36 = .ok (.iinc 3 (-1), 3) := by decide +kernel
theorem dY_forget_39 : decode cY_forget 39 = .ok (.goto (-25), 3) := by decide +kernel
theorem dY_forget_42 : decode cY_forget 42 = .ok (.iload_n 2, 1) := by decide +kernel
theorem dY_forget_43 : decode cY_forget 43 = .ok (.ireturn, 1) := by decide +kernel
theorem dY_look_0 : decode cY_look 0 = .ok (.aload_n 0, 1) := by decide +kernel
theorem dY_look_1 : decode cY_look 1 = .ok (.iconst 0, 1) := by decide +kernel
theorem dY_look_2 : decode cY_look 2 = .ok (.putfield 35, 3) := by decide +kernel
theorem dY_look_5 : decode cY_look 5 = .ok (.iload_n 1, 1) := by decide +kernel
theorem dY_look_6 : decode cY_look 6 = .ok (.ifCond .ne 10, 3) := by decide +kernel
theorem dY_look_9 : decode cY_look 9 = .ok (.aload_n 0, 1) := by decide +kernel
theorem dY_look_10 : decode cY_look 10 = .ok (.getfield 52, 3) := by decide +kernel
theorem dY_look_13 : decode cY_look 13 = .ok (.goto 40, 3) := by decide +kernel
theorem dY_look_16 : decode cY_look 16 = .ok (.iload_n 1, 1) := by decide +kernel
theorem dY_look_17 : decode cY_look 17 = .ok (.iconst 1, 1) := by decide +kernel
theorem dY_look_18 : decode cY_look 18 = .ok (.if_icmp .ne 10, 3) := by decide +kernel
theorem dY_look_21 : decode cY_look 21 = .ok (.aload_n 0, 1) := by decide +kernel
theorem dY_look_22 : decode cY_look 22 = .ok (.getfield 49, 3) := by decide +kernel
theorem dY_look_25 : decode cY_look 25 = .ok (.goto 28, 3) := by decide +kernel
theorem dY_look_28 : decode cY_look 28 = .ok (.iload_n 1, 1) := by decide +kernel
theorem dY_look_29 : decode cY_look 29 = .ok (.iconst 2, 1) := by decide +kernel
theorem dY_look_30 : decode cY_look 30 = .ok (.if_icmp .ne 10, 3) := by decide +kernel
theorem dY_look_33 : decode cY_look 33 = .ok (.aload_n 0, 1) := by decide +kernel
theorem dY_look_34 : decode cY_look 34 = .ok (.getfield 59, 3) := by decide +kernel
theorem dY_look_37 : decode cY_look 37 = .ok (.goto 16, 3) := by decide +kernel
theorem dY_look_40 : decode cY_look 40 = .ok (.iload_n 1, 1) := by decide +kernel
theorem dY_look_41 : decode cY_look 41 = .ok (.iconst 3, 1) := by decide +kernel
theorem dY_look_42 : decode cY_look 42 = .ok (.if_icmp .ne 10, 3) := by decide +kernel
theorem dY_look_45 : decode cY_look 45 = .ok (.aload_n 0, 1) := by decide +kernel
theorem dY_look_46 : decode cY_look 46 = .ok (.getfield 62, 3) := by decide +kernel
theorem dY_look_49 : decode cY_look 49 = .ok (.goto 4, 3) := by decide +kernel
theorem dY_look_52 : decode cY_look 52 = .ok (.iconst (-1), 1) := by decide +kernel
theorem dY_look_53 : decode cY_look 53 = .ok (.ireturn, 1) := by decide +kernel
