theorem d_Model_hidden_8 : decode b_Model_hidden 8 = .ok (.getfield 86, 3) := by decide +kernel
theorem d_Model_hidden_11 : decode b_Model_hidden 11 = .ok (.if_icmp .ge 41, 3) := by decide +kernel
theorem d_Model_hidden_14 : decode b_Model_hidden 14 = .ok (.lload_n 1, 1) := by decide +kernel
theorem d_Model_hidden_15 : decode b_Model_hidden 15 = .ok (.iload 5, 2) := by decide +kernel
theorem d_Model_hidden_17 : decode b_Model_hidden 17 = .ok (.invokestatic 78, 3) := by decide +kernel
theorem d_Model_hidden_20 : decode b_Model_hidden 20 = .ok (.ifCond .eq 26, 3) := by decide +kernel
theorem d_Model_hidden_23 : decode b_Model_hidden 23 = .ok (.aload_n 0, 1) := by decide +kernel
theorem d_Model_hidden_24 : decode b_Model_hidden 24 = .ok (.getfield 16, 3) := by decide +kernel
theorem d_Model_hidden_27 : decode b_Model_hidden 27 = .ok (.iload 5, 2) := by decide +kernel
theorem d_Model_hidden_29 : decode b_Model_hidden 29 = .ok (.baload, 1) := by decide +kernel
theorem d_Model_hidden_30 : decode b_Model_hidden 30 = .ok (.ifCond .ne 16, 3) := by decide +kernel
theorem d_Model_hidden_33 : decode b_Model_hidden 33 = .ok (.lload_n 3, 1) := by decide +kernel
theorem d_Model_hidden_34 : decode b_Model_hidden 34 = .ok (.aload_n 0, 1) := by decide +kernel
theorem d_Model_hidden_35 : decode b_Model_hidden 35 = .ok (.getfield 33, 3) := by decide +kernel
theorem d_Model_hidden_38 : decode b_Model_hidden 38 = .ok (.iload 5, 2) := by decide +kernel
theorem d_Model_hidden_40 : decode b_Model_hidden 40 = .ok (.iaload, 1) := by decide +kernel
theorem d_Model_hidden_41 : decode b_Model_hidden 41 = .ok (.invokestatic 90, 3) := by decide +kernel
theorem d_Model_hidden_44 : decode b_Model_hidden 44 = .ok (.lor, 1) := by decide +kernel
theorem d_Model_hidden_45 : decode b_Model_hidden 45 = .ok (.lstore_n 3, 1) := by decide +kernel
theorem d_Model_hidden_46 : decode b_Model_hidden 46 = .ok (.iinc 5 1, 3) := by decide +kernel
theorem d_Model_hidden_49 : decode b_Model_hidden 49 = .ok (.goto (-44), 3) := by decide +kernel
theorem d_Model_hidden_52 : decode b_Model_hidden 52 = .ok (.lload_n 3, 1) := by decide +kernel
theorem d_Model_hidden_53 : decode b_Model_hidden 53 = .ok (.lreturn, 1) := by decide +kernel
theorem d_Model_shownAt_0 : decode b_Model_shownAt 0 = .ok (.aload_n 0, 1) := by decide +kernel
theorem d_Model_shownAt_1 : decode b_Model_shownAt 1 = .ok (.lload_n 1, 1) := by decide +kernel
theorem d_Model_shownAt_2 : decode b_Model_shownAt 2 = .ok (.invokevirtual 94, 3) := by decide +kernel
theorem d_Model_shownAt_5 : decode b_Model_shownAt 5 = .ok (.lstore 4, 2) := by decide +kernel
theorem d_Model_shownAt_7 : decode b_Model_shownAt 7 = .ok (.iconst 0, 1) := by decide +kernel
theorem d_Model_shownAt_8 : decode b_Model_shownAt 8 = .ok (.istore 6, 2) := by decide +kernel
theorem d_Model_shownAt_10 : decode b_Model_shownAt 10 = .ok (.iconst 0, 1) := by decide +kernel
theorem d_Model_shownAt_11 : decode b_Model_shownAt 11 = .ok (.istore 7, 2) := by decide +kernel
theorem d_Model_shownAt_13 : decode b_Model_shownAt 13 = .ok (.iload 7, 2) := by decide +kernel
theorem d_Model_shownAt_15 : decode b_Model_shownAt 15 = .ok (.aload_n 0, 1) := by decide +kernel
theorem d_Model_shownAt_16 : decode b_Model_shownAt 16 = .ok (.getfield 98, 3) := by decide +kernel
theorem d_Model_shownAt_19 : decode b_Model_shownAt 19 = .ok (.if_icmp .ge 49, 3) := by decide +kernel
theorem d_Model_shownAt_22 : decode b_Model_shownAt 22 = .ok (.aload_n 0, 1) := by decide +kernel
theorem d_Model_shownAt_23 : decode b_Model_shownAt 23 = .ok (.getfield 42, 3) := by decide +kernel
theorem d_Model_shownAt_26 : decode b_Model_shownAt 26 = .ok (.iload 7, 2) := by decide +kernel
theorem d_Model_shownAt_28 : decode b_Model_shownAt 28 = .ok (.iaload, 1) := by decide +kernel
theorem d_Model_shownAt_29 : decode b_Model_shownAt 29 = .ok (.istore 8, 2) := by decide +kernel
theorem d_Model_shownAt_31 : decode b_Model_shownAt 31 = .ok (.lload_n 1, 1) := by decide +kernel
theorem d_Model_shownAt_32 : decode b_Model_shownAt 32 = .ok (.iload 8, 2) := by decide +kernel
theorem d_Model_shownAt_34 : decode b_Model_shownAt 34 = .ok (.invokestatic 78, 3) := by decide +kernel
theorem d_Model_shownAt_37 : decode b_Model_shownAt 37 = .ok (.ifCond .eq 25, 3) := by decide +kernel
theorem d_Model_shownAt_40 : decode b_Model_shownAt 40 = .ok (.lload 4, 2) := by decide +kernel
theorem d_Model_shownAt_42 : decode b_Model_shownAt 42 = .ok (.iload 8, 2) := by decide +kernel
theorem d_Model_shownAt_44 : decode b_Model_shownAt 44 = .ok (.invokestatic 78, 3) := by decide +kernel
theorem d_Model_shownAt_47 : decode b_Model_shownAt 47 = .ok (.ifCond .ne 15, 3) := by decide +kernel
theorem d_Model_shownAt_50 : decode b_Model_shownAt 50 = .ok (.iload 6, 2) := by decide +kernel
theorem d_Model_shownAt_52 : decode b_Model_shownAt 52 = .ok (.iload_n 3, 1) := by decide +kernel
theorem d_Model_shownAt_53 : decode b_Model_shownAt 53 = .ok (.if_icmp .ne 6, 3) := by decide +kernel
theorem d_Model_shownAt_56 : decode b_Model_shownAt 56 = .ok (.iload 8, 2) := by decide +kernel
theorem d_Model_shownAt_58 : decode b_Model_shownAt 58 = .ok (.ireturn, 1) := by decide +kernel
theorem d_Model_shownAt_59 : decode b_Model_shownAt 59 = .ok (.iinc 6 1, 3) := by decide +kernel
theorem d_Model_shownAt_62 : decode b_Model_shownAt 62 = .ok (.iinc 7 1, 3) := by decide +kernel
theorem d_Model_shownAt_65 : decode b_Model_shownAt 65 = .ok (.goto (-52), 3) := by decide +kernel
theorem d_Model_shownAt_68 : decode b_Model_shownAt 68 = .ok (.iconst (-1), 1) := by decide +kernel
theorem d_Model_shownAt_69 : decode b_Model_shownAt 69 = .ok (.ireturn, 1) := by decide +kernel
theorem d_Model_shownBefore_0 : decode b_Model_shownBefore 0 = .ok (.aload_n 0, 1) := by decide +kernel
theorem d_Model_shownBefore_1 : decode b_Model_shownBefore 1 = .ok (.lload_n 1, 1) := by decide +kernel
theorem d_Model_shownBefore_2 : decode b_Model_shownBefore 2 = .ok (.invokevirtual 94, 3) := by decide +kernel
theorem d_Model_shownBefore_5 : decode b_Model_shownBefore 5 = .ok (.lstore 4, 2) := by decide +kernel
theorem d_Model_shownBefore_7 : decode b_Model_shownBefore 7 = .ok (.iconst 0, 1) := by decide +kernel
theorem d_Model_shownBefore_8 : decode b_Model_shownBefore 8 = .ok (.istore 6, 2) := by decide +kernel
theorem d_Model_shownBefore_10 : decode b_Model_shownBefore 10 = .ok (.iconst 0, 1) := by decide +kernel
theorem d_Model_shownBefore_11 : decode b_Model_shownBefore 11 = .ok (.istore 7, 2) := by decide +kernel
theorem d_Model_shownBefore_13 : decode b_Model_shownBefore 13 = .ok (.iload 7, 2) := by decide +kernel
theorem d_Model_shownBefore_15 : decode b_Model_shownBefore 15 = .ok (.aload_n 0, 1) := by decide +kernel
theorem d_Model_shownBefore_16 : decode b_Model_shownBefore 16 = .ok (.getfield 98, 3) := by decide +kernel
theorem d_Model_shownBefore_19 : decode b_Model_shownBefore 19 = .ok (.if_icmp .ge 58, 3) := by decide +kernel
theorem d_Model_shownBefore_22 : decode b_Model_shownBefore 22 = .ok (.aload_n 0, 1) := by decide +kernel
theorem d_Model_shownBefore_23 : decode b_Model_shownBefore 23 = .ok (.getfield 42, 3) := by decide +kernel
theorem d_Model_shownBefore_26 : decode b_Model_shownBefore 26 = .ok (.iload 7, 2) := by decide +kernel
theorem d_Model_shownBefore_28 : decode b_Model_shownBefore 28 = .ok (.iaload, 1) := by decide +kernel
theorem d_Model_shownBefore_29 : decode b_Model_shownBefore 29 = .ok (.iload_n 3, 1) := by decide +kernel
theorem d_Model_shownBefore_30 : decode b_Model_shownBefore 30 = .ok (.if_icmp .eq 47, 3) := by decide +kernel
theorem d_Model_shownBefore_33 : decode b_Model_shownBefore 33 = .ok (.aload_n 0, 1) := by decide +kernel
theorem d_Model_shownBefore_34 : decode b_Model_shownBefore 34 = .ok (.getfield 42, 3) := by decide +kernel
theorem d_Model_shownBefore_37 : decode b_Model_shownBefore 37 = .ok (.iload 7, 2) := by decide +kernel
theorem d_Model_shownBefore_39 : decode b_Model_shownBefore 39 = .ok (.iaload, 1) := by decide +kernel
theorem d_Model_shownBefore_40 : decode b_Model_shownBefore 40 = .ok (.istore 8, 2) := by decide +kernel
theorem d_Model_shownBefore_42 : decode b_Model_shownBefore 42 = .ok (.iload 6, 2) := by decide +kernel
theorem d_Model_shownBefore_44 : decode b_Model_shownBefore 44 = .ok (.lload_n 1, 1) := by decide +kernel
theorem d_Model_shownBefore_45 : decode b_Model_shownBefore 45 = .ok (.iload 8, 2) := by decide +kernel
theorem d_Model_shownBefore_47 : decode b_Model_shownBefore 47 = .ok (.invokestatic 78, 3) := by decide +kernel
theorem d_Model_shownBefore_50 : decode b_Model_shownBefore 50 = .ok (.ifCond .eq 17, 3) := by decide +kernel
theorem d_Model_shownBefore_53 : decode b_Model_shownBefore 53 = .ok (.lload 4, 2) := by decide +kernel
theorem d_Model_shownBefore_55 : decode b_Model_shownBefore 55 = .ok (.iload 8, 2) := by decide +kernel
theorem d_Model_shownBefore_57 : decode b_Model_shownBefore 57 = .ok (.invokestatic 78, 3) := by decide +kernel
theorem d_Model_shownBefore_60 : decode b_Model_shownBefore 60 = .ok (.ifCond .ne 7, 3) := by decide +kernel
theorem d_Model_shownBefore_63 : decode b_Model_shownBefore 63 = .ok (.iconst 1, 1) := by decide +kernel
theorem d_Model_shownBefore_64 : decode b_Model_shownBefore 64 = .ok (.goto 4, 3) := by decide +kernel
theorem d_Model_shownBefore_67 : decode b_Model_shownBefore 67 = .ok (.iconst 0, 1) := by decide +kernel
theorem d_Model_shownBefore_68 : decode b_Model_shownBefore 68 = .ok (.iadd, 1) := by decide +kernel
theorem d_Model_shownBefore_69 : decode b_Model_shownBefore 69 = .ok (.istore 6, 2) := by decide +kernel
theorem d_Model_shownBefore_71 : decode b_Model_shownBefore 71 = .ok (.iinc 7 1, 3) := by decide +kernel
theorem d_Model_shownBefore_74 : decode b_Model_shownBefore 74 = .ok (.goto (-61), 3) := by decide +kernel
theorem d_Model_shownBefore_77 : decode b_Model_shownBefore 77 = .ok (.iload 6, 2) := by decide +kernel
theorem d_Model_shownBefore_79 : decode b_Model_shownBefore 79 = .ok (.ireturn, 1) := by decide +kernel
theorem d_Model_behind_0 : decode b_Model_behind 0 = .ok (.iload_n 3, 1) := by decide +kernel
theorem d_Model_behind_1 : decode b_Model_behind 1 = .ok (.bipush 40, 2) := by decide +kernel
theorem d_Model_behind_3 : decode b_Model_behind 3 = .ok (.if_icmp .ne 7, 3) := by decide +kernel
theorem d_Model_behind_6 : decode b_Model_behind 6 = .ok (.iconst 1, 1) := by decide +kernel
theorem d_Model_behind_7 : decode b_Model_behind 7 = .ok (.goto 4, 3) := by decide +kernel
theorem d_Model_behind_10 : decode b_Model_behind 10 = .ok (.iconst 0, 1) := by decide +kernel
theorem d_Model_behind_11 : decode b_Model_behind 11 = .ok (.istore 4, 2) := by decide +kernel
theorem d_Model_behind_13 : decode b_Model_behind 13 = .ok (.iconst 0, 1) := by decide +kernel
theorem d_Model_behind_14 : decode b_Model_behind 14 = .ok (.istore 5, 2) := by decide +kernel
theorem d_Model_behind_16 : decode b_Model_behind 16 = .ok (.iload 5, 2) := by decide +kernel
theorem d_Model_behind_18 : decode b_Model_behind 18 = .ok (.aload_n 0, 1) := by decide +kernel
theorem d_Model_behind_19 : decode b_Model_behind 19 = .ok (.getfield 98, 3) := by decide +kernel
theorem d_Model_behind_22 : decode b_Model_behind 22 = .ok (.if_icmp .ge 59, 3) := by decide +kernel
theorem d_Model_behind_25 : decode b_Model_behind 25 = .ok (.iload 4, 2) := by decide +kernel
theorem d_Model_behind_27 : decode b_Model_behind 27 = .ok (.ifCond .eq 25, 3) := by decide +kernel
theorem d_Model_behind_30 : decode b_Model_behind 30 = .ok (.lload_n 1, 1) := by decide +kernel
theorem d_Model_behind_31 : decode b_Model_behind 31 = .ok (.aload_n 0, 1) := by decide +kernel
theorem d_Model_behind_32 : decode b_Model_behind 32 = .ok (.getfield 42, 3) := by decide +kernel
theorem d_Model_behind_35 : decode b_Model_behind 35 = .ok (.iload 5, 2) := by decide +kernel
theorem d_Model_behind_37 : decode b_Model_behind 37 = .ok (.iaload, 1) := by decide +kernel
theorem d_Model_behind_38 : decode b_Model_behind 38 = .ok (.invokestatic 78, 3) := by decide +kernel
theorem d_Model_behind_41 : decode b_Model_behind 41 = .ok (.ifCond .eq 11, 3) := by decide +kernel
theorem d_Model_behind_44 : decode b_Model_behind 44 = .ok (.aload_n 0, 1) := by decide +kernel
theorem d_Model_behind_45 : decode b_Model_behind 45 = .ok (.getfield 42, 3) := by decide +kernel
theorem d_Model_behind_48 : decode b_Model_behind 48 = .ok (.iload 5, 2) := by decide +kernel
theorem d_Model_behind_50 : decode b_Model_behind 50 = .ok (.iaload, 1) := by decide +kernel
theorem d_Model_behind_51 : decode b_Model_behind 51 = .ok (.ireturn, 1) := by decide +kernel
theorem d_Model_behind_52 : decode b_Model_behind 52 = .ok (.iload 4, 2) := by decide +kernel
theorem d_Model_behind_54 : decode b_Model_behind 54 = .ok (.ifCond .ne 14, 3) := by decide +kernel
theorem d_Model_behind_57 : decode b_Model_behind 57 = .ok (.aload_n 0, 1) := by decide +kernel
theorem d_Model_behind_58 : decode b_Model_behind 58 = .ok (.getfield 42, 3) := by decide +kernel
theorem d_Model_behind_61 : decode b_Model_behind 61 = .ok (.iload 5, 2) := by decide +kernel
theorem d_Model_behind_63 : decode b_Model_behind 63 = .ok (.iaload, 1) := by decide +kernel
theorem d_Model_behind_64 : decode b_Model_behind 64 = .ok (.iload_n 3, 1) := by decide +kernel
theorem d_Model_behind_65 : decode b_Model_behind 65 = .ok (.if_icmp .ne 7, 3) := by decide +kernel
theorem d_Model_behind_68 : decode b_Model_behind 68 = .ok (.iconst 1, 1) := by decide +kernel
theorem d_Model_behind_69 : decode b_Model_behind 69 = .ok (.goto 4, 3) := by decide +kernel
theorem d_Model_behind_72 : decode b_Model_behind 72 = .ok (.iconst 0, 1) := by decide +kernel
theorem d_Model_behind_73 : decode b_Model_behind 73 = .ok (.istore 4, 2) := by decide +kernel
theorem d_Model_behind_75 : decode b_Model_behind 75 = .ok (.iinc 5 1, 3) := by decide +kernel
theorem d_Model_behind_78 : decode b_Model_behind 78 = .ok (.goto (-62), 3) := by decide +kernel
theorem d_Model_behind_81 : decode b_Model_behind 81 = .ok (.bipush 40, 2) := by decide +kernel
theorem d_Model_behind_83 : decode b_Model_behind 83 = .ok (.ireturn, 1) := by decide +kernel
theorem d_Model_lower_0 : decode b_Model_lower 0 = .ok (.aload_n 0, 1) := by decide +kernel
theorem d_Model_lower_1 : decode b_Model_lower 1 = .ok (.getfield 7, 3) := by decide +kernel
theorem d_Model_lower_4 : decode b_Model_lower 4 = .ok (.iload_n 1, 1) := by decide +kernel
theorem d_Model_lower_5 : decode b_Model_lower 5 = .ok (.iaload, 1) := by decide +kernel
theorem d_Model_lower_6 : decode b_Model_lower 6 = .ok (.aload_n 0, 1) := by decide +kernel
theorem d_Model_lower_7 : decode b_Model_lower 7 = .ok (.getfield 7, 3) := by decide +kernel
theorem d_Model_lower_10 : decode b_Model_lower 10 = .ok (.iload_n 2, 1) := by decide +kernel
theorem d_Model_lower_11 : decode b_Model_lower 11 = .ok (.iaload, 1) := by decide +kernel
theorem d_Model_lower_12 : decode b_Model_lower 12 = .ok (.if_icmp .eq 26, 3) := by decide +kernel
theorem d_Model_lower_15 : decode b_Model_lower 15 = .ok (.aload_n 0, 1) := by decide +kernel
theorem d_Model_lower_16 : decode b_Model_lower 16 = .ok (.getfield 7, 3) := by decide +kernel
theorem d_Model_lower_19 : decode b_Model_lower 19 = .ok (.iload_n 1, 1) := by decide +kernel
theorem d_Model_lower_20 : decode b_Model_lower 20 = .ok (.iaload, 1) := by decide +kernel
theorem d_Model_lower_21 : decode b_Model_lower 21 = .ok (.aload_n 0, 1) := by decide +kernel
theorem d_Model_lower_22 : decode b_Model_lower 22 = .ok (.getfield 7, 3) := by decide +kernel
theorem d_Model_lower_25 : decode b_Model_lower 25 = .ok (.iload_n 2, 1) := by decide +kernel
theorem d_Model_lower_26 : decode b_Model_lower 26 = .ok (.iaload, 1) := by decide +kernel
theorem d_Model_lower_27 : decode b_Model_lower 27 = .ok (.if_icmp .ge 7, 3) := by decide +kernel
theorem d_Model_lower_30 : decode b_Model_lower 30 = .ok (.iconst 1, 1) := by decide +kernel
theorem d_Model_lower_31 : decode b_Model_lower 31 = .ok (.goto 27, 3) := by decide +kernel
theorem d_Model_lower_34 : decode b_Model_lower 34 = .ok (.iconst 0, 1) := by decide +kernel
theorem d_Model_lower_35 : decode b_Model_lower 35 = .ok (.goto 23, 3) := by decide +kernel
theorem d_Model_lower_38 : decode b_Model_lower 38 = .ok (.aload_n 0, 1) := by decide +kernel
theorem d_Model_lower_39 : decode b_Model_lower 39 = .ok (.getfield 13, 3) := by decide +kernel
theorem d_Model_lower_42 : decode b_Model_lower 42 = .ok (.iload_n 1, 1) := by decide +kernel
theorem d_Model_lower_43 : decode b_Model_lower 43 = .ok (.iaload, 1) := by decide +kernel
theorem d_Model_lower_44 : decode b_Model_lower 44 = .ok (.aload_n 0, 1) := by decide +kernel
theorem d_Model_lower_45 : decode b_Model_lower 45 = .ok (.getfield 13, 3) := by decide +kernel
theorem d_Model_lower_48 : decode b_Model_lower 48 = .ok (.iload_n 2, 1) := by decide +kernel
theorem d_Model_lower_49 : decode b_Model_lower 49 = .ok (.iaload, 1) := by decide +kernel
theorem d_Model_lower_50 : decode b_Model_lower 50 = .ok (.if_icmp .ge 7, 3) := by decide +kernel
theorem d_Model_lower_53 : decode b_Model_lower 53 = .ok (.iconst 1, 1) := by decide +kernel
theorem d_Model_lower_54 : decode b_Model_lower 54 = .ok (.goto 4, 3) := by decide +kernel
theorem d_Model_lower_57 : decode b_Model_lower 57 = .ok (.iconst 0, 1) := by decide +kernel
theorem d_Model_lower_58 : decode b_Model_lower 58 = .ok (.ireturn, 1) := by decide +kernel
theorem d_Model_stands_0 : decode b_Model_stands 0 = .ok (.iload_n 1, 1) := by decide +kernel
theorem d_Model_stands_1 : decode b_Model_stands 1 = .ok (.istore_n 3, 1) := by decide +kernel
theorem d_Model_stands_2 : decode b_Model_stands 2 = .ok (.iload_n 2, 1) := by decide +kernel
theorem d_Model_stands_3 : decode b_Model_stands 3 = .ok (.istore 4, 2) := by decide +kernel
theorem d_Model_stands_5 : decode b_Model_stands 5 = .ok (.iconst (-1), 1) := by decide +kernel
theorem d_Model_stands_6 : decode b_Model_stands 6 = .ok (.istore 5, 2) := by decide +kernel
theorem d_Model_stands_8 : decode b_Model_stands 8 = .ok (.iconst (-1), 1) := by decide +kernel
theorem d_Model_stands_9 : decode b_Model_stands 9 = .ok (.istore 6, 2) := by decide +kernel
theorem d_Model_stands_11 : decode b_Model_stands 11 = .ok (.iconst 0, 1) := by decide +kernel
theorem d_Model_stands_12 : decode b_Model_stands 12 = .ok (.istore 7, 2) := by decide +kernel
theorem d_Model_stands_14 : decode b_Model_stands 14 = .ok (.iload 7, 2) := by decide +kernel
theorem d_Model_stands_16 : decode b_Model_stands 16 = .ok (.bipush 90, 2) := by decide +kernel
theorem d_Model_stands_18 : decode b_Model_stands 18 = .ok (.if_icmp .ge 57, 3) := by decide +kernel
theorem d_Model_stands_21 : decode b_Model_stands 21 = .ok (.iload_n 3, 1) := by decide +kernel
theorem d_Model_stands_22 : decode b_Model_stands 22 = .ok (.iload 4, 2) := by decide +kernel
theorem d_Model_stands_24 : decode b_Model_stands 24 = .ok (.if_icmp .eq 51, 3) := by decide +kernel
theorem d_Model_stands_27 : decode b_Model_stands 27 = .ok (.aload_n 0, 1) := by decide +kernel
theorem d_Model_stands_28 : decode b_Model_stands 28 = .ok (.getfield 39, 3) := by decide +kernel
theorem d_Model_stands_31 : decode b_Model_stands 31 = .ok (.iload_n 3, 1) := by decide +kernel
theorem d_Model_stands_32 : decode b_Model_stands 32 = .ok (.iaload, 1) := by decide +kernel
theorem d_Model_stands_33 : decode b_Model_stands 33 = .ok (.aload_n 0, 1) := by decide +kernel
theorem d_Model_stands_34 : decode b_Model_stands 34 = .ok (.getfield 39, 3) := by decide +kernel
theorem d_Model_stands_37 : decode b_Model_stands 37 = .ok (.iload 4, 2) := by decide +kernel
theorem d_Model_stands_39 : decode b_Model_stands 39 = .ok (.iaload, 1) := by decide +kernel
theorem d_Model_stands_40 : decode b_Model_stands 40 = .ok (.if_icmp .lt 16, 3) := by decide +kernel
theorem d_Model_stands_43 : decode b_Model_stands 43 = .ok (.iload_n 3, 1) := by decide +kernel
theorem d_Model_stands_44 : decode b_Model_stands 44 = .ok (.istore 5, 2) := by decide +kernel
theorem d_Model_stands_46 : decode b_Model_stands 46 = .ok (.aload_n 0, 1) := by decide +kernel
theorem d_Model_stands_47 : decode b_Model_stands 47 = .ok (.getfield 33, 3) := by decide +kernel
theorem d_Model_stands_50 : decode b_Model_stands 50 = .ok (.iload_n 3, 1) := by decide +kernel
theorem d_Model_stands_51 : decode b_Model_stands 51 = .ok (.iaload, 1) := by decide +kernel
theorem d_Model_stands_52 : decode b_Model_stands 52 = .ok (.istore_n 3, 1) := by decide +kernel
theorem d_Model_stands_53 : decode b_Model_stands 53 = .ok (.goto 16, 3) := by decide +kernel
theorem d_Model_stands_56 : decode b_Model_stands 56 = .ok (.iload 4, 2) := by decide +kernel
theorem d_Model_stands_58 : decode b_Model_stands 58 = .ok (.istore 6, 2) := by decide +kernel
theorem d_Model_stands_60 : decode b_Model_stands 60 = .ok (.aload_n 0, 1) := by decide +kernel
theorem d_Model_stands_61 : decode b_Model_stands 61 = .ok (.getfield 33, 3) := by decide +kernel
theorem d_Model_stands_64 : decode b_Model_stands 64 = .ok (.iload 4, 2) := by decide +kernel
theorem d_Model_stands_66 : decode b_Model_stands 66 = .ok (.iaload, 1) := by decide +kernel
theorem d_Model_stands_67 : decode b_Model_stands 67 = .ok (.istore 4, 2) := by decide +kernel
theorem d_Model_stands_69 : decode b_Model_stands 69 = .ok (.iinc 7 1, 3) := by decide +kernel
theorem d_Model_stands_72 : decode b_Model_stands 72 = .ok (.goto (-58), 3) := by decide +kernel
theorem d_Model_stands_75 : decode b_Model_stands 75 = .ok (.iload 5, 2) := by decide +kernel
theorem d_Model_stands_77 : decode b_Model_stands 77 = .ok (.ifCond .ge 11, 3) := by decide +kernel
theorem d_Model_stands_80 : decode b_Model_stands 80 = .ok (.aload_n 0, 1) := by decide +kernel
theorem d_Model_stands_81 : decode b_Model_stands 81 = .ok (.getfield 36, 3) := by decide +kernel
theorem d_Model_stands_84 : decode b_Model_stands 84 = .ok (.iload 6, 2) := by decide +kernel
theorem d_Model_stands_86 : decode b_Model_stands 86 = .ok (.baload, 1) := by decide +kernel
theorem d_Model_stands_87 : decode b_Model_stands 87 = .ok (.ireturn, 1) := by decide +kernel
theorem d_Model_stands_88 : decode b_Model_stands 88 = .ok (.iload 6, 2) := by decide +kernel
theorem d_Model_stands_90 : decode b_Model_stands 90 = .ok (.ifCond .ge 19, 3) := by decide +kernel
theorem d_Model_stands_93 : decode b_Model_stands 93 = .ok (.aload_n 0, 1) := by decide +kernel
theorem d_Model_stands_94 : decode b_Model_stands 94 = .ok (.getfield 36, 3) := by decide +kernel
theorem d_Model_stands_97 : decode b_Model_stands 97 = .ok (.iload 5, 2) := by decide +kernel
theorem d_Model_stands_99 : decode b_Model_stands 99 = .ok (.baload, 1) := by decide +kernel
theorem d_Model_stands_100 : decode b_Model_stands 100 = .ok (.ifCond .ne 7, 3) := by decide +kernel
theorem d_Model_stands_103 : decode b_Model_stands 103 = .ok (.iconst 1, 1) := by decide +kernel
theorem d_Model_stands_104 : decode b_Model_stands 104 = .ok (.goto 4, 3) := by decide +kernel
theorem d_Model_stands_107 : decode b_Model_stands 107 = .ok (.iconst 0, 1) := by decide +kernel
theorem d_Model_stands_108 : decode b_Model_stands 108 = .ok (.ireturn, 1) := by decide +kernel
theorem d_Model_stands_109 : decode b_Model_stands 109 = .ok (.aload_n 0, 1) := by decide +kernel
theorem d_Model_stands_110 : decode b_Model_stands 110 = .ok (.getfield 36, 3) := by decide +kernel
theorem d_Model_stands_113 : decode b_Model_stands 113 = .ok (.iload 5, 2) := by decide +kernel
theorem d_Model_stands_115 : decode b_Model_stands 115 = .ok (.baload, 1) := by decide +kernel
theorem d_Model_stands_116 : decode b_Model_stands 116 = .ok (.aload_n 0, 1) := by decide +kernel
theorem d_Model_stands_117 : decode b_Model_stands 117 = .ok (.getfield 36, 3) := by decide +kernel
theorem d_Model_stands_120 : decode b_Model_stands 120 = .ok (.iload 6, 2) := by decide +kernel
theorem d_Model_stands_122 : decode b_Model_stands 122 = .ok (.baload, 1) := by decide +kernel
theorem d_Model_stands_123 : decode b_Model_stands 123 = .ok (.if_icmp .eq 13, 3) := by decide +kernel
theorem d_Model_stands_126 : decode b_Model_stands 126 = .ok (.aload_n 0, 1) := by decide +kernel
theorem d_Model_stands_127 : decode b_Model_stands 127 = .ok (.getfield 36, 3) := by decide +kernel
theorem d_Model_stands_130 : decode b_Model_stands 130 = .ok (.iload 6, 2) := by decide +kernel
theorem d_Model_stands_132 : decode b_Model_stands 132 = .ok (.baload, 1) := by decide +kernel
theorem d_Model_stands_133 : decode b_Model_stands 133 = .ok (.goto 11, 3) := by decide +kernel
theorem d_Model_stands_136 : decode b_Model_stands 136 = .ok (.aload_n 0, 1) := by decide +kernel
theorem d_Model_stands_137 : decode b_Model_stands 137 = .ok (.iload 5, 2) := by decide +kernel
theorem d_Model_stands_139 : decode b_Model_stands 139 = .ok (.iload 6, 2) := by decide +kernel
theorem d_Model_stands_141 : decode b_Model_stands 141 = .ok (.invokevirtual 101, 3) := by decide +kernel
theorem d_Model_stands_144 : decode b_Model_stands 144 = .ok (.ireturn, 1) := by decide +kernel
theorem d_Model_intoRow_0 : decode b_Model_intoRow 0 = .ok (.iconst 0, 1) := by decide +kernel
theorem d_Model_intoRow_1 : decode b_Model_intoRow 1 = .ok (.istore_n 2, 1) := by decide +kernel
theorem d_Model_intoRow_2 : decode b_Model_intoRow 2 = .ok (.iload_n 2, 1) := by decide +kernel
theorem d_Model_intoRow_3 : decode b_Model_intoRow 3 = .ok (.aload_n 0, 1) := by decide +kernel
theorem d_Model_intoRow_4 : decode b_Model_intoRow 4 = .ok (.getfield 98, 3) := by decide +kernel
theorem d_Model_intoRow_7 : decode b_Model_intoRow 7 = .ok (.if_icmp .ge 23, 3) := by decide +kernel
theorem d_Model_intoRow_10 : decode b_Model_intoRow 10 = .ok (.aload_n 0, 1) := by decide +kernel
theorem d_Model_intoRow_11 : decode b_Model_intoRow 11 = .ok (.aload_n 0, 1) := by decide +kernel
theorem d_Model_intoRow_12 : decode b_Model_intoRow 12 = .ok (.getfield 42, 3) := by decide +kernel
theorem d_Model_intoRow_15 : decode b_Model_intoRow 15 = .ok (.iload_n 2, 1) := by decide +kernel
theorem d_Model_intoRow_16 : decode b_Model_intoRow 16 = .ok (.iaload, 1) := by decide +kernel
theorem d_Model_intoRow_17 : decode b_Model_intoRow 17 = .ok (.iload_n 1, 1) := by decide +kernel
theorem d_Model_intoRow_18 : decode b_Model_intoRow 18 = .ok (.invokevirtual 105, 3) := by decide +kernel
theorem d_Model_intoRow_21 : decode b_Model_intoRow 21 = .ok (.ifCond .eq 9, 3) := by decide +kernel
theorem d_Model_intoRow_24 : decode b_Model_intoRow 24 = .ok (.iinc 2 1, 3) := by decide +kernel
theorem d_Model_intoRow_27 : decode b_Model_intoRow 27 = .ok (.goto (-25), 3) := by decide +kernel
theorem d_Model_intoRow_30 : decode b_Model_intoRow 30 = .ok (.aload_n 0, 1) := by decide +kernel
theorem d_Model_intoRow_31 : decode b_Model_intoRow 31 = .ok (.getfield 98, 3) := by decide +kernel
theorem d_Model_intoRow_34 : decode b_Model_intoRow 34 = .ok (.istore_n 3, 1) := by decide +kernel
theorem d_Model_intoRow_35 : decode b_Model_intoRow 35 = .ok (.iload_n 3, 1) := by decide +kernel
theorem d_Model_intoRow_36 : decode b_Model_intoRow 36 = .ok (.iload_n 2, 1) := by decide +kernel
theorem d_Model_intoRow_37 : decode b_Model_intoRow 37 = .ok (.if_icmp .le 23, 3) := by decide +kernel
theorem d_Model_intoRow_40 : decode b_Model_intoRow 40 = .ok (.aload_n 0, 1) := by decide +kernel
theorem d_Model_intoRow_41 : decode b_Model_intoRow 41 = .ok (.getfield 42, 3) := by decide +kernel
theorem d_Model_intoRow_44 : decode b_Model_intoRow 44 = .ok (.iload_n 3, 1) := by decide +kernel
theorem d_Model_intoRow_45 : decode b_Model_intoRow 45 = .ok (.aload_n 0, 1) := by decide +kernel
theorem d_Model_intoRow_46 : decode b_Model_intoRow 46 = .ok (.getfield 42, 3) := by decide +kernel
theorem d_Model_intoRow_49 : decode b_Model_intoRow 49 = .ok (.iload_n 3, 1) := by decide +kernel
theorem d_Model_intoRow_50 : decode b_Model_intoRow 50 = .ok (.iconst 1, 1) := by decide +kernel
theorem d_Model_intoRow_51 : decode b_Model_intoRow 51 = .ok (.isub, 1) := by decide +kernel
theorem d_Model_intoRow_52 : decode b_Model_intoRow 52 = .ok (.iaload, 1) := by decide +kernel
theorem d_Model_intoRow_53 : decode b_Model_intoRow 53 = .ok (.iastore, 1) := by decide +kernel
theorem d_Model_intoRow_54 : decode b_Model_intoRow 54 = .ok (.iinc 3 (-1), 3) := by decide +kernel
theorem d_Model_intoRow_57 : decode b_Model_intoRow 57 = .ok (.goto (-22), 3) := by decide +kernel
theorem d_Model_intoRow_60 : decode b_Model_intoRow 60 = .ok (.aload_n 0, 1) := by decide +kernel
theorem d_Model_intoRow_61 : decode b_Model_intoRow 61 = .ok (.getfield 42, 3) := by decide +kernel
theorem d_Model_intoRow_64 : decode b_Model_intoRow 64 = .ok (.iload_n 2, 1) := by decide +kernel
theorem d_Model_intoRow_65 : decode b_Model_intoRow 65 = .ok (.iload_n 1, 1) := by decide +kernel
theorem d_Model_intoRow_66 : decode b_Model_intoRow 66 = .ok (.iastore, 1) := by decide +kernel
theorem d_Model_intoRow_67 : decode b_Model_intoRow 67 = .ok (.aload_n 0, 1) := by decide +kernel
theorem d_Model_intoRow_68 : decode b_Model_intoRow 68 = .ok (.dup, 1) := by decide +kernel
theorem d_Model_intoRow_69 : decode b_Model_intoRow 69 = .ok (.getfield 98, 3) := by decide +kernel
theorem d_Model_intoRow_72 : decode b_Model_intoRow 72 = .ok (.iconst 1, 1) := by decide +kernel
theorem d_Model_intoRow_73 : decode b_Model_intoRow 73 = .ok (.iadd, 1) := by decide +kernel
