theorem d_CharacterList_nextBehind_49 : decode b_CharacterList_nextBehind 49 = .ok (.iaload, 1) := by decide +kernel
theorem d_CharacterList_nextBehind_50 : decode b_CharacterList_nextBehind 50 = .ok (.ireturn, 1) := by decide +kernel
theorem d_CharacterList_nextBehind_51 : decode b_CharacterList_nextBehind 51 = .ok (.iload 4, 2) := by decide +kernel
theorem d_CharacterList_nextBehind_53 : decode b_CharacterList_nextBehind 53 = .ok (.ifCond .ne 14, 3) := by decide +kernel
theorem d_CharacterList_nextBehind_56 : decode b_CharacterList_nextBehind 56 = .ok (.aload_n 0, 1) := by decide +kernel
theorem d_CharacterList_nextBehind_57 : decode b_CharacterList_nextBehind 57 = .ok (.getfield 9, 3) := by decide +kernel
theorem d_CharacterList_nextBehind_60 : decode b_CharacterList_nextBehind 60 = .ok (.iload 5, 2) := by decide +kernel
theorem d_CharacterList_nextBehind_62 : decode b_CharacterList_nextBehind 62 = .ok (.iaload, 1) := by decide +kernel
theorem d_CharacterList_nextBehind_63 : decode b_CharacterList_nextBehind 63 = .ok (.iload_n 1, 1) := by decide +kernel
theorem d_CharacterList_nextBehind_64 : decode b_CharacterList_nextBehind 64 = .ok (.if_icmp .ne 7, 3) := by decide +kernel
theorem d_CharacterList_nextBehind_67 : decode b_CharacterList_nextBehind 67 = .ok (.iconst 1, 1) := by decide +kernel
theorem d_CharacterList_nextBehind_68 : decode b_CharacterList_nextBehind 68 = .ok (.goto 4, 3) := by decide +kernel
theorem d_CharacterList_nextBehind_71 : decode b_CharacterList_nextBehind 71 = .ok (.iconst 0, 1) := by decide +kernel
theorem d_CharacterList_nextBehind_72 : decode b_CharacterList_nextBehind 72 = .ok (.istore 4, 2) := by decide +kernel
theorem d_CharacterList_nextBehind_74 : decode b_CharacterList_nextBehind 74 = .ok (.iinc 5 1, 3) := by decide +kernel
theorem d_CharacterList_nextBehind_77 : decode b_CharacterList_nextBehind 77 = .ok (.goto (-62), 3) := by decide +kernel
theorem d_CharacterList_nextBehind_80 : decode b_CharacterList_nextBehind 80 = .ok (.iconst (-1), 1) := by decide +kernel
theorem d_CharacterList_nextBehind_81 : decode b_CharacterList_nextBehind 81 = .ok (.ireturn, 1) := by decide +kernel
theorem d_History_comesBefore_0 : decode b_History_comesBefore 0 = .ok (.aload_n 0, 1) := by decide +kernel
theorem d_History_comesBefore_1 : decode b_History_comesBefore 1 = .ok (.getfield 9, 3) := by decide +kernel
theorem d_History_comesBefore_4 : decode b_History_comesBefore 4 = .ok (.iload_n 1, 1) := by decide +kernel
theorem d_History_comesBefore_5 : decode b_History_comesBefore 5 = .ok (.iaload, 1) := by decide +kernel
theorem d_History_comesBefore_6 : decode b_History_comesBefore 6 = .ok (.aload_n 0, 1) := by decide +kernel
theorem d_History_comesBefore_7 : decode b_History_comesBefore 7 = .ok (.getfield 9, 3) := by decide +kernel
theorem d_History_comesBefore_10 : decode b_History_comesBefore 10 = .ok (.iload_n 2, 1) := by decide +kernel
theorem d_History_comesBefore_11 : decode b_History_comesBefore 11 = .ok (.iaload, 1) := by decide +kernel
theorem d_History_comesBefore_12 : decode b_History_comesBefore 12 = .ok (.if_icmp .eq 24, 3) := by decide +kernel
theorem d_History_comesBefore_15 : decode b_History_comesBefore 15 = .ok (.aload_n 0, 1) := by decide +kernel
theorem d_History_comesBefore_16 : decode b_History_comesBefore 16 = .ok (.getfield 9, 3) := by decide +kernel
theorem d_History_comesBefore_19 : decode b_History_comesBefore 19 = .ok (.iload_n 1, 1) := by decide +kernel
theorem d_History_comesBefore_20 : decode b_History_comesBefore 20 = .ok (.iaload, 1) := by decide +kernel
theorem d_History_comesBefore_21 : decode b_History_comesBefore 21 = .ok (.aload_n 0, 1) := by decide +kernel
theorem d_History_comesBefore_22 : decode b_History_comesBefore 22 = .ok (.getfield 9, 3) := by decide +kernel
theorem d_History_comesBefore_25 : decode b_History_comesBefore 25 = .ok (.iload_n 2, 1) := by decide +kernel
theorem d_History_comesBefore_26 : decode b_History_comesBefore 26 = .ok (.iaload, 1) := by decide +kernel
theorem d_History_comesBefore_27 : decode b_History_comesBefore 27 = .ok (.if_icmp .ge 7, 3) := by decide +kernel
theorem d_History_comesBefore_30 : decode b_History_comesBefore 30 = .ok (.iconst 1, 1) := by decide +kernel
theorem d_History_comesBefore_31 : decode b_History_comesBefore 31 = .ok (.goto 4, 3) := by decide +kernel
theorem d_History_comesBefore_34 : decode b_History_comesBefore 34 = .ok (.iconst 0, 1) := by decide +kernel
theorem d_History_comesBefore_35 : decode b_History_comesBefore 35 = .ok (.ireturn, 1) := by decide +kernel
theorem d_History_comesBefore_36 : decode b_History_comesBefore 36 = .ok (.aload_n 0, 1) := by decide +kernel
theorem d_History_comesBefore_37 : decode b_History_comesBefore 37 = .ok (.getfield 15, 3) := by decide +kernel
theorem d_History_comesBefore_40 : decode b_History_comesBefore 40 = .ok (.iload_n 1, 1) := by decide +kernel
theorem d_History_comesBefore_41 : decode b_History_comesBefore 41 = .ok (.iaload, 1) := by decide +kernel
theorem d_History_comesBefore_42 : decode b_History_comesBefore 42 = .ok (.aload_n 0, 1) := by decide +kernel
theorem d_History_comesBefore_43 : decode b_History_comesBefore 43 = .ok (.getfield 15, 3) := by decide +kernel
theorem d_History_comesBefore_46 : decode b_History_comesBefore 46 = .ok (.iload_n 2, 1) := by decide +kernel
theorem d_History_comesBefore_47 : decode b_History_comesBefore 47 = .ok (.iaload, 1) := by decide +kernel
theorem d_History_comesBefore_48 : decode b_History_comesBefore 48 = .ok (.if_icmp .ge 7, 3) := by decide +kernel
theorem d_History_comesBefore_51 : decode b_History_comesBefore 51 = .ok (.iconst 1, 1) := by decide +kernel
theorem d_History_comesBefore_52 : decode b_History_comesBefore 52 = .ok (.goto 4, 3) := by decide +kernel
theorem d_History_comesBefore_55 : decode b_History_comesBefore 55 = .ok (.iconst 0, 1) := by decide +kernel
theorem d_History_comesBefore_56 : decode b_History_comesBefore 56 = .ok (.ireturn, 1) := by decide +kernel
theorem d_CharacterList_nearerSiblings_0 : decode b_CharacterList_nearerSiblings 0 = .ok (.aload_n 0, 1) := by decide +kernel
theorem d_CharacterList_nearerSiblings_1 : decode b_CharacterList_nearerSiblings 1 = .ok (.iload_n 3, 1) := by decide +kernel
theorem d_CharacterList_nearerSiblings_2 : decode b_CharacterList_nearerSiblings 2 = .ok (.iload 4, 2) := by decide +kernel
theorem d_CharacterList_nearerSiblings_4 : decode b_CharacterList_nearerSiblings 4 = .ok (.invokevirtual 50, 3) := by decide +kernel
theorem d_CharacterList_nearerSiblings_7 : decode b_CharacterList_nearerSiblings 7 = .ok (.lstore 5, 2) := by decide +kernel
theorem d_CharacterList_nearerSiblings_9 : decode b_CharacterList_nearerSiblings 9 = .ok (.lconst 0, 1) := by decide +kernel
theorem d_CharacterList_nearerSiblings_10 : decode b_CharacterList_nearerSiblings 10 = .ok (.lstore 7, 2) := by decide +kernel
theorem d_CharacterList_nearerSiblings_12 : decode b_CharacterList_nearerSiblings 12 = .ok (.iconst 0, 1) := by decide +kernel
theorem d_CharacterList_nearerSiblings_13 : decode b_CharacterList_nearerSiblings 13 = .ok (.istore 9, 2) := by decide +kernel
theorem d_CharacterList_nearerSiblings_15 : decode b_CharacterList_nearerSiblings 15 = .ok (.iload 9, 2) := by decide +kernel
theorem d_CharacterList_nearerSiblings_17 : decode b_CharacterList_nearerSiblings 17 = .ok (.aload_n 0, 1) := by decide +kernel
theorem d_CharacterList_nearerSiblings_18 : decode b_CharacterList_nearerSiblings 18 = .ok (.getfield 36, 3) := by decide +kernel
theorem d_CharacterList_nearerSiblings_21 : decode b_CharacterList_nearerSiblings 21 = .ok (.if_icmp .ge 50, 3) := by decide +kernel
theorem d_CharacterList_nearerSiblings_24 : decode b_CharacterList_nearerSiblings 24 = .ok (.aload_n 0, 1) := by decide +kernel
theorem d_CharacterList_nearerSiblings_25 : decode b_CharacterList_nearerSiblings 25 = .ok (.getfield 9, 3) := by decide +kernel
theorem d_CharacterList_nearerSiblings_28 : decode b_CharacterList_nearerSiblings 28 = .ok (.iload 9, 2) := by decide +kernel
theorem d_CharacterList_nearerSiblings_30 : decode b_CharacterList_nearerSiblings 30 = .ok (.iaload, 1) := by decide +kernel
theorem d_CharacterList_nearerSiblings_31 : decode b_CharacterList_nearerSiblings 31 = .ok (.istore 10, 2) := by decide +kernel
theorem d_CharacterList_nearerSiblings_33 : decode b_CharacterList_nearerSiblings 33 = .ok (.lload 5, 2) := by decide +kernel
theorem d_CharacterList_nearerSiblings_35 : decode b_CharacterList_nearerSiblings 35 = .ok (.iload 10, 2) := by decide +kernel
theorem d_CharacterList_nearerSiblings_37 : decode b_CharacterList_nearerSiblings 37 = .ok (.invokestatic 44, 3) := by decide +kernel
theorem d_CharacterList_nearerSiblings_40 : decode b_CharacterList_nearerSiblings 40 = .ok (.ifCond .eq 25, 3) := by decide +kernel
theorem d_CharacterList_nearerSiblings_43 : decode b_CharacterList_nearerSiblings 43 = .ok (.aload_n 1, 1) := by decide +kernel
theorem d_CharacterList_nearerSiblings_44 : decode b_CharacterList_nearerSiblings 44 = .ok (.iload 10, 2) := by decide +kernel
theorem d_CharacterList_nearerSiblings_46 : decode b_CharacterList_nearerSiblings 46 = .ok (.iload_n 2, 1) := by decide +kernel
theorem d_CharacterList_nearerSiblings_47 : decode b_CharacterList_nearerSiblings 47 = .ok (.invokevirtual 69, 3) := by decide +kernel
theorem d_CharacterList_nearerSiblings_50 : decode b_CharacterList_nearerSiblings 50 = .ok (.iload 4, 2) := by decide +kernel
theorem d_CharacterList_nearerSiblings_52 : decode b_CharacterList_nearerSiblings 52 = .ok (.if_icmp .ne 13, 3) := by decide +kernel
theorem d_CharacterList_nearerSiblings_55 : decode b_CharacterList_nearerSiblings 55 = .ok (.lload 7, 2) := by decide +kernel
theorem d_CharacterList_nearerSiblings_57 : decode b_CharacterList_nearerSiblings 57 = .ok (.iload 10, 2) := by decide +kernel
theorem d_CharacterList_nearerSiblings_59 : decode b_CharacterList_nearerSiblings 59 = .ok (.invokestatic 40, 3) := by decide +kernel
theorem d_CharacterList_nearerSiblings_62 : decode b_CharacterList_nearerSiblings 62 = .ok (.lor, 1) := by decide +kernel
theorem d_CharacterList_nearerSiblings_63 : decode b_CharacterList_nearerSiblings 63 = .ok (.lstore 7, 2) := by decide +kernel
theorem d_CharacterList_nearerSiblings_65 : decode b_CharacterList_nearerSiblings 65 = .ok (.iinc 9 1, 3) := by decide +kernel
theorem d_CharacterList_nearerSiblings_68 : decode b_CharacterList_nearerSiblings 68 = .ok (.goto (-53), 3) := by decide +kernel
theorem d_CharacterList_nearerSiblings_71 : decode b_CharacterList_nearerSiblings 71 = .ok (.lload 7, 2) := by decide +kernel
theorem d_CharacterList_nearerSiblings_73 : decode b_CharacterList_nearerSiblings 73 = .ok (.lreturn, 1) := by decide +kernel
theorem d_CharacterList_rightPosition_0 : decode b_CharacterList_rightPosition 0 = .ok (.aload_n 0, 1) := by decide +kernel
theorem d_CharacterList_rightPosition_1 : decode b_CharacterList_rightPosition 1 = .ok (.aload_n 1, 1) := by decide +kernel
theorem d_CharacterList_rightPosition_2 : decode b_CharacterList_rightPosition 2 = .ok (.iload_n 2, 1) := by decide +kernel
theorem d_CharacterList_rightPosition_3 : decode b_CharacterList_rightPosition 3 = .ok (.iload_n 3, 1) := by decide +kernel
theorem d_CharacterList_rightPosition_4 : decode b_CharacterList_rightPosition 4 = .ok (.iconst 1, 1) := by decide +kernel
theorem d_CharacterList_rightPosition_5 : decode b_CharacterList_rightPosition 5 = .ok (.invokevirtual 65, 3) := by decide +kernel
theorem d_CharacterList_rightPosition_8 : decode b_CharacterList_rightPosition 8 = .ok (.lstore 4, 2) := by decide +kernel
theorem d_CharacterList_rightPosition_10 : decode b_CharacterList_rightPosition 10 = .ok (.aload_n 0, 1) := by decide +kernel
theorem d_CharacterList_rightPosition_11 : decode b_CharacterList_rightPosition 11 = .ok (.getfield 36, 3) := by decide +kernel
theorem d_CharacterList_rightPosition_14 : decode b_CharacterList_rightPosition 14 = .ok (.istore 6, 2) := by decide +kernel
theorem d_CharacterList_rightPosition_16 : decode b_CharacterList_rightPosition 16 = .ok (.iload 6, 2) := by decide +kernel
theorem d_CharacterList_rightPosition_18 : decode b_CharacterList_rightPosition 18 = .ok (.ifCond .le 44, 3) := by decide +kernel
theorem d_CharacterList_rightPosition_21 : decode b_CharacterList_rightPosition 21 = .ok (.aload_n 0, 1) := by decide +kernel
theorem d_CharacterList_rightPosition_22 : decode b_CharacterList_rightPosition 22 = .ok (.getfield 9, 3) := by decide +kernel
theorem d_CharacterList_rightPosition_25 : decode b_CharacterList_rightPosition 25 = .ok (.iload 6, 2) := by decide +kernel
theorem d_CharacterList_rightPosition_27 : decode b_CharacterList_rightPosition 27 = .ok (.iconst 1, 1) := by decide +kernel
theorem d_CharacterList_rightPosition_28 : decode b_CharacterList_rightPosition 28 = .ok (.isub, 1) := by decide +kernel
theorem d_CharacterList_rightPosition_29 : decode b_CharacterList_rightPosition 29 = .ok (.iaload, 1) := by decide +kernel
theorem d_CharacterList_rightPosition_30 : decode b_CharacterList_rightPosition 30 = .ok (.iload_n 3, 1) := by decide +kernel
theorem d_CharacterList_rightPosition_31 : decode b_CharacterList_rightPosition 31 = .ok (.if_icmp .eq 31, 3) := by decide +kernel
theorem d_CharacterList_rightPosition_34 : decode b_CharacterList_rightPosition 34 = .ok (.aload_n 0, 1) := by decide +kernel
theorem d_CharacterList_rightPosition_35 : decode b_CharacterList_rightPosition 35 = .ok (.getfield 22, 3) := by decide +kernel
theorem d_CharacterList_rightPosition_38 : decode b_CharacterList_rightPosition 38 = .ok (.aload_n 0, 1) := by decide +kernel
theorem d_CharacterList_rightPosition_39 : decode b_CharacterList_rightPosition 39 = .ok (.getfield 9, 3) := by decide +kernel
theorem d_CharacterList_rightPosition_42 : decode b_CharacterList_rightPosition 42 = .ok (.iload 6, 2) := by decide +kernel
theorem d_CharacterList_rightPosition_44 : decode b_CharacterList_rightPosition 44 = .ok (.iconst 1, 1) := by decide +kernel
theorem d_CharacterList_rightPosition_45 : decode b_CharacterList_rightPosition 45 = .ok (.isub, 1) := by decide +kernel
theorem d_CharacterList_rightPosition_46 : decode b_CharacterList_rightPosition 46 = .ok (.iaload, 1) := by decide +kernel
theorem d_CharacterList_rightPosition_47 : decode b_CharacterList_rightPosition 47 = .ok (.laload, 1) := by decide +kernel
theorem d_CharacterList_rightPosition_48 : decode b_CharacterList_rightPosition 48 = .ok (.lload 4, 2) := by decide +kernel
theorem d_CharacterList_rightPosition_50 : decode b_CharacterList_rightPosition 50 = .ok (.land, 1) := by decide +kernel
theorem d_CharacterList_rightPosition_51 : decode b_CharacterList_rightPosition 51 = .ok (.lconst 0, 1) := by decide +kernel
theorem d_CharacterList_rightPosition_52 : decode b_CharacterList_rightPosition 52 = .ok (.lcmp, 1) := by decide +kernel
theorem d_CharacterList_rightPosition_53 : decode b_CharacterList_rightPosition 53 = .ok (.ifCond .ne 9, 3) := by decide +kernel
theorem d_CharacterList_rightPosition_56 : decode b_CharacterList_rightPosition 56 = .ok (.iinc 6 (-1), 3) := by decide +kernel
theorem d_CharacterList_rightPosition_59 : decode b_CharacterList_rightPosition 59 = .ok (.goto (-43), 3) := by decide +kernel
theorem d_CharacterList_rightPosition_62 : decode b_CharacterList_rightPosition 62 = .ok (.iload 6, 2) := by decide +kernel
theorem d_CharacterList_rightPosition_64 : decode b_CharacterList_rightPosition 64 = .ok (.ireturn, 1) := by decide +kernel
theorem d_CharacterList_leftPosition_0 : decode b_CharacterList_leftPosition 0 = .ok (.aload_n 0, 1) := by decide +kernel
theorem d_CharacterList_leftPosition_1 : decode b_CharacterList_leftPosition 1 = .ok (.aload_n 1, 1) := by decide +kernel
theorem d_CharacterList_leftPosition_2 : decode b_CharacterList_leftPosition 2 = .ok (.iload_n 2, 1) := by decide +kernel
theorem d_CharacterList_leftPosition_3 : decode b_CharacterList_leftPosition 3 = .ok (.iload_n 3, 1) := by decide +kernel
theorem d_CharacterList_leftPosition_4 : decode b_CharacterList_leftPosition 4 = .ok (.iconst 0, 1) := by decide +kernel
theorem d_CharacterList_leftPosition_5 : decode b_CharacterList_leftPosition 5 = .ok (.invokevirtual 65, 3) := by decide +kernel
theorem d_CharacterList_leftPosition_8 : decode b_CharacterList_leftPosition 8 = .ok (.lstore 4, 2) := by decide +kernel
theorem d_CharacterList_leftPosition_10 : decode b_CharacterList_leftPosition 10 = .ok (.iconst 0, 1) := by decide +kernel
theorem d_CharacterList_leftPosition_11 : decode b_CharacterList_leftPosition 11 = .ok (.istore 6, 2) := by decide +kernel
theorem d_CharacterList_leftPosition_13 : decode b_CharacterList_leftPosition 13 = .ok (.iload 6, 2) := by decide +kernel
theorem d_CharacterList_leftPosition_15 : decode b_CharacterList_leftPosition 15 = .ok (.aload_n 0, 1) := by decide +kernel
theorem d_CharacterList_leftPosition_16 : decode b_CharacterList_leftPosition 16 = .ok (.getfield 36, 3) := by decide +kernel
theorem d_CharacterList_leftPosition_19 : decode b_CharacterList_leftPosition 19 = .ok (.if_icmp .ge 40, 3) := by decide +kernel
theorem d_CharacterList_leftPosition_22 : decode b_CharacterList_leftPosition 22 = .ok (.aload_n 0, 1) := by decide +kernel
theorem d_CharacterList_leftPosition_23 : decode b_CharacterList_leftPosition 23 = .ok (.getfield 9, 3) := by decide +kernel
theorem d_CharacterList_leftPosition_26 : decode b_CharacterList_leftPosition 26 = .ok (.iload 6, 2) := by decide +kernel
theorem d_CharacterList_leftPosition_28 : decode b_CharacterList_leftPosition 28 = .ok (.iaload, 1) := by decide +kernel
theorem d_CharacterList_leftPosition_29 : decode b_CharacterList_leftPosition 29 = .ok (.iload_n 3, 1) := by decide +kernel
theorem d_CharacterList_leftPosition_30 : decode b_CharacterList_leftPosition 30 = .ok (.if_icmp .eq 29, 3) := by decide +kernel
theorem d_CharacterList_leftPosition_33 : decode b_CharacterList_leftPosition 33 = .ok (.aload_n 0, 1) := by decide +kernel
theorem d_CharacterList_leftPosition_34 : decode b_CharacterList_leftPosition 34 = .ok (.getfield 22, 3) := by decide +kernel
theorem d_CharacterList_leftPosition_37 : decode b_CharacterList_leftPosition 37 = .ok (.aload_n 0, 1) := by decide +kernel
theorem d_CharacterList_leftPosition_38 : decode b_CharacterList_leftPosition 38 = .ok (.getfield 9, 3) := by decide +kernel
theorem d_CharacterList_leftPosition_41 : decode b_CharacterList_leftPosition 41 = .ok (.iload 6, 2) := by decide +kernel
theorem d_CharacterList_leftPosition_43 : decode b_CharacterList_leftPosition 43 = .ok (.iaload, 1) := by decide +kernel
theorem d_CharacterList_leftPosition_44 : decode b_CharacterList_leftPosition 44 = .ok (.laload, 1) := by decide +kernel
theorem d_CharacterList_leftPosition_45 : decode b_CharacterList_leftPosition 45 = .ok (.lload 4, 2) := by decide +kernel
theorem d_CharacterList_leftPosition_47 : decode b_CharacterList_leftPosition 47 = .ok (.land, 1) := by decide +kernel
theorem d_CharacterList_leftPosition_48 : decode b_CharacterList_leftPosition 48 = .ok (.lconst 0, 1) := by decide +kernel
theorem d_CharacterList_leftPosition_49 : decode b_CharacterList_leftPosition 49 = .ok (.lcmp, 1) := by decide +kernel
theorem d_CharacterList_leftPosition_50 : decode b_CharacterList_leftPosition 50 = .ok (.ifCond .ne 9, 3) := by decide +kernel
theorem d_CharacterList_leftPosition_53 : decode b_CharacterList_leftPosition 53 = .ok (.iinc 6 1, 3) := by decide +kernel
theorem d_CharacterList_leftPosition_56 : decode b_CharacterList_leftPosition 56 = .ok (.goto (-43), 3) := by decide +kernel
theorem d_CharacterList_leftPosition_59 : decode b_CharacterList_leftPosition 59 = .ok (.iload 6, 2) := by decide +kernel
theorem d_CharacterList_leftPosition_61 : decode b_CharacterList_leftPosition 61 = .ok (.ireturn, 1) := by decide +kernel
theorem d_CharacterList_putBehind_0 : decode b_CharacterList_putBehind 0 = .ok (.aload_n 0, 1) := by decide +kernel
theorem d_CharacterList_putBehind_1 : decode b_CharacterList_putBehind 1 = .ok (.iload_n 3, 1) := by decide +kernel
theorem d_CharacterList_putBehind_2 : decode b_CharacterList_putBehind 2 = .ok (.iconst 1, 1) := by decide +kernel
theorem d_CharacterList_putBehind_3 : decode b_CharacterList_putBehind 3 = .ok (.invokevirtual 50, 3) := by decide +kernel
theorem d_CharacterList_putBehind_6 : decode b_CharacterList_putBehind 6 = .ok (.lload 4, 2) := by decide +kernel
theorem d_CharacterList_putBehind_8 : decode b_CharacterList_putBehind 8 = .ok (.land, 1) := by decide +kernel
theorem d_CharacterList_putBehind_9 : decode b_CharacterList_putBehind 9 = .ok (.lconst 0, 1) := by decide +kernel
theorem d_CharacterList_putBehind_10 : decode b_CharacterList_putBehind 10 = .ok (.lcmp, 1) := by decide +kernel
theorem d_CharacterList_putBehind_11 : decode b_CharacterList_putBehind 11 = .ok (.ifCond .ne 7, 3) := by decide +kernel
theorem d_CharacterList_putBehind_14 : decode b_CharacterList_putBehind 14 = .ok (.iconst 1, 1) := by decide +kernel
theorem d_CharacterList_putBehind_15 : decode b_CharacterList_putBehind 15 = .ok (.goto 4, 3) := by decide +kernel
theorem d_CharacterList_putBehind_18 : decode b_CharacterList_putBehind 18 = .ok (.iconst 0, 1) := by decide +kernel
theorem d_CharacterList_putBehind_19 : decode b_CharacterList_putBehind 19 = .ok (.istore 6, 2) := by decide +kernel
theorem d_CharacterList_putBehind_21 : decode b_CharacterList_putBehind 21 = .ok (.iload 6, 2) := by decide +kernel
theorem d_CharacterList_putBehind_23 : decode b_CharacterList_putBehind 23 = .ok (.ifCond .eq 7, 3) := by decide +kernel
theorem d_CharacterList_putBehind_26 : decode b_CharacterList_putBehind 26 = .ok (.iload_n 3, 1) := by decide +kernel
theorem d_CharacterList_putBehind_27 : decode b_CharacterList_putBehind 27 = .ok (.goto 10, 3) := by decide +kernel
theorem d_CharacterList_putBehind_30 : decode b_CharacterList_putBehind 30 = .ok (.aload_n 0, 1) := by decide +kernel
theorem d_CharacterList_putBehind_31 : decode b_CharacterList_putBehind 31 = .ok (.iload_n 3, 1) := by decide +kernel
theorem d_CharacterList_putBehind_32 : decode b_CharacterList_putBehind 32 = .ok (.lload 4, 2) := by decide +kernel
theorem d_CharacterList_putBehind_34 : decode b_CharacterList_putBehind 34 = .ok (.invokevirtual 54, 3) := by decide +kernel
theorem d_CharacterList_putBehind_37 : decode b_CharacterList_putBehind 37 = .ok (.istore 7, 2) := by decide +kernel
theorem d_CharacterList_putBehind_39 : decode b_CharacterList_putBehind 39 = .ok (.aload_n 0, 1) := by decide +kernel
theorem d_CharacterList_putBehind_40 : decode b_CharacterList_putBehind 40 = .ok (.getfield 15, 3) := by decide +kernel
theorem d_CharacterList_putBehind_43 : decode b_CharacterList_putBehind 43 = .ok (.iload_n 2, 1) := by decide +kernel
theorem d_CharacterList_putBehind_44 : decode b_CharacterList_putBehind 44 = .ok (.iload 7, 2) := by decide +kernel
theorem d_CharacterList_putBehind_46 : decode b_CharacterList_putBehind 46 = .ok (.iastore, 1) := by decide +kernel
theorem d_CharacterList_putBehind_47 : decode b_CharacterList_putBehind 47 = .ok (.aload_n 0, 1) := by decide +kernel
theorem d_CharacterList_putBehind_48 : decode b_CharacterList_putBehind 48 = .ok (.getfield 18, 3) := by decide +kernel
theorem d_CharacterList_putBehind_51 : decode b_CharacterList_putBehind 51 = .ok (.iload_n 2, 1) := by decide +kernel
theorem d_CharacterList_putBehind_52 : decode b_CharacterList_putBehind 52 = .ok (.iload 6, 2) := by decide +kernel
theorem d_CharacterList_putBehind_54 : decode b_CharacterList_putBehind 54 = .ok (.bastore, 1) := by decide +kernel
theorem d_CharacterList_putBehind_55 : decode b_CharacterList_putBehind 55 = .ok (.aload_n 0, 1) := by decide +kernel
theorem d_CharacterList_putBehind_56 : decode b_CharacterList_putBehind 56 = .ok (.getfield 22, 3) := by decide +kernel
theorem d_CharacterList_putBehind_59 : decode b_CharacterList_putBehind 59 = .ok (.iload_n 2, 1) := by decide +kernel
theorem d_CharacterList_putBehind_60 : decode b_CharacterList_putBehind 60 = .ok (.iload_n 2, 1) := by decide +kernel
theorem d_CharacterList_putBehind_61 : decode b_CharacterList_putBehind 61 = .ok (.invokestatic 40, 3) := by decide +kernel
theorem d_CharacterList_putBehind_64 : decode b_CharacterList_putBehind 64 = .ok (.iload 7, 2) := by decide +kernel
theorem d_CharacterList_putBehind_66 : decode b_CharacterList_putBehind 66 = .ok (.iconst (-1), 1) := by decide +kernel
theorem d_CharacterList_putBehind_67 : decode b_CharacterList_putBehind 67 = .ok (.if_icmp .ne 7, 3) := by decide +kernel
theorem d_CharacterList_putBehind_70 : decode b_CharacterList_putBehind 70 = .ok (.lconst 0, 1) := by decide +kernel
theorem d_CharacterList_putBehind_71 : decode b_CharacterList_putBehind 71 = .ok (.goto 10, 3) := by decide +kernel
theorem d_CharacterList_putBehind_74 : decode b_CharacterList_putBehind 74 = .ok (.aload_n 0, 1) := by decide +kernel
theorem d_CharacterList_putBehind_75 : decode b_CharacterList_putBehind 75 = .ok (.getfield 22, 3) := by decide +kernel
theorem d_CharacterList_putBehind_78 : decode b_CharacterList_putBehind 78 = .ok (.iload 7, 2) := by decide +kernel
theorem d_CharacterList_putBehind_80 : decode b_CharacterList_putBehind 80 = .ok (.laload, 1) := by decide +kernel
theorem d_CharacterList_putBehind_81 : decode b_CharacterList_putBehind 81 = .ok (.lor, 1) := by decide +kernel
theorem d_CharacterList_putBehind_82 : decode b_CharacterList_putBehind 82 = .ok (.lastore, 1) := by decide +kernel
theorem d_CharacterList_putBehind_83 : decode b_CharacterList_putBehind 83 = .ok (.iload 6, 2) := by decide +kernel
theorem d_CharacterList_putBehind_85 : decode b_CharacterList_putBehind 85 = .ok (.ifCond .eq 14, 3) := by decide +kernel
theorem d_CharacterList_putBehind_88 : decode b_CharacterList_putBehind 88 = .ok (.aload_n 0, 1) := by decide +kernel
theorem d_CharacterList_putBehind_89 : decode b_CharacterList_putBehind 89 = .ok (.aload_n 1, 1) := by decide +kernel
theorem d_CharacterList_putBehind_90 : decode b_CharacterList_putBehind 90 = .ok (.iload_n 2, 1) := by decide +kernel
theorem d_CharacterList_putBehind_91 : decode b_CharacterList_putBehind 91 = .ok (.iload 7, 2) := by decide +kernel
theorem d_CharacterList_putBehind_93 : decode b_CharacterList_putBehind 93 = .ok (.invokevirtual 58, 3) := by decide +kernel
theorem d_CharacterList_putBehind_96 : decode b_CharacterList_putBehind 96 = .ok (.goto 11, 3) := by decide +kernel
theorem d_CharacterList_putBehind_99 : decode b_CharacterList_putBehind 99 = .ok (.aload_n 0, 1) := by decide +kernel
theorem d_CharacterList_putBehind_100 : decode b_CharacterList_putBehind 100 = .ok (.aload_n 1, 1) := by decide +kernel
theorem d_CharacterList_putBehind_101 : decode b_CharacterList_putBehind 101 = .ok (.iload_n 2, 1) := by decide +kernel
theorem d_CharacterList_putBehind_102 : decode b_CharacterList_putBehind 102 = .ok (.iload 7, 2) := by decide +kernel
theorem d_CharacterList_putBehind_104 : decode b_CharacterList_putBehind 104 = .ok (.invokevirtual 62, 3) := by decide +kernel
theorem d_CharacterList_putBehind_107 : decode b_CharacterList_putBehind 107 = .ok (.istore 8, 2) := by decide +kernel
theorem d_CharacterList_putBehind_109 : decode b_CharacterList_putBehind 109 = .ok (.aload_n 0, 1) := by decide +kernel
theorem d_CharacterList_putBehind_110 : decode b_CharacterList_putBehind 110 = .ok (.getfield 36, 3) := by decide +kernel
theorem d_CharacterList_putBehind_113 : decode b_CharacterList_putBehind 113 = .ok (.istore 9, 2) := by decide +kernel
theorem d_CharacterList_putBehind_115 : decode b_CharacterList_putBehind 115 = .ok (.iload 9, 2) := by decide +kernel
theorem d_CharacterList_putBehind_117 : decode b_CharacterList_putBehind 117 = .ok (.iload 8, 2) := by decide +kernel
theorem d_CharacterList_putBehind_119 : decode b_CharacterList_putBehind 119 = .ok (.if_icmp .le 25, 3) := by decide +kernel
theorem d_CharacterList_putBehind_122 : decode b_CharacterList_putBehind 122 = .ok (.aload_n 0, 1) := by decide +kernel
theorem d_CharacterList_putBehind_123 : decode b_CharacterList_putBehind 123 = .ok (.getfield 9, 3) := by decide +kernel
theorem d_CharacterList_putBehind_126 : decode b_CharacterList_putBehind 126 = .ok (.iload 9, 2) := by decide +kernel
theorem d_CharacterList_putBehind_128 : decode b_CharacterList_putBehind 128 = .ok (.aload_n 0, 1) := by decide +kernel
theorem d_CharacterList_putBehind_129 : decode b_CharacterList_putBehind 129 = .ok (.getfield 9, 3) := by decide +kernel
theorem d_CharacterList_putBehind_132 : decode b_CharacterList_putBehind 132 = .ok (.iload 9, 2) := by decide +kernel
theorem d_CharacterList_putBehind_134 : decode b_CharacterList_putBehind 134 = .ok (.iconst 1, 1) := by decide +kernel
theorem d_CharacterList_putBehind_135 : decode b_CharacterList_putBehind 135 = .ok (.isub, 1) := by decide +kernel
theorem d_CharacterList_putBehind_136 : decode b_CharacterList_putBehind 136 = .ok (.iaload, 1) := by decide +kernel
theorem d_CharacterList_putBehind_137 : decode b_CharacterList_putBehind 137 = .ok (.iastore, 1) := by decide +kernel
theorem d_CharacterList_putBehind_138 : decode b_CharacterList_putBehind 138 = .ok (.iinc 9 (-1), 3) := by decide +kernel
theorem d_CharacterList_putBehind_141 : decode b_CharacterList_putBehind 141 = .ok (.goto (-26), 3) := by decide +kernel
theorem d_CharacterList_putBehind_144 : decode b_CharacterList_putBehind 144 = .ok (.aload_n 0, 1) := by decide +kernel
theorem d_CharacterList_putBehind_145 : decode b_CharacterList_putBehind 145 = .ok (.getfield 9, 3) := by decide +kernel
theorem d_CharacterList_putBehind_148 : decode b_CharacterList_putBehind 148 = .ok (.iload 8, 2) := by decide +kernel
theorem d_CharacterList_putBehind_150 : decode b_CharacterList_putBehind 150 = .ok (.iload_n 2, 1) := by decide +kernel
theorem d_CharacterList_putBehind_151 : decode b_CharacterList_putBehind 151 = .ok (.iastore, 1) := by decide +kernel
theorem d_CharacterList_putBehind_152 : decode b_CharacterList_putBehind 152 = .ok (.aload_n 0, 1) := by decide +kernel
theorem d_CharacterList_putBehind_153 : decode b_CharacterList_putBehind 153 = .ok (.dup, 1) := by decide +kernel
theorem d_CharacterList_putBehind_154 : decode b_CharacterList_putBehind 154 = .ok (.getfield 33, 3) := by decide +kernel
theorem d_CharacterList_putBehind_157 : decode b_CharacterList_putBehind 157 = .ok (.iload_n 2, 1) := by decide +kernel
theorem d_CharacterList_putBehind_158 : decode b_CharacterList_putBehind 158 = .ok (.invokestatic 40, 3) := by decide +kernel
theorem d_CharacterList_putBehind_161 : decode b_CharacterList_putBehind 161 = .ok (.lor, 1) := by decide +kernel
theorem d_CharacterList_putBehind_162 : decode b_CharacterList_putBehind 162 = .ok (.putfield 33, 3) := by decide +kernel
theorem d_CharacterList_putBehind_165 : decode b_CharacterList_putBehind 165 = .ok (.aload_n 0, 1) := by decide +kernel
theorem d_CharacterList_putBehind_166 : decode b_CharacterList_putBehind 166 = .ok (.dup, 1) := by decide +kernel
theorem d_CharacterList_putBehind_167 : decode b_CharacterList_putBehind 167 = .ok (.getfield 36, 3) := by decide +kernel
theorem d_CharacterList_putBehind_170 : decode b_CharacterList_putBehind 170 = .ok (.iconst 1, 1) := by decide +kernel
theorem d_CharacterList_putBehind_171 : decode b_CharacterList_putBehind 171 = .ok (.iadd, 1) := by decide +kernel
theorem d_CharacterList_putBehind_172 : decode b_CharacterList_putBehind 172 = .ok (.putfield 36, 3) := by decide +kernel
theorem d_CharacterList_putBehind_175 : decode b_CharacterList_putBehind 175 = .ok (.return_, 1) := by decide +kernel
theorem d_History_numberOf_0 : decode b_History_numberOf 0 = .ok (.aload_n 0, 1) := by decide +kernel
theorem d_History_numberOf_1 : decode b_History_numberOf 1 = .ok (.getfield 15, 3) := by decide +kernel
theorem d_History_numberOf_4 : decode b_History_numberOf 4 = .ok (.iload_n 1, 1) := by decide +kernel
theorem d_History_numberOf_5 : decode b_History_numberOf 5 = .ok (.iaload, 1) := by decide +kernel
theorem d_History_numberOf_6 : decode b_History_numberOf 6 = .ok (.ireturn, 1) := by decide +kernel
theorem d_Text_insert_0 : decode b_Text_insert 0 = .ok (.iload_n 1, 1) := by decide +kernel
theorem d_Text_insert_1 : decode b_Text_insert 1 = .ok (.invokestatic 44, 3) := by decide +kernel
theorem d_Text_insert_4 : decode b_Text_insert 4 = .ok (.ifCond .eq 25, 3) := by decide +kernel
theorem d_Text_insert_7 : decode b_Text_insert 7 = .ok (.iload_n 3, 1) := by decide +kernel
theorem d_Text_insert_8 : decode b_Text_insert 8 = .ok (.bipush 32, 2) := by decide +kernel
theorem d_Text_insert_10 : decode b_Text_insert 10 = .ok (.if_icmp .lt 19, 3) := by decide +kernel
theorem d_Text_insert_13 : decode b_Text_insert 13 = .ok (.iload_n 3, 1) := by decide +kernel
theorem d_Text_insert_14 : decode b_Text_insert 14 = .ok (.bipush 126, 2) := by decide +kernel
theorem d_Text_insert_16 : decode b_Text_insert 16 = .ok (.if_icmp .gt 13, 3) := by decide +kernel
theorem d_Text_insert_19 : decode b_Text_insert 19 = .ok (.aload_n 0, 1) := by decide +kernel
theorem d_Text_insert_20 : decode b_Text_insert 20 = .ok (.getfield 10, 3) := by decide +kernel
theorem d_Text_insert_23 : decode b_Text_insert 23 = .ok (.invokevirtual 48, 3) := by decide +kernel
theorem d_Text_insert_26 : decode b_Text_insert 26 = .ok (.ifCond .eq 7, 3) := by decide +kernel
theorem d_Text_insert_29 : decode b_Text_insert 29 = .ok (.sipush (-1000), 3) := by decide +kernel
theorem d_Text_insert_32 : decode b_Text_insert 32 = .ok (.ireturn, 1) := by decide +kernel
theorem d_Text_insert_33 : decode b_Text_insert 33 = .ok (.aload_n 0, 1) := by decide +kernel
theorem d_Text_insert_34 : decode b_Text_insert 34 = .ok (.getfield 32, 3) := by decide +kernel
theorem d_Text_insert_37 : decode b_Text_insert 37 = .ok (.iload_n 1, 1) := by decide +kernel
theorem d_Text_insert_38 : decode b_Text_insert 38 = .ok (.aaload, 1) := by decide +kernel
theorem d_Text_insert_39 : decode b_Text_insert 39 = .ok (.getfield 52, 3) := by decide +kernel
theorem d_Text_insert_42 : decode b_Text_insert 42 = .ok (.lstore 4, 2) := by decide +kernel
theorem d_Text_insert_44 : decode b_Text_insert 44 = .ok (.aload_n 0, 1) := by decide +kernel
theorem d_Text_insert_45 : decode b_Text_insert 45 = .ok (.getfield 19, 3) := by decide +kernel
theorem d_Text_insert_48 : decode b_Text_insert 48 = .ok (.lload 4, 2) := by decide +kernel
theorem d_Text_insert_50 : decode b_Text_insert 50 = .ok (.invokevirtual 56, 3) := by decide +kernel
theorem d_Text_insert_53 : decode b_Text_insert 53 = .ok (.lstore 6, 2) := by decide +kernel
theorem d_Text_insert_55 : decode b_Text_insert 55 = .ok (.iload_n 2, 1) := by decide +kernel
theorem d_Text_insert_56 : decode b_Text_insert 56 = .ok (.ifCond .lt 12, 3) := by decide +kernel
theorem d_Text_insert_59 : decode b_Text_insert 59 = .ok (.iload_n 2, 1) := by decide +kernel
theorem d_Text_insert_60 : decode b_Text_insert 60 = .ok (.lload 6, 2) := by decide +kernel
theorem d_Text_insert_62 : decode b_Text_insert 62 = .ok (.invokestatic 60, 3) := by decide +kernel
theorem d_Text_insert_65 : decode b_Text_insert 65 = .ok (.if_icmp .le 7, 3) := by decide +kernel
theorem d_Text_insert_68 : decode b_Text_insert 68 = .ok (.sipush (-1000), 3) := by decide +kernel
