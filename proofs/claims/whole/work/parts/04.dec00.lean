theorem d_Text_isSite_0 : decode b_Text_isSite 0 = .ok (.iload_n 0, 1) := by decide +kernel
theorem d_Text_isSite_1 : decode b_Text_isSite 1 = .ok (.ifCond .lt 12, 3) := by decide +kernel
theorem d_Text_isSite_4 : decode b_Text_isSite 4 = .ok (.iload_n 0, 1) := by decide +kernel
theorem d_Text_isSite_5 : decode b_Text_isSite 5 = .ok (.iconst 3, 1) := by decide +kernel
theorem d_Text_isSite_6 : decode b_Text_isSite 6 = .ok (.if_icmp .ge 7, 3) := by decide +kernel
theorem d_Text_isSite_9 : decode b_Text_isSite 9 = .ok (.iconst 1, 1) := by decide +kernel
theorem d_Text_isSite_10 : decode b_Text_isSite 10 = .ok (.goto 4, 3) := by decide +kernel
theorem d_Text_isSite_13 : decode b_Text_isSite 13 = .ok (.iconst 0, 1) := by decide +kernel
theorem d_Text_isSite_14 : decode b_Text_isSite 14 = .ok (.ireturn, 1) := by decide +kernel
theorem d_History_isFull_0 : decode b_History_isFull 0 = .ok (.aload_n 0, 1) := by decide +kernel
theorem d_History_isFull_1 : decode b_History_isFull 1 = .ok (.getfield 37, 3) := by decide +kernel
theorem d_History_isFull_4 : decode b_History_isFull 4 = .ok (.bipush 40, 2) := by decide +kernel
theorem d_History_isFull_6 : decode b_History_isFull 6 = .ok (.if_icmp .lt 7, 3) := by decide +kernel
theorem d_History_isFull_9 : decode b_History_isFull 9 = .ok (.iconst 1, 1) := by decide +kernel
theorem d_History_isFull_10 : decode b_History_isFull 10 = .ok (.goto 4, 3) := by decide +kernel
theorem d_History_isFull_13 : decode b_History_isFull 13 = .ok (.iconst 0, 1) := by decide +kernel
theorem d_History_isFull_14 : decode b_History_isFull 14 = .ok (.ireturn, 1) := by decide +kernel
theorem d_Text_bit_0 : decode b_Text_bit 0 = .ok (.lconst 1, 1) := by decide +kernel
theorem d_Text_bit_1 : decode b_Text_bit 1 = .ok (.iload_n 0, 1) := by decide +kernel
theorem d_Text_bit_2 : decode b_Text_bit 2 = .ok (.lshl, 1) := by decide +kernel
theorem d_Text_bit_3 : decode b_Text_bit 3 = .ok (.lreturn, 1) := by decide +kernel
theorem d_Text_has_0 : decode b_Text_has 0 = .ok (.iload_n 2, 1) := by decide +kernel
theorem d_Text_has_1 : decode b_Text_has 1 = .ok (.ifCond .lt 18, 3) := by decide +kernel
theorem d_Text_has_4 : decode b_Text_has 4 = .ok (.lload_n 0, 1) := by decide +kernel
theorem d_Text_has_5 : decode b_Text_has 5 = .ok (.iload_n 2, 1) := by decide +kernel
theorem d_Text_has_6 : decode b_Text_has 6 = .ok (.invokestatic 78, 3) := by decide +kernel
theorem d_Text_has_9 : decode b_Text_has 9 = .ok (.land, 1) := by decide +kernel
theorem d_Text_has_10 : decode b_Text_has 10 = .ok (.lconst 0, 1) := by decide +kernel
theorem d_Text_has_11 : decode b_Text_has 11 = .ok (.lcmp, 1) := by decide +kernel
theorem d_Text_has_12 : decode b_Text_has 12 = .ok (.ifCond .eq 7, 3) := by decide +kernel
theorem d_Text_has_15 : decode b_Text_has 15 = .ok (.iconst 1, 1) := by decide +kernel
theorem d_Text_has_16 : decode b_Text_has 16 = .ok (.goto 4, 3) := by decide +kernel
theorem d_Text_has_19 : decode b_Text_has 19 = .ok (.iconst 0, 1) := by decide +kernel
theorem d_Text_has_20 : decode b_Text_has 20 = .ok (.ireturn, 1) := by decide +kernel
theorem d_CharacterList_shownIn_0 : decode b_CharacterList_shownIn 0 = .ok (.lconst 0, 1) := by decide +kernel
theorem d_CharacterList_shownIn_1 : decode b_CharacterList_shownIn 1 = .ok (.lstore_n 3, 1) := by decide +kernel
theorem d_CharacterList_shownIn_2 : decode b_CharacterList_shownIn 2 = .ok (.iconst 0, 1) := by decide +kernel
theorem d_CharacterList_shownIn_3 : decode b_CharacterList_shownIn 3 = .ok (.istore 5, 2) := by decide +kernel
theorem d_CharacterList_shownIn_5 : decode b_CharacterList_shownIn 5 = .ok (.iload 5, 2) := by decide +kernel
theorem d_CharacterList_shownIn_7 : decode b_CharacterList_shownIn 7 = .ok (.bipush 40, 2) := by decide +kernel
theorem d_CharacterList_shownIn_9 : decode b_CharacterList_shownIn 9 = .ok (.if_icmp .ge 36, 3) := by decide +kernel
theorem d_CharacterList_shownIn_12 : decode b_CharacterList_shownIn 12 = .ok (.lload_n 1, 1) := by decide +kernel
theorem d_CharacterList_shownIn_13 : decode b_CharacterList_shownIn 13 = .ok (.aload_n 0, 1) := by decide +kernel
theorem d_CharacterList_shownIn_14 : decode b_CharacterList_shownIn 14 = .ok (.getfield 29, 3) := by decide +kernel
theorem d_CharacterList_shownIn_17 : decode b_CharacterList_shownIn 17 = .ok (.land, 1) := by decide +kernel
theorem d_CharacterList_shownIn_18 : decode b_CharacterList_shownIn 18 = .ok (.iload 5, 2) := by decide +kernel
theorem d_CharacterList_shownIn_20 : decode b_CharacterList_shownIn 20 = .ok (.invokestatic 44, 3) := by decide +kernel
theorem d_CharacterList_shownIn_23 : decode b_CharacterList_shownIn 23 = .ok (.ifCond .eq 16, 3) := by decide +kernel
theorem d_CharacterList_shownIn_26 : decode b_CharacterList_shownIn 26 = .ok (.lload_n 3, 1) := by decide +kernel
theorem d_CharacterList_shownIn_27 : decode b_CharacterList_shownIn 27 = .ok (.aload_n 0, 1) := by decide +kernel
theorem d_CharacterList_shownIn_28 : decode b_CharacterList_shownIn 28 = .ok (.getfield 26, 3) := by decide +kernel
theorem d_CharacterList_shownIn_31 : decode b_CharacterList_shownIn 31 = .ok (.iload 5, 2) := by decide +kernel
theorem d_CharacterList_shownIn_33 : decode b_CharacterList_shownIn 33 = .ok (.iaload, 1) := by decide +kernel
theorem d_CharacterList_shownIn_34 : decode b_CharacterList_shownIn 34 = .ok (.invokestatic 40, 3) := by decide +kernel
theorem d_CharacterList_shownIn_37 : decode b_CharacterList_shownIn 37 = .ok (.lor, 1) := by decide +kernel
theorem d_CharacterList_shownIn_38 : decode b_CharacterList_shownIn 38 = .ok (.lstore_n 3, 1) := by decide +kernel
theorem d_CharacterList_shownIn_39 : decode b_CharacterList_shownIn 39 = .ok (.iinc 5 1, 3) := by decide +kernel
theorem d_CharacterList_shownIn_42 : decode b_CharacterList_shownIn 42 = .ok (.goto (-37), 3) := by decide +kernel
theorem d_CharacterList_shownIn_45 : decode b_CharacterList_shownIn 45 = .ok (.lload_n 1, 1) := by decide +kernel
theorem d_CharacterList_shownIn_46 : decode b_CharacterList_shownIn 46 = .ok (.aload_n 0, 1) := by decide +kernel
theorem d_CharacterList_shownIn_47 : decode b_CharacterList_shownIn 47 = .ok (.getfield 33, 3) := by decide +kernel
theorem d_CharacterList_shownIn_50 : decode b_CharacterList_shownIn 50 = .ok (.land, 1) := by decide +kernel
theorem d_CharacterList_shownIn_51 : decode b_CharacterList_shownIn 51 = .ok (.lload_n 3, 1) := by decide +kernel
theorem d_CharacterList_shownIn_52 : decode b_CharacterList_shownIn 52 = .ok (.ldc2_w 48, 3) := by decide +kernel
theorem d_CharacterList_shownIn_55 : decode b_CharacterList_shownIn 55 = .ok (.lxor, 1) := by decide +kernel
theorem d_CharacterList_shownIn_56 : decode b_CharacterList_shownIn 56 = .ok (.land, 1) := by decide +kernel
theorem d_CharacterList_shownIn_57 : decode b_CharacterList_shownIn 57 = .ok (.lreturn, 1) := by decide +kernel
theorem d_Long_bitCount_0 : decode b_Long_bitCount 0 = .ok (.lload_n 0, 1) := by decide +kernel
theorem d_Long_bitCount_1 : decode b_Long_bitCount 1 = .ok (.lload_n 0, 1) := by decide +kernel
theorem d_Long_bitCount_2 : decode b_Long_bitCount 2 = .ok (.iconst 1, 1) := by decide +kernel
theorem d_Long_bitCount_3 : decode b_Long_bitCount 3 = .ok (.lushr, 1) := by decide +kernel
theorem d_Long_bitCount_4 : decode b_Long_bitCount 4 = .ok (.ldc2_w 314, 3) := by decide +kernel
theorem d_Long_bitCount_7 : decode b_Long_bitCount 7 = .ok (.land, 1) := by decide +kernel
theorem d_Long_bitCount_8 : decode b_Long_bitCount 8 = .ok (.lsub, 1) := by decide +kernel
theorem d_Long_bitCount_9 : decode b_Long_bitCount 9 = .ok (.lstore_n 0, 1) := by decide +kernel
theorem d_Long_bitCount_10 : decode b_Long_bitCount 10 = .ok (.lload_n 0, 1) := by decide +kernel
theorem d_Long_bitCount_11 : decode b_Long_bitCount 11 = .ok (.ldc2_w 316, 3) := by decide +kernel
theorem d_Long_bitCount_14 : decode b_Long_bitCount 14 = .ok (.land, 1) := by decide +kernel
theorem d_Long_bitCount_15 : decode b_Long_bitCount 15 = .ok (.lload_n 0, 1) := by decide +kernel
theorem d_Long_bitCount_16 : decode b_Long_bitCount 16 = .ok (.iconst 2, 1) := by decide +kernel
theorem d_Long_bitCount_17 : decode b_Long_bitCount 17 = .ok (.lushr, 1) := by decide +kernel
theorem d_Long_bitCount_18 : decode b_Long_bitCount 18 = .ok (.ldc2_w 316, 3) := by decide +kernel
theorem d_Long_bitCount_21 : decode b_Long_bitCount 21 = .ok (.land, 1) := by decide +kernel
theorem d_Long_bitCount_22 : decode b_Long_bitCount 22 = .ok (.ladd, 1) := by decide +kernel
theorem d_Long_bitCount_23 : decode b_Long_bitCount 23 = .ok (.lstore_n 0, 1) := by decide +kernel
theorem d_Long_bitCount_24 : decode b_Long_bitCount 24 = .ok (.lload_n 0, 1) := by decide +kernel
theorem d_Long_bitCount_25 : decode b_Long_bitCount 25 = .ok (.lload_n 0, 1) := by decide +kernel
theorem d_Long_bitCount_26 : decode b_Long_bitCount 26 = .ok (.iconst 4, 1) := by decide +kernel
theorem d_Long_bitCount_27 : decode b_Long_bitCount 27 = .ok (.lushr, 1) := by decide +kernel
theorem d_Long_bitCount_28 : decode b_Long_bitCount 28 = .ok (.ladd, 1) := by decide +kernel
theorem d_Long_bitCount_29 : decode b_Long_bitCount 29 = .ok (.ldc2_w 318, 3) := by decide +kernel
theorem d_Long_bitCount_32 : decode b_Long_bitCount 32 = .ok (.land, 1) := by decide +kernel
theorem d_Long_bitCount_33 : decode b_Long_bitCount 33 = .ok (.lstore_n 0, 1) := by decide +kernel
theorem d_Long_bitCount_34 : decode b_Long_bitCount 34 = .ok (.lload_n 0, 1) := by decide +kernel
theorem d_Long_bitCount_35 : decode b_Long_bitCount 35 = .ok (.lload_n 0, 1) := by decide +kernel
theorem d_Long_bitCount_36 : decode b_Long_bitCount 36 = .ok (.bipush 8, 2) := by decide +kernel
theorem d_Long_bitCount_38 : decode b_Long_bitCount 38 = .ok (.lushr, 1) := by decide +kernel
theorem d_Long_bitCount_39 : decode b_Long_bitCount 39 = .ok (.ladd, 1) := by decide +kernel
theorem d_Long_bitCount_40 : decode b_Long_bitCount 40 = .ok (.lstore_n 0, 1) := by decide +kernel
theorem d_Long_bitCount_41 : decode b_Long_bitCount 41 = .ok (.lload_n 0, 1) := by decide +kernel
theorem d_Long_bitCount_42 : decode b_Long_bitCount 42 = .ok (.lload_n 0, 1) := by decide +kernel
theorem d_Long_bitCount_43 : decode b_Long_bitCount 43 = .ok (.bipush 16, 2) := by decide +kernel
theorem d_Long_bitCount_45 : decode b_Long_bitCount 45 = .ok (.lushr, 1) := by decide +kernel
theorem d_Long_bitCount_46 : decode b_Long_bitCount 46 = .ok (.ladd, 1) := by decide +kernel
theorem d_Long_bitCount_47 : decode b_Long_bitCount 47 = .ok (.lstore_n 0, 1) := by decide +kernel
theorem d_Long_bitCount_48 : decode b_Long_bitCount 48 = .ok (.lload_n 0, 1) := by decide +kernel
theorem d_Long_bitCount_49 : decode b_Long_bitCount 49 = .ok (.lload_n 0, 1) := by decide +kernel
theorem d_Long_bitCount_50 : decode b_Long_bitCount 50 = .ok (.bipush 32, 2) := by decide +kernel
theorem d_Long_bitCount_52 : decode b_Long_bitCount 52 = .ok (.lushr, 1) := by decide +kernel
theorem d_Long_bitCount_53 : decode b_Long_bitCount 53 = .ok (.ladd, 1) := by decide +kernel
theorem d_Long_bitCount_54 : decode b_Long_bitCount 54 = .ok (.lstore_n 0, 1) := by decide +kernel
theorem d_Long_bitCount_55 : decode b_Long_bitCount 55 = .ok (.lload_n 0, 1) := by decide +kernel
theorem d_Long_bitCount_56 : decode b_Long_bitCount 56 = .ok (.l2i, 1) := by decide +kernel
theorem d_Long_bitCount_57 : decode b_Long_bitCount 57 = .ok (.bipush 127, 2) := by decide +kernel
theorem d_Long_bitCount_59 : decode b_Long_bitCount 59 = .ok (.iand, 1) := by decide +kernel
theorem d_Long_bitCount_60 : decode b_Long_bitCount 60 = .ok (.ireturn, 1) := by decide +kernel
theorem d_CharacterList_shownAt_0 : decode b_CharacterList_shownAt 0 = .ok (.iconst 0, 1) := by decide +kernel
theorem d_CharacterList_shownAt_1 : decode b_CharacterList_shownAt 1 = .ok (.istore 4, 2) := by decide +kernel
theorem d_CharacterList_shownAt_3 : decode b_CharacterList_shownAt 3 = .ok (.iconst 0, 1) := by decide +kernel
theorem d_CharacterList_shownAt_4 : decode b_CharacterList_shownAt 4 = .ok (.istore 5, 2) := by decide +kernel
theorem d_CharacterList_shownAt_6 : decode b_CharacterList_shownAt 6 = .ok (.iload 5, 2) := by decide +kernel
theorem d_CharacterList_shownAt_8 : decode b_CharacterList_shownAt 8 = .ok (.aload_n 0, 1) := by decide +kernel
theorem d_CharacterList_shownAt_9 : decode b_CharacterList_shownAt 9 = .ok (.getfield 36, 3) := by decide +kernel
theorem d_CharacterList_shownAt_12 : decode b_CharacterList_shownAt 12 = .ok (.if_icmp .ge 40, 3) := by decide +kernel
theorem d_CharacterList_shownAt_15 : decode b_CharacterList_shownAt 15 = .ok (.lload_n 1, 1) := by decide +kernel
theorem d_CharacterList_shownAt_16 : decode b_CharacterList_shownAt 16 = .ok (.aload_n 0, 1) := by decide +kernel
theorem d_CharacterList_shownAt_17 : decode b_CharacterList_shownAt 17 = .ok (.getfield 9, 3) := by decide +kernel
theorem d_CharacterList_shownAt_20 : decode b_CharacterList_shownAt 20 = .ok (.iload 5, 2) := by decide +kernel
theorem d_CharacterList_shownAt_22 : decode b_CharacterList_shownAt 22 = .ok (.iaload, 1) := by decide +kernel
theorem d_CharacterList_shownAt_23 : decode b_CharacterList_shownAt 23 = .ok (.invokestatic 44, 3) := by decide +kernel
theorem d_CharacterList_shownAt_26 : decode b_CharacterList_shownAt 26 = .ok (.ifCond .eq 20, 3) := by decide +kernel
theorem d_CharacterList_shownAt_29 : decode b_CharacterList_shownAt 29 = .ok (.iload 4, 2) := by decide +kernel
theorem d_CharacterList_shownAt_31 : decode b_CharacterList_shownAt 31 = .ok (.iload_n 3, 1) := by decide +kernel
theorem d_CharacterList_shownAt_32 : decode b_CharacterList_shownAt 32 = .ok (.if_icmp .ne 11, 3) := by decide +kernel
theorem d_CharacterList_shownAt_35 : decode b_CharacterList_shownAt 35 = .ok (.aload_n 0, 1) := by decide +kernel
theorem d_CharacterList_shownAt_36 : decode b_CharacterList_shownAt 36 = .ok (.getfield 9, 3) := by decide +kernel
theorem d_CharacterList_shownAt_39 : decode b_CharacterList_shownAt 39 = .ok (.iload 5, 2) := by decide +kernel
theorem d_CharacterList_shownAt_41 : decode b_CharacterList_shownAt 41 = .ok (.iaload, 1) := by decide +kernel
theorem d_CharacterList_shownAt_42 : decode b_CharacterList_shownAt 42 = .ok (.ireturn, 1) := by decide +kernel
theorem d_CharacterList_shownAt_43 : decode b_CharacterList_shownAt 43 = .ok (.iinc 4 1, 3) := by decide +kernel
theorem d_CharacterList_shownAt_46 : decode b_CharacterList_shownAt 46 = .ok (.iinc 5 1, 3) := by decide +kernel
theorem d_CharacterList_shownAt_49 : decode b_CharacterList_shownAt 49 = .ok (.goto (-43), 3) := by decide +kernel
theorem d_CharacterList_shownAt_52 : decode b_CharacterList_shownAt 52 = .ok (.iconst (-1), 1) := by decide +kernel
theorem d_CharacterList_shownAt_53 : decode b_CharacterList_shownAt 53 = .ok (.ireturn, 1) := by decide +kernel
theorem d_History_parentsOfAll_0 : decode b_History_parentsOfAll 0 = .ok (.lconst 0, 1) := by decide +kernel
theorem d_History_parentsOfAll_1 : decode b_History_parentsOfAll 1 = .ok (.lstore_n 3, 1) := by decide +kernel
theorem d_History_parentsOfAll_2 : decode b_History_parentsOfAll 2 = .ok (.iconst 0, 1) := by decide +kernel
theorem d_History_parentsOfAll_3 : decode b_History_parentsOfAll 3 = .ok (.istore 5, 2) := by decide +kernel
theorem d_History_parentsOfAll_5 : decode b_History_parentsOfAll 5 = .ok (.iload 5, 2) := by decide +kernel
theorem d_History_parentsOfAll_7 : decode b_History_parentsOfAll 7 = .ok (.aload_n 0, 1) := by decide +kernel
theorem d_History_parentsOfAll_8 : decode b_History_parentsOfAll 8 = .ok (.getfield 37, 3) := by decide +kernel
theorem d_History_parentsOfAll_11 : decode b_History_parentsOfAll 11 = .ok (.if_icmp .ge 28, 3) := by decide +kernel
theorem d_History_parentsOfAll_14 : decode b_History_parentsOfAll 14 = .ok (.lload_n 1, 1) := by decide +kernel
theorem d_History_parentsOfAll_15 : decode b_History_parentsOfAll 15 = .ok (.iload 5, 2) := by decide +kernel
theorem d_History_parentsOfAll_17 : decode b_History_parentsOfAll 17 = .ok (.invokestatic 53, 3) := by decide +kernel
theorem d_History_parentsOfAll_20 : decode b_History_parentsOfAll 20 = .ok (.ifCond .eq 13, 3) := by decide +kernel
theorem d_History_parentsOfAll_23 : decode b_History_parentsOfAll 23 = .ok (.lload_n 3, 1) := by decide +kernel
theorem d_History_parentsOfAll_24 : decode b_History_parentsOfAll 24 = .ok (.aload_n 0, 1) := by decide +kernel
theorem d_History_parentsOfAll_25 : decode b_History_parentsOfAll 25 = .ok (.getfield 24, 3) := by decide +kernel
theorem d_History_parentsOfAll_28 : decode b_History_parentsOfAll 28 = .ok (.iload 5, 2) := by decide +kernel
theorem d_History_parentsOfAll_30 : decode b_History_parentsOfAll 30 = .ok (.laload, 1) := by decide +kernel
theorem d_History_parentsOfAll_31 : decode b_History_parentsOfAll 31 = .ok (.lor, 1) := by decide +kernel
theorem d_History_parentsOfAll_32 : decode b_History_parentsOfAll 32 = .ok (.lstore_n 3, 1) := by decide +kernel
theorem d_History_parentsOfAll_33 : decode b_History_parentsOfAll 33 = .ok (.iinc 5 1, 3) := by decide +kernel
theorem d_History_parentsOfAll_36 : decode b_History_parentsOfAll 36 = .ok (.goto (-31), 3) := by decide +kernel
theorem d_History_parentsOfAll_39 : decode b_History_parentsOfAll 39 = .ok (.lload_n 3, 1) := by decide +kernel
theorem d_History_parentsOfAll_40 : decode b_History_parentsOfAll 40 = .ok (.lreturn, 1) := by decide +kernel
theorem d_History_headsOf_0 : decode b_History_headsOf 0 = .ok (.lload_n 1, 1) := by decide +kernel
theorem d_History_headsOf_1 : decode b_History_headsOf 1 = .ok (.aload_n 0, 1) := by decide +kernel
theorem d_History_headsOf_2 : decode b_History_headsOf 2 = .ok (.lload_n 1, 1) := by decide +kernel
theorem d_History_headsOf_3 : decode b_History_headsOf 3 = .ok (.invokevirtual 61, 3) := by decide +kernel
theorem d_History_headsOf_6 : decode b_History_headsOf 6 = .ok (.ldc2_w 64, 3) := by decide +kernel
theorem d_History_headsOf_9 : decode b_History_headsOf 9 = .ok (.lxor, 1) := by decide +kernel
theorem d_History_headsOf_10 : decode b_History_headsOf 10 = .ok (.land, 1) := by decide +kernel
theorem d_History_headsOf_11 : decode b_History_headsOf 11 = .ok (.lreturn, 1) := by decide +kernel
theorem d_History_record_0 : decode b_History_record 0 = .ok (.aload_n 0, 1) := by decide +kernel
theorem d_History_record_1 : decode b_History_record 1 = .ok (.getfield 37, 3) := by decide +kernel
theorem d_History_record_4 : decode b_History_record 4 = .ok (.istore 6, 2) := by decide +kernel
theorem d_History_record_6 : decode b_History_record 6 = .ok (.aload_n 0, 1) := by decide +kernel
theorem d_History_record_7 : decode b_History_record 7 = .ok (.getfield 9, 3) := by decide +kernel
theorem d_History_record_10 : decode b_History_record 10 = .ok (.iload 6, 2) := by decide +kernel
theorem d_History_record_12 : decode b_History_record 12 = .ok (.iload_n 1, 1) := by decide +kernel
theorem d_History_record_13 : decode b_History_record 13 = .ok (.iastore, 1) := by decide +kernel
theorem d_History_record_14 : decode b_History_record 14 = .ok (.aload_n 0, 1) := by decide +kernel
theorem d_History_record_15 : decode b_History_record 15 = .ok (.getfield 15, 3) := by decide +kernel
theorem d_History_record_18 : decode b_History_record 18 = .ok (.iload 6, 2) := by decide +kernel
theorem d_History_record_20 : decode b_History_record 20 = .ok (.aload_n 0, 1) := by decide +kernel
theorem d_History_record_21 : decode b_History_record 21 = .ok (.getfield 34, 3) := by decide +kernel
theorem d_History_record_24 : decode b_History_record 24 = .ok (.iload_n 1, 1) := by decide +kernel
theorem d_History_record_25 : decode b_History_record 25 = .ok (.iaload, 1) := by decide +kernel
theorem d_History_record_26 : decode b_History_record 26 = .ok (.iastore, 1) := by decide +kernel
theorem d_History_record_27 : decode b_History_record 27 = .ok (.aload_n 0, 1) := by decide +kernel
theorem d_History_record_28 : decode b_History_record 28 = .ok (.getfield 18, 3) := by decide +kernel
theorem d_History_record_31 : decode b_History_record 31 = .ok (.iload 6, 2) := by decide +kernel
theorem d_History_record_33 : decode b_History_record 33 = .ok (.iload_n 2, 1) := by decide +kernel
theorem d_History_record_34 : decode b_History_record 34 = .ok (.iastore, 1) := by decide +kernel
theorem d_History_record_35 : decode b_History_record 35 = .ok (.aload_n 0, 1) := by decide +kernel
theorem d_History_record_36 : decode b_History_record 36 = .ok (.getfield 21, 3) := by decide +kernel
theorem d_History_record_39 : decode b_History_record 39 = .ok (.iload 6, 2) := by decide +kernel
theorem d_History_record_41 : decode b_History_record 41 = .ok (.iload_n 3, 1) := by decide +kernel
theorem d_History_record_42 : decode b_History_record 42 = .ok (.iastore, 1) := by decide +kernel
theorem d_History_record_43 : decode b_History_record 43 = .ok (.aload_n 0, 1) := by decide +kernel
theorem d_History_record_44 : decode b_History_record 44 = .ok (.getfield 24, 3) := by decide +kernel
theorem d_History_record_47 : decode b_History_record 47 = .ok (.iload 6, 2) := by decide +kernel
theorem d_History_record_49 : decode b_History_record 49 = .ok (.aload_n 0, 1) := by decide +kernel
theorem d_History_record_50 : decode b_History_record 50 = .ok (.lload 4, 2) := by decide +kernel
theorem d_History_record_52 : decode b_History_record 52 = .ok (.invokevirtual 41, 3) := by decide +kernel
theorem d_History_record_55 : decode b_History_record 55 = .ok (.lastore, 1) := by decide +kernel
theorem d_History_record_56 : decode b_History_record 56 = .ok (.aload_n 0, 1) := by decide +kernel
theorem d_History_record_57 : decode b_History_record 57 = .ok (.getfield 28, 3) := by decide +kernel
theorem d_History_record_60 : decode b_History_record 60 = .ok (.iload 6, 2) := by decide +kernel
theorem d_History_record_62 : decode b_History_record 62 = .ok (.lload 4, 2) := by decide +kernel
theorem d_History_record_64 : decode b_History_record 64 = .ok (.lastore, 1) := by decide +kernel
theorem d_History_record_65 : decode b_History_record 65 = .ok (.aload_n 0, 1) := by decide +kernel
theorem d_History_record_66 : decode b_History_record 66 = .ok (.getfield 31, 3) := by decide +kernel
theorem d_History_record_69 : decode b_History_record 69 = .ok (.iload_n 1, 1) := by decide +kernel
theorem d_History_record_70 : decode b_History_record 70 = .ok (.bipush 40, 2) := by decide +kernel
theorem d_History_record_72 : decode b_History_record 72 = .ok (.imul, 1) := by decide +kernel
theorem d_History_record_73 : decode b_History_record 73 = .ok (.aload_n 0, 1) := by decide +kernel
theorem d_History_record_74 : decode b_History_record 74 = .ok (.getfield 34, 3) := by decide +kernel
theorem d_History_record_77 : decode b_History_record 77 = .ok (.iload_n 1, 1) := by decide +kernel
theorem d_History_record_78 : decode b_History_record 78 = .ok (.iaload, 1) := by decide +kernel
theorem d_History_record_79 : decode b_History_record 79 = .ok (.iadd, 1) := by decide +kernel
theorem d_History_record_80 : decode b_History_record 80 = .ok (.iload 6, 2) := by decide +kernel
theorem d_History_record_82 : decode b_History_record 82 = .ok (.iastore, 1) := by decide +kernel
theorem d_History_record_83 : decode b_History_record 83 = .ok (.aload_n 0, 1) := by decide +kernel
theorem d_History_record_84 : decode b_History_record 84 = .ok (.getfield 34, 3) := by decide +kernel
theorem d_History_record_87 : decode b_History_record 87 = .ok (.iload_n 1, 1) := by decide +kernel
theorem d_History_record_88 : decode b_History_record 88 = .ok (.dup2, 1) := by decide +kernel
theorem d_History_record_89 : decode b_History_record 89 = .ok (.iaload, 1) := by decide +kernel
theorem d_History_record_90 : decode b_History_record 90 = .ok (.iconst 1, 1) := by decide +kernel
theorem d_History_record_91 : decode b_History_record 91 = .ok (.iadd, 1) := by decide +kernel
theorem d_History_record_92 : decode b_History_record 92 = .ok (.iastore, 1) := by decide +kernel
theorem d_History_record_93 : decode b_History_record 93 = .ok (.aload_n 0, 1) := by decide +kernel
theorem d_History_record_94 : decode b_History_record 94 = .ok (.dup, 1) := by decide +kernel
theorem d_History_record_95 : decode b_History_record 95 = .ok (.getfield 37, 3) := by decide +kernel
theorem d_History_record_98 : decode b_History_record 98 = .ok (.iconst 1, 1) := by decide +kernel
theorem d_History_record_99 : decode b_History_record 99 = .ok (.iadd, 1) := by decide +kernel
theorem d_History_record_100 : decode b_History_record 100 = .ok (.putfield 37, 3) := by decide +kernel
theorem d_History_record_103 : decode b_History_record 103 = .ok (.iload 6, 2) := by decide +kernel
theorem d_History_record_105 : decode b_History_record 105 = .ok (.ireturn, 1) := by decide +kernel
theorem d_CharacterList_childrenOf_0 : decode b_CharacterList_childrenOf 0 = .ok (.lconst 0, 1) := by decide +kernel
theorem d_CharacterList_childrenOf_1 : decode b_CharacterList_childrenOf 1 = .ok (.lstore_n 3, 1) := by decide +kernel
theorem d_CharacterList_childrenOf_2 : decode b_CharacterList_childrenOf 2 = .ok (.iconst 0, 1) := by decide +kernel
theorem d_CharacterList_childrenOf_3 : decode b_CharacterList_childrenOf 3 = .ok (.istore 5, 2) := by decide +kernel
theorem d_CharacterList_childrenOf_5 : decode b_CharacterList_childrenOf 5 = .ok (.iload 5, 2) := by decide +kernel
theorem d_CharacterList_childrenOf_7 : decode b_CharacterList_childrenOf 7 = .ok (.aload_n 0, 1) := by decide +kernel
theorem d_CharacterList_childrenOf_8 : decode b_CharacterList_childrenOf 8 = .ok (.getfield 36, 3) := by decide +kernel
theorem d_CharacterList_childrenOf_11 : decode b_CharacterList_childrenOf 11 = .ok (.if_icmp .ge 48, 3) := by decide +kernel
theorem d_CharacterList_childrenOf_14 : decode b_CharacterList_childrenOf 14 = .ok (.aload_n 0, 1) := by decide +kernel
theorem d_CharacterList_childrenOf_15 : decode b_CharacterList_childrenOf 15 = .ok (.getfield 9, 3) := by decide +kernel
theorem d_CharacterList_childrenOf_18 : decode b_CharacterList_childrenOf 18 = .ok (.iload 5, 2) := by decide +kernel
theorem d_CharacterList_childrenOf_20 : decode b_CharacterList_childrenOf 20 = .ok (.iaload, 1) := by decide +kernel
theorem d_CharacterList_childrenOf_21 : decode b_CharacterList_childrenOf 21 = .ok (.istore 6, 2) := by decide +kernel
theorem d_CharacterList_childrenOf_23 : decode b_CharacterList_childrenOf 23 = .ok (.aload_n 0, 1) := by decide +kernel
theorem d_CharacterList_childrenOf_24 : decode b_CharacterList_childrenOf 24 = .ok (.getfield 15, 3) := by decide +kernel
theorem d_CharacterList_childrenOf_27 : decode b_CharacterList_childrenOf 27 = .ok (.iload 6, 2) := by decide +kernel
theorem d_CharacterList_childrenOf_29 : decode b_CharacterList_childrenOf 29 = .ok (.iaload, 1) := by decide +kernel
theorem d_CharacterList_childrenOf_30 : decode b_CharacterList_childrenOf 30 = .ok (.iload_n 1, 1) := by decide +kernel
theorem d_CharacterList_childrenOf_31 : decode b_CharacterList_childrenOf 31 = .ok (.if_icmp .ne 22, 3) := by decide +kernel
theorem d_CharacterList_childrenOf_34 : decode b_CharacterList_childrenOf 34 = .ok (.aload_n 0, 1) := by decide +kernel
theorem d_CharacterList_childrenOf_35 : decode b_CharacterList_childrenOf 35 = .ok (.getfield 18, 3) := by decide +kernel
theorem d_CharacterList_childrenOf_38 : decode b_CharacterList_childrenOf 38 = .ok (.iload 6, 2) := by decide +kernel
theorem d_CharacterList_childrenOf_40 : decode b_CharacterList_childrenOf 40 = .ok (.baload, 1) := by decide +kernel
theorem d_CharacterList_childrenOf_41 : decode b_CharacterList_childrenOf 41 = .ok (.iload_n 2, 1) := by decide +kernel
theorem d_CharacterList_childrenOf_42 : decode b_CharacterList_childrenOf 42 = .ok (.if_icmp .ne 11, 3) := by decide +kernel
theorem d_CharacterList_childrenOf_45 : decode b_CharacterList_childrenOf 45 = .ok (.lload_n 3, 1) := by decide +kernel
theorem d_CharacterList_childrenOf_46 : decode b_CharacterList_childrenOf 46 = .ok (.iload 6, 2) := by decide +kernel
theorem d_CharacterList_childrenOf_48 : decode b_CharacterList_childrenOf 48 = .ok (.invokestatic 40, 3) := by decide +kernel
theorem d_CharacterList_childrenOf_51 : decode b_CharacterList_childrenOf 51 = .ok (.lor, 1) := by decide +kernel
theorem d_CharacterList_childrenOf_52 : decode b_CharacterList_childrenOf 52 = .ok (.lstore_n 3, 1) := by decide +kernel
theorem d_CharacterList_childrenOf_53 : decode b_CharacterList_childrenOf 53 = .ok (.iinc 5 1, 3) := by decide +kernel
theorem d_CharacterList_childrenOf_56 : decode b_CharacterList_childrenOf 56 = .ok (.goto (-51), 3) := by decide +kernel
theorem d_CharacterList_childrenOf_59 : decode b_CharacterList_childrenOf 59 = .ok (.lload_n 3, 1) := by decide +kernel
theorem d_CharacterList_childrenOf_60 : decode b_CharacterList_childrenOf 60 = .ok (.lreturn, 1) := by decide +kernel
theorem d_CharacterList_nextBehind_0 : decode b_CharacterList_nextBehind 0 = .ok (.iload_n 1, 1) := by decide +kernel
theorem d_CharacterList_nextBehind_1 : decode b_CharacterList_nextBehind 1 = .ok (.iconst (-1), 1) := by decide +kernel
theorem d_CharacterList_nextBehind_2 : decode b_CharacterList_nextBehind 2 = .ok (.if_icmp .ne 7, 3) := by decide +kernel
theorem d_CharacterList_nextBehind_5 : decode b_CharacterList_nextBehind 5 = .ok (.iconst 1, 1) := by decide +kernel
theorem d_CharacterList_nextBehind_6 : decode b_CharacterList_nextBehind 6 = .ok (.goto 4, 3) := by decide +kernel
theorem d_CharacterList_nextBehind_9 : decode b_CharacterList_nextBehind 9 = .ok (.iconst 0, 1) := by decide +kernel
theorem d_CharacterList_nextBehind_10 : decode b_CharacterList_nextBehind 10 = .ok (.istore 4, 2) := by decide +kernel
theorem d_CharacterList_nextBehind_12 : decode b_CharacterList_nextBehind 12 = .ok (.iconst 0, 1) := by decide +kernel
theorem d_CharacterList_nextBehind_13 : decode b_CharacterList_nextBehind 13 = .ok (.istore 5, 2) := by decide +kernel
theorem d_CharacterList_nextBehind_15 : decode b_CharacterList_nextBehind 15 = .ok (.iload 5, 2) := by decide +kernel
theorem d_CharacterList_nextBehind_17 : decode b_CharacterList_nextBehind 17 = .ok (.aload_n 0, 1) := by decide +kernel
theorem d_CharacterList_nextBehind_18 : decode b_CharacterList_nextBehind 18 = .ok (.getfield 36, 3) := by decide +kernel
theorem d_CharacterList_nextBehind_21 : decode b_CharacterList_nextBehind 21 = .ok (.if_icmp .ge 59, 3) := by decide +kernel
theorem d_CharacterList_nextBehind_24 : decode b_CharacterList_nextBehind 24 = .ok (.iload 4, 2) := by decide +kernel
theorem d_CharacterList_nextBehind_26 : decode b_CharacterList_nextBehind 26 = .ok (.ifCond .eq 25, 3) := by decide +kernel
theorem d_CharacterList_nextBehind_29 : decode b_CharacterList_nextBehind 29 = .ok (.lload_n 2, 1) := by decide +kernel
theorem d_CharacterList_nextBehind_30 : decode b_CharacterList_nextBehind 30 = .ok (.aload_n 0, 1) := by decide +kernel
theorem d_CharacterList_nextBehind_31 : decode b_CharacterList_nextBehind 31 = .ok (.getfield 9, 3) := by decide +kernel
theorem d_CharacterList_nextBehind_34 : decode b_CharacterList_nextBehind 34 = .ok (.iload 5, 2) := by decide +kernel
theorem d_CharacterList_nextBehind_36 : decode b_CharacterList_nextBehind 36 = .ok (.iaload, 1) := by decide +kernel
theorem d_CharacterList_nextBehind_37 : decode b_CharacterList_nextBehind 37 = .ok (.invokestatic 44, 3) := by decide +kernel
theorem d_CharacterList_nextBehind_40 : decode b_CharacterList_nextBehind 40 = .ok (.ifCond .eq 11, 3) := by decide +kernel
theorem d_CharacterList_nextBehind_43 : decode b_CharacterList_nextBehind 43 = .ok (.aload_n 0, 1) := by decide +kernel
theorem d_CharacterList_nextBehind_44 : decode b_CharacterList_nextBehind 44 = .ok (.getfield 9, 3) := by decide +kernel
theorem d_CharacterList_nextBehind_47 : decode b_CharacterList_nextBehind 47 = .ok (.iload 5, 2) := by decide +kernel
