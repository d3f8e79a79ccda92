theorem d_Message_writeParentList_59 : decode b_Message_writeParentList 59 = .ok (.iload 7, 2) := by decide +kernel
theorem d_Message_writeParentList_61 : decode b_Message_writeParentList 61 = .ok (.invokestatic 91, 3) := by decide +kernel
theorem d_Message_writeParentList_64 : decode b_Message_writeParentList 64 = .ok (.ldc2_w 110, 3) := by decide +kernel
theorem d_Message_writeParentList_67 : decode b_Message_writeParentList 67 = .ok (.lxor, 1) := by decide +kernel
theorem d_Message_writeParentList_68 : decode b_Message_writeParentList 68 = .ok (.land, 1) := by decide +kernel
theorem d_Message_writeParentList_69 : decode b_Message_writeParentList 69 = .ok (.lstore 5, 2) := by decide +kernel
theorem d_Message_writeParentList_71 : decode b_Message_writeParentList 71 = .ok (.aload_n 1, 1) := by decide +kernel
theorem d_Message_writeParentList_72 : decode b_Message_writeParentList 72 = .ok (.lload 5, 2) := by decide +kernel
theorem d_Message_writeParentList_74 : decode b_Message_writeParentList 74 = .ok (.invokevirtual 104, 3) := by decide +kernel
theorem d_Message_writeParentList_77 : decode b_Message_writeParentList 77 = .ok (.istore 7, 2) := by decide +kernel
theorem d_Message_writeParentList_79 : decode b_Message_writeParentList 79 = .ok (.iinc 8 1, 3) := by decide +kernel
theorem d_Message_writeParentList_82 : decode b_Message_writeParentList 82 = .ok (.goto (-51), 3) := by decide +kernel
theorem d_Message_writeParentList_85 : decode b_Message_writeParentList 85 = .ok (.return_, 1) := by decide +kernel
theorem d_Message_writeParents_0 : decode b_Message_writeParents 0 = .ok (.iconst 0, 1) := by decide +kernel
theorem d_Message_writeParents_1 : decode b_Message_writeParents 1 = .ok (.istore_n 3, 1) := by decide +kernel
theorem d_Message_writeParents_2 : decode b_Message_writeParents 2 = .ok (.iload_n 3, 1) := by decide +kernel
theorem d_Message_writeParents_3 : decode b_Message_writeParents 3 = .ok (.aload_n 2, 1) := by decide +kernel
theorem d_Message_writeParents_4 : decode b_Message_writeParents 4 = .ok (.invokevirtual 36, 3) := by decide +kernel
theorem d_Message_writeParents_7 : decode b_Message_writeParents 7 = .ok (.if_icmp .ge 58, 3) := by decide +kernel
theorem d_Message_writeParents_10 : decode b_Message_writeParents 10 = .ok (.aload_n 1, 1) := by decide +kernel
theorem d_Message_writeParents_11 : decode b_Message_writeParents 11 = .ok (.aload_n 2, 1) := by decide +kernel
theorem d_Message_writeParents_12 : decode b_Message_writeParents 12 = .ok (.iload_n 3, 1) := by decide +kernel
theorem d_Message_writeParents_13 : decode b_Message_writeParents 13 = .ok (.invokevirtual 62, 3) := by decide +kernel
theorem d_Message_writeParents_16 : decode b_Message_writeParents 16 = .ok (.invokevirtual 87, 3) := by decide +kernel
theorem d_Message_writeParents_19 : decode b_Message_writeParents 19 = .ok (.lstore 4, 2) := by decide +kernel
theorem d_Message_writeParents_21 : decode b_Message_writeParents 21 = .ok (.iload_n 3, 1) := by decide +kernel
theorem d_Message_writeParents_22 : decode b_Message_writeParents 22 = .ok (.ifCond .le 30, 3) := by decide +kernel
theorem d_Message_writeParents_25 : decode b_Message_writeParents 25 = .ok (.lload 4, 2) := by decide +kernel
theorem d_Message_writeParents_27 : decode b_Message_writeParents 27 = .ok (.aload_n 2, 1) := by decide +kernel
theorem d_Message_writeParents_28 : decode b_Message_writeParents 28 = .ok (.iload_n 3, 1) := by decide +kernel
theorem d_Message_writeParents_29 : decode b_Message_writeParents 29 = .ok (.iconst 1, 1) := by decide +kernel
theorem d_Message_writeParents_30 : decode b_Message_writeParents 30 = .ok (.isub, 1) := by decide +kernel
theorem d_Message_writeParents_31 : decode b_Message_writeParents 31 = .ok (.invokevirtual 62, 3) := by decide +kernel
theorem d_Message_writeParents_34 : decode b_Message_writeParents 34 = .ok (.invokestatic 91, 3) := by decide +kernel
theorem d_Message_writeParents_37 : decode b_Message_writeParents 37 = .ok (.lcmp, 1) := by decide +kernel
theorem d_Message_writeParents_38 : decode b_Message_writeParents 38 = .ok (.ifCond .ne 14, 3) := by decide +kernel
theorem d_Message_writeParents_41 : decode b_Message_writeParents 41 = .ok (.aload_n 0, 1) := by decide +kernel
theorem d_Message_writeParents_42 : decode b_Message_writeParents 42 = .ok (.getfield 12, 3) := by decide +kernel
theorem d_Message_writeParents_45 : decode b_Message_writeParents 45 = .ok (.iconst 0, 1) := by decide +kernel
theorem d_Message_writeParents_46 : decode b_Message_writeParents 46 = .ok (.invokevirtual 42, 3) := by decide +kernel
theorem d_Message_writeParents_49 : decode b_Message_writeParents 49 = .ok (.goto 10, 3) := by decide +kernel
theorem d_Message_writeParents_52 : decode b_Message_writeParents 52 = .ok (.aload_n 0, 1) := by decide +kernel
theorem d_Message_writeParents_53 : decode b_Message_writeParents 53 = .ok (.aload_n 1, 1) := by decide +kernel
theorem d_Message_writeParents_54 : decode b_Message_writeParents 54 = .ok (.lload 4, 2) := by decide +kernel
theorem d_Message_writeParents_56 : decode b_Message_writeParents 56 = .ok (.invokevirtual 94, 3) := by decide +kernel
theorem d_Message_writeParents_59 : decode b_Message_writeParents 59 = .ok (.iinc 3 1, 3) := by decide +kernel
theorem d_Message_writeParents_62 : decode b_Message_writeParents 62 = .ok (.goto (-60), 3) := by decide +kernel
theorem d_Message_writeParents_65 : decode b_Message_writeParents 65 = .ok (.return_, 1) := by decide +kernel
theorem d_Message_write_0 : decode b_Message_write 0 = .ok (.aload_n 0, 1) := by decide +kernel
theorem d_Message_write_1 : decode b_Message_write 1 = .ok (.getfield 12, 3) := by decide +kernel
theorem d_Message_write_4 : decode b_Message_write 4 = .ok (.invokevirtual 33, 3) := by decide +kernel
theorem d_Message_write_7 : decode b_Message_write 7 = .ok (.aload_n 0, 1) := by decide +kernel
theorem d_Message_write_8 : decode b_Message_write 8 = .ok (.getfield 12, 3) := by decide +kernel
theorem d_Message_write_11 : decode b_Message_write 11 = .ok (.aload_n 2, 1) := by decide +kernel
theorem d_Message_write_12 : decode b_Message_write 12 = .ok (.invokevirtual 36, 3) := by decide +kernel
theorem d_Message_write_15 : decode b_Message_write 15 = .ok (.invokevirtual 42, 3) := by decide +kernel
theorem d_Message_write_18 : decode b_Message_write 18 = .ok (.aload_n 0, 1) := by decide +kernel
theorem d_Message_write_19 : decode b_Message_write 19 = .ok (.aload_n 1, 1) := by decide +kernel
theorem d_Message_write_20 : decode b_Message_write 20 = .ok (.aload_n 2, 1) := by decide +kernel
theorem d_Message_write_21 : decode b_Message_write 21 = .ok (.invokevirtual 46, 3) := by decide +kernel
theorem d_Message_write_24 : decode b_Message_write 24 = .ok (.aload_n 0, 1) := by decide +kernel
theorem d_Message_write_25 : decode b_Message_write 25 = .ok (.aload_n 1, 1) := by decide +kernel
theorem d_Message_write_26 : decode b_Message_write 26 = .ok (.aload_n 2, 1) := by decide +kernel
theorem d_Message_write_27 : decode b_Message_write 27 = .ok (.invokevirtual 50, 3) := by decide +kernel
theorem d_Message_write_30 : decode b_Message_write 30 = .ok (.aload_n 0, 1) := by decide +kernel
theorem d_Message_write_31 : decode b_Message_write 31 = .ok (.aload_n 1, 1) := by decide +kernel
theorem d_Message_write_32 : decode b_Message_write 32 = .ok (.aload_n 2, 1) := by decide +kernel
theorem d_Message_write_33 : decode b_Message_write 33 = .ok (.invokevirtual 53, 3) := by decide +kernel
theorem d_Message_write_36 : decode b_Message_write 36 = .ok (.aload_n 0, 1) := by decide +kernel
theorem d_Message_write_37 : decode b_Message_write 37 = .ok (.aload_n 1, 1) := by decide +kernel
theorem d_Message_write_38 : decode b_Message_write 38 = .ok (.aload_n 2, 1) := by decide +kernel
theorem d_Message_write_39 : decode b_Message_write 39 = .ok (.invokevirtual 56, 3) := by decide +kernel
theorem d_Message_write_42 : decode b_Message_write 42 = .ok (.aload_n 0, 1) := by decide +kernel
theorem d_Message_write_43 : decode b_Message_write 43 = .ok (.aload_n 1, 1) := by decide +kernel
theorem d_Message_write_44 : decode b_Message_write 44 = .ok (.aload_n 2, 1) := by decide +kernel
theorem d_Message_write_45 : decode b_Message_write 45 = .ok (.invokevirtual 59, 3) := by decide +kernel
theorem d_Message_write_48 : decode b_Message_write 48 = .ok (.return_, 1) := by decide +kernel
theorem d_Text_send_0 : decode b_Text_send 0 = .ok (.iload_n 1, 1) := by decide +kernel
theorem d_Text_send_1 : decode b_Text_send 1 = .ok (.iload_n 2, 1) := by decide +kernel
theorem d_Text_send_2 : decode b_Text_send 2 = .ok (.invokestatic 93, 3) := by decide +kernel
theorem d_Text_send_5 : decode b_Text_send 5 = .ok (.ifCond .ne 7, 3) := by decide +kernel
theorem d_Text_send_8 : decode b_Text_send 8 = .ok (.sipush (-1000), 3) := by decide +kernel
theorem d_Text_send_11 : decode b_Text_send 11 = .ok (.ireturn, 1) := by decide +kernel
theorem d_Text_send_12 : decode b_Text_send 12 = .ok (.aload_n 0, 1) := by decide +kernel
theorem d_Text_send_13 : decode b_Text_send 13 = .ok (.getfield 32, 3) := by decide +kernel
theorem d_Text_send_16 : decode b_Text_send 16 = .ok (.iload_n 1, 1) := by decide +kernel
theorem d_Text_send_17 : decode b_Text_send 17 = .ok (.aaload, 1) := by decide +kernel
theorem d_Text_send_18 : decode b_Text_send 18 = .ok (.astore_n 3, 1) := by decide +kernel
theorem d_Text_send_19 : decode b_Text_send 19 = .ok (.aload_n 3, 1) := by decide +kernel
theorem d_Text_send_20 : decode b_Text_send 20 = .ok (.getfield 52, 3) := by decide +kernel
theorem d_Text_send_23 : decode b_Text_send 23 = .ok (.aload_n 3, 1) := by decide +kernel
theorem d_Text_send_24 : decode b_Text_send 24 = .ok (.getfield 97, 3) := by decide +kernel
theorem d_Text_send_27 : decode b_Text_send 27 = .ok (.iload_n 2, 1) := by decide +kernel
theorem d_Text_send_28 : decode b_Text_send 28 = .ok (.laload, 1) := by decide +kernel
theorem d_Text_send_29 : decode b_Text_send 29 = .ok (.ldc2_w 101, 3) := by decide +kernel
theorem d_Text_send_32 : decode b_Text_send 32 = .ok (.lxor, 1) := by decide +kernel
theorem d_Text_send_33 : decode b_Text_send 33 = .ok (.land, 1) := by decide +kernel
theorem d_Text_send_34 : decode b_Text_send 34 = .ok (.lstore 4, 2) := by decide +kernel
theorem d_Text_send_36 : decode b_Text_send 36 = .ok (.aload_n 0, 1) := by decide +kernel
theorem d_Text_send_37 : decode b_Text_send 37 = .ok (.invokevirtual 103, 3) := by decide +kernel
theorem d_Text_send_40 : decode b_Text_send 40 = .ok (.istore 6, 2) := by decide +kernel
theorem d_Text_send_42 : decode b_Text_send 42 = .ok (.lload 4, 2) := by decide +kernel
theorem d_Text_send_44 : decode b_Text_send 44 = .ok (.lconst 0, 1) := by decide +kernel
theorem d_Text_send_45 : decode b_Text_send 45 = .ok (.lcmp, 1) := by decide +kernel
theorem d_Text_send_46 : decode b_Text_send 46 = .ok (.ifCond .eq 10, 3) := by decide +kernel
theorem d_Text_send_49 : decode b_Text_send 49 = .ok (.iload 6, 2) := by decide +kernel
theorem d_Text_send_51 : decode b_Text_send 51 = .ok (.bipush 6, 2) := by decide +kernel
theorem d_Text_send_53 : decode b_Text_send 53 = .ok (.if_icmp .ne 7, 3) := by decide +kernel
theorem d_Text_send_56 : decode b_Text_send 56 = .ok (.sipush (-1000), 3) := by decide +kernel
theorem d_Text_send_59 : decode b_Text_send 59 = .ok (.ireturn, 1) := by decide +kernel
theorem d_Text_send_60 : decode b_Text_send 60 = .ok (.aload_n 0, 1) := by decide +kernel
theorem d_Text_send_61 : decode b_Text_send 61 = .ok (.getfield 26, 3) := by decide +kernel
theorem d_Text_send_64 : decode b_Text_send 64 = .ok (.aload_n 0, 1) := by decide +kernel
theorem d_Text_send_65 : decode b_Text_send 65 = .ok (.getfield 10, 3) := by decide +kernel
theorem d_Text_send_68 : decode b_Text_send 68 = .ok (.lload 4, 2) := by decide +kernel
theorem d_Text_send_70 : decode b_Text_send 70 = .ok (.invokevirtual 107, 3) := by decide +kernel
theorem d_Text_send_73 : decode b_Text_send 73 = .ok (.aload_n 0, 1) := by decide +kernel
theorem d_Text_send_74 : decode b_Text_send 74 = .ok (.getfield 39, 3) := by decide +kernel
theorem d_Text_send_77 : decode b_Text_send 77 = .ok (.iload 6, 2) := by decide +kernel
theorem d_Text_send_79 : decode b_Text_send 79 = .ok (.aaload, 1) := by decide +kernel
theorem d_Text_send_80 : decode b_Text_send 80 = .ok (.iload_n 1, 1) := by decide +kernel
theorem d_Text_send_81 : decode b_Text_send 81 = .ok (.iload_n 2, 1) := by decide +kernel
theorem d_Text_send_82 : decode b_Text_send 82 = .ok (.lload 4, 2) := by decide +kernel
theorem d_Text_send_84 : decode b_Text_send 84 = .ok (.invokevirtual 111, 3) := by decide +kernel
theorem d_Text_send_87 : decode b_Text_send 87 = .ok (.aload_n 0, 1) := by decide +kernel
theorem d_Text_send_88 : decode b_Text_send 88 = .ok (.getfield 39, 3) := by decide +kernel
theorem d_Text_send_91 : decode b_Text_send 91 = .ok (.iload 6, 2) := by decide +kernel
theorem d_Text_send_93 : decode b_Text_send 93 = .ok (.aaload, 1) := by decide +kernel
theorem d_Text_send_94 : decode b_Text_send 94 = .ok (.aload_n 0, 1) := by decide +kernel
theorem d_Text_send_95 : decode b_Text_send 95 = .ok (.getfield 10, 3) := by decide +kernel
theorem d_Text_send_98 : decode b_Text_send 98 = .ok (.aload_n 0, 1) := by decide +kernel
theorem d_Text_send_99 : decode b_Text_send 99 = .ok (.getfield 26, 3) := by decide +kernel
theorem d_Text_send_102 : decode b_Text_send 102 = .ok (.invokevirtual 115, 3) := by decide +kernel
theorem d_Text_send_105 : decode b_Text_send 105 = .ok (.aload_n 3, 1) := by decide +kernel
theorem d_Text_send_106 : decode b_Text_send 106 = .ok (.getfield 97, 3) := by decide +kernel
theorem d_Text_send_109 : decode b_Text_send 109 = .ok (.iload_n 2, 1) := by decide +kernel
theorem d_Text_send_110 : decode b_Text_send 110 = .ok (.aload_n 3, 1) := by decide +kernel
theorem d_Text_send_111 : decode b_Text_send 111 = .ok (.getfield 52, 3) := by decide +kernel
theorem d_Text_send_114 : decode b_Text_send 114 = .ok (.lastore, 1) := by decide +kernel
theorem d_Text_send_115 : decode b_Text_send 115 = .ok (.iload 6, 2) := by decide +kernel
theorem d_Text_send_117 : decode b_Text_send 117 = .ok (.ireturn, 1) := by decide +kernel
theorem d_Text_isUnderWay_0 : decode b_Text_isUnderWay 0 = .ok (.iload_n 1, 1) := by decide +kernel
theorem d_Text_isUnderWay_1 : decode b_Text_isUnderWay 1 = .ok (.ifCond .lt 25, 3) := by decide +kernel
theorem d_Text_isUnderWay_4 : decode b_Text_isUnderWay 4 = .ok (.iload_n 1, 1) := by decide +kernel
theorem d_Text_isUnderWay_5 : decode b_Text_isUnderWay 5 = .ok (.bipush 6, 2) := by decide +kernel
theorem d_Text_isUnderWay_7 : decode b_Text_isUnderWay 7 = .ok (.if_icmp .ge 19, 3) := by decide +kernel
theorem d_Text_isUnderWay_10 : decode b_Text_isUnderWay 10 = .ok (.aload_n 0, 1) := by decide +kernel
theorem d_Text_isUnderWay_11 : decode b_Text_isUnderWay 11 = .ok (.getfield 39, 3) := by decide +kernel
theorem d_Text_isUnderWay_14 : decode b_Text_isUnderWay 14 = .ok (.iload_n 1, 1) := by decide +kernel
theorem d_Text_isUnderWay_15 : decode b_Text_isUnderWay 15 = .ok (.aaload, 1) := by decide +kernel
theorem d_Text_isUnderWay_16 : decode b_Text_isUnderWay 16 = .ok (.getfield 148, 3) := by decide +kernel
theorem d_Text_isUnderWay_19 : decode b_Text_isUnderWay 19 = .ok (.ifCond .eq 7, 3) := by decide +kernel
theorem d_Text_isUnderWay_22 : decode b_Text_isUnderWay 22 = .ok (.iconst 1, 1) := by decide +kernel
theorem d_Text_isUnderWay_23 : decode b_Text_isUnderWay 23 = .ok (.goto 4, 3) := by decide +kernel
theorem d_Text_isUnderWay_26 : decode b_Text_isUnderWay 26 = .ok (.iconst 0, 1) := by decide +kernel
theorem d_Text_isUnderWay_27 : decode b_Text_isUnderWay 27 = .ok (.ireturn, 1) := by decide +kernel
theorem d_History_withAncestors_0 : decode b_History_withAncestors 0 = .ok (.lload_n 1, 1) := by decide +kernel
theorem d_History_withAncestors_1 : decode b_History_withAncestors 1 = .ok (.lstore_n 3, 1) := by decide +kernel
theorem d_History_withAncestors_2 : decode b_History_withAncestors 2 = .ok (.iconst 0, 1) := by decide +kernel
theorem d_History_withAncestors_3 : decode b_History_withAncestors 3 = .ok (.istore 5, 2) := by decide +kernel
theorem d_History_withAncestors_5 : decode b_History_withAncestors 5 = .ok (.iload 5, 2) := by decide +kernel
theorem d_History_withAncestors_7 : decode b_History_withAncestors 7 = .ok (.aload_n 0, 1) := by decide +kernel
theorem d_History_withAncestors_8 : decode b_History_withAncestors 8 = .ok (.getfield 37, 3) := by decide +kernel
theorem d_History_withAncestors_11 : decode b_History_withAncestors 11 = .ok (.if_icmp .ge 28, 3) := by decide +kernel
theorem d_History_withAncestors_14 : decode b_History_withAncestors 14 = .ok (.lload_n 1, 1) := by decide +kernel
theorem d_History_withAncestors_15 : decode b_History_withAncestors 15 = .ok (.iload 5, 2) := by decide +kernel
theorem d_History_withAncestors_17 : decode b_History_withAncestors 17 = .ok (.invokestatic 53, 3) := by decide +kernel
theorem d_History_withAncestors_20 : decode b_History_withAncestors 20 = .ok (.ifCond .eq 13, 3) := by decide +kernel
theorem d_History_withAncestors_23 : decode b_History_withAncestors 23 = .ok (.lload_n 3, 1) := by decide +kernel
theorem d_History_withAncestors_24 : decode b_History_withAncestors 24 = .ok (.aload_n 0, 1) := by decide +kernel
theorem d_History_withAncestors_25 : decode b_History_withAncestors 25 = .ok (.getfield 28, 3) := by decide +kernel
theorem d_History_withAncestors_28 : decode b_History_withAncestors 28 = .ok (.iload 5, 2) := by decide +kernel
theorem d_History_withAncestors_30 : decode b_History_withAncestors 30 = .ok (.laload, 1) := by decide +kernel
theorem d_History_withAncestors_31 : decode b_History_withAncestors 31 = .ok (.lor, 1) := by decide +kernel
theorem d_History_withAncestors_32 : decode b_History_withAncestors 32 = .ok (.lstore_n 3, 1) := by decide +kernel
theorem d_History_withAncestors_33 : decode b_History_withAncestors 33 = .ok (.iinc 5 1, 3) := by decide +kernel
theorem d_History_withAncestors_36 : decode b_History_withAncestors 36 = .ok (.goto (-31), 3) := by decide +kernel
theorem d_History_withAncestors_39 : decode b_History_withAncestors 39 = .ok (.lload_n 3, 1) := by decide +kernel
theorem d_History_withAncestors_40 : decode b_History_withAncestors 40 = .ok (.lreturn, 1) := by decide +kernel
theorem d_History_upTo_0 : decode b_History_upTo 0 = .ok (.iload_n 1, 1) := by decide +kernel
theorem d_History_upTo_1 : decode b_History_upTo 1 = .ok (.iconst (-1), 1) := by decide +kernel
theorem d_History_upTo_2 : decode b_History_upTo 2 = .ok (.if_icmp .ne 7, 3) := by decide +kernel
theorem d_History_upTo_5 : decode b_History_upTo 5 = .ok (.lconst 0, 1) := by decide +kernel
theorem d_History_upTo_6 : decode b_History_upTo 6 = .ok (.goto 14, 3) := by decide +kernel
theorem d_History_upTo_9 : decode b_History_upTo 9 = .ok (.aload_n 0, 1) := by decide +kernel
theorem d_History_upTo_10 : decode b_History_upTo 10 = .ok (.getfield 28, 3) := by decide +kernel
theorem d_History_upTo_13 : decode b_History_upTo 13 = .ok (.iload_n 1, 1) := by decide +kernel
theorem d_History_upTo_14 : decode b_History_upTo 14 = .ok (.laload, 1) := by decide +kernel
theorem d_History_upTo_15 : decode b_History_upTo 15 = .ok (.iload_n 1, 1) := by decide +kernel
theorem d_History_upTo_16 : decode b_History_upTo 16 = .ok (.invokestatic 49, 3) := by decide +kernel
theorem d_History_upTo_19 : decode b_History_upTo 19 = .ok (.lor, 1) := by decide +kernel
theorem d_History_upTo_20 : decode b_History_upTo 20 = .ok (.lreturn, 1) := by decide +kernel
theorem d_History_descendantsOf_0 : decode b_History_descendantsOf 0 = .ok (.lconst 0, 1) := by decide +kernel
theorem d_History_descendantsOf_1 : decode b_History_descendantsOf 1 = .ok (.lstore 4, 2) := by decide +kernel
theorem d_History_descendantsOf_3 : decode b_History_descendantsOf 3 = .ok (.iload_n 1, 1) := by decide +kernel
theorem d_History_descendantsOf_4 : decode b_History_descendantsOf 4 = .ok (.iconst 1, 1) := by decide +kernel
theorem d_History_descendantsOf_5 : decode b_History_descendantsOf 5 = .ok (.iadd, 1) := by decide +kernel
theorem d_History_descendantsOf_6 : decode b_History_descendantsOf 6 = .ok (.istore 6, 2) := by decide +kernel
theorem d_History_descendantsOf_8 : decode b_History_descendantsOf 8 = .ok (.iload 6, 2) := by decide +kernel
theorem d_History_descendantsOf_10 : decode b_History_descendantsOf 10 = .ok (.aload_n 0, 1) := by decide +kernel
theorem d_History_descendantsOf_11 : decode b_History_descendantsOf 11 = .ok (.getfield 37, 3) := by decide +kernel
theorem d_History_descendantsOf_14 : decode b_History_descendantsOf 14 = .ok (.if_icmp .ge 42, 3) := by decide +kernel
theorem d_History_descendantsOf_17 : decode b_History_descendantsOf 17 = .ok (.lload_n 2, 1) := by decide +kernel
theorem d_History_descendantsOf_18 : decode b_History_descendantsOf 18 = .ok (.iload 6, 2) := by decide +kernel
theorem d_History_descendantsOf_20 : decode b_History_descendantsOf 20 = .ok (.invokestatic 53, 3) := by decide +kernel
theorem d_History_descendantsOf_23 : decode b_History_descendantsOf 23 = .ok (.ifCond .eq 27, 3) := by decide +kernel
theorem d_History_descendantsOf_26 : decode b_History_descendantsOf 26 = .ok (.aload_n 0, 1) := by decide +kernel
theorem d_History_descendantsOf_27 : decode b_History_descendantsOf 27 = .ok (.getfield 28, 3) := by decide +kernel
theorem d_History_descendantsOf_30 : decode b_History_descendantsOf 30 = .ok (.iload 6, 2) := by decide +kernel
theorem d_History_descendantsOf_32 : decode b_History_descendantsOf 32 = .ok (.laload, 1) := by decide +kernel
theorem d_History_descendantsOf_33 : decode b_History_descendantsOf 33 = .ok (.iload_n 1, 1) := by decide +kernel
theorem d_History_descendantsOf_34 : decode b_History_descendantsOf 34 = .ok (.invokestatic 53, 3) := by decide +kernel
theorem d_History_descendantsOf_37 : decode b_History_descendantsOf 37 = .ok (.ifCond .eq 13, 3) := by decide +kernel
theorem d_History_descendantsOf_40 : decode b_History_descendantsOf 40 = .ok (.lload 4, 2) := by decide +kernel
theorem d_History_descendantsOf_42 : decode b_History_descendantsOf 42 = .ok (.iload 6, 2) := by decide +kernel
theorem d_History_descendantsOf_44 : decode b_History_descendantsOf 44 = .ok (.invokestatic 49, 3) := by decide +kernel
theorem d_History_descendantsOf_47 : decode b_History_descendantsOf 47 = .ok (.lor, 1) := by decide +kernel
theorem d_History_descendantsOf_48 : decode b_History_descendantsOf 48 = .ok (.lstore 4, 2) := by decide +kernel
theorem d_History_descendantsOf_50 : decode b_History_descendantsOf 50 = .ok (.iinc 6 1, 3) := by decide +kernel
theorem d_History_descendantsOf_53 : decode b_History_descendantsOf 53 = .ok (.goto (-45), 3) := by decide +kernel
theorem d_History_descendantsOf_56 : decode b_History_descendantsOf 56 = .ok (.lload 4, 2) := by decide +kernel
theorem d_History_descendantsOf_58 : decode b_History_descendantsOf 58 = .ok (.lreturn, 1) := by decide +kernel
theorem d_History_isCritical_0 : decode b_History_isCritical 0 = .ok (.lload_n 2, 1) := by decide +kernel
theorem d_History_isCritical_1 : decode b_History_isCritical 1 = .ok (.aload_n 0, 1) := by decide +kernel
theorem d_History_isCritical_2 : decode b_History_isCritical 2 = .ok (.iload_n 1, 1) := by decide +kernel
theorem d_History_isCritical_3 : decode b_History_isCritical 3 = .ok (.invokevirtual 66, 3) := by decide +kernel
theorem d_History_isCritical_6 : decode b_History_isCritical 6 = .ok (.aload_n 0, 1) := by decide +kernel
theorem d_History_isCritical_7 : decode b_History_isCritical 7 = .ok (.iload_n 1, 1) := by decide +kernel
theorem d_History_isCritical_8 : decode b_History_isCritical 8 = .ok (.lload_n 2, 1) := by decide +kernel
theorem d_History_isCritical_9 : decode b_History_isCritical 9 = .ok (.invokevirtual 69, 3) := by decide +kernel
theorem d_History_isCritical_12 : decode b_History_isCritical 12 = .ok (.lor, 1) := by decide +kernel
theorem d_History_isCritical_13 : decode b_History_isCritical 13 = .ok (.ldc2_w 64, 3) := by decide +kernel
theorem d_History_isCritical_16 : decode b_History_isCritical 16 = .ok (.lxor, 1) := by decide +kernel
theorem d_History_isCritical_17 : decode b_History_isCritical 17 = .ok (.land, 1) := by decide +kernel
theorem d_History_isCritical_18 : decode b_History_isCritical 18 = .ok (.lconst 0, 1) := by decide +kernel
theorem d_History_isCritical_19 : decode b_History_isCritical 19 = .ok (.lcmp, 1) := by decide +kernel
theorem d_History_isCritical_20 : decode b_History_isCritical 20 = .ok (.ifCond .ne 7, 3) := by decide +kernel
theorem d_History_isCritical_23 : decode b_History_isCritical 23 = .ok (.iconst 1, 1) := by decide +kernel
theorem d_History_isCritical_24 : decode b_History_isCritical 24 = .ok (.goto 4, 3) := by decide +kernel
theorem d_History_isCritical_27 : decode b_History_isCritical 27 = .ok (.iconst 0, 1) := by decide +kernel
theorem d_History_isCritical_28 : decode b_History_isCritical 28 = .ok (.ireturn, 1) := by decide +kernel
theorem d_History_lastCritical_0 : decode b_History_lastCritical 0 = .ok (.aload_n 0, 1) := by decide +kernel
theorem d_History_lastCritical_1 : decode b_History_lastCritical 1 = .ok (.getfield 37, 3) := by decide +kernel
theorem d_History_lastCritical_4 : decode b_History_lastCritical 4 = .ok (.iconst 1, 1) := by decide +kernel
theorem d_History_lastCritical_5 : decode b_History_lastCritical 5 = .ok (.isub, 1) := by decide +kernel
theorem d_History_lastCritical_6 : decode b_History_lastCritical 6 = .ok (.istore 5, 2) := by decide +kernel
theorem d_History_lastCritical_8 : decode b_History_lastCritical 8 = .ok (.iload 5, 2) := by decide +kernel
theorem d_History_lastCritical_10 : decode b_History_lastCritical 10 = .ok (.ifCond .lt 31, 3) := by decide +kernel
theorem d_History_lastCritical_13 : decode b_History_lastCritical 13 = .ok (.lload_n 3, 1) := by decide +kernel
theorem d_History_lastCritical_14 : decode b_History_lastCritical 14 = .ok (.iload 5, 2) := by decide +kernel
theorem d_History_lastCritical_16 : decode b_History_lastCritical 16 = .ok (.invokestatic 53, 3) := by decide +kernel
theorem d_History_lastCritical_19 : decode b_History_lastCritical 19 = .ok (.ifCond .eq 16, 3) := by decide +kernel
theorem d_History_lastCritical_22 : decode b_History_lastCritical 22 = .ok (.aload_n 0, 1) := by decide +kernel
theorem d_History_lastCritical_23 : decode b_History_lastCritical 23 = .ok (.iload 5, 2) := by decide +kernel
theorem d_History_lastCritical_25 : decode b_History_lastCritical 25 = .ok (.lload_n 1, 1) := by decide +kernel
theorem d_History_lastCritical_26 : decode b_History_lastCritical 26 = .ok (.invokevirtual 73, 3) := by decide +kernel
theorem d_History_lastCritical_29 : decode b_History_lastCritical 29 = .ok (.ifCond .eq 6, 3) := by decide +kernel
theorem d_History_lastCritical_32 : decode b_History_lastCritical 32 = .ok (.iload 5, 2) := by decide +kernel
theorem d_History_lastCritical_34 : decode b_History_lastCritical 34 = .ok (.ireturn, 1) := by decide +kernel
theorem d_History_lastCritical_35 : decode b_History_lastCritical 35 = .ok (.iinc 5 (-1), 3) := by decide +kernel
theorem d_History_lastCritical_38 : decode b_History_lastCritical 38 = .ok (.goto (-30), 3) := by decide +kernel
theorem d_History_lastCritical_41 : decode b_History_lastCritical 41 = .ok (.iconst (-1), 1) := by decide +kernel
theorem d_History_lastCritical_42 : decode b_History_lastCritical 42 = .ok (.ireturn, 1) := by decide +kernel
theorem d_History_ancestorsOf_0 : decode b_History_ancestorsOf 0 = .ok (.aload_n 0, 1) := by decide +kernel
theorem d_History_ancestorsOf_1 : decode b_History_ancestorsOf 1 = .ok (.getfield 28, 3) := by decide +kernel
theorem d_History_ancestorsOf_4 : decode b_History_ancestorsOf 4 = .ok (.iload_n 1, 1) := by decide +kernel
theorem d_History_ancestorsOf_5 : decode b_History_ancestorsOf 5 = .ok (.laload, 1) := by decide +kernel
theorem d_History_ancestorsOf_6 : decode b_History_ancestorsOf 6 = .ok (.lreturn, 1) := by decide +kernel
theorem d_Merge_passThrough_0 : decode b_Merge_passThrough 0 = .ok (.lload_n 3, 1) := by decide +kernel
theorem d_Merge_passThrough_1 : decode b_Merge_passThrough 1 = .ok (.lstore 5, 2) := by decide +kernel
theorem d_Merge_passThrough_3 : decode b_Merge_passThrough 3 = .ok (.iconst 0, 1) := by decide +kernel
theorem d_Merge_passThrough_4 : decode b_Merge_passThrough 4 = .ok (.istore 7, 2) := by decide +kernel
theorem d_Merge_passThrough_6 : decode b_Merge_passThrough 6 = .ok (.iload 7, 2) := by decide +kernel
theorem d_Merge_passThrough_8 : decode b_Merge_passThrough 8 = .ok (.aload_n 2, 1) := by decide +kernel
theorem d_Merge_passThrough_9 : decode b_Merge_passThrough 9 = .ok (.invokevirtual 57, 3) := by decide +kernel
theorem d_Merge_passThrough_12 : decode b_Merge_passThrough 12 = .ok (.if_icmp .ge 46, 3) := by decide +kernel
theorem d_Merge_passThrough_15 : decode b_Merge_passThrough 15 = .ok (.aload_n 2, 1) := by decide +kernel
theorem d_Merge_passThrough_16 : decode b_Merge_passThrough 16 = .ok (.iload 7, 2) := by decide +kernel
theorem d_Merge_passThrough_18 : decode b_Merge_passThrough 18 = .ok (.invokevirtual 61, 3) := by decide +kernel
theorem d_Merge_passThrough_21 : decode b_Merge_passThrough 21 = .ok (.istore 8, 2) := by decide +kernel
theorem d_Merge_passThrough_23 : decode b_Merge_passThrough 23 = .ok (.aload_n 0, 1) := by decide +kernel
theorem d_Merge_passThrough_24 : decode b_Merge_passThrough 24 = .ok (.dup, 1) := by decide +kernel
theorem d_Merge_passThrough_25 : decode b_Merge_passThrough 25 = .ok (.getfield 22, 3) := by decide +kernel
theorem d_Merge_passThrough_28 : decode b_Merge_passThrough 28 = .ok (.lload 5, 2) := by decide +kernel
theorem d_Merge_passThrough_30 : decode b_Merge_passThrough 30 = .ok (.aload_n 1, 1) := by decide +kernel
theorem d_Merge_passThrough_31 : decode b_Merge_passThrough 31 = .ok (.iload 8, 2) := by decide +kernel
theorem d_Merge_passThrough_33 : decode b_Merge_passThrough 33 = .ok (.invokevirtual 65, 3) := by decide +kernel
theorem d_Merge_passThrough_36 : decode b_Merge_passThrough 36 = .ok (.lxor, 1) := by decide +kernel
theorem d_Merge_passThrough_37 : decode b_Merge_passThrough 37 = .ok (.invokestatic 37, 3) := by decide +kernel
theorem d_Merge_passThrough_40 : decode b_Merge_passThrough 40 = .ok (.iadd, 1) := by decide +kernel
theorem d_Merge_passThrough_41 : decode b_Merge_passThrough 41 = .ok (.putfield 22, 3) := by decide +kernel
theorem d_Merge_passThrough_44 : decode b_Merge_passThrough 44 = .ok (.aload_n 1, 1) := by decide +kernel
theorem d_Merge_passThrough_45 : decode b_Merge_passThrough 45 = .ok (.iload 8, 2) := by decide +kernel
theorem d_Merge_passThrough_47 : decode b_Merge_passThrough 47 = .ok (.invokevirtual 31, 3) := by decide +kernel
theorem d_Merge_passThrough_50 : decode b_Merge_passThrough 50 = .ok (.lstore 5, 2) := by decide +kernel
theorem d_Merge_passThrough_52 : decode b_Merge_passThrough 52 = .ok (.iinc 7 1, 3) := by decide +kernel
theorem d_Merge_passThrough_55 : decode b_Merge_passThrough 55 = .ok (.goto (-49), 3) := by decide +kernel
theorem d_Merge_passThrough_58 : decode b_Merge_passThrough 58 = .ok (.lload 5, 2) := by decide +kernel
theorem d_Merge_passThrough_60 : decode b_Merge_passThrough 60 = .ok (.lreturn, 1) := by decide +kernel
theorem d_CharacterList_indexIn_0 : decode b_CharacterList_indexIn 0 = .ok (.iconst 0, 1) := by decide +kernel
