theorem d_Line_arrange_64 : decode b_Line_arrange 64 = .ok (.land, 1) := by decide +kernel
theorem d_Line_arrange_65 : decode b_Line_arrange 65 = .ok (.lstore 4, 2) := by decide +kernel
theorem d_Line_arrange_67 : decode b_Line_arrange 67 = .ok (.aload_n 1, 1) := by decide +kernel
theorem d_Line_arrange_68 : decode b_Line_arrange 68 = .ok (.lload 4, 2) := by decide +kernel
theorem d_Line_arrange_70 : decode b_Line_arrange 70 = .ok (.iload 6, 2) := by decide +kernel
theorem d_Line_arrange_72 : decode b_Line_arrange 72 = .ok (.invokevirtual 19, 3) := by decide +kernel
theorem d_Line_arrange_75 : decode b_Line_arrange 75 = .ok (.istore 6, 2) := by decide +kernel
theorem d_Line_arrange_77 : decode b_Line_arrange 77 = .ok (.goto (-60), 3) := by decide +kernel
theorem d_Line_arrange_80 : decode b_Line_arrange 80 = .ok (.return_, 1) := by decide +kernel
theorem d_Message_start_0 : decode b_Message_start 0 = .ok (.aload_n 0, 1) := by decide +kernel
theorem d_Message_start_1 : decode b_Message_start 1 = .ok (.iconst 1, 1) := by decide +kernel
theorem d_Message_start_2 : decode b_Message_start 2 = .ok (.putfield 18, 3) := by decide +kernel
theorem d_Message_start_5 : decode b_Message_start 5 = .ok (.aload_n 0, 1) := by decide +kernel
theorem d_Message_start_6 : decode b_Message_start 6 = .ok (.iload_n 1, 1) := by decide +kernel
theorem d_Message_start_7 : decode b_Message_start 7 = .ok (.putfield 22, 3) := by decide +kernel
theorem d_Message_start_10 : decode b_Message_start 10 = .ok (.aload_n 0, 1) := by decide +kernel
theorem d_Message_start_11 : decode b_Message_start 11 = .ok (.iload_n 2, 1) := by decide +kernel
theorem d_Message_start_12 : decode b_Message_start 12 = .ok (.putfield 26, 3) := by decide +kernel
theorem d_Message_start_15 : decode b_Message_start 15 = .ok (.aload_n 0, 1) := by decide +kernel
theorem d_Message_start_16 : decode b_Message_start 16 = .ok (.lload_n 3, 1) := by decide +kernel
theorem d_Message_start_17 : decode b_Message_start 17 = .ok (.putfield 29, 3) := by decide +kernel
theorem d_Message_start_20 : decode b_Message_start 20 = .ok (.return_, 1) := by decide +kernel
theorem d_OctetRow_clear_0 : decode b_OctetRow_clear 0 = .ok (.aload_n 0, 1) := by decide +kernel
theorem d_OctetRow_clear_1 : decode b_OctetRow_clear 1 = .ok (.iconst 0, 1) := by decide +kernel
theorem d_OctetRow_clear_2 : decode b_OctetRow_clear 2 = .ok (.putfield 15, 3) := by decide +kernel
theorem d_OctetRow_clear_5 : decode b_OctetRow_clear 5 = .ok (.return_, 1) := by decide +kernel
theorem d_Line_size_0 : decode b_Line_size 0 = .ok (.aload_n 0, 1) := by decide +kernel
theorem d_Line_size_1 : decode b_Line_size 1 = .ok (.getfield 15, 3) := by decide +kernel
theorem d_Line_size_4 : decode b_Line_size 4 = .ok (.ireturn, 1) := by decide +kernel
theorem d_OctetRow_add_0 : decode b_OctetRow_add 0 = .ok (.aload_n 0, 1) := by decide +kernel
theorem d_OctetRow_add_1 : decode b_OctetRow_add 1 = .ok (.getfield 15, 3) := by decide +kernel
theorem d_OctetRow_add_4 : decode b_OctetRow_add 4 = .ok (.sipush 442, 3) := by decide +kernel
theorem d_OctetRow_add_7 : decode b_OctetRow_add 7 = .ok (.if_icmp .ge 23, 3) := by decide +kernel
theorem d_OctetRow_add_10 : decode b_OctetRow_add 10 = .ok (.aload_n 0, 1) := by decide +kernel
theorem d_OctetRow_add_11 : decode b_OctetRow_add 11 = .ok (.getfield 11, 3) := by decide +kernel
theorem d_OctetRow_add_14 : decode b_OctetRow_add 14 = .ok (.aload_n 0, 1) := by decide +kernel
theorem d_OctetRow_add_15 : decode b_OctetRow_add 15 = .ok (.getfield 15, 3) := by decide +kernel
theorem d_OctetRow_add_18 : decode b_OctetRow_add 18 = .ok (.iload_n 1, 1) := by decide +kernel
theorem d_OctetRow_add_19 : decode b_OctetRow_add 19 = .ok (.iastore, 1) := by decide +kernel
theorem d_OctetRow_add_20 : decode b_OctetRow_add 20 = .ok (.aload_n 0, 1) := by decide +kernel
theorem d_OctetRow_add_21 : decode b_OctetRow_add 21 = .ok (.dup, 1) := by decide +kernel
theorem d_OctetRow_add_22 : decode b_OctetRow_add 22 = .ok (.getfield 15, 3) := by decide +kernel
theorem d_OctetRow_add_25 : decode b_OctetRow_add 25 = .ok (.iconst 1, 1) := by decide +kernel
theorem d_OctetRow_add_26 : decode b_OctetRow_add 26 = .ok (.iadd, 1) := by decide +kernel
theorem d_OctetRow_add_27 : decode b_OctetRow_add 27 = .ok (.putfield 15, 3) := by decide +kernel
theorem d_OctetRow_add_30 : decode b_OctetRow_add 30 = .ok (.return_, 1) := by decide +kernel
theorem d_OctetRow_put_0 : decode b_OctetRow_put 0 = .ok (.iload_n 1, 1) := by decide +kernel
theorem d_OctetRow_put_1 : decode b_OctetRow_put 1 = .ok (.istore_n 2, 1) := by decide +kernel
theorem d_OctetRow_put_2 : decode b_OctetRow_put 2 = .ok (.iconst 1, 1) := by decide +kernel
theorem d_OctetRow_put_3 : decode b_OctetRow_put 3 = .ok (.istore_n 3, 1) := by decide +kernel
theorem d_OctetRow_put_4 : decode b_OctetRow_put 4 = .ok (.iload_n 3, 1) := by decide +kernel
theorem d_OctetRow_put_5 : decode b_OctetRow_put 5 = .ok (.iconst 5, 1) := by decide +kernel
theorem d_OctetRow_put_6 : decode b_OctetRow_put 6 = .ok (.if_icmp .ge 32, 3) := by decide +kernel
theorem d_OctetRow_put_9 : decode b_OctetRow_put 9 = .ok (.iload_n 2, 1) := by decide +kernel
theorem d_OctetRow_put_10 : decode b_OctetRow_put 10 = .ok (.bipush 127, 2) := by decide +kernel
theorem d_OctetRow_put_12 : decode b_OctetRow_put 12 = .ok (.if_icmp .le 26, 3) := by decide +kernel
theorem d_OctetRow_put_15 : decode b_OctetRow_put 15 = .ok (.aload_n 0, 1) := by decide +kernel
theorem d_OctetRow_put_16 : decode b_OctetRow_put 16 = .ok (.sipush 128, 3) := by decide +kernel
theorem d_OctetRow_put_19 : decode b_OctetRow_put 19 = .ok (.iload_n 2, 1) := by decide +kernel
theorem d_OctetRow_put_20 : decode b_OctetRow_put 20 = .ok (.bipush 127, 2) := by decide +kernel
theorem d_OctetRow_put_22 : decode b_OctetRow_put 22 = .ok (.iand, 1) := by decide +kernel
theorem d_OctetRow_put_23 : decode b_OctetRow_put 23 = .ok (.iadd, 1) := by decide +kernel
theorem d_OctetRow_put_24 : decode b_OctetRow_put 24 = .ok (.invokevirtual 19, 3) := by decide +kernel
theorem d_OctetRow_put_27 : decode b_OctetRow_put 27 = .ok (.iload_n 2, 1) := by decide +kernel
theorem d_OctetRow_put_28 : decode b_OctetRow_put 28 = .ok (.bipush 7, 2) := by decide +kernel
theorem d_OctetRow_put_30 : decode b_OctetRow_put 30 = .ok (.ishr, 1) := by decide +kernel
theorem d_OctetRow_put_31 : decode b_OctetRow_put 31 = .ok (.istore_n 2, 1) := by decide +kernel
theorem d_OctetRow_put_32 : decode b_OctetRow_put 32 = .ok (.iinc 3 1, 3) := by decide +kernel
theorem d_OctetRow_put_35 : decode b_OctetRow_put 35 = .ok (.goto (-31), 3) := by decide +kernel
theorem d_OctetRow_put_38 : decode b_OctetRow_put 38 = .ok (.aload_n 0, 1) := by decide +kernel
theorem d_OctetRow_put_39 : decode b_OctetRow_put 39 = .ok (.iload_n 2, 1) := by decide +kernel
theorem d_OctetRow_put_40 : decode b_OctetRow_put 40 = .ok (.invokevirtual 19, 3) := by decide +kernel
theorem d_OctetRow_put_43 : decode b_OctetRow_put 43 = .ok (.return_, 1) := by decide +kernel
theorem d_Line_get_0 : decode b_Line_get 0 = .ok (.aload_n 0, 1) := by decide +kernel
theorem d_Line_get_1 : decode b_Line_get 1 = .ok (.getfield 9, 3) := by decide +kernel
theorem d_Line_get_4 : decode b_Line_get 4 = .ok (.iload_n 1, 1) := by decide +kernel
theorem d_Line_get_5 : decode b_Line_get 5 = .ok (.iaload, 1) := by decide +kernel
theorem d_Line_get_6 : decode b_Line_get 6 = .ok (.ireturn, 1) := by decide +kernel
theorem d_History_siteOf_0 : decode b_History_siteOf 0 = .ok (.aload_n 0, 1) := by decide +kernel
theorem d_History_siteOf_1 : decode b_History_siteOf 1 = .ok (.getfield 9, 3) := by decide +kernel
theorem d_History_siteOf_4 : decode b_History_siteOf 4 = .ok (.iload_n 1, 1) := by decide +kernel
theorem d_History_siteOf_5 : decode b_History_siteOf 5 = .ok (.iaload, 1) := by decide +kernel
theorem d_History_siteOf_6 : decode b_History_siteOf 6 = .ok (.ireturn, 1) := by decide +kernel
theorem d_Message_writeSites_0 : decode b_Message_writeSites 0 = .ok (.iconst 0, 1) := by decide +kernel
theorem d_Message_writeSites_1 : decode b_Message_writeSites 1 = .ok (.istore_n 3, 1) := by decide +kernel
theorem d_Message_writeSites_2 : decode b_Message_writeSites 2 = .ok (.iconst 1, 1) := by decide +kernel
theorem d_Message_writeSites_3 : decode b_Message_writeSites 3 = .ok (.istore 4, 2) := by decide +kernel
theorem d_Message_writeSites_5 : decode b_Message_writeSites 5 = .ok (.iload 4, 2) := by decide +kernel
theorem d_Message_writeSites_7 : decode b_Message_writeSites 7 = .ok (.aload_n 2, 1) := by decide +kernel
theorem d_Message_writeSites_8 : decode b_Message_writeSites 8 = .ok (.invokevirtual 36, 3) := by decide +kernel
theorem d_Message_writeSites_11 : decode b_Message_writeSites 11 = .ok (.if_icmp .gt 83, 3) := by decide +kernel
theorem d_Message_writeSites_14 : decode b_Message_writeSites 14 = .ok (.aload_n 1, 1) := by decide +kernel
theorem d_Message_writeSites_15 : decode b_Message_writeSites 15 = .ok (.aload_n 2, 1) := by decide +kernel
theorem d_Message_writeSites_16 : decode b_Message_writeSites 16 = .ok (.iload_n 3, 1) := by decide +kernel
theorem d_Message_writeSites_17 : decode b_Message_writeSites 17 = .ok (.invokevirtual 62, 3) := by decide +kernel
theorem d_Message_writeSites_20 : decode b_Message_writeSites 20 = .ok (.invokevirtual 66, 3) := by decide +kernel
theorem d_Message_writeSites_23 : decode b_Message_writeSites 23 = .ok (.istore 5, 2) := by decide +kernel
theorem d_Message_writeSites_25 : decode b_Message_writeSites 25 = .ok (.iload 4, 2) := by decide +kernel
theorem d_Message_writeSites_27 : decode b_Message_writeSites 27 = .ok (.aload_n 2, 1) := by decide +kernel
theorem d_Message_writeSites_28 : decode b_Message_writeSites 28 = .ok (.invokevirtual 36, 3) := by decide +kernel
theorem d_Message_writeSites_31 : decode b_Message_writeSites 31 = .ok (.if_icmp .eq 18, 3) := by decide +kernel
theorem d_Message_writeSites_34 : decode b_Message_writeSites 34 = .ok (.aload_n 1, 1) := by decide +kernel
theorem d_Message_writeSites_35 : decode b_Message_writeSites 35 = .ok (.aload_n 2, 1) := by decide +kernel
theorem d_Message_writeSites_36 : decode b_Message_writeSites 36 = .ok (.iload 4, 2) := by decide +kernel
theorem d_Message_writeSites_38 : decode b_Message_writeSites 38 = .ok (.invokevirtual 62, 3) := by decide +kernel
theorem d_Message_writeSites_41 : decode b_Message_writeSites 41 = .ok (.invokevirtual 66, 3) := by decide +kernel
theorem d_Message_writeSites_44 : decode b_Message_writeSites 44 = .ok (.iload 5, 2) := by decide +kernel
theorem d_Message_writeSites_46 : decode b_Message_writeSites 46 = .ok (.if_icmp .eq 42, 3) := by decide +kernel
theorem d_Message_writeSites_49 : decode b_Message_writeSites 49 = .ok (.aload_n 0, 1) := by decide +kernel
theorem d_Message_writeSites_50 : decode b_Message_writeSites 50 = .ok (.getfield 12, 3) := by decide +kernel
theorem d_Message_writeSites_53 : decode b_Message_writeSites 53 = .ok (.iload 5, 2) := by decide +kernel
theorem d_Message_writeSites_55 : decode b_Message_writeSites 55 = .ok (.invokevirtual 42, 3) := by decide +kernel
theorem d_Message_writeSites_58 : decode b_Message_writeSites 58 = .ok (.aload_n 0, 1) := by decide +kernel
theorem d_Message_writeSites_59 : decode b_Message_writeSites 59 = .ok (.getfield 12, 3) := by decide +kernel
theorem d_Message_writeSites_62 : decode b_Message_writeSites 62 = .ok (.aload_n 1, 1) := by decide +kernel
theorem d_Message_writeSites_63 : decode b_Message_writeSites 63 = .ok (.aload_n 2, 1) := by decide +kernel
theorem d_Message_writeSites_64 : decode b_Message_writeSites 64 = .ok (.iload_n 3, 1) := by decide +kernel
theorem d_Message_writeSites_65 : decode b_Message_writeSites 65 = .ok (.invokevirtual 62, 3) := by decide +kernel
theorem d_Message_writeSites_68 : decode b_Message_writeSites 68 = .ok (.invokevirtual 71, 3) := by decide +kernel
theorem d_Message_writeSites_71 : decode b_Message_writeSites 71 = .ok (.invokevirtual 42, 3) := by decide +kernel
theorem d_Message_writeSites_74 : decode b_Message_writeSites 74 = .ok (.aload_n 0, 1) := by decide +kernel
theorem d_Message_writeSites_75 : decode b_Message_writeSites 75 = .ok (.getfield 12, 3) := by decide +kernel
theorem d_Message_writeSites_78 : decode b_Message_writeSites 78 = .ok (.iload 4, 2) := by decide +kernel
theorem d_Message_writeSites_80 : decode b_Message_writeSites 80 = .ok (.iload_n 3, 1) := by decide +kernel
theorem d_Message_writeSites_81 : decode b_Message_writeSites 81 = .ok (.isub, 1) := by decide +kernel
theorem d_Message_writeSites_82 : decode b_Message_writeSites 82 = .ok (.invokevirtual 42, 3) := by decide +kernel
theorem d_Message_writeSites_85 : decode b_Message_writeSites 85 = .ok (.iload 4, 2) := by decide +kernel
theorem d_Message_writeSites_87 : decode b_Message_writeSites 87 = .ok (.istore_n 3, 1) := by decide +kernel
theorem d_Message_writeSites_88 : decode b_Message_writeSites 88 = .ok (.iinc 4 1, 3) := by decide +kernel
theorem d_Message_writeSites_91 : decode b_Message_writeSites 91 = .ok (.goto (-86), 3) := by decide +kernel
theorem d_Message_writeSites_94 : decode b_Message_writeSites 94 = .ok (.return_, 1) := by decide +kernel
theorem d_History_isInsert_0 : decode b_History_isInsert 0 = .ok (.aload_n 0, 1) := by decide +kernel
theorem d_History_isInsert_1 : decode b_History_isInsert 1 = .ok (.getfield 21, 3) := by decide +kernel
theorem d_History_isInsert_4 : decode b_History_isInsert 4 = .ok (.iload_n 1, 1) := by decide +kernel
theorem d_History_isInsert_5 : decode b_History_isInsert 5 = .ok (.iaload, 1) := by decide +kernel
theorem d_History_isInsert_6 : decode b_History_isInsert 6 = .ok (.iconst (-1), 1) := by decide +kernel
theorem d_History_isInsert_7 : decode b_History_isInsert 7 = .ok (.if_icmp .eq 7, 3) := by decide +kernel
theorem d_History_isInsert_10 : decode b_History_isInsert 10 = .ok (.iconst 1, 1) := by decide +kernel
theorem d_History_isInsert_11 : decode b_History_isInsert 11 = .ok (.goto 4, 3) := by decide +kernel
theorem d_History_isInsert_14 : decode b_History_isInsert 14 = .ok (.iconst 0, 1) := by decide +kernel
theorem d_History_isInsert_15 : decode b_History_isInsert 15 = .ok (.ireturn, 1) := by decide +kernel
theorem d_Message_writeKinds_0 : decode b_Message_writeKinds 0 = .ok (.iconst 1, 1) := by decide +kernel
theorem d_Message_writeKinds_1 : decode b_Message_writeKinds 1 = .ok (.istore_n 3, 1) := by decide +kernel
theorem d_Message_writeKinds_2 : decode b_Message_writeKinds 2 = .ok (.iconst 0, 1) := by decide +kernel
theorem d_Message_writeKinds_3 : decode b_Message_writeKinds 3 = .ok (.istore 4, 2) := by decide +kernel
theorem d_Message_writeKinds_5 : decode b_Message_writeKinds 5 = .ok (.iconst 0, 1) := by decide +kernel
theorem d_Message_writeKinds_6 : decode b_Message_writeKinds 6 = .ok (.istore 5, 2) := by decide +kernel
theorem d_Message_writeKinds_8 : decode b_Message_writeKinds 8 = .ok (.iload 5, 2) := by decide +kernel
theorem d_Message_writeKinds_10 : decode b_Message_writeKinds 10 = .ok (.aload_n 2, 1) := by decide +kernel
theorem d_Message_writeKinds_11 : decode b_Message_writeKinds 11 = .ok (.invokevirtual 36, 3) := by decide +kernel
theorem d_Message_writeKinds_14 : decode b_Message_writeKinds 14 = .ok (.if_icmp .ge 48, 3) := by decide +kernel
theorem d_Message_writeKinds_17 : decode b_Message_writeKinds 17 = .ok (.aload_n 1, 1) := by decide +kernel
theorem d_Message_writeKinds_18 : decode b_Message_writeKinds 18 = .ok (.aload_n 2, 1) := by decide +kernel
theorem d_Message_writeKinds_19 : decode b_Message_writeKinds 19 = .ok (.iload 5, 2) := by decide +kernel
theorem d_Message_writeKinds_21 : decode b_Message_writeKinds 21 = .ok (.invokevirtual 62, 3) := by decide +kernel
theorem d_Message_writeKinds_24 : decode b_Message_writeKinds 24 = .ok (.invokevirtual 74, 3) := by decide +kernel
theorem d_Message_writeKinds_27 : decode b_Message_writeKinds 27 = .ok (.iload_n 3, 1) := by decide +kernel
theorem d_Message_writeKinds_28 : decode b_Message_writeKinds 28 = .ok (.if_icmp .eq 25, 3) := by decide +kernel
theorem d_Message_writeKinds_31 : decode b_Message_writeKinds 31 = .ok (.aload_n 0, 1) := by decide +kernel
theorem d_Message_writeKinds_32 : decode b_Message_writeKinds 32 = .ok (.getfield 12, 3) := by decide +kernel
theorem d_Message_writeKinds_35 : decode b_Message_writeKinds 35 = .ok (.iload 4, 2) := by decide +kernel
theorem d_Message_writeKinds_37 : decode b_Message_writeKinds 37 = .ok (.invokevirtual 42, 3) := by decide +kernel
theorem d_Message_writeKinds_40 : decode b_Message_writeKinds 40 = .ok (.iload_n 3, 1) := by decide +kernel
theorem d_Message_writeKinds_41 : decode b_Message_writeKinds 41 = .ok (.ifCond .ne 7, 3) := by decide +kernel
theorem d_Message_writeKinds_44 : decode b_Message_writeKinds 44 = .ok (.iconst 1, 1) := by decide +kernel
theorem d_Message_writeKinds_45 : decode b_Message_writeKinds 45 = .ok (.goto 4, 3) := by decide +kernel
theorem d_Message_writeKinds_48 : decode b_Message_writeKinds 48 = .ok (.iconst 0, 1) := by decide +kernel
theorem d_Message_writeKinds_49 : decode b_Message_writeKinds 49 = .ok (.istore_n 3, 1) := by decide +kernel
theorem d_Message_writeKinds_50 : decode b_Message_writeKinds 50 = .ok (.iconst 0, 1) := by decide +kernel
theorem d_Message_writeKinds_51 : decode b_Message_writeKinds 51 = .ok (.istore 4, 2) := by decide +kernel
theorem d_Message_writeKinds_53 : decode b_Message_writeKinds 53 = .ok (.iinc 4 1, 3) := by decide +kernel
theorem d_Message_writeKinds_56 : decode b_Message_writeKinds 56 = .ok (.iinc 5 1, 3) := by decide +kernel
theorem d_Message_writeKinds_59 : decode b_Message_writeKinds 59 = .ok (.goto (-51), 3) := by decide +kernel
theorem d_Message_writeKinds_62 : decode b_Message_writeKinds 62 = .ok (.aload_n 0, 1) := by decide +kernel
theorem d_Message_writeKinds_63 : decode b_Message_writeKinds 63 = .ok (.getfield 12, 3) := by decide +kernel
theorem d_Message_writeKinds_66 : decode b_Message_writeKinds 66 = .ok (.iload 4, 2) := by decide +kernel
theorem d_Message_writeKinds_68 : decode b_Message_writeKinds 68 = .ok (.invokevirtual 42, 3) := by decide +kernel
theorem d_Message_writeKinds_71 : decode b_Message_writeKinds 71 = .ok (.return_, 1) := by decide +kernel
theorem d_History_indexOf_0 : decode b_History_indexOf 0 = .ok (.aload_n 0, 1) := by decide +kernel
theorem d_History_indexOf_1 : decode b_History_indexOf 1 = .ok (.getfield 18, 3) := by decide +kernel
theorem d_History_indexOf_4 : decode b_History_indexOf 4 = .ok (.iload_n 1, 1) := by decide +kernel
theorem d_History_indexOf_5 : decode b_History_indexOf 5 = .ok (.iaload, 1) := by decide +kernel
theorem d_History_indexOf_6 : decode b_History_indexOf 6 = .ok (.ireturn, 1) := by decide +kernel
theorem d_OctetRow_putSigned_0 : decode b_OctetRow_putSigned 0 = .ok (.aload_n 0, 1) := by decide +kernel
theorem d_OctetRow_putSigned_1 : decode b_OctetRow_putSigned 1 = .ok (.iload_n 1, 1) := by decide +kernel
theorem d_OctetRow_putSigned_2 : decode b_OctetRow_putSigned 2 = .ok (.ifCond .ge 12, 3) := by decide +kernel
theorem d_OctetRow_putSigned_5 : decode b_OctetRow_putSigned 5 = .ok (.bipush (-2), 2) := by decide +kernel
theorem d_OctetRow_putSigned_7 : decode b_OctetRow_putSigned 7 = .ok (.iload_n 1, 1) := by decide +kernel
theorem d_OctetRow_putSigned_8 : decode b_OctetRow_putSigned 8 = .ok (.imul, 1) := by decide +kernel
theorem d_OctetRow_putSigned_9 : decode b_OctetRow_putSigned 9 = .ok (.iconst 1, 1) := by decide +kernel
theorem d_OctetRow_putSigned_10 : decode b_OctetRow_putSigned 10 = .ok (.isub, 1) := by decide +kernel
theorem d_OctetRow_putSigned_11 : decode b_OctetRow_putSigned 11 = .ok (.goto 6, 3) := by decide +kernel
theorem d_OctetRow_putSigned_14 : decode b_OctetRow_putSigned 14 = .ok (.iconst 2, 1) := by decide +kernel
theorem d_OctetRow_putSigned_15 : decode b_OctetRow_putSigned 15 = .ok (.iload_n 1, 1) := by decide +kernel
theorem d_OctetRow_putSigned_16 : decode b_OctetRow_putSigned 16 = .ok (.imul, 1) := by decide +kernel
theorem d_OctetRow_putSigned_17 : decode b_OctetRow_putSigned 17 = .ok (.invokevirtual 23, 3) := by decide +kernel
theorem d_OctetRow_putSigned_20 : decode b_OctetRow_putSigned 20 = .ok (.return_, 1) := by decide +kernel
theorem d_Message_writeIndices_0 : decode b_Message_writeIndices 0 = .ok (.iconst 0, 1) := by decide +kernel
theorem d_Message_writeIndices_1 : decode b_Message_writeIndices 1 = .ok (.istore_n 3, 1) := by decide +kernel
theorem d_Message_writeIndices_2 : decode b_Message_writeIndices 2 = .ok (.iconst 0, 1) := by decide +kernel
theorem d_Message_writeIndices_3 : decode b_Message_writeIndices 3 = .ok (.istore 4, 2) := by decide +kernel
theorem d_Message_writeIndices_5 : decode b_Message_writeIndices 5 = .ok (.iload 4, 2) := by decide +kernel
theorem d_Message_writeIndices_7 : decode b_Message_writeIndices 7 = .ok (.aload_n 2, 1) := by decide +kernel
theorem d_Message_writeIndices_8 : decode b_Message_writeIndices 8 = .ok (.invokevirtual 36, 3) := by decide +kernel
theorem d_Message_writeIndices_11 : decode b_Message_writeIndices 11 = .ok (.if_icmp .ge 35, 3) := by decide +kernel
theorem d_Message_writeIndices_14 : decode b_Message_writeIndices 14 = .ok (.aload_n 1, 1) := by decide +kernel
theorem d_Message_writeIndices_15 : decode b_Message_writeIndices 15 = .ok (.aload_n 2, 1) := by decide +kernel
theorem d_Message_writeIndices_16 : decode b_Message_writeIndices 16 = .ok (.iload 4, 2) := by decide +kernel
theorem d_Message_writeIndices_18 : decode b_Message_writeIndices 18 = .ok (.invokevirtual 62, 3) := by decide +kernel
theorem d_Message_writeIndices_21 : decode b_Message_writeIndices 21 = .ok (.invokevirtual 78, 3) := by decide +kernel
theorem d_Message_writeIndices_24 : decode b_Message_writeIndices 24 = .ok (.istore 5, 2) := by decide +kernel
theorem d_Message_writeIndices_26 : decode b_Message_writeIndices 26 = .ok (.aload_n 0, 1) := by decide +kernel
theorem d_Message_writeIndices_27 : decode b_Message_writeIndices 27 = .ok (.getfield 12, 3) := by decide +kernel
theorem d_Message_writeIndices_30 : decode b_Message_writeIndices 30 = .ok (.iload 5, 2) := by decide +kernel
theorem d_Message_writeIndices_32 : decode b_Message_writeIndices 32 = .ok (.iload_n 3, 1) := by decide +kernel
theorem d_Message_writeIndices_33 : decode b_Message_writeIndices 33 = .ok (.isub, 1) := by decide +kernel
theorem d_Message_writeIndices_34 : decode b_Message_writeIndices 34 = .ok (.invokevirtual 81, 3) := by decide +kernel
theorem d_Message_writeIndices_37 : decode b_Message_writeIndices 37 = .ok (.iload 5, 2) := by decide +kernel
theorem d_Message_writeIndices_39 : decode b_Message_writeIndices 39 = .ok (.istore_n 3, 1) := by decide +kernel
theorem d_Message_writeIndices_40 : decode b_Message_writeIndices 40 = .ok (.iinc 4 1, 3) := by decide +kernel
theorem d_Message_writeIndices_43 : decode b_Message_writeIndices 43 = .ok (.goto (-38), 3) := by decide +kernel
theorem d_Message_writeIndices_46 : decode b_Message_writeIndices 46 = .ok (.return_, 1) := by decide +kernel
theorem d_Message_writeCharacters_0 : decode b_Message_writeCharacters 0 = .ok (.iconst 0, 1) := by decide +kernel
theorem d_Message_writeCharacters_1 : decode b_Message_writeCharacters 1 = .ok (.istore_n 3, 1) := by decide +kernel
theorem d_Message_writeCharacters_2 : decode b_Message_writeCharacters 2 = .ok (.iconst 0, 1) := by decide +kernel
theorem d_Message_writeCharacters_3 : decode b_Message_writeCharacters 3 = .ok (.istore 4, 2) := by decide +kernel
theorem d_Message_writeCharacters_5 : decode b_Message_writeCharacters 5 = .ok (.iload 4, 2) := by decide +kernel
theorem d_Message_writeCharacters_7 : decode b_Message_writeCharacters 7 = .ok (.aload_n 2, 1) := by decide +kernel
theorem d_Message_writeCharacters_8 : decode b_Message_writeCharacters 8 = .ok (.invokevirtual 36, 3) := by decide +kernel
theorem d_Message_writeCharacters_11 : decode b_Message_writeCharacters 11 = .ok (.if_icmp .ge 48, 3) := by decide +kernel
theorem d_Message_writeCharacters_14 : decode b_Message_writeCharacters 14 = .ok (.aload_n 1, 1) := by decide +kernel
theorem d_Message_writeCharacters_15 : decode b_Message_writeCharacters 15 = .ok (.aload_n 2, 1) := by decide +kernel
theorem d_Message_writeCharacters_16 : decode b_Message_writeCharacters 16 = .ok (.iload 4, 2) := by decide +kernel
theorem d_Message_writeCharacters_18 : decode b_Message_writeCharacters 18 = .ok (.invokevirtual 62, 3) := by decide +kernel
theorem d_Message_writeCharacters_21 : decode b_Message_writeCharacters 21 = .ok (.invokevirtual 74, 3) := by decide +kernel
theorem d_Message_writeCharacters_24 : decode b_Message_writeCharacters 24 = .ok (.ifCond .eq 29, 3) := by decide +kernel
theorem d_Message_writeCharacters_27 : decode b_Message_writeCharacters 27 = .ok (.aload_n 1, 1) := by decide +kernel
theorem d_Message_writeCharacters_28 : decode b_Message_writeCharacters 28 = .ok (.aload_n 2, 1) := by decide +kernel
theorem d_Message_writeCharacters_29 : decode b_Message_writeCharacters 29 = .ok (.iload 4, 2) := by decide +kernel
theorem d_Message_writeCharacters_31 : decode b_Message_writeCharacters 31 = .ok (.invokevirtual 62, 3) := by decide +kernel
theorem d_Message_writeCharacters_34 : decode b_Message_writeCharacters 34 = .ok (.invokevirtual 84, 3) := by decide +kernel
theorem d_Message_writeCharacters_37 : decode b_Message_writeCharacters 37 = .ok (.istore 5, 2) := by decide +kernel
theorem d_Message_writeCharacters_39 : decode b_Message_writeCharacters 39 = .ok (.aload_n 0, 1) := by decide +kernel
theorem d_Message_writeCharacters_40 : decode b_Message_writeCharacters 40 = .ok (.getfield 12, 3) := by decide +kernel
theorem d_Message_writeCharacters_43 : decode b_Message_writeCharacters 43 = .ok (.iload 5, 2) := by decide +kernel
theorem d_Message_writeCharacters_45 : decode b_Message_writeCharacters 45 = .ok (.iload_n 3, 1) := by decide +kernel
theorem d_Message_writeCharacters_46 : decode b_Message_writeCharacters 46 = .ok (.isub, 1) := by decide +kernel
theorem d_Message_writeCharacters_47 : decode b_Message_writeCharacters 47 = .ok (.invokevirtual 81, 3) := by decide +kernel
theorem d_Message_writeCharacters_50 : decode b_Message_writeCharacters 50 = .ok (.iload 5, 2) := by decide +kernel
theorem d_Message_writeCharacters_52 : decode b_Message_writeCharacters 52 = .ok (.istore_n 3, 1) := by decide +kernel
theorem d_Message_writeCharacters_53 : decode b_Message_writeCharacters 53 = .ok (.iinc 4 1, 3) := by decide +kernel
theorem d_Message_writeCharacters_56 : decode b_Message_writeCharacters 56 = .ok (.goto (-51), 3) := by decide +kernel
theorem d_Message_writeCharacters_59 : decode b_Message_writeCharacters 59 = .ok (.return_, 1) := by decide +kernel
theorem d_History_parentsOf_0 : decode b_History_parentsOf 0 = .ok (.aload_n 0, 1) := by decide +kernel
theorem d_History_parentsOf_1 : decode b_History_parentsOf 1 = .ok (.getfield 24, 3) := by decide +kernel
theorem d_History_parentsOf_4 : decode b_History_parentsOf 4 = .ok (.iload_n 1, 1) := by decide +kernel
theorem d_History_parentsOf_5 : decode b_History_parentsOf 5 = .ok (.laload, 1) := by decide +kernel
theorem d_History_parentsOf_6 : decode b_History_parentsOf 6 = .ok (.lreturn, 1) := by decide +kernel
theorem d_History_codeOf_0 : decode b_History_codeOf 0 = .ok (.aload_n 0, 1) := by decide +kernel
theorem d_History_codeOf_1 : decode b_History_codeOf 1 = .ok (.getfield 9, 3) := by decide +kernel
theorem d_History_codeOf_4 : decode b_History_codeOf 4 = .ok (.iload_n 1, 1) := by decide +kernel
theorem d_History_codeOf_5 : decode b_History_codeOf 5 = .ok (.iaload, 1) := by decide +kernel
theorem d_History_codeOf_6 : decode b_History_codeOf 6 = .ok (.iconst 3, 1) := by decide +kernel
theorem d_History_codeOf_7 : decode b_History_codeOf 7 = .ok (.aload_n 0, 1) := by decide +kernel
theorem d_History_codeOf_8 : decode b_History_codeOf 8 = .ok (.getfield 15, 3) := by decide +kernel
theorem d_History_codeOf_11 : decode b_History_codeOf 11 = .ok (.iload_n 1, 1) := by decide +kernel
theorem d_History_codeOf_12 : decode b_History_codeOf 12 = .ok (.iaload, 1) := by decide +kernel
theorem d_History_codeOf_13 : decode b_History_codeOf 13 = .ok (.imul, 1) := by decide +kernel
theorem d_History_codeOf_14 : decode b_History_codeOf 14 = .ok (.iadd, 1) := by decide +kernel
theorem d_History_codeOf_15 : decode b_History_codeOf 15 = .ok (.ireturn, 1) := by decide +kernel
theorem d_Message_writeParentList_0 : decode b_Message_writeParentList 0 = .ok (.lload_n 2, 1) := by decide +kernel
theorem d_Message_writeParentList_1 : decode b_Message_writeParentList 1 = .ok (.invokestatic 98, 3) := by decide +kernel
theorem d_Message_writeParentList_4 : decode b_Message_writeParentList 4 = .ok (.istore 4, 2) := by decide +kernel
theorem d_Message_writeParentList_6 : decode b_Message_writeParentList 6 = .ok (.lload_n 2, 1) := by decide +kernel
theorem d_Message_writeParentList_7 : decode b_Message_writeParentList 7 = .ok (.lstore 5, 2) := by decide +kernel
theorem d_Message_writeParentList_9 : decode b_Message_writeParentList 9 = .ok (.aload_n 1, 1) := by decide +kernel
theorem d_Message_writeParentList_10 : decode b_Message_writeParentList 10 = .ok (.lload 5, 2) := by decide +kernel
theorem d_Message_writeParentList_12 : decode b_Message_writeParentList 12 = .ok (.invokevirtual 104, 3) := by decide +kernel
theorem d_Message_writeParentList_15 : decode b_Message_writeParentList 15 = .ok (.istore 7, 2) := by decide +kernel
theorem d_Message_writeParentList_17 : decode b_Message_writeParentList 17 = .ok (.aload_n 0, 1) := by decide +kernel
theorem d_Message_writeParentList_18 : decode b_Message_writeParentList 18 = .ok (.getfield 12, 3) := by decide +kernel
theorem d_Message_writeParentList_21 : decode b_Message_writeParentList 21 = .ok (.iconst 1, 1) := by decide +kernel
theorem d_Message_writeParentList_22 : decode b_Message_writeParentList 22 = .ok (.iload 4, 2) := by decide +kernel
theorem d_Message_writeParentList_24 : decode b_Message_writeParentList 24 = .ok (.iadd, 1) := by decide +kernel
theorem d_Message_writeParentList_25 : decode b_Message_writeParentList 25 = .ok (.invokevirtual 42, 3) := by decide +kernel
theorem d_Message_writeParentList_28 : decode b_Message_writeParentList 28 = .ok (.iconst 0, 1) := by decide +kernel
theorem d_Message_writeParentList_29 : decode b_Message_writeParentList 29 = .ok (.istore 8, 2) := by decide +kernel
theorem d_Message_writeParentList_31 : decode b_Message_writeParentList 31 = .ok (.iload 8, 2) := by decide +kernel
theorem d_Message_writeParentList_33 : decode b_Message_writeParentList 33 = .ok (.iload 4, 2) := by decide +kernel
theorem d_Message_writeParentList_35 : decode b_Message_writeParentList 35 = .ok (.if_icmp .ge 50, 3) := by decide +kernel
theorem d_Message_writeParentList_38 : decode b_Message_writeParentList 38 = .ok (.iload 7, 2) := by decide +kernel
theorem d_Message_writeParentList_40 : decode b_Message_writeParentList 40 = .ok (.iconst (-1), 1) := by decide +kernel
theorem d_Message_writeParentList_41 : decode b_Message_writeParentList 41 = .ok (.if_icmp .eq 44, 3) := by decide +kernel
theorem d_Message_writeParentList_44 : decode b_Message_writeParentList 44 = .ok (.aload_n 0, 1) := by decide +kernel
theorem d_Message_writeParentList_45 : decode b_Message_writeParentList 45 = .ok (.getfield 12, 3) := by decide +kernel
theorem d_Message_writeParentList_48 : decode b_Message_writeParentList 48 = .ok (.aload_n 1, 1) := by decide +kernel
theorem d_Message_writeParentList_49 : decode b_Message_writeParentList 49 = .ok (.iload 7, 2) := by decide +kernel
theorem d_Message_writeParentList_51 : decode b_Message_writeParentList 51 = .ok (.invokevirtual 107, 3) := by decide +kernel
theorem d_Message_writeParentList_54 : decode b_Message_writeParentList 54 = .ok (.invokevirtual 42, 3) := by decide +kernel
theorem d_Message_writeParentList_57 : decode b_Message_writeParentList 57 = .ok (.lload 5, 2) := by decide +kernel
