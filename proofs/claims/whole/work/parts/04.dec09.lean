theorem d_Model_at_32 : decode b_Model_at 32 = .ok (.invokevirtual 117, 3) := by decide +kernel
theorem d_Model_at_35 : decode b_Model_at 35 = .ok (.istore_n 3, 1) := by decide +kernel
theorem d_Model_at_36 : decode b_Model_at 36 = .ok (.aload_n 0, 1) := by decide +kernel
theorem d_Model_at_37 : decode b_Model_at 37 = .ok (.getfield 23, 3) := by decide +kernel
theorem d_Model_at_40 : decode b_Model_at 40 = .ok (.iload_n 3, 1) := by decide +kernel
theorem d_Model_at_41 : decode b_Model_at 41 = .ok (.iaload, 1) := by decide +kernel
theorem d_Model_at_42 : decode b_Model_at 42 = .ok (.ireturn, 1) := by decide +kernel
theorem d_Model_can_0 : decode b_Model_can 0 = .ok (.lload_n 1, 1) := by decide +kernel
theorem d_Model_can_1 : decode b_Model_can 1 = .ok (.iload 5, 2) := by decide +kernel
theorem d_Model_can_3 : decode b_Model_can 3 = .ok (.invokestatic 78, 3) := by decide +kernel
theorem d_Model_can_6 : decode b_Model_can 6 = .ok (.ifCond .eq 36, 3) := by decide +kernel
theorem d_Model_can_9 : decode b_Model_can 9 = .ok (.lload_n 3, 1) := by decide +kernel
theorem d_Model_can_10 : decode b_Model_can 10 = .ok (.iload 5, 2) := by decide +kernel
theorem d_Model_can_12 : decode b_Model_can 12 = .ok (.invokestatic 78, 3) := by decide +kernel
theorem d_Model_can_15 : decode b_Model_can 15 = .ok (.ifCond .ne 27, 3) := by decide +kernel
theorem d_Model_can_18 : decode b_Model_can 18 = .ok (.aload_n 0, 1) := by decide +kernel
theorem d_Model_can_19 : decode b_Model_can 19 = .ok (.getfield 30, 3) := by decide +kernel
theorem d_Model_can_22 : decode b_Model_can 22 = .ok (.iload 5, 2) := by decide +kernel
theorem d_Model_can_24 : decode b_Model_can 24 = .ok (.laload, 1) := by decide +kernel
theorem d_Model_can_25 : decode b_Model_can 25 = .ok (.lload_n 1, 1) := by decide +kernel
theorem d_Model_can_26 : decode b_Model_can 26 = .ok (.land, 1) := by decide +kernel
theorem d_Model_can_27 : decode b_Model_can 27 = .ok (.lload_n 3, 1) := by decide +kernel
theorem d_Model_can_28 : decode b_Model_can 28 = .ok (.ldc2_w 108, 3) := by decide +kernel
theorem d_Model_can_31 : decode b_Model_can 31 = .ok (.lxor, 1) := by decide +kernel
theorem d_Model_can_32 : decode b_Model_can 32 = .ok (.land, 1) := by decide +kernel
theorem d_Model_can_33 : decode b_Model_can 33 = .ok (.lconst 0, 1) := by decide +kernel
theorem d_Model_can_34 : decode b_Model_can 34 = .ok (.lcmp, 1) := by decide +kernel
theorem d_Model_can_35 : decode b_Model_can 35 = .ok (.ifCond .ne 7, 3) := by decide +kernel
theorem d_Model_can_38 : decode b_Model_can 38 = .ok (.iconst 1, 1) := by decide +kernel
theorem d_Model_can_39 : decode b_Model_can 39 = .ok (.goto 4, 3) := by decide +kernel
theorem d_Model_can_42 : decode b_Model_can 42 = .ok (.iconst 0, 1) := by decide +kernel
theorem d_Model_can_43 : decode b_Model_can 43 = .ok (.ireturn, 1) := by decide +kernel
theorem d_Model_nextOf_0 : decode b_Model_nextOf 0 = .ok (.iconst (-1), 1) := by decide +kernel
theorem d_Model_nextOf_1 : decode b_Model_nextOf 1 = .ok (.istore 6, 2) := by decide +kernel
theorem d_Model_nextOf_3 : decode b_Model_nextOf 3 = .ok (.iconst 0, 1) := by decide +kernel
theorem d_Model_nextOf_4 : decode b_Model_nextOf 4 = .ok (.istore 7, 2) := by decide +kernel
theorem d_Model_nextOf_6 : decode b_Model_nextOf 6 = .ok (.iload 7, 2) := by decide +kernel
theorem d_Model_nextOf_8 : decode b_Model_nextOf 8 = .ok (.iconst 3, 1) := by decide +kernel
theorem d_Model_nextOf_9 : decode b_Model_nextOf 9 = .ok (.if_icmp .ge 87, 3) := by decide +kernel
theorem d_Model_nextOf_12 : decode b_Model_nextOf 12 = .ok (.iconst 0, 1) := by decide +kernel
theorem d_Model_nextOf_13 : decode b_Model_nextOf 13 = .ok (.istore 8, 2) := by decide +kernel
theorem d_Model_nextOf_15 : decode b_Model_nextOf 15 = .ok (.iload 8, 2) := by decide +kernel
theorem d_Model_nextOf_17 : decode b_Model_nextOf 17 = .ok (.aload_n 0, 1) := by decide +kernel
theorem d_Model_nextOf_18 : decode b_Model_nextOf 18 = .ok (.getfield 86, 3) := by decide +kernel
theorem d_Model_nextOf_21 : decode b_Model_nextOf 21 = .ok (.if_icmp .ge 69, 3) := by decide +kernel
theorem d_Model_nextOf_24 : decode b_Model_nextOf 24 = .ok (.aload_n 0, 1) := by decide +kernel
theorem d_Model_nextOf_25 : decode b_Model_nextOf 25 = .ok (.getfield 7, 3) := by decide +kernel
theorem d_Model_nextOf_28 : decode b_Model_nextOf 28 = .ok (.iload 8, 2) := by decide +kernel
theorem d_Model_nextOf_30 : decode b_Model_nextOf 30 = .ok (.iaload, 1) := by decide +kernel
theorem d_Model_nextOf_31 : decode b_Model_nextOf 31 = .ok (.iload 7, 2) := by decide +kernel
theorem d_Model_nextOf_33 : decode b_Model_nextOf 33 = .ok (.if_icmp .ne 51, 3) := by decide +kernel
theorem d_Model_nextOf_36 : decode b_Model_nextOf 36 = .ok (.aload_n 0, 1) := by decide +kernel
theorem d_Model_nextOf_37 : decode b_Model_nextOf 37 = .ok (.lload_n 1, 1) := by decide +kernel
theorem d_Model_nextOf_38 : decode b_Model_nextOf 38 = .ok (.lload_n 3, 1) := by decide +kernel
theorem d_Model_nextOf_39 : decode b_Model_nextOf 39 = .ok (.iload 8, 2) := by decide +kernel
theorem d_Model_nextOf_41 : decode b_Model_nextOf 41 = .ok (.invokevirtual 135, 3) := by decide +kernel
theorem d_Model_nextOf_44 : decode b_Model_nextOf 44 = .ok (.ifCond .eq 40, 3) := by decide +kernel
theorem d_Model_nextOf_47 : decode b_Model_nextOf 47 = .ok (.iload 5, 2) := by decide +kernel
theorem d_Model_nextOf_49 : decode b_Model_nextOf 49 = .ok (.ifCond .lt 21, 3) := by decide +kernel
theorem d_Model_nextOf_52 : decode b_Model_nextOf 52 = .ok (.aload_n 0, 1) := by decide +kernel
theorem d_Model_nextOf_53 : decode b_Model_nextOf 53 = .ok (.getfield 30, 3) := by decide +kernel
theorem d_Model_nextOf_56 : decode b_Model_nextOf 56 = .ok (.iload 8, 2) := by decide +kernel
theorem d_Model_nextOf_58 : decode b_Model_nextOf 58 = .ok (.laload, 1) := by decide +kernel
theorem d_Model_nextOf_59 : decode b_Model_nextOf 59 = .ok (.iload 5, 2) := by decide +kernel
theorem d_Model_nextOf_61 : decode b_Model_nextOf 61 = .ok (.invokestatic 78, 3) := by decide +kernel
theorem d_Model_nextOf_64 : decode b_Model_nextOf 64 = .ok (.ifCond .eq 6, 3) := by decide +kernel
theorem d_Model_nextOf_67 : decode b_Model_nextOf 67 = .ok (.iload 8, 2) := by decide +kernel
theorem d_Model_nextOf_69 : decode b_Model_nextOf 69 = .ok (.ireturn, 1) := by decide +kernel
theorem d_Model_nextOf_70 : decode b_Model_nextOf 70 = .ok (.iload 6, 2) := by decide +kernel
theorem d_Model_nextOf_72 : decode b_Model_nextOf 72 = .ok (.ifCond .ge 8, 3) := by decide +kernel
theorem d_Model_nextOf_75 : decode b_Model_nextOf 75 = .ok (.iload 8, 2) := by decide +kernel
theorem d_Model_nextOf_77 : decode b_Model_nextOf 77 = .ok (.goto 5, 3) := by decide +kernel
theorem d_Model_nextOf_80 : decode b_Model_nextOf 80 = .ok (.iload 6, 2) := by decide +kernel
theorem d_Model_nextOf_82 : decode b_Model_nextOf 82 = .ok (.istore 6, 2) := by decide +kernel
theorem d_Model_nextOf_84 : decode b_Model_nextOf 84 = .ok (.iinc 8 1, 3) := by decide +kernel
theorem d_Model_nextOf_87 : decode b_Model_nextOf 87 = .ok (.goto (-72), 3) := by decide +kernel
theorem d_Model_nextOf_90 : decode b_Model_nextOf 90 = .ok (.iinc 7 1, 3) := by decide +kernel
theorem d_Model_nextOf_93 : decode b_Model_nextOf 93 = .ok (.goto (-87), 3) := by decide +kernel
theorem d_Model_nextOf_96 : decode b_Model_nextOf 96 = .ok (.iload 6, 2) := by decide +kernel
theorem d_Model_nextOf_98 : decode b_Model_nextOf 98 = .ok (.ireturn, 1) := by decide +kernel
theorem d_Model_order_0 : decode b_Model_order 0 = .ok (.aload_n 0, 1) := by decide +kernel
theorem d_Model_order_1 : decode b_Model_order 1 = .ok (.iconst 0, 1) := by decide +kernel
theorem d_Model_order_2 : decode b_Model_order 2 = .ok (.putfield 139, 3) := by decide +kernel
theorem d_Model_order_5 : decode b_Model_order 5 = .ok (.lconst 0, 1) := by decide +kernel
theorem d_Model_order_6 : decode b_Model_order 6 = .ok (.lstore_n 3, 1) := by decide +kernel
theorem d_Model_order_7 : decode b_Model_order 7 = .ok (.iconst (-1), 1) := by decide +kernel
theorem d_Model_order_8 : decode b_Model_order 8 = .ok (.istore 5, 2) := by decide +kernel
theorem d_Model_order_10 : decode b_Model_order 10 = .ok (.iconst 0, 1) := by decide +kernel
theorem d_Model_order_11 : decode b_Model_order 11 = .ok (.istore 6, 2) := by decide +kernel
theorem d_Model_order_13 : decode b_Model_order 13 = .ok (.iload 6, 2) := by decide +kernel
theorem d_Model_order_15 : decode b_Model_order 15 = .ok (.bipush 40, 2) := by decide +kernel
theorem d_Model_order_17 : decode b_Model_order 17 = .ok (.if_icmp .ge 54, 3) := by decide +kernel
theorem d_Model_order_20 : decode b_Model_order 20 = .ok (.lload_n 3, 1) := by decide +kernel
theorem d_Model_order_21 : decode b_Model_order 21 = .ok (.lload_n 1, 1) := by decide +kernel
theorem d_Model_order_22 : decode b_Model_order 22 = .ok (.lcmp, 1) := by decide +kernel
theorem d_Model_order_23 : decode b_Model_order 23 = .ok (.ifCond .eq 48, 3) := by decide +kernel
theorem d_Model_order_26 : decode b_Model_order 26 = .ok (.aload_n 0, 1) := by decide +kernel
theorem d_Model_order_27 : decode b_Model_order 27 = .ok (.lload_n 1, 1) := by decide +kernel
theorem d_Model_order_28 : decode b_Model_order 28 = .ok (.lload_n 3, 1) := by decide +kernel
theorem d_Model_order_29 : decode b_Model_order 29 = .ok (.iload 5, 2) := by decide +kernel
theorem d_Model_order_31 : decode b_Model_order 31 = .ok (.invokevirtual 142, 3) := by decide +kernel
theorem d_Model_order_34 : decode b_Model_order 34 = .ok (.istore 5, 2) := by decide +kernel
theorem d_Model_order_36 : decode b_Model_order 36 = .ok (.lload_n 3, 1) := by decide +kernel
theorem d_Model_order_37 : decode b_Model_order 37 = .ok (.iload 5, 2) := by decide +kernel
theorem d_Model_order_39 : decode b_Model_order 39 = .ok (.invokestatic 90, 3) := by decide +kernel
theorem d_Model_order_42 : decode b_Model_order 42 = .ok (.lor, 1) := by decide +kernel
theorem d_Model_order_43 : decode b_Model_order 43 = .ok (.lstore_n 3, 1) := by decide +kernel
theorem d_Model_order_44 : decode b_Model_order 44 = .ok (.aload_n 0, 1) := by decide +kernel
theorem d_Model_order_45 : decode b_Model_order 45 = .ok (.getfield 72, 3) := by decide +kernel
theorem d_Model_order_48 : decode b_Model_order 48 = .ok (.aload_n 0, 1) := by decide +kernel
theorem d_Model_order_49 : decode b_Model_order 49 = .ok (.getfield 139, 3) := by decide +kernel
theorem d_Model_order_52 : decode b_Model_order 52 = .ok (.iload 5, 2) := by decide +kernel
theorem d_Model_order_54 : decode b_Model_order 54 = .ok (.iastore, 1) := by decide +kernel
theorem d_Model_order_55 : decode b_Model_order 55 = .ok (.aload_n 0, 1) := by decide +kernel
theorem d_Model_order_56 : decode b_Model_order 56 = .ok (.dup, 1) := by decide +kernel
theorem d_Model_order_57 : decode b_Model_order 57 = .ok (.getfield 139, 3) := by decide +kernel
theorem d_Model_order_60 : decode b_Model_order 60 = .ok (.iconst 1, 1) := by decide +kernel
theorem d_Model_order_61 : decode b_Model_order 61 = .ok (.iadd, 1) := by decide +kernel
theorem d_Model_order_62 : decode b_Model_order 62 = .ok (.putfield 139, 3) := by decide +kernel
theorem d_Model_order_65 : decode b_Model_order 65 = .ok (.iinc 6 1, 3) := by decide +kernel
theorem d_Model_order_68 : decode b_Model_order 68 = .ok (.goto (-55), 3) := by decide +kernel
theorem d_Model_order_71 : decode b_Model_order 71 = .ok (.return_, 1) := by decide +kernel
theorem d_Model_send_0 : decode b_Model_send 0 = .ok (.iload_n 1, 1) := by decide +kernel
theorem d_Model_send_1 : decode b_Model_send 1 = .ok (.iload_n 2, 1) := by decide +kernel
theorem d_Model_send_2 : decode b_Model_send 2 = .ok (.invokestatic 146, 3) := by decide +kernel
theorem d_Model_send_5 : decode b_Model_send 5 = .ok (.ifCond .eq 7, 3) := by decide +kernel
theorem d_Model_send_8 : decode b_Model_send 8 = .ok (.sipush (-1000), 3) := by decide +kernel
theorem d_Model_send_11 : decode b_Model_send 11 = .ok (.ireturn, 1) := by decide +kernel
theorem d_Model_send_12 : decode b_Model_send 12 = .ok (.aload_n 0, 1) := by decide +kernel
theorem d_Model_send_13 : decode b_Model_send 13 = .ok (.getfield 45, 3) := by decide +kernel
theorem d_Model_send_16 : decode b_Model_send 16 = .ok (.iload_n 1, 1) := by decide +kernel
theorem d_Model_send_17 : decode b_Model_send 17 = .ok (.laload, 1) := by decide +kernel
theorem d_Model_send_18 : decode b_Model_send 18 = .ok (.aload_n 0, 1) := by decide +kernel
theorem d_Model_send_19 : decode b_Model_send 19 = .ok (.getfield 48, 3) := by decide +kernel
theorem d_Model_send_22 : decode b_Model_send 22 = .ok (.iconst 3, 1) := by decide +kernel
theorem d_Model_send_23 : decode b_Model_send 23 = .ok (.iload_n 1, 1) := by decide +kernel
theorem d_Model_send_24 : decode b_Model_send 24 = .ok (.imul, 1) := by decide +kernel
theorem d_Model_send_25 : decode b_Model_send 25 = .ok (.iload_n 2, 1) := by decide +kernel
theorem d_Model_send_26 : decode b_Model_send 26 = .ok (.iadd, 1) := by decide +kernel
theorem d_Model_send_27 : decode b_Model_send 27 = .ok (.laload, 1) := by decide +kernel
theorem d_Model_send_28 : decode b_Model_send 28 = .ok (.ldc2_w 108, 3) := by decide +kernel
theorem d_Model_send_31 : decode b_Model_send 31 = .ok (.lxor, 1) := by decide +kernel
theorem d_Model_send_32 : decode b_Model_send 32 = .ok (.land, 1) := by decide +kernel
theorem d_Model_send_33 : decode b_Model_send 33 = .ok (.lstore_n 3, 1) := by decide +kernel
theorem d_Model_send_34 : decode b_Model_send 34 = .ok (.iconst 0, 1) := by decide +kernel
theorem d_Model_send_35 : decode b_Model_send 35 = .ok (.istore 5, 2) := by decide +kernel
theorem d_Model_send_37 : decode b_Model_send 37 = .ok (.iload 5, 2) := by decide +kernel
theorem d_Model_send_39 : decode b_Model_send 39 = .ok (.bipush 6, 2) := by decide +kernel
theorem d_Model_send_41 : decode b_Model_send 41 = .ok (.if_icmp .ge 21, 3) := by decide +kernel
theorem d_Model_send_44 : decode b_Model_send 44 = .ok (.aload_n 0, 1) := by decide +kernel
theorem d_Model_send_45 : decode b_Model_send 45 = .ok (.getfield 51, 3) := by decide +kernel
theorem d_Model_send_48 : decode b_Model_send 48 = .ok (.iload 5, 2) := by decide +kernel
theorem d_Model_send_50 : decode b_Model_send 50 = .ok (.laload, 1) := by decide +kernel
theorem d_Model_send_51 : decode b_Model_send 51 = .ok (.lconst 0, 1) := by decide +kernel
theorem d_Model_send_52 : decode b_Model_send 52 = .ok (.lcmp, 1) := by decide +kernel
theorem d_Model_send_53 : decode b_Model_send 53 = .ok (.ifCond .eq 9, 3) := by decide +kernel
theorem d_Model_send_56 : decode b_Model_send 56 = .ok (.iinc 5 1, 3) := by decide +kernel
theorem d_Model_send_59 : decode b_Model_send 59 = .ok (.goto (-22), 3) := by decide +kernel
theorem d_Model_send_62 : decode b_Model_send 62 = .ok (.iload 5, 2) := by decide +kernel
theorem d_Model_send_64 : decode b_Model_send 64 = .ok (.bipush 6, 2) := by decide +kernel
theorem d_Model_send_66 : decode b_Model_send 66 = .ok (.if_icmp .eq 9, 3) := by decide +kernel
theorem d_Model_send_69 : decode b_Model_send 69 = .ok (.lload_n 3, 1) := by decide +kernel
theorem d_Model_send_70 : decode b_Model_send 70 = .ok (.lconst 0, 1) := by decide +kernel
theorem d_Model_send_71 : decode b_Model_send 71 = .ok (.lcmp, 1) := by decide +kernel
theorem d_Model_send_72 : decode b_Model_send 72 = .ok (.ifCond .ne 7, 3) := by decide +kernel
theorem d_Model_send_75 : decode b_Model_send 75 = .ok (.sipush (-1000), 3) := by decide +kernel
theorem d_Model_send_78 : decode b_Model_send 78 = .ok (.ireturn, 1) := by decide +kernel
theorem d_Model_send_79 : decode b_Model_send 79 = .ok (.aload_n 0, 1) := by decide +kernel
theorem d_Model_send_80 : decode b_Model_send 80 = .ok (.getfield 51, 3) := by decide +kernel
theorem d_Model_send_83 : decode b_Model_send 83 = .ok (.iload 5, 2) := by decide +kernel
theorem d_Model_send_85 : decode b_Model_send 85 = .ok (.lload_n 3, 1) := by decide +kernel
theorem d_Model_send_86 : decode b_Model_send 86 = .ok (.lastore, 1) := by decide +kernel
theorem d_Model_send_87 : decode b_Model_send 87 = .ok (.aload_n 0, 1) := by decide +kernel
theorem d_Model_send_88 : decode b_Model_send 88 = .ok (.getfield 54, 3) := by decide +kernel
theorem d_Model_send_91 : decode b_Model_send 91 = .ok (.iload 5, 2) := by decide +kernel
theorem d_Model_send_93 : decode b_Model_send 93 = .ok (.iload_n 1, 1) := by decide +kernel
theorem d_Model_send_94 : decode b_Model_send 94 = .ok (.iastore, 1) := by decide +kernel
theorem d_Model_send_95 : decode b_Model_send 95 = .ok (.aload_n 0, 1) := by decide +kernel
theorem d_Model_send_96 : decode b_Model_send 96 = .ok (.getfield 57, 3) := by decide +kernel
theorem d_Model_send_99 : decode b_Model_send 99 = .ok (.iload 5, 2) := by decide +kernel
theorem d_Model_send_101 : decode b_Model_send 101 = .ok (.iload_n 2, 1) := by decide +kernel
theorem d_Model_send_102 : decode b_Model_send 102 = .ok (.iastore, 1) := by decide +kernel
theorem d_Model_send_103 : decode b_Model_send 103 = .ok (.aload_n 0, 1) := by decide +kernel
theorem d_Model_send_104 : decode b_Model_send 104 = .ok (.getfield 48, 3) := by decide +kernel
theorem d_Model_send_107 : decode b_Model_send 107 = .ok (.iconst 3, 1) := by decide +kernel
theorem d_Model_send_108 : decode b_Model_send 108 = .ok (.iload_n 1, 1) := by decide +kernel
theorem d_Model_send_109 : decode b_Model_send 109 = .ok (.imul, 1) := by decide +kernel
theorem d_Model_send_110 : decode b_Model_send 110 = .ok (.iload_n 2, 1) := by decide +kernel
theorem d_Model_send_111 : decode b_Model_send 111 = .ok (.iadd, 1) := by decide +kernel
theorem d_Model_send_112 : decode b_Model_send 112 = .ok (.dup2, 1) := by decide +kernel
theorem d_Model_send_113 : decode b_Model_send 113 = .ok (.laload, 1) := by decide +kernel
theorem d_Model_send_114 : decode b_Model_send 114 = .ok (.aload_n 0, 1) := by decide +kernel
theorem d_Model_send_115 : decode b_Model_send 115 = .ok (.getfield 45, 3) := by decide +kernel
theorem d_Model_send_118 : decode b_Model_send 118 = .ok (.iload_n 1, 1) := by decide +kernel
theorem d_Model_send_119 : decode b_Model_send 119 = .ok (.laload, 1) := by decide +kernel
theorem d_Model_send_120 : decode b_Model_send 120 = .ok (.lor, 1) := by decide +kernel
theorem d_Model_send_121 : decode b_Model_send 121 = .ok (.lastore, 1) := by decide +kernel
theorem d_Model_send_122 : decode b_Model_send 122 = .ok (.iload 5, 2) := by decide +kernel
theorem d_Model_send_124 : decode b_Model_send 124 = .ok (.ireturn, 1) := by decide +kernel
theorem d_Model_none_0 : decode b_Model_none 0 = .ok (.iload_n 1, 1) := by decide +kernel
theorem d_Model_none_1 : decode b_Model_none 1 = .ok (.ifCond .lt 19, 3) := by decide +kernel
theorem d_Model_none_4 : decode b_Model_none 4 = .ok (.iload_n 1, 1) := by decide +kernel
theorem d_Model_none_5 : decode b_Model_none 5 = .ok (.iconst 5, 1) := by decide +kernel
theorem d_Model_none_6 : decode b_Model_none 6 = .ok (.if_icmp .gt 14, 3) := by decide +kernel
theorem d_Model_none_9 : decode b_Model_none 9 = .ok (.aload_n 0, 1) := by decide +kernel
theorem d_Model_none_10 : decode b_Model_none 10 = .ok (.getfield 51, 3) := by decide +kernel
theorem d_Model_none_13 : decode b_Model_none 13 = .ok (.iload_n 1, 1) := by decide +kernel
theorem d_Model_none_14 : decode b_Model_none 14 = .ok (.laload, 1) := by decide +kernel
theorem d_Model_none_15 : decode b_Model_none 15 = .ok (.lconst 0, 1) := by decide +kernel
theorem d_Model_none_16 : decode b_Model_none 16 = .ok (.lcmp, 1) := by decide +kernel
theorem d_Model_none_17 : decode b_Model_none 17 = .ok (.ifCond .ne 7, 3) := by decide +kernel
theorem d_Model_none_20 : decode b_Model_none 20 = .ok (.iconst 1, 1) := by decide +kernel
theorem d_Model_none_21 : decode b_Model_none 21 = .ok (.goto 4, 3) := by decide +kernel
theorem d_Model_none_24 : decode b_Model_none 24 = .ok (.iconst 0, 1) := by decide +kernel
theorem d_Model_none_25 : decode b_Model_none 25 = .ok (.ireturn, 1) := by decide +kernel
theorem d_Model_discard_0 : decode b_Model_discard 0 = .ok (.aload_n 0, 1) := by decide +kernel
theorem d_Model_discard_1 : decode b_Model_discard 1 = .ok (.iload_n 1, 1) := by decide +kernel
theorem d_Model_discard_2 : decode b_Model_discard 2 = .ok (.invokevirtual 149, 3) := by decide +kernel
theorem d_Model_discard_5 : decode b_Model_discard 5 = .ok (.ifCond .eq 5, 3) := by decide +kernel
theorem d_Model_discard_8 : decode b_Model_discard 8 = .ok (.iconst 0, 1) := by decide +kernel
theorem d_Model_discard_9 : decode b_Model_discard 9 = .ok (.ireturn, 1) := by decide +kernel
theorem d_Model_discard_10 : decode b_Model_discard 10 = .ok (.aload_n 0, 1) := by decide +kernel
theorem d_Model_discard_11 : decode b_Model_discard 11 = .ok (.getfield 51, 3) := by decide +kernel
theorem d_Model_discard_14 : decode b_Model_discard 14 = .ok (.iload_n 1, 1) := by decide +kernel
theorem d_Model_discard_15 : decode b_Model_discard 15 = .ok (.lconst 0, 1) := by decide +kernel
theorem d_Model_discard_16 : decode b_Model_discard 16 = .ok (.lastore, 1) := by decide +kernel
theorem d_Model_discard_17 : decode b_Model_discard 17 = .ok (.iconst 1, 1) := by decide +kernel
theorem d_Model_discard_18 : decode b_Model_discard 18 = .ok (.ireturn, 1) := by decide +kernel
theorem d_Model_whole_0 : decode b_Model_whole 0 = .ok (.lload_n 1, 1) := by decide +kernel
theorem d_Model_whole_1 : decode b_Model_whole 1 = .ok (.lstore_n 3, 1) := by decide +kernel
theorem d_Model_whole_2 : decode b_Model_whole 2 = .ok (.iconst 0, 1) := by decide +kernel
theorem d_Model_whole_3 : decode b_Model_whole 3 = .ok (.istore 5, 2) := by decide +kernel
theorem d_Model_whole_5 : decode b_Model_whole 5 = .ok (.iload 5, 2) := by decide +kernel
theorem d_Model_whole_7 : decode b_Model_whole 7 = .ok (.aload_n 0, 1) := by decide +kernel
theorem d_Model_whole_8 : decode b_Model_whole 8 = .ok (.getfield 86, 3) := by decide +kernel
theorem d_Model_whole_11 : decode b_Model_whole 11 = .ok (.if_icmp .ge 32, 3) := by decide +kernel
theorem d_Model_whole_14 : decode b_Model_whole 14 = .ok (.lload_n 3, 1) := by decide +kernel
theorem d_Model_whole_15 : decode b_Model_whole 15 = .ok (.lload_n 1, 1) := by decide +kernel
theorem d_Model_whole_16 : decode b_Model_whole 16 = .ok (.iload 5, 2) := by decide +kernel
theorem d_Model_whole_18 : decode b_Model_whole 18 = .ok (.invokestatic 78, 3) := by decide +kernel
theorem d_Model_whole_21 : decode b_Model_whole 21 = .ok (.ifCond .eq 13, 3) := by decide +kernel
theorem d_Model_whole_24 : decode b_Model_whole 24 = .ok (.aload_n 0, 1) := by decide +kernel
theorem d_Model_whole_25 : decode b_Model_whole 25 = .ok (.getfield 26, 3) := by decide +kernel
theorem d_Model_whole_28 : decode b_Model_whole 28 = .ok (.iload 5, 2) := by decide +kernel
theorem d_Model_whole_30 : decode b_Model_whole 30 = .ok (.laload, 1) := by decide +kernel
theorem d_Model_whole_31 : decode b_Model_whole 31 = .ok (.goto 4, 3) := by decide +kernel
theorem d_Model_whole_34 : decode b_Model_whole 34 = .ok (.lconst 0, 1) := by decide +kernel
theorem d_Model_whole_35 : decode b_Model_whole 35 = .ok (.lor, 1) := by decide +kernel
theorem d_Model_whole_36 : decode b_Model_whole 36 = .ok (.lstore_n 3, 1) := by decide +kernel
theorem d_Model_whole_37 : decode b_Model_whole 37 = .ok (.iinc 5 1, 3) := by decide +kernel
theorem d_Model_whole_40 : decode b_Model_whole 40 = .ok (.goto (-35), 3) := by decide +kernel
theorem d_Model_whole_43 : decode b_Model_whole 43 = .ok (.lload_n 3, 1) := by decide +kernel
theorem d_Model_whole_44 : decode b_Model_whole 44 = .ok (.lreturn, 1) := by decide +kernel
theorem d_Model_believed_0 : decode b_Model_believed 0 = .ok (.iload_n 1, 1) := by decide +kernel
theorem d_Model_believed_1 : decode b_Model_believed 1 = .ok (.iload_n 2, 1) := by decide +kernel
theorem d_Model_believed_2 : decode b_Model_believed 2 = .ok (.invokestatic 146, 3) := by decide +kernel
theorem d_Model_believed_5 : decode b_Model_believed 5 = .ok (.ifCond .eq 9, 3) := by decide +kernel
theorem d_Model_believed_8 : decode b_Model_believed 8 = .ok (.sipush (-1000), 3) := by decide +kernel
theorem d_Model_believed_11 : decode b_Model_believed 11 = .ok (.goto 16, 3) := by decide +kernel
theorem d_Model_believed_14 : decode b_Model_believed 14 = .ok (.aload_n 0, 1) := by decide +kernel
theorem d_Model_believed_15 : decode b_Model_believed 15 = .ok (.getfield 48, 3) := by decide +kernel
theorem d_Model_believed_18 : decode b_Model_believed 18 = .ok (.iconst 3, 1) := by decide +kernel
theorem d_Model_believed_19 : decode b_Model_believed 19 = .ok (.iload_n 1, 1) := by decide +kernel
theorem d_Model_believed_20 : decode b_Model_believed 20 = .ok (.imul, 1) := by decide +kernel
theorem d_Model_believed_21 : decode b_Model_believed 21 = .ok (.iload_n 2, 1) := by decide +kernel
theorem d_Model_believed_22 : decode b_Model_believed 22 = .ok (.iadd, 1) := by decide +kernel
theorem d_Model_believed_23 : decode b_Model_believed 23 = .ok (.laload, 1) := by decide +kernel
theorem d_Model_believed_24 : decode b_Model_believed 24 = .ok (.invokestatic 159, 3) := by decide +kernel
theorem d_Model_believed_27 : decode b_Model_believed 27 = .ok (.ireturn, 1) := by decide +kernel
theorem d_Model_hear_0 : decode b_Model_hear 0 = .ok (.iload_n 1, 1) := by decide +kernel
theorem d_Model_hear_1 : decode b_Model_hear 1 = .ok (.iload_n 2, 1) := by decide +kernel
theorem d_Model_hear_2 : decode b_Model_hear 2 = .ok (.invokestatic 146, 3) := by decide +kernel
theorem d_Model_hear_5 : decode b_Model_hear 5 = .ok (.ifCond .eq 7, 3) := by decide +kernel
theorem d_Model_hear_8 : decode b_Model_hear 8 = .ok (.sipush (-1000), 3) := by decide +kernel
theorem d_Model_hear_11 : decode b_Model_hear 11 = .ok (.ireturn, 1) := by decide +kernel
theorem d_Model_hear_12 : decode b_Model_hear 12 = .ok (.aload_n 0, 1) := by decide +kernel
theorem d_Model_hear_13 : decode b_Model_hear 13 = .ok (.aload_n 0, 1) := by decide +kernel
theorem d_Model_hear_14 : decode b_Model_hear 14 = .ok (.getfield 45, 3) := by decide +kernel
theorem d_Model_hear_17 : decode b_Model_hear 17 = .ok (.iload_n 2, 1) := by decide +kernel
theorem d_Model_hear_18 : decode b_Model_hear 18 = .ok (.laload, 1) := by decide +kernel
theorem d_Model_hear_19 : decode b_Model_hear 19 = .ok (.invokevirtual 110, 3) := by decide +kernel
theorem d_Model_hear_22 : decode b_Model_hear 22 = .ok (.aload_n 0, 1) := by decide +kernel
theorem d_Model_hear_23 : decode b_Model_hear 23 = .ok (.getfield 45, 3) := by decide +kernel
theorem d_Model_hear_26 : decode b_Model_hear 26 = .ok (.iload_n 1, 1) := by decide +kernel
theorem d_Model_hear_27 : decode b_Model_hear 27 = .ok (.laload, 1) := by decide +kernel
theorem d_Model_hear_28 : decode b_Model_hear 28 = .ok (.land, 1) := by decide +kernel
theorem d_Model_hear_29 : decode b_Model_hear 29 = .ok (.lstore_n 3, 1) := by decide +kernel
theorem d_Model_hear_30 : decode b_Model_hear 30 = .ok (.aload_n 0, 1) := by decide +kernel
theorem d_Model_hear_31 : decode b_Model_hear 31 = .ok (.getfield 48, 3) := by decide +kernel
theorem d_Model_hear_34 : decode b_Model_hear 34 = .ok (.iconst 3, 1) := by decide +kernel
theorem d_Model_hear_35 : decode b_Model_hear 35 = .ok (.iload_n 1, 1) := by decide +kernel
theorem d_Model_hear_36 : decode b_Model_hear 36 = .ok (.imul, 1) := by decide +kernel
theorem d_Model_hear_37 : decode b_Model_hear 37 = .ok (.iload_n 2, 1) := by decide +kernel
theorem d_Model_hear_38 : decode b_Model_hear 38 = .ok (.iadd, 1) := by decide +kernel
theorem d_Model_hear_39 : decode b_Model_hear 39 = .ok (.aload_n 0, 1) := by decide +kernel
theorem d_Model_hear_40 : decode b_Model_hear 40 = .ok (.lload_n 3, 1) := by decide +kernel
theorem d_Model_hear_41 : decode b_Model_hear 41 = .ok (.invokevirtual 152, 3) := by decide +kernel
theorem d_Model_hear_44 : decode b_Model_hear 44 = .ok (.lastore, 1) := by decide +kernel
theorem d_Model_hear_45 : decode b_Model_hear 45 = .ok (.aload_n 0, 1) := by decide +kernel
theorem d_Model_hear_46 : decode b_Model_hear 46 = .ok (.iload_n 1, 1) := by decide +kernel
