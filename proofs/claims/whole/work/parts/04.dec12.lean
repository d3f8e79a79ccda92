theorem d_Model_write_67 : decode b_Model_write 67 = .ok (.istore_n 2, 1) := by decide +kernel
theorem d_Model_write_68 : decode b_Model_write 68 = .ok (.iinc 3 1, 3) := by decide +kernel
theorem d_Model_write_71 : decode b_Model_write 71 = .ok (.goto (-40), 3) := by decide +kernel
theorem d_Model_write_74 : decode b_Model_write 74 = .ok (.iconst 0, 1) := by decide +kernel
theorem d_Model_write_75 : decode b_Model_write 75 = .ok (.istore_n 2, 1) := by decide +kernel
theorem d_Model_write_76 : decode b_Model_write 76 = .ok (.iconst 0, 1) := by decide +kernel
theorem d_Model_write_77 : decode b_Model_write 77 = .ok (.istore_n 3, 1) := by decide +kernel
theorem d_Model_write_78 : decode b_Model_write 78 = .ok (.iload_n 3, 1) := by decide +kernel
theorem d_Model_write_79 : decode b_Model_write 79 = .ok (.aload_n 0, 1) := by decide +kernel
theorem d_Model_write_80 : decode b_Model_write 80 = .ok (.getfield 139, 3) := by decide +kernel
theorem d_Model_write_83 : decode b_Model_write 83 = .ok (.if_icmp .ge 52, 3) := by decide +kernel
theorem d_Model_write_86 : decode b_Model_write 86 = .ok (.aload_n 0, 1) := by decide +kernel
theorem d_Model_write_87 : decode b_Model_write 87 = .ok (.getfield 16, 3) := by decide +kernel
theorem d_Model_write_90 : decode b_Model_write 90 = .ok (.aload_n 0, 1) := by decide +kernel
theorem d_Model_write_91 : decode b_Model_write 91 = .ok (.getfield 72, 3) := by decide +kernel
theorem d_Model_write_94 : decode b_Model_write 94 = .ok (.iload_n 3, 1) := by decide +kernel
theorem d_Model_write_95 : decode b_Model_write 95 = .ok (.iaload, 1) := by decide +kernel
theorem d_Model_write_96 : decode b_Model_write 96 = .ok (.baload, 1) := by decide +kernel
theorem d_Model_write_97 : decode b_Model_write 97 = .ok (.ifCond .eq 32, 3) := by decide +kernel
theorem d_Model_write_100 : decode b_Model_write 100 = .ok (.aload_n 0, 1) := by decide +kernel
theorem d_Model_write_101 : decode b_Model_write 101 = .ok (.aload_n 0, 1) := by decide +kernel
theorem d_Model_write_102 : decode b_Model_write 102 = .ok (.getfield 23, 3) := by decide +kernel
theorem d_Model_write_105 : decode b_Model_write 105 = .ok (.aload_n 0, 1) := by decide +kernel
theorem d_Model_write_106 : decode b_Model_write 106 = .ok (.getfield 72, 3) := by decide +kernel
theorem d_Model_write_109 : decode b_Model_write 109 = .ok (.iload_n 3, 1) := by decide +kernel
theorem d_Model_write_110 : decode b_Model_write 110 = .ok (.iaload, 1) := by decide +kernel
theorem d_Model_write_111 : decode b_Model_write 111 = .ok (.iaload, 1) := by decide +kernel
theorem d_Model_write_112 : decode b_Model_write 112 = .ok (.iload_n 2, 1) := by decide +kernel
theorem d_Model_write_113 : decode b_Model_write 113 = .ok (.isub, 1) := by decide +kernel
theorem d_Model_write_114 : decode b_Model_write 114 = .ok (.invokevirtual 190, 3) := by decide +kernel
theorem d_Model_write_117 : decode b_Model_write 117 = .ok (.aload_n 0, 1) := by decide +kernel
theorem d_Model_write_118 : decode b_Model_write 118 = .ok (.getfield 23, 3) := by decide +kernel
theorem d_Model_write_121 : decode b_Model_write 121 = .ok (.aload_n 0, 1) := by decide +kernel
theorem d_Model_write_122 : decode b_Model_write 122 = .ok (.getfield 72, 3) := by decide +kernel
theorem d_Model_write_125 : decode b_Model_write 125 = .ok (.iload_n 3, 1) := by decide +kernel
theorem d_Model_write_126 : decode b_Model_write 126 = .ok (.iaload, 1) := by decide +kernel
theorem d_Model_write_127 : decode b_Model_write 127 = .ok (.iaload, 1) := by decide +kernel
theorem d_Model_write_128 : decode b_Model_write 128 = .ok (.istore_n 2, 1) := by decide +kernel
theorem d_Model_write_129 : decode b_Model_write 129 = .ok (.iinc 3 1, 3) := by decide +kernel
theorem d_Model_write_132 : decode b_Model_write 132 = .ok (.goto (-54), 3) := by decide +kernel
theorem d_Model_write_135 : decode b_Model_write 135 = .ok (.iconst 0, 1) := by decide +kernel
theorem d_Model_write_136 : decode b_Model_write 136 = .ok (.istore_n 3, 1) := by decide +kernel
theorem d_Model_write_137 : decode b_Model_write 137 = .ok (.iload_n 3, 1) := by decide +kernel
theorem d_Model_write_138 : decode b_Model_write 138 = .ok (.aload_n 0, 1) := by decide +kernel
theorem d_Model_write_139 : decode b_Model_write 139 = .ok (.getfield 139, 3) := by decide +kernel
theorem d_Model_write_142 : decode b_Model_write 142 = .ok (.if_icmp .ge 14, 3) := by decide +kernel
theorem d_Model_write_145 : decode b_Model_write 145 = .ok (.aload_n 0, 1) := by decide +kernel
theorem d_Model_write_146 : decode b_Model_write 146 = .ok (.iload_n 3, 1) := by decide +kernel
theorem d_Model_write_147 : decode b_Model_write 147 = .ok (.invokevirtual 193, 3) := by decide +kernel
theorem d_Model_write_150 : decode b_Model_write 150 = .ok (.iinc 3 1, 3) := by decide +kernel
theorem d_Model_write_153 : decode b_Model_write 153 = .ok (.goto (-16), 3) := by decide +kernel
theorem d_Model_write_156 : decode b_Model_write 156 = .ok (.return_, 1) := by decide +kernel
theorem d_Model_octets_0 : decode b_Model_octets 0 = .ok (.aload_n 0, 1) := by decide +kernel
theorem d_Model_octets_1 : decode b_Model_octets 1 = .ok (.iload_n 1, 1) := by decide +kernel
theorem d_Model_octets_2 : decode b_Model_octets 2 = .ok (.invokevirtual 149, 3) := by decide +kernel
theorem d_Model_octets_5 : decode b_Model_octets 5 = .ok (.ifCond .eq 7, 3) := by decide +kernel
theorem d_Model_octets_8 : decode b_Model_octets 8 = .ok (.sipush (-1000), 3) := by decide +kernel
theorem d_Model_octets_11 : decode b_Model_octets 11 = .ok (.ireturn, 1) := by decide +kernel
theorem d_Model_octets_12 : decode b_Model_octets 12 = .ok (.aload_n 0, 1) := by decide +kernel
theorem d_Model_octets_13 : decode b_Model_octets 13 = .ok (.iload_n 1, 1) := by decide +kernel
theorem d_Model_octets_14 : decode b_Model_octets 14 = .ok (.invokevirtual 196, 3) := by decide +kernel
theorem d_Model_octets_17 : decode b_Model_octets 17 = .ok (.aload_n 0, 1) := by decide +kernel
theorem d_Model_octets_18 : decode b_Model_octets 18 = .ok (.getfield 181, 3) := by decide +kernel
theorem d_Model_octets_21 : decode b_Model_octets 21 = .ok (.ireturn, 1) := by decide +kernel
theorem d_Model_octet_0 : decode b_Model_octet 0 = .ok (.aload_n 0, 1) := by decide +kernel
theorem d_Model_octet_1 : decode b_Model_octet 1 = .ok (.iload_n 1, 1) := by decide +kernel
theorem d_Model_octet_2 : decode b_Model_octet 2 = .ok (.invokevirtual 149, 3) := by decide +kernel
theorem d_Model_octet_5 : decode b_Model_octet 5 = .ok (.ifCond .eq 7, 3) := by decide +kernel
theorem d_Model_octet_8 : decode b_Model_octet 8 = .ok (.sipush (-1000), 3) := by decide +kernel
theorem d_Model_octet_11 : decode b_Model_octet 11 = .ok (.ireturn, 1) := by decide +kernel
theorem d_Model_octet_12 : decode b_Model_octet 12 = .ok (.aload_n 0, 1) := by decide +kernel
theorem d_Model_octet_13 : decode b_Model_octet 13 = .ok (.iload_n 1, 1) := by decide +kernel
theorem d_Model_octet_14 : decode b_Model_octet 14 = .ok (.invokevirtual 196, 3) := by decide +kernel
theorem d_Model_octet_17 : decode b_Model_octet 17 = .ok (.iload_n 2, 1) := by decide +kernel
theorem d_Model_octet_18 : decode b_Model_octet 18 = .ok (.ifCond .lt 11, 3) := by decide +kernel
theorem d_Model_octet_21 : decode b_Model_octet 21 = .ok (.iload_n 2, 1) := by decide +kernel
theorem d_Model_octet_22 : decode b_Model_octet 22 = .ok (.aload_n 0, 1) := by decide +kernel
theorem d_Model_octet_23 : decode b_Model_octet 23 = .ok (.getfield 181, 3) := by decide +kernel
theorem d_Model_octet_26 : decode b_Model_octet 26 = .ok (.if_icmp .lt 9, 3) := by decide +kernel
theorem d_Model_octet_29 : decode b_Model_octet 29 = .ok (.sipush (-1000), 3) := by decide +kernel
theorem d_Model_octet_32 : decode b_Model_octet 32 = .ok (.goto 9, 3) := by decide +kernel
theorem d_Model_octet_35 : decode b_Model_octet 35 = .ok (.aload_n 0, 1) := by decide +kernel
theorem d_Model_octet_36 : decode b_Model_octet 36 = .ok (.getfield 75, 3) := by decide +kernel
theorem d_Model_octet_39 : decode b_Model_octet 39 = .ok (.iload_n 2, 1) := by decide +kernel
theorem d_Model_octet_40 : decode b_Model_octet 40 = .ok (.iaload, 1) := by decide +kernel
theorem d_Model_octet_41 : decode b_Model_octet 41 = .ok (.ireturn, 1) := by decide +kernel
theorem d_Model_events_0 : decode b_Model_events 0 = .ok (.iload_n 1, 1) := by decide +kernel
theorem d_Model_events_1 : decode b_Model_events 1 = .ok (.invokestatic 82, 3) := by decide +kernel
theorem d_Model_events_4 : decode b_Model_events 4 = .ok (.ifCond .eq 9, 3) := by decide +kernel
theorem d_Model_events_7 : decode b_Model_events 7 = .ok (.sipush (-1000), 3) := by decide +kernel
theorem d_Model_events_10 : decode b_Model_events 10 = .ok (.goto 12, 3) := by decide +kernel
theorem d_Model_events_13 : decode b_Model_events 13 = .ok (.aload_n 0, 1) := by decide +kernel
theorem d_Model_events_14 : decode b_Model_events 14 = .ok (.getfield 45, 3) := by decide +kernel
theorem d_Model_events_17 : decode b_Model_events 17 = .ok (.iload_n 1, 1) := by decide +kernel
theorem d_Model_events_18 : decode b_Model_events 18 = .ok (.laload, 1) := by decide +kernel
theorem d_Model_events_19 : decode b_Model_events 19 = .ok (.invokestatic 159, 3) := by decide +kernel
theorem d_Model_events_22 : decode b_Model_events 22 = .ok (.ireturn, 1) := by decide +kernel
theorem d_Model_heads_0 : decode b_Model_heads 0 = .ok (.iload_n 1, 1) := by decide +kernel
theorem d_Model_heads_1 : decode b_Model_heads 1 = .ok (.invokestatic 82, 3) := by decide +kernel
theorem d_Model_heads_4 : decode b_Model_heads 4 = .ok (.ifCond .eq 9, 3) := by decide +kernel
theorem d_Model_heads_7 : decode b_Model_heads 7 = .ok (.sipush (-1000), 3) := by decide +kernel
theorem d_Model_heads_10 : decode b_Model_heads 10 = .ok (.goto 16, 3) := by decide +kernel
theorem d_Model_heads_13 : decode b_Model_heads 13 = .ok (.aload_n 0, 1) := by decide +kernel
theorem d_Model_heads_14 : decode b_Model_heads 14 = .ok (.aload_n 0, 1) := by decide +kernel
theorem d_Model_heads_15 : decode b_Model_heads 15 = .ok (.getfield 45, 3) := by decide +kernel
theorem d_Model_heads_18 : decode b_Model_heads 18 = .ok (.iload_n 1, 1) := by decide +kernel
theorem d_Model_heads_19 : decode b_Model_heads 19 = .ok (.laload, 1) := by decide +kernel
theorem d_Model_heads_20 : decode b_Model_heads 20 = .ok (.invokevirtual 110, 3) := by decide +kernel
theorem d_Model_heads_23 : decode b_Model_heads 23 = .ok (.invokestatic 159, 3) := by decide +kernel
theorem d_Model_heads_26 : decode b_Model_heads 26 = .ok (.ireturn, 1) := by decide +kernel
theorem d_Model_head_0 : decode b_Model_head 0 = .ok (.iload_n 1, 1) := by decide +kernel
theorem d_Model_head_1 : decode b_Model_head 1 = .ok (.invokestatic 82, 3) := by decide +kernel
theorem d_Model_head_4 : decode b_Model_head 4 = .ok (.ifCond .ne 7, 3) := by decide +kernel
theorem d_Model_head_7 : decode b_Model_head 7 = .ok (.iload_n 2, 1) := by decide +kernel
theorem d_Model_head_8 : decode b_Model_head 8 = .ok (.ifCond .ge 7, 3) := by decide +kernel
theorem d_Model_head_11 : decode b_Model_head 11 = .ok (.sipush (-1000), 3) := by decide +kernel
theorem d_Model_head_14 : decode b_Model_head 14 = .ok (.ireturn, 1) := by decide +kernel
theorem d_Model_head_15 : decode b_Model_head 15 = .ok (.aload_n 0, 1) := by decide +kernel
theorem d_Model_head_16 : decode b_Model_head 16 = .ok (.aload_n 0, 1) := by decide +kernel
theorem d_Model_head_17 : decode b_Model_head 17 = .ok (.getfield 45, 3) := by decide +kernel
theorem d_Model_head_20 : decode b_Model_head 20 = .ok (.iload_n 1, 1) := by decide +kernel
theorem d_Model_head_21 : decode b_Model_head 21 = .ok (.laload, 1) := by decide +kernel
theorem d_Model_head_22 : decode b_Model_head 22 = .ok (.invokevirtual 110, 3) := by decide +kernel
theorem d_Model_head_25 : decode b_Model_head 25 = .ok (.lstore_n 3, 1) := by decide +kernel
theorem d_Model_head_26 : decode b_Model_head 26 = .ok (.iconst 0, 1) := by decide +kernel
theorem d_Model_head_27 : decode b_Model_head 27 = .ok (.istore 5, 2) := by decide +kernel
theorem d_Model_head_29 : decode b_Model_head 29 = .ok (.iconst 0, 1) := by decide +kernel
theorem d_Model_head_30 : decode b_Model_head 30 = .ok (.istore 6, 2) := by decide +kernel
theorem d_Model_head_32 : decode b_Model_head 32 = .ok (.iload 6, 2) := by decide +kernel
theorem d_Model_head_34 : decode b_Model_head 34 = .ok (.iconst 3, 1) := by decide +kernel
theorem d_Model_head_35 : decode b_Model_head 35 = .ok (.if_icmp .ge 70, 3) := by decide +kernel
theorem d_Model_head_38 : decode b_Model_head 38 = .ok (.iconst 0, 1) := by decide +kernel
theorem d_Model_head_39 : decode b_Model_head 39 = .ok (.istore 7, 2) := by decide +kernel
theorem d_Model_head_41 : decode b_Model_head 41 = .ok (.iload 7, 2) := by decide +kernel
theorem d_Model_head_43 : decode b_Model_head 43 = .ok (.aload_n 0, 1) := by decide +kernel
theorem d_Model_head_44 : decode b_Model_head 44 = .ok (.getfield 86, 3) := by decide +kernel
theorem d_Model_head_47 : decode b_Model_head 47 = .ok (.if_icmp .ge 52, 3) := by decide +kernel
theorem d_Model_head_50 : decode b_Model_head 50 = .ok (.aload_n 0, 1) := by decide +kernel
theorem d_Model_head_51 : decode b_Model_head 51 = .ok (.getfield 7, 3) := by decide +kernel
theorem d_Model_head_54 : decode b_Model_head 54 = .ok (.iload 7, 2) := by decide +kernel
theorem d_Model_head_56 : decode b_Model_head 56 = .ok (.iaload, 1) := by decide +kernel
theorem d_Model_head_57 : decode b_Model_head 57 = .ok (.iload 6, 2) := by decide +kernel
theorem d_Model_head_59 : decode b_Model_head 59 = .ok (.if_icmp .ne 34, 3) := by decide +kernel
theorem d_Model_head_62 : decode b_Model_head 62 = .ok (.lload_n 3, 1) := by decide +kernel
theorem d_Model_head_63 : decode b_Model_head 63 = .ok (.iload 7, 2) := by decide +kernel
theorem d_Model_head_65 : decode b_Model_head 65 = .ok (.invokestatic 78, 3) := by decide +kernel
theorem d_Model_head_68 : decode b_Model_head 68 = .ok (.ifCond .eq 25, 3) := by decide +kernel
theorem d_Model_head_71 : decode b_Model_head 71 = .ok (.iload 5, 2) := by decide +kernel
theorem d_Model_head_73 : decode b_Model_head 73 = .ok (.iload_n 2, 1) := by decide +kernel
theorem d_Model_head_74 : decode b_Model_head 74 = .ok (.if_icmp .ne 16, 3) := by decide +kernel
theorem d_Model_head_77 : decode b_Model_head 77 = .ok (.iload 6, 2) := by decide +kernel
theorem d_Model_head_79 : decode b_Model_head 79 = .ok (.iconst 3, 1) := by decide +kernel
theorem d_Model_head_80 : decode b_Model_head 80 = .ok (.aload_n 0, 1) := by decide +kernel
theorem d_Model_head_81 : decode b_Model_head 81 = .ok (.getfield 13, 3) := by decide +kernel
theorem d_Model_head_84 : decode b_Model_head 84 = .ok (.iload 7, 2) := by decide +kernel
theorem d_Model_head_86 : decode b_Model_head 86 = .ok (.iaload, 1) := by decide +kernel
theorem d_Model_head_87 : decode b_Model_head 87 = .ok (.imul, 1) := by decide +kernel
theorem d_Model_head_88 : decode b_Model_head 88 = .ok (.iadd, 1) := by decide +kernel
theorem d_Model_head_89 : decode b_Model_head 89 = .ok (.ireturn, 1) := by decide +kernel
theorem d_Model_head_90 : decode b_Model_head 90 = .ok (.iinc 5 1, 3) := by decide +kernel
theorem d_Model_head_93 : decode b_Model_head 93 = .ok (.iinc 7 1, 3) := by decide +kernel
theorem d_Model_head_96 : decode b_Model_head 96 = .ok (.goto (-55), 3) := by decide +kernel
theorem d_Model_head_99 : decode b_Model_head 99 = .ok (.iinc 6 1, 3) := by decide +kernel
theorem d_Model_head_102 : decode b_Model_head 102 = .ok (.goto (-70), 3) := by decide +kernel
theorem d_Model_head_105 : decode b_Model_head 105 = .ok (.sipush (-1000), 3) := by decide +kernel
theorem d_Model_head_108 : decode b_Model_head 108 = .ok (.ireturn, 1) := by decide +kernel
theorem d_Model_find_0 : decode b_Model_find 0 = .ok (.iconst 0, 1) := by decide +kernel
theorem d_Model_find_1 : decode b_Model_find 1 = .ok (.istore_n 3, 1) := by decide +kernel
theorem d_Model_find_2 : decode b_Model_find 2 = .ok (.iload_n 3, 1) := by decide +kernel
theorem d_Model_find_3 : decode b_Model_find 3 = .ok (.aload_n 0, 1) := by decide +kernel
theorem d_Model_find_4 : decode b_Model_find 4 = .ok (.getfield 86, 3) := by decide +kernel
theorem d_Model_find_7 : decode b_Model_find 7 = .ok (.if_icmp .ge 31, 3) := by decide +kernel
theorem d_Model_find_10 : decode b_Model_find 10 = .ok (.aload_n 0, 1) := by decide +kernel
theorem d_Model_find_11 : decode b_Model_find 11 = .ok (.getfield 7, 3) := by decide +kernel
theorem d_Model_find_14 : decode b_Model_find 14 = .ok (.iload_n 3, 1) := by decide +kernel
theorem d_Model_find_15 : decode b_Model_find 15 = .ok (.iaload, 1) := by decide +kernel
theorem d_Model_find_16 : decode b_Model_find 16 = .ok (.iload_n 1, 1) := by decide +kernel
theorem d_Model_find_17 : decode b_Model_find 17 = .ok (.if_icmp .ne 15, 3) := by decide +kernel
theorem d_Model_find_20 : decode b_Model_find 20 = .ok (.aload_n 0, 1) := by decide +kernel
theorem d_Model_find_21 : decode b_Model_find 21 = .ok (.getfield 13, 3) := by decide +kernel
theorem d_Model_find_24 : decode b_Model_find 24 = .ok (.iload_n 3, 1) := by decide +kernel
theorem d_Model_find_25 : decode b_Model_find 25 = .ok (.iaload, 1) := by decide +kernel
theorem d_Model_find_26 : decode b_Model_find 26 = .ok (.iload_n 2, 1) := by decide +kernel
theorem d_Model_find_27 : decode b_Model_find 27 = .ok (.if_icmp .ne 5, 3) := by decide +kernel
theorem d_Model_find_30 : decode b_Model_find 30 = .ok (.iload_n 3, 1) := by decide +kernel
theorem d_Model_find_31 : decode b_Model_find 31 = .ok (.ireturn, 1) := by decide +kernel
theorem d_Model_find_32 : decode b_Model_find 32 = .ok (.iinc 3 1, 3) := by decide +kernel
theorem d_Model_find_35 : decode b_Model_find 35 = .ok (.goto (-33), 3) := by decide +kernel
theorem d_Model_find_38 : decode b_Model_find 38 = .ok (.iconst (-1), 1) := by decide +kernel
theorem d_Model_find_39 : decode b_Model_find 39 = .ok (.ireturn, 1) := by decide +kernel
theorem d_Model_ancestor_0 : decode b_Model_ancestor 0 = .ok (.aload_n 0, 1) := by decide +kernel
theorem d_Model_ancestor_1 : decode b_Model_ancestor 1 = .ok (.iload_n 1, 1) := by decide +kernel
theorem d_Model_ancestor_2 : decode b_Model_ancestor 2 = .ok (.iload_n 2, 1) := by decide +kernel
theorem d_Model_ancestor_3 : decode b_Model_ancestor 3 = .ok (.invokevirtual 199, 3) := by decide +kernel
theorem d_Model_ancestor_6 : decode b_Model_ancestor 6 = .ok (.istore 5, 2) := by decide +kernel
theorem d_Model_ancestor_8 : decode b_Model_ancestor 8 = .ok (.aload_n 0, 1) := by decide +kernel
theorem d_Model_ancestor_9 : decode b_Model_ancestor 9 = .ok (.iload_n 3, 1) := by decide +kernel
theorem d_Model_ancestor_10 : decode b_Model_ancestor 10 = .ok (.iload 4, 2) := by decide +kernel
theorem d_Model_ancestor_12 : decode b_Model_ancestor 12 = .ok (.invokevirtual 199, 3) := by decide +kernel
theorem d_Model_ancestor_15 : decode b_Model_ancestor 15 = .ok (.istore 6, 2) := by decide +kernel
theorem d_Model_ancestor_17 : decode b_Model_ancestor 17 = .ok (.iload 5, 2) := by decide +kernel
theorem d_Model_ancestor_19 : decode b_Model_ancestor 19 = .ok (.ifCond .lt 8, 3) := by decide +kernel
theorem d_Model_ancestor_22 : decode b_Model_ancestor 22 = .ok (.iload 6, 2) := by decide +kernel
theorem d_Model_ancestor_24 : decode b_Model_ancestor 24 = .ok (.ifCond .ge 7, 3) := by decide +kernel
theorem d_Model_ancestor_27 : decode b_Model_ancestor 27 = .ok (.sipush (-1000), 3) := by decide +kernel
theorem d_Model_ancestor_30 : decode b_Model_ancestor 30 = .ok (.ireturn, 1) := by decide +kernel
theorem d_Model_ancestor_31 : decode b_Model_ancestor 31 = .ok (.aload_n 0, 1) := by decide +kernel
theorem d_Model_ancestor_32 : decode b_Model_ancestor 32 = .ok (.getfield 26, 3) := by decide +kernel
theorem d_Model_ancestor_35 : decode b_Model_ancestor 35 = .ok (.iload 6, 2) := by decide +kernel
theorem d_Model_ancestor_37 : decode b_Model_ancestor 37 = .ok (.laload, 1) := by decide +kernel
theorem d_Model_ancestor_38 : decode b_Model_ancestor 38 = .ok (.iload 5, 2) := by decide +kernel
theorem d_Model_ancestor_40 : decode b_Model_ancestor 40 = .ok (.invokestatic 78, 3) := by decide +kernel
theorem d_Model_ancestor_43 : decode b_Model_ancestor 43 = .ok (.ifCond .eq 7, 3) := by decide +kernel
theorem d_Model_ancestor_46 : decode b_Model_ancestor 46 = .ok (.iconst 1, 1) := by decide +kernel
theorem d_Model_ancestor_47 : decode b_Model_ancestor 47 = .ok (.goto 4, 3) := by decide +kernel
theorem d_Model_ancestor_50 : decode b_Model_ancestor 50 = .ok (.iconst 0, 1) := by decide +kernel
theorem d_Model_ancestor_51 : decode b_Model_ancestor 51 = .ok (.ireturn, 1) := by decide +kernel
theorem d_Model_critical_0 : decode b_Model_critical 0 = .ok (.iload_n 1, 1) := by decide +kernel
theorem d_Model_critical_1 : decode b_Model_critical 1 = .ok (.invokestatic 82, 3) := by decide +kernel
theorem d_Model_critical_4 : decode b_Model_critical 4 = .ok (.ifCond .eq 7, 3) := by decide +kernel
theorem d_Model_critical_7 : decode b_Model_critical 7 = .ok (.sipush (-1000), 3) := by decide +kernel
theorem d_Model_critical_10 : decode b_Model_critical 10 = .ok (.ireturn, 1) := by decide +kernel
theorem d_Model_critical_11 : decode b_Model_critical 11 = .ok (.aload_n 0, 1) := by decide +kernel
theorem d_Model_critical_12 : decode b_Model_critical 12 = .ok (.aload_n 0, 1) := by decide +kernel
theorem d_Model_critical_13 : decode b_Model_critical 13 = .ok (.getfield 45, 3) := by decide +kernel
theorem d_Model_critical_16 : decode b_Model_critical 16 = .ok (.iload_n 1, 1) := by decide +kernel
theorem d_Model_critical_17 : decode b_Model_critical 17 = .ok (.laload, 1) := by decide +kernel
theorem d_Model_critical_18 : decode b_Model_critical 18 = .ok (.aload_n 0, 1) := by decide +kernel
theorem d_Model_critical_19 : decode b_Model_critical 19 = .ok (.getfield 45, 3) := by decide +kernel
theorem d_Model_critical_22 : decode b_Model_critical 22 = .ok (.iload_n 1, 1) := by decide +kernel
theorem d_Model_critical_23 : decode b_Model_critical 23 = .ok (.laload, 1) := by decide +kernel
theorem d_Model_critical_24 : decode b_Model_critical 24 = .ok (.invokevirtual 170, 3) := by decide +kernel
theorem d_Model_critical_27 : decode b_Model_critical 27 = .ok (.istore_n 2, 1) := by decide +kernel
theorem d_Model_critical_28 : decode b_Model_critical 28 = .ok (.iload_n 2, 1) := by decide +kernel
theorem d_Model_critical_29 : decode b_Model_critical 29 = .ok (.ifCond .ge 7, 3) := by decide +kernel
theorem d_Model_critical_32 : decode b_Model_critical 32 = .ok (.iconst 0, 1) := by decide +kernel
theorem d_Model_critical_33 : decode b_Model_critical 33 = .ok (.goto 14, 3) := by decide +kernel
theorem d_Model_critical_36 : decode b_Model_critical 36 = .ok (.iconst 1, 1) := by decide +kernel
theorem d_Model_critical_37 : decode b_Model_critical 37 = .ok (.aload_n 0, 1) := by decide +kernel
theorem d_Model_critical_38 : decode b_Model_critical 38 = .ok (.getfield 26, 3) := by decide +kernel
theorem d_Model_critical_41 : decode b_Model_critical 41 = .ok (.iload_n 2, 1) := by decide +kernel
theorem d_Model_critical_42 : decode b_Model_critical 42 = .ok (.laload, 1) := by decide +kernel
theorem d_Model_critical_43 : decode b_Model_critical 43 = .ok (.invokestatic 159, 3) := by decide +kernel
theorem d_Model_critical_46 : decode b_Model_critical 46 = .ok (.iadd, 1) := by decide +kernel
theorem d_Model_critical_47 : decode b_Model_critical 47 = .ok (.ireturn, 1) := by decide +kernel
theorem d_Model_replayed_0 : decode b_Model_replayed 0 = .ok (.iload_n 1, 1) := by decide +kernel
theorem d_Model_replayed_1 : decode b_Model_replayed 1 = .ok (.invokestatic 82, 3) := by decide +kernel
theorem d_Model_replayed_4 : decode b_Model_replayed 4 = .ok (.ifCond .eq 9, 3) := by decide +kernel
theorem d_Model_replayed_7 : decode b_Model_replayed 7 = .ok (.sipush (-1000), 3) := by decide +kernel
theorem d_Model_replayed_10 : decode b_Model_replayed 10 = .ok (.goto 9, 3) := by decide +kernel
theorem d_Model_replayed_13 : decode b_Model_replayed 13 = .ok (.aload_n 0, 1) := by decide +kernel
theorem d_Model_replayed_14 : decode b_Model_replayed 14 = .ok (.getfield 60, 3) := by decide +kernel
theorem d_Model_replayed_17 : decode b_Model_replayed 17 = .ok (.iload_n 1, 1) := by decide +kernel
theorem d_Model_replayed_18 : decode b_Model_replayed 18 = .ok (.iaload, 1) := by decide +kernel
theorem d_Model_replayed_19 : decode b_Model_replayed 19 = .ok (.ireturn, 1) := by decide +kernel
theorem d_Model_moves_0 : decode b_Model_moves 0 = .ok (.iload_n 1, 1) := by decide +kernel
theorem d_Model_moves_1 : decode b_Model_moves 1 = .ok (.invokestatic 82, 3) := by decide +kernel
theorem d_Model_moves_4 : decode b_Model_moves 4 = .ok (.ifCond .eq 9, 3) := by decide +kernel
theorem d_Model_moves_7 : decode b_Model_moves 7 = .ok (.sipush (-1000), 3) := by decide +kernel
theorem d_Model_moves_10 : decode b_Model_moves 10 = .ok (.goto 9, 3) := by decide +kernel
theorem d_Model_moves_13 : decode b_Model_moves 13 = .ok (.aload_n 0, 1) := by decide +kernel
theorem d_Model_moves_14 : decode b_Model_moves 14 = .ok (.getfield 63, 3) := by decide +kernel
theorem d_Model_moves_17 : decode b_Model_moves 17 = .ok (.iload_n 1, 1) := by decide +kernel
theorem d_Model_moves_18 : decode b_Model_moves 18 = .ok (.iaload, 1) := by decide +kernel
theorem d_Model_moves_19 : decode b_Model_moves 19 = .ok (.ireturn, 1) := by decide +kernel
theorem d_Model_operation_0 : decode b_Model_operation 0 = .ok (.iload_n 1, 1) := by decide +kernel
theorem d_Model_operation_1 : decode b_Model_operation 1 = .ok (.invokestatic 82, 3) := by decide +kernel
theorem d_Model_operation_4 : decode b_Model_operation 4 = .ok (.ifCond .ne 17, 3) := by decide +kernel
theorem d_Model_operation_7 : decode b_Model_operation 7 = .ok (.iload_n 2, 1) := by decide +kernel
theorem d_Model_operation_8 : decode b_Model_operation 8 = .ok (.ifCond .lt 13, 3) := by decide +kernel
theorem d_Model_operation_11 : decode b_Model_operation 11 = .ok (.iload_n 2, 1) := by decide +kernel
theorem d_Model_operation_12 : decode b_Model_operation 12 = .ok (.aload_n 0, 1) := by decide +kernel
theorem d_Model_operation_13 : decode b_Model_operation 13 = .ok (.getfield 66, 3) := by decide +kernel
theorem d_Model_operation_16 : decode b_Model_operation 16 = .ok (.iload_n 1, 1) := by decide +kernel
theorem d_Model_operation_17 : decode b_Model_operation 17 = .ok (.iaload, 1) := by decide +kernel
theorem d_Model_operation_18 : decode b_Model_operation 18 = .ok (.if_icmp .lt 9, 3) := by decide +kernel
theorem d_Model_operation_21 : decode b_Model_operation 21 = .ok (.sipush (-1000), 3) := by decide +kernel
theorem d_Model_operation_24 : decode b_Model_operation 24 = .ok (.goto 14, 3) := by decide +kernel
theorem d_Model_operation_27 : decode b_Model_operation 27 = .ok (.aload_n 0, 1) := by decide +kernel
theorem d_Model_operation_28 : decode b_Model_operation 28 = .ok (.getfield 69, 3) := by decide +kernel
theorem d_Model_operation_31 : decode b_Model_operation 31 = .ok (.bipush 40, 2) := by decide +kernel
theorem d_Model_operation_33 : decode b_Model_operation 33 = .ok (.iload_n 1, 1) := by decide +kernel
theorem d_Model_operation_34 : decode b_Model_operation 34 = .ok (.imul, 1) := by decide +kernel
theorem d_Model_operation_35 : decode b_Model_operation 35 = .ok (.iload_n 2, 1) := by decide +kernel
theorem d_Model_operation_36 : decode b_Model_operation 36 = .ok (.iadd, 1) := by decide +kernel
theorem d_Model_operation_37 : decode b_Model_operation 37 = .ok (.iaload, 1) := by decide +kernel
theorem d_Model_operation_38 : decode b_Model_operation 38 = .ok (.ireturn, 1) := by decide +kernel
theorem d_Text_init_0 : decode b_Text_init 0 = .ok (.aload_n 0, 1) := by decide +kernel
theorem d_Text_init_1 : decode b_Text_init 1 = .ok (.invokespecial 1, 3) := by decide +kernel
theorem d_Text_init_4 : decode b_Text_init 4 = .ok (.aload_n 0, 1) := by decide +kernel
theorem d_Text_init_5 : decode b_Text_init 5 = .ok (.new 7, 3) := by decide +kernel
theorem d_Text_init_8 : decode b_Text_init 8 = .ok (.dup, 1) := by decide +kernel
theorem d_Text_init_9 : decode b_Text_init 9 = .ok (.invokespecial 9, 3) := by decide +kernel
theorem d_Text_init_12 : decode b_Text_init 12 = .ok (.putfield 10, 3) := by decide +kernel
theorem d_Text_init_15 : decode b_Text_init 15 = .ok (.aload_n 0, 1) := by decide +kernel
theorem d_Text_init_16 : decode b_Text_init 16 = .ok (.new 16, 3) := by decide +kernel
theorem d_Text_init_19 : decode b_Text_init 19 = .ok (.dup, 1) := by decide +kernel
theorem d_Text_init_20 : decode b_Text_init 20 = .ok (.invokespecial 18, 3) := by decide +kernel
theorem d_Text_init_23 : decode b_Text_init 23 = .ok (.putfield 19, 3) := by decide +kernel
theorem d_Text_init_26 : decode b_Text_init 26 = .ok (.aload_n 0, 1) := by decide +kernel
