theorem d_Model_intoRow_74 : decode b_Model_intoRow 74 = .ok (.putfield 98, 3) := by decide +kernel
theorem d_Model_intoRow_77 : decode b_Model_intoRow 77 = .ok (.return_, 1) := by decide +kernel
theorem d_Model_tips_0 : decode b_Model_tips 0 = .ok (.lconst 0, 1) := by decide +kernel
theorem d_Model_tips_1 : decode b_Model_tips 1 = .ok (.lstore_n 3, 1) := by decide +kernel
theorem d_Model_tips_2 : decode b_Model_tips 2 = .ok (.iconst 0, 1) := by decide +kernel
theorem d_Model_tips_3 : decode b_Model_tips 3 = .ok (.istore 5, 2) := by decide +kernel
theorem d_Model_tips_5 : decode b_Model_tips 5 = .ok (.iload 5, 2) := by decide +kernel
theorem d_Model_tips_7 : decode b_Model_tips 7 = .ok (.aload_n 0, 1) := by decide +kernel
theorem d_Model_tips_8 : decode b_Model_tips 8 = .ok (.getfield 86, 3) := by decide +kernel
theorem d_Model_tips_11 : decode b_Model_tips 11 = .ok (.if_icmp .ge 32, 3) := by decide +kernel
theorem d_Model_tips_14 : decode b_Model_tips 14 = .ok (.lload_n 3, 1) := by decide +kernel
theorem d_Model_tips_15 : decode b_Model_tips 15 = .ok (.lload_n 1, 1) := by decide +kernel
theorem d_Model_tips_16 : decode b_Model_tips 16 = .ok (.iload 5, 2) := by decide +kernel
theorem d_Model_tips_18 : decode b_Model_tips 18 = .ok (.invokestatic 78, 3) := by decide +kernel
theorem d_Model_tips_21 : decode b_Model_tips 21 = .ok (.ifCond .eq 13, 3) := by decide +kernel
theorem d_Model_tips_24 : decode b_Model_tips 24 = .ok (.aload_n 0, 1) := by decide +kernel
theorem d_Model_tips_25 : decode b_Model_tips 25 = .ok (.getfield 26, 3) := by decide +kernel
theorem d_Model_tips_28 : decode b_Model_tips 28 = .ok (.iload 5, 2) := by decide +kernel
theorem d_Model_tips_30 : decode b_Model_tips 30 = .ok (.laload, 1) := by decide +kernel
theorem d_Model_tips_31 : decode b_Model_tips 31 = .ok (.goto 4, 3) := by decide +kernel
theorem d_Model_tips_34 : decode b_Model_tips 34 = .ok (.lconst 0, 1) := by decide +kernel
theorem d_Model_tips_35 : decode b_Model_tips 35 = .ok (.lor, 1) := by decide +kernel
theorem d_Model_tips_36 : decode b_Model_tips 36 = .ok (.lstore_n 3, 1) := by decide +kernel
theorem d_Model_tips_37 : decode b_Model_tips 37 = .ok (.iinc 5 1, 3) := by decide +kernel
theorem d_Model_tips_40 : decode b_Model_tips 40 = .ok (.goto (-35), 3) := by decide +kernel
theorem d_Model_tips_43 : decode b_Model_tips 43 = .ok (.lload_n 1, 1) := by decide +kernel
theorem d_Model_tips_44 : decode b_Model_tips 44 = .ok (.lload_n 3, 1) := by decide +kernel
theorem d_Model_tips_45 : decode b_Model_tips 45 = .ok (.ldc2_w 108, 3) := by decide +kernel
theorem d_Model_tips_48 : decode b_Model_tips 48 = .ok (.lxor, 1) := by decide +kernel
theorem d_Model_tips_49 : decode b_Model_tips 49 = .ok (.land, 1) := by decide +kernel
theorem d_Model_tips_50 : decode b_Model_tips 50 = .ok (.lreturn, 1) := by decide +kernel
theorem d_Model_event_0 : decode b_Model_event 0 = .ok (.aload_n 0, 1) := by decide +kernel
theorem d_Model_event_1 : decode b_Model_event 1 = .ok (.getfield 86, 3) := by decide +kernel
theorem d_Model_event_4 : decode b_Model_event 4 = .ok (.istore 4, 2) := by decide +kernel
theorem d_Model_event_6 : decode b_Model_event 6 = .ok (.iconst 0, 1) := by decide +kernel
theorem d_Model_event_7 : decode b_Model_event 7 = .ok (.istore 5, 2) := by decide +kernel
theorem d_Model_event_9 : decode b_Model_event 9 = .ok (.iconst 0, 1) := by decide +kernel
theorem d_Model_event_10 : decode b_Model_event 10 = .ok (.istore 6, 2) := by decide +kernel
theorem d_Model_event_12 : decode b_Model_event 12 = .ok (.iload 6, 2) := by decide +kernel
theorem d_Model_event_14 : decode b_Model_event 14 = .ok (.aload_n 0, 1) := by decide +kernel
theorem d_Model_event_15 : decode b_Model_event 15 = .ok (.getfield 86, 3) := by decide +kernel
theorem d_Model_event_18 : decode b_Model_event 18 = .ok (.if_icmp .ge 30, 3) := by decide +kernel
theorem d_Model_event_21 : decode b_Model_event 21 = .ok (.iload 5, 2) := by decide +kernel
theorem d_Model_event_23 : decode b_Model_event 23 = .ok (.aload_n 0, 1) := by decide +kernel
theorem d_Model_event_24 : decode b_Model_event 24 = .ok (.getfield 7, 3) := by decide +kernel
theorem d_Model_event_27 : decode b_Model_event 27 = .ok (.iload 6, 2) := by decide +kernel
theorem d_Model_event_29 : decode b_Model_event 29 = .ok (.iaload, 1) := by decide +kernel
theorem d_Model_event_30 : decode b_Model_event 30 = .ok (.iload_n 1, 1) := by decide +kernel
theorem d_Model_event_31 : decode b_Model_event 31 = .ok (.if_icmp .ne 7, 3) := by decide +kernel
theorem d_Model_event_34 : decode b_Model_event 34 = .ok (.iconst 1, 1) := by decide +kernel
theorem d_Model_event_35 : decode b_Model_event 35 = .ok (.goto 4, 3) := by decide +kernel
theorem d_Model_event_38 : decode b_Model_event 38 = .ok (.iconst 0, 1) := by decide +kernel
theorem d_Model_event_39 : decode b_Model_event 39 = .ok (.iadd, 1) := by decide +kernel
theorem d_Model_event_40 : decode b_Model_event 40 = .ok (.istore 5, 2) := by decide +kernel
theorem d_Model_event_42 : decode b_Model_event 42 = .ok (.iinc 6 1, 3) := by decide +kernel
theorem d_Model_event_45 : decode b_Model_event 45 = .ok (.goto (-33), 3) := by decide +kernel
theorem d_Model_event_48 : decode b_Model_event 48 = .ok (.aload_n 0, 1) := by decide +kernel
theorem d_Model_event_49 : decode b_Model_event 49 = .ok (.getfield 7, 3) := by decide +kernel
theorem d_Model_event_52 : decode b_Model_event 52 = .ok (.iload 4, 2) := by decide +kernel
theorem d_Model_event_54 : decode b_Model_event 54 = .ok (.iload_n 1, 1) := by decide +kernel
theorem d_Model_event_55 : decode b_Model_event 55 = .ok (.iastore, 1) := by decide +kernel
theorem d_Model_event_56 : decode b_Model_event 56 = .ok (.aload_n 0, 1) := by decide +kernel
theorem d_Model_event_57 : decode b_Model_event 57 = .ok (.getfield 13, 3) := by decide +kernel
theorem d_Model_event_60 : decode b_Model_event 60 = .ok (.iload 4, 2) := by decide +kernel
theorem d_Model_event_62 : decode b_Model_event 62 = .ok (.iload 5, 2) := by decide +kernel
theorem d_Model_event_64 : decode b_Model_event 64 = .ok (.iastore, 1) := by decide +kernel
theorem d_Model_event_65 : decode b_Model_event 65 = .ok (.aload_n 0, 1) := by decide +kernel
theorem d_Model_event_66 : decode b_Model_event 66 = .ok (.getfield 16, 3) := by decide +kernel
theorem d_Model_event_69 : decode b_Model_event 69 = .ok (.iload 4, 2) := by decide +kernel
theorem d_Model_event_71 : decode b_Model_event 71 = .ok (.iload_n 2, 1) := by decide +kernel
theorem d_Model_event_72 : decode b_Model_event 72 = .ok (.bastore, 1) := by decide +kernel
theorem d_Model_event_73 : decode b_Model_event 73 = .ok (.aload_n 0, 1) := by decide +kernel
theorem d_Model_event_74 : decode b_Model_event 74 = .ok (.getfield 20, 3) := by decide +kernel
theorem d_Model_event_77 : decode b_Model_event 77 = .ok (.iload 4, 2) := by decide +kernel
theorem d_Model_event_79 : decode b_Model_event 79 = .ok (.iload_n 3, 1) := by decide +kernel
theorem d_Model_event_80 : decode b_Model_event 80 = .ok (.iastore, 1) := by decide +kernel
theorem d_Model_event_81 : decode b_Model_event 81 = .ok (.aload_n 0, 1) := by decide +kernel
theorem d_Model_event_82 : decode b_Model_event 82 = .ok (.getfield 26, 3) := by decide +kernel
theorem d_Model_event_85 : decode b_Model_event 85 = .ok (.iload 4, 2) := by decide +kernel
theorem d_Model_event_87 : decode b_Model_event 87 = .ok (.aload_n 0, 1) := by decide +kernel
theorem d_Model_event_88 : decode b_Model_event 88 = .ok (.getfield 45, 3) := by decide +kernel
theorem d_Model_event_91 : decode b_Model_event 91 = .ok (.iload_n 1, 1) := by decide +kernel
theorem d_Model_event_92 : decode b_Model_event 92 = .ok (.laload, 1) := by decide +kernel
theorem d_Model_event_93 : decode b_Model_event 93 = .ok (.lastore, 1) := by decide +kernel
theorem d_Model_event_94 : decode b_Model_event 94 = .ok (.aload_n 0, 1) := by decide +kernel
theorem d_Model_event_95 : decode b_Model_event 95 = .ok (.getfield 30, 3) := by decide +kernel
theorem d_Model_event_98 : decode b_Model_event 98 = .ok (.iload 4, 2) := by decide +kernel
theorem d_Model_event_100 : decode b_Model_event 100 = .ok (.aload_n 0, 1) := by decide +kernel
theorem d_Model_event_101 : decode b_Model_event 101 = .ok (.aload_n 0, 1) := by decide +kernel
theorem d_Model_event_102 : decode b_Model_event 102 = .ok (.getfield 45, 3) := by decide +kernel
theorem d_Model_event_105 : decode b_Model_event 105 = .ok (.iload_n 1, 1) := by decide +kernel
theorem d_Model_event_106 : decode b_Model_event 106 = .ok (.laload, 1) := by decide +kernel
theorem d_Model_event_107 : decode b_Model_event 107 = .ok (.invokevirtual 110, 3) := by decide +kernel
theorem d_Model_event_110 : decode b_Model_event 110 = .ok (.lastore, 1) := by decide +kernel
theorem d_Model_event_111 : decode b_Model_event 111 = .ok (.aload_n 0, 1) := by decide +kernel
theorem d_Model_event_112 : decode b_Model_event 112 = .ok (.getfield 45, 3) := by decide +kernel
theorem d_Model_event_115 : decode b_Model_event 115 = .ok (.iload_n 1, 1) := by decide +kernel
theorem d_Model_event_116 : decode b_Model_event 116 = .ok (.dup2, 1) := by decide +kernel
theorem d_Model_event_117 : decode b_Model_event 117 = .ok (.laload, 1) := by decide +kernel
theorem d_Model_event_118 : decode b_Model_event 118 = .ok (.iload 4, 2) := by decide +kernel
theorem d_Model_event_120 : decode b_Model_event 120 = .ok (.invokestatic 90, 3) := by decide +kernel
theorem d_Model_event_123 : decode b_Model_event 123 = .ok (.lor, 1) := by decide +kernel
theorem d_Model_event_124 : decode b_Model_event 124 = .ok (.lastore, 1) := by decide +kernel
theorem d_Model_event_125 : decode b_Model_event 125 = .ok (.aload_n 0, 1) := by decide +kernel
theorem d_Model_event_126 : decode b_Model_event 126 = .ok (.dup, 1) := by decide +kernel
theorem d_Model_event_127 : decode b_Model_event 127 = .ok (.getfield 86, 3) := by decide +kernel
theorem d_Model_event_130 : decode b_Model_event 130 = .ok (.iconst 1, 1) := by decide +kernel
theorem d_Model_event_131 : decode b_Model_event 131 = .ok (.iadd, 1) := by decide +kernel
theorem d_Model_event_132 : decode b_Model_event 132 = .ok (.putfield 86, 3) := by decide +kernel
theorem d_Model_event_135 : decode b_Model_event 135 = .ok (.iload 4, 2) := by decide +kernel
theorem d_Model_event_137 : decode b_Model_event 137 = .ok (.ireturn, 1) := by decide +kernel
theorem d_Model_length_0 : decode b_Model_length 0 = .ok (.iload_n 1, 1) := by decide +kernel
theorem d_Model_length_1 : decode b_Model_length 1 = .ok (.invokestatic 82, 3) := by decide +kernel
theorem d_Model_length_4 : decode b_Model_length 4 = .ok (.ifCond .eq 9, 3) := by decide +kernel
theorem d_Model_length_7 : decode b_Model_length 7 = .ok (.sipush (-1000), 3) := by decide +kernel
theorem d_Model_length_10 : decode b_Model_length 10 = .ok (.goto 14, 3) := by decide +kernel
theorem d_Model_length_13 : decode b_Model_length 13 = .ok (.aload_n 0, 1) := by decide +kernel
theorem d_Model_length_14 : decode b_Model_length 14 = .ok (.aload_n 0, 1) := by decide +kernel
theorem d_Model_length_15 : decode b_Model_length 15 = .ok (.getfield 45, 3) := by decide +kernel
theorem d_Model_length_18 : decode b_Model_length 18 = .ok (.iload_n 1, 1) := by decide +kernel
theorem d_Model_length_19 : decode b_Model_length 19 = .ok (.laload, 1) := by decide +kernel
theorem d_Model_length_20 : decode b_Model_length 20 = .ok (.iconst (-1), 1) := by decide +kernel
theorem d_Model_length_21 : decode b_Model_length 21 = .ok (.invokevirtual 132, 3) := by decide +kernel
theorem d_Model_length_24 : decode b_Model_length 24 = .ok (.ireturn, 1) := by decide +kernel
theorem d_Model_insert_0 : decode b_Model_insert 0 = .ok (.iload_n 1, 1) := by decide +kernel
theorem d_Model_insert_1 : decode b_Model_insert 1 = .ok (.invokestatic 82, 3) := by decide +kernel
theorem d_Model_insert_4 : decode b_Model_insert 4 = .ok (.ifCond .ne 37, 3) := by decide +kernel
theorem d_Model_insert_7 : decode b_Model_insert 7 = .ok (.iload_n 3, 1) := by decide +kernel
theorem d_Model_insert_8 : decode b_Model_insert 8 = .ok (.bipush 32, 2) := by decide +kernel
theorem d_Model_insert_10 : decode b_Model_insert 10 = .ok (.if_icmp .lt 31, 3) := by decide +kernel
theorem d_Model_insert_13 : decode b_Model_insert 13 = .ok (.iload_n 3, 1) := by decide +kernel
theorem d_Model_insert_14 : decode b_Model_insert 14 = .ok (.bipush 126, 2) := by decide +kernel
theorem d_Model_insert_16 : decode b_Model_insert 16 = .ok (.if_icmp .gt 25, 3) := by decide +kernel
theorem d_Model_insert_19 : decode b_Model_insert 19 = .ok (.aload_n 0, 1) := by decide +kernel
theorem d_Model_insert_20 : decode b_Model_insert 20 = .ok (.getfield 86, 3) := by decide +kernel
theorem d_Model_insert_23 : decode b_Model_insert 23 = .ok (.bipush 40, 2) := by decide +kernel
theorem d_Model_insert_25 : decode b_Model_insert 25 = .ok (.if_icmp .ge 16, 3) := by decide +kernel
theorem d_Model_insert_28 : decode b_Model_insert 28 = .ok (.iload_n 2, 1) := by decide +kernel
theorem d_Model_insert_29 : decode b_Model_insert 29 = .ok (.ifCond .lt 12, 3) := by decide +kernel
theorem d_Model_insert_32 : decode b_Model_insert 32 = .ok (.iload_n 2, 1) := by decide +kernel
theorem d_Model_insert_33 : decode b_Model_insert 33 = .ok (.aload_n 0, 1) := by decide +kernel
theorem d_Model_insert_34 : decode b_Model_insert 34 = .ok (.iload_n 1, 1) := by decide +kernel
theorem d_Model_insert_35 : decode b_Model_insert 35 = .ok (.invokevirtual 113, 3) := by decide +kernel
theorem d_Model_insert_38 : decode b_Model_insert 38 = .ok (.if_icmp .le 7, 3) := by decide +kernel
theorem d_Model_insert_41 : decode b_Model_insert 41 = .ok (.sipush (-1000), 3) := by decide +kernel
theorem d_Model_insert_44 : decode b_Model_insert 44 = .ok (.ireturn, 1) := by decide +kernel
theorem d_Model_insert_45 : decode b_Model_insert 45 = .ok (.aload_n 0, 1) := by decide +kernel
theorem d_Model_insert_46 : decode b_Model_insert 46 = .ok (.getfield 45, 3) := by decide +kernel
theorem d_Model_insert_49 : decode b_Model_insert 49 = .ok (.iload_n 1, 1) := by decide +kernel
theorem d_Model_insert_50 : decode b_Model_insert 50 = .ok (.laload, 1) := by decide +kernel
theorem d_Model_insert_51 : decode b_Model_insert 51 = .ok (.lstore 4, 2) := by decide +kernel
theorem d_Model_insert_53 : decode b_Model_insert 53 = .ok (.iload_n 2, 1) := by decide +kernel
theorem d_Model_insert_54 : decode b_Model_insert 54 = .ok (.ifCond .ne 8, 3) := by decide +kernel
theorem d_Model_insert_57 : decode b_Model_insert 57 = .ok (.bipush 40, 2) := by decide +kernel
theorem d_Model_insert_59 : decode b_Model_insert 59 = .ok (.goto 12, 3) := by decide +kernel
theorem d_Model_insert_62 : decode b_Model_insert 62 = .ok (.aload_n 0, 1) := by decide +kernel
theorem d_Model_insert_63 : decode b_Model_insert 63 = .ok (.lload 4, 2) := by decide +kernel
theorem d_Model_insert_65 : decode b_Model_insert 65 = .ok (.iload_n 2, 1) := by decide +kernel
theorem d_Model_insert_66 : decode b_Model_insert 66 = .ok (.iconst 1, 1) := by decide +kernel
theorem d_Model_insert_67 : decode b_Model_insert 67 = .ok (.isub, 1) := by decide +kernel
theorem d_Model_insert_68 : decode b_Model_insert 68 = .ok (.invokevirtual 117, 3) := by decide +kernel
theorem d_Model_insert_71 : decode b_Model_insert 71 = .ok (.istore 6, 2) := by decide +kernel
theorem d_Model_insert_73 : decode b_Model_insert 73 = .ok (.iconst 1, 1) := by decide +kernel
theorem d_Model_insert_74 : decode b_Model_insert 74 = .ok (.istore 7, 2) := by decide +kernel
theorem d_Model_insert_76 : decode b_Model_insert 76 = .ok (.iconst 0, 1) := by decide +kernel
theorem d_Model_insert_77 : decode b_Model_insert 77 = .ok (.istore 8, 2) := by decide +kernel
theorem d_Model_insert_79 : decode b_Model_insert 79 = .ok (.iload 8, 2) := by decide +kernel
theorem d_Model_insert_81 : decode b_Model_insert 81 = .ok (.aload_n 0, 1) := by decide +kernel
theorem d_Model_insert_82 : decode b_Model_insert 82 = .ok (.getfield 86, 3) := by decide +kernel
theorem d_Model_insert_85 : decode b_Model_insert 85 = .ok (.if_icmp .ge 54, 3) := by decide +kernel
theorem d_Model_insert_88 : decode b_Model_insert 88 = .ok (.lload 4, 2) := by decide +kernel
theorem d_Model_insert_90 : decode b_Model_insert 90 = .ok (.iload 8, 2) := by decide +kernel
theorem d_Model_insert_92 : decode b_Model_insert 92 = .ok (.invokestatic 78, 3) := by decide +kernel
theorem d_Model_insert_95 : decode b_Model_insert 95 = .ok (.ifCond .eq 38, 3) := by decide +kernel
theorem d_Model_insert_98 : decode b_Model_insert 98 = .ok (.aload_n 0, 1) := by decide +kernel
theorem d_Model_insert_99 : decode b_Model_insert 99 = .ok (.getfield 16, 3) := by decide +kernel
theorem d_Model_insert_102 : decode b_Model_insert 102 = .ok (.iload 8, 2) := by decide +kernel
theorem d_Model_insert_104 : decode b_Model_insert 104 = .ok (.baload, 1) := by decide +kernel
theorem d_Model_insert_105 : decode b_Model_insert 105 = .ok (.ifCond .eq 28, 3) := by decide +kernel
theorem d_Model_insert_108 : decode b_Model_insert 108 = .ok (.aload_n 0, 1) := by decide +kernel
theorem d_Model_insert_109 : decode b_Model_insert 109 = .ok (.getfield 36, 3) := by decide +kernel
theorem d_Model_insert_112 : decode b_Model_insert 112 = .ok (.iload 8, 2) := by decide +kernel
theorem d_Model_insert_114 : decode b_Model_insert 114 = .ok (.baload, 1) := by decide +kernel
theorem d_Model_insert_115 : decode b_Model_insert 115 = .ok (.ifCond .eq 18, 3) := by decide +kernel
theorem d_Model_insert_118 : decode b_Model_insert 118 = .ok (.aload_n 0, 1) := by decide +kernel
theorem d_Model_insert_119 : decode b_Model_insert 119 = .ok (.getfield 33, 3) := by decide +kernel
theorem d_Model_insert_122 : decode b_Model_insert 122 = .ok (.iload 8, 2) := by decide +kernel
theorem d_Model_insert_124 : decode b_Model_insert 124 = .ok (.iaload, 1) := by decide +kernel
theorem d_Model_insert_125 : decode b_Model_insert 125 = .ok (.iload 6, 2) := by decide +kernel
theorem d_Model_insert_127 : decode b_Model_insert 127 = .ok (.if_icmp .ne 6, 3) := by decide +kernel
theorem d_Model_insert_130 : decode b_Model_insert 130 = .ok (.iconst 0, 1) := by decide +kernel
theorem d_Model_insert_131 : decode b_Model_insert 131 = .ok (.istore 7, 2) := by decide +kernel
theorem d_Model_insert_133 : decode b_Model_insert 133 = .ok (.iinc 8 1, 3) := by decide +kernel
theorem d_Model_insert_136 : decode b_Model_insert 136 = .ok (.goto (-57), 3) := by decide +kernel
theorem d_Model_insert_139 : decode b_Model_insert 139 = .ok (.iload 7, 2) := by decide +kernel
theorem d_Model_insert_141 : decode b_Model_insert 141 = .ok (.ifCond .eq 8, 3) := by decide +kernel
theorem d_Model_insert_144 : decode b_Model_insert 144 = .ok (.iload 6, 2) := by decide +kernel
theorem d_Model_insert_146 : decode b_Model_insert 146 = .ok (.goto 11, 3) := by decide +kernel
theorem d_Model_insert_149 : decode b_Model_insert 149 = .ok (.aload_n 0, 1) := by decide +kernel
theorem d_Model_insert_150 : decode b_Model_insert 150 = .ok (.lload 4, 2) := by decide +kernel
theorem d_Model_insert_152 : decode b_Model_insert 152 = .ok (.iload 6, 2) := by decide +kernel
theorem d_Model_insert_154 : decode b_Model_insert 154 = .ok (.invokevirtual 121, 3) := by decide +kernel
theorem d_Model_insert_157 : decode b_Model_insert 157 = .ok (.istore 8, 2) := by decide +kernel
theorem d_Model_insert_159 : decode b_Model_insert 159 = .ok (.aload_n 0, 1) := by decide +kernel
theorem d_Model_insert_160 : decode b_Model_insert 160 = .ok (.iload_n 1, 1) := by decide +kernel
theorem d_Model_insert_161 : decode b_Model_insert 161 = .ok (.iconst 1, 1) := by decide +kernel
theorem d_Model_insert_162 : decode b_Model_insert 162 = .ok (.iload_n 2, 1) := by decide +kernel
theorem d_Model_insert_163 : decode b_Model_insert 163 = .ok (.invokevirtual 124, 3) := by decide +kernel
theorem d_Model_insert_166 : decode b_Model_insert 166 = .ok (.istore 9, 2) := by decide +kernel
theorem d_Model_insert_168 : decode b_Model_insert 168 = .ok (.aload_n 0, 1) := by decide +kernel
theorem d_Model_insert_169 : decode b_Model_insert 169 = .ok (.getfield 23, 3) := by decide +kernel
theorem d_Model_insert_172 : decode b_Model_insert 172 = .ok (.iload 9, 2) := by decide +kernel
theorem d_Model_insert_174 : decode b_Model_insert 174 = .ok (.iload_n 3, 1) := by decide +kernel
theorem d_Model_insert_175 : decode b_Model_insert 175 = .ok (.iastore, 1) := by decide +kernel
theorem d_Model_insert_176 : decode b_Model_insert 176 = .ok (.aload_n 0, 1) := by decide +kernel
theorem d_Model_insert_177 : decode b_Model_insert 177 = .ok (.getfield 33, 3) := by decide +kernel
theorem d_Model_insert_180 : decode b_Model_insert 180 = .ok (.iload 9, 2) := by decide +kernel
theorem d_Model_insert_182 : decode b_Model_insert 182 = .ok (.iload 8, 2) := by decide +kernel
theorem d_Model_insert_184 : decode b_Model_insert 184 = .ok (.iastore, 1) := by decide +kernel
theorem d_Model_insert_185 : decode b_Model_insert 185 = .ok (.aload_n 0, 1) := by decide +kernel
theorem d_Model_insert_186 : decode b_Model_insert 186 = .ok (.getfield 36, 3) := by decide +kernel
theorem d_Model_insert_189 : decode b_Model_insert 189 = .ok (.iload 9, 2) := by decide +kernel
theorem d_Model_insert_191 : decode b_Model_insert 191 = .ok (.iload 7, 2) := by decide +kernel
theorem d_Model_insert_193 : decode b_Model_insert 193 = .ok (.bastore, 1) := by decide +kernel
theorem d_Model_insert_194 : decode b_Model_insert 194 = .ok (.aload_n 0, 1) := by decide +kernel
theorem d_Model_insert_195 : decode b_Model_insert 195 = .ok (.getfield 39, 3) := by decide +kernel
theorem d_Model_insert_198 : decode b_Model_insert 198 = .ok (.iload 9, 2) := by decide +kernel
theorem d_Model_insert_200 : decode b_Model_insert 200 = .ok (.aload_n 0, 1) := by decide +kernel
theorem d_Model_insert_201 : decode b_Model_insert 201 = .ok (.getfield 39, 3) := by decide +kernel
theorem d_Model_insert_204 : decode b_Model_insert 204 = .ok (.iload 8, 2) := by decide +kernel
theorem d_Model_insert_206 : decode b_Model_insert 206 = .ok (.iaload, 1) := by decide +kernel
theorem d_Model_insert_207 : decode b_Model_insert 207 = .ok (.iconst 1, 1) := by decide +kernel
theorem d_Model_insert_208 : decode b_Model_insert 208 = .ok (.iadd, 1) := by decide +kernel
theorem d_Model_insert_209 : decode b_Model_insert 209 = .ok (.iastore, 1) := by decide +kernel
theorem d_Model_insert_210 : decode b_Model_insert 210 = .ok (.aload_n 0, 1) := by decide +kernel
theorem d_Model_insert_211 : decode b_Model_insert 211 = .ok (.iload 9, 2) := by decide +kernel
theorem d_Model_insert_213 : decode b_Model_insert 213 = .ok (.invokevirtual 128, 3) := by decide +kernel
theorem d_Model_insert_216 : decode b_Model_insert 216 = .ok (.aload_n 0, 1) := by decide +kernel
theorem d_Model_insert_217 : decode b_Model_insert 217 = .ok (.getfield 13, 3) := by decide +kernel
theorem d_Model_insert_220 : decode b_Model_insert 220 = .ok (.iload 9, 2) := by decide +kernel
theorem d_Model_insert_222 : decode b_Model_insert 222 = .ok (.iaload, 1) := by decide +kernel
theorem d_Model_insert_223 : decode b_Model_insert 223 = .ok (.ireturn, 1) := by decide +kernel
theorem d_Model_delete_0 : decode b_Model_delete 0 = .ok (.iload_n 1, 1) := by decide +kernel
theorem d_Model_delete_1 : decode b_Model_delete 1 = .ok (.invokestatic 82, 3) := by decide +kernel
theorem d_Model_delete_4 : decode b_Model_delete 4 = .ok (.ifCond .ne 25, 3) := by decide +kernel
theorem d_Model_delete_7 : decode b_Model_delete 7 = .ok (.aload_n 0, 1) := by decide +kernel
theorem d_Model_delete_8 : decode b_Model_delete 8 = .ok (.getfield 86, 3) := by decide +kernel
theorem d_Model_delete_11 : decode b_Model_delete 11 = .ok (.bipush 40, 2) := by decide +kernel
theorem d_Model_delete_13 : decode b_Model_delete 13 = .ok (.if_icmp .ge 16, 3) := by decide +kernel
theorem d_Model_delete_16 : decode b_Model_delete 16 = .ok (.iload_n 2, 1) := by decide +kernel
theorem d_Model_delete_17 : decode b_Model_delete 17 = .ok (.ifCond .lt 12, 3) := by decide +kernel
theorem d_Model_delete_20 : decode b_Model_delete 20 = .ok (.iload_n 2, 1) := by decide +kernel
theorem d_Model_delete_21 : decode b_Model_delete 21 = .ok (.aload_n 0, 1) := by decide +kernel
theorem d_Model_delete_22 : decode b_Model_delete 22 = .ok (.iload_n 1, 1) := by decide +kernel
theorem d_Model_delete_23 : decode b_Model_delete 23 = .ok (.invokevirtual 113, 3) := by decide +kernel
theorem d_Model_delete_26 : decode b_Model_delete 26 = .ok (.if_icmp .lt 7, 3) := by decide +kernel
theorem d_Model_delete_29 : decode b_Model_delete 29 = .ok (.sipush (-1000), 3) := by decide +kernel
theorem d_Model_delete_32 : decode b_Model_delete 32 = .ok (.ireturn, 1) := by decide +kernel
theorem d_Model_delete_33 : decode b_Model_delete 33 = .ok (.aload_n 0, 1) := by decide +kernel
theorem d_Model_delete_34 : decode b_Model_delete 34 = .ok (.aload_n 0, 1) := by decide +kernel
theorem d_Model_delete_35 : decode b_Model_delete 35 = .ok (.getfield 45, 3) := by decide +kernel
theorem d_Model_delete_38 : decode b_Model_delete 38 = .ok (.iload_n 1, 1) := by decide +kernel
theorem d_Model_delete_39 : decode b_Model_delete 39 = .ok (.laload, 1) := by decide +kernel
theorem d_Model_delete_40 : decode b_Model_delete 40 = .ok (.iload_n 2, 1) := by decide +kernel
theorem d_Model_delete_41 : decode b_Model_delete 41 = .ok (.invokevirtual 117, 3) := by decide +kernel
theorem d_Model_delete_44 : decode b_Model_delete 44 = .ok (.istore_n 3, 1) := by decide +kernel
theorem d_Model_delete_45 : decode b_Model_delete 45 = .ok (.aload_n 0, 1) := by decide +kernel
theorem d_Model_delete_46 : decode b_Model_delete 46 = .ok (.iload_n 1, 1) := by decide +kernel
theorem d_Model_delete_47 : decode b_Model_delete 47 = .ok (.iconst 0, 1) := by decide +kernel
theorem d_Model_delete_48 : decode b_Model_delete 48 = .ok (.iload_n 2, 1) := by decide +kernel
theorem d_Model_delete_49 : decode b_Model_delete 49 = .ok (.invokevirtual 124, 3) := by decide +kernel
theorem d_Model_delete_52 : decode b_Model_delete 52 = .ok (.istore 4, 2) := by decide +kernel
theorem d_Model_delete_54 : decode b_Model_delete 54 = .ok (.aload_n 0, 1) := by decide +kernel
theorem d_Model_delete_55 : decode b_Model_delete 55 = .ok (.getfield 33, 3) := by decide +kernel
theorem d_Model_delete_58 : decode b_Model_delete 58 = .ok (.iload 4, 2) := by decide +kernel
theorem d_Model_delete_60 : decode b_Model_delete 60 = .ok (.iload_n 3, 1) := by decide +kernel
theorem d_Model_delete_61 : decode b_Model_delete 61 = .ok (.iastore, 1) := by decide +kernel
theorem d_Model_delete_62 : decode b_Model_delete 62 = .ok (.aload_n 0, 1) := by decide +kernel
theorem d_Model_delete_63 : decode b_Model_delete 63 = .ok (.getfield 13, 3) := by decide +kernel
theorem d_Model_delete_66 : decode b_Model_delete 66 = .ok (.iload 4, 2) := by decide +kernel
theorem d_Model_delete_68 : decode b_Model_delete 68 = .ok (.iaload, 1) := by decide +kernel
theorem d_Model_delete_69 : decode b_Model_delete 69 = .ok (.ireturn, 1) := by decide +kernel
theorem d_Model_at_0 : decode b_Model_at 0 = .ok (.iload_n 1, 1) := by decide +kernel
theorem d_Model_at_1 : decode b_Model_at 1 = .ok (.invokestatic 82, 3) := by decide +kernel
theorem d_Model_at_4 : decode b_Model_at 4 = .ok (.ifCond .ne 16, 3) := by decide +kernel
theorem d_Model_at_7 : decode b_Model_at 7 = .ok (.iload_n 2, 1) := by decide +kernel
theorem d_Model_at_8 : decode b_Model_at 8 = .ok (.ifCond .lt 12, 3) := by decide +kernel
theorem d_Model_at_11 : decode b_Model_at 11 = .ok (.iload_n 2, 1) := by decide +kernel
theorem d_Model_at_12 : decode b_Model_at 12 = .ok (.aload_n 0, 1) := by decide +kernel
theorem d_Model_at_13 : decode b_Model_at 13 = .ok (.iload_n 1, 1) := by decide +kernel
theorem d_Model_at_14 : decode b_Model_at 14 = .ok (.invokevirtual 113, 3) := by decide +kernel
theorem d_Model_at_17 : decode b_Model_at 17 = .ok (.if_icmp .lt 7, 3) := by decide +kernel
theorem d_Model_at_20 : decode b_Model_at 20 = .ok (.sipush (-1000), 3) := by decide +kernel
theorem d_Model_at_23 : decode b_Model_at 23 = .ok (.ireturn, 1) := by decide +kernel
theorem d_Model_at_24 : decode b_Model_at 24 = .ok (.aload_n 0, 1) := by decide +kernel
theorem d_Model_at_25 : decode b_Model_at 25 = .ok (.aload_n 0, 1) := by decide +kernel
theorem d_Model_at_26 : decode b_Model_at 26 = .ok (.getfield 45, 3) := by decide +kernel
theorem d_Model_at_29 : decode b_Model_at 29 = .ok (.iload_n 1, 1) := by decide +kernel
theorem d_Model_at_30 : decode b_Model_at 30 = .ok (.laload, 1) := by decide +kernel
theorem d_Model_at_31 : decode b_Model_at 31 = .ok (.iload_n 2, 1) := by decide +kernel
