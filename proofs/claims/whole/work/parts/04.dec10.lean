theorem d_Model_hear_47 : decode b_Model_hear 47 = .ok (.iload_n 2, 1) := by decide +kernel
theorem d_Model_hear_48 : decode b_Model_hear 48 = .ok (.invokevirtual 155, 3) := by decide +kernel
theorem d_Model_hear_51 : decode b_Model_hear 51 = .ok (.ireturn, 1) := by decide +kernel
theorem d_Model_isCritical_0 : decode b_Model_isCritical 0 = .ok (.iconst 0, 1) := by decide +kernel
theorem d_Model_isCritical_1 : decode b_Model_isCritical 1 = .ok (.istore 4, 2) := by decide +kernel
theorem d_Model_isCritical_3 : decode b_Model_isCritical 3 = .ok (.iload 4, 2) := by decide +kernel
theorem d_Model_isCritical_5 : decode b_Model_isCritical 5 = .ok (.aload_n 0, 1) := by decide +kernel
theorem d_Model_isCritical_6 : decode b_Model_isCritical 6 = .ok (.getfield 86, 3) := by decide +kernel
theorem d_Model_isCritical_9 : decode b_Model_isCritical 9 = .ok (.if_icmp .ge 54, 3) := by decide +kernel
theorem d_Model_isCritical_12 : decode b_Model_isCritical 12 = .ok (.lload_n 1, 1) := by decide +kernel
theorem d_Model_isCritical_13 : decode b_Model_isCritical 13 = .ok (.iload 4, 2) := by decide +kernel
theorem d_Model_isCritical_15 : decode b_Model_isCritical 15 = .ok (.invokestatic 78, 3) := by decide +kernel
theorem d_Model_isCritical_18 : decode b_Model_isCritical 18 = .ok (.ifCond .eq 39, 3) := by decide +kernel
theorem d_Model_isCritical_21 : decode b_Model_isCritical 21 = .ok (.iload 4, 2) := by decide +kernel
theorem d_Model_isCritical_23 : decode b_Model_isCritical 23 = .ok (.iload_n 3, 1) := by decide +kernel
theorem d_Model_isCritical_24 : decode b_Model_isCritical 24 = .ok (.if_icmp .eq 33, 3) := by decide +kernel
theorem d_Model_isCritical_27 : decode b_Model_isCritical 27 = .ok (.aload_n 0, 1) := by decide +kernel
theorem d_Model_isCritical_28 : decode b_Model_isCritical 28 = .ok (.getfield 26, 3) := by decide +kernel
theorem d_Model_isCritical_31 : decode b_Model_isCritical 31 = .ok (.iload_n 3, 1) := by decide +kernel
theorem d_Model_isCritical_32 : decode b_Model_isCritical 32 = .ok (.laload, 1) := by decide +kernel
theorem d_Model_isCritical_33 : decode b_Model_isCritical 33 = .ok (.iload 4, 2) := by decide +kernel
theorem d_Model_isCritical_35 : decode b_Model_isCritical 35 = .ok (.invokestatic 78, 3) := by decide +kernel
theorem d_Model_isCritical_38 : decode b_Model_isCritical 38 = .ok (.ifCond .ne 19, 3) := by decide +kernel
theorem d_Model_isCritical_41 : decode b_Model_isCritical 41 = .ok (.aload_n 0, 1) := by decide +kernel
theorem d_Model_isCritical_42 : decode b_Model_isCritical 42 = .ok (.getfield 26, 3) := by decide +kernel
theorem d_Model_isCritical_45 : decode b_Model_isCritical 45 = .ok (.iload 4, 2) := by decide +kernel
theorem d_Model_isCritical_47 : decode b_Model_isCritical 47 = .ok (.laload, 1) := by decide +kernel
theorem d_Model_isCritical_48 : decode b_Model_isCritical 48 = .ok (.iload_n 3, 1) := by decide +kernel
theorem d_Model_isCritical_49 : decode b_Model_isCritical 49 = .ok (.invokestatic 78, 3) := by decide +kernel
theorem d_Model_isCritical_52 : decode b_Model_isCritical 52 = .ok (.ifCond .ne 5, 3) := by decide +kernel
theorem d_Model_isCritical_55 : decode b_Model_isCritical 55 = .ok (.iconst 0, 1) := by decide +kernel
theorem d_Model_isCritical_56 : decode b_Model_isCritical 56 = .ok (.ireturn, 1) := by decide +kernel
theorem d_Model_isCritical_57 : decode b_Model_isCritical 57 = .ok (.iinc 4 1, 3) := by decide +kernel
theorem d_Model_isCritical_60 : decode b_Model_isCritical 60 = .ok (.goto (-57), 3) := by decide +kernel
theorem d_Model_isCritical_63 : decode b_Model_isCritical 63 = .ok (.iconst 1, 1) := by decide +kernel
theorem d_Model_isCritical_64 : decode b_Model_isCritical 64 = .ok (.ireturn, 1) := by decide +kernel
theorem d_Model_top_0 : decode b_Model_top 0 = .ok (.iconst (-1), 1) := by decide +kernel
theorem d_Model_top_1 : decode b_Model_top 1 = .ok (.istore 5, 2) := by decide +kernel
theorem d_Model_top_3 : decode b_Model_top 3 = .ok (.iconst 0, 1) := by decide +kernel
theorem d_Model_top_4 : decode b_Model_top 4 = .ok (.istore 6, 2) := by decide +kernel
theorem d_Model_top_6 : decode b_Model_top 6 = .ok (.iload 6, 2) := by decide +kernel
theorem d_Model_top_8 : decode b_Model_top 8 = .ok (.aload_n 0, 1) := by decide +kernel
theorem d_Model_top_9 : decode b_Model_top 9 = .ok (.getfield 86, 3) := by decide +kernel
theorem d_Model_top_12 : decode b_Model_top 12 = .ok (.if_icmp .ge 60, 3) := by decide +kernel
theorem d_Model_top_15 : decode b_Model_top 15 = .ok (.lload_n 3, 1) := by decide +kernel
theorem d_Model_top_16 : decode b_Model_top 16 = .ok (.iload 6, 2) := by decide +kernel
theorem d_Model_top_18 : decode b_Model_top 18 = .ok (.invokestatic 78, 3) := by decide +kernel
theorem d_Model_top_21 : decode b_Model_top 21 = .ok (.ifCond .eq 45, 3) := by decide +kernel
theorem d_Model_top_24 : decode b_Model_top 24 = .ok (.aload_n 0, 1) := by decide +kernel
theorem d_Model_top_25 : decode b_Model_top 25 = .ok (.lload_n 1, 1) := by decide +kernel
theorem d_Model_top_26 : decode b_Model_top 26 = .ok (.iload 6, 2) := by decide +kernel
theorem d_Model_top_28 : decode b_Model_top 28 = .ok (.invokevirtual 167, 3) := by decide +kernel
theorem d_Model_top_31 : decode b_Model_top 31 = .ok (.ifCond .eq 35, 3) := by decide +kernel
theorem d_Model_top_34 : decode b_Model_top 34 = .ok (.iload 5, 2) := by decide +kernel
theorem d_Model_top_36 : decode b_Model_top 36 = .ok (.ifCond .lt 26, 3) := by decide +kernel
theorem d_Model_top_39 : decode b_Model_top 39 = .ok (.aload_n 0, 1) := by decide +kernel
theorem d_Model_top_40 : decode b_Model_top 40 = .ok (.getfield 26, 3) := by decide +kernel
theorem d_Model_top_43 : decode b_Model_top 43 = .ok (.iload 6, 2) := by decide +kernel
theorem d_Model_top_45 : decode b_Model_top 45 = .ok (.laload, 1) := by decide +kernel
theorem d_Model_top_46 : decode b_Model_top 46 = .ok (.invokestatic 159, 3) := by decide +kernel
theorem d_Model_top_49 : decode b_Model_top 49 = .ok (.aload_n 0, 1) := by decide +kernel
theorem d_Model_top_50 : decode b_Model_top 50 = .ok (.getfield 26, 3) := by decide +kernel
theorem d_Model_top_53 : decode b_Model_top 53 = .ok (.iload 5, 2) := by decide +kernel
theorem d_Model_top_55 : decode b_Model_top 55 = .ok (.laload, 1) := by decide +kernel
theorem d_Model_top_56 : decode b_Model_top 56 = .ok (.invokestatic 159, 3) := by decide +kernel
theorem d_Model_top_59 : decode b_Model_top 59 = .ok (.if_icmp .le 7, 3) := by decide +kernel
theorem d_Model_top_62 : decode b_Model_top 62 = .ok (.iload 6, 2) := by decide +kernel
theorem d_Model_top_64 : decode b_Model_top 64 = .ok (.istore 5, 2) := by decide +kernel
theorem d_Model_top_66 : decode b_Model_top 66 = .ok (.iinc 6 1, 3) := by decide +kernel
theorem d_Model_top_69 : decode b_Model_top 69 = .ok (.goto (-63), 3) := by decide +kernel
theorem d_Model_top_72 : decode b_Model_top 72 = .ok (.iload 5, 2) := by decide +kernel
theorem d_Model_top_74 : decode b_Model_top 74 = .ok (.ireturn, 1) := by decide +kernel
theorem d_Model_effect_0 : decode b_Model_effect 0 = .ok (.aload_n 0, 1) := by decide +kernel
theorem d_Model_effect_1 : decode b_Model_effect 1 = .ok (.getfield 16, 3) := by decide +kernel
theorem d_Model_effect_4 : decode b_Model_effect 4 = .ok (.iload_n 3, 1) := by decide +kernel
theorem d_Model_effect_5 : decode b_Model_effect 5 = .ok (.baload, 1) := by decide +kernel
theorem d_Model_effect_6 : decode b_Model_effect 6 = .ok (.ifCond .eq 10, 3) := by decide +kernel
theorem d_Model_effect_9 : decode b_Model_effect 9 = .ok (.aload_n 0, 1) := by decide +kernel
theorem d_Model_effect_10 : decode b_Model_effect 10 = .ok (.lload_n 1, 1) := by decide +kernel
theorem d_Model_effect_11 : decode b_Model_effect 11 = .ok (.iload_n 3, 1) := by decide +kernel
theorem d_Model_effect_12 : decode b_Model_effect 12 = .ok (.invokevirtual 132, 3) := by decide +kernel
theorem d_Model_effect_15 : decode b_Model_effect 15 = .ok (.ireturn, 1) := by decide +kernel
theorem d_Model_effect_16 : decode b_Model_effect 16 = .ok (.aload_n 0, 1) := by decide +kernel
theorem d_Model_effect_17 : decode b_Model_effect 17 = .ok (.getfield 33, 3) := by decide +kernel
theorem d_Model_effect_20 : decode b_Model_effect 20 = .ok (.iload_n 3, 1) := by decide +kernel
theorem d_Model_effect_21 : decode b_Model_effect 21 = .ok (.iaload, 1) := by decide +kernel
theorem d_Model_effect_22 : decode b_Model_effect 22 = .ok (.istore 4, 2) := by decide +kernel
theorem d_Model_effect_24 : decode b_Model_effect 24 = .ok (.aload_n 0, 1) := by decide +kernel
theorem d_Model_effect_25 : decode b_Model_effect 25 = .ok (.lload_n 1, 1) := by decide +kernel
theorem d_Model_effect_26 : decode b_Model_effect 26 = .ok (.invokevirtual 94, 3) := by decide +kernel
theorem d_Model_effect_29 : decode b_Model_effect 29 = .ok (.lstore 5, 2) := by decide +kernel
theorem d_Model_effect_31 : decode b_Model_effect 31 = .ok (.lload 5, 2) := by decide +kernel
theorem d_Model_effect_33 : decode b_Model_effect 33 = .ok (.iload 4, 2) := by decide +kernel
theorem d_Model_effect_35 : decode b_Model_effect 35 = .ok (.invokestatic 78, 3) := by decide +kernel
theorem d_Model_effect_38 : decode b_Model_effect 38 = .ok (.ifCond .eq 9, 3) := by decide +kernel
theorem d_Model_effect_41 : decode b_Model_effect 41 = .ok (.sipush 1000, 3) := by decide +kernel
theorem d_Model_effect_44 : decode b_Model_effect 44 = .ok (.goto 12, 3) := by decide +kernel
theorem d_Model_effect_47 : decode b_Model_effect 47 = .ok (.iconst (-1), 1) := by decide +kernel
theorem d_Model_effect_48 : decode b_Model_effect 48 = .ok (.aload_n 0, 1) := by decide +kernel
theorem d_Model_effect_49 : decode b_Model_effect 49 = .ok (.lload_n 1, 1) := by decide +kernel
theorem d_Model_effect_50 : decode b_Model_effect 50 = .ok (.iload 4, 2) := by decide +kernel
theorem d_Model_effect_52 : decode b_Model_effect 52 = .ok (.invokevirtual 132, 3) := by decide +kernel
theorem d_Model_effect_55 : decode b_Model_effect 55 = .ok (.isub, 1) := by decide +kernel
theorem d_Model_effect_56 : decode b_Model_effect 56 = .ok (.ireturn, 1) := by decide +kernel
theorem d_Model_merge_0 : decode b_Model_merge 0 = .ok (.aload_n 0, 1) := by decide +kernel
theorem d_Model_merge_1 : decode b_Model_merge 1 = .ok (.getfield 45, 3) := by decide +kernel
theorem d_Model_merge_4 : decode b_Model_merge 4 = .ok (.iload_n 1, 1) := by decide +kernel
theorem d_Model_merge_5 : decode b_Model_merge 5 = .ok (.laload, 1) := by decide +kernel
theorem d_Model_merge_6 : decode b_Model_merge 6 = .ok (.lstore 4, 2) := by decide +kernel
theorem d_Model_merge_8 : decode b_Model_merge 8 = .ok (.aload_n 0, 1) := by decide +kernel
theorem d_Model_merge_9 : decode b_Model_merge 9 = .ok (.lload 4, 2) := by decide +kernel
theorem d_Model_merge_11 : decode b_Model_merge 11 = .ok (.lload_n 2, 1) := by decide +kernel
theorem d_Model_merge_12 : decode b_Model_merge 12 = .ok (.lor, 1) := by decide +kernel
theorem d_Model_merge_13 : decode b_Model_merge 13 = .ok (.lload 4, 2) := by decide +kernel
theorem d_Model_merge_15 : decode b_Model_merge 15 = .ok (.invokevirtual 170, 3) := by decide +kernel
theorem d_Model_merge_18 : decode b_Model_merge 18 = .ok (.istore 6, 2) := by decide +kernel
theorem d_Model_merge_20 : decode b_Model_merge 20 = .ok (.iload 6, 2) := by decide +kernel
theorem d_Model_merge_22 : decode b_Model_merge 22 = .ok (.ifCond .ge 7, 3) := by decide +kernel
theorem d_Model_merge_25 : decode b_Model_merge 25 = .ok (.lconst 0, 1) := by decide +kernel
theorem d_Model_merge_26 : decode b_Model_merge 26 = .ok (.goto 16, 3) := by decide +kernel
theorem d_Model_merge_29 : decode b_Model_merge 29 = .ok (.aload_n 0, 1) := by decide +kernel
theorem d_Model_merge_30 : decode b_Model_merge 30 = .ok (.getfield 26, 3) := by decide +kernel
theorem d_Model_merge_33 : decode b_Model_merge 33 = .ok (.iload 6, 2) := by decide +kernel
theorem d_Model_merge_35 : decode b_Model_merge 35 = .ok (.laload, 1) := by decide +kernel
theorem d_Model_merge_36 : decode b_Model_merge 36 = .ok (.iload 6, 2) := by decide +kernel
theorem d_Model_merge_38 : decode b_Model_merge 38 = .ok (.invokestatic 90, 3) := by decide +kernel
theorem d_Model_merge_41 : decode b_Model_merge 41 = .ok (.lor, 1) := by decide +kernel
theorem d_Model_merge_42 : decode b_Model_merge 42 = .ok (.lstore 7, 2) := by decide +kernel
theorem d_Model_merge_44 : decode b_Model_merge 44 = .ok (.aload_n 0, 1) := by decide +kernel
theorem d_Model_merge_45 : decode b_Model_merge 45 = .ok (.lload 4, 2) := by decide +kernel
theorem d_Model_merge_47 : decode b_Model_merge 47 = .ok (.lload 7, 2) := by decide +kernel
theorem d_Model_merge_49 : decode b_Model_merge 49 = .ok (.ldc2_w 108, 3) := by decide +kernel
theorem d_Model_merge_52 : decode b_Model_merge 52 = .ok (.lxor, 1) := by decide +kernel
theorem d_Model_merge_53 : decode b_Model_merge 53 = .ok (.land, 1) := by decide +kernel
theorem d_Model_merge_54 : decode b_Model_merge 54 = .ok (.invokevirtual 174, 3) := by decide +kernel
theorem d_Model_merge_57 : decode b_Model_merge 57 = .ok (.aload_n 0, 1) := by decide +kernel
theorem d_Model_merge_58 : decode b_Model_merge 58 = .ok (.getfield 60, 3) := by decide +kernel
theorem d_Model_merge_61 : decode b_Model_merge 61 = .ok (.iload_n 1, 1) := by decide +kernel
theorem d_Model_merge_62 : decode b_Model_merge 62 = .ok (.aload_n 0, 1) := by decide +kernel
theorem d_Model_merge_63 : decode b_Model_merge 63 = .ok (.getfield 139, 3) := by decide +kernel
theorem d_Model_merge_66 : decode b_Model_merge 66 = .ok (.iastore, 1) := by decide +kernel
theorem d_Model_merge_67 : decode b_Model_merge 67 = .ok (.iconst 0, 1) := by decide +kernel
theorem d_Model_merge_68 : decode b_Model_merge 68 = .ok (.istore 9, 2) := by decide +kernel
theorem d_Model_merge_70 : decode b_Model_merge 70 = .ok (.lload 7, 2) := by decide +kernel
theorem d_Model_merge_72 : decode b_Model_merge 72 = .ok (.lstore 10, 2) := by decide +kernel
theorem d_Model_merge_74 : decode b_Model_merge 74 = .ok (.iconst 0, 1) := by decide +kernel
theorem d_Model_merge_75 : decode b_Model_merge 75 = .ok (.istore 12, 2) := by decide +kernel
theorem d_Model_merge_77 : decode b_Model_merge 77 = .ok (.iload 12, 2) := by decide +kernel
theorem d_Model_merge_79 : decode b_Model_merge 79 = .ok (.aload_n 0, 1) := by decide +kernel
theorem d_Model_merge_80 : decode b_Model_merge 80 = .ok (.getfield 139, 3) := by decide +kernel
theorem d_Model_merge_83 : decode b_Model_merge 83 = .ok (.if_icmp .ge 51, 3) := by decide +kernel
theorem d_Model_merge_86 : decode b_Model_merge 86 = .ok (.aload_n 0, 1) := by decide +kernel
theorem d_Model_merge_87 : decode b_Model_merge 87 = .ok (.getfield 72, 3) := by decide +kernel
theorem d_Model_merge_90 : decode b_Model_merge 90 = .ok (.iload 12, 2) := by decide +kernel
theorem d_Model_merge_92 : decode b_Model_merge 92 = .ok (.iaload, 1) := by decide +kernel
theorem d_Model_merge_93 : decode b_Model_merge 93 = .ok (.istore 13, 2) := by decide +kernel
theorem d_Model_merge_95 : decode b_Model_merge 95 = .ok (.iload 9, 2) := by decide +kernel
theorem d_Model_merge_97 : decode b_Model_merge 97 = .ok (.lload 10, 2) := by decide +kernel
theorem d_Model_merge_99 : decode b_Model_merge 99 = .ok (.aload_n 0, 1) := by decide +kernel
theorem d_Model_merge_100 : decode b_Model_merge 100 = .ok (.getfield 26, 3) := by decide +kernel
theorem d_Model_merge_103 : decode b_Model_merge 103 = .ok (.iload 13, 2) := by decide +kernel
theorem d_Model_merge_105 : decode b_Model_merge 105 = .ok (.laload, 1) := by decide +kernel
theorem d_Model_merge_106 : decode b_Model_merge 106 = .ok (.lxor, 1) := by decide +kernel
theorem d_Model_merge_107 : decode b_Model_merge 107 = .ok (.invokestatic 159, 3) := by decide +kernel
theorem d_Model_merge_110 : decode b_Model_merge 110 = .ok (.iadd, 1) := by decide +kernel
theorem d_Model_merge_111 : decode b_Model_merge 111 = .ok (.istore 9, 2) := by decide +kernel
theorem d_Model_merge_113 : decode b_Model_merge 113 = .ok (.aload_n 0, 1) := by decide +kernel
theorem d_Model_merge_114 : decode b_Model_merge 114 = .ok (.getfield 26, 3) := by decide +kernel
theorem d_Model_merge_117 : decode b_Model_merge 117 = .ok (.iload 13, 2) := by decide +kernel
theorem d_Model_merge_119 : decode b_Model_merge 119 = .ok (.laload, 1) := by decide +kernel
theorem d_Model_merge_120 : decode b_Model_merge 120 = .ok (.iload 13, 2) := by decide +kernel
theorem d_Model_merge_122 : decode b_Model_merge 122 = .ok (.invokestatic 90, 3) := by decide +kernel
theorem d_Model_merge_125 : decode b_Model_merge 125 = .ok (.lor, 1) := by decide +kernel
theorem d_Model_merge_126 : decode b_Model_merge 126 = .ok (.lstore 10, 2) := by decide +kernel
theorem d_Model_merge_128 : decode b_Model_merge 128 = .ok (.iinc 12 1, 3) := by decide +kernel
theorem d_Model_merge_131 : decode b_Model_merge 131 = .ok (.goto (-54), 3) := by decide +kernel
theorem d_Model_merge_134 : decode b_Model_merge 134 = .ok (.aload_n 0, 1) := by decide +kernel
theorem d_Model_merge_135 : decode b_Model_merge 135 = .ok (.lload_n 2, 1) := by decide +kernel
theorem d_Model_merge_136 : decode b_Model_merge 136 = .ok (.invokevirtual 174, 3) := by decide +kernel
theorem d_Model_merge_139 : decode b_Model_merge 139 = .ok (.lload 4, 2) := by decide +kernel
theorem d_Model_merge_141 : decode b_Model_merge 141 = .ok (.lstore 12, 2) := by decide +kernel
theorem d_Model_merge_143 : decode b_Model_merge 143 = .ok (.iconst 0, 1) := by decide +kernel
theorem d_Model_merge_144 : decode b_Model_merge 144 = .ok (.istore 14, 2) := by decide +kernel
theorem d_Model_merge_146 : decode b_Model_merge 146 = .ok (.iload 14, 2) := by decide +kernel
theorem d_Model_merge_148 : decode b_Model_merge 148 = .ok (.aload_n 0, 1) := by decide +kernel
theorem d_Model_merge_149 : decode b_Model_merge 149 = .ok (.getfield 139, 3) := by decide +kernel
theorem d_Model_merge_152 : decode b_Model_merge 152 = .ok (.if_icmp .ge 81, 3) := by decide +kernel
theorem d_Model_merge_155 : decode b_Model_merge 155 = .ok (.aload_n 0, 1) := by decide +kernel
theorem d_Model_merge_156 : decode b_Model_merge 156 = .ok (.getfield 72, 3) := by decide +kernel
theorem d_Model_merge_159 : decode b_Model_merge 159 = .ok (.iload 14, 2) := by decide +kernel
theorem d_Model_merge_161 : decode b_Model_merge 161 = .ok (.iaload, 1) := by decide +kernel
theorem d_Model_merge_162 : decode b_Model_merge 162 = .ok (.istore 15, 2) := by decide +kernel
theorem d_Model_merge_164 : decode b_Model_merge 164 = .ok (.iload 9, 2) := by decide +kernel
theorem d_Model_merge_166 : decode b_Model_merge 166 = .ok (.lload 10, 2) := by decide +kernel
theorem d_Model_merge_168 : decode b_Model_merge 168 = .ok (.aload_n 0, 1) := by decide +kernel
theorem d_Model_merge_169 : decode b_Model_merge 169 = .ok (.getfield 26, 3) := by decide +kernel
theorem d_Model_merge_172 : decode b_Model_merge 172 = .ok (.iload 15, 2) := by decide +kernel
theorem d_Model_merge_174 : decode b_Model_merge 174 = .ok (.laload, 1) := by decide +kernel
theorem d_Model_merge_175 : decode b_Model_merge 175 = .ok (.lxor, 1) := by decide +kernel
theorem d_Model_merge_176 : decode b_Model_merge 176 = .ok (.invokestatic 159, 3) := by decide +kernel
theorem d_Model_merge_179 : decode b_Model_merge 179 = .ok (.iadd, 1) := by decide +kernel
theorem d_Model_merge_180 : decode b_Model_merge 180 = .ok (.istore 9, 2) := by decide +kernel
theorem d_Model_merge_182 : decode b_Model_merge 182 = .ok (.aload_n 0, 1) := by decide +kernel
theorem d_Model_merge_183 : decode b_Model_merge 183 = .ok (.getfield 26, 3) := by decide +kernel
theorem d_Model_merge_186 : decode b_Model_merge 186 = .ok (.iload 15, 2) := by decide +kernel
theorem d_Model_merge_188 : decode b_Model_merge 188 = .ok (.laload, 1) := by decide +kernel
theorem d_Model_merge_189 : decode b_Model_merge 189 = .ok (.iload 15, 2) := by decide +kernel
theorem d_Model_merge_191 : decode b_Model_merge 191 = .ok (.invokestatic 90, 3) := by decide +kernel
theorem d_Model_merge_194 : decode b_Model_merge 194 = .ok (.lor, 1) := by decide +kernel
theorem d_Model_merge_195 : decode b_Model_merge 195 = .ok (.lstore 10, 2) := by decide +kernel
theorem d_Model_merge_197 : decode b_Model_merge 197 = .ok (.aload_n 0, 1) := by decide +kernel
theorem d_Model_merge_198 : decode b_Model_merge 198 = .ok (.getfield 69, 3) := by decide +kernel
theorem d_Model_merge_201 : decode b_Model_merge 201 = .ok (.bipush 40, 2) := by decide +kernel
theorem d_Model_merge_203 : decode b_Model_merge 203 = .ok (.iload_n 1, 1) := by decide +kernel
theorem d_Model_merge_204 : decode b_Model_merge 204 = .ok (.imul, 1) := by decide +kernel
theorem d_Model_merge_205 : decode b_Model_merge 205 = .ok (.iload 14, 2) := by decide +kernel
theorem d_Model_merge_207 : decode b_Model_merge 207 = .ok (.iadd, 1) := by decide +kernel
theorem d_Model_merge_208 : decode b_Model_merge 208 = .ok (.aload_n 0, 1) := by decide +kernel
theorem d_Model_merge_209 : decode b_Model_merge 209 = .ok (.lload 12, 2) := by decide +kernel
theorem d_Model_merge_211 : decode b_Model_merge 211 = .ok (.iload 15, 2) := by decide +kernel
theorem d_Model_merge_213 : decode b_Model_merge 213 = .ok (.invokevirtual 178, 3) := by decide +kernel
theorem d_Model_merge_216 : decode b_Model_merge 216 = .ok (.iastore, 1) := by decide +kernel
theorem d_Model_merge_217 : decode b_Model_merge 217 = .ok (.lload 12, 2) := by decide +kernel
theorem d_Model_merge_219 : decode b_Model_merge 219 = .ok (.iload 15, 2) := by decide +kernel
theorem d_Model_merge_221 : decode b_Model_merge 221 = .ok (.invokestatic 90, 3) := by decide +kernel
theorem d_Model_merge_224 : decode b_Model_merge 224 = .ok (.lor, 1) := by decide +kernel
theorem d_Model_merge_225 : decode b_Model_merge 225 = .ok (.lstore 12, 2) := by decide +kernel
theorem d_Model_merge_227 : decode b_Model_merge 227 = .ok (.iinc 14 1, 3) := by decide +kernel
theorem d_Model_merge_230 : decode b_Model_merge 230 = .ok (.goto (-84), 3) := by decide +kernel
theorem d_Model_merge_233 : decode b_Model_merge 233 = .ok (.aload_n 0, 1) := by decide +kernel
theorem d_Model_merge_234 : decode b_Model_merge 234 = .ok (.getfield 63, 3) := by decide +kernel
theorem d_Model_merge_237 : decode b_Model_merge 237 = .ok (.iload_n 1, 1) := by decide +kernel
theorem d_Model_merge_238 : decode b_Model_merge 238 = .ok (.iload 9, 2) := by decide +kernel
theorem d_Model_merge_240 : decode b_Model_merge 240 = .ok (.iastore, 1) := by decide +kernel
theorem d_Model_merge_241 : decode b_Model_merge 241 = .ok (.aload_n 0, 1) := by decide +kernel
theorem d_Model_merge_242 : decode b_Model_merge 242 = .ok (.getfield 66, 3) := by decide +kernel
theorem d_Model_merge_245 : decode b_Model_merge 245 = .ok (.iload_n 1, 1) := by decide +kernel
theorem d_Model_merge_246 : decode b_Model_merge 246 = .ok (.aload_n 0, 1) := by decide +kernel
theorem d_Model_merge_247 : decode b_Model_merge 247 = .ok (.getfield 139, 3) := by decide +kernel
theorem d_Model_merge_250 : decode b_Model_merge 250 = .ok (.iastore, 1) := by decide +kernel
theorem d_Model_merge_251 : decode b_Model_merge 251 = .ok (.aload_n 0, 1) := by decide +kernel
theorem d_Model_merge_252 : decode b_Model_merge 252 = .ok (.getfield 45, 3) := by decide +kernel
theorem d_Model_merge_255 : decode b_Model_merge 255 = .ok (.iload_n 1, 1) := by decide +kernel
theorem d_Model_merge_256 : decode b_Model_merge 256 = .ok (.lload 12, 2) := by decide +kernel
theorem d_Model_merge_258 : decode b_Model_merge 258 = .ok (.lastore, 1) := by decide +kernel
theorem d_Model_merge_259 : decode b_Model_merge 259 = .ok (.return_, 1) := by decide +kernel
theorem d_Model_deliver_0 : decode b_Model_deliver 0 = .ok (.aload_n 0, 1) := by decide +kernel
theorem d_Model_deliver_1 : decode b_Model_deliver 1 = .ok (.iload_n 1, 1) := by decide +kernel
theorem d_Model_deliver_2 : decode b_Model_deliver 2 = .ok (.invokevirtual 149, 3) := by decide +kernel
theorem d_Model_deliver_5 : decode b_Model_deliver 5 = .ok (.ifCond .eq 7, 3) := by decide +kernel
theorem d_Model_deliver_8 : decode b_Model_deliver 8 = .ok (.sipush (-1000), 3) := by decide +kernel
theorem d_Model_deliver_11 : decode b_Model_deliver 11 = .ok (.ireturn, 1) := by decide +kernel
theorem d_Model_deliver_12 : decode b_Model_deliver 12 = .ok (.aload_n 0, 1) := by decide +kernel
theorem d_Model_deliver_13 : decode b_Model_deliver 13 = .ok (.getfield 57, 3) := by decide +kernel
theorem d_Model_deliver_16 : decode b_Model_deliver 16 = .ok (.iload_n 1, 1) := by decide +kernel
theorem d_Model_deliver_17 : decode b_Model_deliver 17 = .ok (.iaload, 1) := by decide +kernel
theorem d_Model_deliver_18 : decode b_Model_deliver 18 = .ok (.istore_n 2, 1) := by decide +kernel
theorem d_Model_deliver_19 : decode b_Model_deliver 19 = .ok (.aload_n 0, 1) := by decide +kernel
theorem d_Model_deliver_20 : decode b_Model_deliver 20 = .ok (.getfield 51, 3) := by decide +kernel
theorem d_Model_deliver_23 : decode b_Model_deliver 23 = .ok (.iload_n 1, 1) := by decide +kernel
theorem d_Model_deliver_24 : decode b_Model_deliver 24 = .ok (.laload, 1) := by decide +kernel
theorem d_Model_deliver_25 : decode b_Model_deliver 25 = .ok (.lstore_n 3, 1) := by decide +kernel
theorem d_Model_deliver_26 : decode b_Model_deliver 26 = .ok (.iconst 0, 1) := by decide +kernel
theorem d_Model_deliver_27 : decode b_Model_deliver 27 = .ok (.istore 5, 2) := by decide +kernel
theorem d_Model_deliver_29 : decode b_Model_deliver 29 = .ok (.iload 5, 2) := by decide +kernel
theorem d_Model_deliver_31 : decode b_Model_deliver 31 = .ok (.aload_n 0, 1) := by decide +kernel
theorem d_Model_deliver_32 : decode b_Model_deliver 32 = .ok (.getfield 86, 3) := by decide +kernel
theorem d_Model_deliver_35 : decode b_Model_deliver 35 = .ok (.if_icmp .ge 45, 3) := by decide +kernel
theorem d_Model_deliver_38 : decode b_Model_deliver 38 = .ok (.lload_n 3, 1) := by decide +kernel
theorem d_Model_deliver_39 : decode b_Model_deliver 39 = .ok (.iload 5, 2) := by decide +kernel
theorem d_Model_deliver_41 : decode b_Model_deliver 41 = .ok (.invokestatic 78, 3) := by decide +kernel
theorem d_Model_deliver_44 : decode b_Model_deliver 44 = .ok (.ifCond .eq 30, 3) := by decide +kernel
theorem d_Model_deliver_47 : decode b_Model_deliver 47 = .ok (.aload_n 0, 1) := by decide +kernel
theorem d_Model_deliver_48 : decode b_Model_deliver 48 = .ok (.getfield 30, 3) := by decide +kernel
theorem d_Model_deliver_51 : decode b_Model_deliver 51 = .ok (.iload 5, 2) := by decide +kernel
theorem d_Model_deliver_53 : decode b_Model_deliver 53 = .ok (.laload, 1) := by decide +kernel
theorem d_Model_deliver_54 : decode b_Model_deliver 54 = .ok (.lload_n 3, 1) := by decide +kernel
theorem d_Model_deliver_55 : decode b_Model_deliver 55 = .ok (.aload_n 0, 1) := by decide +kernel
theorem d_Model_deliver_56 : decode b_Model_deliver 56 = .ok (.getfield 45, 3) := by decide +kernel
theorem d_Model_deliver_59 : decode b_Model_deliver 59 = .ok (.iload_n 2, 1) := by decide +kernel
theorem d_Model_deliver_60 : decode b_Model_deliver 60 = .ok (.laload, 1) := by decide +kernel
theorem d_Model_deliver_61 : decode b_Model_deliver 61 = .ok (.lor, 1) := by decide +kernel
theorem d_Model_deliver_62 : decode b_Model_deliver 62 = .ok (.ldc2_w 108, 3) := by decide +kernel
theorem d_Model_deliver_65 : decode b_Model_deliver 65 = .ok (.lxor, 1) := by decide +kernel
theorem d_Model_deliver_66 : decode b_Model_deliver 66 = .ok (.land, 1) := by decide +kernel
theorem d_Model_deliver_67 : decode b_Model_deliver 67 = .ok (.lconst 0, 1) := by decide +kernel
theorem d_Model_deliver_68 : decode b_Model_deliver 68 = .ok (.lcmp, 1) := by decide +kernel
theorem d_Model_deliver_69 : decode b_Model_deliver 69 = .ok (.ifCond .eq 5, 3) := by decide +kernel
theorem d_Model_deliver_72 : decode b_Model_deliver 72 = .ok (.iconst (-1), 1) := by decide +kernel
theorem d_Model_deliver_73 : decode b_Model_deliver 73 = .ok (.ireturn, 1) := by decide +kernel
theorem d_Model_deliver_74 : decode b_Model_deliver 74 = .ok (.iinc 5 1, 3) := by decide +kernel
theorem d_Model_deliver_77 : decode b_Model_deliver 77 = .ok (.goto (-48), 3) := by decide +kernel
theorem d_Model_deliver_80 : decode b_Model_deliver 80 = .ok (.aload_n 0, 1) := by decide +kernel
theorem d_Model_deliver_81 : decode b_Model_deliver 81 = .ok (.getfield 48, 3) := by decide +kernel
theorem d_Model_deliver_84 : decode b_Model_deliver 84 = .ok (.iconst 3, 1) := by decide +kernel
theorem d_Model_deliver_85 : decode b_Model_deliver 85 = .ok (.iload_n 2, 1) := by decide +kernel
theorem d_Model_deliver_86 : decode b_Model_deliver 86 = .ok (.imul, 1) := by decide +kernel
theorem d_Model_deliver_87 : decode b_Model_deliver 87 = .ok (.aload_n 0, 1) := by decide +kernel
theorem d_Model_deliver_88 : decode b_Model_deliver 88 = .ok (.getfield 54, 3) := by decide +kernel
theorem d_Model_deliver_91 : decode b_Model_deliver 91 = .ok (.iload_n 1, 1) := by decide +kernel
