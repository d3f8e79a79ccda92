theorem d_Model_deliver_92 : decode b_Model_deliver 92 = .ok (.iaload, 1) := by decide +kernel
theorem d_Model_deliver_93 : decode b_Model_deliver 93 = .ok (.iadd, 1) := by decide +kernel
theorem d_Model_deliver_94 : decode b_Model_deliver 94 = .ok (.dup2, 1) := by decide +kernel
theorem d_Model_deliver_95 : decode b_Model_deliver 95 = .ok (.laload, 1) := by decide +kernel
theorem d_Model_deliver_96 : decode b_Model_deliver 96 = .ok (.aload_n 0, 1) := by decide +kernel
theorem d_Model_deliver_97 : decode b_Model_deliver 97 = .ok (.lload_n 3, 1) := by decide +kernel
theorem d_Model_deliver_98 : decode b_Model_deliver 98 = .ok (.invokevirtual 152, 3) := by decide +kernel
theorem d_Model_deliver_101 : decode b_Model_deliver 101 = .ok (.lor, 1) := by decide +kernel
theorem d_Model_deliver_102 : decode b_Model_deliver 102 = .ok (.lastore, 1) := by decide +kernel
theorem d_Model_deliver_103 : decode b_Model_deliver 103 = .ok (.lload_n 3, 1) := by decide +kernel
theorem d_Model_deliver_104 : decode b_Model_deliver 104 = .ok (.aload_n 0, 1) := by decide +kernel
theorem d_Model_deliver_105 : decode b_Model_deliver 105 = .ok (.getfield 45, 3) := by decide +kernel
theorem d_Model_deliver_108 : decode b_Model_deliver 108 = .ok (.iload_n 2, 1) := by decide +kernel
theorem d_Model_deliver_109 : decode b_Model_deliver 109 = .ok (.laload, 1) := by decide +kernel
theorem d_Model_deliver_110 : decode b_Model_deliver 110 = .ok (.ldc2_w 108, 3) := by decide +kernel
theorem d_Model_deliver_113 : decode b_Model_deliver 113 = .ok (.lxor, 1) := by decide +kernel
theorem d_Model_deliver_114 : decode b_Model_deliver 114 = .ok (.land, 1) := by decide +kernel
theorem d_Model_deliver_115 : decode b_Model_deliver 115 = .ok (.lstore 5, 2) := by decide +kernel
theorem d_Model_deliver_117 : decode b_Model_deliver 117 = .ok (.lload 5, 2) := by decide +kernel
theorem d_Model_deliver_119 : decode b_Model_deliver 119 = .ok (.lconst 0, 1) := by decide +kernel
theorem d_Model_deliver_120 : decode b_Model_deliver 120 = .ok (.lcmp, 1) := by decide +kernel
theorem d_Model_deliver_121 : decode b_Model_deliver 121 = .ok (.ifCond .eq 10, 3) := by decide +kernel
theorem d_Model_deliver_124 : decode b_Model_deliver 124 = .ok (.aload_n 0, 1) := by decide +kernel
theorem d_Model_deliver_125 : decode b_Model_deliver 125 = .ok (.iload_n 2, 1) := by decide +kernel
theorem d_Model_deliver_126 : decode b_Model_deliver 126 = .ok (.lload 5, 2) := by decide +kernel
theorem d_Model_deliver_128 : decode b_Model_deliver 128 = .ok (.invokevirtual 163, 3) := by decide +kernel
theorem d_Model_deliver_131 : decode b_Model_deliver 131 = .ok (.lload 5, 2) := by decide +kernel
theorem d_Model_deliver_133 : decode b_Model_deliver 133 = .ok (.invokestatic 159, 3) := by decide +kernel
theorem d_Model_deliver_136 : decode b_Model_deliver 136 = .ok (.ireturn, 1) := by decide +kernel
theorem d_Model_put_0 : decode b_Model_put 0 = .ok (.iload_n 1, 1) := by decide +kernel
theorem d_Model_put_1 : decode b_Model_put 1 = .ok (.istore_n 2, 1) := by decide +kernel
theorem d_Model_put_2 : decode b_Model_put 2 = .ok (.iconst 0, 1) := by decide +kernel
theorem d_Model_put_3 : decode b_Model_put 3 = .ok (.istore_n 3, 1) := by decide +kernel
theorem d_Model_put_4 : decode b_Model_put 4 = .ok (.iload_n 3, 1) := by decide +kernel
theorem d_Model_put_5 : decode b_Model_put 5 = .ok (.iconst 5, 1) := by decide +kernel
theorem d_Model_put_6 : decode b_Model_put 6 = .ok (.if_icmp .ge 49, 3) := by decide +kernel
theorem d_Model_put_9 : decode b_Model_put 9 = .ok (.iload_n 2, 1) := by decide +kernel
theorem d_Model_put_10 : decode b_Model_put 10 = .ok (.bipush 127, 2) := by decide +kernel
theorem d_Model_put_12 : decode b_Model_put 12 = .ok (.if_icmp .le 43, 3) := by decide +kernel
theorem d_Model_put_15 : decode b_Model_put 15 = .ok (.aload_n 0, 1) := by decide +kernel
theorem d_Model_put_16 : decode b_Model_put 16 = .ok (.getfield 75, 3) := by decide +kernel
theorem d_Model_put_19 : decode b_Model_put 19 = .ok (.aload_n 0, 1) := by decide +kernel
theorem d_Model_put_20 : decode b_Model_put 20 = .ok (.getfield 181, 3) := by decide +kernel
theorem d_Model_put_23 : decode b_Model_put 23 = .ok (.iload_n 2, 1) := by decide +kernel
theorem d_Model_put_24 : decode b_Model_put 24 = .ok (.sipush 128, 3) := by decide +kernel
theorem d_Model_put_27 : decode b_Model_put 27 = .ok (.irem, 1) := by decide +kernel
theorem d_Model_put_28 : decode b_Model_put 28 = .ok (.sipush 128, 3) := by decide +kernel
theorem d_Model_put_31 : decode b_Model_put 31 = .ok (.iadd, 1) := by decide +kernel
theorem d_Model_put_32 : decode b_Model_put 32 = .ok (.iastore, 1) := by decide +kernel
theorem d_Model_put_33 : decode b_Model_put 33 = .ok (.aload_n 0, 1) := by decide +kernel
theorem d_Model_put_34 : decode b_Model_put 34 = .ok (.dup, 1) := by decide +kernel
theorem d_Model_put_35 : decode b_Model_put 35 = .ok (.getfield 181, 3) := by decide +kernel
theorem d_Model_put_38 : decode b_Model_put 38 = .ok (.iconst 1, 1) := by decide +kernel
theorem d_Model_put_39 : decode b_Model_put 39 = .ok (.iadd, 1) := by decide +kernel
theorem d_Model_put_40 : decode b_Model_put 40 = .ok (.putfield 181, 3) := by decide +kernel
theorem d_Model_put_43 : decode b_Model_put 43 = .ok (.iload_n 2, 1) := by decide +kernel
theorem d_Model_put_44 : decode b_Model_put 44 = .ok (.sipush 128, 3) := by decide +kernel
theorem d_Model_put_47 : decode b_Model_put 47 = .ok (.idiv, 1) := by decide +kernel
theorem d_Model_put_48 : decode b_Model_put 48 = .ok (.istore_n 2, 1) := by decide +kernel
theorem d_Model_put_49 : decode b_Model_put 49 = .ok (.iinc 3 1, 3) := by decide +kernel
theorem d_Model_put_52 : decode b_Model_put 52 = .ok (.goto (-48), 3) := by decide +kernel
theorem d_Model_put_55 : decode b_Model_put 55 = .ok (.aload_n 0, 1) := by decide +kernel
theorem d_Model_put_56 : decode b_Model_put 56 = .ok (.getfield 75, 3) := by decide +kernel
theorem d_Model_put_59 : decode b_Model_put 59 = .ok (.aload_n 0, 1) := by decide +kernel
theorem d_Model_put_60 : decode b_Model_put 60 = .ok (.getfield 181, 3) := by decide +kernel
theorem d_Model_put_63 : decode b_Model_put 63 = .ok (.iload_n 2, 1) := by decide +kernel
theorem d_Model_put_64 : decode b_Model_put 64 = .ok (.iastore, 1) := by decide +kernel
theorem d_Model_put_65 : decode b_Model_put 65 = .ok (.aload_n 0, 1) := by decide +kernel
theorem d_Model_put_66 : decode b_Model_put 66 = .ok (.dup, 1) := by decide +kernel
theorem d_Model_put_67 : decode b_Model_put 67 = .ok (.getfield 181, 3) := by decide +kernel
theorem d_Model_put_70 : decode b_Model_put 70 = .ok (.iconst 1, 1) := by decide +kernel
theorem d_Model_put_71 : decode b_Model_put 71 = .ok (.iadd, 1) := by decide +kernel
theorem d_Model_put_72 : decode b_Model_put 72 = .ok (.putfield 181, 3) := by decide +kernel
theorem d_Model_put_75 : decode b_Model_put 75 = .ok (.return_, 1) := by decide +kernel
theorem d_Model_putSigned_0 : decode b_Model_putSigned 0 = .ok (.aload_n 0, 1) := by decide +kernel
theorem d_Model_putSigned_1 : decode b_Model_putSigned 1 = .ok (.iload_n 1, 1) := by decide +kernel
theorem d_Model_putSigned_2 : decode b_Model_putSigned 2 = .ok (.ifCond .ge 12, 3) := by decide +kernel
theorem d_Model_putSigned_5 : decode b_Model_putSigned 5 = .ok (.bipush (-2), 2) := by decide +kernel
theorem d_Model_putSigned_7 : decode b_Model_putSigned 7 = .ok (.iload_n 1, 1) := by decide +kernel
theorem d_Model_putSigned_8 : decode b_Model_putSigned 8 = .ok (.imul, 1) := by decide +kernel
theorem d_Model_putSigned_9 : decode b_Model_putSigned 9 = .ok (.iconst 1, 1) := by decide +kernel
theorem d_Model_putSigned_10 : decode b_Model_putSigned 10 = .ok (.isub, 1) := by decide +kernel
theorem d_Model_putSigned_11 : decode b_Model_putSigned 11 = .ok (.goto 6, 3) := by decide +kernel
theorem d_Model_putSigned_14 : decode b_Model_putSigned 14 = .ok (.iconst 2, 1) := by decide +kernel
theorem d_Model_putSigned_15 : decode b_Model_putSigned 15 = .ok (.iload_n 1, 1) := by decide +kernel
theorem d_Model_putSigned_16 : decode b_Model_putSigned 16 = .ok (.imul, 1) := by decide +kernel
theorem d_Model_putSigned_17 : decode b_Model_putSigned 17 = .ok (.invokevirtual 184, 3) := by decide +kernel
theorem d_Model_putSigned_20 : decode b_Model_putSigned 20 = .ok (.return_, 1) := by decide +kernel
theorem d_Model_putRuns_0 : decode b_Model_putRuns 0 = .ok (.iconst 0, 1) := by decide +kernel
theorem d_Model_putRuns_1 : decode b_Model_putRuns 1 = .ok (.istore_n 1, 1) := by decide +kernel
theorem d_Model_putRuns_2 : decode b_Model_putRuns 2 = .ok (.iload_n 1, 1) := by decide +kernel
theorem d_Model_putRuns_3 : decode b_Model_putRuns 3 = .ok (.aload_n 0, 1) := by decide +kernel
theorem d_Model_putRuns_4 : decode b_Model_putRuns 4 = .ok (.getfield 139, 3) := by decide +kernel
theorem d_Model_putRuns_7 : decode b_Model_putRuns 7 = .ok (.if_icmp .ge 82, 3) := by decide +kernel
theorem d_Model_putRuns_10 : decode b_Model_putRuns 10 = .ok (.aload_n 0, 1) := by decide +kernel
theorem d_Model_putRuns_11 : decode b_Model_putRuns 11 = .ok (.getfield 72, 3) := by decide +kernel
theorem d_Model_putRuns_14 : decode b_Model_putRuns 14 = .ok (.iload_n 1, 1) := by decide +kernel
theorem d_Model_putRuns_15 : decode b_Model_putRuns 15 = .ok (.iaload, 1) := by decide +kernel
theorem d_Model_putRuns_16 : decode b_Model_putRuns 16 = .ok (.istore_n 2, 1) := by decide +kernel
theorem d_Model_putRuns_17 : decode b_Model_putRuns 17 = .ok (.iconst 1, 1) := by decide +kernel
theorem d_Model_putRuns_18 : decode b_Model_putRuns 18 = .ok (.istore_n 3, 1) := by decide +kernel
theorem d_Model_putRuns_19 : decode b_Model_putRuns 19 = .ok (.iload_n 1, 1) := by decide +kernel
theorem d_Model_putRuns_20 : decode b_Model_putRuns 20 = .ok (.iload_n 3, 1) := by decide +kernel
theorem d_Model_putRuns_21 : decode b_Model_putRuns 21 = .ok (.iadd, 1) := by decide +kernel
theorem d_Model_putRuns_22 : decode b_Model_putRuns 22 = .ok (.aload_n 0, 1) := by decide +kernel
theorem d_Model_putRuns_23 : decode b_Model_putRuns 23 = .ok (.getfield 139, 3) := by decide +kernel
theorem d_Model_putRuns_26 : decode b_Model_putRuns 26 = .ok (.if_icmp .ge 31, 3) := by decide +kernel
theorem d_Model_putRuns_29 : decode b_Model_putRuns 29 = .ok (.aload_n 0, 1) := by decide +kernel
theorem d_Model_putRuns_30 : decode b_Model_putRuns 30 = .ok (.getfield 7, 3) := by decide +kernel
theorem d_Model_putRuns_33 : decode b_Model_putRuns 33 = .ok (.aload_n 0, 1) := by decide +kernel
theorem d_Model_putRuns_34 : decode b_Model_putRuns 34 = .ok (.getfield 72, 3) := by decide +kernel
theorem d_Model_putRuns_37 : decode b_Model_putRuns 37 = .ok (.iload_n 1, 1) := by decide +kernel
theorem d_Model_putRuns_38 : decode b_Model_putRuns 38 = .ok (.iload_n 3, 1) := by decide +kernel
theorem d_Model_putRuns_39 : decode b_Model_putRuns 39 = .ok (.iadd, 1) := by decide +kernel
theorem d_Model_putRuns_40 : decode b_Model_putRuns 40 = .ok (.iaload, 1) := by decide +kernel
theorem d_Model_putRuns_41 : decode b_Model_putRuns 41 = .ok (.iaload, 1) := by decide +kernel
theorem d_Model_putRuns_42 : decode b_Model_putRuns 42 = .ok (.aload_n 0, 1) := by decide +kernel
theorem d_Model_putRuns_43 : decode b_Model_putRuns 43 = .ok (.getfield 7, 3) := by decide +kernel
theorem d_Model_putRuns_46 : decode b_Model_putRuns 46 = .ok (.iload_n 2, 1) := by decide +kernel
theorem d_Model_putRuns_47 : decode b_Model_putRuns 47 = .ok (.iaload, 1) := by decide +kernel
theorem d_Model_putRuns_48 : decode b_Model_putRuns 48 = .ok (.if_icmp .ne 9, 3) := by decide +kernel
theorem d_Model_putRuns_51 : decode b_Model_putRuns 51 = .ok (.iinc 3 1, 3) := by decide +kernel
theorem d_Model_putRuns_54 : decode b_Model_putRuns 54 = .ok (.goto (-35), 3) := by decide +kernel
theorem d_Model_putRuns_57 : decode b_Model_putRuns 57 = .ok (.aload_n 0, 1) := by decide +kernel
theorem d_Model_putRuns_58 : decode b_Model_putRuns 58 = .ok (.aload_n 0, 1) := by decide +kernel
theorem d_Model_putRuns_59 : decode b_Model_putRuns 59 = .ok (.getfield 7, 3) := by decide +kernel
theorem d_Model_putRuns_62 : decode b_Model_putRuns 62 = .ok (.iload_n 2, 1) := by decide +kernel
theorem d_Model_putRuns_63 : decode b_Model_putRuns 63 = .ok (.iaload, 1) := by decide +kernel
theorem d_Model_putRuns_64 : decode b_Model_putRuns 64 = .ok (.invokevirtual 184, 3) := by decide +kernel
theorem d_Model_putRuns_67 : decode b_Model_putRuns 67 = .ok (.aload_n 0, 1) := by decide +kernel
theorem d_Model_putRuns_68 : decode b_Model_putRuns 68 = .ok (.aload_n 0, 1) := by decide +kernel
theorem d_Model_putRuns_69 : decode b_Model_putRuns 69 = .ok (.getfield 13, 3) := by decide +kernel
theorem d_Model_putRuns_72 : decode b_Model_putRuns 72 = .ok (.iload_n 2, 1) := by decide +kernel
theorem d_Model_putRuns_73 : decode b_Model_putRuns 73 = .ok (.iaload, 1) := by decide +kernel
theorem d_Model_putRuns_74 : decode b_Model_putRuns 74 = .ok (.invokevirtual 184, 3) := by decide +kernel
theorem d_Model_putRuns_77 : decode b_Model_putRuns 77 = .ok (.aload_n 0, 1) := by decide +kernel
theorem d_Model_putRuns_78 : decode b_Model_putRuns 78 = .ok (.iload_n 3, 1) := by decide +kernel
theorem d_Model_putRuns_79 : decode b_Model_putRuns 79 = .ok (.invokevirtual 184, 3) := by decide +kernel
theorem d_Model_putRuns_82 : decode b_Model_putRuns 82 = .ok (.iload_n 1, 1) := by decide +kernel
theorem d_Model_putRuns_83 : decode b_Model_putRuns 83 = .ok (.iload_n 3, 1) := by decide +kernel
theorem d_Model_putRuns_84 : decode b_Model_putRuns 84 = .ok (.iadd, 1) := by decide +kernel
theorem d_Model_putRuns_85 : decode b_Model_putRuns 85 = .ok (.istore_n 1, 1) := by decide +kernel
theorem d_Model_putRuns_86 : decode b_Model_putRuns 86 = .ok (.goto (-84), 3) := by decide +kernel
theorem d_Model_putRuns_89 : decode b_Model_putRuns 89 = .ok (.iconst 1, 1) := by decide +kernel
theorem d_Model_putRuns_90 : decode b_Model_putRuns 90 = .ok (.istore_n 2, 1) := by decide +kernel
theorem d_Model_putRuns_91 : decode b_Model_putRuns 91 = .ok (.iconst 0, 1) := by decide +kernel
theorem d_Model_putRuns_92 : decode b_Model_putRuns 92 = .ok (.istore_n 3, 1) := by decide +kernel
theorem d_Model_putRuns_93 : decode b_Model_putRuns 93 = .ok (.iload_n 3, 1) := by decide +kernel
theorem d_Model_putRuns_94 : decode b_Model_putRuns 94 = .ok (.aload_n 0, 1) := by decide +kernel
theorem d_Model_putRuns_95 : decode b_Model_putRuns 95 = .ok (.getfield 139, 3) := by decide +kernel
theorem d_Model_putRuns_98 : decode b_Model_putRuns 98 = .ok (.if_icmp .ge 65, 3) := by decide +kernel
theorem d_Model_putRuns_101 : decode b_Model_putRuns 101 = .ok (.iconst 0, 1) := by decide +kernel
theorem d_Model_putRuns_102 : decode b_Model_putRuns 102 = .ok (.istore 4, 2) := by decide +kernel
theorem d_Model_putRuns_104 : decode b_Model_putRuns 104 = .ok (.iload_n 3, 1) := by decide +kernel
theorem d_Model_putRuns_105 : decode b_Model_putRuns 105 = .ok (.iload 4, 2) := by decide +kernel
theorem d_Model_putRuns_107 : decode b_Model_putRuns 107 = .ok (.iadd, 1) := by decide +kernel
theorem d_Model_putRuns_108 : decode b_Model_putRuns 108 = .ok (.aload_n 0, 1) := by decide +kernel
theorem d_Model_putRuns_109 : decode b_Model_putRuns 109 = .ok (.getfield 139, 3) := by decide +kernel
theorem d_Model_putRuns_112 : decode b_Model_putRuns 112 = .ok (.if_icmp .ge 27, 3) := by decide +kernel
theorem d_Model_putRuns_115 : decode b_Model_putRuns 115 = .ok (.aload_n 0, 1) := by decide +kernel
theorem d_Model_putRuns_116 : decode b_Model_putRuns 116 = .ok (.getfield 16, 3) := by decide +kernel
theorem d_Model_putRuns_119 : decode b_Model_putRuns 119 = .ok (.aload_n 0, 1) := by decide +kernel
theorem d_Model_putRuns_120 : decode b_Model_putRuns 120 = .ok (.getfield 72, 3) := by decide +kernel
theorem d_Model_putRuns_123 : decode b_Model_putRuns 123 = .ok (.iload_n 3, 1) := by decide +kernel
theorem d_Model_putRuns_124 : decode b_Model_putRuns 124 = .ok (.iload 4, 2) := by decide +kernel
theorem d_Model_putRuns_126 : decode b_Model_putRuns 126 = .ok (.iadd, 1) := by decide +kernel
theorem d_Model_putRuns_127 : decode b_Model_putRuns 127 = .ok (.iaload, 1) := by decide +kernel
theorem d_Model_putRuns_128 : decode b_Model_putRuns 128 = .ok (.baload, 1) := by decide +kernel
theorem d_Model_putRuns_129 : decode b_Model_putRuns 129 = .ok (.iload_n 2, 1) := by decide +kernel
theorem d_Model_putRuns_130 : decode b_Model_putRuns 130 = .ok (.if_icmp .ne 9, 3) := by decide +kernel
theorem d_Model_putRuns_133 : decode b_Model_putRuns 133 = .ok (.iinc 4 1, 3) := by decide +kernel
theorem d_Model_putRuns_136 : decode b_Model_putRuns 136 = .ok (.goto (-32), 3) := by decide +kernel
theorem d_Model_putRuns_139 : decode b_Model_putRuns 139 = .ok (.aload_n 0, 1) := by decide +kernel
theorem d_Model_putRuns_140 : decode b_Model_putRuns 140 = .ok (.iload 4, 2) := by decide +kernel
theorem d_Model_putRuns_142 : decode b_Model_putRuns 142 = .ok (.invokevirtual 184, 3) := by decide +kernel
theorem d_Model_putRuns_145 : decode b_Model_putRuns 145 = .ok (.iload_n 3, 1) := by decide +kernel
theorem d_Model_putRuns_146 : decode b_Model_putRuns 146 = .ok (.iload 4, 2) := by decide +kernel
theorem d_Model_putRuns_148 : decode b_Model_putRuns 148 = .ok (.iadd, 1) := by decide +kernel
theorem d_Model_putRuns_149 : decode b_Model_putRuns 149 = .ok (.istore_n 3, 1) := by decide +kernel
theorem d_Model_putRuns_150 : decode b_Model_putRuns 150 = .ok (.iload_n 2, 1) := by decide +kernel
theorem d_Model_putRuns_151 : decode b_Model_putRuns 151 = .ok (.ifCond .ne 7, 3) := by decide +kernel
theorem d_Model_putRuns_154 : decode b_Model_putRuns 154 = .ok (.iconst 1, 1) := by decide +kernel
theorem d_Model_putRuns_155 : decode b_Model_putRuns 155 = .ok (.goto 4, 3) := by decide +kernel
theorem d_Model_putRuns_158 : decode b_Model_putRuns 158 = .ok (.iconst 0, 1) := by decide +kernel
theorem d_Model_putRuns_159 : decode b_Model_putRuns 159 = .ok (.istore_n 2, 1) := by decide +kernel
theorem d_Model_putRuns_160 : decode b_Model_putRuns 160 = .ok (.goto (-67), 3) := by decide +kernel
theorem d_Model_putRuns_163 : decode b_Model_putRuns 163 = .ok (.return_, 1) := by decide +kernel
theorem d_Model_putParents_0 : decode b_Model_putParents 0 = .ok (.aload_n 0, 1) := by decide +kernel
theorem d_Model_putParents_1 : decode b_Model_putParents 1 = .ok (.getfield 72, 3) := by decide +kernel
theorem d_Model_putParents_4 : decode b_Model_putParents 4 = .ok (.iload_n 1, 1) := by decide +kernel
theorem d_Model_putParents_5 : decode b_Model_putParents 5 = .ok (.iaload, 1) := by decide +kernel
theorem d_Model_putParents_6 : decode b_Model_putParents 6 = .ok (.istore_n 2, 1) := by decide +kernel
theorem d_Model_putParents_7 : decode b_Model_putParents 7 = .ok (.iload_n 1, 1) := by decide +kernel
theorem d_Model_putParents_8 : decode b_Model_putParents 8 = .ok (.ifCond .le 30, 3) := by decide +kernel
theorem d_Model_putParents_11 : decode b_Model_putParents 11 = .ok (.aload_n 0, 1) := by decide +kernel
theorem d_Model_putParents_12 : decode b_Model_putParents 12 = .ok (.getfield 30, 3) := by decide +kernel
theorem d_Model_putParents_15 : decode b_Model_putParents 15 = .ok (.iload_n 2, 1) := by decide +kernel
theorem d_Model_putParents_16 : decode b_Model_putParents 16 = .ok (.laload, 1) := by decide +kernel
theorem d_Model_putParents_17 : decode b_Model_putParents 17 = .ok (.aload_n 0, 1) := by decide +kernel
theorem d_Model_putParents_18 : decode b_Model_putParents 18 = .ok (.getfield 72, 3) := by decide +kernel
theorem d_Model_putParents_21 : decode b_Model_putParents 21 = .ok (.iload_n 1, 1) := by decide +kernel
theorem d_Model_putParents_22 : decode b_Model_putParents 22 = .ok (.iconst 1, 1) := by decide +kernel
theorem d_Model_putParents_23 : decode b_Model_putParents 23 = .ok (.isub, 1) := by decide +kernel
theorem d_Model_putParents_24 : decode b_Model_putParents 24 = .ok (.iaload, 1) := by decide +kernel
theorem d_Model_putParents_25 : decode b_Model_putParents 25 = .ok (.invokestatic 90, 3) := by decide +kernel
theorem d_Model_putParents_28 : decode b_Model_putParents 28 = .ok (.lcmp, 1) := by decide +kernel
theorem d_Model_putParents_29 : decode b_Model_putParents 29 = .ok (.ifCond .ne 9, 3) := by decide +kernel
theorem d_Model_putParents_32 : decode b_Model_putParents 32 = .ok (.aload_n 0, 1) := by decide +kernel
theorem d_Model_putParents_33 : decode b_Model_putParents 33 = .ok (.iconst 0, 1) := by decide +kernel
theorem d_Model_putParents_34 : decode b_Model_putParents 34 = .ok (.invokevirtual 184, 3) := by decide +kernel
theorem d_Model_putParents_37 : decode b_Model_putParents 37 = .ok (.return_, 1) := by decide +kernel
theorem d_Model_putParents_38 : decode b_Model_putParents 38 = .ok (.aload_n 0, 1) := by decide +kernel
theorem d_Model_putParents_39 : decode b_Model_putParents 39 = .ok (.iconst 1, 1) := by decide +kernel
theorem d_Model_putParents_40 : decode b_Model_putParents 40 = .ok (.aload_n 0, 1) := by decide +kernel
theorem d_Model_putParents_41 : decode b_Model_putParents 41 = .ok (.getfield 30, 3) := by decide +kernel
theorem d_Model_putParents_44 : decode b_Model_putParents 44 = .ok (.iload_n 2, 1) := by decide +kernel
theorem d_Model_putParents_45 : decode b_Model_putParents 45 = .ok (.laload, 1) := by decide +kernel
theorem d_Model_putParents_46 : decode b_Model_putParents 46 = .ok (.invokestatic 159, 3) := by decide +kernel
theorem d_Model_putParents_49 : decode b_Model_putParents 49 = .ok (.iadd, 1) := by decide +kernel
theorem d_Model_putParents_50 : decode b_Model_putParents 50 = .ok (.invokevirtual 184, 3) := by decide +kernel
theorem d_Model_putParents_53 : decode b_Model_putParents 53 = .ok (.iconst 0, 1) := by decide +kernel
theorem d_Model_putParents_54 : decode b_Model_putParents 54 = .ok (.istore_n 3, 1) := by decide +kernel
theorem d_Model_putParents_55 : decode b_Model_putParents 55 = .ok (.iload_n 3, 1) := by decide +kernel
theorem d_Model_putParents_56 : decode b_Model_putParents 56 = .ok (.iconst 3, 1) := by decide +kernel
theorem d_Model_putParents_57 : decode b_Model_putParents 57 = .ok (.if_icmp .ge 67, 3) := by decide +kernel
theorem d_Model_putParents_60 : decode b_Model_putParents 60 = .ok (.iconst 0, 1) := by decide +kernel
theorem d_Model_putParents_61 : decode b_Model_putParents 61 = .ok (.istore 4, 2) := by decide +kernel
theorem d_Model_putParents_63 : decode b_Model_putParents 63 = .ok (.iload 4, 2) := by decide +kernel
theorem d_Model_putParents_65 : decode b_Model_putParents 65 = .ok (.aload_n 0, 1) := by decide +kernel
theorem d_Model_putParents_66 : decode b_Model_putParents 66 = .ok (.getfield 86, 3) := by decide +kernel
theorem d_Model_putParents_69 : decode b_Model_putParents 69 = .ok (.if_icmp .ge 49, 3) := by decide +kernel
theorem d_Model_putParents_72 : decode b_Model_putParents 72 = .ok (.aload_n 0, 1) := by decide +kernel
theorem d_Model_putParents_73 : decode b_Model_putParents 73 = .ok (.getfield 7, 3) := by decide +kernel
theorem d_Model_putParents_76 : decode b_Model_putParents 76 = .ok (.iload 4, 2) := by decide +kernel
theorem d_Model_putParents_78 : decode b_Model_putParents 78 = .ok (.iaload, 1) := by decide +kernel
theorem d_Model_putParents_79 : decode b_Model_putParents 79 = .ok (.iload_n 3, 1) := by decide +kernel
theorem d_Model_putParents_80 : decode b_Model_putParents 80 = .ok (.if_icmp .ne 32, 3) := by decide +kernel
theorem d_Model_putParents_83 : decode b_Model_putParents 83 = .ok (.aload_n 0, 1) := by decide +kernel
theorem d_Model_putParents_84 : decode b_Model_putParents 84 = .ok (.getfield 30, 3) := by decide +kernel
theorem d_Model_putParents_87 : decode b_Model_putParents 87 = .ok (.iload_n 2, 1) := by decide +kernel
theorem d_Model_putParents_88 : decode b_Model_putParents 88 = .ok (.laload, 1) := by decide +kernel
theorem d_Model_putParents_89 : decode b_Model_putParents 89 = .ok (.iload 4, 2) := by decide +kernel
theorem d_Model_putParents_91 : decode b_Model_putParents 91 = .ok (.invokestatic 78, 3) := by decide +kernel
theorem d_Model_putParents_94 : decode b_Model_putParents 94 = .ok (.ifCond .eq 18, 3) := by decide +kernel
theorem d_Model_putParents_97 : decode b_Model_putParents 97 = .ok (.aload_n 0, 1) := by decide +kernel
theorem d_Model_putParents_98 : decode b_Model_putParents 98 = .ok (.iload_n 3, 1) := by decide +kernel
theorem d_Model_putParents_99 : decode b_Model_putParents 99 = .ok (.iconst 3, 1) := by decide +kernel
theorem d_Model_putParents_100 : decode b_Model_putParents 100 = .ok (.aload_n 0, 1) := by decide +kernel
theorem d_Model_putParents_101 : decode b_Model_putParents 101 = .ok (.getfield 13, 3) := by decide +kernel
theorem d_Model_putParents_104 : decode b_Model_putParents 104 = .ok (.iload 4, 2) := by decide +kernel
theorem d_Model_putParents_106 : decode b_Model_putParents 106 = .ok (.iaload, 1) := by decide +kernel
theorem d_Model_putParents_107 : decode b_Model_putParents 107 = .ok (.imul, 1) := by decide +kernel
theorem d_Model_putParents_108 : decode b_Model_putParents 108 = .ok (.iadd, 1) := by decide +kernel
theorem d_Model_putParents_109 : decode b_Model_putParents 109 = .ok (.invokevirtual 184, 3) := by decide +kernel
theorem d_Model_putParents_112 : decode b_Model_putParents 112 = .ok (.iinc 4 1, 3) := by decide +kernel
theorem d_Model_putParents_115 : decode b_Model_putParents 115 = .ok (.goto (-52), 3) := by decide +kernel
theorem d_Model_putParents_118 : decode b_Model_putParents 118 = .ok (.iinc 3 1, 3) := by decide +kernel
theorem d_Model_putParents_121 : decode b_Model_putParents 121 = .ok (.goto (-66), 3) := by decide +kernel
theorem d_Model_putParents_124 : decode b_Model_putParents 124 = .ok (.return_, 1) := by decide +kernel
theorem d_Model_write_0 : decode b_Model_write 0 = .ok (.aload_n 0, 1) := by decide +kernel
theorem d_Model_write_1 : decode b_Model_write 1 = .ok (.aload_n 0, 1) := by decide +kernel
theorem d_Model_write_2 : decode b_Model_write 2 = .ok (.getfield 51, 3) := by decide +kernel
theorem d_Model_write_5 : decode b_Model_write 5 = .ok (.iload_n 1, 1) := by decide +kernel
theorem d_Model_write_6 : decode b_Model_write 6 = .ok (.laload, 1) := by decide +kernel
theorem d_Model_write_7 : decode b_Model_write 7 = .ok (.invokevirtual 174, 3) := by decide +kernel
theorem d_Model_write_10 : decode b_Model_write 10 = .ok (.aload_n 0, 1) := by decide +kernel
theorem d_Model_write_11 : decode b_Model_write 11 = .ok (.iconst 0, 1) := by decide +kernel
theorem d_Model_write_12 : decode b_Model_write 12 = .ok (.putfield 181, 3) := by decide +kernel
theorem d_Model_write_15 : decode b_Model_write 15 = .ok (.aload_n 0, 1) := by decide +kernel
theorem d_Model_write_16 : decode b_Model_write 16 = .ok (.aload_n 0, 1) := by decide +kernel
theorem d_Model_write_17 : decode b_Model_write 17 = .ok (.getfield 139, 3) := by decide +kernel
theorem d_Model_write_20 : decode b_Model_write 20 = .ok (.invokevirtual 184, 3) := by decide +kernel
theorem d_Model_write_23 : decode b_Model_write 23 = .ok (.aload_n 0, 1) := by decide +kernel
theorem d_Model_write_24 : decode b_Model_write 24 = .ok (.invokevirtual 187, 3) := by decide +kernel
theorem d_Model_write_27 : decode b_Model_write 27 = .ok (.iconst 0, 1) := by decide +kernel
theorem d_Model_write_28 : decode b_Model_write 28 = .ok (.istore_n 2, 1) := by decide +kernel
theorem d_Model_write_29 : decode b_Model_write 29 = .ok (.iconst 0, 1) := by decide +kernel
theorem d_Model_write_30 : decode b_Model_write 30 = .ok (.istore_n 3, 1) := by decide +kernel
theorem d_Model_write_31 : decode b_Model_write 31 = .ok (.iload_n 3, 1) := by decide +kernel
theorem d_Model_write_32 : decode b_Model_write 32 = .ok (.aload_n 0, 1) := by decide +kernel
theorem d_Model_write_33 : decode b_Model_write 33 = .ok (.getfield 139, 3) := by decide +kernel
theorem d_Model_write_36 : decode b_Model_write 36 = .ok (.if_icmp .ge 38, 3) := by decide +kernel
theorem d_Model_write_39 : decode b_Model_write 39 = .ok (.aload_n 0, 1) := by decide +kernel
theorem d_Model_write_40 : decode b_Model_write 40 = .ok (.aload_n 0, 1) := by decide +kernel
theorem d_Model_write_41 : decode b_Model_write 41 = .ok (.getfield 20, 3) := by decide +kernel
theorem d_Model_write_44 : decode b_Model_write 44 = .ok (.aload_n 0, 1) := by decide +kernel
theorem d_Model_write_45 : decode b_Model_write 45 = .ok (.getfield 72, 3) := by decide +kernel
theorem d_Model_write_48 : decode b_Model_write 48 = .ok (.iload_n 3, 1) := by decide +kernel
theorem d_Model_write_49 : decode b_Model_write 49 = .ok (.iaload, 1) := by decide +kernel
theorem d_Model_write_50 : decode b_Model_write 50 = .ok (.iaload, 1) := by decide +kernel
theorem d_Model_write_51 : decode b_Model_write 51 = .ok (.iload_n 2, 1) := by decide +kernel
theorem d_Model_write_52 : decode b_Model_write 52 = .ok (.isub, 1) := by decide +kernel
theorem d_Model_write_53 : decode b_Model_write 53 = .ok (.invokevirtual 190, 3) := by decide +kernel
theorem d_Model_write_56 : decode b_Model_write 56 = .ok (.aload_n 0, 1) := by decide +kernel
theorem d_Model_write_57 : decode b_Model_write 57 = .ok (.getfield 20, 3) := by decide +kernel
theorem d_Model_write_60 : decode b_Model_write 60 = .ok (.aload_n 0, 1) := by decide +kernel
theorem d_Model_write_61 : decode b_Model_write 61 = .ok (.getfield 72, 3) := by decide +kernel
theorem d_Model_write_64 : decode b_Model_write 64 = .ok (.iload_n 3, 1) := by decide +kernel
theorem d_Model_write_65 : decode b_Model_write 65 = .ok (.iaload, 1) := by decide +kernel
theorem d_Model_write_66 : decode b_Model_write 66 = .ok (.iaload, 1) := by decide +kernel
