theorem d_Text_insert_71 : decode b_Text_insert 71 = .ok (.ireturn, 1) := by decide +kernel
theorem d_Text_insert_72 : decode b_Text_insert 72 = .ok (.iload_n 2, 1) := by decide +kernel
theorem d_Text_insert_73 : decode b_Text_insert 73 = .ok (.ifCond .ne 7, 3) := by decide +kernel
theorem d_Text_insert_76 : decode b_Text_insert 76 = .ok (.iconst (-1), 1) := by decide +kernel
theorem d_Text_insert_77 : decode b_Text_insert 77 = .ok (.goto 15, 3) := by decide +kernel
theorem d_Text_insert_80 : decode b_Text_insert 80 = .ok (.aload_n 0, 1) := by decide +kernel
theorem d_Text_insert_81 : decode b_Text_insert 81 = .ok (.getfield 19, 3) := by decide +kernel
theorem d_Text_insert_84 : decode b_Text_insert 84 = .ok (.lload 6, 2) := by decide +kernel
theorem d_Text_insert_86 : decode b_Text_insert 86 = .ok (.iload_n 2, 1) := by decide +kernel
theorem d_Text_insert_87 : decode b_Text_insert 87 = .ok (.iconst 1, 1) := by decide +kernel
theorem d_Text_insert_88 : decode b_Text_insert 88 = .ok (.isub, 1) := by decide +kernel
theorem d_Text_insert_89 : decode b_Text_insert 89 = .ok (.invokevirtual 66, 3) := by decide +kernel
theorem d_Text_insert_92 : decode b_Text_insert 92 = .ok (.istore 8, 2) := by decide +kernel
theorem d_Text_insert_94 : decode b_Text_insert 94 = .ok (.aload_n 0, 1) := by decide +kernel
theorem d_Text_insert_95 : decode b_Text_insert 95 = .ok (.getfield 10, 3) := by decide +kernel
theorem d_Text_insert_98 : decode b_Text_insert 98 = .ok (.iload_n 1, 1) := by decide +kernel
theorem d_Text_insert_99 : decode b_Text_insert 99 = .ok (.iload_n 2, 1) := by decide +kernel
theorem d_Text_insert_100 : decode b_Text_insert 100 = .ok (.iload_n 3, 1) := by decide +kernel
theorem d_Text_insert_101 : decode b_Text_insert 101 = .ok (.lload 4, 2) := by decide +kernel
theorem d_Text_insert_103 : decode b_Text_insert 103 = .ok (.invokevirtual 70, 3) := by decide +kernel
theorem d_Text_insert_106 : decode b_Text_insert 106 = .ok (.istore 9, 2) := by decide +kernel
theorem d_Text_insert_108 : decode b_Text_insert 108 = .ok (.aload_n 0, 1) := by decide +kernel
theorem d_Text_insert_109 : decode b_Text_insert 109 = .ok (.getfield 19, 3) := by decide +kernel
theorem d_Text_insert_112 : decode b_Text_insert 112 = .ok (.aload_n 0, 1) := by decide +kernel
theorem d_Text_insert_113 : decode b_Text_insert 113 = .ok (.getfield 10, 3) := by decide +kernel
theorem d_Text_insert_116 : decode b_Text_insert 116 = .ok (.iload 9, 2) := by decide +kernel
theorem d_Text_insert_118 : decode b_Text_insert 118 = .ok (.iload 8, 2) := by decide +kernel
theorem d_Text_insert_120 : decode b_Text_insert 120 = .ok (.lload 4, 2) := by decide +kernel
theorem d_Text_insert_122 : decode b_Text_insert 122 = .ok (.invokevirtual 74, 3) := by decide +kernel
theorem d_Text_insert_125 : decode b_Text_insert 125 = .ok (.aload_n 0, 1) := by decide +kernel
theorem d_Text_insert_126 : decode b_Text_insert 126 = .ok (.getfield 32, 3) := by decide +kernel
theorem d_Text_insert_129 : decode b_Text_insert 129 = .ok (.iload_n 1, 1) := by decide +kernel
theorem d_Text_insert_130 : decode b_Text_insert 130 = .ok (.aaload, 1) := by decide +kernel
theorem d_Text_insert_131 : decode b_Text_insert 131 = .ok (.lload 4, 2) := by decide +kernel
theorem d_Text_insert_133 : decode b_Text_insert 133 = .ok (.iload 9, 2) := by decide +kernel
theorem d_Text_insert_135 : decode b_Text_insert 135 = .ok (.invokestatic 78, 3) := by decide +kernel
theorem d_Text_insert_138 : decode b_Text_insert 138 = .ok (.lor, 1) := by decide +kernel
theorem d_Text_insert_139 : decode b_Text_insert 139 = .ok (.putfield 52, 3) := by decide +kernel
theorem d_Text_insert_142 : decode b_Text_insert 142 = .ok (.aload_n 0, 1) := by decide +kernel
theorem d_Text_insert_143 : decode b_Text_insert 143 = .ok (.getfield 10, 3) := by decide +kernel
theorem d_Text_insert_146 : decode b_Text_insert 146 = .ok (.iload 9, 2) := by decide +kernel
theorem d_Text_insert_148 : decode b_Text_insert 148 = .ok (.invokevirtual 82, 3) := by decide +kernel
theorem d_Text_insert_151 : decode b_Text_insert 151 = .ok (.ireturn, 1) := by decide +kernel
theorem d_CharacterList_hide_0 : decode b_CharacterList_hide 0 = .ok (.aload_n 0, 1) := by decide +kernel
theorem d_CharacterList_hide_1 : decode b_CharacterList_hide 1 = .ok (.getfield 26, 3) := by decide +kernel
theorem d_CharacterList_hide_4 : decode b_CharacterList_hide 4 = .ok (.iload_n 1, 1) := by decide +kernel
theorem d_CharacterList_hide_5 : decode b_CharacterList_hide 5 = .ok (.iload_n 2, 1) := by decide +kernel
theorem d_CharacterList_hide_6 : decode b_CharacterList_hide 6 = .ok (.iastore, 1) := by decide +kernel
theorem d_CharacterList_hide_7 : decode b_CharacterList_hide 7 = .ok (.aload_n 0, 1) := by decide +kernel
theorem d_CharacterList_hide_8 : decode b_CharacterList_hide 8 = .ok (.dup, 1) := by decide +kernel
theorem d_CharacterList_hide_9 : decode b_CharacterList_hide 9 = .ok (.getfield 29, 3) := by decide +kernel
theorem d_CharacterList_hide_12 : decode b_CharacterList_hide 12 = .ok (.iload_n 1, 1) := by decide +kernel
theorem d_CharacterList_hide_13 : decode b_CharacterList_hide 13 = .ok (.invokestatic 40, 3) := by decide +kernel
theorem d_CharacterList_hide_16 : decode b_CharacterList_hide 16 = .ok (.lor, 1) := by decide +kernel
theorem d_CharacterList_hide_17 : decode b_CharacterList_hide 17 = .ok (.putfield 29, 3) := by decide +kernel
theorem d_CharacterList_hide_20 : decode b_CharacterList_hide 20 = .ok (.return_, 1) := by decide +kernel
theorem d_Text_delete_0 : decode b_Text_delete 0 = .ok (.iload_n 1, 1) := by decide +kernel
theorem d_Text_delete_1 : decode b_Text_delete 1 = .ok (.invokestatic 44, 3) := by decide +kernel
theorem d_Text_delete_4 : decode b_Text_delete 4 = .ok (.ifCond .eq 13, 3) := by decide +kernel
theorem d_Text_delete_7 : decode b_Text_delete 7 = .ok (.aload_n 0, 1) := by decide +kernel
theorem d_Text_delete_8 : decode b_Text_delete 8 = .ok (.getfield 10, 3) := by decide +kernel
theorem d_Text_delete_11 : decode b_Text_delete 11 = .ok (.invokevirtual 48, 3) := by decide +kernel
theorem d_Text_delete_14 : decode b_Text_delete 14 = .ok (.ifCond .eq 7, 3) := by decide +kernel
theorem d_Text_delete_17 : decode b_Text_delete 17 = .ok (.sipush (-1000), 3) := by decide +kernel
theorem d_Text_delete_20 : decode b_Text_delete 20 = .ok (.ireturn, 1) := by decide +kernel
theorem d_Text_delete_21 : decode b_Text_delete 21 = .ok (.aload_n 0, 1) := by decide +kernel
theorem d_Text_delete_22 : decode b_Text_delete 22 = .ok (.getfield 32, 3) := by decide +kernel
theorem d_Text_delete_25 : decode b_Text_delete 25 = .ok (.iload_n 1, 1) := by decide +kernel
theorem d_Text_delete_26 : decode b_Text_delete 26 = .ok (.aaload, 1) := by decide +kernel
theorem d_Text_delete_27 : decode b_Text_delete 27 = .ok (.getfield 52, 3) := by decide +kernel
theorem d_Text_delete_30 : decode b_Text_delete 30 = .ok (.lstore_n 3, 1) := by decide +kernel
theorem d_Text_delete_31 : decode b_Text_delete 31 = .ok (.aload_n 0, 1) := by decide +kernel
theorem d_Text_delete_32 : decode b_Text_delete 32 = .ok (.getfield 19, 3) := by decide +kernel
theorem d_Text_delete_35 : decode b_Text_delete 35 = .ok (.aload_n 0, 1) := by decide +kernel
theorem d_Text_delete_36 : decode b_Text_delete 36 = .ok (.getfield 19, 3) := by decide +kernel
theorem d_Text_delete_39 : decode b_Text_delete 39 = .ok (.lload_n 3, 1) := by decide +kernel
theorem d_Text_delete_40 : decode b_Text_delete 40 = .ok (.invokevirtual 56, 3) := by decide +kernel
theorem d_Text_delete_43 : decode b_Text_delete 43 = .ok (.iload_n 2, 1) := by decide +kernel
theorem d_Text_delete_44 : decode b_Text_delete 44 = .ok (.invokevirtual 66, 3) := by decide +kernel
theorem d_Text_delete_47 : decode b_Text_delete 47 = .ok (.istore 5, 2) := by decide +kernel
theorem d_Text_delete_49 : decode b_Text_delete 49 = .ok (.iload 5, 2) := by decide +kernel
theorem d_Text_delete_51 : decode b_Text_delete 51 = .ok (.iconst (-1), 1) := by decide +kernel
theorem d_Text_delete_52 : decode b_Text_delete 52 = .ok (.if_icmp .ne 7, 3) := by decide +kernel
theorem d_Text_delete_55 : decode b_Text_delete 55 = .ok (.sipush (-1000), 3) := by decide +kernel
theorem d_Text_delete_58 : decode b_Text_delete 58 = .ok (.ireturn, 1) := by decide +kernel
theorem d_Text_delete_59 : decode b_Text_delete 59 = .ok (.aload_n 0, 1) := by decide +kernel
theorem d_Text_delete_60 : decode b_Text_delete 60 = .ok (.getfield 10, 3) := by decide +kernel
theorem d_Text_delete_63 : decode b_Text_delete 63 = .ok (.iload_n 1, 1) := by decide +kernel
theorem d_Text_delete_64 : decode b_Text_delete 64 = .ok (.iload_n 2, 1) := by decide +kernel
theorem d_Text_delete_65 : decode b_Text_delete 65 = .ok (.iconst (-1), 1) := by decide +kernel
theorem d_Text_delete_66 : decode b_Text_delete 66 = .ok (.lload_n 3, 1) := by decide +kernel
theorem d_Text_delete_67 : decode b_Text_delete 67 = .ok (.invokevirtual 70, 3) := by decide +kernel
theorem d_Text_delete_70 : decode b_Text_delete 70 = .ok (.istore 6, 2) := by decide +kernel
theorem d_Text_delete_72 : decode b_Text_delete 72 = .ok (.aload_n 0, 1) := by decide +kernel
theorem d_Text_delete_73 : decode b_Text_delete 73 = .ok (.getfield 19, 3) := by decide +kernel
theorem d_Text_delete_76 : decode b_Text_delete 76 = .ok (.iload 6, 2) := by decide +kernel
theorem d_Text_delete_78 : decode b_Text_delete 78 = .ok (.iload 5, 2) := by decide +kernel
theorem d_Text_delete_80 : decode b_Text_delete 80 = .ok (.invokevirtual 86, 3) := by decide +kernel
theorem d_Text_delete_83 : decode b_Text_delete 83 = .ok (.aload_n 0, 1) := by decide +kernel
theorem d_Text_delete_84 : decode b_Text_delete 84 = .ok (.getfield 32, 3) := by decide +kernel
theorem d_Text_delete_87 : decode b_Text_delete 87 = .ok (.iload_n 1, 1) := by decide +kernel
theorem d_Text_delete_88 : decode b_Text_delete 88 = .ok (.aaload, 1) := by decide +kernel
theorem d_Text_delete_89 : decode b_Text_delete 89 = .ok (.lload_n 3, 1) := by decide +kernel
theorem d_Text_delete_90 : decode b_Text_delete 90 = .ok (.iload 6, 2) := by decide +kernel
theorem d_Text_delete_92 : decode b_Text_delete 92 = .ok (.invokestatic 78, 3) := by decide +kernel
theorem d_Text_delete_95 : decode b_Text_delete 95 = .ok (.lor, 1) := by decide +kernel
theorem d_Text_delete_96 : decode b_Text_delete 96 = .ok (.putfield 52, 3) := by decide +kernel
theorem d_Text_delete_99 : decode b_Text_delete 99 = .ok (.aload_n 0, 1) := by decide +kernel
theorem d_Text_delete_100 : decode b_Text_delete 100 = .ok (.getfield 10, 3) := by decide +kernel
theorem d_Text_delete_103 : decode b_Text_delete 103 = .ok (.iload 6, 2) := by decide +kernel
theorem d_Text_delete_105 : decode b_Text_delete 105 = .ok (.invokevirtual 82, 3) := by decide +kernel
theorem d_Text_delete_108 : decode b_Text_delete 108 = .ok (.ireturn, 1) := by decide +kernel
theorem d_Text_length_0 : decode b_Text_length 0 = .ok (.iload_n 1, 1) := by decide +kernel
theorem d_Text_length_1 : decode b_Text_length 1 = .ok (.invokestatic 44, 3) := by decide +kernel
theorem d_Text_length_4 : decode b_Text_length 4 = .ok (.ifCond .eq 25, 3) := by decide +kernel
theorem d_Text_length_7 : decode b_Text_length 7 = .ok (.aload_n 0, 1) := by decide +kernel
theorem d_Text_length_8 : decode b_Text_length 8 = .ok (.getfield 19, 3) := by decide +kernel
theorem d_Text_length_11 : decode b_Text_length 11 = .ok (.aload_n 0, 1) := by decide +kernel
theorem d_Text_length_12 : decode b_Text_length 12 = .ok (.getfield 32, 3) := by decide +kernel
theorem d_Text_length_15 : decode b_Text_length 15 = .ok (.iload_n 1, 1) := by decide +kernel
theorem d_Text_length_16 : decode b_Text_length 16 = .ok (.aaload, 1) := by decide +kernel
theorem d_Text_length_17 : decode b_Text_length 17 = .ok (.getfield 52, 3) := by decide +kernel
theorem d_Text_length_20 : decode b_Text_length 20 = .ok (.invokevirtual 56, 3) := by decide +kernel
theorem d_Text_length_23 : decode b_Text_length 23 = .ok (.invokestatic 60, 3) := by decide +kernel
theorem d_Text_length_26 : decode b_Text_length 26 = .ok (.goto 6, 3) := by decide +kernel
theorem d_Text_length_29 : decode b_Text_length 29 = .ok (.sipush (-1000), 3) := by decide +kernel
theorem d_Text_length_32 : decode b_Text_length 32 = .ok (.ireturn, 1) := by decide +kernel
theorem d_History_characterOf_0 : decode b_History_characterOf 0 = .ok (.aload_n 0, 1) := by decide +kernel
theorem d_History_characterOf_1 : decode b_History_characterOf 1 = .ok (.getfield 21, 3) := by decide +kernel
theorem d_History_characterOf_4 : decode b_History_characterOf 4 = .ok (.iload_n 1, 1) := by decide +kernel
theorem d_History_characterOf_5 : decode b_History_characterOf 5 = .ok (.iaload, 1) := by decide +kernel
theorem d_History_characterOf_6 : decode b_History_characterOf 6 = .ok (.ireturn, 1) := by decide +kernel
theorem d_Text_at_0 : decode b_Text_at 0 = .ok (.iload_n 1, 1) := by decide +kernel
theorem d_Text_at_1 : decode b_Text_at 1 = .ok (.invokestatic 44, 3) := by decide +kernel
theorem d_Text_at_4 : decode b_Text_at 4 = .ok (.ifCond .ne 7, 3) := by decide +kernel
theorem d_Text_at_7 : decode b_Text_at 7 = .ok (.sipush (-1000), 3) := by decide +kernel
theorem d_Text_at_10 : decode b_Text_at 10 = .ok (.ireturn, 1) := by decide +kernel
theorem d_Text_at_11 : decode b_Text_at 11 = .ok (.aload_n 0, 1) := by decide +kernel
theorem d_Text_at_12 : decode b_Text_at 12 = .ok (.getfield 19, 3) := by decide +kernel
theorem d_Text_at_15 : decode b_Text_at 15 = .ok (.aload_n 0, 1) := by decide +kernel
theorem d_Text_at_16 : decode b_Text_at 16 = .ok (.getfield 19, 3) := by decide +kernel
theorem d_Text_at_19 : decode b_Text_at 19 = .ok (.aload_n 0, 1) := by decide +kernel
theorem d_Text_at_20 : decode b_Text_at 20 = .ok (.getfield 32, 3) := by decide +kernel
theorem d_Text_at_23 : decode b_Text_at 23 = .ok (.iload_n 1, 1) := by decide +kernel
theorem d_Text_at_24 : decode b_Text_at 24 = .ok (.aaload, 1) := by decide +kernel
theorem d_Text_at_25 : decode b_Text_at 25 = .ok (.getfield 52, 3) := by decide +kernel
theorem d_Text_at_28 : decode b_Text_at 28 = .ok (.invokevirtual 56, 3) := by decide +kernel
theorem d_Text_at_31 : decode b_Text_at 31 = .ok (.iload_n 2, 1) := by decide +kernel
theorem d_Text_at_32 : decode b_Text_at 32 = .ok (.invokevirtual 66, 3) := by decide +kernel
theorem d_Text_at_35 : decode b_Text_at 35 = .ok (.istore_n 3, 1) := by decide +kernel
theorem d_Text_at_36 : decode b_Text_at 36 = .ok (.iload_n 3, 1) := by decide +kernel
theorem d_Text_at_37 : decode b_Text_at 37 = .ok (.iconst (-1), 1) := by decide +kernel
theorem d_Text_at_38 : decode b_Text_at 38 = .ok (.if_icmp .ne 9, 3) := by decide +kernel
theorem d_Text_at_41 : decode b_Text_at 41 = .ok (.sipush (-1000), 3) := by decide +kernel
theorem d_Text_at_44 : decode b_Text_at 44 = .ok (.goto 11, 3) := by decide +kernel
theorem d_Text_at_47 : decode b_Text_at 47 = .ok (.aload_n 0, 1) := by decide +kernel
theorem d_Text_at_48 : decode b_Text_at 48 = .ok (.getfield 10, 3) := by decide +kernel
theorem d_Text_at_51 : decode b_Text_at 51 = .ok (.iload_n 3, 1) := by decide +kernel
theorem d_Text_at_52 : decode b_Text_at 52 = .ok (.invokevirtual 90, 3) := by decide +kernel
theorem d_Text_at_55 : decode b_Text_at 55 = .ok (.ireturn, 1) := by decide +kernel
theorem d_Text_areTwoSites_0 : decode b_Text_areTwoSites 0 = .ok (.iload_n 0, 1) := by decide +kernel
theorem d_Text_areTwoSites_1 : decode b_Text_areTwoSites 1 = .ok (.invokestatic 44, 3) := by decide +kernel
theorem d_Text_areTwoSites_4 : decode b_Text_areTwoSites 4 = .ok (.ifCond .eq 19, 3) := by decide +kernel
theorem d_Text_areTwoSites_7 : decode b_Text_areTwoSites 7 = .ok (.iload_n 1, 1) := by decide +kernel
theorem d_Text_areTwoSites_8 : decode b_Text_areTwoSites 8 = .ok (.invokestatic 44, 3) := by decide +kernel
theorem d_Text_areTwoSites_11 : decode b_Text_areTwoSites 11 = .ok (.ifCond .eq 12, 3) := by decide +kernel
theorem d_Text_areTwoSites_14 : decode b_Text_areTwoSites 14 = .ok (.iload_n 0, 1) := by decide +kernel
theorem d_Text_areTwoSites_15 : decode b_Text_areTwoSites 15 = .ok (.iload_n 1, 1) := by decide +kernel
theorem d_Text_areTwoSites_16 : decode b_Text_areTwoSites 16 = .ok (.if_icmp .eq 7, 3) := by decide +kernel
theorem d_Text_areTwoSites_19 : decode b_Text_areTwoSites 19 = .ok (.iconst 1, 1) := by decide +kernel
theorem d_Text_areTwoSites_20 : decode b_Text_areTwoSites 20 = .ok (.goto 4, 3) := by decide +kernel
theorem d_Text_areTwoSites_23 : decode b_Text_areTwoSites 23 = .ok (.iconst 0, 1) := by decide +kernel
theorem d_Text_areTwoSites_24 : decode b_Text_areTwoSites 24 = .ok (.ireturn, 1) := by decide +kernel
theorem d_Text_freeNumber_0 : decode b_Text_freeNumber 0 = .ok (.iconst 0, 1) := by decide +kernel
theorem d_Text_freeNumber_1 : decode b_Text_freeNumber 1 = .ok (.istore_n 1, 1) := by decide +kernel
theorem d_Text_freeNumber_2 : decode b_Text_freeNumber 2 = .ok (.iload_n 1, 1) := by decide +kernel
theorem d_Text_freeNumber_3 : decode b_Text_freeNumber 3 = .ok (.bipush 6, 2) := by decide +kernel
theorem d_Text_freeNumber_5 : decode b_Text_freeNumber 5 = .ok (.if_icmp .ge 21, 3) := by decide +kernel
theorem d_Text_freeNumber_8 : decode b_Text_freeNumber 8 = .ok (.aload_n 0, 1) := by decide +kernel
theorem d_Text_freeNumber_9 : decode b_Text_freeNumber 9 = .ok (.getfield 39, 3) := by decide +kernel
theorem d_Text_freeNumber_12 : decode b_Text_freeNumber 12 = .ok (.iload_n 1, 1) := by decide +kernel
theorem d_Text_freeNumber_13 : decode b_Text_freeNumber 13 = .ok (.aaload, 1) := by decide +kernel
theorem d_Text_freeNumber_14 : decode b_Text_freeNumber 14 = .ok (.getfield 148, 3) := by decide +kernel
theorem d_Text_freeNumber_17 : decode b_Text_freeNumber 17 = .ok (.ifCond .eq 9, 3) := by decide +kernel
theorem d_Text_freeNumber_20 : decode b_Text_freeNumber 20 = .ok (.iinc 1 1, 3) := by decide +kernel
theorem d_Text_freeNumber_23 : decode b_Text_freeNumber 23 = .ok (.goto (-21), 3) := by decide +kernel
theorem d_Text_freeNumber_26 : decode b_Text_freeNumber 26 = .ok (.iload_n 1, 1) := by decide +kernel
theorem d_Text_freeNumber_27 : decode b_Text_freeNumber 27 = .ok (.ireturn, 1) := by decide +kernel
theorem d_History_leastOf_0 : decode b_History_leastOf 0 = .ok (.iconst (-1), 1) := by decide +kernel
theorem d_History_leastOf_1 : decode b_History_leastOf 1 = .ok (.istore_n 3, 1) := by decide +kernel
theorem d_History_leastOf_2 : decode b_History_leastOf 2 = .ok (.iconst 0, 1) := by decide +kernel
theorem d_History_leastOf_3 : decode b_History_leastOf 3 = .ok (.istore 4, 2) := by decide +kernel
theorem d_History_leastOf_5 : decode b_History_leastOf 5 = .ok (.iload 4, 2) := by decide +kernel
theorem d_History_leastOf_7 : decode b_History_leastOf 7 = .ok (.aload_n 0, 1) := by decide +kernel
theorem d_History_leastOf_8 : decode b_History_leastOf 8 = .ok (.getfield 37, 3) := by decide +kernel
theorem d_History_leastOf_11 : decode b_History_leastOf 11 = .ok (.if_icmp .ge 36, 3) := by decide +kernel
theorem d_History_leastOf_14 : decode b_History_leastOf 14 = .ok (.lload_n 1, 1) := by decide +kernel
theorem d_History_leastOf_15 : decode b_History_leastOf 15 = .ok (.iload 4, 2) := by decide +kernel
theorem d_History_leastOf_17 : decode b_History_leastOf 17 = .ok (.invokestatic 53, 3) := by decide +kernel
theorem d_History_leastOf_20 : decode b_History_leastOf 20 = .ok (.ifCond .eq 21, 3) := by decide +kernel
theorem d_History_leastOf_23 : decode b_History_leastOf 23 = .ok (.iload_n 3, 1) := by decide +kernel
theorem d_History_leastOf_24 : decode b_History_leastOf 24 = .ok (.iconst (-1), 1) := by decide +kernel
theorem d_History_leastOf_25 : decode b_History_leastOf 25 = .ok (.if_icmp .eq 13, 3) := by decide +kernel
theorem d_History_leastOf_28 : decode b_History_leastOf 28 = .ok (.aload_n 0, 1) := by decide +kernel
theorem d_History_leastOf_29 : decode b_History_leastOf 29 = .ok (.iload 4, 2) := by decide +kernel
theorem d_History_leastOf_31 : decode b_History_leastOf 31 = .ok (.iload_n 3, 1) := by decide +kernel
theorem d_History_leastOf_32 : decode b_History_leastOf 32 = .ok (.invokevirtual 57, 3) := by decide +kernel
theorem d_History_leastOf_35 : decode b_History_leastOf 35 = .ok (.ifCond .eq 6, 3) := by decide +kernel
theorem d_History_leastOf_38 : decode b_History_leastOf 38 = .ok (.iload 4, 2) := by decide +kernel
theorem d_History_leastOf_40 : decode b_History_leastOf 40 = .ok (.istore_n 3, 1) := by decide +kernel
theorem d_History_leastOf_41 : decode b_History_leastOf 41 = .ok (.iinc 4 1, 3) := by decide +kernel
theorem d_History_leastOf_44 : decode b_History_leastOf 44 = .ok (.goto (-39), 3) := by decide +kernel
theorem d_History_leastOf_47 : decode b_History_leastOf 47 = .ok (.iload_n 3, 1) := by decide +kernel
theorem d_History_leastOf_48 : decode b_History_leastOf 48 = .ok (.ireturn, 1) := by decide +kernel
theorem d_History_nextOf_0 : decode b_History_nextOf 0 = .ok (.lconst 0, 1) := by decide +kernel
theorem d_History_nextOf_1 : decode b_History_nextOf 1 = .ok (.lstore 4, 2) := by decide +kernel
theorem d_History_nextOf_3 : decode b_History_nextOf 3 = .ok (.lconst 0, 1) := by decide +kernel
theorem d_History_nextOf_4 : decode b_History_nextOf 4 = .ok (.lstore 6, 2) := by decide +kernel
theorem d_History_nextOf_6 : decode b_History_nextOf 6 = .ok (.iconst 0, 1) := by decide +kernel
theorem d_History_nextOf_7 : decode b_History_nextOf 7 = .ok (.istore 8, 2) := by decide +kernel
theorem d_History_nextOf_9 : decode b_History_nextOf 9 = .ok (.iload 8, 2) := by decide +kernel
theorem d_History_nextOf_11 : decode b_History_nextOf 11 = .ok (.aload_n 0, 1) := by decide +kernel
theorem d_History_nextOf_12 : decode b_History_nextOf 12 = .ok (.getfield 37, 3) := by decide +kernel
theorem d_History_nextOf_15 : decode b_History_nextOf 15 = .ok (.if_icmp .ge 66, 3) := by decide +kernel
theorem d_History_nextOf_18 : decode b_History_nextOf 18 = .ok (.lload_n 1, 1) := by decide +kernel
theorem d_History_nextOf_19 : decode b_History_nextOf 19 = .ok (.iload 8, 2) := by decide +kernel
theorem d_History_nextOf_21 : decode b_History_nextOf 21 = .ok (.invokestatic 53, 3) := by decide +kernel
theorem d_History_nextOf_24 : decode b_History_nextOf 24 = .ok (.ifCond .eq 51, 3) := by decide +kernel
theorem d_History_nextOf_27 : decode b_History_nextOf 27 = .ok (.aload_n 0, 1) := by decide +kernel
theorem d_History_nextOf_28 : decode b_History_nextOf 28 = .ok (.getfield 24, 3) := by decide +kernel
theorem d_History_nextOf_31 : decode b_History_nextOf 31 = .ok (.iload 8, 2) := by decide +kernel
theorem d_History_nextOf_33 : decode b_History_nextOf 33 = .ok (.laload, 1) := by decide +kernel
theorem d_History_nextOf_34 : decode b_History_nextOf 34 = .ok (.lload_n 1, 1) := by decide +kernel
theorem d_History_nextOf_35 : decode b_History_nextOf 35 = .ok (.land, 1) := by decide +kernel
theorem d_History_nextOf_36 : decode b_History_nextOf 36 = .ok (.lconst 0, 1) := by decide +kernel
theorem d_History_nextOf_37 : decode b_History_nextOf 37 = .ok (.lcmp, 1) := by decide +kernel
theorem d_History_nextOf_38 : decode b_History_nextOf 38 = .ok (.ifCond .ne 37, 3) := by decide +kernel
theorem d_History_nextOf_41 : decode b_History_nextOf 41 = .ok (.lload 4, 2) := by decide +kernel
theorem d_History_nextOf_43 : decode b_History_nextOf 43 = .ok (.iload 8, 2) := by decide +kernel
theorem d_History_nextOf_45 : decode b_History_nextOf 45 = .ok (.invokestatic 49, 3) := by decide +kernel
theorem d_History_nextOf_48 : decode b_History_nextOf 48 = .ok (.lor, 1) := by decide +kernel
theorem d_History_nextOf_49 : decode b_History_nextOf 49 = .ok (.lstore 4, 2) := by decide +kernel
theorem d_History_nextOf_51 : decode b_History_nextOf 51 = .ok (.aload_n 0, 1) := by decide +kernel
theorem d_History_nextOf_52 : decode b_History_nextOf 52 = .ok (.getfield 24, 3) := by decide +kernel
theorem d_History_nextOf_55 : decode b_History_nextOf 55 = .ok (.iload 8, 2) := by decide +kernel
theorem d_History_nextOf_57 : decode b_History_nextOf 57 = .ok (.laload, 1) := by decide +kernel
theorem d_History_nextOf_58 : decode b_History_nextOf 58 = .ok (.iload_n 3, 1) := by decide +kernel
theorem d_History_nextOf_59 : decode b_History_nextOf 59 = .ok (.invokestatic 53, 3) := by decide +kernel
theorem d_History_nextOf_62 : decode b_History_nextOf 62 = .ok (.ifCond .eq 13, 3) := by decide +kernel
theorem d_History_nextOf_65 : decode b_History_nextOf 65 = .ok (.lload 6, 2) := by decide +kernel
theorem d_History_nextOf_67 : decode b_History_nextOf 67 = .ok (.iload 8, 2) := by decide +kernel
theorem d_History_nextOf_69 : decode b_History_nextOf 69 = .ok (.invokestatic 49, 3) := by decide +kernel
theorem d_History_nextOf_72 : decode b_History_nextOf 72 = .ok (.lor, 1) := by decide +kernel
theorem d_History_nextOf_73 : decode b_History_nextOf 73 = .ok (.lstore 6, 2) := by decide +kernel
theorem d_History_nextOf_75 : decode b_History_nextOf 75 = .ok (.iinc 8 1, 3) := by decide +kernel
theorem d_History_nextOf_78 : decode b_History_nextOf 78 = .ok (.goto (-69), 3) := by decide +kernel
theorem d_History_nextOf_81 : decode b_History_nextOf 81 = .ok (.aload_n 0, 1) := by decide +kernel
theorem d_History_nextOf_82 : decode b_History_nextOf 82 = .ok (.lload 6, 2) := by decide +kernel
theorem d_History_nextOf_84 : decode b_History_nextOf 84 = .ok (.lconst 0, 1) := by decide +kernel
theorem d_History_nextOf_85 : decode b_History_nextOf 85 = .ok (.lcmp, 1) := by decide +kernel
theorem d_History_nextOf_86 : decode b_History_nextOf 86 = .ok (.ifCond .eq 8, 3) := by decide +kernel
theorem d_History_nextOf_89 : decode b_History_nextOf 89 = .ok (.lload 6, 2) := by decide +kernel
theorem d_History_nextOf_91 : decode b_History_nextOf 91 = .ok (.goto 5, 3) := by decide +kernel
theorem d_History_nextOf_94 : decode b_History_nextOf 94 = .ok (.lload 4, 2) := by decide +kernel
theorem d_History_nextOf_96 : decode b_History_nextOf 96 = .ok (.invokevirtual 77, 3) := by decide +kernel
theorem d_History_nextOf_99 : decode b_History_nextOf 99 = .ok (.ireturn, 1) := by decide +kernel
theorem d_Line_arrange_0 : decode b_Line_arrange 0 = .ok (.lload_n 2, 1) := by decide +kernel
theorem d_Line_arrange_1 : decode b_Line_arrange 1 = .ok (.lstore 4, 2) := by decide +kernel
theorem d_Line_arrange_3 : decode b_Line_arrange 3 = .ok (.aload_n 1, 1) := by decide +kernel
theorem d_Line_arrange_4 : decode b_Line_arrange 4 = .ok (.lload 4, 2) := by decide +kernel
theorem d_Line_arrange_6 : decode b_Line_arrange 6 = .ok (.iconst (-1), 1) := by decide +kernel
theorem d_Line_arrange_7 : decode b_Line_arrange 7 = .ok (.invokevirtual 19, 3) := by decide +kernel
theorem d_Line_arrange_10 : decode b_Line_arrange 10 = .ok (.istore 6, 2) := by decide +kernel
theorem d_Line_arrange_12 : decode b_Line_arrange 12 = .ok (.aload_n 0, 1) := by decide +kernel
theorem d_Line_arrange_13 : decode b_Line_arrange 13 = .ok (.iconst 0, 1) := by decide +kernel
theorem d_Line_arrange_14 : decode b_Line_arrange 14 = .ok (.putfield 15, 3) := by decide +kernel
theorem d_Line_arrange_17 : decode b_Line_arrange 17 = .ok (.aload_n 0, 1) := by decide +kernel
theorem d_Line_arrange_18 : decode b_Line_arrange 18 = .ok (.getfield 15, 3) := by decide +kernel
theorem d_Line_arrange_21 : decode b_Line_arrange 21 = .ok (.bipush 40, 2) := by decide +kernel
theorem d_Line_arrange_23 : decode b_Line_arrange 23 = .ok (.if_icmp .ge 57, 3) := by decide +kernel
theorem d_Line_arrange_26 : decode b_Line_arrange 26 = .ok (.iload 6, 2) := by decide +kernel
theorem d_Line_arrange_28 : decode b_Line_arrange 28 = .ok (.iconst (-1), 1) := by decide +kernel
theorem d_Line_arrange_29 : decode b_Line_arrange 29 = .ok (.if_icmp .eq 51, 3) := by decide +kernel
theorem d_Line_arrange_32 : decode b_Line_arrange 32 = .ok (.aload_n 0, 1) := by decide +kernel
theorem d_Line_arrange_33 : decode b_Line_arrange 33 = .ok (.getfield 9, 3) := by decide +kernel
theorem d_Line_arrange_36 : decode b_Line_arrange 36 = .ok (.aload_n 0, 1) := by decide +kernel
theorem d_Line_arrange_37 : decode b_Line_arrange 37 = .ok (.getfield 15, 3) := by decide +kernel
theorem d_Line_arrange_40 : decode b_Line_arrange 40 = .ok (.iload 6, 2) := by decide +kernel
theorem d_Line_arrange_42 : decode b_Line_arrange 42 = .ok (.iastore, 1) := by decide +kernel
theorem d_Line_arrange_43 : decode b_Line_arrange 43 = .ok (.aload_n 0, 1) := by decide +kernel
theorem d_Line_arrange_44 : decode b_Line_arrange 44 = .ok (.dup, 1) := by decide +kernel
theorem d_Line_arrange_45 : decode b_Line_arrange 45 = .ok (.getfield 15, 3) := by decide +kernel
theorem d_Line_arrange_48 : decode b_Line_arrange 48 = .ok (.iconst 1, 1) := by decide +kernel
theorem d_Line_arrange_49 : decode b_Line_arrange 49 = .ok (.iadd, 1) := by decide +kernel
theorem d_Line_arrange_50 : decode b_Line_arrange 50 = .ok (.putfield 15, 3) := by decide +kernel
theorem d_Line_arrange_53 : decode b_Line_arrange 53 = .ok (.lload 4, 2) := by decide +kernel
theorem d_Line_arrange_55 : decode b_Line_arrange 55 = .ok (.iload 6, 2) := by decide +kernel
theorem d_Line_arrange_57 : decode b_Line_arrange 57 = .ok (.invokestatic 25, 3) := by decide +kernel
theorem d_Line_arrange_60 : decode b_Line_arrange 60 = .ok (.ldc2_w 29, 3) := by decide +kernel
theorem d_Line_arrange_63 : decode b_Line_arrange 63 = .ok (.lxor, 1) := by decide +kernel
