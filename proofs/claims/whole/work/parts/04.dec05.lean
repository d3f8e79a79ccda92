theorem d_CharacterList_indexIn_1 : decode b_CharacterList_indexIn 1 = .ok (.istore 4, 2) := by decide +kernel
theorem d_CharacterList_indexIn_3 : decode b_CharacterList_indexIn 3 = .ok (.iconst 0, 1) := by decide +kernel
theorem d_CharacterList_indexIn_4 : decode b_CharacterList_indexIn 4 = .ok (.istore 5, 2) := by decide +kernel
theorem d_CharacterList_indexIn_6 : decode b_CharacterList_indexIn 6 = .ok (.iload 5, 2) := by decide +kernel
theorem d_CharacterList_indexIn_8 : decode b_CharacterList_indexIn 8 = .ok (.aload_n 0, 1) := by decide +kernel
theorem d_CharacterList_indexIn_9 : decode b_CharacterList_indexIn 9 = .ok (.getfield 36, 3) := by decide +kernel
theorem d_CharacterList_indexIn_12 : decode b_CharacterList_indexIn 12 = .ok (.if_icmp .ge 37, 3) := by decide +kernel
theorem d_CharacterList_indexIn_15 : decode b_CharacterList_indexIn 15 = .ok (.aload_n 0, 1) := by decide +kernel
theorem d_CharacterList_indexIn_16 : decode b_CharacterList_indexIn 16 = .ok (.getfield 9, 3) := by decide +kernel
theorem d_CharacterList_indexIn_19 : decode b_CharacterList_indexIn 19 = .ok (.iload 5, 2) := by decide +kernel
theorem d_CharacterList_indexIn_21 : decode b_CharacterList_indexIn 21 = .ok (.iaload, 1) := by decide +kernel
theorem d_CharacterList_indexIn_22 : decode b_CharacterList_indexIn 22 = .ok (.iload_n 3, 1) := by decide +kernel
theorem d_CharacterList_indexIn_23 : decode b_CharacterList_indexIn 23 = .ok (.if_icmp .eq 26, 3) := by decide +kernel
theorem d_CharacterList_indexIn_26 : decode b_CharacterList_indexIn 26 = .ok (.lload_n 1, 1) := by decide +kernel
theorem d_CharacterList_indexIn_27 : decode b_CharacterList_indexIn 27 = .ok (.aload_n 0, 1) := by decide +kernel
theorem d_CharacterList_indexIn_28 : decode b_CharacterList_indexIn 28 = .ok (.getfield 9, 3) := by decide +kernel
theorem d_CharacterList_indexIn_31 : decode b_CharacterList_indexIn 31 = .ok (.iload 5, 2) := by decide +kernel
theorem d_CharacterList_indexIn_33 : decode b_CharacterList_indexIn 33 = .ok (.iaload, 1) := by decide +kernel
theorem d_CharacterList_indexIn_34 : decode b_CharacterList_indexIn 34 = .ok (.invokestatic 44, 3) := by decide +kernel
theorem d_CharacterList_indexIn_37 : decode b_CharacterList_indexIn 37 = .ok (.ifCond .eq 6, 3) := by decide +kernel
theorem d_CharacterList_indexIn_40 : decode b_CharacterList_indexIn 40 = .ok (.iinc 4 1, 3) := by decide +kernel
theorem d_CharacterList_indexIn_43 : decode b_CharacterList_indexIn 43 = .ok (.iinc 5 1, 3) := by decide +kernel
theorem d_CharacterList_indexIn_46 : decode b_CharacterList_indexIn 46 = .ok (.goto (-40), 3) := by decide +kernel
theorem d_CharacterList_indexIn_49 : decode b_CharacterList_indexIn 49 = .ok (.iload 4, 2) := by decide +kernel
theorem d_CharacterList_indexIn_51 : decode b_CharacterList_indexIn 51 = .ok (.ireturn, 1) := by decide +kernel
theorem d_CharacterList_takenBy_0 : decode b_CharacterList_takenBy 0 = .ok (.aload_n 0, 1) := by decide +kernel
theorem d_CharacterList_takenBy_1 : decode b_CharacterList_takenBy 1 = .ok (.getfield 26, 3) := by decide +kernel
theorem d_CharacterList_takenBy_4 : decode b_CharacterList_takenBy 4 = .ok (.iload_n 1, 1) := by decide +kernel
theorem d_CharacterList_takenBy_5 : decode b_CharacterList_takenBy 5 = .ok (.iaload, 1) := by decide +kernel
theorem d_CharacterList_takenBy_6 : decode b_CharacterList_takenBy 6 = .ok (.ireturn, 1) := by decide +kernel
theorem d_Merge_removal_0 : decode b_Merge_removal 0 = .ok (.aload_n 0, 1) := by decide +kernel
theorem d_Merge_removal_1 : decode b_Merge_removal 1 = .ok (.lload_n 1, 1) := by decide +kernel
theorem d_Merge_removal_2 : decode b_Merge_removal 2 = .ok (.invokevirtual 72, 3) := by decide +kernel
theorem d_Merge_removal_5 : decode b_Merge_removal 5 = .ok (.lstore 4, 2) := by decide +kernel
theorem d_Merge_removal_7 : decode b_Merge_removal 7 = .ok (.lload 4, 2) := by decide +kernel
theorem d_Merge_removal_9 : decode b_Merge_removal 9 = .ok (.iload_n 3, 1) := by decide +kernel
theorem d_Merge_removal_10 : decode b_Merge_removal 10 = .ok (.invokestatic 92, 3) := by decide +kernel
theorem d_Merge_removal_13 : decode b_Merge_removal 13 = .ok (.ifCond .eq 15, 3) := by decide +kernel
theorem d_Merge_removal_16 : decode b_Merge_removal 16 = .ok (.iconst (-1), 1) := by decide +kernel
theorem d_Merge_removal_17 : decode b_Merge_removal 17 = .ok (.aload_n 0, 1) := by decide +kernel
theorem d_Merge_removal_18 : decode b_Merge_removal 18 = .ok (.lload 4, 2) := by decide +kernel
theorem d_Merge_removal_20 : decode b_Merge_removal 20 = .ok (.iload_n 3, 1) := by decide +kernel
theorem d_Merge_removal_21 : decode b_Merge_removal 21 = .ok (.invokevirtual 78, 3) := by decide +kernel
theorem d_Merge_removal_24 : decode b_Merge_removal 24 = .ok (.isub, 1) := by decide +kernel
theorem d_Merge_removal_25 : decode b_Merge_removal 25 = .ok (.goto 6, 3) := by decide +kernel
theorem d_Merge_removal_28 : decode b_Merge_removal 28 = .ok (.sipush 1000, 3) := by decide +kernel
theorem d_Merge_removal_31 : decode b_Merge_removal 31 = .ok (.ireturn, 1) := by decide +kernel
theorem d_Merge_applyAll_0 : decode b_Merge_applyAll 0 = .ok (.lload 4, 2) := by decide +kernel
theorem d_Merge_applyAll_2 : decode b_Merge_applyAll 2 = .ok (.lstore 6, 2) := by decide +kernel
theorem d_Merge_applyAll_4 : decode b_Merge_applyAll 4 = .ok (.aload_n 0, 1) := by decide +kernel
theorem d_Merge_applyAll_5 : decode b_Merge_applyAll 5 = .ok (.aload_n 3, 1) := by decide +kernel
theorem d_Merge_applyAll_6 : decode b_Merge_applyAll 6 = .ok (.invokevirtual 57, 3) := by decide +kernel
theorem d_Merge_applyAll_9 : decode b_Merge_applyAll 9 = .ok (.putfield 15, 3) := by decide +kernel
theorem d_Merge_applyAll_12 : decode b_Merge_applyAll 12 = .ok (.iconst 0, 1) := by decide +kernel
theorem d_Merge_applyAll_13 : decode b_Merge_applyAll 13 = .ok (.istore 8, 2) := by decide +kernel
theorem d_Merge_applyAll_15 : decode b_Merge_applyAll 15 = .ok (.iload 8, 2) := by decide +kernel
theorem d_Merge_applyAll_17 : decode b_Merge_applyAll 17 = .ok (.aload_n 0, 1) := by decide +kernel
theorem d_Merge_applyAll_18 : decode b_Merge_applyAll 18 = .ok (.getfield 15, 3) := by decide +kernel
theorem d_Merge_applyAll_21 : decode b_Merge_applyAll 21 = .ok (.if_icmp .ge 70, 3) := by decide +kernel
theorem d_Merge_applyAll_24 : decode b_Merge_applyAll 24 = .ok (.aload_n 3, 1) := by decide +kernel
theorem d_Merge_applyAll_25 : decode b_Merge_applyAll 25 = .ok (.iload 8, 2) := by decide +kernel
theorem d_Merge_applyAll_27 : decode b_Merge_applyAll 27 = .ok (.invokevirtual 61, 3) := by decide +kernel
theorem d_Merge_applyAll_30 : decode b_Merge_applyAll 30 = .ok (.istore 9, 2) := by decide +kernel
theorem d_Merge_applyAll_32 : decode b_Merge_applyAll 32 = .ok (.aload_n 0, 1) := by decide +kernel
theorem d_Merge_applyAll_33 : decode b_Merge_applyAll 33 = .ok (.getfield 9, 3) := by decide +kernel
theorem d_Merge_applyAll_36 : decode b_Merge_applyAll 36 = .ok (.iload 8, 2) := by decide +kernel
theorem d_Merge_applyAll_38 : decode b_Merge_applyAll 38 = .ok (.aload_n 1, 1) := by decide +kernel
theorem d_Merge_applyAll_39 : decode b_Merge_applyAll 39 = .ok (.iload 9, 2) := by decide +kernel
theorem d_Merge_applyAll_41 : decode b_Merge_applyAll 41 = .ok (.invokevirtual 68, 3) := by decide +kernel
theorem d_Merge_applyAll_44 : decode b_Merge_applyAll 44 = .ok (.ifCond .eq 18, 3) := by decide +kernel
theorem d_Merge_applyAll_47 : decode b_Merge_applyAll 47 = .ok (.aload_n 2, 1) := by decide +kernel
theorem d_Merge_applyAll_48 : decode b_Merge_applyAll 48 = .ok (.aload_n 2, 1) := by decide +kernel
theorem d_Merge_applyAll_49 : decode b_Merge_applyAll 49 = .ok (.lload 6, 2) := by decide +kernel
theorem d_Merge_applyAll_51 : decode b_Merge_applyAll 51 = .ok (.invokevirtual 72, 3) := by decide +kernel
theorem d_Merge_applyAll_54 : decode b_Merge_applyAll 54 = .ok (.iload 9, 2) := by decide +kernel
theorem d_Merge_applyAll_56 : decode b_Merge_applyAll 56 = .ok (.invokevirtual 78, 3) := by decide +kernel
theorem d_Merge_applyAll_59 : decode b_Merge_applyAll 59 = .ok (.goto 15, 3) := by decide +kernel
theorem d_Merge_applyAll_62 : decode b_Merge_applyAll 62 = .ok (.aload_n 2, 1) := by decide +kernel
theorem d_Merge_applyAll_63 : decode b_Merge_applyAll 63 = .ok (.lload 6, 2) := by decide +kernel
theorem d_Merge_applyAll_65 : decode b_Merge_applyAll 65 = .ok (.aload_n 2, 1) := by decide +kernel
theorem d_Merge_applyAll_66 : decode b_Merge_applyAll 66 = .ok (.iload 9, 2) := by decide +kernel
theorem d_Merge_applyAll_68 : decode b_Merge_applyAll 68 = .ok (.invokevirtual 82, 3) := by decide +kernel
theorem d_Merge_applyAll_71 : decode b_Merge_applyAll 71 = .ok (.invokestatic 85, 3) := by decide +kernel
theorem d_Merge_applyAll_74 : decode b_Merge_applyAll 74 = .ok (.iastore, 1) := by decide +kernel
theorem d_Merge_applyAll_75 : decode b_Merge_applyAll 75 = .ok (.lload 6, 2) := by decide +kernel
theorem d_Merge_applyAll_77 : decode b_Merge_applyAll 77 = .ok (.iload 9, 2) := by decide +kernel
theorem d_Merge_applyAll_79 : decode b_Merge_applyAll 79 = .ok (.invokestatic 89, 3) := by decide +kernel
theorem d_Merge_applyAll_82 : decode b_Merge_applyAll 82 = .ok (.lor, 1) := by decide +kernel
theorem d_Merge_applyAll_83 : decode b_Merge_applyAll 83 = .ok (.lstore 6, 2) := by decide +kernel
theorem d_Merge_applyAll_85 : decode b_Merge_applyAll 85 = .ok (.iinc 8 1, 3) := by decide +kernel
theorem d_Merge_applyAll_88 : decode b_Merge_applyAll 88 = .ok (.goto (-73), 3) := by decide +kernel
theorem d_Merge_applyAll_91 : decode b_Merge_applyAll 91 = .ok (.return_, 1) := by decide +kernel
theorem d_Merge_perform_0 : decode b_Merge_perform 0 = .ok (.aload_n 1, 1) := by decide +kernel
theorem d_Merge_perform_1 : decode b_Merge_perform 1 = .ok (.aload_n 1, 1) := by decide +kernel
theorem d_Merge_perform_2 : decode b_Merge_perform 2 = .ok (.lload 4, 2) := by decide +kernel
theorem d_Merge_perform_4 : decode b_Merge_perform 4 = .ok (.lload 6, 2) := by decide +kernel
theorem d_Merge_perform_6 : decode b_Merge_perform 6 = .ok (.lor, 1) := by decide +kernel
theorem d_Merge_perform_7 : decode b_Merge_perform 7 = .ok (.lload 4, 2) := by decide +kernel
theorem d_Merge_perform_9 : decode b_Merge_perform 9 = .ok (.invokevirtual 25, 3) := by decide +kernel
theorem d_Merge_perform_12 : decode b_Merge_perform 12 = .ok (.invokevirtual 31, 3) := by decide +kernel
theorem d_Merge_perform_15 : decode b_Merge_perform 15 = .ok (.lstore 8, 2) := by decide +kernel
theorem d_Merge_perform_17 : decode b_Merge_perform 17 = .ok (.lload 4, 2) := by decide +kernel
theorem d_Merge_perform_19 : decode b_Merge_perform 19 = .ok (.lload 8, 2) := by decide +kernel
theorem d_Merge_perform_21 : decode b_Merge_perform 21 = .ok (.ldc2_w 35, 3) := by decide +kernel
theorem d_Merge_perform_24 : decode b_Merge_perform 24 = .ok (.lxor, 1) := by decide +kernel
theorem d_Merge_perform_25 : decode b_Merge_perform 25 = .ok (.land, 1) := by decide +kernel
theorem d_Merge_perform_26 : decode b_Merge_perform 26 = .ok (.lstore 10, 2) := by decide +kernel
theorem d_Merge_perform_28 : decode b_Merge_perform 28 = .ok (.aload_n 0, 1) := by decide +kernel
theorem d_Merge_perform_29 : decode b_Merge_perform 29 = .ok (.iconst 0, 1) := by decide +kernel
theorem d_Merge_perform_30 : decode b_Merge_perform 30 = .ok (.putfield 22, 3) := by decide +kernel
theorem d_Merge_perform_33 : decode b_Merge_perform 33 = .ok (.aload_n 0, 1) := by decide +kernel
theorem d_Merge_perform_34 : decode b_Merge_perform 34 = .ok (.lload 10, 2) := by decide +kernel
theorem d_Merge_perform_36 : decode b_Merge_perform 36 = .ok (.invokestatic 37, 3) := by decide +kernel
theorem d_Merge_perform_39 : decode b_Merge_perform 39 = .ok (.putfield 19, 3) := by decide +kernel
theorem d_Merge_perform_42 : decode b_Merge_perform 42 = .ok (.aload_n 3, 1) := by decide +kernel
theorem d_Merge_perform_43 : decode b_Merge_perform 43 = .ok (.aload_n 1, 1) := by decide +kernel
theorem d_Merge_perform_44 : decode b_Merge_perform 44 = .ok (.lload 10, 2) := by decide +kernel
theorem d_Merge_perform_46 : decode b_Merge_perform 46 = .ok (.invokevirtual 43, 3) := by decide +kernel
theorem d_Merge_perform_49 : decode b_Merge_perform 49 = .ok (.aload_n 0, 1) := by decide +kernel
theorem d_Merge_perform_50 : decode b_Merge_perform 50 = .ok (.aload_n 1, 1) := by decide +kernel
theorem d_Merge_perform_51 : decode b_Merge_perform 51 = .ok (.aload_n 3, 1) := by decide +kernel
theorem d_Merge_perform_52 : decode b_Merge_perform 52 = .ok (.lload 8, 2) := by decide +kernel
theorem d_Merge_perform_54 : decode b_Merge_perform 54 = .ok (.invokevirtual 49, 3) := by decide +kernel
theorem d_Merge_perform_57 : decode b_Merge_perform 57 = .ok (.lstore 12, 2) := by decide +kernel
theorem d_Merge_perform_59 : decode b_Merge_perform 59 = .ok (.aload_n 3, 1) := by decide +kernel
theorem d_Merge_perform_60 : decode b_Merge_perform 60 = .ok (.aload_n 1, 1) := by decide +kernel
theorem d_Merge_perform_61 : decode b_Merge_perform 61 = .ok (.lload 6, 2) := by decide +kernel
theorem d_Merge_perform_63 : decode b_Merge_perform 63 = .ok (.invokevirtual 43, 3) := by decide +kernel
theorem d_Merge_perform_66 : decode b_Merge_perform 66 = .ok (.aload_n 0, 1) := by decide +kernel
theorem d_Merge_perform_67 : decode b_Merge_perform 67 = .ok (.aload_n 1, 1) := by decide +kernel
theorem d_Merge_perform_68 : decode b_Merge_perform 68 = .ok (.aload_n 3, 1) := by decide +kernel
theorem d_Merge_perform_69 : decode b_Merge_perform 69 = .ok (.lload 12, 2) := by decide +kernel
theorem d_Merge_perform_71 : decode b_Merge_perform 71 = .ok (.invokevirtual 49, 3) := by decide +kernel
theorem d_Merge_perform_74 : decode b_Merge_perform 74 = .ok (.pop2, 1) := by decide +kernel
theorem d_Merge_perform_75 : decode b_Merge_perform 75 = .ok (.aload_n 0, 1) := by decide +kernel
theorem d_Merge_perform_76 : decode b_Merge_perform 76 = .ok (.aload_n 1, 1) := by decide +kernel
theorem d_Merge_perform_77 : decode b_Merge_perform 77 = .ok (.aload_n 2, 1) := by decide +kernel
theorem d_Merge_perform_78 : decode b_Merge_perform 78 = .ok (.aload_n 3, 1) := by decide +kernel
theorem d_Merge_perform_79 : decode b_Merge_perform 79 = .ok (.lload 4, 2) := by decide +kernel
theorem d_Merge_perform_81 : decode b_Merge_perform 81 = .ok (.invokevirtual 53, 3) := by decide +kernel
theorem d_Merge_perform_84 : decode b_Merge_perform 84 = .ok (.return_, 1) := by decide +kernel
theorem d_Text_deliver_0 : decode b_Text_deliver 0 = .ok (.aload_n 0, 1) := by decide +kernel
theorem d_Text_deliver_1 : decode b_Text_deliver 1 = .ok (.iload_n 1, 1) := by decide +kernel
theorem d_Text_deliver_2 : decode b_Text_deliver 2 = .ok (.invokevirtual 119, 3) := by decide +kernel
theorem d_Text_deliver_5 : decode b_Text_deliver 5 = .ok (.ifCond .ne 7, 3) := by decide +kernel
theorem d_Text_deliver_8 : decode b_Text_deliver 8 = .ok (.sipush (-1000), 3) := by decide +kernel
theorem d_Text_deliver_11 : decode b_Text_deliver 11 = .ok (.ireturn, 1) := by decide +kernel
theorem d_Text_deliver_12 : decode b_Text_deliver 12 = .ok (.aload_n 0, 1) := by decide +kernel
theorem d_Text_deliver_13 : decode b_Text_deliver 13 = .ok (.getfield 39, 3) := by decide +kernel
theorem d_Text_deliver_16 : decode b_Text_deliver 16 = .ok (.iload_n 1, 1) := by decide +kernel
theorem d_Text_deliver_17 : decode b_Text_deliver 17 = .ok (.aaload, 1) := by decide +kernel
theorem d_Text_deliver_18 : decode b_Text_deliver 18 = .ok (.astore_n 2, 1) := by decide +kernel
theorem d_Text_deliver_19 : decode b_Text_deliver 19 = .ok (.aload_n 2, 1) := by decide +kernel
theorem d_Text_deliver_20 : decode b_Text_deliver 20 = .ok (.getfield 122, 3) := by decide +kernel
theorem d_Text_deliver_23 : decode b_Text_deliver 23 = .ok (.lstore_n 3, 1) := by decide +kernel
theorem d_Text_deliver_24 : decode b_Text_deliver 24 = .ok (.aload_n 0, 1) := by decide +kernel
theorem d_Text_deliver_25 : decode b_Text_deliver 25 = .ok (.getfield 32, 3) := by decide +kernel
theorem d_Text_deliver_28 : decode b_Text_deliver 28 = .ok (.aload_n 2, 1) := by decide +kernel
theorem d_Text_deliver_29 : decode b_Text_deliver 29 = .ok (.getfield 125, 3) := by decide +kernel
theorem d_Text_deliver_32 : decode b_Text_deliver 32 = .ok (.aaload, 1) := by decide +kernel
theorem d_Text_deliver_33 : decode b_Text_deliver 33 = .ok (.astore 5, 2) := by decide +kernel
theorem d_Text_deliver_35 : decode b_Text_deliver 35 = .ok (.aload 5, 2) := by decide +kernel
theorem d_Text_deliver_37 : decode b_Text_deliver 37 = .ok (.getfield 52, 3) := by decide +kernel
theorem d_Text_deliver_40 : decode b_Text_deliver 40 = .ok (.lstore 6, 2) := by decide +kernel
theorem d_Text_deliver_42 : decode b_Text_deliver 42 = .ok (.aload_n 0, 1) := by decide +kernel
theorem d_Text_deliver_43 : decode b_Text_deliver 43 = .ok (.getfield 10, 3) := by decide +kernel
theorem d_Text_deliver_46 : decode b_Text_deliver 46 = .ok (.lload_n 3, 1) := by decide +kernel
theorem d_Text_deliver_47 : decode b_Text_deliver 47 = .ok (.invokevirtual 129, 3) := by decide +kernel
theorem d_Text_deliver_50 : decode b_Text_deliver 50 = .ok (.lload_n 3, 1) := by decide +kernel
theorem d_Text_deliver_51 : decode b_Text_deliver 51 = .ok (.lload 6, 2) := by decide +kernel
theorem d_Text_deliver_53 : decode b_Text_deliver 53 = .ok (.lor, 1) := by decide +kernel
theorem d_Text_deliver_54 : decode b_Text_deliver 54 = .ok (.ldc2_w 101, 3) := by decide +kernel
theorem d_Text_deliver_57 : decode b_Text_deliver 57 = .ok (.lxor, 1) := by decide +kernel
theorem d_Text_deliver_58 : decode b_Text_deliver 58 = .ok (.land, 1) := by decide +kernel
theorem d_Text_deliver_59 : decode b_Text_deliver 59 = .ok (.lconst 0, 1) := by decide +kernel
theorem d_Text_deliver_60 : decode b_Text_deliver 60 = .ok (.lcmp, 1) := by decide +kernel
theorem d_Text_deliver_61 : decode b_Text_deliver 61 = .ok (.ifCond .eq 5, 3) := by decide +kernel
theorem d_Text_deliver_64 : decode b_Text_deliver 64 = .ok (.iconst (-1), 1) := by decide +kernel
theorem d_Text_deliver_65 : decode b_Text_deliver 65 = .ok (.ireturn, 1) := by decide +kernel
theorem d_Text_deliver_66 : decode b_Text_deliver 66 = .ok (.aload 5, 2) := by decide +kernel
theorem d_Text_deliver_68 : decode b_Text_deliver 68 = .ok (.getfield 97, 3) := by decide +kernel
theorem d_Text_deliver_71 : decode b_Text_deliver 71 = .ok (.aload_n 2, 1) := by decide +kernel
theorem d_Text_deliver_72 : decode b_Text_deliver 72 = .ok (.getfield 132, 3) := by decide +kernel
theorem d_Text_deliver_75 : decode b_Text_deliver 75 = .ok (.dup2, 1) := by decide +kernel
theorem d_Text_deliver_76 : decode b_Text_deliver 76 = .ok (.laload, 1) := by decide +kernel
theorem d_Text_deliver_77 : decode b_Text_deliver 77 = .ok (.aload_n 0, 1) := by decide +kernel
theorem d_Text_deliver_78 : decode b_Text_deliver 78 = .ok (.getfield 10, 3) := by decide +kernel
theorem d_Text_deliver_81 : decode b_Text_deliver 81 = .ok (.lload_n 3, 1) := by decide +kernel
theorem d_Text_deliver_82 : decode b_Text_deliver 82 = .ok (.invokevirtual 135, 3) := by decide +kernel
theorem d_Text_deliver_85 : decode b_Text_deliver 85 = .ok (.lor, 1) := by decide +kernel
theorem d_Text_deliver_86 : decode b_Text_deliver 86 = .ok (.lastore, 1) := by decide +kernel
theorem d_Text_deliver_87 : decode b_Text_deliver 87 = .ok (.lload_n 3, 1) := by decide +kernel
theorem d_Text_deliver_88 : decode b_Text_deliver 88 = .ok (.lload 6, 2) := by decide +kernel
theorem d_Text_deliver_90 : decode b_Text_deliver 90 = .ok (.ldc2_w 101, 3) := by decide +kernel
theorem d_Text_deliver_93 : decode b_Text_deliver 93 = .ok (.lxor, 1) := by decide +kernel
theorem d_Text_deliver_94 : decode b_Text_deliver 94 = .ok (.land, 1) := by decide +kernel
theorem d_Text_deliver_95 : decode b_Text_deliver 95 = .ok (.lstore 8, 2) := by decide +kernel
theorem d_Text_deliver_97 : decode b_Text_deliver 97 = .ok (.lload 8, 2) := by decide +kernel
theorem d_Text_deliver_99 : decode b_Text_deliver 99 = .ok (.lconst 0, 1) := by decide +kernel
theorem d_Text_deliver_100 : decode b_Text_deliver 100 = .ok (.lcmp, 1) := by decide +kernel
theorem d_Text_deliver_101 : decode b_Text_deliver 101 = .ok (.ifCond .eq 37, 3) := by decide +kernel
theorem d_Text_deliver_104 : decode b_Text_deliver 104 = .ok (.aload 5, 2) := by decide +kernel
theorem d_Text_deliver_106 : decode b_Text_deliver 106 = .ok (.getfield 138, 3) := by decide +kernel
theorem d_Text_deliver_109 : decode b_Text_deliver 109 = .ok (.aload_n 0, 1) := by decide +kernel
theorem d_Text_deliver_110 : decode b_Text_deliver 110 = .ok (.getfield 10, 3) := by decide +kernel
theorem d_Text_deliver_113 : decode b_Text_deliver 113 = .ok (.aload_n 0, 1) := by decide +kernel
theorem d_Text_deliver_114 : decode b_Text_deliver 114 = .ok (.getfield 19, 3) := by decide +kernel
theorem d_Text_deliver_117 : decode b_Text_deliver 117 = .ok (.aload_n 0, 1) := by decide +kernel
theorem d_Text_deliver_118 : decode b_Text_deliver 118 = .ok (.getfield 26, 3) := by decide +kernel
theorem d_Text_deliver_121 : decode b_Text_deliver 121 = .ok (.lload 6, 2) := by decide +kernel
theorem d_Text_deliver_123 : decode b_Text_deliver 123 = .ok (.lload 8, 2) := by decide +kernel
theorem d_Text_deliver_125 : decode b_Text_deliver 125 = .ok (.invokevirtual 142, 3) := by decide +kernel
theorem d_Text_deliver_128 : decode b_Text_deliver 128 = .ok (.aload 5, 2) := by decide +kernel
theorem d_Text_deliver_130 : decode b_Text_deliver 130 = .ok (.lload 6, 2) := by decide +kernel
theorem d_Text_deliver_132 : decode b_Text_deliver 132 = .ok (.lload 8, 2) := by decide +kernel
theorem d_Text_deliver_134 : decode b_Text_deliver 134 = .ok (.lor, 1) := by decide +kernel
theorem d_Text_deliver_135 : decode b_Text_deliver 135 = .ok (.putfield 52, 3) := by decide +kernel
theorem d_Text_deliver_138 : decode b_Text_deliver 138 = .ok (.lload 8, 2) := by decide +kernel
theorem d_Text_deliver_140 : decode b_Text_deliver 140 = .ok (.invokestatic 60, 3) := by decide +kernel
theorem d_Text_deliver_143 : decode b_Text_deliver 143 = .ok (.ireturn, 1) := by decide +kernel
theorem d_Text_discard_0 : decode b_Text_discard 0 = .ok (.aload_n 0, 1) := by decide +kernel
theorem d_Text_discard_1 : decode b_Text_discard 1 = .ok (.iload_n 1, 1) := by decide +kernel
theorem d_Text_discard_2 : decode b_Text_discard 2 = .ok (.invokevirtual 119, 3) := by decide +kernel
theorem d_Text_discard_5 : decode b_Text_discard 5 = .ok (.ifCond .ne 5, 3) := by decide +kernel
theorem d_Text_discard_8 : decode b_Text_discard 8 = .ok (.iconst 0, 1) := by decide +kernel
theorem d_Text_discard_9 : decode b_Text_discard 9 = .ok (.ireturn, 1) := by decide +kernel
theorem d_Text_discard_10 : decode b_Text_discard 10 = .ok (.aload_n 0, 1) := by decide +kernel
theorem d_Text_discard_11 : decode b_Text_discard 11 = .ok (.getfield 39, 3) := by decide +kernel
theorem d_Text_discard_14 : decode b_Text_discard 14 = .ok (.iload_n 1, 1) := by decide +kernel
theorem d_Text_discard_15 : decode b_Text_discard 15 = .ok (.aaload, 1) := by decide +kernel
theorem d_Text_discard_16 : decode b_Text_discard 16 = .ok (.iconst 0, 1) := by decide +kernel
theorem d_Text_discard_17 : decode b_Text_discard 17 = .ok (.putfield 148, 3) := by decide +kernel
theorem d_Text_discard_20 : decode b_Text_discard 20 = .ok (.iconst 1, 1) := by decide +kernel
theorem d_Text_discard_21 : decode b_Text_discard 21 = .ok (.ireturn, 1) := by decide +kernel
theorem d_Text_hear_0 : decode b_Text_hear 0 = .ok (.iload_n 1, 1) := by decide +kernel
theorem d_Text_hear_1 : decode b_Text_hear 1 = .ok (.iload_n 2, 1) := by decide +kernel
theorem d_Text_hear_2 : decode b_Text_hear 2 = .ok (.invokestatic 93, 3) := by decide +kernel
theorem d_Text_hear_5 : decode b_Text_hear 5 = .ok (.ifCond .ne 7, 3) := by decide +kernel
theorem d_Text_hear_8 : decode b_Text_hear 8 = .ok (.sipush (-1000), 3) := by decide +kernel
theorem d_Text_hear_11 : decode b_Text_hear 11 = .ok (.ireturn, 1) := by decide +kernel
theorem d_Text_hear_12 : decode b_Text_hear 12 = .ok (.aload_n 0, 1) := by decide +kernel
theorem d_Text_hear_13 : decode b_Text_hear 13 = .ok (.getfield 32, 3) := by decide +kernel
theorem d_Text_hear_16 : decode b_Text_hear 16 = .ok (.iload_n 1, 1) := by decide +kernel
theorem d_Text_hear_17 : decode b_Text_hear 17 = .ok (.aaload, 1) := by decide +kernel
theorem d_Text_hear_18 : decode b_Text_hear 18 = .ok (.astore_n 3, 1) := by decide +kernel
theorem d_Text_hear_19 : decode b_Text_hear 19 = .ok (.aload_n 0, 1) := by decide +kernel
theorem d_Text_hear_20 : decode b_Text_hear 20 = .ok (.getfield 10, 3) := by decide +kernel
theorem d_Text_hear_23 : decode b_Text_hear 23 = .ok (.aload_n 0, 1) := by decide +kernel
theorem d_Text_hear_24 : decode b_Text_hear 24 = .ok (.getfield 32, 3) := by decide +kernel
theorem d_Text_hear_27 : decode b_Text_hear 27 = .ok (.iload_n 2, 1) := by decide +kernel
theorem d_Text_hear_28 : decode b_Text_hear 28 = .ok (.aaload, 1) := by decide +kernel
theorem d_Text_hear_29 : decode b_Text_hear 29 = .ok (.getfield 52, 3) := by decide +kernel
theorem d_Text_hear_32 : decode b_Text_hear 32 = .ok (.invokevirtual 152, 3) := by decide +kernel
theorem d_Text_hear_35 : decode b_Text_hear 35 = .ok (.aload_n 3, 1) := by decide +kernel
theorem d_Text_hear_36 : decode b_Text_hear 36 = .ok (.getfield 52, 3) := by decide +kernel
theorem d_Text_hear_39 : decode b_Text_hear 39 = .ok (.land, 1) := by decide +kernel
theorem d_Text_hear_40 : decode b_Text_hear 40 = .ok (.lstore 4, 2) := by decide +kernel
theorem d_Text_hear_42 : decode b_Text_hear 42 = .ok (.aload_n 3, 1) := by decide +kernel
theorem d_Text_hear_43 : decode b_Text_hear 43 = .ok (.getfield 97, 3) := by decide +kernel
theorem d_Text_hear_46 : decode b_Text_hear 46 = .ok (.iload_n 2, 1) := by decide +kernel
theorem d_Text_hear_47 : decode b_Text_hear 47 = .ok (.aload_n 0, 1) := by decide +kernel
theorem d_Text_hear_48 : decode b_Text_hear 48 = .ok (.getfield 10, 3) := by decide +kernel
theorem d_Text_hear_51 : decode b_Text_hear 51 = .ok (.lload 4, 2) := by decide +kernel
theorem d_Text_hear_53 : decode b_Text_hear 53 = .ok (.invokevirtual 135, 3) := by decide +kernel
theorem d_Text_hear_56 : decode b_Text_hear 56 = .ok (.lastore, 1) := by decide +kernel
theorem d_Text_hear_57 : decode b_Text_hear 57 = .ok (.aload_n 3, 1) := by decide +kernel
theorem d_Text_hear_58 : decode b_Text_hear 58 = .ok (.getfield 97, 3) := by decide +kernel
theorem d_Text_hear_61 : decode b_Text_hear 61 = .ok (.iload_n 2, 1) := by decide +kernel
theorem d_Text_hear_62 : decode b_Text_hear 62 = .ok (.laload, 1) := by decide +kernel
theorem d_Text_hear_63 : decode b_Text_hear 63 = .ok (.invokestatic 60, 3) := by decide +kernel
theorem d_Text_hear_66 : decode b_Text_hear 66 = .ok (.ireturn, 1) := by decide +kernel
theorem d_Text_believed_0 : decode b_Text_believed 0 = .ok (.iload_n 1, 1) := by decide +kernel
theorem d_Text_believed_1 : decode b_Text_believed 1 = .ok (.iload_n 2, 1) := by decide +kernel
theorem d_Text_believed_2 : decode b_Text_believed 2 = .ok (.invokestatic 93, 3) := by decide +kernel
theorem d_Text_believed_5 : decode b_Text_believed 5 = .ok (.ifCond .eq 20, 3) := by decide +kernel
theorem d_Text_believed_8 : decode b_Text_believed 8 = .ok (.aload_n 0, 1) := by decide +kernel
theorem d_Text_believed_9 : decode b_Text_believed 9 = .ok (.getfield 32, 3) := by decide +kernel
theorem d_Text_believed_12 : decode b_Text_believed 12 = .ok (.iload_n 1, 1) := by decide +kernel
theorem d_Text_believed_13 : decode b_Text_believed 13 = .ok (.aaload, 1) := by decide +kernel
theorem d_Text_believed_14 : decode b_Text_believed 14 = .ok (.getfield 97, 3) := by decide +kernel
theorem d_Text_believed_17 : decode b_Text_believed 17 = .ok (.iload_n 2, 1) := by decide +kernel
theorem d_Text_believed_18 : decode b_Text_believed 18 = .ok (.laload, 1) := by decide +kernel
theorem d_Text_believed_19 : decode b_Text_believed 19 = .ok (.invokestatic 60, 3) := by decide +kernel
theorem d_Text_believed_22 : decode b_Text_believed 22 = .ok (.goto 6, 3) := by decide +kernel
theorem d_Text_believed_25 : decode b_Text_believed 25 = .ok (.sipush (-1000), 3) := by decide +kernel
theorem d_Text_believed_28 : decode b_Text_believed 28 = .ok (.ireturn, 1) := by decide +kernel
theorem d_OctetRow_size_0 : decode b_OctetRow_size 0 = .ok (.aload_n 0, 1) := by decide +kernel
theorem d_OctetRow_size_1 : decode b_OctetRow_size 1 = .ok (.getfield 15, 3) := by decide +kernel
theorem d_OctetRow_size_4 : decode b_OctetRow_size 4 = .ok (.ireturn, 1) := by decide +kernel
theorem d_Text_octets_0 : decode b_Text_octets 0 = .ok (.aload_n 0, 1) := by decide +kernel
theorem d_Text_octets_1 : decode b_Text_octets 1 = .ok (.iload_n 1, 1) := by decide +kernel
theorem d_Text_octets_2 : decode b_Text_octets 2 = .ok (.invokevirtual 119, 3) := by decide +kernel
theorem d_Text_octets_5 : decode b_Text_octets 5 = .ok (.ifCond .eq 18, 3) := by decide +kernel
theorem d_Text_octets_8 : decode b_Text_octets 8 = .ok (.aload_n 0, 1) := by decide +kernel
theorem d_Text_octets_9 : decode b_Text_octets 9 = .ok (.getfield 39, 3) := by decide +kernel
theorem d_Text_octets_12 : decode b_Text_octets 12 = .ok (.iload_n 1, 1) := by decide +kernel
theorem d_Text_octets_13 : decode b_Text_octets 13 = .ok (.aaload, 1) := by decide +kernel
theorem d_Text_octets_14 : decode b_Text_octets 14 = .ok (.getfield 155, 3) := by decide +kernel
theorem d_Text_octets_17 : decode b_Text_octets 17 = .ok (.invokevirtual 159, 3) := by decide +kernel
theorem d_Text_octets_20 : decode b_Text_octets 20 = .ok (.goto 6, 3) := by decide +kernel
