theorem d_Text_octets_23 : decode b_Text_octets 23 = .ok (.sipush (-1000), 3) := by decide +kernel
theorem d_Text_octets_26 : decode b_Text_octets 26 = .ok (.ireturn, 1) := by decide +kernel
theorem d_OctetRow_get_0 : decode b_OctetRow_get 0 = .ok (.iload_n 1, 1) := by decide +kernel
theorem d_OctetRow_get_1 : decode b_OctetRow_get 1 = .ok (.ifCond .lt 20, 3) := by decide +kernel
theorem d_OctetRow_get_4 : decode b_OctetRow_get 4 = .ok (.iload_n 1, 1) := by decide +kernel
theorem d_OctetRow_get_5 : decode b_OctetRow_get 5 = .ok (.aload_n 0, 1) := by decide +kernel
theorem d_OctetRow_get_6 : decode b_OctetRow_get 6 = .ok (.getfield 15, 3) := by decide +kernel
theorem d_OctetRow_get_9 : decode b_OctetRow_get 9 = .ok (.if_icmp .ge 12, 3) := by decide +kernel
theorem d_OctetRow_get_12 : decode b_OctetRow_get 12 = .ok (.aload_n 0, 1) := by decide +kernel
theorem d_OctetRow_get_13 : decode b_OctetRow_get 13 = .ok (.getfield 11, 3) := by decide +kernel
theorem d_OctetRow_get_16 : decode b_OctetRow_get 16 = .ok (.iload_n 1, 1) := by decide +kernel
theorem d_OctetRow_get_17 : decode b_OctetRow_get 17 = .ok (.iaload, 1) := by decide +kernel
theorem d_OctetRow_get_18 : decode b_OctetRow_get 18 = .ok (.goto 6, 3) := by decide +kernel
theorem d_OctetRow_get_21 : decode b_OctetRow_get 21 = .ok (.sipush (-1000), 3) := by decide +kernel
theorem d_OctetRow_get_24 : decode b_OctetRow_get 24 = .ok (.ireturn, 1) := by decide +kernel
theorem d_Text_octet_0 : decode b_Text_octet 0 = .ok (.aload_n 0, 1) := by decide +kernel
theorem d_Text_octet_1 : decode b_Text_octet 1 = .ok (.iload_n 1, 1) := by decide +kernel
theorem d_Text_octet_2 : decode b_Text_octet 2 = .ok (.invokevirtual 119, 3) := by decide +kernel
theorem d_Text_octet_5 : decode b_Text_octet 5 = .ok (.ifCond .eq 19, 3) := by decide +kernel
theorem d_Text_octet_8 : decode b_Text_octet 8 = .ok (.aload_n 0, 1) := by decide +kernel
theorem d_Text_octet_9 : decode b_Text_octet 9 = .ok (.getfield 39, 3) := by decide +kernel
theorem d_Text_octet_12 : decode b_Text_octet 12 = .ok (.iload_n 1, 1) := by decide +kernel
theorem d_Text_octet_13 : decode b_Text_octet 13 = .ok (.aaload, 1) := by decide +kernel
theorem d_Text_octet_14 : decode b_Text_octet 14 = .ok (.getfield 155, 3) := by decide +kernel
theorem d_Text_octet_17 : decode b_Text_octet 17 = .ok (.iload_n 2, 1) := by decide +kernel
theorem d_Text_octet_18 : decode b_Text_octet 18 = .ok (.invokevirtual 164, 3) := by decide +kernel
theorem d_Text_octet_21 : decode b_Text_octet 21 = .ok (.goto 6, 3) := by decide +kernel
theorem d_Text_octet_24 : decode b_Text_octet 24 = .ok (.sipush (-1000), 3) := by decide +kernel
theorem d_Text_octet_27 : decode b_Text_octet 27 = .ok (.ireturn, 1) := by decide +kernel
theorem d_Text_events_0 : decode b_Text_events 0 = .ok (.iload_n 1, 1) := by decide +kernel
theorem d_Text_events_1 : decode b_Text_events 1 = .ok (.invokestatic 44, 3) := by decide +kernel
theorem d_Text_events_4 : decode b_Text_events 4 = .ok (.ifCond .eq 18, 3) := by decide +kernel
theorem d_Text_events_7 : decode b_Text_events 7 = .ok (.aload_n 0, 1) := by decide +kernel
theorem d_Text_events_8 : decode b_Text_events 8 = .ok (.getfield 32, 3) := by decide +kernel
theorem d_Text_events_11 : decode b_Text_events 11 = .ok (.iload_n 1, 1) := by decide +kernel
theorem d_Text_events_12 : decode b_Text_events 12 = .ok (.aaload, 1) := by decide +kernel
theorem d_Text_events_13 : decode b_Text_events 13 = .ok (.getfield 52, 3) := by decide +kernel
theorem d_Text_events_16 : decode b_Text_events 16 = .ok (.invokestatic 60, 3) := by decide +kernel
theorem d_Text_events_19 : decode b_Text_events 19 = .ok (.goto 6, 3) := by decide +kernel
theorem d_Text_events_22 : decode b_Text_events 22 = .ok (.sipush (-1000), 3) := by decide +kernel
theorem d_Text_events_25 : decode b_Text_events 25 = .ok (.ireturn, 1) := by decide +kernel
theorem d_Text_heads_0 : decode b_Text_heads 0 = .ok (.iload_n 1, 1) := by decide +kernel
theorem d_Text_heads_1 : decode b_Text_heads 1 = .ok (.invokestatic 44, 3) := by decide +kernel
theorem d_Text_heads_4 : decode b_Text_heads 4 = .ok (.ifCond .eq 25, 3) := by decide +kernel
theorem d_Text_heads_7 : decode b_Text_heads 7 = .ok (.aload_n 0, 1) := by decide +kernel
theorem d_Text_heads_8 : decode b_Text_heads 8 = .ok (.getfield 10, 3) := by decide +kernel
theorem d_Text_heads_11 : decode b_Text_heads 11 = .ok (.aload_n 0, 1) := by decide +kernel
theorem d_Text_heads_12 : decode b_Text_heads 12 = .ok (.getfield 32, 3) := by decide +kernel
theorem d_Text_heads_15 : decode b_Text_heads 15 = .ok (.iload_n 1, 1) := by decide +kernel
theorem d_Text_heads_16 : decode b_Text_heads 16 = .ok (.aaload, 1) := by decide +kernel
theorem d_Text_heads_17 : decode b_Text_heads 17 = .ok (.getfield 52, 3) := by decide +kernel
theorem d_Text_heads_20 : decode b_Text_heads 20 = .ok (.invokevirtual 152, 3) := by decide +kernel
theorem d_Text_heads_23 : decode b_Text_heads 23 = .ok (.invokestatic 60, 3) := by decide +kernel
theorem d_Text_heads_26 : decode b_Text_heads 26 = .ok (.goto 6, 3) := by decide +kernel
theorem d_Text_heads_29 : decode b_Text_heads 29 = .ok (.sipush (-1000), 3) := by decide +kernel
theorem d_Text_heads_32 : decode b_Text_heads 32 = .ok (.ireturn, 1) := by decide +kernel
theorem d_Text_head_0 : decode b_Text_head 0 = .ok (.iload_n 1, 1) := by decide +kernel
theorem d_Text_head_1 : decode b_Text_head 1 = .ok (.invokestatic 44, 3) := by decide +kernel
theorem d_Text_head_4 : decode b_Text_head 4 = .ok (.ifCond .eq 7, 3) := by decide +kernel
theorem d_Text_head_7 : decode b_Text_head 7 = .ok (.iload_n 2, 1) := by decide +kernel
theorem d_Text_head_8 : decode b_Text_head 8 = .ok (.ifCond .ge 7, 3) := by decide +kernel
theorem d_Text_head_11 : decode b_Text_head 11 = .ok (.sipush (-1000), 3) := by decide +kernel
theorem d_Text_head_14 : decode b_Text_head 14 = .ok (.ireturn, 1) := by decide +kernel
theorem d_Text_head_15 : decode b_Text_head 15 = .ok (.aload_n 0, 1) := by decide +kernel
theorem d_Text_head_16 : decode b_Text_head 16 = .ok (.getfield 10, 3) := by decide +kernel
theorem d_Text_head_19 : decode b_Text_head 19 = .ok (.aload_n 0, 1) := by decide +kernel
theorem d_Text_head_20 : decode b_Text_head 20 = .ok (.getfield 32, 3) := by decide +kernel
theorem d_Text_head_23 : decode b_Text_head 23 = .ok (.iload_n 1, 1) := by decide +kernel
theorem d_Text_head_24 : decode b_Text_head 24 = .ok (.aaload, 1) := by decide +kernel
theorem d_Text_head_25 : decode b_Text_head 25 = .ok (.getfield 52, 3) := by decide +kernel
theorem d_Text_head_28 : decode b_Text_head 28 = .ok (.invokevirtual 152, 3) := by decide +kernel
theorem d_Text_head_31 : decode b_Text_head 31 = .ok (.lstore_n 3, 1) := by decide +kernel
theorem d_Text_head_32 : decode b_Text_head 32 = .ok (.aload_n 0, 1) := by decide +kernel
theorem d_Text_head_33 : decode b_Text_head 33 = .ok (.getfield 10, 3) := by decide +kernel
theorem d_Text_head_36 : decode b_Text_head 36 = .ok (.lload_n 3, 1) := by decide +kernel
theorem d_Text_head_37 : decode b_Text_head 37 = .ok (.invokevirtual 167, 3) := by decide +kernel
theorem d_Text_head_40 : decode b_Text_head 40 = .ok (.istore 5, 2) := by decide +kernel
theorem d_Text_head_42 : decode b_Text_head 42 = .ok (.iconst 0, 1) := by decide +kernel
theorem d_Text_head_43 : decode b_Text_head 43 = .ok (.istore 6, 2) := by decide +kernel
theorem d_Text_head_45 : decode b_Text_head 45 = .ok (.iload 6, 2) := by decide +kernel
theorem d_Text_head_47 : decode b_Text_head 47 = .ok (.iload_n 2, 1) := by decide +kernel
theorem d_Text_head_48 : decode b_Text_head 48 = .ok (.if_icmp .ge 37, 3) := by decide +kernel
theorem d_Text_head_51 : decode b_Text_head 51 = .ok (.iload 5, 2) := by decide +kernel
theorem d_Text_head_53 : decode b_Text_head 53 = .ok (.iconst (-1), 1) := by decide +kernel
theorem d_Text_head_54 : decode b_Text_head 54 = .ok (.if_icmp .eq 31, 3) := by decide +kernel
theorem d_Text_head_57 : decode b_Text_head 57 = .ok (.lload_n 3, 1) := by decide +kernel
theorem d_Text_head_58 : decode b_Text_head 58 = .ok (.iload 5, 2) := by decide +kernel
theorem d_Text_head_60 : decode b_Text_head 60 = .ok (.invokestatic 78, 3) := by decide +kernel
theorem d_Text_head_63 : decode b_Text_head 63 = .ok (.ldc2_w 101, 3) := by decide +kernel
theorem d_Text_head_66 : decode b_Text_head 66 = .ok (.lxor, 1) := by decide +kernel
theorem d_Text_head_67 : decode b_Text_head 67 = .ok (.land, 1) := by decide +kernel
theorem d_Text_head_68 : decode b_Text_head 68 = .ok (.lstore_n 3, 1) := by decide +kernel
theorem d_Text_head_69 : decode b_Text_head 69 = .ok (.aload_n 0, 1) := by decide +kernel
theorem d_Text_head_70 : decode b_Text_head 70 = .ok (.getfield 10, 3) := by decide +kernel
theorem d_Text_head_73 : decode b_Text_head 73 = .ok (.lload_n 3, 1) := by decide +kernel
theorem d_Text_head_74 : decode b_Text_head 74 = .ok (.invokevirtual 167, 3) := by decide +kernel
theorem d_Text_head_77 : decode b_Text_head 77 = .ok (.istore 5, 2) := by decide +kernel
theorem d_Text_head_79 : decode b_Text_head 79 = .ok (.iinc 6 1, 3) := by decide +kernel
theorem d_Text_head_82 : decode b_Text_head 82 = .ok (.goto (-37), 3) := by decide +kernel
theorem d_Text_head_85 : decode b_Text_head 85 = .ok (.iload 5, 2) := by decide +kernel
theorem d_Text_head_87 : decode b_Text_head 87 = .ok (.iconst (-1), 1) := by decide +kernel
theorem d_Text_head_88 : decode b_Text_head 88 = .ok (.if_icmp .ne 9, 3) := by decide +kernel
theorem d_Text_head_91 : decode b_Text_head 91 = .ok (.sipush (-1000), 3) := by decide +kernel
theorem d_Text_head_94 : decode b_Text_head 94 = .ok (.goto 12, 3) := by decide +kernel
theorem d_Text_head_97 : decode b_Text_head 97 = .ok (.aload_n 0, 1) := by decide +kernel
theorem d_Text_head_98 : decode b_Text_head 98 = .ok (.getfield 10, 3) := by decide +kernel
theorem d_Text_head_101 : decode b_Text_head 101 = .ok (.iload 5, 2) := by decide +kernel
theorem d_Text_head_103 : decode b_Text_head 103 = .ok (.invokevirtual 170, 3) := by decide +kernel
theorem d_Text_head_106 : decode b_Text_head 106 = .ok (.ireturn, 1) := by decide +kernel
theorem d_History_wasMade_0 : decode b_History_wasMade 0 = .ok (.iload_n 1, 1) := by decide +kernel
theorem d_History_wasMade_1 : decode b_History_wasMade 1 = .ok (.invokestatic 45, 3) := by decide +kernel
theorem d_History_wasMade_4 : decode b_History_wasMade 4 = .ok (.ifCond .eq 21, 3) := by decide +kernel
theorem d_History_wasMade_7 : decode b_History_wasMade 7 = .ok (.iload_n 2, 1) := by decide +kernel
theorem d_History_wasMade_8 : decode b_History_wasMade 8 = .ok (.ifCond .lt 17, 3) := by decide +kernel
theorem d_History_wasMade_11 : decode b_History_wasMade 11 = .ok (.iload_n 2, 1) := by decide +kernel
theorem d_History_wasMade_12 : decode b_History_wasMade 12 = .ok (.aload_n 0, 1) := by decide +kernel
theorem d_History_wasMade_13 : decode b_History_wasMade 13 = .ok (.getfield 34, 3) := by decide +kernel
theorem d_History_wasMade_16 : decode b_History_wasMade 16 = .ok (.iload_n 1, 1) := by decide +kernel
theorem d_History_wasMade_17 : decode b_History_wasMade 17 = .ok (.iaload, 1) := by decide +kernel
theorem d_History_wasMade_18 : decode b_History_wasMade 18 = .ok (.if_icmp .ge 7, 3) := by decide +kernel
theorem d_History_wasMade_21 : decode b_History_wasMade 21 = .ok (.iconst 1, 1) := by decide +kernel
theorem d_History_wasMade_22 : decode b_History_wasMade 22 = .ok (.goto 4, 3) := by decide +kernel
theorem d_History_wasMade_25 : decode b_History_wasMade 25 = .ok (.iconst 0, 1) := by decide +kernel
theorem d_History_wasMade_26 : decode b_History_wasMade 26 = .ok (.ireturn, 1) := by decide +kernel
theorem d_History_slotOf_0 : decode b_History_slotOf 0 = .ok (.aload_n 0, 1) := by decide +kernel
theorem d_History_slotOf_1 : decode b_History_slotOf 1 = .ok (.getfield 31, 3) := by decide +kernel
theorem d_History_slotOf_4 : decode b_History_slotOf 4 = .ok (.iload_n 1, 1) := by decide +kernel
theorem d_History_slotOf_5 : decode b_History_slotOf 5 = .ok (.bipush 40, 2) := by decide +kernel
theorem d_History_slotOf_7 : decode b_History_slotOf 7 = .ok (.imul, 1) := by decide +kernel
theorem d_History_slotOf_8 : decode b_History_slotOf 8 = .ok (.iload_n 2, 1) := by decide +kernel
theorem d_History_slotOf_9 : decode b_History_slotOf 9 = .ok (.iadd, 1) := by decide +kernel
theorem d_History_slotOf_10 : decode b_History_slotOf 10 = .ok (.iaload, 1) := by decide +kernel
theorem d_History_slotOf_11 : decode b_History_slotOf 11 = .ok (.ireturn, 1) := by decide +kernel
theorem d_Text_ancestor_0 : decode b_Text_ancestor 0 = .ok (.aload_n 0, 1) := by decide +kernel
theorem d_Text_ancestor_1 : decode b_Text_ancestor 1 = .ok (.getfield 10, 3) := by decide +kernel
theorem d_Text_ancestor_4 : decode b_Text_ancestor 4 = .ok (.iload_n 1, 1) := by decide +kernel
theorem d_Text_ancestor_5 : decode b_Text_ancestor 5 = .ok (.iload_n 2, 1) := by decide +kernel
theorem d_Text_ancestor_6 : decode b_Text_ancestor 6 = .ok (.invokevirtual 173, 3) := by decide +kernel
theorem d_Text_ancestor_9 : decode b_Text_ancestor 9 = .ok (.ifCond .eq 16, 3) := by decide +kernel
theorem d_Text_ancestor_12 : decode b_Text_ancestor 12 = .ok (.aload_n 0, 1) := by decide +kernel
theorem d_Text_ancestor_13 : decode b_Text_ancestor 13 = .ok (.getfield 10, 3) := by decide +kernel
theorem d_Text_ancestor_16 : decode b_Text_ancestor 16 = .ok (.iload_n 3, 1) := by decide +kernel
theorem d_Text_ancestor_17 : decode b_Text_ancestor 17 = .ok (.iload 4, 2) := by decide +kernel
theorem d_Text_ancestor_19 : decode b_Text_ancestor 19 = .ok (.invokevirtual 173, 3) := by decide +kernel
theorem d_Text_ancestor_22 : decode b_Text_ancestor 22 = .ok (.ifCond .ne 7, 3) := by decide +kernel
theorem d_Text_ancestor_25 : decode b_Text_ancestor 25 = .ok (.sipush (-1000), 3) := by decide +kernel
theorem d_Text_ancestor_28 : decode b_Text_ancestor 28 = .ok (.ireturn, 1) := by decide +kernel
theorem d_Text_ancestor_29 : decode b_Text_ancestor 29 = .ok (.aload_n 0, 1) := by decide +kernel
theorem d_Text_ancestor_30 : decode b_Text_ancestor 30 = .ok (.getfield 10, 3) := by decide +kernel
theorem d_Text_ancestor_33 : decode b_Text_ancestor 33 = .ok (.aload_n 0, 1) := by decide +kernel
theorem d_Text_ancestor_34 : decode b_Text_ancestor 34 = .ok (.getfield 10, 3) := by decide +kernel
theorem d_Text_ancestor_37 : decode b_Text_ancestor 37 = .ok (.iload_n 3, 1) := by decide +kernel
theorem d_Text_ancestor_38 : decode b_Text_ancestor 38 = .ok (.iload 4, 2) := by decide +kernel
theorem d_Text_ancestor_40 : decode b_Text_ancestor 40 = .ok (.invokevirtual 176, 3) := by decide +kernel
theorem d_Text_ancestor_43 : decode b_Text_ancestor 43 = .ok (.invokevirtual 180, 3) := by decide +kernel
theorem d_Text_ancestor_46 : decode b_Text_ancestor 46 = .ok (.aload_n 0, 1) := by decide +kernel
theorem d_Text_ancestor_47 : decode b_Text_ancestor 47 = .ok (.getfield 10, 3) := by decide +kernel
theorem d_Text_ancestor_50 : decode b_Text_ancestor 50 = .ok (.iload_n 1, 1) := by decide +kernel
theorem d_Text_ancestor_51 : decode b_Text_ancestor 51 = .ok (.iload_n 2, 1) := by decide +kernel
theorem d_Text_ancestor_52 : decode b_Text_ancestor 52 = .ok (.invokevirtual 176, 3) := by decide +kernel
theorem d_Text_ancestor_55 : decode b_Text_ancestor 55 = .ok (.invokestatic 183, 3) := by decide +kernel
theorem d_Text_ancestor_58 : decode b_Text_ancestor 58 = .ok (.ifCond .eq 7, 3) := by decide +kernel
theorem d_Text_ancestor_61 : decode b_Text_ancestor 61 = .ok (.iconst 1, 1) := by decide +kernel
theorem d_Text_ancestor_62 : decode b_Text_ancestor 62 = .ok (.goto 4, 3) := by decide +kernel
theorem d_Text_ancestor_65 : decode b_Text_ancestor 65 = .ok (.iconst 0, 1) := by decide +kernel
theorem d_Text_ancestor_66 : decode b_Text_ancestor 66 = .ok (.ireturn, 1) := by decide +kernel
theorem d_Text_critical_0 : decode b_Text_critical 0 = .ok (.iload_n 1, 1) := by decide +kernel
theorem d_Text_critical_1 : decode b_Text_critical 1 = .ok (.invokestatic 44, 3) := by decide +kernel
theorem d_Text_critical_4 : decode b_Text_critical 4 = .ok (.ifCond .ne 7, 3) := by decide +kernel
theorem d_Text_critical_7 : decode b_Text_critical 7 = .ok (.sipush (-1000), 3) := by decide +kernel
theorem d_Text_critical_10 : decode b_Text_critical 10 = .ok (.ireturn, 1) := by decide +kernel
theorem d_Text_critical_11 : decode b_Text_critical 11 = .ok (.aload_n 0, 1) := by decide +kernel
theorem d_Text_critical_12 : decode b_Text_critical 12 = .ok (.getfield 32, 3) := by decide +kernel
theorem d_Text_critical_15 : decode b_Text_critical 15 = .ok (.iload_n 1, 1) := by decide +kernel
theorem d_Text_critical_16 : decode b_Text_critical 16 = .ok (.aaload, 1) := by decide +kernel
theorem d_Text_critical_17 : decode b_Text_critical 17 = .ok (.getfield 52, 3) := by decide +kernel
theorem d_Text_critical_20 : decode b_Text_critical 20 = .ok (.lstore_n 2, 1) := by decide +kernel
theorem d_Text_critical_21 : decode b_Text_critical 21 = .ok (.aload_n 0, 1) := by decide +kernel
theorem d_Text_critical_22 : decode b_Text_critical 22 = .ok (.getfield 10, 3) := by decide +kernel
theorem d_Text_critical_25 : decode b_Text_critical 25 = .ok (.aload_n 0, 1) := by decide +kernel
theorem d_Text_critical_26 : decode b_Text_critical 26 = .ok (.getfield 10, 3) := by decide +kernel
theorem d_Text_critical_29 : decode b_Text_critical 29 = .ok (.lload_n 2, 1) := by decide +kernel
theorem d_Text_critical_30 : decode b_Text_critical 30 = .ok (.lload_n 2, 1) := by decide +kernel
theorem d_Text_critical_31 : decode b_Text_critical 31 = .ok (.invokevirtual 187, 3) := by decide +kernel
theorem d_Text_critical_34 : decode b_Text_critical 34 = .ok (.invokevirtual 191, 3) := by decide +kernel
theorem d_Text_critical_37 : decode b_Text_critical 37 = .ok (.invokestatic 60, 3) := by decide +kernel
theorem d_Text_critical_40 : decode b_Text_critical 40 = .ok (.ireturn, 1) := by decide +kernel
theorem d_Text_replayed_0 : decode b_Text_replayed 0 = .ok (.iload_n 1, 1) := by decide +kernel
theorem d_Text_replayed_1 : decode b_Text_replayed 1 = .ok (.invokestatic 44, 3) := by decide +kernel
theorem d_Text_replayed_4 : decode b_Text_replayed 4 = .ok (.ifCond .eq 18, 3) := by decide +kernel
theorem d_Text_replayed_7 : decode b_Text_replayed 7 = .ok (.aload_n 0, 1) := by decide +kernel
theorem d_Text_replayed_8 : decode b_Text_replayed 8 = .ok (.getfield 32, 3) := by decide +kernel
theorem d_Text_replayed_11 : decode b_Text_replayed 11 = .ok (.iload_n 1, 1) := by decide +kernel
theorem d_Text_replayed_12 : decode b_Text_replayed 12 = .ok (.aaload, 1) := by decide +kernel
theorem d_Text_replayed_13 : decode b_Text_replayed 13 = .ok (.getfield 138, 3) := by decide +kernel
theorem d_Text_replayed_16 : decode b_Text_replayed 16 = .ok (.getfield 194, 3) := by decide +kernel
theorem d_Text_replayed_19 : decode b_Text_replayed 19 = .ok (.goto 6, 3) := by decide +kernel
theorem d_Text_replayed_22 : decode b_Text_replayed 22 = .ok (.sipush (-1000), 3) := by decide +kernel
theorem d_Text_replayed_25 : decode b_Text_replayed 25 = .ok (.ireturn, 1) := by decide +kernel
theorem d_Text_moves_0 : decode b_Text_moves 0 = .ok (.iload_n 1, 1) := by decide +kernel
theorem d_Text_moves_1 : decode b_Text_moves 1 = .ok (.invokestatic 44, 3) := by decide +kernel
theorem d_Text_moves_4 : decode b_Text_moves 4 = .ok (.ifCond .eq 18, 3) := by decide +kernel
theorem d_Text_moves_7 : decode b_Text_moves 7 = .ok (.aload_n 0, 1) := by decide +kernel
theorem d_Text_moves_8 : decode b_Text_moves 8 = .ok (.getfield 32, 3) := by decide +kernel
theorem d_Text_moves_11 : decode b_Text_moves 11 = .ok (.iload_n 1, 1) := by decide +kernel
theorem d_Text_moves_12 : decode b_Text_moves 12 = .ok (.aaload, 1) := by decide +kernel
theorem d_Text_moves_13 : decode b_Text_moves 13 = .ok (.getfield 138, 3) := by decide +kernel
theorem d_Text_moves_16 : decode b_Text_moves 16 = .ok (.getfield 197, 3) := by decide +kernel
theorem d_Text_moves_19 : decode b_Text_moves 19 = .ok (.goto 6, 3) := by decide +kernel
theorem d_Text_moves_22 : decode b_Text_moves 22 = .ok (.sipush (-1000), 3) := by decide +kernel
theorem d_Text_moves_25 : decode b_Text_moves 25 = .ok (.ireturn, 1) := by decide +kernel
theorem d_Text_operation_0 : decode b_Text_operation 0 = .ok (.iload_n 1, 1) := by decide +kernel
theorem d_Text_operation_1 : decode b_Text_operation 1 = .ok (.invokestatic 44, 3) := by decide +kernel
theorem d_Text_operation_4 : decode b_Text_operation 4 = .ok (.ifCond .eq 23, 3) := by decide +kernel
theorem d_Text_operation_7 : decode b_Text_operation 7 = .ok (.iload_n 2, 1) := by decide +kernel
theorem d_Text_operation_8 : decode b_Text_operation 8 = .ok (.ifCond .lt 19, 3) := by decide +kernel
theorem d_Text_operation_11 : decode b_Text_operation 11 = .ok (.iload_n 2, 1) := by decide +kernel
theorem d_Text_operation_12 : decode b_Text_operation 12 = .ok (.aload_n 0, 1) := by decide +kernel
theorem d_Text_operation_13 : decode b_Text_operation 13 = .ok (.getfield 32, 3) := by decide +kernel
theorem d_Text_operation_16 : decode b_Text_operation 16 = .ok (.iload_n 1, 1) := by decide +kernel
theorem d_Text_operation_17 : decode b_Text_operation 17 = .ok (.aaload, 1) := by decide +kernel
theorem d_Text_operation_18 : decode b_Text_operation 18 = .ok (.getfield 138, 3) := by decide +kernel
theorem d_Text_operation_21 : decode b_Text_operation 21 = .ok (.getfield 200, 3) := by decide +kernel
theorem d_Text_operation_24 : decode b_Text_operation 24 = .ok (.if_icmp .lt 7, 3) := by decide +kernel
theorem d_Text_operation_27 : decode b_Text_operation 27 = .ok (.sipush (-1000), 3) := by decide +kernel
theorem d_Text_operation_30 : decode b_Text_operation 30 = .ok (.ireturn, 1) := by decide +kernel
theorem d_Text_operation_31 : decode b_Text_operation 31 = .ok (.aload_n 0, 1) := by decide +kernel
theorem d_Text_operation_32 : decode b_Text_operation 32 = .ok (.getfield 32, 3) := by decide +kernel
theorem d_Text_operation_35 : decode b_Text_operation 35 = .ok (.iload_n 1, 1) := by decide +kernel
theorem d_Text_operation_36 : decode b_Text_operation 36 = .ok (.aaload, 1) := by decide +kernel
theorem d_Text_operation_37 : decode b_Text_operation 37 = .ok (.getfield 138, 3) := by decide +kernel
theorem d_Text_operation_40 : decode b_Text_operation 40 = .ok (.getfield 203, 3) := by decide +kernel
theorem d_Text_operation_43 : decode b_Text_operation 43 = .ok (.iload_n 2, 1) := by decide +kernel
theorem d_Text_operation_44 : decode b_Text_operation 44 = .ok (.iaload, 1) := by decide +kernel
theorem d_Text_operation_45 : decode b_Text_operation 45 = .ok (.ireturn, 1) := by decide +kernel
theorem d_Model_in_0 : decode b_Model_in 0 = .ok (.lload_n 0, 1) := by decide +kernel
theorem d_Model_in_1 : decode b_Model_in 1 = .ok (.iload_n 2, 1) := by decide +kernel
theorem d_Model_in_2 : decode b_Model_in 2 = .ok (.lushr, 1) := by decide +kernel
theorem d_Model_in_3 : decode b_Model_in 3 = .ok (.lconst 1, 1) := by decide +kernel
theorem d_Model_in_4 : decode b_Model_in 4 = .ok (.land, 1) := by decide +kernel
theorem d_Model_in_5 : decode b_Model_in 5 = .ok (.lconst 0, 1) := by decide +kernel
theorem d_Model_in_6 : decode b_Model_in 6 = .ok (.lcmp, 1) := by decide +kernel
theorem d_Model_in_7 : decode b_Model_in 7 = .ok (.ifCond .eq 7, 3) := by decide +kernel
theorem d_Model_in_10 : decode b_Model_in 10 = .ok (.iconst 1, 1) := by decide +kernel
theorem d_Model_in_11 : decode b_Model_in 11 = .ok (.goto 4, 3) := by decide +kernel
theorem d_Model_in_14 : decode b_Model_in 14 = .ok (.iconst 0, 1) := by decide +kernel
theorem d_Model_in_15 : decode b_Model_in 15 = .ok (.ireturn, 1) := by decide +kernel
theorem d_Model_one_0 : decode b_Model_one 0 = .ok (.lconst 1, 1) := by decide +kernel
theorem d_Model_one_1 : decode b_Model_one 1 = .ok (.iload_n 0, 1) := by decide +kernel
theorem d_Model_one_2 : decode b_Model_one 2 = .ok (.lshl, 1) := by decide +kernel
theorem d_Model_one_3 : decode b_Model_one 3 = .ok (.lreturn, 1) := by decide +kernel
theorem d_Model_many_0 : decode b_Model_many 0 = .ok (.iconst 0, 1) := by decide +kernel
theorem d_Model_many_1 : decode b_Model_many 1 = .ok (.istore_n 2, 1) := by decide +kernel
theorem d_Model_many_2 : decode b_Model_many 2 = .ok (.iconst 0, 1) := by decide +kernel
theorem d_Model_many_3 : decode b_Model_many 3 = .ok (.istore_n 3, 1) := by decide +kernel
theorem d_Model_many_4 : decode b_Model_many 4 = .ok (.iload_n 3, 1) := by decide +kernel
theorem d_Model_many_5 : decode b_Model_many 5 = .ok (.bipush 40, 2) := by decide +kernel
theorem d_Model_many_7 : decode b_Model_many 7 = .ok (.if_icmp .ge 25, 3) := by decide +kernel
theorem d_Model_many_10 : decode b_Model_many 10 = .ok (.iload_n 2, 1) := by decide +kernel
theorem d_Model_many_11 : decode b_Model_many 11 = .ok (.lload_n 0, 1) := by decide +kernel
theorem d_Model_many_12 : decode b_Model_many 12 = .ok (.iload_n 3, 1) := by decide +kernel
theorem d_Model_many_13 : decode b_Model_many 13 = .ok (.invokestatic 78, 3) := by decide +kernel
theorem d_Model_many_16 : decode b_Model_many 16 = .ok (.ifCond .eq 7, 3) := by decide +kernel
theorem d_Model_many_19 : decode b_Model_many 19 = .ok (.iconst 1, 1) := by decide +kernel
theorem d_Model_many_20 : decode b_Model_many 20 = .ok (.goto 4, 3) := by decide +kernel
theorem d_Model_many_23 : decode b_Model_many 23 = .ok (.iconst 0, 1) := by decide +kernel
theorem d_Model_many_24 : decode b_Model_many 24 = .ok (.iadd, 1) := by decide +kernel
theorem d_Model_many_25 : decode b_Model_many 25 = .ok (.istore_n 2, 1) := by decide +kernel
theorem d_Model_many_26 : decode b_Model_many 26 = .ok (.iinc 3 1, 3) := by decide +kernel
theorem d_Model_many_29 : decode b_Model_many 29 = .ok (.goto (-25), 3) := by decide +kernel
theorem d_Model_many_32 : decode b_Model_many 32 = .ok (.iload_n 2, 1) := by decide +kernel
theorem d_Model_many_33 : decode b_Model_many 33 = .ok (.ireturn, 1) := by decide +kernel
theorem d_Model_wrong_0 : decode b_Model_wrong 0 = .ok (.iload_n 0, 1) := by decide +kernel
theorem d_Model_wrong_1 : decode b_Model_wrong 1 = .ok (.ifCond .lt 8, 3) := by decide +kernel
theorem d_Model_wrong_4 : decode b_Model_wrong 4 = .ok (.iload_n 0, 1) := by decide +kernel
theorem d_Model_wrong_5 : decode b_Model_wrong 5 = .ok (.iconst 2, 1) := by decide +kernel
theorem d_Model_wrong_6 : decode b_Model_wrong 6 = .ok (.if_icmp .le 7, 3) := by decide +kernel
theorem d_Model_wrong_9 : decode b_Model_wrong 9 = .ok (.iconst 1, 1) := by decide +kernel
theorem d_Model_wrong_10 : decode b_Model_wrong 10 = .ok (.goto 4, 3) := by decide +kernel
theorem d_Model_wrong_13 : decode b_Model_wrong 13 = .ok (.iconst 0, 1) := by decide +kernel
theorem d_Model_wrong_14 : decode b_Model_wrong 14 = .ok (.ireturn, 1) := by decide +kernel
theorem d_Model_wrongPair_0 : decode b_Model_wrongPair 0 = .ok (.iload_n 0, 1) := by decide +kernel
theorem d_Model_wrongPair_1 : decode b_Model_wrongPair 1 = .ok (.invokestatic 82, 3) := by decide +kernel
theorem d_Model_wrongPair_4 : decode b_Model_wrongPair 4 = .ok (.ifCond .ne 15, 3) := by decide +kernel
theorem d_Model_wrongPair_7 : decode b_Model_wrongPair 7 = .ok (.iload_n 1, 1) := by decide +kernel
theorem d_Model_wrongPair_8 : decode b_Model_wrongPair 8 = .ok (.invokestatic 82, 3) := by decide +kernel
theorem d_Model_wrongPair_11 : decode b_Model_wrongPair 11 = .ok (.ifCond .ne 8, 3) := by decide +kernel
theorem d_Model_wrongPair_14 : decode b_Model_wrongPair 14 = .ok (.iload_n 0, 1) := by decide +kernel
theorem d_Model_wrongPair_15 : decode b_Model_wrongPair 15 = .ok (.iload_n 1, 1) := by decide +kernel
theorem d_Model_wrongPair_16 : decode b_Model_wrongPair 16 = .ok (.if_icmp .ne 7, 3) := by decide +kernel
theorem d_Model_wrongPair_19 : decode b_Model_wrongPair 19 = .ok (.iconst 1, 1) := by decide +kernel
theorem d_Model_wrongPair_20 : decode b_Model_wrongPair 20 = .ok (.goto 4, 3) := by decide +kernel
theorem d_Model_wrongPair_23 : decode b_Model_wrongPair 23 = .ok (.iconst 0, 1) := by decide +kernel
theorem d_Model_wrongPair_24 : decode b_Model_wrongPair 24 = .ok (.ireturn, 1) := by decide +kernel
theorem d_Model_hidden_0 : decode b_Model_hidden 0 = .ok (.lconst 0, 1) := by decide +kernel
theorem d_Model_hidden_1 : decode b_Model_hidden 1 = .ok (.lstore_n 3, 1) := by decide +kernel
theorem d_Model_hidden_2 : decode b_Model_hidden 2 = .ok (.iconst 0, 1) := by decide +kernel
theorem d_Model_hidden_3 : decode b_Model_hidden 3 = .ok (.istore 5, 2) := by decide +kernel
theorem d_Model_hidden_5 : decode b_Model_hidden 5 = .ok (.iload 5, 2) := by decide +kernel
theorem d_Model_hidden_7 : decode b_Model_hidden 7 = .ok (.aload_n 0, 1) := by decide +kernel
