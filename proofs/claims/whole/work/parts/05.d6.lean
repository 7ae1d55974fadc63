theorem dX6_init_0 : decode cX6_init 0 = .ok (.aload_n 0, 1) := by decide +kernel
theorem dX6_init_1 : decode cX6_init 1 = .ok (.invokespecial 1, 3) := by decide +kernel
theorem dX6_init_4 : decode cX6_init 4 = .ok (.aload_n 0, 1) := by decide +kernel
theorem dX6_init_5 : decode cX6_init 5 = .ok (.sipush 512, 3) := by decide +kernel
theorem dX6_init_8 : decode cX6_init 8 = .ok (.newarray .int, 2) := by decide +kernel
theorem dX6_init_10 : decode cX6_init 10 = .ok (.putfield 7, 3) := by decide +kernel
theorem dX6_init_13 : decode cX6_init 13 = .ok (.aload_n 0, 1) := by decide +kernel
theorem dX6_init_14 : decode cX6_init 14 = .ok (.sipush 512, 3) := by decide +kernel
theorem dX6_init_17 : decode cX6_init 17 = .ok (.newarray .int, 2) := by decide +kernel
theorem dX6_init_19 : decode cX6_init 19 = .ok (.putfield 13, 3) := by decide +kernel
theorem dX6_init_22 : decode cX6_init 22 = .ok (.aload_n 0, 1) := by decide +kernel
theorem dX6_init_23 : decode cX6_init 23 = .ok (.sipush 2048, 3) := by decide +kernel
theorem dX6_init_26 : decode cX6_init 26 = .ok (.newarray .int, 2) := by decide +kernel
theorem dX6_init_28 : decode cX6_init 28 = .ok (.putfield 16, 3) := by decide +kernel
theorem dX6_init_31 : decode cX6_init 31 = .ok (.aload_n 0, 1) := by decide +kernel
theorem dX6_init_32 : decode cX6_init 32 = .ok (.bipush 60, 2) := by decide +kernel
theorem dX6_init_34 : decode cX6_init 34 = .ok (.newarray .char, 2) := by decide +kernel
theorem dX6_init_36 : decode cX6_init 36 = .ok (.putfield 19, 3) := by decide +kernel
theorem dX6_init_39 : decode cX6_init 39 = .ok (.aload_n 0, 1) := by decide +kernel
theorem dX6_init_40 : decode cX6_init 40 = .ok (.bipush 120, 2) := by decide +kernel
theorem dX6_init_42 : decode cX6_init 42 = .ok (.newarray .int, 2) := by decide +kernel
theorem dX6_init_44 : decode cX6_init 44 = .ok (.putfield 23, 3) := by decide +kernel
theorem dX6_init_47 : decode cX6_init 47 = .ok (.aload_n 0, 1) := by decide +kernel
theorem dX6_init_48 : decode cX6_init 48 = .ok (.getfield 7, 3) := by decide +kernel
theorem dX6_init_51 : decode cX6_init 51 = .ok (.bipush 52, 2) := by decide +kernel
theorem dX6_init_53 : decode cX6_init 53 = .ok (.iconst 1, 1) := by decide +kernel
theorem dX6_init_54 : decode cX6_init 54 = .ok (.iastore, 1) := by decide +kernel
theorem dX6_init_55 : decode cX6_init 55 = .ok (.return_, 1) := by decide +kernel
theorem dX6_in_0 : decode cX6_in 0 = .ok (.iload_n 0, 1) := by decide +kernel
theorem dX6_in_1 : decode cX6_in 1 = .ok (.iload_n 1, 1) := by decide +kernel
theorem dX6_in_2 : decode cX6_in 2 = .ok (.if_icmp .lt 12, 3) := by decide +kernel
theorem dX6_in_5 : decode cX6_in 5 = .ok (.iload_n 0, 1) := by decide +kernel
theorem dX6_in_6 : decode cX6_in 6 = .ok (.iload_n 2, 1) := by decide +kernel
theorem dX6_in_7 : decode cX6_in 7 = .ok (.if_icmp .gt 7, 3) := by decide +kernel
theorem dX6_in_10 : decode cX6_in 10 = .ok (.iconst 1, 1) := by decide +kernel
theorem dX6_in_11 : decode cX6_in 11 = .ok (.goto 4, 3) := by decide +kernel
theorem dX6_in_14 : decode cX6_in 14 = .ok (.iconst 0, 1) := by decide +kernel
theorem dX6_in_15 : decode cX6_in 15 = .ok (.ireturn, 1) := by decide +kernel
theorem dX6_begin_0 : decode cX6_begin 0 = .ok (.iconst 0, 1) := by decide +kernel
theorem dX6_begin_1 : decode cX6_begin 1 = .ok (.istore_n 1, 1) := by decide +kernel
theorem dX6_begin_2 : decode cX6_begin 2 = .ok (.iload_n 1, 1) := by decide +kernel
theorem dX6_begin_3 : decode cX6_begin 3 = .ok (.sipush 512, 3) := by decide +kernel
theorem dX6_begin_6 : decode cX6_begin 6 = .ok (.if_icmp .ge 21, 3) := by decide +kernel
theorem dX6_begin_9 : decode cX6_begin 9 = .ok (.aload_n 0, 1) := by decide +kernel
theorem dX6_begin_10 : decode cX6_begin 10 = .ok (.getfield 13, 3) := by decide +kernel
theorem dX6_begin_13 : decode cX6_begin 13 = .ok (.iload_n 1, 1) := by decide +kernel
theorem dX6_begin_14 : decode cX6_begin 14 = .ok (.aload_n 0, 1) := by decide +kernel
theorem dX6_begin_15 : decode cX6_begin 15 = .ok (.getfield 7, 3) := by decide +kernel
theorem dX6_begin_18 : decode cX6_begin 18 = .ok (.iload_n 1, 1) := by decide +kernel
theorem dX6_begin_19 : decode cX6_begin 19 = .ok (.iaload, 1) := by decide +kernel
theorem dX6_begin_20 : decode cX6_begin 20 = .ok (.iastore, 1) := by decide +kernel
theorem dX6_begin_21 : decode cX6_begin 21 = .ok (.iinc 1 1, 3) := by decide +kernel
theorem dX6_begin_24 : decode cX6_begin 24 = .ok (.goto (-22), 3) := by decide +kernel
theorem dX6_begin_27 : decode cX6_begin 27 = .ok (.return_, 1) := by decide +kernel
theorem dX6_done_0 : decode cX6_done 0 = .ok (.iload_n 1, 1) := by decide +kernel
theorem dX6_done_1 : decode cX6_done 1 = .ok (.ifCond .ge 5, 3) := by decide +kernel
theorem dX6_done_4 : decode cX6_done 4 = .ok (.iload_n 1, 1) := by decide +kernel
theorem dX6_done_5 : decode cX6_done 5 = .ok (.ireturn, 1) := by decide +kernel
theorem dX6_done_6 : decode cX6_done 6 = .ok (.aload_n 0, 1) := by decide +kernel
theorem dX6_done_7 : decode cX6_done 7 = .ok (.getfield 26, 3) := by decide +kernel
theorem dX6_done_10 : decode cX6_done 10 = .ok (.iconst 4, 1) := by decide +kernel
theorem dX6_done_11 : decode cX6_done 11 = .ok (.if_icmp .ne 49, 3) := by decide +kernel
theorem dX6_done_14 : decode cX6_done 14 = .ok (.aload_n 0, 1) := by decide +kernel
theorem dX6_done_15 : decode cX6_done 15 = .ok (.dup, 1) := by decide +kernel
theorem dX6_done_16 : decode cX6_done 16 = .ok (.getfield 26, 3) := by decide +kernel
theorem dX6_done_19 : decode cX6_done 19 = .ok (.iconst 1, 1) := by decide +kernel
theorem dX6_done_20 : decode cX6_done 20 = .ok (.isub, 1) := by decide +kernel
theorem dX6_done_21 : decode cX6_done 21 = .ok (.putfield 26, 3) := by decide +kernel
theorem dX6_done_24 : decode cX6_done 24 = .ok (.iconst 0, 1) := by decide +kernel
theorem dX6_done_25 : decode cX6_done 25 = .ok (.istore_n 2, 1) := by decide +kernel
theorem dX6_done_26 : decode cX6_done 26 = .ok (.iload_n 2, 1) := by decide +kernel
theorem dX6_done_27 : decode cX6_done 27 = .ok (.sipush 512, 3) := by decide +kernel
theorem dX6_done_30 : decode cX6_done 30 = .ok (.aload_n 0, 1) := by decide +kernel
theorem dX6_done_31 : decode cX6_done 31 = .ok (.getfield 26, 3) := by decide +kernel
theorem dX6_done_34 : decode cX6_done 34 = .ok (.imul, 1) := by decide +kernel
theorem dX6_done_35 : decode cX6_done 35 = .ok (.if_icmp .ge 25, 3) := by decide +kernel
theorem dX6_done_38 : decode cX6_done 38 = .ok (.aload_n 0, 1) := by decide +kernel
theorem dX6_done_39 : decode cX6_done 39 = .ok (.getfield 16, 3) := by decide +kernel
theorem dX6_done_42 : decode cX6_done 42 = .ok (.iload_n 2, 1) := by decide +kernel
theorem dX6_done_43 : decode cX6_done 43 = .ok (.aload_n 0, 1) := by decide +kernel
theorem dX6_done_44 : decode cX6_done 44 = .ok (.getfield 16, 3) := by decide +kernel
theorem dX6_done_47 : decode cX6_done 47 = .ok (.iload_n 2, 1) := by decide +kernel
theorem dX6_done_48 : decode cX6_done 48 = .ok (.sipush 512, 3) := by decide +kernel
theorem dX6_done_51 : decode cX6_done 51 = .ok (.iadd, 1) := by decide +kernel
theorem dX6_done_52 : decode cX6_done 52 = .ok (.iaload, 1) := by decide +kernel
theorem dX6_done_53 : decode cX6_done 53 = .ok (.iastore, 1) := by decide +kernel
theorem dX6_done_54 : decode cX6_done 54 = .ok (.iinc 2 1, 3) := by decide +kernel
theorem dX6_done_57 : decode cX6_done 57 = .ok (.goto (-31), 3) := by decide +kernel
theorem dX6_done_60 : decode cX6_done 60 = .ok (.iconst 0, 1) := by decide +kernel
theorem dX6_done_61 : decode cX6_done 61 = .ok (.istore_n 2, 1) := by decide +kernel
theorem dX6_done_62 : decode cX6_done 62 = .ok (.iload_n 2, 1) := by decide +kernel
theorem dX6_done_63 : decode cX6_done 63 = .ok (.sipush 512, 3) := by decide +kernel
theorem dX6_done_66 : decode cX6_done 66 = .ok (.if_icmp .ge 30, 3) := by decide +kernel
theorem dX6_done_69 : decode cX6_done 69 = .ok (.aload_n 0, 1) := by decide +kernel
theorem dX6_done_70 : decode cX6_done 70 = .ok (.getfield 16, 3) := by decide +kernel
theorem dX6_done_73 : decode cX6_done 73 = .ok (.sipush 512, 3) := by decide +kernel
theorem dX6_done_76 : decode cX6_done 76 = .ok (.aload_n 0, 1) := by decide +kernel
theorem dX6_done_77 : decode cX6_done 77 = .ok (.getfield 26, 3) := by decide +kernel
theorem dX6_done_80 : decode cX6_done 80 = .ok (.imul, 1) := by decide +kernel
theorem dX6_done_81 : decode cX6_done 81 = .ok (.iload_n 2, 1) := by decide +kernel
theorem dX6_done_82 : decode cX6_done 82 = .ok (.iadd, 1) := by decide +kernel
theorem dX6_done_83 : decode cX6_done 83 = .ok (.aload_n 0, 1) := by decide +kernel
theorem dX6_done_84 : decode cX6_done 84 = .ok (.getfield 13, 3) := by decide +kernel
theorem dX6_done_87 : decode cX6_done 87 = .ok (.iload_n 2, 1) := by decide +kernel
theorem dX6_done_88 : decode cX6_done 88 = .ok (.iaload, 1) := by decide +kernel
theorem dX6_done_89 : decode cX6_done 89 = .ok (.iastore, 1) := by decide +kernel
theorem dX6_done_90 : decode cX6_done 90 = .ok (.iinc 2 1, 3) := by decide +kernel
theorem dX6_done_93 : decode cX6_done 93 = .ok (.goto (-31), 3) := by decide +kernel
theorem dX6_done_96 : decode cX6_done 96 = .ok (.aload_n 0, 1) := by decide +kernel
theorem dX6_done_97 : decode cX6_done 97 = .ok (.dup, 1) := by decide +kernel
theorem dX6_done_98 : decode cX6_done 98 = .ok (.getfield 26, 3) := by decide +kernel
theorem dX6_done_101 : decode cX6_done 101 = .ok (.iconst 1, 1) := by decide +kernel
theorem dX6_done_102 : decode cX6_done 102 = .ok (.iadd, 1) := by decide +kernel
theorem dX6_done_103 : decode cX6_done 103 = .ok (.putfield 26, 3) := by decide +kernel
theorem dX6_done_106 : decode cX6_done 106 = .ok (.iload_n 1, 1) := by decide +kernel
theorem dX6_done_107 : decode cX6_done 107 = .ok (.ireturn, 1) := by decide +kernel
theorem dX6_undo_0 : decode cX6_undo 0 = .ok (.aload_n 0, 1) := by decide +kernel
theorem dX6_undo_1 : decode cX6_undo 1 = .ok (.getfield 26, 3) := by decide +kernel
theorem dX6_undo_4 : decode cX6_undo 4 = .ok (.ifCond .ne 6, 3) := by decide +kernel
theorem dX6_undo_7 : decode cX6_undo 7 = .ok (.bipush (-5), 2) := by decide +kernel
theorem dX6_undo_9 : decode cX6_undo 9 = .ok (.ireturn, 1) := by decide +kernel
theorem dX6_undo_10 : decode cX6_undo 10 = .ok (.aload_n 0, 1) := by decide +kernel
theorem dX6_undo_11 : decode cX6_undo 11 = .ok (.dup, 1) := by decide +kernel
theorem dX6_undo_12 : decode cX6_undo 12 = .ok (.getfield 26, 3) := by decide +kernel
theorem dX6_undo_15 : decode cX6_undo 15 = .ok (.iconst 1, 1) := by decide +kernel
theorem dX6_undo_16 : decode cX6_undo 16 = .ok (.isub, 1) := by decide +kernel
theorem dX6_undo_17 : decode cX6_undo 17 = .ok (.putfield 26, 3) := by decide +kernel
theorem dX6_undo_20 : decode cX6_undo 20 = .ok (.iconst 0, 1) := by decide +kernel
theorem dX6_undo_21 : decode cX6_undo 21 = .ok (.istore_n 1, 1) := by decide +kernel
theorem dX6_undo_22 : decode cX6_undo 22 = .ok (.iload_n 1, 1) := by decide +kernel
theorem dX6_undo_23 : decode cX6_undo 23 = .ok (.sipush 512, 3) := by decide +kernel
theorem dX6_undo_26 : decode cX6_undo 26 = .ok (.if_icmp .ge 30, 3) := by decide +kernel
theorem dX6_undo_29 : decode cX6_undo 29 = .ok (.aload_n 0, 1) := by decide +kernel
theorem dX6_undo_30 : decode cX6_undo 30 = .ok (.getfield 7, 3) := by decide +kernel
theorem dX6_undo_33 : decode cX6_undo 33 = .ok (.iload_n 1, 1) := by decide +kernel
theorem dX6_undo_34 : decode cX6_undo 34 = .ok (.aload_n 0, 1) := by decide +kernel
theorem dX6_undo_35 : decode cX6_undo 35 = .ok (.getfield 16, 3) := by decide +kernel
theorem dX6_undo_38 : decode cX6_undo 38 = .ok (.sipush 512, 3) := by decide +kernel
theorem dX6_undo_41 : decode cX6_undo 41 = .ok (.aload_n 0, 1) := by decide +kernel
theorem dX6_undo_42 : decode cX6_undo 42 = .ok (.getfield 26, 3) := by decide +kernel
theorem dX6_undo_45 : decode cX6_undo 45 = .ok (.imul, 1) := by decide +kernel
theorem dX6_undo_46 : decode cX6_undo 46 = .ok (.iload_n 1, 1) := by decide +kernel
theorem dX6_undo_47 : decode cX6_undo 47 = .ok (.iadd, 1) := by decide +kernel
theorem dX6_undo_48 : decode cX6_undo 48 = .ok (.iaload, 1) := by decide +kernel
theorem dX6_undo_49 : decode cX6_undo 49 = .ok (.iastore, 1) := by decide +kernel
theorem dX6_undo_50 : decode cX6_undo 50 = .ok (.iinc 1 1, 3) := by decide +kernel
theorem dX6_undo_53 : decode cX6_undo 53 = .ok (.goto (-31), 3) := by decide +kernel
theorem dX6_undo_56 : decode cX6_undo 56 = .ok (.aload_n 0, 1) := by decide +kernel
theorem dX6_undo_57 : decode cX6_undo 57 = .ok (.getfield 26, 3) := by decide +kernel
theorem dX6_undo_60 : decode cX6_undo 60 = .ok (.ireturn, 1) := by decide +kernel
theorem dX6_many_0 : decode cX6_many 0 = .ok (.aload_n 0, 1) := by decide +kernel
theorem dX6_many_1 : decode cX6_many 1 = .ok (.getfield 7, 3) := by decide +kernel
theorem dX6_many_4 : decode cX6_many 4 = .ok (.iconst 0, 1) := by decide +kernel
theorem dX6_many_5 : decode cX6_many 5 = .ok (.iload_n 1, 1) := by decide +kernel
theorem dX6_many_6 : decode cX6_many 6 = .ok (.iadd, 1) := by decide +kernel
theorem dX6_many_7 : decode cX6_many 7 = .ok (.iaload, 1) := by decide +kernel
theorem dX6_many_8 : decode cX6_many 8 = .ok (.ireturn, 1) := by decide +kernel
theorem dX6_slot_0 : decode cX6_slot 0 = .ok (.aload_n 0, 1) := by decide +kernel
theorem dX6_slot_1 : decode cX6_slot 1 = .ok (.getfield 7, 3) := by decide +kernel
theorem dX6_slot_4 : decode cX6_slot 4 = .ok (.iconst 2, 1) := by decide +kernel
theorem dX6_slot_5 : decode cX6_slot 5 = .ok (.bipush 12, 2) := by decide +kernel
theorem dX6_slot_7 : decode cX6_slot 7 = .ok (.iload_n 1, 1) := by decide +kernel
theorem dX6_slot_8 : decode cX6_slot 8 = .ok (.imul, 1) := by decide +kernel
theorem dX6_slot_9 : decode cX6_slot 9 = .ok (.iadd, 1) := by decide +kernel
theorem dX6_slot_10 : decode cX6_slot 10 = .ok (.iload_n 2, 1) := by decide +kernel
theorem dX6_slot_11 : decode cX6_slot 11 = .ok (.iadd, 1) := by decide +kernel
theorem dX6_slot_12 : decode cX6_slot 12 = .ok (.iaload, 1) := by decide +kernel
theorem dX6_slot_13 : decode cX6_slot 13 = .ok (.ireturn, 1) := by decide +kernel
theorem dX6_nameAt_0 : decode cX6_nameAt 0 = .ok (.aload_n 0, 1) := by decide +kernel
theorem dX6_nameAt_1 : decode cX6_nameAt 1 = .ok (.getfield 7, 3) := by decide +kernel
theorem dX6_nameAt_4 : decode cX6_nameAt 4 = .ok (.bipush 26, 2) := by decide +kernel
theorem dX6_nameAt_6 : decode cX6_nameAt 6 = .ok (.bipush 12, 2) := by decide +kernel
theorem dX6_nameAt_8 : decode cX6_nameAt 8 = .ok (.iload_n 1, 1) := by decide +kernel
theorem dX6_nameAt_9 : decode cX6_nameAt 9 = .ok (.imul, 1) := by decide +kernel
theorem dX6_nameAt_10 : decode cX6_nameAt 10 = .ok (.iadd, 1) := by decide +kernel
theorem dX6_nameAt_11 : decode cX6_nameAt 11 = .ok (.aload_n 0, 1) := by decide +kernel
theorem dX6_nameAt_12 : decode cX6_nameAt 12 = .ok (.iload_n 1, 1) := by decide +kernel
theorem dX6_nameAt_13 : decode cX6_nameAt 13 = .ok (.iload_n 2, 1) := by decide +kernel
theorem dX6_nameAt_14 : decode cX6_nameAt 14 = .ok (.invokevirtual 30, 3) := by decide +kernel
theorem dX6_nameAt_17 : decode cX6_nameAt 17 = .ok (.iadd, 1) := by decide +kernel
theorem dX6_nameAt_18 : decode cX6_nameAt 18 = .ok (.iaload, 1) := by decide +kernel
theorem dX6_nameAt_19 : decode cX6_nameAt 19 = .ok (.ireturn, 1) := by decide +kernel
theorem dX6_placeOf_0 : decode cX6_placeOf 0 = .ok (.iconst 0, 1) := by decide +kernel
theorem dX6_placeOf_1 : decode cX6_placeOf 1 = .ok (.istore_n 3, 1) := by decide +kernel
theorem dX6_placeOf_2 : decode cX6_placeOf 2 = .ok (.iload_n 3, 1) := by decide +kernel
theorem dX6_placeOf_3 : decode cX6_placeOf 3 = .ok (.aload_n 0, 1) := by decide +kernel
theorem dX6_placeOf_4 : decode cX6_placeOf 4 = .ok (.iload_n 1, 1) := by decide +kernel
theorem dX6_placeOf_5 : decode cX6_placeOf 5 = .ok (.invokevirtual 34, 3) := by decide +kernel
theorem dX6_placeOf_8 : decode cX6_placeOf 8 = .ok (.if_icmp .ge 21, 3) := by decide +kernel
theorem dX6_placeOf_11 : decode cX6_placeOf 11 = .ok (.aload_n 0, 1) := by decide +kernel
theorem dX6_placeOf_12 : decode cX6_placeOf 12 = .ok (.iload_n 1, 1) := by decide +kernel
theorem dX6_placeOf_13 : decode cX6_placeOf 13 = .ok (.iload_n 3, 1) := by decide +kernel
theorem dX6_placeOf_14 : decode cX6_placeOf 14 = .ok (.invokevirtual 38, 3) := by decide +kernel
theorem dX6_placeOf_17 : decode cX6_placeOf 17 = .ok (.iload_n 2, 1) := by decide +kernel
theorem dX6_placeOf_18 : decode cX6_placeOf 18 = .ok (.if_icmp .ne 5, 3) := by decide +kernel
theorem dX6_placeOf_21 : decode cX6_placeOf 21 = .ok (.iload_n 3, 1) := by decide +kernel
theorem dX6_placeOf_22 : decode cX6_placeOf 22 = .ok (.ireturn, 1) := by decide +kernel
theorem dX6_placeOf_23 : decode cX6_placeOf 23 = .ok (.iinc 3 1, 3) := by decide +kernel
theorem dX6_placeOf_26 : decode cX6_placeOf 26 = .ok (.goto (-24), 3) := by decide +kernel
theorem dX6_placeOf_29 : decode cX6_placeOf 29 = .ok (.bipush (-5), 2) := by decide +kernel
theorem dX6_placeOf_31 : decode cX6_placeOf 31 = .ok (.ireturn, 1) := by decide +kernel
theorem dX6_noLine_0 : decode cX6_noLine 0 = .ok (.iload_n 1, 1) := by decide +kernel
theorem dX6_noLine_1 : decode cX6_noLine 1 = .ok (.iconst 0, 1) := by decide +kernel
theorem dX6_noLine_2 : decode cX6_noLine 2 = .ok (.iconst 1, 1) := by decide +kernel
theorem dX6_noLine_3 : decode cX6_noLine 3 = .ok (.invokestatic 41, 3) := by decide +kernel
theorem dX6_noLine_6 : decode cX6_noLine 6 = .ok (.ifCond .eq 18, 3) := by decide +kernel
theorem dX6_noLine_9 : decode cX6_noLine 9 = .ok (.iload_n 2, 1) := by decide +kernel
theorem dX6_noLine_10 : decode cX6_noLine 10 = .ok (.iconst 0, 1) := by decide +kernel
theorem dX6_noLine_11 : decode cX6_noLine 11 = .ok (.aload_n 0, 1) := by decide +kernel
theorem dX6_noLine_12 : decode cX6_noLine 12 = .ok (.iload_n 1, 1) := by decide +kernel
theorem dX6_noLine_13 : decode cX6_noLine 13 = .ok (.invokevirtual 34, 3) := by decide +kernel
theorem dX6_noLine_16 : decode cX6_noLine 16 = .ok (.iconst 1, 1) := by decide +kernel
theorem dX6_noLine_17 : decode cX6_noLine 17 = .ok (.isub, 1) := by decide +kernel
theorem dX6_noLine_18 : decode cX6_noLine 18 = .ok (.invokestatic 41, 3) := by decide +kernel
theorem dX6_noLine_21 : decode cX6_noLine 21 = .ok (.ifCond .ne 7, 3) := by decide +kernel
theorem dX6_noLine_24 : decode cX6_noLine 24 = .ok (.iconst 1, 1) := by decide +kernel
theorem dX6_noLine_25 : decode cX6_noLine 25 = .ok (.goto 4, 3) := by decide +kernel
theorem dX6_noLine_28 : decode cX6_noLine 28 = .ok (.iconst 0, 1) := by decide +kernel
theorem dX6_noLine_29 : decode cX6_noLine 29 = .ok (.ireturn, 1) := by decide +kernel
theorem dX6_freeSlot_0 : decode cX6_freeSlot 0 = .ok (.iconst 0, 1) := by decide +kernel
theorem dX6_freeSlot_1 : decode cX6_freeSlot 1 = .ok (.istore_n 2, 1) := by decide +kernel
theorem dX6_freeSlot_2 : decode cX6_freeSlot 2 = .ok (.iconst 0, 1) := by decide +kernel
theorem dX6_freeSlot_3 : decode cX6_freeSlot 3 = .ok (.istore_n 3, 1) := by decide +kernel
theorem dX6_freeSlot_4 : decode cX6_freeSlot 4 = .ok (.iload_n 3, 1) := by decide +kernel
theorem dX6_freeSlot_5 : decode cX6_freeSlot 5 = .ok (.aload_n 0, 1) := by decide +kernel
theorem dX6_freeSlot_6 : decode cX6_freeSlot 6 = .ok (.iload_n 1, 1) := by decide +kernel
theorem dX6_freeSlot_7 : decode cX6_freeSlot 7 = .ok (.invokevirtual 34, 3) := by decide +kernel
theorem dX6_freeSlot_10 : decode cX6_freeSlot 10 = .ok (.if_icmp .ge 20, 3) := by decide +kernel
theorem dX6_freeSlot_13 : decode cX6_freeSlot 13 = .ok (.iload_n 2, 1) := by decide +kernel
theorem dX6_freeSlot_14 : decode cX6_freeSlot 14 = .ok (.iconst 1, 1) := by decide +kernel
theorem dX6_freeSlot_15 : decode cX6_freeSlot 15 = .ok (.aload_n 0, 1) := by decide +kernel
theorem dX6_freeSlot_16 : decode cX6_freeSlot 16 = .ok (.iload_n 1, 1) := by decide +kernel
theorem dX6_freeSlot_17 : decode cX6_freeSlot 17 = .ok (.iload_n 3, 1) := by decide +kernel
theorem dX6_freeSlot_18 : decode cX6_freeSlot 18 = .ok (.invokevirtual 30, 3) := by decide +kernel
theorem dX6_freeSlot_21 : decode cX6_freeSlot 21 = .ok (.ishl, 1) := by decide +kernel
theorem dX6_freeSlot_22 : decode cX6_freeSlot 22 = .ok (.ior, 1) := by decide +kernel
theorem dX6_freeSlot_23 : decode cX6_freeSlot 23 = .ok (.istore_n 2, 1) := by decide +kernel
theorem dX6_freeSlot_24 : decode cX6_freeSlot 24 = .ok (.iinc 3 1, 3) := by decide +kernel
theorem dX6_freeSlot_27 : decode cX6_freeSlot 27 = .ok (.goto (-23), 3) := by decide +kernel
theorem dX6_freeSlot_30 : decode cX6_freeSlot 30 = .ok (.iconst 0, 1) := by decide +kernel
theorem dX6_freeSlot_31 : decode cX6_freeSlot 31 = .ok (.istore_n 3, 1) := by decide +kernel
theorem dX6_freeSlot_32 : decode cX6_freeSlot 32 = .ok (.iload_n 2, 1) := by decide +kernel
theorem dX6_freeSlot_33 : decode cX6_freeSlot 33 = .ok (.iload_n 3, 1) := by decide +kernel
theorem dX6_freeSlot_34 : decode cX6_freeSlot 34 = .ok (.ishr, 1) := by decide +kernel
theorem dX6_freeSlot_35 : decode cX6_freeSlot 35 = .ok (.iconst 1, 1) := by decide +kernel
theorem dX6_freeSlot_36 : decode cX6_freeSlot 36 = .ok (.iand, 1) := by decide +kernel
theorem dX6_freeSlot_37 : decode cX6_freeSlot 37 = .ok (.iconst 1, 1) := by decide +kernel
theorem dX6_freeSlot_38 : decode cX6_freeSlot 38 = .ok (.if_icmp .ne 9, 3) := by decide +kernel
theorem dX6_freeSlot_41 : decode cX6_freeSlot 41 = .ok (.iinc 3 1, 3) := by decide +kernel
theorem dX6_freeSlot_44 : decode cX6_freeSlot 44 = .ok (.goto (-12), 3) := by decide +kernel
theorem dX6_freeSlot_47 : decode cX6_freeSlot 47 = .ok (.iload_n 3, 1) := by decide +kernel
theorem dX6_freeSlot_48 : decode cX6_freeSlot 48 = .ok (.ireturn, 1) := by decide +kernel
theorem dX6_baseAt_0 : decode cX6_baseAt 0 = .ok (.bipush 53, 2) := by decide +kernel
theorem dX6_baseAt_2 : decode cX6_baseAt 2 = .ok (.bipush 8, 2) := by decide +kernel
theorem dX6_baseAt_4 : decode cX6_baseAt 4 = .ok (.aload_n 0, 1) := by decide +kernel
theorem dX6_baseAt_5 : decode cX6_baseAt 5 = .ok (.iconst 0, 1) := by decide +kernel
theorem dX6_baseAt_6 : decode cX6_baseAt 6 = .ok (.iload_n 1, 1) := by decide +kernel
theorem dX6_baseAt_7 : decode cX6_baseAt 7 = .ok (.invokevirtual 30, 3) := by decide +kernel
theorem dX6_baseAt_10 : decode cX6_baseAt 10 = .ok (.imul, 1) := by decide +kernel
theorem dX6_baseAt_11 : decode cX6_baseAt 11 = .ok (.iadd, 1) := by decide +kernel
theorem dX6_baseAt_12 : decode cX6_baseAt 12 = .ok (.aload_n 0, 1) := by decide +kernel
theorem dX6_baseAt_13 : decode cX6_baseAt 13 = .ok (.iconst 1, 1) := by decide +kernel
theorem dX6_baseAt_14 : decode cX6_baseAt 14 = .ok (.iload_n 2, 1) := by decide +kernel
theorem dX6_baseAt_15 : decode cX6_baseAt 15 = .ok (.invokevirtual 30, 3) := by decide +kernel
theorem dX6_baseAt_18 : decode cX6_baseAt 18 = .ok (.iadd, 1) := by decide +kernel
theorem dX6_baseAt_19 : decode cX6_baseAt 19 = .ok (.ireturn, 1) := by decide +kernel
theorem dX6_putLine_0 : decode cX6_putLine 0 = .ok (.aload_n 0, 1) := by decide +kernel
theorem dX6_putLine_1 : decode cX6_putLine 1 = .ok (.iload_n 1, 1) := by decide +kernel
theorem dX6_putLine_2 : decode cX6_putLine 2 = .ok (.invokevirtual 45, 3) := by decide +kernel
theorem dX6_putLine_5 : decode cX6_putLine 5 = .ok (.istore_n 3, 1) := by decide +kernel
theorem dX6_putLine_6 : decode cX6_putLine 6 = .ok (.aload_n 0, 1) := by decide +kernel
theorem dX6_putLine_7 : decode cX6_putLine 7 = .ok (.iload_n 1, 1) := by decide +kernel
theorem dX6_putLine_8 : decode cX6_putLine 8 = .ok (.invokevirtual 34, 3) := by decide +kernel
theorem dX6_putLine_11 : decode cX6_putLine 11 = .ok (.istore 4, 2) := by decide +kernel
theorem dX6_putLine_13 : decode cX6_putLine 13 = .ok (.iload 4, 2) := by decide +kernel
theorem dX6_putLine_15 : decode cX6_putLine 15 = .ok (.iload_n 2, 1) := by decide +kernel
theorem dX6_putLine_16 : decode cX6_putLine 16 = .ok (.if_icmp .le 39, 3) := by decide +kernel
theorem dX6_putLine_19 : decode cX6_putLine 19 = .ok (.aload_n 0, 1) := by decide +kernel
theorem dX6_putLine_20 : decode cX6_putLine 20 = .ok (.getfield 7, 3) := by decide +kernel
theorem dX6_putLine_23 : decode cX6_putLine 23 = .ok (.iconst 2, 1) := by decide +kernel
theorem dX6_putLine_24 : decode cX6_putLine 24 = .ok (.bipush 12, 2) := by decide +kernel
theorem dX6_putLine_26 : decode cX6_putLine 26 = .ok (.iload_n 1, 1) := by decide +kernel
theorem dX6_putLine_27 : decode cX6_putLine 27 = .ok (.imul, 1) := by decide +kernel
theorem dX6_putLine_28 : decode cX6_putLine 28 = .ok (.iadd, 1) := by decide +kernel
theorem dX6_putLine_29 : decode cX6_putLine 29 = .ok (.iload 4, 2) := by decide +kernel
theorem dX6_putLine_31 : decode cX6_putLine 31 = .ok (.iadd, 1) := by decide +kernel
theorem dX6_putLine_32 : decode cX6_putLine 32 = .ok (.aload_n 0, 1) := by decide +kernel
theorem dX6_putLine_33 : decode cX6_putLine 33 = .ok (.getfield 7, 3) := by decide +kernel
theorem dX6_putLine_36 : decode cX6_putLine 36 = .ok (.iconst 2, 1) := by decide +kernel
theorem dX6_putLine_37 : decode cX6_putLine 37 = .ok (.bipush 12, 2) := by decide +kernel
theorem dX6_putLine_39 : decode cX6_putLine 39 = .ok (.iload_n 1, 1) := by decide +kernel
theorem dX6_putLine_40 : decode cX6_putLine 40 = .ok (.imul, 1) := by decide +kernel
theorem dX6_putLine_41 : decode cX6_putLine 41 = .ok (.iadd, 1) := by decide +kernel
theorem dX6_putLine_42 : decode cX6_putLine 42 = .ok (.iload 4, 2) := by decide +kernel
theorem dX6_putLine_44 : decode cX6_putLine 44 = .ok (.iadd, 1) := by decide +kernel
theorem dX6_putLine_45 : decode cX6_putLine 45 = .ok (.iconst 1, 1) := by decide +kernel
theorem dX6_putLine_46 : decode cX6_putLine 46 = .ok (.isub, 1) := by decide +kernel
theorem dX6_putLine_47 : decode cX6_putLine 47 = .ok (.iaload, 1) := by decide +kernel
theorem dX6_putLine_48 : decode cX6_putLine 48 = .ok (.iastore, 1) := by decide +kernel
theorem dX6_putLine_49 : decode cX6_putLine 49 = .ok (.iinc 4 (-1), 3) := by decide +kernel
theorem dX6_putLine_52 : decode cX6_putLine 52 = .ok (.goto (-39), 3) := by decide +kernel
theorem dX6_putLine_55 : decode cX6_putLine 55 = .ok (.aload_n 0, 1) := by decide +kernel
theorem dX6_putLine_56 : decode cX6_putLine 56 = .ok (.getfield 7, 3) := by decide +kernel
theorem dX6_putLine_59 : decode cX6_putLine 59 = .ok (.iconst 2, 1) := by decide +kernel
theorem dX6_putLine_60 : decode cX6_putLine 60 = .ok (.bipush 12, 2) := by decide +kernel
theorem dX6_putLine_62 : decode cX6_putLine 62 = .ok (.iload_n 1, 1) := by decide +kernel
theorem dX6_putLine_63 : decode cX6_putLine 63 = .ok (.imul, 1) := by decide +kernel
theorem dX6_putLine_64 : decode cX6_putLine 64 = .ok (.iadd, 1) := by decide +kernel
theorem dX6_putLine_65 : decode cX6_putLine 65 = .ok (.iload_n 2, 1) := by decide +kernel
theorem dX6_putLine_66 : decode cX6_putLine 66 = .ok (.iadd, 1) := by decide +kernel
theorem dX6_putLine_67 : decode cX6_putLine 67 = .ok (.iload_n 3, 1) := by decide +kernel
theorem dX6_putLine_68 : decode cX6_putLine 68 = .ok (.iastore, 1) := by decide +kernel
theorem dX6_putLine_69 : decode cX6_putLine 69 = .ok (.aload_n 0, 1) := by decide +kernel
theorem dX6_putLine_70 : decode cX6_putLine 70 = .ok (.getfield 7, 3) := by decide +kernel
theorem dX6_putLine_73 : decode cX6_putLine 73 = .ok (.iconst 0, 1) := by decide +kernel
theorem dX6_putLine_74 : decode cX6_putLine 74 = .ok (.iload_n 1, 1) := by decide +kernel
theorem dX6_putLine_75 : decode cX6_putLine 75 = .ok (.iadd, 1) := by decide +kernel
theorem dX6_putLine_76 : decode cX6_putLine 76 = .ok (.dup2, 1) := by decide +kernel
theorem dX6_putLine_77 : decode cX6_putLine 77 = .ok (.iaload, 1) := by decide +kernel
theorem dX6_putLine_78 : decode cX6_putLine 78 = .ok (.iconst 1, 1) := by decide +kernel
theorem dX6_putLine_79 : decode cX6_putLine 79 = .ok (.iadd, 1) := by decide +kernel
theorem dX6_putLine_80 : decode cX6_putLine 80 = .ok (.iastore, 1) := by decide +kernel
theorem dX6_putLine_81 : decode cX6_putLine 81 = .ok (.aload_n 0, 1) := by decide +kernel
theorem dX6_putLine_82 : decode cX6_putLine 82 = .ok (.getfield 7, 3) := by decide +kernel
theorem dX6_putLine_85 : decode cX6_putLine 85 = .ok (.bipush 26, 2) := by decide +kernel
theorem dX6_putLine_87 : decode cX6_putLine 87 = .ok (.bipush 12, 2) := by decide +kernel
theorem dX6_putLine_89 : decode cX6_putLine 89 = .ok (.iload_n 1, 1) := by decide +kernel
theorem dX6_putLine_90 : decode cX6_putLine 90 = .ok (.imul, 1) := by decide +kernel
theorem dX6_putLine_91 : decode cX6_putLine 91 = .ok (.iadd, 1) := by decide +kernel
theorem dX6_putLine_92 : decode cX6_putLine 92 = .ok (.iload_n 3, 1) := by decide +kernel
theorem dX6_putLine_93 : decode cX6_putLine 93 = .ok (.iadd, 1) := by decide +kernel
theorem dX6_putLine_94 : decode cX6_putLine 94 = .ok (.aload_n 0, 1) := by decide +kernel
theorem dX6_putLine_95 : decode cX6_putLine 95 = .ok (.getfield 7, 3) := by decide +kernel
theorem dX6_putLine_98 : decode cX6_putLine 98 = .ok (.bipush 50, 2) := by decide +kernel
theorem dX6_putLine_100 : decode cX6_putLine 100 = .ok (.iaload, 1) := by decide +kernel
theorem dX6_putLine_101 : decode cX6_putLine 101 = .ok (.iastore, 1) := by decide +kernel
theorem dX6_putLine_102 : decode cX6_putLine 102 = .ok (.aload_n 0, 1) := by decide +kernel
theorem dX6_putLine_103 : decode cX6_putLine 103 = .ok (.getfield 7, 3) := by decide +kernel
theorem dX6_putLine_106 : decode cX6_putLine 106 = .ok (.bipush 50, 2) := by decide +kernel
theorem dX6_putLine_108 : decode cX6_putLine 108 = .ok (.dup2, 1) := by decide +kernel
theorem dX6_putLine_109 : decode cX6_putLine 109 = .ok (.iaload, 1) := by decide +kernel
theorem dX6_putLine_110 : decode cX6_putLine 110 = .ok (.iconst 1, 1) := by decide +kernel
theorem dX6_putLine_111 : decode cX6_putLine 111 = .ok (.iadd, 1) := by decide +kernel
theorem dX6_putLine_112 : decode cX6_putLine 112 = .ok (.iastore, 1) := by decide +kernel
theorem dX6_putLine_113 : decode cX6_putLine 113 = .ok (.iconst 0, 1) := by decide +kernel
theorem dX6_putLine_114 : decode cX6_putLine 114 = .ok (.istore 4, 2) := by decide +kernel
theorem dX6_putLine_116 : decode cX6_putLine 116 = .ok (.iload 4, 2) := by decide +kernel
theorem dX6_putLine_118 : decode cX6_putLine 118 = .ok (.aload_n 0, 1) := by decide +kernel
theorem dX6_putLine_119 : decode cX6_putLine 119 = .ok (.iconst 1, 1) := by decide +kernel
theorem dX6_putLine_120 : decode cX6_putLine 120 = .ok (.iload_n 1, 1) := by decide +kernel
theorem dX6_putLine_121 : decode cX6_putLine 121 = .ok (.isub, 1) := by decide +kernel
theorem dX6_putLine_122 : decode cX6_putLine 122 = .ok (.invokevirtual 34, 3) := by decide +kernel
theorem dX6_putLine_125 : decode cX6_putLine 125 = .ok (.if_icmp .ge 36, 3) := by decide +kernel
theorem dX6_putLine_128 : decode cX6_putLine 128 = .ok (.aload_n 0, 1) := by decide +kernel
theorem dX6_putLine_129 : decode cX6_putLine 129 = .ok (.getfield 7, 3) := by decide +kernel
theorem dX6_putLine_132 : decode cX6_putLine 132 = .ok (.iload_n 1, 1) := by decide +kernel
theorem dX6_putLine_133 : decode cX6_putLine 133 = .ok (.ifCond .ne 13, 3) := by decide +kernel
theorem dX6_putLine_136 : decode cX6_putLine 136 = .ok (.aload_n 0, 1) := by decide +kernel
theorem dX6_putLine_137 : decode cX6_putLine 137 = .ok (.iload_n 2, 1) := by decide +kernel
theorem dX6_putLine_138 : decode cX6_putLine 138 = .ok (.iload 4, 2) := by decide +kernel
theorem dX6_putLine_140 : decode cX6_putLine 140 = .ok (.invokevirtual 48, 3) := by decide +kernel
theorem dX6_putLine_143 : decode cX6_putLine 143 = .ok (.goto 10, 3) := by decide +kernel
theorem dX6_putLine_146 : decode cX6_putLine 146 = .ok (.aload_n 0, 1) := by decide +kernel
theorem dX6_putLine_147 : decode cX6_putLine 147 = .ok (.iload 4, 2) := by decide +kernel
theorem dX6_putLine_149 : decode cX6_putLine 149 = .ok (.iload_n 2, 1) := by decide +kernel
theorem dX6_putLine_150 : decode cX6_putLine 150 = .ok (.invokevirtual 48, 3) := by decide +kernel
theorem dX6_putLine_153 : decode cX6_putLine 153 = .ok (.iconst 0, 1) := by decide +kernel
theorem dX6_putLine_154 : decode cX6_putLine 154 = .ok (.iastore, 1) := by decide +kernel
theorem dX6_putLine_155 : decode cX6_putLine 155 = .ok (.iinc 4 1, 3) := by decide +kernel
theorem dX6_putLine_158 : decode cX6_putLine 158 = .ok (.goto (-42), 3) := by decide +kernel
theorem dX6_putLine_161 : decode cX6_putLine 161 = .ok (.aload_n 0, 1) := by decide +kernel
theorem dX6_putLine_162 : decode cX6_putLine 162 = .ok (.getfield 7, 3) := by decide +kernel
theorem dX6_putLine_165 : decode cX6_putLine 165 = .ok (.bipush 50, 2) := by decide +kernel
theorem dX6_putLine_167 : decode cX6_putLine 167 = .ok (.iaload, 1) := by decide +kernel
theorem dX6_putLine_168 : decode cX6_putLine 168 = .ok (.iconst 1, 1) := by decide +kernel
theorem dX6_putLine_169 : decode cX6_putLine 169 = .ok (.isub, 1) := by decide +kernel
theorem dX6_putLine_170 : decode cX6_putLine 170 = .ok (.ireturn, 1) := by decide +kernel
theorem dX6_takeLine_0 : decode cX6_takeLine 0 = .ok (.aload_n 0, 1) := by decide +kernel
theorem dX6_takeLine_1 : decode cX6_takeLine 1 = .ok (.getfield 7, 3) := by decide +kernel
theorem dX6_takeLine_4 : decode cX6_takeLine 4 = .ok (.iconst 0, 1) := by decide +kernel
theorem dX6_takeLine_5 : decode cX6_takeLine 5 = .ok (.iload_n 1, 1) := by decide +kernel
theorem dX6_takeLine_6 : decode cX6_takeLine 6 = .ok (.iadd, 1) := by decide +kernel
theorem dX6_takeLine_7 : decode cX6_takeLine 7 = .ok (.dup2, 1) := by decide +kernel
theorem dX6_takeLine_8 : decode cX6_takeLine 8 = .ok (.iaload, 1) := by decide +kernel
theorem dX6_takeLine_9 : decode cX6_takeLine 9 = .ok (.iconst 1, 1) := by decide +kernel
theorem dX6_takeLine_10 : decode cX6_takeLine 10 = .ok (.isub, 1) := by decide +kernel
theorem dX6_takeLine_11 : decode cX6_takeLine 11 = .ok (.iastore, 1) := by decide +kernel
theorem dX6_takeLine_12 : decode cX6_takeLine 12 = .ok (.iload_n 2, 1) := by decide +kernel
theorem dX6_takeLine_13 : decode cX6_takeLine 13 = .ok (.istore_n 3, 1) := by decide +kernel
theorem dX6_takeLine_14 : decode cX6_takeLine 14 = .ok (.iload_n 3, 1) := by decide +kernel
theorem dX6_takeLine_15 : decode cX6_takeLine 15 = .ok (.aload_n 0, 1) := by decide +kernel
theorem dX6_takeLine_16 : decode cX6_takeLine 16 = .ok (.iload_n 1, 1) := by decide +kernel
theorem dX6_takeLine_17 : decode cX6_takeLine 17 = .ok (.invokevirtual 34, 3) := by decide +kernel
theorem dX6_takeLine_20 : decode cX6_takeLine 20 = .ok (.if_icmp .ge 37, 3) := by decide +kernel
theorem dX6_takeLine_23 : decode cX6_takeLine 23 = .ok (.aload_n 0, 1) := by decide +kernel
theorem dX6_takeLine_24 : decode cX6_takeLine 24 = .ok (.getfield 7, 3) := by decide +kernel
theorem dX6_takeLine_27 : decode cX6_takeLine 27 = .ok (.iconst 2, 1) := by decide +kernel
theorem dX6_takeLine_28 : decode cX6_takeLine 28 = .ok (.bipush 12, 2) := by decide +kernel
theorem dX6_takeLine_30 : decode cX6_takeLine 30 = .ok (.iload_n 1, 1) := by decide +kernel
theorem dX6_takeLine_31 : decode cX6_takeLine 31 = .ok (.imul, 1) := by decide +kernel
theorem dX6_takeLine_32 : decode cX6_takeLine 32 = .ok (.iadd, 1) := by decide +kernel
theorem dX6_takeLine_33 : decode cX6_takeLine 33 = .ok (.iload_n 3, 1) := by decide +kernel
theorem dX6_takeLine_34 : decode cX6_takeLine 34 = .ok (.iadd, 1) := by decide +kernel
theorem dX6_takeLine_35 : decode cX6_takeLine 35 = .ok (.aload_n 0, 1) := by decide +kernel
theorem dX6_takeLine_36 : decode cX6_takeLine 36 = .ok (.getfield 7, 3) := by decide +kernel
theorem dX6_takeLine_39 : decode cX6_takeLine 39 = .ok (.iconst 2, 1) := by decide +kernel
theorem dX6_takeLine_40 : decode cX6_takeLine 40 = .ok (.bipush 12, 2) := by decide +kernel
theorem dX6_takeLine_42 : decode cX6_takeLine 42 = .ok (.iload_n 1, 1) := by decide +kernel
theorem dX6_takeLine_43 : decode cX6_takeLine 43 = .ok (.imul, 1) := by decide +kernel
theorem dX6_takeLine_44 : decode cX6_takeLine 44 = .ok (.iadd, 1) := by decide +kernel
theorem dX6_takeLine_45 : decode cX6_takeLine 45 = .ok (.iload_n 3, 1) := by decide +kernel
theorem dX6_takeLine_46 : decode cX6_takeLine 46 = .ok (.iadd, 1) := by decide +kernel
theorem dX6_takeLine_47 : decode cX6_takeLine 47 = .ok (.iconst 1, 1) := by decide +kernel
theorem dX6_takeLine_48 : decode cX6_takeLine 48 = .ok (.iadd, 1) := by decide +kernel
theorem dX6_takeLine_49 : decode cX6_takeLine 49 = .ok (.iaload, 1) := by decide +kernel
theorem dX6_takeLine_50 : decode cX6_takeLine 50 = .ok (.iastore, 1) := by decide +kernel
theorem dX6_takeLine_51 : decode cX6_takeLine 51 = .ok (.iinc 3 1, 3) := by decide +kernel
theorem dX6_takeLine_54 : decode cX6_takeLine 54 = .ok (.goto (-40), 3) := by decide +kernel
theorem dX6_takeLine_57 : decode cX6_takeLine 57 = .ok (.return_, 1) := by decide +kernel
theorem dX6_of_0 : decode cX6_of 0 = .ok (.aload_n 0, 1) := by decide +kernel
theorem dX6_of_1 : decode cX6_of 1 = .ok (.getfield 7, 3) := by decide +kernel
theorem dX6_of_4 : decode cX6_of 4 = .ok (.iload_n 2, 1) := by decide +kernel
theorem dX6_of_5 : decode cX6_of 5 = .ok (.iload_n 1, 1) := by decide +kernel
theorem dX6_of_6 : decode cX6_of 6 = .ok (.iadd, 1) := by decide +kernel
theorem dX6_of_7 : decode cX6_of 7 = .ok (.iaload, 1) := by decide +kernel
theorem dX6_of_8 : decode cX6_of 8 = .ok (.ireturn, 1) := by decide +kernel
theorem dX6_isPending_0 : decode cX6_isPending 0 = .ok (.aload_n 0, 1) := by decide +kernel
theorem dX6_isPending_1 : decode cX6_isPending 1 = .ok (.iload_n 1, 1) := by decide +kernel
theorem dX6_isPending_2 : decode cX6_isPending 2 = .ok (.sipush 269, 3) := by decide +kernel
theorem dX6_isPending_5 : decode cX6_isPending 5 = .ok (.invokevirtual 51, 3) := by decide +kernel
theorem dX6_isPending_8 : decode cX6_isPending 8 = .ok (.ifCond .ne 7, 3) := by decide +kernel
theorem dX6_isPending_11 : decode cX6_isPending 11 = .ok (.iconst 1, 1) := by decide +kernel
theorem dX6_isPending_12 : decode cX6_isPending 12 = .ok (.goto 4, 3) := by decide +kernel
theorem dX6_isPending_15 : decode cX6_isPending 15 = .ok (.iconst 0, 1) := by decide +kernel
theorem dX6_isPending_16 : decode cX6_isPending 16 = .ok (.ireturn, 1) := by decide +kernel
theorem dX6_noChange_0 : decode cX6_noChange 0 = .ok (.iload_n 1, 1) := by decide +kernel
theorem dX6_noChange_1 : decode cX6_noChange 1 = .ok (.iconst 0, 1) := by decide +kernel
theorem dX6_noChange_2 : decode cX6_noChange 2 = .ok (.aload_n 0, 1) := by decide +kernel
theorem dX6_noChange_3 : decode cX6_noChange 3 = .ok (.getfield 7, 3) := by decide +kernel
theorem dX6_noChange_6 : decode cX6_noChange 6 = .ok (.bipush 51, 2) := by decide +kernel
theorem dX6_noChange_8 : decode cX6_noChange 8 = .ok (.iaload, 1) := by decide +kernel
theorem dX6_noChange_9 : decode cX6_noChange 9 = .ok (.iconst 1, 1) := by decide +kernel
theorem dX6_noChange_10 : decode cX6_noChange 10 = .ok (.isub, 1) := by decide +kernel
theorem dX6_noChange_11 : decode cX6_noChange 11 = .ok (.invokestatic 41, 3) := by decide +kernel
theorem dX6_noChange_14 : decode cX6_noChange 14 = .ok (.ifCond .ne 7, 3) := by decide +kernel
theorem dX6_noChange_17 : decode cX6_noChange 17 = .ok (.iconst 1, 1) := by decide +kernel
theorem dX6_noChange_18 : decode cX6_noChange 18 = .ok (.goto 4, 3) := by decide +kernel
theorem dX6_noChange_21 : decode cX6_noChange 21 = .ok (.iconst 0, 1) := by decide +kernel
theorem dX6_noChange_22 : decode cX6_noChange 22 = .ok (.ireturn, 1) := by decide +kernel
theorem dX6_make_0 : decode cX6_make 0 = .ok (.aload_n 0, 1) := by decide +kernel
theorem dX6_make_1 : decode cX6_make 1 = .ok (.getfield 7, 3) := by decide +kernel
theorem dX6_make_4 : decode cX6_make 4 = .ok (.bipush 51, 2) := by decide +kernel
theorem dX6_make_6 : decode cX6_make 6 = .ok (.iaload, 1) := by decide +kernel
theorem dX6_make_7 : decode cX6_make 7 = .ok (.istore 6, 2) := by decide +kernel
theorem dX6_make_9 : decode cX6_make 9 = .ok (.aload_n 0, 1) := by decide +kernel
theorem dX6_make_10 : decode cX6_make 10 = .ok (.getfield 7, 3) := by decide +kernel
theorem dX6_make_13 : decode cX6_make 13 = .ok (.sipush 149, 3) := by decide +kernel
theorem dX6_make_16 : decode cX6_make 16 = .ok (.iload 6, 2) := by decide +kernel
theorem dX6_make_18 : decode cX6_make 18 = .ok (.iadd, 1) := by decide +kernel
theorem dX6_make_19 : decode cX6_make 19 = .ok (.iload_n 1, 1) := by decide +kernel
theorem dX6_make_20 : decode cX6_make 20 = .ok (.iastore, 1) := by decide +kernel
theorem dX6_make_21 : decode cX6_make 21 = .ok (.aload_n 0, 1) := by decide +kernel
theorem dX6_make_22 : decode cX6_make 22 = .ok (.getfield 7, 3) := by decide +kernel
theorem dX6_make_25 : decode cX6_make 25 = .ok (.sipush 209, 3) := by decide +kernel
theorem dX6_make_28 : decode cX6_make 28 = .ok (.iload 6, 2) := by decide +kernel
theorem dX6_make_30 : decode cX6_make 30 = .ok (.iadd, 1) := by decide +kernel
theorem dX6_make_31 : decode cX6_make 31 = .ok (.iload_n 2, 1) := by decide +kernel
theorem dX6_make_32 : decode cX6_make 32 = .ok (.iastore, 1) := by decide +kernel
theorem dX6_make_33 : decode cX6_make 33 = .ok (.aload_n 0, 1) := by decide +kernel
theorem dX6_make_34 : decode cX6_make 34 = .ok (.getfield 7, 3) := by decide +kernel
theorem dX6_make_37 : decode cX6_make 37 = .ok (.sipush 269, 3) := by decide +kernel
theorem dX6_make_40 : decode cX6_make 40 = .ok (.iload 6, 2) := by decide +kernel
theorem dX6_make_42 : decode cX6_make 42 = .ok (.iadd, 1) := by decide +kernel
theorem dX6_make_43 : decode cX6_make 43 = .ok (.iconst 0, 1) := by decide +kernel
theorem dX6_make_44 : decode cX6_make 44 = .ok (.iastore, 1) := by decide +kernel
theorem dX6_make_45 : decode cX6_make 45 = .ok (.aload_n 0, 1) := by decide +kernel
theorem dX6_make_46 : decode cX6_make 46 = .ok (.getfield 7, 3) := by decide +kernel
theorem dX6_make_49 : decode cX6_make 49 = .ok (.sipush 329, 3) := by decide +kernel
theorem dX6_make_52 : decode cX6_make 52 = .ok (.iload 6, 2) := by decide +kernel
theorem dX6_make_54 : decode cX6_make 54 = .ok (.iadd, 1) := by decide +kernel
theorem dX6_make_55 : decode cX6_make 55 = .ok (.iload_n 3, 1) := by decide +kernel
theorem dX6_make_56 : decode cX6_make 56 = .ok (.iastore, 1) := by decide +kernel
theorem dX6_make_57 : decode cX6_make 57 = .ok (.aload_n 0, 1) := by decide +kernel
theorem dX6_make_58 : decode cX6_make 58 = .ok (.getfield 7, 3) := by decide +kernel
theorem dX6_make_61 : decode cX6_make 61 = .ok (.sipush 389, 3) := by decide +kernel
theorem dX6_make_64 : decode cX6_make 64 = .ok (.iload 6, 2) := by decide +kernel
theorem dX6_make_66 : decode cX6_make 66 = .ok (.iadd, 1) := by decide +kernel
theorem dX6_make_67 : decode cX6_make 67 = .ok (.iload 4, 2) := by decide +kernel
theorem dX6_make_69 : decode cX6_make 69 = .ok (.iastore, 1) := by decide +kernel
theorem dX6_make_70 : decode cX6_make 70 = .ok (.aload_n 0, 1) := by decide +kernel
theorem dX6_make_71 : decode cX6_make 71 = .ok (.getfield 7, 3) := by decide +kernel
theorem dX6_make_74 : decode cX6_make 74 = .ok (.sipush 449, 3) := by decide +kernel
theorem dX6_make_77 : decode cX6_make 77 = .ok (.iload 6, 2) := by decide +kernel
theorem dX6_make_79 : decode cX6_make 79 = .ok (.iadd, 1) := by decide +kernel
theorem dX6_make_80 : decode cX6_make 80 = .ok (.iload 5, 2) := by decide +kernel
theorem dX6_make_82 : decode cX6_make 82 = .ok (.iastore, 1) := by decide +kernel
theorem dX6_make_83 : decode cX6_make 83 = .ok (.aload_n 0, 1) := by decide +kernel
theorem dX6_make_84 : decode cX6_make 84 = .ok (.getfield 7, 3) := by decide +kernel
theorem dX6_make_87 : decode cX6_make 87 = .ok (.bipush 51, 2) := by decide +kernel
theorem dX6_make_89 : decode cX6_make 89 = .ok (.dup2, 1) := by decide +kernel
theorem dX6_make_90 : decode cX6_make 90 = .ok (.iaload, 1) := by decide +kernel
theorem dX6_make_91 : decode cX6_make 91 = .ok (.iconst 1, 1) := by decide +kernel
theorem dX6_make_92 : decode cX6_make 92 = .ok (.iadd, 1) := by decide +kernel
theorem dX6_make_93 : decode cX6_make 93 = .ok (.iastore, 1) := by decide +kernel
theorem dX6_make_94 : decode cX6_make 94 = .ok (.iload 6, 2) := by decide +kernel
theorem dX6_make_96 : decode cX6_make 96 = .ok (.ireturn, 1) := by decide +kernel
theorem dX6_ofLine_0 : decode cX6_ofLine 0 = .ok (.iconst 0, 1) := by decide +kernel
theorem dX6_ofLine_1 : decode cX6_ofLine 1 = .ok (.istore_n 3, 1) := by decide +kernel
theorem dX6_ofLine_2 : decode cX6_ofLine 2 = .ok (.iload_n 3, 1) := by decide +kernel
theorem dX6_ofLine_3 : decode cX6_ofLine 3 = .ok (.aload_n 0, 1) := by decide +kernel
theorem dX6_ofLine_4 : decode cX6_ofLine 4 = .ok (.getfield 7, 3) := by decide +kernel
theorem dX6_ofLine_7 : decode cX6_ofLine 7 = .ok (.bipush 51, 2) := by decide +kernel
theorem dX6_ofLine_9 : decode cX6_ofLine 9 = .ok (.iaload, 1) := by decide +kernel
theorem dX6_ofLine_10 : decode cX6_ofLine 10 = .ok (.if_icmp .ge 54, 3) := by decide +kernel
theorem dX6_ofLine_13 : decode cX6_ofLine 13 = .ok (.aload_n 0, 1) := by decide +kernel
theorem dX6_ofLine_14 : decode cX6_ofLine 14 = .ok (.iload_n 3, 1) := by decide +kernel
theorem dX6_ofLine_15 : decode cX6_ofLine 15 = .ok (.invokevirtual 54, 3) := by decide +kernel
theorem dX6_ofLine_18 : decode cX6_ofLine 18 = .ok (.ifCond .eq 40, 3) := by decide +kernel
theorem dX6_ofLine_21 : decode cX6_ofLine 21 = .ok (.aload_n 0, 1) := by decide +kernel
theorem dX6_ofLine_22 : decode cX6_ofLine 22 = .ok (.iload_n 3, 1) := by decide +kernel
theorem dX6_ofLine_23 : decode cX6_ofLine 23 = .ok (.sipush 149, 3) := by decide +kernel
theorem dX6_ofLine_26 : decode cX6_ofLine 26 = .ok (.invokevirtual 51, 3) := by decide +kernel
theorem dX6_ofLine_29 : decode cX6_ofLine 29 = .ok (.iload_n 1, 1) := by decide +kernel
theorem dX6_ofLine_30 : decode cX6_ofLine 30 = .ok (.if_icmp .ne 28, 3) := by decide +kernel
theorem dX6_ofLine_33 : decode cX6_ofLine 33 = .ok (.aload_n 0, 1) := by decide +kernel
theorem dX6_ofLine_34 : decode cX6_ofLine 34 = .ok (.iload_n 3, 1) := by decide +kernel
theorem dX6_ofLine_35 : decode cX6_ofLine 35 = .ok (.iload_n 1, 1) := by decide +kernel
theorem dX6_ofLine_36 : decode cX6_ofLine 36 = .ok (.iconst 2, 1) := by decide +kernel
theorem dX6_ofLine_37 : decode cX6_ofLine 37 = .ok (.if_icmp .ge 9, 3) := by decide +kernel
theorem dX6_ofLine_40 : decode cX6_ofLine 40 = .ok (.sipush 329, 3) := by decide +kernel
theorem dX6_ofLine_43 : decode cX6_ofLine 43 = .ok (.goto 6, 3) := by decide +kernel
theorem dX6_ofLine_46 : decode cX6_ofLine 46 = .ok (.sipush 389, 3) := by decide +kernel
theorem dX6_ofLine_49 : decode cX6_ofLine 49 = .ok (.invokevirtual 51, 3) := by decide +kernel
theorem dX6_ofLine_52 : decode cX6_ofLine 52 = .ok (.iload_n 2, 1) := by decide +kernel
theorem dX6_ofLine_53 : decode cX6_ofLine 53 = .ok (.if_icmp .ne 5, 3) := by decide +kernel
theorem dX6_ofLine_56 : decode cX6_ofLine 56 = .ok (.iload_n 3, 1) := by decide +kernel
theorem dX6_ofLine_57 : decode cX6_ofLine 57 = .ok (.ireturn, 1) := by decide +kernel
theorem dX6_ofLine_58 : decode cX6_ofLine 58 = .ok (.iinc 3 1, 3) := by decide +kernel
theorem dX6_ofLine_61 : decode cX6_ofLine 61 = .ok (.goto (-59), 3) := by decide +kernel
theorem dX6_ofLine_64 : decode cX6_ofLine 64 = .ok (.bipush (-5), 2) := by decide +kernel
theorem dX6_ofLine_66 : decode cX6_ofLine 66 = .ok (.ireturn, 1) := by decide +kernel
theorem dX6_insertionOf_0 : decode cX6_insertionOf 0 = .ok (.aload_n 0, 1) := by decide +kernel
theorem dX6_insertionOf_1 : decode cX6_insertionOf 1 = .ok (.iconst 2, 1) := by decide +kernel
theorem dX6_insertionOf_2 : decode cX6_insertionOf 2 = .ok (.iload_n 1, 1) := by decide +kernel
theorem dX6_insertionOf_3 : decode cX6_insertionOf 3 = .ok (.imul, 1) := by decide +kernel
theorem dX6_insertionOf_4 : decode cX6_insertionOf 4 = .ok (.aload_n 0, 1) := by decide +kernel
theorem dX6_insertionOf_5 : decode cX6_insertionOf 5 = .ok (.iload_n 1, 1) := by decide +kernel
theorem dX6_insertionOf_6 : decode cX6_insertionOf 6 = .ok (.iload_n 2, 1) := by decide +kernel
theorem dX6_insertionOf_7 : decode cX6_insertionOf 7 = .ok (.invokevirtual 38, 3) := by decide +kernel
theorem dX6_insertionOf_10 : decode cX6_insertionOf 10 = .ok (.invokevirtual 58, 3) := by decide +kernel
theorem dX6_insertionOf_13 : decode cX6_insertionOf 13 = .ok (.ireturn, 1) := by decide +kernel
theorem dX6_removalOf_0 : decode cX6_removalOf 0 = .ok (.aload_n 0, 1) := by decide +kernel
theorem dX6_removalOf_1 : decode cX6_removalOf 1 = .ok (.iconst 2, 1) := by decide +kernel
theorem dX6_removalOf_2 : decode cX6_removalOf 2 = .ok (.iload_n 1, 1) := by decide +kernel
theorem dX6_removalOf_3 : decode cX6_removalOf 3 = .ok (.imul, 1) := by decide +kernel
theorem dX6_removalOf_4 : decode cX6_removalOf 4 = .ok (.iconst 1, 1) := by decide +kernel
theorem dX6_removalOf_5 : decode cX6_removalOf 5 = .ok (.iadd, 1) := by decide +kernel
theorem dX6_removalOf_6 : decode cX6_removalOf 6 = .ok (.aload_n 0, 1) := by decide +kernel
theorem dX6_removalOf_7 : decode cX6_removalOf 7 = .ok (.iload_n 1, 1) := by decide +kernel
theorem dX6_removalOf_8 : decode cX6_removalOf 8 = .ok (.iload_n 2, 1) := by decide +kernel
theorem dX6_removalOf_9 : decode cX6_removalOf 9 = .ok (.invokevirtual 38, 3) := by decide +kernel
theorem dX6_removalOf_12 : decode cX6_removalOf 12 = .ok (.invokevirtual 58, 3) := by decide +kernel
theorem dX6_removalOf_15 : decode cX6_removalOf 15 = .ok (.ireturn, 1) := by decide +kernel
theorem dX6_isNew_0 : decode cX6_isNew 0 = .ok (.aload_n 0, 1) := by decide +kernel
theorem dX6_isNew_1 : decode cX6_isNew 1 = .ok (.iload_n 1, 1) := by decide +kernel
theorem dX6_isNew_2 : decode cX6_isNew 2 = .ok (.iload_n 2, 1) := by decide +kernel
theorem dX6_isNew_3 : decode cX6_isNew 3 = .ok (.invokevirtual 61, 3) := by decide +kernel
theorem dX6_isNew_6 : decode cX6_isNew 6 = .ok (.ifCond .lt 7, 3) := by decide +kernel
theorem dX6_isNew_9 : decode cX6_isNew 9 = .ok (.iconst 1, 1) := by decide +kernel
theorem dX6_isNew_10 : decode cX6_isNew 10 = .ok (.goto 4, 3) := by decide +kernel
theorem dX6_isNew_13 : decode cX6_isNew 13 = .ok (.iconst 0, 1) := by decide +kernel
theorem dX6_isNew_14 : decode cX6_isNew 14 = .ok (.ireturn, 1) := by decide +kernel
theorem dX6_isDoomed_0 : decode cX6_isDoomed 0 = .ok (.aload_n 0, 1) := by decide +kernel
theorem dX6_isDoomed_1 : decode cX6_isDoomed 1 = .ok (.iload_n 1, 1) := by decide +kernel
theorem dX6_isDoomed_2 : decode cX6_isDoomed 2 = .ok (.iload_n 2, 1) := by decide +kernel
theorem dX6_isDoomed_3 : decode cX6_isDoomed 3 = .ok (.invokevirtual 64, 3) := by decide +kernel
theorem dX6_isDoomed_6 : decode cX6_isDoomed 6 = .ok (.ifCond .lt 7, 3) := by decide +kernel
theorem dX6_isDoomed_9 : decode cX6_isDoomed 9 = .ok (.iconst 1, 1) := by decide +kernel
theorem dX6_isDoomed_10 : decode cX6_isDoomed 10 = .ok (.goto 4, 3) := by decide +kernel
theorem dX6_isDoomed_13 : decode cX6_isDoomed 13 = .ok (.iconst 0, 1) := by decide +kernel
theorem dX6_isDoomed_14 : decode cX6_isDoomed 14 = .ok (.ireturn, 1) := by decide +kernel
theorem dX6_isSettingOf_0 : decode cX6_isSettingOf 0 = .ok (.aload_n 0, 1) := by decide +kernel
theorem dX6_isSettingOf_1 : decode cX6_isSettingOf 1 = .ok (.iload_n 1, 1) := by decide +kernel
theorem dX6_isSettingOf_2 : decode cX6_isSettingOf 2 = .ok (.invokevirtual 54, 3) := by decide +kernel
theorem dX6_isSettingOf_5 : decode cX6_isSettingOf 5 = .ok (.ifCond .eq 43, 3) := by decide +kernel
theorem dX6_isSettingOf_8 : decode cX6_isSettingOf 8 = .ok (.aload_n 0, 1) := by decide +kernel
theorem dX6_isSettingOf_9 : decode cX6_isSettingOf 9 = .ok (.iload_n 1, 1) := by decide +kernel
theorem dX6_isSettingOf_10 : decode cX6_isSettingOf 10 = .ok (.sipush 149, 3) := by decide +kernel
theorem dX6_isSettingOf_13 : decode cX6_isSettingOf 13 = .ok (.invokevirtual 51, 3) := by decide +kernel
theorem dX6_isSettingOf_16 : decode cX6_isSettingOf 16 = .ok (.iconst 4, 1) := by decide +kernel
theorem dX6_isSettingOf_17 : decode cX6_isSettingOf 17 = .ok (.if_icmp .ne 31, 3) := by decide +kernel
theorem dX6_isSettingOf_20 : decode cX6_isSettingOf 20 = .ok (.aload_n 0, 1) := by decide +kernel
theorem dX6_isSettingOf_21 : decode cX6_isSettingOf 21 = .ok (.iload_n 1, 1) := by decide +kernel
theorem dX6_isSettingOf_22 : decode cX6_isSettingOf 22 = .ok (.sipush 329, 3) := by decide +kernel
theorem dX6_isSettingOf_25 : decode cX6_isSettingOf 25 = .ok (.invokevirtual 51, 3) := by decide +kernel
theorem dX6_isSettingOf_28 : decode cX6_isSettingOf 28 = .ok (.iload_n 2, 1) := by decide +kernel
theorem dX6_isSettingOf_29 : decode cX6_isSettingOf 29 = .ok (.if_icmp .ne 19, 3) := by decide +kernel
theorem dX6_isSettingOf_32 : decode cX6_isSettingOf 32 = .ok (.aload_n 0, 1) := by decide +kernel
theorem dX6_isSettingOf_33 : decode cX6_isSettingOf 33 = .ok (.iload_n 1, 1) := by decide +kernel
theorem dX6_isSettingOf_34 : decode cX6_isSettingOf 34 = .ok (.sipush 389, 3) := by decide +kernel
theorem dX6_isSettingOf_37 : decode cX6_isSettingOf 37 = .ok (.invokevirtual 51, 3) := by decide +kernel
theorem dX6_isSettingOf_40 : decode cX6_isSettingOf 40 = .ok (.iload_n 3, 1) := by decide +kernel
theorem dX6_isSettingOf_41 : decode cX6_isSettingOf 41 = .ok (.if_icmp .ne 7, 3) := by decide +kernel
theorem dX6_isSettingOf_44 : decode cX6_isSettingOf 44 = .ok (.iconst 1, 1) := by decide +kernel
theorem dX6_isSettingOf_45 : decode cX6_isSettingOf 45 = .ok (.goto 4, 3) := by decide +kernel
theorem dX6_isSettingOf_48 : decode cX6_isSettingOf 48 = .ok (.iconst 0, 1) := by decide +kernel
theorem dX6_isSettingOf_49 : decode cX6_isSettingOf 49 = .ok (.ireturn, 1) := by decide +kernel
theorem dX6_settingBelow_0 : decode cX6_settingBelow 0 = .ok (.iload_n 1, 1) := by decide +kernel
theorem dX6_settingBelow_1 : decode cX6_settingBelow 1 = .ok (.iconst 1, 1) := by decide +kernel
theorem dX6_settingBelow_2 : decode cX6_settingBelow 2 = .ok (.isub, 1) := by decide +kernel
theorem dX6_settingBelow_3 : decode cX6_settingBelow 3 = .ok (.istore 4, 2) := by decide +kernel
theorem dX6_settingBelow_5 : decode cX6_settingBelow 5 = .ok (.iload 4, 2) := by decide +kernel
theorem dX6_settingBelow_7 : decode cX6_settingBelow 7 = .ok (.ifCond .lt 23, 3) := by decide +kernel
theorem dX6_settingBelow_10 : decode cX6_settingBelow 10 = .ok (.aload_n 0, 1) := by decide +kernel
theorem dX6_settingBelow_11 : decode cX6_settingBelow 11 = .ok (.iload 4, 2) := by decide +kernel
theorem dX6_settingBelow_13 : decode cX6_settingBelow 13 = .ok (.iload_n 2, 1) := by decide +kernel
theorem dX6_settingBelow_14 : decode cX6_settingBelow 14 = .ok (.iload_n 3, 1) := by decide +kernel
theorem dX6_settingBelow_15 : decode cX6_settingBelow 15 = .ok (.invokevirtual 67, 3) := by decide +kernel
theorem dX6_settingBelow_18 : decode cX6_settingBelow 18 = .ok (.ifCond .eq 6, 3) := by decide +kernel
theorem dX6_settingBelow_21 : decode cX6_settingBelow 21 = .ok (.iload 4, 2) := by decide +kernel
theorem dX6_settingBelow_23 : decode cX6_settingBelow 23 = .ok (.ireturn, 1) := by decide +kernel
theorem dX6_settingBelow_24 : decode cX6_settingBelow 24 = .ok (.iinc 4 (-1), 3) := by decide +kernel
theorem dX6_settingBelow_27 : decode cX6_settingBelow 27 = .ok (.goto (-22), 3) := by decide +kernel
theorem dX6_settingBelow_30 : decode cX6_settingBelow 30 = .ok (.bipush (-5), 2) := by decide +kernel
theorem dX6_settingBelow_32 : decode cX6_settingBelow 32 = .ok (.ireturn, 1) := by decide +kernel
theorem dX6_baseOf_0 : decode cX6_baseOf 0 = .ok (.aload_n 0, 1) := by decide +kernel
theorem dX6_baseOf_1 : decode cX6_baseOf 1 = .ok (.getfield 7, 3) := by decide +kernel
theorem dX6_baseOf_4 : decode cX6_baseOf 4 = .ok (.aload_n 0, 1) := by decide +kernel
theorem dX6_baseOf_5 : decode cX6_baseOf 5 = .ok (.aload_n 0, 1) := by decide +kernel
theorem dX6_baseOf_6 : decode cX6_baseOf 6 = .ok (.iconst 0, 1) := by decide +kernel
theorem dX6_baseOf_7 : decode cX6_baseOf 7 = .ok (.iload_n 1, 1) := by decide +kernel
theorem dX6_baseOf_8 : decode cX6_baseOf 8 = .ok (.invokevirtual 70, 3) := by decide +kernel
theorem dX6_baseOf_11 : decode cX6_baseOf 11 = .ok (.aload_n 0, 1) := by decide +kernel
theorem dX6_baseOf_12 : decode cX6_baseOf 12 = .ok (.iconst 1, 1) := by decide +kernel
theorem dX6_baseOf_13 : decode cX6_baseOf 13 = .ok (.iload_n 2, 1) := by decide +kernel
theorem dX6_baseOf_14 : decode cX6_baseOf 14 = .ok (.invokevirtual 70, 3) := by decide +kernel
theorem dX6_baseOf_17 : decode cX6_baseOf 17 = .ok (.invokevirtual 48, 3) := by decide +kernel
theorem dX6_baseOf_20 : decode cX6_baseOf 20 = .ok (.iaload, 1) := by decide +kernel
theorem dX6_baseOf_21 : decode cX6_baseOf 21 = .ok (.ireturn, 1) := by decide +kernel
theorem dX6_valueBelow_0 : decode cX6_valueBelow 0 = .ok (.aload_n 0, 1) := by decide +kernel
theorem dX6_valueBelow_1 : decode cX6_valueBelow 1 = .ok (.iload_n 1, 1) := by decide +kernel
theorem dX6_valueBelow_2 : decode cX6_valueBelow 2 = .ok (.iload_n 2, 1) := by decide +kernel
theorem dX6_valueBelow_3 : decode cX6_valueBelow 3 = .ok (.iload_n 3, 1) := by decide +kernel
theorem dX6_valueBelow_4 : decode cX6_valueBelow 4 = .ok (.invokevirtual 73, 3) := by decide +kernel
theorem dX6_valueBelow_7 : decode cX6_valueBelow 7 = .ok (.istore 4, 2) := by decide +kernel
theorem dX6_valueBelow_9 : decode cX6_valueBelow 9 = .ok (.iload 4, 2) := by decide +kernel
theorem dX6_valueBelow_11 : decode cX6_valueBelow 11 = .ok (.ifCond .ge 12, 3) := by decide +kernel
theorem dX6_valueBelow_14 : decode cX6_valueBelow 14 = .ok (.aload_n 0, 1) := by decide +kernel
theorem dX6_valueBelow_15 : decode cX6_valueBelow 15 = .ok (.iload_n 2, 1) := by decide +kernel
theorem dX6_valueBelow_16 : decode cX6_valueBelow 16 = .ok (.iload_n 3, 1) := by decide +kernel
theorem dX6_valueBelow_17 : decode cX6_valueBelow 17 = .ok (.invokevirtual 77, 3) := by decide +kernel
theorem dX6_valueBelow_20 : decode cX6_valueBelow 20 = .ok (.goto 12, 3) := by decide +kernel
theorem dX6_valueBelow_23 : decode cX6_valueBelow 23 = .ok (.aload_n 0, 1) := by decide +kernel
theorem dX6_valueBelow_24 : decode cX6_valueBelow 24 = .ok (.iload 4, 2) := by decide +kernel
theorem dX6_valueBelow_26 : decode cX6_valueBelow 26 = .ok (.sipush 449, 3) := by decide +kernel
theorem dX6_valueBelow_29 : decode cX6_valueBelow 29 = .ok (.invokevirtual 51, 3) := by decide +kernel
theorem dX6_valueBelow_32 : decode cX6_valueBelow 32 = .ok (.ireturn, 1) := by decide +kernel
theorem dX6_isAtLine_0 : decode cX6_isAtLine 0 = .ok (.aload_n 0, 1) := by decide +kernel
theorem dX6_isAtLine_1 : decode cX6_isAtLine 1 = .ok (.iload_n 1, 1) := by decide +kernel
theorem dX6_isAtLine_2 : decode cX6_isAtLine 2 = .ok (.sipush 149, 3) := by decide +kernel
theorem dX6_isAtLine_5 : decode cX6_isAtLine 5 = .ok (.invokevirtual 51, 3) := by decide +kernel
theorem dX6_isAtLine_8 : decode cX6_isAtLine 8 = .ok (.istore 4, 2) := by decide +kernel
theorem dX6_isAtLine_10 : decode cX6_isAtLine 10 = .ok (.iload 4, 2) := by decide +kernel
theorem dX6_isAtLine_12 : decode cX6_isAtLine 12 = .ok (.iconst 4, 1) := by decide +kernel
theorem dX6_isAtLine_13 : decode cX6_isAtLine 13 = .ok (.if_icmp .eq 11, 3) := by decide +kernel
theorem dX6_isAtLine_16 : decode cX6_isAtLine 16 = .ok (.iload 4, 2) := by decide +kernel
theorem dX6_isAtLine_18 : decode cX6_isAtLine 18 = .ok (.iconst 2, 1) := by decide +kernel
theorem dX6_isAtLine_19 : decode cX6_isAtLine 19 = .ok (.idiv, 1) := by decide +kernel
theorem dX6_isAtLine_20 : decode cX6_isAtLine 20 = .ok (.iload_n 2, 1) := by decide +kernel
theorem dX6_isAtLine_21 : decode cX6_isAtLine 21 = .ok (.if_icmp .ne 29, 3) := by decide +kernel
theorem dX6_isAtLine_24 : decode cX6_isAtLine 24 = .ok (.aload_n 0, 1) := by decide +kernel
theorem dX6_isAtLine_25 : decode cX6_isAtLine 25 = .ok (.iload_n 1, 1) := by decide +kernel
theorem dX6_isAtLine_26 : decode cX6_isAtLine 26 = .ok (.iload_n 2, 1) := by decide +kernel
theorem dX6_isAtLine_27 : decode cX6_isAtLine 27 = .ok (.ifCond .ne 9, 3) := by decide +kernel
theorem dX6_isAtLine_30 : decode cX6_isAtLine 30 = .ok (.sipush 329, 3) := by decide +kernel
theorem dX6_isAtLine_33 : decode cX6_isAtLine 33 = .ok (.goto 6, 3) := by decide +kernel
theorem dX6_isAtLine_36 : decode cX6_isAtLine 36 = .ok (.sipush 389, 3) := by decide +kernel
theorem dX6_isAtLine_39 : decode cX6_isAtLine 39 = .ok (.invokevirtual 51, 3) := by decide +kernel
theorem dX6_isAtLine_42 : decode cX6_isAtLine 42 = .ok (.iload_n 3, 1) := by decide +kernel
theorem dX6_isAtLine_43 : decode cX6_isAtLine 43 = .ok (.if_icmp .ne 7, 3) := by decide +kernel
theorem dX6_isAtLine_46 : decode cX6_isAtLine 46 = .ok (.iconst 1, 1) := by decide +kernel
theorem dX6_isAtLine_47 : decode cX6_isAtLine 47 = .ok (.goto 4, 3) := by decide +kernel
theorem dX6_isAtLine_50 : decode cX6_isAtLine 50 = .ok (.iconst 0, 1) := by decide +kernel
theorem dX6_isAtLine_51 : decode cX6_isAtLine 51 = .ok (.ireturn, 1) := by decide +kernel
theorem dX6_dissolveAt_0 : decode cX6_dissolveAt 0 = .ok (.iconst 0, 1) := by decide +kernel
theorem dX6_dissolveAt_1 : decode cX6_dissolveAt 1 = .ok (.istore 4, 2) := by decide +kernel
theorem dX6_dissolveAt_3 : decode cX6_dissolveAt 3 = .ok (.iload 4, 2) := by decide +kernel
theorem dX6_dissolveAt_5 : decode cX6_dissolveAt 5 = .ok (.aload_n 0, 1) := by decide +kernel
theorem dX6_dissolveAt_6 : decode cX6_dissolveAt 6 = .ok (.getfield 7, 3) := by decide +kernel
theorem dX6_dissolveAt_9 : decode cX6_dissolveAt 9 = .ok (.bipush 51, 2) := by decide +kernel
theorem dX6_dissolveAt_11 : decode cX6_dissolveAt 11 = .ok (.iaload, 1) := by decide +kernel
theorem dX6_dissolveAt_12 : decode cX6_dissolveAt 12 = .ok (.if_icmp .ge 84, 3) := by decide +kernel
theorem dX6_dissolveAt_15 : decode cX6_dissolveAt 15 = .ok (.aload_n 0, 1) := by decide +kernel
theorem dX6_dissolveAt_16 : decode cX6_dissolveAt 16 = .ok (.iload 4, 2) := by decide +kernel
theorem dX6_dissolveAt_18 : decode cX6_dissolveAt 18 = .ok (.invokevirtual 54, 3) := by decide +kernel
theorem dX6_dissolveAt_21 : decode cX6_dissolveAt 21 = .ok (.ifCond .eq 35, 3) := by decide +kernel
theorem dX6_dissolveAt_24 : decode cX6_dissolveAt 24 = .ok (.aload_n 0, 1) := by decide +kernel
theorem dX6_dissolveAt_25 : decode cX6_dissolveAt 25 = .ok (.iload 4, 2) := by decide +kernel
theorem dX6_dissolveAt_27 : decode cX6_dissolveAt 27 = .ok (.iload_n 1, 1) := by decide +kernel
theorem dX6_dissolveAt_28 : decode cX6_dissolveAt 28 = .ok (.iload_n 2, 1) := by decide +kernel
theorem dX6_dissolveAt_29 : decode cX6_dissolveAt 29 = .ok (.invokevirtual 80, 3) := by decide +kernel
theorem dX6_dissolveAt_32 : decode cX6_dissolveAt 32 = .ok (.ifCond .eq 24, 3) := by decide +kernel
theorem dX6_dissolveAt_35 : decode cX6_dissolveAt 35 = .ok (.iload_n 3, 1) := by decide +kernel
theorem dX6_dissolveAt_36 : decode cX6_dissolveAt 36 = .ok (.ifCond .eq 16, 3) := by decide +kernel
theorem dX6_dissolveAt_39 : decode cX6_dissolveAt 39 = .ok (.aload_n 0, 1) := by decide +kernel
theorem dX6_dissolveAt_40 : decode cX6_dissolveAt 40 = .ok (.iload 4, 2) := by decide +kernel
theorem dX6_dissolveAt_42 : decode cX6_dissolveAt 42 = .ok (.sipush 149, 3) := by decide +kernel
theorem dX6_dissolveAt_45 : decode cX6_dissolveAt 45 = .ok (.invokevirtual 51, 3) := by decide +kernel
theorem dX6_dissolveAt_48 : decode cX6_dissolveAt 48 = .ok (.iconst 4, 1) := by decide +kernel
theorem dX6_dissolveAt_49 : decode cX6_dissolveAt 49 = .ok (.if_icmp .ne 7, 3) := by decide +kernel
theorem dX6_dissolveAt_52 : decode cX6_dissolveAt 52 = .ok (.iconst 1, 1) := by decide +kernel
theorem dX6_dissolveAt_53 : decode cX6_dissolveAt 53 = .ok (.goto 4, 3) := by decide +kernel
theorem dX6_dissolveAt_56 : decode cX6_dissolveAt 56 = .ok (.iconst 0, 1) := by decide +kernel
theorem dX6_dissolveAt_57 : decode cX6_dissolveAt 57 = .ok (.istore 5, 2) := by decide +kernel
theorem dX6_dissolveAt_59 : decode cX6_dissolveAt 59 = .ok (.aload_n 0, 1) := by decide +kernel
theorem dX6_dissolveAt_60 : decode cX6_dissolveAt 60 = .ok (.getfield 7, 3) := by decide +kernel
theorem dX6_dissolveAt_63 : decode cX6_dissolveAt 63 = .ok (.sipush 269, 3) := by decide +kernel
theorem dX6_dissolveAt_66 : decode cX6_dissolveAt 66 = .ok (.iload 4, 2) := by decide +kernel
theorem dX6_dissolveAt_68 : decode cX6_dissolveAt 68 = .ok (.iadd, 1) := by decide +kernel
theorem dX6_dissolveAt_69 : decode cX6_dissolveAt 69 = .ok (.iload 5, 2) := by decide +kernel
theorem dX6_dissolveAt_71 : decode cX6_dissolveAt 71 = .ok (.ifCond .eq 7, 3) := by decide +kernel
theorem dX6_dissolveAt_74 : decode cX6_dissolveAt 74 = .ok (.iconst 3, 1) := by decide +kernel
theorem dX6_dissolveAt_75 : decode cX6_dissolveAt 75 = .ok (.goto 14, 3) := by decide +kernel
theorem dX6_dissolveAt_78 : decode cX6_dissolveAt 78 = .ok (.aload_n 0, 1) := by decide +kernel
theorem dX6_dissolveAt_79 : decode cX6_dissolveAt 79 = .ok (.getfield 7, 3) := by decide +kernel
theorem dX6_dissolveAt_82 : decode cX6_dissolveAt 82 = .ok (.sipush 269, 3) := by decide +kernel
theorem dX6_dissolveAt_85 : decode cX6_dissolveAt 85 = .ok (.iload 4, 2) := by decide +kernel
theorem dX6_dissolveAt_87 : decode cX6_dissolveAt 87 = .ok (.iadd, 1) := by decide +kernel
theorem dX6_dissolveAt_88 : decode cX6_dissolveAt 88 = .ok (.iaload, 1) := by decide +kernel
theorem dX6_dissolveAt_89 : decode cX6_dissolveAt 89 = .ok (.iastore, 1) := by decide +kernel
theorem dX6_dissolveAt_90 : decode cX6_dissolveAt 90 = .ok (.iinc 4 1, 3) := by decide +kernel
theorem dX6_dissolveAt_93 : decode cX6_dissolveAt 93 = .ok (.goto (-90), 3) := by decide +kernel
theorem dX6_dissolveAt_96 : decode cX6_dissolveAt 96 = .ok (.return_, 1) := by decide +kernel
theorem dX6_rests_0 : decode cX6_rests 0 = .ok (.iload_n 1, 1) := by decide +kernel
theorem dX6_rests_1 : decode cX6_rests 1 = .ok (.iload_n 2, 1) := by decide +kernel
theorem dX6_rests_2 : decode cX6_rests 2 = .ok (.if_icmp .eq 19, 3) := by decide +kernel
theorem dX6_rests_5 : decode cX6_rests 5 = .ok (.aload_n 0, 1) := by decide +kernel
theorem dX6_rests_6 : decode cX6_rests 6 = .ok (.iload_n 1, 1) := by decide +kernel
theorem dX6_rests_7 : decode cX6_rests 7 = .ok (.invokevirtual 54, 3) := by decide +kernel
theorem dX6_rests_10 : decode cX6_rests 10 = .ok (.ifCond .eq 11, 3) := by decide +kernel
theorem dX6_rests_13 : decode cX6_rests 13 = .ok (.aload_n 0, 1) := by decide +kernel
theorem dX6_rests_14 : decode cX6_rests 14 = .ok (.iload_n 2, 1) := by decide +kernel
theorem dX6_rests_15 : decode cX6_rests 15 = .ok (.invokevirtual 54, 3) := by decide +kernel
theorem dX6_rests_18 : decode cX6_rests 18 = .ok (.ifCond .ne 5, 3) := by decide +kernel
theorem dX6_rests_21 : decode cX6_rests 21 = .ok (.iconst 0, 1) := by decide +kernel
theorem dX6_rests_22 : decode cX6_rests 22 = .ok (.ireturn, 1) := by decide +kernel
theorem dX6_rests_23 : decode cX6_rests 23 = .ok (.aload_n 0, 1) := by decide +kernel
theorem dX6_rests_24 : decode cX6_rests 24 = .ok (.iload_n 1, 1) := by decide +kernel
theorem dX6_rests_25 : decode cX6_rests 25 = .ok (.sipush 149, 3) := by decide +kernel
theorem dX6_rests_28 : decode cX6_rests 28 = .ok (.invokevirtual 51, 3) := by decide +kernel
theorem dX6_rests_31 : decode cX6_rests 31 = .ok (.istore_n 3, 1) := by decide +kernel
theorem dX6_rests_32 : decode cX6_rests 32 = .ok (.aload_n 0, 1) := by decide +kernel
theorem dX6_rests_33 : decode cX6_rests 33 = .ok (.iload_n 2, 1) := by decide +kernel
theorem dX6_rests_34 : decode cX6_rests 34 = .ok (.sipush 149, 3) := by decide +kernel
theorem dX6_rests_37 : decode cX6_rests 37 = .ok (.invokevirtual 51, 3) := by decide +kernel
theorem dX6_rests_40 : decode cX6_rests 40 = .ok (.istore 4, 2) := by decide +kernel
theorem dX6_rests_42 : decode cX6_rests 42 = .ok (.iload 4, 2) := by decide +kernel
theorem dX6_rests_44 : decode cX6_rests 44 = .ok (.iconst 4, 1) := by decide +kernel
theorem dX6_rests_45 : decode cX6_rests 45 = .ok (.if_icmp .ne 43, 3) := by decide +kernel
theorem dX6_rests_48 : decode cX6_rests 48 = .ok (.iload_n 3, 1) := by decide +kernel
theorem dX6_rests_49 : decode cX6_rests 49 = .ok (.iconst 4, 1) := by decide +kernel
theorem dX6_rests_50 : decode cX6_rests 50 = .ok (.if_icmp .ne 36, 3) := by decide +kernel
theorem dX6_rests_53 : decode cX6_rests 53 = .ok (.iload_n 2, 1) := by decide +kernel
theorem dX6_rests_54 : decode cX6_rests 54 = .ok (.iload_n 1, 1) := by decide +kernel
theorem dX6_rests_55 : decode cX6_rests 55 = .ok (.if_icmp .ge 31, 3) := by decide +kernel
theorem dX6_rests_58 : decode cX6_rests 58 = .ok (.aload_n 0, 1) := by decide +kernel
theorem dX6_rests_59 : decode cX6_rests 59 = .ok (.iload_n 2, 1) := by decide +kernel
theorem dX6_rests_60 : decode cX6_rests 60 = .ok (.aload_n 0, 1) := by decide +kernel
theorem dX6_rests_61 : decode cX6_rests 61 = .ok (.iload_n 1, 1) := by decide +kernel
theorem dX6_rests_62 : decode cX6_rests 62 = .ok (.sipush 329, 3) := by decide +kernel
theorem dX6_rests_65 : decode cX6_rests 65 = .ok (.invokevirtual 51, 3) := by decide +kernel
theorem dX6_rests_68 : decode cX6_rests 68 = .ok (.aload_n 0, 1) := by decide +kernel
theorem dX6_rests_69 : decode cX6_rests 69 = .ok (.iload_n 1, 1) := by decide +kernel
theorem dX6_rests_70 : decode cX6_rests 70 = .ok (.sipush 389, 3) := by decide +kernel
theorem dX6_rests_73 : decode cX6_rests 73 = .ok (.invokevirtual 51, 3) := by decide +kernel
theorem dX6_rests_76 : decode cX6_rests 76 = .ok (.invokevirtual 67, 3) := by decide +kernel
theorem dX6_rests_79 : decode cX6_rests 79 = .ok (.ifCond .eq 7, 3) := by decide +kernel
theorem dX6_rests_82 : decode cX6_rests 82 = .ok (.iconst 1, 1) := by decide +kernel
theorem dX6_rests_83 : decode cX6_rests 83 = .ok (.goto 4, 3) := by decide +kernel
theorem dX6_rests_86 : decode cX6_rests 86 = .ok (.iconst 0, 1) := by decide +kernel
theorem dX6_rests_87 : decode cX6_rests 87 = .ok (.ireturn, 1) := by decide +kernel
theorem dX6_rests_88 : decode cX6_rests 88 = .ok (.iload 4, 2) := by decide +kernel
theorem dX6_rests_90 : decode cX6_rests 90 = .ok (.iconst 2, 1) := by decide +kernel
theorem dX6_rests_91 : decode cX6_rests 91 = .ok (.irem, 1) := by decide +kernel
theorem dX6_rests_92 : decode cX6_rests 92 = .ok (.iconst 1, 1) := by decide +kernel
theorem dX6_rests_93 : decode cX6_rests 93 = .ok (.if_icmp .ne 5, 3) := by decide +kernel
theorem dX6_rests_96 : decode cX6_rests 96 = .ok (.iconst 0, 1) := by decide +kernel
theorem dX6_rests_97 : decode cX6_rests 97 = .ok (.ireturn, 1) := by decide +kernel
theorem dX6_rests_98 : decode cX6_rests 98 = .ok (.iload_n 3, 1) := by decide +kernel
theorem dX6_rests_99 : decode cX6_rests 99 = .ok (.iconst 4, 1) := by decide +kernel
theorem dX6_rests_100 : decode cX6_rests 100 = .ok (.if_icmp .ne 7, 3) := by decide +kernel
theorem dX6_rests_103 : decode cX6_rests 103 = .ok (.iconst 1, 1) := by decide +kernel
theorem dX6_rests_104 : decode cX6_rests 104 = .ok (.goto 4, 3) := by decide +kernel
theorem dX6_rests_107 : decode cX6_rests 107 = .ok (.iconst 0, 1) := by decide +kernel
theorem dX6_rests_108 : decode cX6_rests 108 = .ok (.istore 5, 2) := by decide +kernel
theorem dX6_rests_110 : decode cX6_rests 110 = .ok (.iload_n 3, 1) := by decide +kernel
theorem dX6_rests_111 : decode cX6_rests 111 = .ok (.iload 4, 2) := by decide +kernel
theorem dX6_rests_113 : decode cX6_rests 113 = .ok (.iconst 1, 1) := by decide +kernel
theorem dX6_rests_114 : decode cX6_rests 114 = .ok (.iadd, 1) := by decide +kernel
theorem dX6_rests_115 : decode cX6_rests 115 = .ok (.if_icmp .ne 7, 3) := by decide +kernel
theorem dX6_rests_118 : decode cX6_rests 118 = .ok (.iconst 1, 1) := by decide +kernel
theorem dX6_rests_119 : decode cX6_rests 119 = .ok (.goto 4, 3) := by decide +kernel
theorem dX6_rests_122 : decode cX6_rests 122 = .ok (.iconst 0, 1) := by decide +kernel
theorem dX6_rests_123 : decode cX6_rests 123 = .ok (.istore 6, 2) := by decide +kernel
theorem dX6_rests_125 : decode cX6_rests 125 = .ok (.iload 5, 2) := by decide +kernel
theorem dX6_rests_127 : decode cX6_rests 127 = .ok (.ifCond .ne 8, 3) := by decide +kernel
theorem dX6_rests_130 : decode cX6_rests 130 = .ok (.iload 6, 2) := by decide +kernel
theorem dX6_rests_132 : decode cX6_rests 132 = .ok (.ifCond .eq 38, 3) := by decide +kernel
theorem dX6_rests_135 : decode cX6_rests 135 = .ok (.aload_n 0, 1) := by decide +kernel
theorem dX6_rests_136 : decode cX6_rests 136 = .ok (.iload_n 1, 1) := by decide +kernel
theorem dX6_rests_137 : decode cX6_rests 137 = .ok (.iload 4, 2) := by decide +kernel
theorem dX6_rests_139 : decode cX6_rests 139 = .ok (.iconst 2, 1) := by decide +kernel
theorem dX6_rests_140 : decode cX6_rests 140 = .ok (.idiv, 1) := by decide +kernel
theorem dX6_rests_141 : decode cX6_rests 141 = .ok (.aload_n 0, 1) := by decide +kernel
theorem dX6_rests_142 : decode cX6_rests 142 = .ok (.iload_n 2, 1) := by decide +kernel
theorem dX6_rests_143 : decode cX6_rests 143 = .ok (.iload 4, 2) := by decide +kernel
theorem dX6_rests_145 : decode cX6_rests 145 = .ok (.ifCond .ne 9, 3) := by decide +kernel
theorem dX6_rests_148 : decode cX6_rests 148 = .ok (.sipush 329, 3) := by decide +kernel
theorem dX6_rests_151 : decode cX6_rests 151 = .ok (.goto 6, 3) := by decide +kernel
theorem dX6_rests_154 : decode cX6_rests 154 = .ok (.sipush 389, 3) := by decide +kernel
theorem dX6_rests_157 : decode cX6_rests 157 = .ok (.invokevirtual 51, 3) := by decide +kernel
theorem dX6_rests_160 : decode cX6_rests 160 = .ok (.invokevirtual 80, 3) := by decide +kernel
theorem dX6_rests_163 : decode cX6_rests 163 = .ok (.ifCond .eq 7, 3) := by decide +kernel
theorem dX6_rests_166 : decode cX6_rests 166 = .ok (.iconst 1, 1) := by decide +kernel
theorem dX6_rests_167 : decode cX6_rests 167 = .ok (.goto 4, 3) := by decide +kernel
theorem dX6_rests_170 : decode cX6_rests 170 = .ok (.iconst 0, 1) := by decide +kernel
theorem dX6_rests_171 : decode cX6_rests 171 = .ok (.ireturn, 1) := by decide +kernel
theorem dX6_noAuthor_0 : decode cX6_noAuthor 0 = .ok (.iload_n 0, 1) := by decide +kernel
theorem dX6_noAuthor_1 : decode cX6_noAuthor 1 = .ok (.iconst 0, 1) := by decide +kernel
theorem dX6_noAuthor_2 : decode cX6_noAuthor 2 = .ok (.iconst 3, 1) := by decide +kernel
theorem dX6_noAuthor_3 : decode cX6_noAuthor 3 = .ok (.invokestatic 41, 3) := by decide +kernel
theorem dX6_noAuthor_6 : decode cX6_noAuthor 6 = .ok (.ifCond .ne 7, 3) := by decide +kernel
theorem dX6_noAuthor_9 : decode cX6_noAuthor 9 = .ok (.iconst 1, 1) := by decide +kernel
theorem dX6_noAuthor_10 : decode cX6_noAuthor 10 = .ok (.goto 4, 3) := by decide +kernel
theorem dX6_noAuthor_13 : decode cX6_noAuthor 13 = .ok (.iconst 0, 1) := by decide +kernel
theorem dX6_noAuthor_14 : decode cX6_noAuthor 14 = .ok (.ireturn, 1) := by decide +kernel
theorem dX6_pendingOnes_0 : decode cX6_pendingOnes 0 = .ok (.iconst 0, 1) := by decide +kernel
theorem dX6_pendingOnes_1 : decode cX6_pendingOnes 1 = .ok (.istore_n 1, 1) := by decide +kernel
theorem dX6_pendingOnes_2 : decode cX6_pendingOnes 2 = .ok (.iconst 0, 1) := by decide +kernel
theorem dX6_pendingOnes_3 : decode cX6_pendingOnes 3 = .ok (.istore_n 2, 1) := by decide +kernel
theorem dX6_pendingOnes_4 : decode cX6_pendingOnes 4 = .ok (.iload_n 2, 1) := by decide +kernel
theorem dX6_pendingOnes_5 : decode cX6_pendingOnes 5 = .ok (.aload_n 0, 1) := by decide +kernel
theorem dX6_pendingOnes_6 : decode cX6_pendingOnes 6 = .ok (.getfield 7, 3) := by decide +kernel
theorem dX6_pendingOnes_9 : decode cX6_pendingOnes 9 = .ok (.bipush 51, 2) := by decide +kernel
theorem dX6_pendingOnes_11 : decode cX6_pendingOnes 11 = .ok (.iaload, 1) := by decide +kernel
theorem dX6_pendingOnes_12 : decode cX6_pendingOnes 12 = .ok (.if_icmp .ge 25, 3) := by decide +kernel
theorem dX6_pendingOnes_15 : decode cX6_pendingOnes 15 = .ok (.iload_n 1, 1) := by decide +kernel
theorem dX6_pendingOnes_16 : decode cX6_pendingOnes 16 = .ok (.aload_n 0, 1) := by decide +kernel
theorem dX6_pendingOnes_17 : decode cX6_pendingOnes 17 = .ok (.iload_n 2, 1) := by decide +kernel
theorem dX6_pendingOnes_18 : decode cX6_pendingOnes 18 = .ok (.invokevirtual 54, 3) := by decide +kernel
theorem dX6_pendingOnes_21 : decode cX6_pendingOnes 21 = .ok (.ifCond .eq 7, 3) := by decide +kernel
theorem dX6_pendingOnes_24 : decode cX6_pendingOnes 24 = .ok (.iconst 1, 1) := by decide +kernel
theorem dX6_pendingOnes_25 : decode cX6_pendingOnes 25 = .ok (.goto 4, 3) := by decide +kernel
theorem dX6_pendingOnes_28 : decode cX6_pendingOnes 28 = .ok (.iconst 0, 1) := by decide +kernel
theorem dX6_pendingOnes_29 : decode cX6_pendingOnes 29 = .ok (.iadd, 1) := by decide +kernel
theorem dX6_pendingOnes_30 : decode cX6_pendingOnes 30 = .ok (.istore_n 1, 1) := by decide +kernel
theorem dX6_pendingOnes_31 : decode cX6_pendingOnes 31 = .ok (.iinc 2 1, 3) := by decide +kernel
theorem dX6_pendingOnes_34 : decode cX6_pendingOnes 34 = .ok (.goto (-30), 3) := by decide +kernel
theorem dX6_pendingOnes_37 : decode cX6_pendingOnes 37 = .ok (.iload_n 1, 1) := by decide +kernel
theorem dX6_pendingOnes_38 : decode cX6_pendingOnes 38 = .ok (.ireturn, 1) := by decide +kernel
theorem dX6_track_0 : decode cX6_track 0 = .ok (.iload_n 1, 1) := by decide +kernel
theorem dX6_track_1 : decode cX6_track 1 = .ok (.ifCond .eq 7, 3) := by decide +kernel
theorem dX6_track_4 : decode cX6_track 4 = .ok (.iconst 1, 1) := by decide +kernel
theorem dX6_track_5 : decode cX6_track 5 = .ok (.goto 4, 3) := by decide +kernel
theorem dX6_track_8 : decode cX6_track 8 = .ok (.iconst 0, 1) := by decide +kernel
theorem dX6_track_9 : decode cX6_track 9 = .ok (.istore_n 2, 1) := by decide +kernel
theorem dX6_track_10 : decode cX6_track 10 = .ok (.aload_n 0, 1) := by decide +kernel
theorem dX6_track_11 : decode cX6_track 11 = .ok (.getfield 7, 3) := by decide +kernel
theorem dX6_track_14 : decode cX6_track 14 = .ok (.bipush 52, 2) := by decide +kernel
theorem dX6_track_16 : decode cX6_track 16 = .ok (.iaload, 1) := by decide +kernel
theorem dX6_track_17 : decode cX6_track 17 = .ok (.iload_n 2, 1) := by decide +kernel
theorem dX6_track_18 : decode cX6_track 18 = .ok (.if_icmp .ne 6, 3) := by decide +kernel
theorem dX6_track_21 : decode cX6_track 21 = .ok (.bipush (-4), 2) := by decide +kernel
theorem dX6_track_23 : decode cX6_track 23 = .ok (.ireturn, 1) := by decide +kernel
theorem dX6_track_24 : decode cX6_track 24 = .ok (.aload_n 0, 1) := by decide +kernel
theorem dX6_track_25 : decode cX6_track 25 = .ok (.invokevirtual 83, 3) := by decide +kernel
theorem dX6_track_28 : decode cX6_track 28 = .ok (.aload_n 0, 1) := by decide +kernel
theorem dX6_track_29 : decode cX6_track 29 = .ok (.getfield 7, 3) := by decide +kernel
theorem dX6_track_32 : decode cX6_track 32 = .ok (.bipush 52, 2) := by decide +kernel
theorem dX6_track_34 : decode cX6_track 34 = .ok (.iload_n 2, 1) := by decide +kernel
theorem dX6_track_35 : decode cX6_track 35 = .ok (.iastore, 1) := by decide +kernel
theorem dX6_track_36 : decode cX6_track 36 = .ok (.aload_n 0, 1) := by decide +kernel
theorem dX6_track_37 : decode cX6_track 37 = .ok (.aload_n 0, 1) := by decide +kernel
theorem dX6_track_38 : decode cX6_track 38 = .ok (.invokevirtual 86, 3) := by decide +kernel
theorem dX6_track_41 : decode cX6_track 41 = .ok (.invokevirtual 90, 3) := by decide +kernel
theorem dX6_track_44 : decode cX6_track 44 = .ok (.ireturn, 1) := by decide +kernel
theorem dX6_isTracked_0 : decode cX6_isTracked 0 = .ok (.aload_n 0, 1) := by decide +kernel
theorem dX6_isTracked_1 : decode cX6_isTracked 1 = .ok (.getfield 7, 3) := by decide +kernel
theorem dX6_isTracked_4 : decode cX6_isTracked 4 = .ok (.bipush 52, 2) := by decide +kernel
theorem dX6_isTracked_6 : decode cX6_isTracked 6 = .ok (.iaload, 1) := by decide +kernel
theorem dX6_isTracked_7 : decode cX6_isTracked 7 = .ok (.iconst 1, 1) := by decide +kernel
theorem dX6_isTracked_8 : decode cX6_isTracked 8 = .ok (.if_icmp .ne 7, 3) := by decide +kernel
theorem dX6_isTracked_11 : decode cX6_isTracked 11 = .ok (.iconst 1, 1) := by decide +kernel
theorem dX6_isTracked_12 : decode cX6_isTracked 12 = .ok (.goto 4, 3) := by decide +kernel
theorem dX6_isTracked_15 : decode cX6_isTracked 15 = .ok (.iconst 0, 1) := by decide +kernel
theorem dX6_isTracked_16 : decode cX6_isTracked 16 = .ok (.ireturn, 1) := by decide +kernel
theorem dX6_doInsert_0 : decode cX6_doInsert 0 = .ok (.iload_n 1, 1) := by decide +kernel
theorem dX6_doInsert_1 : decode cX6_doInsert 1 = .ok (.invokestatic 93, 3) := by decide +kernel
theorem dX6_doInsert_4 : decode cX6_doInsert 4 = .ok (.ifCond .ne 12, 3) := by decide +kernel
theorem dX6_doInsert_7 : decode cX6_doInsert 7 = .ok (.iload_n 2, 1) := by decide +kernel
theorem dX6_doInsert_8 : decode cX6_doInsert 8 = .ok (.iconst 0, 1) := by decide +kernel
theorem dX6_doInsert_9 : decode cX6_doInsert 9 = .ok (.iconst 1, 1) := by decide +kernel
theorem dX6_doInsert_10 : decode cX6_doInsert 10 = .ok (.invokestatic 41, 3) := by decide +kernel
theorem dX6_doInsert_13 : decode cX6_doInsert 13 = .ok (.ifCond .ne 5, 3) := by decide +kernel
theorem dX6_doInsert_16 : decode cX6_doInsert 16 = .ok (.iconst (-1), 1) := by decide +kernel
theorem dX6_doInsert_17 : decode cX6_doInsert 17 = .ok (.ireturn, 1) := by decide +kernel
theorem dX6_doInsert_18 : decode cX6_doInsert 18 = .ok (.iload_n 3, 1) := by decide +kernel
theorem dX6_doInsert_19 : decode cX6_doInsert 19 = .ok (.iconst 0, 1) := by decide +kernel
theorem dX6_doInsert_20 : decode cX6_doInsert 20 = .ok (.aload_n 0, 1) := by decide +kernel
theorem dX6_doInsert_21 : decode cX6_doInsert 21 = .ok (.iload_n 2, 1) := by decide +kernel
theorem dX6_doInsert_22 : decode cX6_doInsert 22 = .ok (.invokevirtual 34, 3) := by decide +kernel
theorem dX6_doInsert_25 : decode cX6_doInsert 25 = .ok (.invokestatic 41, 3) := by decide +kernel
theorem dX6_doInsert_28 : decode cX6_doInsert 28 = .ok (.ifCond .ne 6, 3) := by decide +kernel
theorem dX6_doInsert_31 : decode cX6_doInsert 31 = .ok (.bipush (-2), 2) := by decide +kernel
theorem dX6_doInsert_33 : decode cX6_doInsert 33 = .ok (.ireturn, 1) := by decide +kernel
theorem dX6_doInsert_34 : decode cX6_doInsert 34 = .ok (.aload_n 0, 1) := by decide +kernel
theorem dX6_doInsert_35 : decode cX6_doInsert 35 = .ok (.iload_n 2, 1) := by decide +kernel
theorem dX6_doInsert_36 : decode cX6_doInsert 36 = .ok (.invokevirtual 34, 3) := by decide +kernel
theorem dX6_doInsert_39 : decode cX6_doInsert 39 = .ok (.iload_n 2, 1) := by decide +kernel
theorem dX6_doInsert_40 : decode cX6_doInsert 40 = .ok (.ifCond .ne 8, 3) := by decide +kernel
theorem dX6_doInsert_43 : decode cX6_doInsert 43 = .ok (.bipush 12, 2) := by decide +kernel
theorem dX6_doInsert_45 : decode cX6_doInsert 45 = .ok (.goto 5, 3) := by decide +kernel
theorem dX6_doInsert_48 : decode cX6_doInsert 48 = .ok (.bipush 8, 2) := by decide +kernel
theorem dX6_doInsert_50 : decode cX6_doInsert 50 = .ok (.if_icmp .eq 22, 3) := by decide +kernel
theorem dX6_doInsert_53 : decode cX6_doInsert 53 = .ok (.aload_n 0, 1) := by decide +kernel
theorem dX6_doInsert_54 : decode cX6_doInsert 54 = .ok (.invokevirtual 96, 3) := by decide +kernel
theorem dX6_doInsert_57 : decode cX6_doInsert 57 = .ok (.ifCond .eq 18, 3) := by decide +kernel
theorem dX6_doInsert_60 : decode cX6_doInsert 60 = .ok (.aload_n 0, 1) := by decide +kernel
theorem dX6_doInsert_61 : decode cX6_doInsert 61 = .ok (.getfield 7, 3) := by decide +kernel
theorem dX6_doInsert_64 : decode cX6_doInsert 64 = .ok (.bipush 51, 2) := by decide +kernel
theorem dX6_doInsert_66 : decode cX6_doInsert 66 = .ok (.iaload, 1) := by decide +kernel
theorem dX6_doInsert_67 : decode cX6_doInsert 67 = .ok (.bipush 60, 2) := by decide +kernel
theorem dX6_doInsert_69 : decode cX6_doInsert 69 = .ok (.if_icmp .ne 6, 3) := by decide +kernel
theorem dX6_doInsert_72 : decode cX6_doInsert 72 = .ok (.bipush (-3), 2) := by decide +kernel
theorem dX6_doInsert_74 : decode cX6_doInsert 74 = .ok (.ireturn, 1) := by decide +kernel
theorem dX6_doInsert_75 : decode cX6_doInsert 75 = .ok (.aload_n 0, 1) := by decide +kernel
theorem dX6_doInsert_76 : decode cX6_doInsert 76 = .ok (.iload_n 2, 1) := by decide +kernel
theorem dX6_doInsert_77 : decode cX6_doInsert 77 = .ok (.iload_n 3, 1) := by decide +kernel
theorem dX6_doInsert_78 : decode cX6_doInsert 78 = .ok (.invokevirtual 100, 3) := by decide +kernel
theorem dX6_doInsert_81 : decode cX6_doInsert 81 = .ok (.istore 4, 2) := by decide +kernel
theorem dX6_doInsert_83 : decode cX6_doInsert 83 = .ok (.aload_n 0, 1) := by decide +kernel
theorem dX6_doInsert_84 : decode cX6_doInsert 84 = .ok (.invokevirtual 96, 3) := by decide +kernel
theorem dX6_doInsert_87 : decode cX6_doInsert 87 = .ok (.ifCond .eq 38, 3) := by decide +kernel
theorem dX6_doInsert_90 : decode cX6_doInsert 90 = .ok (.aload_n 0, 1) := by decide +kernel
theorem dX6_doInsert_91 : decode cX6_doInsert 91 = .ok (.iconst 2, 1) := by decide +kernel
theorem dX6_doInsert_92 : decode cX6_doInsert 92 = .ok (.iload_n 2, 1) := by decide +kernel
theorem dX6_doInsert_93 : decode cX6_doInsert 93 = .ok (.imul, 1) := by decide +kernel
theorem dX6_doInsert_94 : decode cX6_doInsert 94 = .ok (.iload_n 1, 1) := by decide +kernel
theorem dX6_doInsert_95 : decode cX6_doInsert 95 = .ok (.iload_n 2, 1) := by decide +kernel
theorem dX6_doInsert_96 : decode cX6_doInsert 96 = .ok (.ifCond .ne 8, 3) := by decide +kernel
theorem dX6_doInsert_99 : decode cX6_doInsert 99 = .ok (.iload 4, 2) := by decide +kernel
theorem dX6_doInsert_101 : decode cX6_doInsert 101 = .ok (.goto 5, 3) := by decide +kernel
theorem dX6_doInsert_104 : decode cX6_doInsert 104 = .ok (.bipush (-5), 2) := by decide +kernel
theorem dX6_doInsert_106 : decode cX6_doInsert 106 = .ok (.iload_n 2, 1) := by decide +kernel
theorem dX6_doInsert_107 : decode cX6_doInsert 107 = .ok (.iconst 1, 1) := by decide +kernel
theorem dX6_doInsert_108 : decode cX6_doInsert 108 = .ok (.if_icmp .ne 8, 3) := by decide +kernel
theorem dX6_doInsert_111 : decode cX6_doInsert 111 = .ok (.iload 4, 2) := by decide +kernel
theorem dX6_doInsert_113 : decode cX6_doInsert 113 = .ok (.goto 5, 3) := by decide +kernel
theorem dX6_doInsert_116 : decode cX6_doInsert 116 = .ok (.bipush (-5), 2) := by decide +kernel
theorem dX6_doInsert_118 : decode cX6_doInsert 118 = .ok (.iconst 0, 1) := by decide +kernel
theorem dX6_doInsert_119 : decode cX6_doInsert 119 = .ok (.invokevirtual 103, 3) := by decide +kernel
theorem dX6_doInsert_122 : decode cX6_doInsert 122 = .ok (.goto 6, 3) := by decide +kernel
theorem dX6_doInsert_125 : decode cX6_doInsert 125 = .ok (.sipush 1000, 3) := by decide +kernel
theorem dX6_doInsert_128 : decode cX6_doInsert 128 = .ok (.ireturn, 1) := by decide +kernel
theorem dX6_insert_0 : decode cX6_insert 0 = .ok (.aload_n 0, 1) := by decide +kernel
theorem dX6_insert_1 : decode cX6_insert 1 = .ok (.invokevirtual 83, 3) := by decide +kernel
theorem dX6_insert_4 : decode cX6_insert 4 = .ok (.aload_n 0, 1) := by decide +kernel
theorem dX6_insert_5 : decode cX6_insert 5 = .ok (.aload_n 0, 1) := by decide +kernel
theorem dX6_insert_6 : decode cX6_insert 6 = .ok (.iload_n 1, 1) := by decide +kernel
theorem dX6_insert_7 : decode cX6_insert 7 = .ok (.iload_n 2, 1) := by decide +kernel
theorem dX6_insert_8 : decode cX6_insert 8 = .ok (.iload_n 3, 1) := by decide +kernel
theorem dX6_insert_9 : decode cX6_insert 9 = .ok (.invokevirtual 107, 3) := by decide +kernel
theorem dX6_insert_12 : decode cX6_insert 12 = .ok (.invokevirtual 90, 3) := by decide +kernel
theorem dX6_insert_15 : decode cX6_insert 15 = .ok (.ireturn, 1) := by decide +kernel
theorem dX6_doRemove_0 : decode cX6_doRemove 0 = .ok (.iload_n 1, 1) := by decide +kernel
theorem dX6_doRemove_1 : decode cX6_doRemove 1 = .ok (.invokestatic 93, 3) := by decide +kernel
theorem dX6_doRemove_4 : decode cX6_doRemove 4 = .ok (.ifCond .ne 12, 3) := by decide +kernel
theorem dX6_doRemove_7 : decode cX6_doRemove 7 = .ok (.aload_n 0, 1) := by decide +kernel
theorem dX6_doRemove_8 : decode cX6_doRemove 8 = .ok (.iload_n 2, 1) := by decide +kernel
theorem dX6_doRemove_9 : decode cX6_doRemove 9 = .ok (.iload_n 3, 1) := by decide +kernel
theorem dX6_doRemove_10 : decode cX6_doRemove 10 = .ok (.invokevirtual 110, 3) := by decide +kernel
theorem dX6_doRemove_13 : decode cX6_doRemove 13 = .ok (.ifCond .eq 5, 3) := by decide +kernel
theorem dX6_doRemove_16 : decode cX6_doRemove 16 = .ok (.iconst (-1), 1) := by decide +kernel
theorem dX6_doRemove_17 : decode cX6_doRemove 17 = .ok (.ireturn, 1) := by decide +kernel
theorem dX6_doRemove_18 : decode cX6_doRemove 18 = .ok (.aload_n 0, 1) := by decide +kernel
theorem dX6_doRemove_19 : decode cX6_doRemove 19 = .ok (.iload_n 2, 1) := by decide +kernel
theorem dX6_doRemove_20 : decode cX6_doRemove 20 = .ok (.iload_n 3, 1) := by decide +kernel
theorem dX6_doRemove_21 : decode cX6_doRemove 21 = .ok (.invokevirtual 38, 3) := by decide +kernel
theorem dX6_doRemove_24 : decode cX6_doRemove 24 = .ok (.istore 4, 2) := by decide +kernel
theorem dX6_doRemove_26 : decode cX6_doRemove 26 = .ok (.aload_n 0, 1) := by decide +kernel
theorem dX6_doRemove_27 : decode cX6_doRemove 27 = .ok (.invokevirtual 96, 3) := by decide +kernel
theorem dX6_doRemove_30 : decode cX6_doRemove 30 = .ok (.ifCond .ne 21, 3) := by decide +kernel
theorem dX6_doRemove_33 : decode cX6_doRemove 33 = .ok (.aload_n 0, 1) := by decide +kernel
theorem dX6_doRemove_34 : decode cX6_doRemove 34 = .ok (.iload_n 2, 1) := by decide +kernel
theorem dX6_doRemove_35 : decode cX6_doRemove 35 = .ok (.iload 4, 2) := by decide +kernel
theorem dX6_doRemove_37 : decode cX6_doRemove 37 = .ok (.iconst 0, 1) := by decide +kernel
theorem dX6_doRemove_38 : decode cX6_doRemove 38 = .ok (.invokevirtual 114, 3) := by decide +kernel
theorem dX6_doRemove_41 : decode cX6_doRemove 41 = .ok (.aload_n 0, 1) := by decide +kernel
theorem dX6_doRemove_42 : decode cX6_doRemove 42 = .ok (.iload_n 2, 1) := by decide +kernel
theorem dX6_doRemove_43 : decode cX6_doRemove 43 = .ok (.iload_n 3, 1) := by decide +kernel
theorem dX6_doRemove_44 : decode cX6_doRemove 44 = .ok (.invokevirtual 118, 3) := by decide +kernel
theorem dX6_doRemove_47 : decode cX6_doRemove 47 = .ok (.sipush 1000, 3) := by decide +kernel
theorem dX6_doRemove_50 : decode cX6_doRemove 50 = .ok (.ireturn, 1) := by decide +kernel
theorem dX6_doRemove_51 : decode cX6_doRemove 51 = .ok (.aload_n 0, 1) := by decide +kernel
theorem dX6_doRemove_52 : decode cX6_doRemove 52 = .ok (.iload_n 2, 1) := by decide +kernel
theorem dX6_doRemove_53 : decode cX6_doRemove 53 = .ok (.iload_n 3, 1) := by decide +kernel
theorem dX6_doRemove_54 : decode cX6_doRemove 54 = .ok (.invokevirtual 122, 3) := by decide +kernel
theorem dX6_doRemove_57 : decode cX6_doRemove 57 = .ok (.ifCond .eq 6, 3) := by decide +kernel
theorem dX6_doRemove_60 : decode cX6_doRemove 60 = .ok (.bipush (-4), 2) := by decide +kernel
theorem dX6_doRemove_62 : decode cX6_doRemove 62 = .ok (.ireturn, 1) := by decide +kernel
theorem dX6_doRemove_63 : decode cX6_doRemove 63 = .ok (.aload_n 0, 1) := by decide +kernel
theorem dX6_doRemove_64 : decode cX6_doRemove 64 = .ok (.iload_n 2, 1) := by decide +kernel
theorem dX6_doRemove_65 : decode cX6_doRemove 65 = .ok (.iload_n 3, 1) := by decide +kernel
theorem dX6_doRemove_66 : decode cX6_doRemove 66 = .ok (.invokevirtual 61, 3) := by decide +kernel
theorem dX6_doRemove_69 : decode cX6_doRemove 69 = .ok (.istore 5, 2) := by decide +kernel
theorem dX6_doRemove_71 : decode cX6_doRemove 71 = .ok (.iload 5, 2) := by decide +kernel
theorem dX6_doRemove_73 : decode cX6_doRemove 73 = .ok (.ifCond .lt 33, 3) := by decide +kernel
theorem dX6_doRemove_76 : decode cX6_doRemove 76 = .ok (.aload_n 0, 1) := by decide +kernel
theorem dX6_doRemove_77 : decode cX6_doRemove 77 = .ok (.iload 5, 2) := by decide +kernel
theorem dX6_doRemove_79 : decode cX6_doRemove 79 = .ok (.sipush 209, 3) := by decide +kernel
theorem dX6_doRemove_82 : decode cX6_doRemove 82 = .ok (.invokevirtual 51, 3) := by decide +kernel
theorem dX6_doRemove_85 : decode cX6_doRemove 85 = .ok (.iload_n 1, 1) := by decide +kernel
theorem dX6_doRemove_86 : decode cX6_doRemove 86 = .ok (.if_icmp .ne 20, 3) := by decide +kernel
theorem dX6_doRemove_89 : decode cX6_doRemove 89 = .ok (.aload_n 0, 1) := by decide +kernel
theorem dX6_doRemove_90 : decode cX6_doRemove 90 = .ok (.iload_n 2, 1) := by decide +kernel
theorem dX6_doRemove_91 : decode cX6_doRemove 91 = .ok (.iload 4, 2) := by decide +kernel
theorem dX6_doRemove_93 : decode cX6_doRemove 93 = .ok (.iconst 0, 1) := by decide +kernel
theorem dX6_doRemove_94 : decode cX6_doRemove 94 = .ok (.invokevirtual 114, 3) := by decide +kernel
theorem dX6_doRemove_97 : decode cX6_doRemove 97 = .ok (.aload_n 0, 1) := by decide +kernel
theorem dX6_doRemove_98 : decode cX6_doRemove 98 = .ok (.iload_n 2, 1) := by decide +kernel
theorem dX6_doRemove_99 : decode cX6_doRemove 99 = .ok (.iload_n 3, 1) := by decide +kernel
theorem dX6_doRemove_100 : decode cX6_doRemove 100 = .ok (.invokevirtual 118, 3) := by decide +kernel
theorem dX6_doRemove_103 : decode cX6_doRemove 103 = .ok (.iload 5, 2) := by decide +kernel
theorem dX6_doRemove_105 : decode cX6_doRemove 105 = .ok (.ireturn, 1) := by decide +kernel
theorem dX6_doRemove_106 : decode cX6_doRemove 106 = .ok (.aload_n 0, 1) := by decide +kernel
theorem dX6_doRemove_107 : decode cX6_doRemove 107 = .ok (.getfield 7, 3) := by decide +kernel
theorem dX6_doRemove_110 : decode cX6_doRemove 110 = .ok (.bipush 51, 2) := by decide +kernel
theorem dX6_doRemove_112 : decode cX6_doRemove 112 = .ok (.iaload, 1) := by decide +kernel
theorem dX6_doRemove_113 : decode cX6_doRemove 113 = .ok (.bipush 60, 2) := by decide +kernel
theorem dX6_doRemove_115 : decode cX6_doRemove 115 = .ok (.if_icmp .ne 8, 3) := by decide +kernel
theorem dX6_doRemove_118 : decode cX6_doRemove 118 = .ok (.bipush (-3), 2) := by decide +kernel
theorem dX6_doRemove_120 : decode cX6_doRemove 120 = .ok (.goto 37, 3) := by decide +kernel
theorem dX6_doRemove_123 : decode cX6_doRemove 123 = .ok (.aload_n 0, 1) := by decide +kernel
theorem dX6_doRemove_124 : decode cX6_doRemove 124 = .ok (.iconst 2, 1) := by decide +kernel
theorem dX6_doRemove_125 : decode cX6_doRemove 125 = .ok (.iload_n 2, 1) := by decide +kernel
theorem dX6_doRemove_126 : decode cX6_doRemove 126 = .ok (.imul, 1) := by decide +kernel
theorem dX6_doRemove_127 : decode cX6_doRemove 127 = .ok (.iconst 1, 1) := by decide +kernel
theorem dX6_doRemove_128 : decode cX6_doRemove 128 = .ok (.iadd, 1) := by decide +kernel
theorem dX6_doRemove_129 : decode cX6_doRemove 129 = .ok (.iload_n 1, 1) := by decide +kernel
theorem dX6_doRemove_130 : decode cX6_doRemove 130 = .ok (.iload_n 2, 1) := by decide +kernel
theorem dX6_doRemove_131 : decode cX6_doRemove 131 = .ok (.ifCond .ne 8, 3) := by decide +kernel
theorem dX6_doRemove_134 : decode cX6_doRemove 134 = .ok (.iload 4, 2) := by decide +kernel
theorem dX6_doRemove_136 : decode cX6_doRemove 136 = .ok (.goto 5, 3) := by decide +kernel
theorem dX6_doRemove_139 : decode cX6_doRemove 139 = .ok (.bipush (-5), 2) := by decide +kernel
theorem dX6_doRemove_141 : decode cX6_doRemove 141 = .ok (.iload_n 2, 1) := by decide +kernel
theorem dX6_doRemove_142 : decode cX6_doRemove 142 = .ok (.iconst 1, 1) := by decide +kernel
theorem dX6_doRemove_143 : decode cX6_doRemove 143 = .ok (.if_icmp .ne 8, 3) := by decide +kernel
theorem dX6_doRemove_146 : decode cX6_doRemove 146 = .ok (.iload 4, 2) := by decide +kernel
theorem dX6_doRemove_148 : decode cX6_doRemove 148 = .ok (.goto 5, 3) := by decide +kernel
theorem dX6_doRemove_151 : decode cX6_doRemove 151 = .ok (.bipush (-5), 2) := by decide +kernel
theorem dX6_doRemove_153 : decode cX6_doRemove 153 = .ok (.iconst 0, 1) := by decide +kernel
theorem dX6_doRemove_154 : decode cX6_doRemove 154 = .ok (.invokevirtual 103, 3) := by decide +kernel
theorem dX6_doRemove_157 : decode cX6_doRemove 157 = .ok (.ireturn, 1) := by decide +kernel
theorem dX6_remove_0 : decode cX6_remove 0 = .ok (.aload_n 0, 1) := by decide +kernel
theorem dX6_remove_1 : decode cX6_remove 1 = .ok (.invokevirtual 83, 3) := by decide +kernel
theorem dX6_remove_4 : decode cX6_remove 4 = .ok (.aload_n 0, 1) := by decide +kernel
theorem dX6_remove_5 : decode cX6_remove 5 = .ok (.aload_n 0, 1) := by decide +kernel
theorem dX6_remove_6 : decode cX6_remove 6 = .ok (.iload_n 1, 1) := by decide +kernel
theorem dX6_remove_7 : decode cX6_remove 7 = .ok (.iload_n 2, 1) := by decide +kernel
theorem dX6_remove_8 : decode cX6_remove 8 = .ok (.iload_n 3, 1) := by decide +kernel
theorem dX6_remove_9 : decode cX6_remove 9 = .ok (.invokevirtual 125, 3) := by decide +kernel
theorem dX6_remove_12 : decode cX6_remove 12 = .ok (.invokevirtual 90, 3) := by decide +kernel
theorem dX6_remove_15 : decode cX6_remove 15 = .ok (.ireturn, 1) := by decide +kernel
theorem dX6_doSet_0 : decode cX6_doSet 0 = .ok (.iload_n 1, 1) := by decide +kernel
theorem dX6_doSet_1 : decode cX6_doSet 1 = .ok (.invokestatic 93, 3) := by decide +kernel
theorem dX6_doSet_4 : decode cX6_doSet 4 = .ok (.ifCond .ne 21, 3) := by decide +kernel
theorem dX6_doSet_7 : decode cX6_doSet 7 = .ok (.aload_n 0, 1) := by decide +kernel
theorem dX6_doSet_8 : decode cX6_doSet 8 = .ok (.iconst 0, 1) := by decide +kernel
theorem dX6_doSet_9 : decode cX6_doSet 9 = .ok (.iload_n 2, 1) := by decide +kernel
theorem dX6_doSet_10 : decode cX6_doSet 10 = .ok (.invokevirtual 110, 3) := by decide +kernel
theorem dX6_doSet_13 : decode cX6_doSet 13 = .ok (.ifCond .ne 12, 3) := by decide +kernel
theorem dX6_doSet_16 : decode cX6_doSet 16 = .ok (.aload_n 0, 1) := by decide +kernel
theorem dX6_doSet_17 : decode cX6_doSet 17 = .ok (.iconst 1, 1) := by decide +kernel
theorem dX6_doSet_18 : decode cX6_doSet 18 = .ok (.iload_n 3, 1) := by decide +kernel
theorem dX6_doSet_19 : decode cX6_doSet 19 = .ok (.invokevirtual 110, 3) := by decide +kernel
theorem dX6_doSet_22 : decode cX6_doSet 22 = .ok (.ifCond .eq 5, 3) := by decide +kernel
theorem dX6_doSet_25 : decode cX6_doSet 25 = .ok (.iconst (-1), 1) := by decide +kernel
theorem dX6_doSet_26 : decode cX6_doSet 26 = .ok (.ireturn, 1) := by decide +kernel
theorem dX6_doSet_27 : decode cX6_doSet 27 = .ok (.iload 4, 2) := by decide +kernel
theorem dX6_doSet_29 : decode cX6_doSet 29 = .ok (.iconst 0, 1) := by decide +kernel
theorem dX6_doSet_30 : decode cX6_doSet 30 = .ok (.sipush 9999, 3) := by decide +kernel
theorem dX6_doSet_33 : decode cX6_doSet 33 = .ok (.invokestatic 41, 3) := by decide +kernel
theorem dX6_doSet_36 : decode cX6_doSet 36 = .ok (.ifCond .ne 6, 3) := by decide +kernel
theorem dX6_doSet_39 : decode cX6_doSet 39 = .ok (.bipush (-2), 2) := by decide +kernel
theorem dX6_doSet_41 : decode cX6_doSet 41 = .ok (.ireturn, 1) := by decide +kernel
theorem dX6_doSet_42 : decode cX6_doSet 42 = .ok (.aload_n 0, 1) := by decide +kernel
theorem dX6_doSet_43 : decode cX6_doSet 43 = .ok (.iconst 0, 1) := by decide +kernel
theorem dX6_doSet_44 : decode cX6_doSet 44 = .ok (.iload_n 2, 1) := by decide +kernel
theorem dX6_doSet_45 : decode cX6_doSet 45 = .ok (.invokevirtual 38, 3) := by decide +kernel
theorem dX6_doSet_48 : decode cX6_doSet 48 = .ok (.istore 5, 2) := by decide +kernel
theorem dX6_doSet_50 : decode cX6_doSet 50 = .ok (.aload_n 0, 1) := by decide +kernel
theorem dX6_doSet_51 : decode cX6_doSet 51 = .ok (.iconst 1, 1) := by decide +kernel
theorem dX6_doSet_52 : decode cX6_doSet 52 = .ok (.iload_n 3, 1) := by decide +kernel
theorem dX6_doSet_53 : decode cX6_doSet 53 = .ok (.invokevirtual 38, 3) := by decide +kernel
theorem dX6_doSet_56 : decode cX6_doSet 56 = .ok (.istore 6, 2) := by decide +kernel
theorem dX6_doSet_58 : decode cX6_doSet 58 = .ok (.aload_n 0, 1) := by decide +kernel
theorem dX6_doSet_59 : decode cX6_doSet 59 = .ok (.iconst 0, 1) := by decide +kernel
theorem dX6_doSet_60 : decode cX6_doSet 60 = .ok (.iload_n 2, 1) := by decide +kernel
theorem dX6_doSet_61 : decode cX6_doSet 61 = .ok (.invokevirtual 122, 3) := by decide +kernel
theorem dX6_doSet_64 : decode cX6_doSet 64 = .ok (.ifCond .ne 32, 3) := by decide +kernel
theorem dX6_doSet_67 : decode cX6_doSet 67 = .ok (.aload_n 0, 1) := by decide +kernel
theorem dX6_doSet_68 : decode cX6_doSet 68 = .ok (.iconst 1, 1) := by decide +kernel
theorem dX6_doSet_69 : decode cX6_doSet 69 = .ok (.iload_n 3, 1) := by decide +kernel
theorem dX6_doSet_70 : decode cX6_doSet 70 = .ok (.invokevirtual 122, 3) := by decide +kernel
theorem dX6_doSet_73 : decode cX6_doSet 73 = .ok (.ifCond .ne 23, 3) := by decide +kernel
theorem dX6_doSet_76 : decode cX6_doSet 76 = .ok (.aload_n 0, 1) := by decide +kernel
theorem dX6_doSet_77 : decode cX6_doSet 77 = .ok (.aload_n 0, 1) := by decide +kernel
theorem dX6_doSet_78 : decode cX6_doSet 78 = .ok (.getfield 7, 3) := by decide +kernel
theorem dX6_doSet_81 : decode cX6_doSet 81 = .ok (.bipush 51, 2) := by decide +kernel
theorem dX6_doSet_83 : decode cX6_doSet 83 = .ok (.iaload, 1) := by decide +kernel
theorem dX6_doSet_84 : decode cX6_doSet 84 = .ok (.iload 5, 2) := by decide +kernel
theorem dX6_doSet_86 : decode cX6_doSet 86 = .ok (.iload 6, 2) := by decide +kernel
theorem dX6_doSet_88 : decode cX6_doSet 88 = .ok (.invokevirtual 128, 3) := by decide +kernel
theorem dX6_doSet_91 : decode cX6_doSet 91 = .ok (.iload 4, 2) := by decide +kernel
theorem dX6_doSet_93 : decode cX6_doSet 93 = .ok (.if_icmp .ne 6, 3) := by decide +kernel
theorem dX6_doSet_96 : decode cX6_doSet 96 = .ok (.bipush (-4), 2) := by decide +kernel
theorem dX6_doSet_98 : decode cX6_doSet 98 = .ok (.ireturn, 1) := by decide +kernel
theorem dX6_doSet_99 : decode cX6_doSet 99 = .ok (.aload_n 0, 1) := by decide +kernel
theorem dX6_doSet_100 : decode cX6_doSet 100 = .ok (.invokevirtual 96, 3) := by decide +kernel
theorem dX6_doSet_103 : decode cX6_doSet 103 = .ok (.ifCond .ne 80, 3) := by decide +kernel
theorem dX6_doSet_106 : decode cX6_doSet 106 = .ok (.iconst 0, 1) := by decide +kernel
theorem dX6_doSet_107 : decode cX6_doSet 107 = .ok (.istore 7, 2) := by decide +kernel
theorem dX6_doSet_109 : decode cX6_doSet 109 = .ok (.iload 7, 2) := by decide +kernel
theorem dX6_doSet_111 : decode cX6_doSet 111 = .ok (.aload_n 0, 1) := by decide +kernel
theorem dX6_doSet_112 : decode cX6_doSet 112 = .ok (.getfield 7, 3) := by decide +kernel
theorem dX6_doSet_115 : decode cX6_doSet 115 = .ok (.bipush 51, 2) := by decide +kernel
theorem dX6_doSet_117 : decode cX6_doSet 117 = .ok (.iaload, 1) := by decide +kernel
theorem dX6_doSet_118 : decode cX6_doSet 118 = .ok (.if_icmp .ge 48, 3) := by decide +kernel
theorem dX6_doSet_121 : decode cX6_doSet 121 = .ok (.aload_n 0, 1) := by decide +kernel
theorem dX6_doSet_122 : decode cX6_doSet 122 = .ok (.getfield 7, 3) := by decide +kernel
theorem dX6_doSet_125 : decode cX6_doSet 125 = .ok (.sipush 269, 3) := by decide +kernel
theorem dX6_doSet_128 : decode cX6_doSet 128 = .ok (.iload 7, 2) := by decide +kernel
theorem dX6_doSet_130 : decode cX6_doSet 130 = .ok (.iadd, 1) := by decide +kernel
theorem dX6_doSet_131 : decode cX6_doSet 131 = .ok (.aload_n 0, 1) := by decide +kernel
theorem dX6_doSet_132 : decode cX6_doSet 132 = .ok (.iload 7, 2) := by decide +kernel
theorem dX6_doSet_134 : decode cX6_doSet 134 = .ok (.iload 5, 2) := by decide +kernel
theorem dX6_doSet_136 : decode cX6_doSet 136 = .ok (.iload 6, 2) := by decide +kernel
theorem dX6_doSet_138 : decode cX6_doSet 138 = .ok (.invokevirtual 67, 3) := by decide +kernel
theorem dX6_doSet_141 : decode cX6_doSet 141 = .ok (.ifCond .eq 7, 3) := by decide +kernel
theorem dX6_doSet_144 : decode cX6_doSet 144 = .ok (.iconst 3, 1) := by decide +kernel
theorem dX6_doSet_145 : decode cX6_doSet 145 = .ok (.goto 14, 3) := by decide +kernel
theorem dX6_doSet_148 : decode cX6_doSet 148 = .ok (.aload_n 0, 1) := by decide +kernel
theorem dX6_doSet_149 : decode cX6_doSet 149 = .ok (.getfield 7, 3) := by decide +kernel
theorem dX6_doSet_152 : decode cX6_doSet 152 = .ok (.sipush 269, 3) := by decide +kernel
theorem dX6_doSet_155 : decode cX6_doSet 155 = .ok (.iload 7, 2) := by decide +kernel
theorem dX6_doSet_157 : decode cX6_doSet 157 = .ok (.iadd, 1) := by decide +kernel
theorem dX6_doSet_158 : decode cX6_doSet 158 = .ok (.iaload, 1) := by decide +kernel
theorem dX6_doSet_159 : decode cX6_doSet 159 = .ok (.iastore, 1) := by decide +kernel
theorem dX6_doSet_160 : decode cX6_doSet 160 = .ok (.iinc 7 1, 3) := by decide +kernel
theorem dX6_doSet_163 : decode cX6_doSet 163 = .ok (.goto (-54), 3) := by decide +kernel
theorem dX6_doSet_166 : decode cX6_doSet 166 = .ok (.aload_n 0, 1) := by decide +kernel
theorem dX6_doSet_167 : decode cX6_doSet 167 = .ok (.getfield 7, 3) := by decide +kernel
theorem dX6_doSet_170 : decode cX6_doSet 170 = .ok (.aload_n 0, 1) := by decide +kernel
theorem dX6_doSet_171 : decode cX6_doSet 171 = .ok (.iload_n 2, 1) := by decide +kernel
theorem dX6_doSet_172 : decode cX6_doSet 172 = .ok (.iload_n 3, 1) := by decide +kernel
theorem dX6_doSet_173 : decode cX6_doSet 173 = .ok (.invokevirtual 48, 3) := by decide +kernel
theorem dX6_doSet_176 : decode cX6_doSet 176 = .ok (.iload 4, 2) := by decide +kernel
theorem dX6_doSet_178 : decode cX6_doSet 178 = .ok (.iastore, 1) := by decide +kernel
theorem dX6_doSet_179 : decode cX6_doSet 179 = .ok (.sipush 1000, 3) := by decide +kernel
theorem dX6_doSet_182 : decode cX6_doSet 182 = .ok (.ireturn, 1) := by decide +kernel
theorem dX6_doSet_183 : decode cX6_doSet 183 = .ok (.aload_n 0, 1) := by decide +kernel
theorem dX6_doSet_184 : decode cX6_doSet 184 = .ok (.aload_n 0, 1) := by decide +kernel
theorem dX6_doSet_185 : decode cX6_doSet 185 = .ok (.getfield 7, 3) := by decide +kernel
theorem dX6_doSet_188 : decode cX6_doSet 188 = .ok (.bipush 51, 2) := by decide +kernel
theorem dX6_doSet_190 : decode cX6_doSet 190 = .ok (.iaload, 1) := by decide +kernel
theorem dX6_doSet_191 : decode cX6_doSet 191 = .ok (.iload 5, 2) := by decide +kernel
theorem dX6_doSet_193 : decode cX6_doSet 193 = .ok (.iload 6, 2) := by decide +kernel
theorem dX6_doSet_195 : decode cX6_doSet 195 = .ok (.invokevirtual 73, 3) := by decide +kernel
theorem dX6_doSet_198 : decode cX6_doSet 198 = .ok (.istore 7, 2) := by decide +kernel
theorem dX6_doSet_200 : decode cX6_doSet 200 = .ok (.iload 7, 2) := by decide +kernel
theorem dX6_doSet_202 : decode cX6_doSet 202 = .ok (.ifCond .lt 63, 3) := by decide +kernel
theorem dX6_doSet_205 : decode cX6_doSet 205 = .ok (.aload_n 0, 1) := by decide +kernel
theorem dX6_doSet_206 : decode cX6_doSet 206 = .ok (.iload 7, 2) := by decide +kernel
theorem dX6_doSet_208 : decode cX6_doSet 208 = .ok (.sipush 209, 3) := by decide +kernel
theorem dX6_doSet_211 : decode cX6_doSet 211 = .ok (.invokevirtual 51, 3) := by decide +kernel
theorem dX6_doSet_214 : decode cX6_doSet 214 = .ok (.iload_n 1, 1) := by decide +kernel
theorem dX6_doSet_215 : decode cX6_doSet 215 = .ok (.if_icmp .ne 50, 3) := by decide +kernel
theorem dX6_doSet_218 : decode cX6_doSet 218 = .ok (.aload_n 0, 1) := by decide +kernel
theorem dX6_doSet_219 : decode cX6_doSet 219 = .ok (.getfield 7, 3) := by decide +kernel
theorem dX6_doSet_222 : decode cX6_doSet 222 = .ok (.sipush 269, 3) := by decide +kernel
theorem dX6_doSet_225 : decode cX6_doSet 225 = .ok (.iload 7, 2) := by decide +kernel
theorem dX6_doSet_227 : decode cX6_doSet 227 = .ok (.iadd, 1) := by decide +kernel
theorem dX6_doSet_228 : decode cX6_doSet 228 = .ok (.aload_n 0, 1) := by decide +kernel
theorem dX6_doSet_229 : decode cX6_doSet 229 = .ok (.iload 7, 2) := by decide +kernel
theorem dX6_doSet_231 : decode cX6_doSet 231 = .ok (.iload 5, 2) := by decide +kernel
theorem dX6_doSet_233 : decode cX6_doSet 233 = .ok (.iload 6, 2) := by decide +kernel
theorem dX6_doSet_235 : decode cX6_doSet 235 = .ok (.invokevirtual 128, 3) := by decide +kernel
theorem dX6_doSet_238 : decode cX6_doSet 238 = .ok (.iload 4, 2) := by decide +kernel
theorem dX6_doSet_240 : decode cX6_doSet 240 = .ok (.if_icmp .ne 7, 3) := by decide +kernel
theorem dX6_doSet_243 : decode cX6_doSet 243 = .ok (.iconst 3, 1) := by decide +kernel
theorem dX6_doSet_244 : decode cX6_doSet 244 = .ok (.goto 4, 3) := by decide +kernel
theorem dX6_doSet_247 : decode cX6_doSet 247 = .ok (.iconst 0, 1) := by decide +kernel
theorem dX6_doSet_248 : decode cX6_doSet 248 = .ok (.iastore, 1) := by decide +kernel
theorem dX6_doSet_249 : decode cX6_doSet 249 = .ok (.aload_n 0, 1) := by decide +kernel
theorem dX6_doSet_250 : decode cX6_doSet 250 = .ok (.getfield 7, 3) := by decide +kernel
theorem dX6_doSet_253 : decode cX6_doSet 253 = .ok (.sipush 449, 3) := by decide +kernel
theorem dX6_doSet_256 : decode cX6_doSet 256 = .ok (.iload 7, 2) := by decide +kernel
theorem dX6_doSet_258 : decode cX6_doSet 258 = .ok (.iadd, 1) := by decide +kernel
theorem dX6_doSet_259 : decode cX6_doSet 259 = .ok (.iload 4, 2) := by decide +kernel
theorem dX6_doSet_261 : decode cX6_doSet 261 = .ok (.iastore, 1) := by decide +kernel
theorem dX6_doSet_262 : decode cX6_doSet 262 = .ok (.iload 7, 2) := by decide +kernel
theorem dX6_doSet_264 : decode cX6_doSet 264 = .ok (.ireturn, 1) := by decide +kernel
theorem dX6_doSet_265 : decode cX6_doSet 265 = .ok (.aload_n 0, 1) := by decide +kernel
theorem dX6_doSet_266 : decode cX6_doSet 266 = .ok (.getfield 7, 3) := by decide +kernel
theorem dX6_doSet_269 : decode cX6_doSet 269 = .ok (.bipush 51, 2) := by decide +kernel
theorem dX6_doSet_271 : decode cX6_doSet 271 = .ok (.iaload, 1) := by decide +kernel
theorem dX6_doSet_272 : decode cX6_doSet 272 = .ok (.bipush 60, 2) := by decide +kernel
theorem dX6_doSet_274 : decode cX6_doSet 274 = .ok (.if_icmp .ne 8, 3) := by decide +kernel
theorem dX6_doSet_277 : decode cX6_doSet 277 = .ok (.bipush (-3), 2) := by decide +kernel
theorem dX6_doSet_279 : decode cX6_doSet 279 = .ok (.goto 15, 3) := by decide +kernel
theorem dX6_doSet_282 : decode cX6_doSet 282 = .ok (.aload_n 0, 1) := by decide +kernel
theorem dX6_doSet_283 : decode cX6_doSet 283 = .ok (.iconst 4, 1) := by decide +kernel
theorem dX6_doSet_284 : decode cX6_doSet 284 = .ok (.iload_n 1, 1) := by decide +kernel
theorem dX6_doSet_285 : decode cX6_doSet 285 = .ok (.iload 5, 2) := by decide +kernel
theorem dX6_doSet_287 : decode cX6_doSet 287 = .ok (.iload 6, 2) := by decide +kernel
theorem dX6_doSet_289 : decode cX6_doSet 289 = .ok (.iload 4, 2) := by decide +kernel
theorem dX6_doSet_291 : decode cX6_doSet 291 = .ok (.invokevirtual 103, 3) := by decide +kernel
theorem dX6_doSet_294 : decode cX6_doSet 294 = .ok (.ireturn, 1) := by decide +kernel
theorem dX6_set_0 : decode cX6_set 0 = .ok (.aload_n 0, 1) := by decide +kernel
theorem dX6_set_1 : decode cX6_set 1 = .ok (.invokevirtual 83, 3) := by decide +kernel
theorem dX6_set_4 : decode cX6_set 4 = .ok (.aload_n 0, 1) := by decide +kernel
theorem dX6_set_5 : decode cX6_set 5 = .ok (.aload_n 0, 1) := by decide +kernel
theorem dX6_set_6 : decode cX6_set 6 = .ok (.iload_n 1, 1) := by decide +kernel
theorem dX6_set_7 : decode cX6_set 7 = .ok (.iload_n 2, 1) := by decide +kernel
theorem dX6_set_8 : decode cX6_set 8 = .ok (.iload_n 3, 1) := by decide +kernel
theorem dX6_set_9 : decode cX6_set 9 = .ok (.iload 4, 2) := by decide +kernel
theorem dX6_set_11 : decode cX6_set 11 = .ok (.invokevirtual 131, 3) := by decide +kernel
theorem dX6_set_14 : decode cX6_set 14 = .ok (.invokevirtual 90, 3) := by decide +kernel
theorem dX6_set_17 : decode cX6_set 17 = .ok (.ireturn, 1) := by decide +kernel
theorem dX6_acceptAlone_0 : decode cX6_acceptAlone 0 = .ok (.aload_n 0, 1) := by decide +kernel
theorem dX6_acceptAlone_1 : decode cX6_acceptAlone 1 = .ok (.iload_n 1, 1) := by decide +kernel
theorem dX6_acceptAlone_2 : decode cX6_acceptAlone 2 = .ok (.sipush 149, 3) := by decide +kernel
theorem dX6_acceptAlone_5 : decode cX6_acceptAlone 5 = .ok (.invokevirtual 51, 3) := by decide +kernel
theorem dX6_acceptAlone_8 : decode cX6_acceptAlone 8 = .ok (.istore_n 2, 1) := by decide +kernel
theorem dX6_acceptAlone_9 : decode cX6_acceptAlone 9 = .ok (.aload_n 0, 1) := by decide +kernel
theorem dX6_acceptAlone_10 : decode cX6_acceptAlone 10 = .ok (.getfield 7, 3) := by decide +kernel
theorem dX6_acceptAlone_13 : decode cX6_acceptAlone 13 = .ok (.sipush 269, 3) := by decide +kernel
theorem dX6_acceptAlone_16 : decode cX6_acceptAlone 16 = .ok (.iload_n 1, 1) := by decide +kernel
theorem dX6_acceptAlone_17 : decode cX6_acceptAlone 17 = .ok (.iadd, 1) := by decide +kernel
theorem dX6_acceptAlone_18 : decode cX6_acceptAlone 18 = .ok (.iconst 1, 1) := by decide +kernel
theorem dX6_acceptAlone_19 : decode cX6_acceptAlone 19 = .ok (.iastore, 1) := by decide +kernel
theorem dX6_acceptAlone_20 : decode cX6_acceptAlone 20 = .ok (.iload_n 2, 1) := by decide +kernel
theorem dX6_acceptAlone_21 : decode cX6_acceptAlone 21 = .ok (.iconst 4, 1) := by decide +kernel
theorem dX6_acceptAlone_22 : decode cX6_acceptAlone 22 = .ok (.if_icmp .ne 49, 3) := by decide +kernel
theorem dX6_acceptAlone_25 : decode cX6_acceptAlone 25 = .ok (.aload_n 0, 1) := by decide +kernel
theorem dX6_acceptAlone_26 : decode cX6_acceptAlone 26 = .ok (.getfield 7, 3) := by decide +kernel
theorem dX6_acceptAlone_29 : decode cX6_acceptAlone 29 = .ok (.aload_n 0, 1) := by decide +kernel
theorem dX6_acceptAlone_30 : decode cX6_acceptAlone 30 = .ok (.aload_n 0, 1) := by decide +kernel
theorem dX6_acceptAlone_31 : decode cX6_acceptAlone 31 = .ok (.iconst 0, 1) := by decide +kernel
theorem dX6_acceptAlone_32 : decode cX6_acceptAlone 32 = .ok (.aload_n 0, 1) := by decide +kernel
theorem dX6_acceptAlone_33 : decode cX6_acceptAlone 33 = .ok (.iload_n 1, 1) := by decide +kernel
theorem dX6_acceptAlone_34 : decode cX6_acceptAlone 34 = .ok (.sipush 329, 3) := by decide +kernel
theorem dX6_acceptAlone_37 : decode cX6_acceptAlone 37 = .ok (.invokevirtual 51, 3) := by decide +kernel
theorem dX6_acceptAlone_40 : decode cX6_acceptAlone 40 = .ok (.invokevirtual 70, 3) := by decide +kernel
theorem dX6_acceptAlone_43 : decode cX6_acceptAlone 43 = .ok (.aload_n 0, 1) := by decide +kernel
theorem dX6_acceptAlone_44 : decode cX6_acceptAlone 44 = .ok (.iconst 1, 1) := by decide +kernel
theorem dX6_acceptAlone_45 : decode cX6_acceptAlone 45 = .ok (.aload_n 0, 1) := by decide +kernel
theorem dX6_acceptAlone_46 : decode cX6_acceptAlone 46 = .ok (.iload_n 1, 1) := by decide +kernel
theorem dX6_acceptAlone_47 : decode cX6_acceptAlone 47 = .ok (.sipush 389, 3) := by decide +kernel
theorem dX6_acceptAlone_50 : decode cX6_acceptAlone 50 = .ok (.invokevirtual 51, 3) := by decide +kernel
theorem dX6_acceptAlone_53 : decode cX6_acceptAlone 53 = .ok (.invokevirtual 70, 3) := by decide +kernel
theorem dX6_acceptAlone_56 : decode cX6_acceptAlone 56 = .ok (.invokevirtual 48, 3) := by decide +kernel
theorem dX6_acceptAlone_59 : decode cX6_acceptAlone 59 = .ok (.aload_n 0, 1) := by decide +kernel
theorem dX6_acceptAlone_60 : decode cX6_acceptAlone 60 = .ok (.iload_n 1, 1) := by decide +kernel
theorem dX6_acceptAlone_61 : decode cX6_acceptAlone 61 = .ok (.sipush 449, 3) := by decide +kernel
theorem dX6_acceptAlone_64 : decode cX6_acceptAlone 64 = .ok (.invokevirtual 51, 3) := by decide +kernel
theorem dX6_acceptAlone_67 : decode cX6_acceptAlone 67 = .ok (.iastore, 1) := by decide +kernel
theorem dX6_acceptAlone_68 : decode cX6_acceptAlone 68 = .ok (.goto 54, 3) := by decide +kernel
theorem dX6_acceptAlone_71 : decode cX6_acceptAlone 71 = .ok (.iload_n 2, 1) := by decide +kernel
theorem dX6_acceptAlone_72 : decode cX6_acceptAlone 72 = .ok (.iconst 2, 1) := by decide +kernel
theorem dX6_acceptAlone_73 : decode cX6_acceptAlone 73 = .ok (.irem, 1) := by decide +kernel
theorem dX6_acceptAlone_74 : decode cX6_acceptAlone 74 = .ok (.iconst 1, 1) := by decide +kernel
theorem dX6_acceptAlone_75 : decode cX6_acceptAlone 75 = .ok (.if_icmp .ne 47, 3) := by decide +kernel
theorem dX6_acceptAlone_78 : decode cX6_acceptAlone 78 = .ok (.aload_n 0, 1) := by decide +kernel
theorem dX6_acceptAlone_79 : decode cX6_acceptAlone 79 = .ok (.iload_n 1, 1) := by decide +kernel
theorem dX6_acceptAlone_80 : decode cX6_acceptAlone 80 = .ok (.iload_n 2, 1) := by decide +kernel
theorem dX6_acceptAlone_81 : decode cX6_acceptAlone 81 = .ok (.iconst 1, 1) := by decide +kernel
theorem dX6_acceptAlone_82 : decode cX6_acceptAlone 82 = .ok (.if_icmp .ne 9, 3) := by decide +kernel
theorem dX6_acceptAlone_85 : decode cX6_acceptAlone 85 = .ok (.sipush 329, 3) := by decide +kernel
theorem dX6_acceptAlone_88 : decode cX6_acceptAlone 88 = .ok (.goto 6, 3) := by decide +kernel
theorem dX6_acceptAlone_91 : decode cX6_acceptAlone 91 = .ok (.sipush 389, 3) := by decide +kernel
theorem dX6_acceptAlone_94 : decode cX6_acceptAlone 94 = .ok (.invokevirtual 51, 3) := by decide +kernel
theorem dX6_acceptAlone_97 : decode cX6_acceptAlone 97 = .ok (.istore_n 3, 1) := by decide +kernel
theorem dX6_acceptAlone_98 : decode cX6_acceptAlone 98 = .ok (.aload_n 0, 1) := by decide +kernel
theorem dX6_acceptAlone_99 : decode cX6_acceptAlone 99 = .ok (.iload_n 2, 1) := by decide +kernel
theorem dX6_acceptAlone_100 : decode cX6_acceptAlone 100 = .ok (.iconst 2, 1) := by decide +kernel
theorem dX6_acceptAlone_101 : decode cX6_acceptAlone 101 = .ok (.idiv, 1) := by decide +kernel
theorem dX6_acceptAlone_102 : decode cX6_acceptAlone 102 = .ok (.iload_n 3, 1) := by decide +kernel
theorem dX6_acceptAlone_103 : decode cX6_acceptAlone 103 = .ok (.iconst 1, 1) := by decide +kernel
theorem dX6_acceptAlone_104 : decode cX6_acceptAlone 104 = .ok (.invokevirtual 114, 3) := by decide +kernel
theorem dX6_acceptAlone_107 : decode cX6_acceptAlone 107 = .ok (.aload_n 0, 1) := by decide +kernel
theorem dX6_acceptAlone_108 : decode cX6_acceptAlone 108 = .ok (.iload_n 2, 1) := by decide +kernel
theorem dX6_acceptAlone_109 : decode cX6_acceptAlone 109 = .ok (.iconst 2, 1) := by decide +kernel
theorem dX6_acceptAlone_110 : decode cX6_acceptAlone 110 = .ok (.idiv, 1) := by decide +kernel
theorem dX6_acceptAlone_111 : decode cX6_acceptAlone 111 = .ok (.aload_n 0, 1) := by decide +kernel
theorem dX6_acceptAlone_112 : decode cX6_acceptAlone 112 = .ok (.iload_n 2, 1) := by decide +kernel
theorem dX6_acceptAlone_113 : decode cX6_acceptAlone 113 = .ok (.iconst 2, 1) := by decide +kernel
theorem dX6_acceptAlone_114 : decode cX6_acceptAlone 114 = .ok (.idiv, 1) := by decide +kernel
theorem dX6_acceptAlone_115 : decode cX6_acceptAlone 115 = .ok (.iload_n 3, 1) := by decide +kernel
theorem dX6_acceptAlone_116 : decode cX6_acceptAlone 116 = .ok (.invokevirtual 70, 3) := by decide +kernel
theorem dX6_acceptAlone_119 : decode cX6_acceptAlone 119 = .ok (.invokevirtual 118, 3) := by decide +kernel
theorem dX6_acceptAlone_122 : decode cX6_acceptAlone 122 = .ok (.return_, 1) := by decide +kernel
theorem dX6_acceptWith_0 : decode cX6_acceptWith 0 = .ok (.iconst 1, 1) := by decide +kernel
theorem dX6_acceptWith_1 : decode cX6_acceptWith 1 = .ok (.istore_n 2, 1) := by decide +kernel
theorem dX6_acceptWith_2 : decode cX6_acceptWith 2 = .ok (.iconst 0, 1) := by decide +kernel
theorem dX6_acceptWith_3 : decode cX6_acceptWith 3 = .ok (.istore_n 3, 1) := by decide +kernel
theorem dX6_acceptWith_4 : decode cX6_acceptWith 4 = .ok (.iload_n 3, 1) := by decide +kernel
theorem dX6_acceptWith_5 : decode cX6_acceptWith 5 = .ok (.aload_n 0, 1) := by decide +kernel
theorem dX6_acceptWith_6 : decode cX6_acceptWith 6 = .ok (.getfield 7, 3) := by decide +kernel
theorem dX6_acceptWith_9 : decode cX6_acceptWith 9 = .ok (.bipush 51, 2) := by decide +kernel
theorem dX6_acceptWith_11 : decode cX6_acceptWith 11 = .ok (.iaload, 1) := by decide +kernel
theorem dX6_acceptWith_12 : decode cX6_acceptWith 12 = .ok (.if_icmp .ge 26, 3) := by decide +kernel
theorem dX6_acceptWith_15 : decode cX6_acceptWith 15 = .ok (.aload_n 0, 1) := by decide +kernel
theorem dX6_acceptWith_16 : decode cX6_acceptWith 16 = .ok (.iload_n 1, 1) := by decide +kernel
theorem dX6_acceptWith_17 : decode cX6_acceptWith 17 = .ok (.iload_n 3, 1) := by decide +kernel
theorem dX6_acceptWith_18 : decode cX6_acceptWith 18 = .ok (.invokevirtual 135, 3) := by decide +kernel
theorem dX6_acceptWith_21 : decode cX6_acceptWith 21 = .ok (.ifCond .eq 11, 3) := by decide +kernel
theorem dX6_acceptWith_24 : decode cX6_acceptWith 24 = .ok (.aload_n 0, 1) := by decide +kernel
theorem dX6_acceptWith_25 : decode cX6_acceptWith 25 = .ok (.iload_n 3, 1) := by decide +kernel
theorem dX6_acceptWith_26 : decode cX6_acceptWith 26 = .ok (.invokevirtual 138, 3) := by decide +kernel
theorem dX6_acceptWith_29 : decode cX6_acceptWith 29 = .ok (.iinc 2 1, 3) := by decide +kernel
theorem dX6_acceptWith_32 : decode cX6_acceptWith 32 = .ok (.iinc 3 1, 3) := by decide +kernel
theorem dX6_acceptWith_35 : decode cX6_acceptWith 35 = .ok (.goto (-31), 3) := by decide +kernel
theorem dX6_acceptWith_38 : decode cX6_acceptWith 38 = .ok (.aload_n 0, 1) := by decide +kernel
theorem dX6_acceptWith_39 : decode cX6_acceptWith 39 = .ok (.iload_n 1, 1) := by decide +kernel
theorem dX6_acceptWith_40 : decode cX6_acceptWith 40 = .ok (.invokevirtual 138, 3) := by decide +kernel
theorem dX6_acceptWith_43 : decode cX6_acceptWith 43 = .ok (.iload_n 2, 1) := by decide +kernel
theorem dX6_acceptWith_44 : decode cX6_acceptWith 44 = .ok (.ireturn, 1) := by decide +kernel
theorem dX6_rejectWith_0 : decode cX6_rejectWith 0 = .ok (.iconst 1, 1) := by decide +kernel
theorem dX6_rejectWith_1 : decode cX6_rejectWith 1 = .ok (.istore_n 2, 1) := by decide +kernel
theorem dX6_rejectWith_2 : decode cX6_rejectWith 2 = .ok (.aload_n 0, 1) := by decide +kernel
theorem dX6_rejectWith_3 : decode cX6_rejectWith 3 = .ok (.getfield 7, 3) := by decide +kernel
theorem dX6_rejectWith_6 : decode cX6_rejectWith 6 = .ok (.bipush 51, 2) := by decide +kernel
theorem dX6_rejectWith_8 : decode cX6_rejectWith 8 = .ok (.iaload, 1) := by decide +kernel
theorem dX6_rejectWith_9 : decode cX6_rejectWith 9 = .ok (.iconst 1, 1) := by decide +kernel
theorem dX6_rejectWith_10 : decode cX6_rejectWith 10 = .ok (.isub, 1) := by decide +kernel
theorem dX6_rejectWith_11 : decode cX6_rejectWith 11 = .ok (.istore_n 3, 1) := by decide +kernel
theorem dX6_rejectWith_12 : decode cX6_rejectWith 12 = .ok (.iload_n 3, 1) := by decide +kernel
theorem dX6_rejectWith_13 : decode cX6_rejectWith 13 = .ok (.ifCond .lt 32, 3) := by decide +kernel
theorem dX6_rejectWith_16 : decode cX6_rejectWith 16 = .ok (.aload_n 0, 1) := by decide +kernel
theorem dX6_rejectWith_17 : decode cX6_rejectWith 17 = .ok (.iload_n 3, 1) := by decide +kernel
theorem dX6_rejectWith_18 : decode cX6_rejectWith 18 = .ok (.iload_n 1, 1) := by decide +kernel
theorem dX6_rejectWith_19 : decode cX6_rejectWith 19 = .ok (.invokevirtual 135, 3) := by decide +kernel
theorem dX6_rejectWith_22 : decode cX6_rejectWith 22 = .ok (.ifCond .eq 17, 3) := by decide +kernel
theorem dX6_rejectWith_25 : decode cX6_rejectWith 25 = .ok (.aload_n 0, 1) := by decide +kernel
theorem dX6_rejectWith_26 : decode cX6_rejectWith 26 = .ok (.getfield 7, 3) := by decide +kernel
theorem dX6_rejectWith_29 : decode cX6_rejectWith 29 = .ok (.sipush 269, 3) := by decide +kernel
theorem dX6_rejectWith_32 : decode cX6_rejectWith 32 = .ok (.iload_n 3, 1) := by decide +kernel
theorem dX6_rejectWith_33 : decode cX6_rejectWith 33 = .ok (.iadd, 1) := by decide +kernel
theorem dX6_rejectWith_34 : decode cX6_rejectWith 34 = .ok (.iconst 2, 1) := by decide +kernel
theorem dX6_rejectWith_35 : decode cX6_rejectWith 35 = .ok (.iastore, 1) := by decide +kernel
theorem dX6_rejectWith_36 : decode cX6_rejectWith 36 = .ok (.iinc 2 1, 3) := by decide +kernel
theorem dX6_rejectWith_39 : decode cX6_rejectWith 39 = .ok (.iinc 3 (-1), 3) := by decide +kernel
theorem dX6_rejectWith_42 : decode cX6_rejectWith 42 = .ok (.goto (-30), 3) := by decide +kernel
theorem dX6_rejectWith_45 : decode cX6_rejectWith 45 = .ok (.aload_n 0, 1) := by decide +kernel
theorem dX6_rejectWith_46 : decode cX6_rejectWith 46 = .ok (.getfield 7, 3) := by decide +kernel
theorem dX6_rejectWith_49 : decode cX6_rejectWith 49 = .ok (.sipush 269, 3) := by decide +kernel
theorem dX6_rejectWith_52 : decode cX6_rejectWith 52 = .ok (.iload_n 1, 1) := by decide +kernel
theorem dX6_rejectWith_53 : decode cX6_rejectWith 53 = .ok (.iadd, 1) := by decide +kernel
theorem dX6_rejectWith_54 : decode cX6_rejectWith 54 = .ok (.iconst 2, 1) := by decide +kernel
theorem dX6_rejectWith_55 : decode cX6_rejectWith 55 = .ok (.iastore, 1) := by decide +kernel
theorem dX6_rejectWith_56 : decode cX6_rejectWith 56 = .ok (.aload_n 0, 1) := by decide +kernel
theorem dX6_rejectWith_57 : decode cX6_rejectWith 57 = .ok (.iload_n 1, 1) := by decide +kernel
theorem dX6_rejectWith_58 : decode cX6_rejectWith 58 = .ok (.sipush 149, 3) := by decide +kernel
theorem dX6_rejectWith_61 : decode cX6_rejectWith 61 = .ok (.invokevirtual 51, 3) := by decide +kernel
theorem dX6_rejectWith_64 : decode cX6_rejectWith 64 = .ok (.istore_n 3, 1) := by decide +kernel
theorem dX6_rejectWith_65 : decode cX6_rejectWith 65 = .ok (.iload_n 3, 1) := by decide +kernel
theorem dX6_rejectWith_66 : decode cX6_rejectWith 66 = .ok (.ifCond .eq 8, 3) := by decide +kernel
theorem dX6_rejectWith_69 : decode cX6_rejectWith 69 = .ok (.iload_n 3, 1) := by decide +kernel
theorem dX6_rejectWith_70 : decode cX6_rejectWith 70 = .ok (.iconst 2, 1) := by decide +kernel
theorem dX6_rejectWith_71 : decode cX6_rejectWith 71 = .ok (.if_icmp .ne 35, 3) := by decide +kernel
theorem dX6_rejectWith_74 : decode cX6_rejectWith 74 = .ok (.aload_n 0, 1) := by decide +kernel
theorem dX6_rejectWith_75 : decode cX6_rejectWith 75 = .ok (.iload_n 3, 1) := by decide +kernel
theorem dX6_rejectWith_76 : decode cX6_rejectWith 76 = .ok (.iconst 2, 1) := by decide +kernel
theorem dX6_rejectWith_77 : decode cX6_rejectWith 77 = .ok (.idiv, 1) := by decide +kernel
theorem dX6_rejectWith_78 : decode cX6_rejectWith 78 = .ok (.aload_n 0, 1) := by decide +kernel
theorem dX6_rejectWith_79 : decode cX6_rejectWith 79 = .ok (.iload_n 3, 1) := by decide +kernel
theorem dX6_rejectWith_80 : decode cX6_rejectWith 80 = .ok (.iconst 2, 1) := by decide +kernel
theorem dX6_rejectWith_81 : decode cX6_rejectWith 81 = .ok (.idiv, 1) := by decide +kernel
theorem dX6_rejectWith_82 : decode cX6_rejectWith 82 = .ok (.aload_n 0, 1) := by decide +kernel
theorem dX6_rejectWith_83 : decode cX6_rejectWith 83 = .ok (.iload_n 1, 1) := by decide +kernel
theorem dX6_rejectWith_84 : decode cX6_rejectWith 84 = .ok (.iload_n 3, 1) := by decide +kernel
theorem dX6_rejectWith_85 : decode cX6_rejectWith 85 = .ok (.ifCond .ne 9, 3) := by decide +kernel
theorem dX6_rejectWith_88 : decode cX6_rejectWith 88 = .ok (.sipush 329, 3) := by decide +kernel
theorem dX6_rejectWith_91 : decode cX6_rejectWith 91 = .ok (.goto 6, 3) := by decide +kernel
theorem dX6_rejectWith_94 : decode cX6_rejectWith 94 = .ok (.sipush 389, 3) := by decide +kernel
theorem dX6_rejectWith_97 : decode cX6_rejectWith 97 = .ok (.invokevirtual 51, 3) := by decide +kernel
theorem dX6_rejectWith_100 : decode cX6_rejectWith 100 = .ok (.invokevirtual 70, 3) := by decide +kernel
theorem dX6_rejectWith_103 : decode cX6_rejectWith 103 = .ok (.invokevirtual 118, 3) := by decide +kernel
theorem dX6_rejectWith_106 : decode cX6_rejectWith 106 = .ok (.iload_n 2, 1) := by decide +kernel
theorem dX6_rejectWith_107 : decode cX6_rejectWith 107 = .ok (.ireturn, 1) := by decide +kernel
theorem dX6_settled_0 : decode cX6_settled 0 = .ok (.aload_n 0, 1) := by decide +kernel
theorem dX6_settled_1 : decode cX6_settled 1 = .ok (.iload_n 1, 1) := by decide +kernel
theorem dX6_settled_2 : decode cX6_settled 2 = .ok (.invokevirtual 142, 3) := by decide +kernel
theorem dX6_settled_5 : decode cX6_settled 5 = .ok (.ifCond .eq 5, 3) := by decide +kernel
theorem dX6_settled_8 : decode cX6_settled 8 = .ok (.iconst (-1), 1) := by decide +kernel
theorem dX6_settled_9 : decode cX6_settled 9 = .ok (.ireturn, 1) := by decide +kernel
theorem dX6_settled_10 : decode cX6_settled 10 = .ok (.aload_n 0, 1) := by decide +kernel
theorem dX6_settled_11 : decode cX6_settled 11 = .ok (.iload_n 1, 1) := by decide +kernel
theorem dX6_settled_12 : decode cX6_settled 12 = .ok (.invokevirtual 54, 3) := by decide +kernel
theorem dX6_settled_15 : decode cX6_settled 15 = .ok (.ifCond .ne 6, 3) := by decide +kernel
theorem dX6_settled_18 : decode cX6_settled 18 = .ok (.bipush (-4), 2) := by decide +kernel
theorem dX6_settled_20 : decode cX6_settled 20 = .ok (.ireturn, 1) := by decide +kernel
theorem dX6_settled_21 : decode cX6_settled 21 = .ok (.aload_n 0, 1) := by decide +kernel
theorem dX6_settled_22 : decode cX6_settled 22 = .ok (.invokevirtual 83, 3) := by decide +kernel
theorem dX6_settled_25 : decode cX6_settled 25 = .ok (.aload_n 0, 1) := by decide +kernel
theorem dX6_settled_26 : decode cX6_settled 26 = .ok (.iload_n 2, 1) := by decide +kernel
theorem dX6_settled_27 : decode cX6_settled 27 = .ok (.ifCond .eq 11, 3) := by decide +kernel
theorem dX6_settled_30 : decode cX6_settled 30 = .ok (.aload_n 0, 1) := by decide +kernel
theorem dX6_settled_31 : decode cX6_settled 31 = .ok (.iload_n 1, 1) := by decide +kernel
theorem dX6_settled_32 : decode cX6_settled 32 = .ok (.invokevirtual 145, 3) := by decide +kernel
theorem dX6_settled_35 : decode cX6_settled 35 = .ok (.goto 8, 3) := by decide +kernel
theorem dX6_settled_38 : decode cX6_settled 38 = .ok (.aload_n 0, 1) := by decide +kernel
theorem dX6_settled_39 : decode cX6_settled 39 = .ok (.iload_n 1, 1) := by decide +kernel
theorem dX6_settled_40 : decode cX6_settled 40 = .ok (.invokevirtual 148, 3) := by decide +kernel
theorem dX6_settled_43 : decode cX6_settled 43 = .ok (.invokevirtual 90, 3) := by decide +kernel
theorem dX6_settled_46 : decode cX6_settled 46 = .ok (.ireturn, 1) := by decide +kernel
theorem dX6_accept_0 : decode cX6_accept 0 = .ok (.aload_n 0, 1) := by decide +kernel
theorem dX6_accept_1 : decode cX6_accept 1 = .ok (.iload_n 1, 1) := by decide +kernel
theorem dX6_accept_2 : decode cX6_accept 2 = .ok (.iconst 1, 1) := by decide +kernel
theorem dX6_accept_3 : decode cX6_accept 3 = .ok (.invokevirtual 151, 3) := by decide +kernel
theorem dX6_accept_6 : decode cX6_accept 6 = .ok (.ireturn, 1) := by decide +kernel
theorem dX6_reject_0 : decode cX6_reject 0 = .ok (.aload_n 0, 1) := by decide +kernel
theorem dX6_reject_1 : decode cX6_reject 1 = .ok (.iload_n 1, 1) := by decide +kernel
theorem dX6_reject_2 : decode cX6_reject 2 = .ok (.iconst 0, 1) := by decide +kernel
theorem dX6_reject_3 : decode cX6_reject 3 = .ok (.invokevirtual 151, 3) := by decide +kernel
theorem dX6_reject_6 : decode cX6_reject 6 = .ok (.ireturn, 1) := by decide +kernel
theorem dX6_firstOf_0 : decode cX6_firstOf 0 = .ok (.iconst 0, 1) := by decide +kernel
theorem dX6_firstOf_1 : decode cX6_firstOf 1 = .ok (.istore_n 2, 1) := by decide +kernel
theorem dX6_firstOf_2 : decode cX6_firstOf 2 = .ok (.iload_n 2, 1) := by decide +kernel
theorem dX6_firstOf_3 : decode cX6_firstOf 3 = .ok (.aload_n 0, 1) := by decide +kernel
theorem dX6_firstOf_4 : decode cX6_firstOf 4 = .ok (.getfield 7, 3) := by decide +kernel
theorem dX6_firstOf_7 : decode cX6_firstOf 7 = .ok (.bipush 51, 2) := by decide +kernel
theorem dX6_firstOf_9 : decode cX6_firstOf 9 = .ok (.iaload, 1) := by decide +kernel
theorem dX6_firstOf_10 : decode cX6_firstOf 10 = .ok (.if_icmp .ge 35, 3) := by decide +kernel
theorem dX6_firstOf_13 : decode cX6_firstOf 13 = .ok (.aload_n 0, 1) := by decide +kernel
theorem dX6_firstOf_14 : decode cX6_firstOf 14 = .ok (.iload_n 2, 1) := by decide +kernel
theorem dX6_firstOf_15 : decode cX6_firstOf 15 = .ok (.invokevirtual 54, 3) := by decide +kernel
theorem dX6_firstOf_18 : decode cX6_firstOf 18 = .ok (.ifCond .eq 21, 3) := by decide +kernel
theorem dX6_firstOf_21 : decode cX6_firstOf 21 = .ok (.iload_n 1, 1) := by decide +kernel
theorem dX6_firstOf_22 : decode cX6_firstOf 22 = .ok (.ifCond .lt 15, 3) := by decide +kernel
theorem dX6_firstOf_25 : decode cX6_firstOf 25 = .ok (.aload_n 0, 1) := by decide +kernel
theorem dX6_firstOf_26 : decode cX6_firstOf 26 = .ok (.iload_n 2, 1) := by decide +kernel
theorem dX6_firstOf_27 : decode cX6_firstOf 27 = .ok (.sipush 209, 3) := by decide +kernel
theorem dX6_firstOf_30 : decode cX6_firstOf 30 = .ok (.invokevirtual 51, 3) := by decide +kernel
theorem dX6_firstOf_33 : decode cX6_firstOf 33 = .ok (.iload_n 1, 1) := by decide +kernel
theorem dX6_firstOf_34 : decode cX6_firstOf 34 = .ok (.if_icmp .ne 5, 3) := by decide +kernel
theorem dX6_firstOf_37 : decode cX6_firstOf 37 = .ok (.iload_n 2, 1) := by decide +kernel
theorem dX6_firstOf_38 : decode cX6_firstOf 38 = .ok (.ireturn, 1) := by decide +kernel
theorem dX6_firstOf_39 : decode cX6_firstOf 39 = .ok (.iinc 2 1, 3) := by decide +kernel
theorem dX6_firstOf_42 : decode cX6_firstOf 42 = .ok (.goto (-40), 3) := by decide +kernel
theorem dX6_firstOf_45 : decode cX6_firstOf 45 = .ok (.bipush (-5), 2) := by decide +kernel
theorem dX6_firstOf_47 : decode cX6_firstOf 47 = .ok (.ireturn, 1) := by decide +kernel
theorem dX6_settle_0 : decode cX6_settle 0 = .ok (.iload_n 1, 1) := by decide +kernel
theorem dX6_settle_1 : decode cX6_settle 1 = .ok (.iconst (-1), 1) := by decide +kernel
theorem dX6_settle_2 : decode cX6_settle 2 = .ok (.if_icmp .eq 12, 3) := by decide +kernel
theorem dX6_settle_5 : decode cX6_settle 5 = .ok (.iload_n 1, 1) := by decide +kernel
theorem dX6_settle_6 : decode cX6_settle 6 = .ok (.invokestatic 93, 3) := by decide +kernel
theorem dX6_settle_9 : decode cX6_settle 9 = .ok (.ifCond .eq 5, 3) := by decide +kernel
theorem dX6_settle_12 : decode cX6_settle 12 = .ok (.iconst (-1), 1) := by decide +kernel
theorem dX6_settle_13 : decode cX6_settle 13 = .ok (.ireturn, 1) := by decide +kernel
theorem dX6_settle_14 : decode cX6_settle 14 = .ok (.aload_n 0, 1) := by decide +kernel
theorem dX6_settle_15 : decode cX6_settle 15 = .ok (.iload_n 1, 1) := by decide +kernel
theorem dX6_settle_16 : decode cX6_settle 16 = .ok (.invokevirtual 155, 3) := by decide +kernel
theorem dX6_settle_19 : decode cX6_settle 19 = .ok (.ifCond .ge 6, 3) := by decide +kernel
theorem dX6_settle_22 : decode cX6_settle 22 = .ok (.bipush (-4), 2) := by decide +kernel
theorem dX6_settle_24 : decode cX6_settle 24 = .ok (.ireturn, 1) := by decide +kernel
theorem dX6_settle_25 : decode cX6_settle 25 = .ok (.aload_n 0, 1) := by decide +kernel
theorem dX6_settle_26 : decode cX6_settle 26 = .ok (.invokevirtual 83, 3) := by decide +kernel
theorem dX6_settle_29 : decode cX6_settle 29 = .ok (.iconst 0, 1) := by decide +kernel
theorem dX6_settle_30 : decode cX6_settle 30 = .ok (.istore_n 3, 1) := by decide +kernel
theorem dX6_settle_31 : decode cX6_settle 31 = .ok (.aload_n 0, 1) := by decide +kernel
theorem dX6_settle_32 : decode cX6_settle 32 = .ok (.iload_n 1, 1) := by decide +kernel
theorem dX6_settle_33 : decode cX6_settle 33 = .ok (.invokevirtual 155, 3) := by decide +kernel
theorem dX6_settle_36 : decode cX6_settle 36 = .ok (.ifCond .lt 34, 3) := by decide +kernel
theorem dX6_settle_39 : decode cX6_settle 39 = .ok (.iload_n 3, 1) := by decide +kernel
theorem dX6_settle_40 : decode cX6_settle 40 = .ok (.iload_n 2, 1) := by decide +kernel
theorem dX6_settle_41 : decode cX6_settle 41 = .ok (.ifCond .eq 15, 3) := by decide +kernel
theorem dX6_settle_44 : decode cX6_settle 44 = .ok (.aload_n 0, 1) := by decide +kernel
theorem dX6_settle_45 : decode cX6_settle 45 = .ok (.aload_n 0, 1) := by decide +kernel
theorem dX6_settle_46 : decode cX6_settle 46 = .ok (.iload_n 1, 1) := by decide +kernel
theorem dX6_settle_47 : decode cX6_settle 47 = .ok (.invokevirtual 155, 3) := by decide +kernel
theorem dX6_settle_50 : decode cX6_settle 50 = .ok (.invokevirtual 145, 3) := by decide +kernel
theorem dX6_settle_53 : decode cX6_settle 53 = .ok (.goto 12, 3) := by decide +kernel
theorem dX6_settle_56 : decode cX6_settle 56 = .ok (.aload_n 0, 1) := by decide +kernel
theorem dX6_settle_57 : decode cX6_settle 57 = .ok (.aload_n 0, 1) := by decide +kernel
theorem dX6_settle_58 : decode cX6_settle 58 = .ok (.iload_n 1, 1) := by decide +kernel
theorem dX6_settle_59 : decode cX6_settle 59 = .ok (.invokevirtual 155, 3) := by decide +kernel
theorem dX6_settle_62 : decode cX6_settle 62 = .ok (.invokevirtual 148, 3) := by decide +kernel
theorem dX6_settle_65 : decode cX6_settle 65 = .ok (.iadd, 1) := by decide +kernel
theorem dX6_settle_66 : decode cX6_settle 66 = .ok (.istore_n 3, 1) := by decide +kernel
theorem dX6_settle_67 : decode cX6_settle 67 = .ok (.goto (-36), 3) := by decide +kernel
theorem dX6_settle_70 : decode cX6_settle 70 = .ok (.aload_n 0, 1) := by decide +kernel
theorem dX6_settle_71 : decode cX6_settle 71 = .ok (.iload_n 3, 1) := by decide +kernel
theorem dX6_settle_72 : decode cX6_settle 72 = .ok (.invokevirtual 90, 3) := by decide +kernel
theorem dX6_settle_75 : decode cX6_settle 75 = .ok (.ireturn, 1) := by decide +kernel
theorem dX6_type_0 : decode cX6_type 0 = .ok (.aload_n 0, 1) := by decide +kernel
theorem dX6_type_1 : decode cX6_type 1 = .ok (.getfield 158, 3) := by decide +kernel
theorem dX6_type_4 : decode cX6_type 4 = .ok (.bipush 60, 2) := by decide +kernel
theorem dX6_type_6 : decode cX6_type 6 = .ok (.if_icmp .ne 6, 3) := by decide +kernel
theorem dX6_type_9 : decode cX6_type 9 = .ok (.bipush (-3), 2) := by decide +kernel
theorem dX6_type_11 : decode cX6_type 11 = .ok (.ireturn, 1) := by decide +kernel
theorem dX6_type_12 : decode cX6_type 12 = .ok (.aload_n 0, 1) := by decide +kernel
theorem dX6_type_13 : decode cX6_type 13 = .ok (.getfield 19, 3) := by decide +kernel
theorem dX6_type_16 : decode cX6_type 16 = .ok (.aload_n 0, 1) := by decide +kernel
theorem dX6_type_17 : decode cX6_type 17 = .ok (.getfield 158, 3) := by decide +kernel
theorem dX6_type_20 : decode cX6_type 20 = .ok (.iload_n 1, 1) := by decide +kernel
theorem dX6_type_21 : decode cX6_type 21 = .ok (.castore, 1) := by decide +kernel
theorem dX6_type_22 : decode cX6_type 22 = .ok (.aload_n 0, 1) := by decide +kernel
theorem dX6_type_23 : decode cX6_type 23 = .ok (.dup, 1) := by decide +kernel
theorem dX6_type_24 : decode cX6_type 24 = .ok (.getfield 158, 3) := by decide +kernel
theorem dX6_type_27 : decode cX6_type 27 = .ok (.iconst 1, 1) := by decide +kernel
theorem dX6_type_28 : decode cX6_type 28 = .ok (.iadd, 1) := by decide +kernel
theorem dX6_type_29 : decode cX6_type 29 = .ok (.putfield 158, 3) := by decide +kernel
theorem dX6_type_32 : decode cX6_type 32 = .ok (.aload_n 0, 1) := by decide +kernel
theorem dX6_type_33 : decode cX6_type 33 = .ok (.getfield 158, 3) := by decide +kernel
theorem dX6_type_36 : decode cX6_type 36 = .ok (.ireturn, 1) := by decide +kernel
theorem dX6_clearText_0 : decode cX6_clearText 0 = .ok (.aload_n 0, 1) := by decide +kernel
theorem dX6_clearText_1 : decode cX6_clearText 1 = .ok (.getfield 158, 3) := by decide +kernel
theorem dX6_clearText_4 : decode cX6_clearText 4 = .ok (.istore_n 1, 1) := by decide +kernel
theorem dX6_clearText_5 : decode cX6_clearText 5 = .ok (.aload_n 0, 1) := by decide +kernel
theorem dX6_clearText_6 : decode cX6_clearText 6 = .ok (.iconst 0, 1) := by decide +kernel
theorem dX6_clearText_7 : decode cX6_clearText 7 = .ok (.putfield 158, 3) := by decide +kernel
theorem dX6_clearText_10 : decode cX6_clearText 10 = .ok (.iload_n 1, 1) := by decide +kernel
theorem dX6_clearText_11 : decode cX6_clearText 11 = .ok (.ireturn, 1) := by decide +kernel
theorem dX6_isAt_0 : decode cX6_isAt 0 = .ok (.aload_n 0, 1) := by decide +kernel
theorem dX6_isAt_1 : decode cX6_isAt 1 = .ok (.getfield 161, 3) := by decide +kernel
theorem dX6_isAt_4 : decode cX6_isAt 4 = .ok (.aload_n 0, 1) := by decide +kernel
theorem dX6_isAt_5 : decode cX6_isAt 5 = .ok (.getfield 158, 3) := by decide +kernel
theorem dX6_isAt_8 : decode cX6_isAt 8 = .ok (.if_icmp .ge 33, 3) := by decide +kernel
theorem dX6_isAt_11 : decode cX6_isAt 11 = .ok (.aload_n 0, 1) := by decide +kernel
theorem dX6_isAt_12 : decode cX6_isAt 12 = .ok (.getfield 19, 3) := by decide +kernel
theorem dX6_isAt_15 : decode cX6_isAt 15 = .ok (.aload_n 0, 1) := by decide +kernel
theorem dX6_isAt_16 : decode cX6_isAt 16 = .ok (.getfield 161, 3) := by decide +kernel
theorem dX6_isAt_19 : decode cX6_isAt 19 = .ok (.caload, 1) := by decide +kernel
theorem dX6_isAt_20 : decode cX6_isAt 20 = .ok (.iload_n 1, 1) := by decide +kernel
theorem dX6_isAt_21 : decode cX6_isAt 21 = .ok (.if_icmp .lt 20, 3) := by decide +kernel
theorem dX6_isAt_24 : decode cX6_isAt 24 = .ok (.aload_n 0, 1) := by decide +kernel
theorem dX6_isAt_25 : decode cX6_isAt 25 = .ok (.getfield 19, 3) := by decide +kernel
theorem dX6_isAt_28 : decode cX6_isAt 28 = .ok (.aload_n 0, 1) := by decide +kernel
theorem dX6_isAt_29 : decode cX6_isAt 29 = .ok (.getfield 161, 3) := by decide +kernel
theorem dX6_isAt_32 : decode cX6_isAt 32 = .ok (.caload, 1) := by decide +kernel
theorem dX6_isAt_33 : decode cX6_isAt 33 = .ok (.iload_n 2, 1) := by decide +kernel
theorem dX6_isAt_34 : decode cX6_isAt 34 = .ok (.if_icmp .gt 7, 3) := by decide +kernel
theorem dX6_isAt_37 : decode cX6_isAt 37 = .ok (.iconst 1, 1) := by decide +kernel
theorem dX6_isAt_38 : decode cX6_isAt 38 = .ok (.goto 4, 3) := by decide +kernel
theorem dX6_isAt_41 : decode cX6_isAt 41 = .ok (.iconst 0, 1) := by decide +kernel
theorem dX6_isAt_42 : decode cX6_isAt 42 = .ok (.ireturn, 1) := by decide +kernel
theorem dX6_skips_0 : decode cX6_skips 0 = .ok (.aload_n 0, 1) := by decide +kernel
theorem dX6_skips_1 : decode cX6_skips 1 = .ok (.getfield 164, 3) := by decide +kernel
theorem dX6_skips_4 : decode cX6_skips 4 = .ok (.ifCond .eq 16, 3) := by decide +kernel
theorem dX6_skips_7 : decode cX6_skips 7 = .ok (.aload_n 0, 1) := by decide +kernel
theorem dX6_skips_8 : decode cX6_skips 8 = .ok (.iload_n 1, 1) := by decide +kernel
theorem dX6_skips_9 : decode cX6_skips 9 = .ok (.iload_n 1, 1) := by decide +kernel
theorem dX6_skips_10 : decode cX6_skips 10 = .ok (.invokevirtual 168, 3) := by decide +kernel
theorem dX6_skips_13 : decode cX6_skips 13 = .ok (.ifCond .eq 7, 3) := by decide +kernel
theorem dX6_skips_16 : decode cX6_skips 16 = .ok (.iconst 1, 1) := by decide +kernel
theorem dX6_skips_17 : decode cX6_skips 17 = .ok (.goto 4, 3) := by decide +kernel
theorem dX6_skips_20 : decode cX6_skips 20 = .ok (.iconst 0, 1) := by decide +kernel
theorem dX6_skips_21 : decode cX6_skips 21 = .ok (.istore_n 2, 1) := by decide +kernel
theorem dX6_skips_22 : decode cX6_skips 22 = .ok (.aload_n 0, 1) := by decide +kernel
theorem dX6_skips_23 : decode cX6_skips 23 = .ok (.dup, 1) := by decide +kernel
theorem dX6_skips_24 : decode cX6_skips 24 = .ok (.getfield 161, 3) := by decide +kernel
theorem dX6_skips_27 : decode cX6_skips 27 = .ok (.iload_n 2, 1) := by decide +kernel
theorem dX6_skips_28 : decode cX6_skips 28 = .ok (.ifCond .eq 7, 3) := by decide +kernel
theorem dX6_skips_31 : decode cX6_skips 31 = .ok (.iconst 1, 1) := by decide +kernel
theorem dX6_skips_32 : decode cX6_skips 32 = .ok (.goto 4, 3) := by decide +kernel
theorem dX6_skips_35 : decode cX6_skips 35 = .ok (.iconst 0, 1) := by decide +kernel
theorem dX6_skips_36 : decode cX6_skips 36 = .ok (.iadd, 1) := by decide +kernel
theorem dX6_skips_37 : decode cX6_skips 37 = .ok (.putfield 161, 3) := by decide +kernel
theorem dX6_skips_40 : decode cX6_skips 40 = .ok (.iload_n 2, 1) := by decide +kernel
theorem dX6_skips_41 : decode cX6_skips 41 = .ok (.ireturn, 1) := by decide +kernel
theorem dX6_number_0 : decode cX6_number 0 = .ok (.aload_n 0, 1) := by decide +kernel
theorem dX6_number_1 : decode cX6_number 1 = .ok (.getfield 161, 3) := by decide +kernel
theorem dX6_number_4 : decode cX6_number 4 = .ok (.istore_n 2, 1) := by decide +kernel
theorem dX6_number_5 : decode cX6_number 5 = .ok (.iconst 0, 1) := by decide +kernel
theorem dX6_number_6 : decode cX6_number 6 = .ok (.istore_n 3, 1) := by decide +kernel
theorem dX6_number_7 : decode cX6_number 7 = .ok (.aload_n 0, 1) := by decide +kernel
theorem dX6_number_8 : decode cX6_number 8 = .ok (.aload_n 0, 1) := by decide +kernel
theorem dX6_number_9 : decode cX6_number 9 = .ok (.getfield 164, 3) := by decide +kernel
theorem dX6_number_12 : decode cX6_number 12 = .ok (.ifCond .eq 18, 3) := by decide +kernel
theorem dX6_number_15 : decode cX6_number 15 = .ok (.aload_n 0, 1) := by decide +kernel
theorem dX6_number_16 : decode cX6_number 16 = .ok (.bipush 48, 2) := by decide +kernel
theorem dX6_number_18 : decode cX6_number 18 = .ok (.bipush 57, 2) := by decide +kernel
theorem dX6_number_20 : decode cX6_number 20 = .ok (.invokevirtual 168, 3) := by decide +kernel
theorem dX6_number_23 : decode cX6_number 23 = .ok (.ifCond .eq 7, 3) := by decide +kernel
theorem dX6_number_26 : decode cX6_number 26 = .ok (.iconst 1, 1) := by decide +kernel
theorem dX6_number_27 : decode cX6_number 27 = .ok (.goto 4, 3) := by decide +kernel
theorem dX6_number_30 : decode cX6_number 30 = .ok (.iconst 0, 1) := by decide +kernel
theorem dX6_number_31 : decode cX6_number 31 = .ok (.putfield 164, 3) := by decide +kernel
theorem dX6_number_34 : decode cX6_number 34 = .ok (.aload_n 0, 1) := by decide +kernel
theorem dX6_number_35 : decode cX6_number 35 = .ok (.getfield 164, 3) := by decide +kernel
theorem dX6_number_38 : decode cX6_number 38 = .ok (.ifCond .eq 67, 3) := by decide +kernel
theorem dX6_number_41 : decode cX6_number 41 = .ok (.aload_n 0, 1) := by decide +kernel
theorem dX6_number_42 : decode cX6_number 42 = .ok (.getfield 161, 3) := by decide +kernel
theorem dX6_number_45 : decode cX6_number 45 = .ok (.iload_n 2, 1) := by decide +kernel
theorem dX6_number_46 : decode cX6_number 46 = .ok (.iload_n 1, 1) := by decide +kernel
theorem dX6_number_47 : decode cX6_number 47 = .ok (.iadd, 1) := by decide +kernel
theorem dX6_number_48 : decode cX6_number 48 = .ok (.if_icmp .ge 57, 3) := by decide +kernel
theorem dX6_number_51 : decode cX6_number 51 = .ok (.aload_n 0, 1) := by decide +kernel
theorem dX6_number_52 : decode cX6_number 52 = .ok (.bipush 48, 2) := by decide +kernel
theorem dX6_number_54 : decode cX6_number 54 = .ok (.bipush 57, 2) := by decide +kernel
theorem dX6_number_56 : decode cX6_number 56 = .ok (.invokevirtual 168, 3) := by decide +kernel
theorem dX6_number_59 : decode cX6_number 59 = .ok (.ifCond .eq 46, 3) := by decide +kernel
theorem dX6_number_62 : decode cX6_number 62 = .ok (.aload_n 0, 1) := by decide +kernel
theorem dX6_number_63 : decode cX6_number 63 = .ok (.getfield 161, 3) := by decide +kernel
theorem dX6_number_66 : decode cX6_number 66 = .ok (.iload_n 2, 1) := by decide +kernel
theorem dX6_number_67 : decode cX6_number 67 = .ok (.if_icmp .eq 7, 3) := by decide +kernel
theorem dX6_number_70 : decode cX6_number 70 = .ok (.iload_n 3, 1) := by decide +kernel
theorem dX6_number_71 : decode cX6_number 71 = .ok (.ifCond .le 34, 3) := by decide +kernel
theorem dX6_number_74 : decode cX6_number 74 = .ok (.bipush 10, 2) := by decide +kernel
theorem dX6_number_76 : decode cX6_number 76 = .ok (.iload_n 3, 1) := by decide +kernel
theorem dX6_number_77 : decode cX6_number 77 = .ok (.imul, 1) := by decide +kernel
theorem dX6_number_78 : decode cX6_number 78 = .ok (.aload_n 0, 1) := by decide +kernel
theorem dX6_number_79 : decode cX6_number 79 = .ok (.getfield 19, 3) := by decide +kernel
theorem dX6_number_82 : decode cX6_number 82 = .ok (.aload_n 0, 1) := by decide +kernel
theorem dX6_number_83 : decode cX6_number 83 = .ok (.getfield 161, 3) := by decide +kernel
theorem dX6_number_86 : decode cX6_number 86 = .ok (.caload, 1) := by decide +kernel
theorem dX6_number_87 : decode cX6_number 87 = .ok (.iadd, 1) := by decide +kernel
theorem dX6_number_88 : decode cX6_number 88 = .ok (.bipush 48, 2) := by decide +kernel
theorem dX6_number_90 : decode cX6_number 90 = .ok (.isub, 1) := by decide +kernel
theorem dX6_number_91 : decode cX6_number 91 = .ok (.istore_n 3, 1) := by decide +kernel
theorem dX6_number_92 : decode cX6_number 92 = .ok (.aload_n 0, 1) := by decide +kernel
theorem dX6_number_93 : decode cX6_number 93 = .ok (.dup, 1) := by decide +kernel
theorem dX6_number_94 : decode cX6_number 94 = .ok (.getfield 161, 3) := by decide +kernel
theorem dX6_number_97 : decode cX6_number 97 = .ok (.iconst 1, 1) := by decide +kernel
theorem dX6_number_98 : decode cX6_number 98 = .ok (.iadd, 1) := by decide +kernel
theorem dX6_number_99 : decode cX6_number 99 = .ok (.putfield 161, 3) := by decide +kernel
theorem dX6_number_102 : decode cX6_number 102 = .ok (.goto (-68), 3) := by decide +kernel
theorem dX6_number_105 : decode cX6_number 105 = .ok (.iload_n 3, 1) := by decide +kernel
theorem dX6_number_106 : decode cX6_number 106 = .ok (.ireturn, 1) := by decide +kernel
theorem dX6_readOrder_0 : decode cX6_readOrder 0 = .ok (.iconst 4, 1) := by decide +kernel
theorem dX6_readOrder_1 : decode cX6_readOrder 1 = .ok (.aload_n 0, 1) := by decide +kernel
theorem dX6_readOrder_2 : decode cX6_readOrder 2 = .ok (.getfield 172, 3) := by decide +kernel
theorem dX6_readOrder_5 : decode cX6_readOrder 5 = .ok (.imul, 1) := by decide +kernel
theorem dX6_readOrder_6 : decode cX6_readOrder 6 = .ok (.istore_n 1, 1) := by decide +kernel
theorem dX6_readOrder_7 : decode cX6_readOrder 7 = .ok (.aload_n 0, 1) := by decide +kernel
theorem dX6_readOrder_8 : decode cX6_readOrder 8 = .ok (.bipush 43, 2) := by decide +kernel
theorem dX6_readOrder_10 : decode cX6_readOrder 10 = .ok (.invokevirtual 175, 3) := by decide +kernel
theorem dX6_readOrder_13 : decode cX6_readOrder 13 = .ok (.istore_n 2, 1) := by decide +kernel
theorem dX6_readOrder_14 : decode cX6_readOrder 14 = .ok (.iload_n 2, 1) := by decide +kernel
theorem dX6_readOrder_15 : decode cX6_readOrder 15 = .ok (.ifCond .ne 12, 3) := by decide +kernel
theorem dX6_readOrder_18 : decode cX6_readOrder 18 = .ok (.aload_n 0, 1) := by decide +kernel
theorem dX6_readOrder_19 : decode cX6_readOrder 19 = .ok (.bipush 45, 2) := by decide +kernel
theorem dX6_readOrder_21 : decode cX6_readOrder 21 = .ok (.invokevirtual 175, 3) := by decide +kernel
theorem dX6_readOrder_24 : decode cX6_readOrder 24 = .ok (.ifCond .eq 73, 3) := by decide +kernel
theorem dX6_readOrder_27 : decode cX6_readOrder 27 = .ok (.aload_n 0, 1) := by decide +kernel
theorem dX6_readOrder_28 : decode cX6_readOrder 28 = .ok (.bipush 114, 2) := by decide +kernel
theorem dX6_readOrder_30 : decode cX6_readOrder 30 = .ok (.invokevirtual 175, 3) := by decide +kernel
theorem dX6_readOrder_33 : decode cX6_readOrder 33 = .ok (.istore_n 3, 1) := by decide +kernel
theorem dX6_readOrder_34 : decode cX6_readOrder 34 = .ok (.aload_n 0, 1) := by decide +kernel
theorem dX6_readOrder_35 : decode cX6_readOrder 35 = .ok (.iload_n 3, 1) := by decide +kernel
theorem dX6_readOrder_36 : decode cX6_readOrder 36 = .ok (.ifCond .ne 12, 3) := by decide +kernel
theorem dX6_readOrder_39 : decode cX6_readOrder 39 = .ok (.aload_n 0, 1) := by decide +kernel
theorem dX6_readOrder_40 : decode cX6_readOrder 40 = .ok (.bipush 99, 2) := by decide +kernel
theorem dX6_readOrder_42 : decode cX6_readOrder 42 = .ok (.invokevirtual 175, 3) := by decide +kernel
theorem dX6_readOrder_45 : decode cX6_readOrder 45 = .ok (.ifCond .eq 7, 3) := by decide +kernel
theorem dX6_readOrder_48 : decode cX6_readOrder 48 = .ok (.iconst 1, 1) := by decide +kernel
theorem dX6_readOrder_49 : decode cX6_readOrder 49 = .ok (.goto 4, 3) := by decide +kernel
theorem dX6_readOrder_52 : decode cX6_readOrder 52 = .ok (.iconst 0, 1) := by decide +kernel
theorem dX6_readOrder_53 : decode cX6_readOrder 53 = .ok (.putfield 164, 3) := by decide +kernel
theorem dX6_readOrder_56 : decode cX6_readOrder 56 = .ok (.aload_n 0, 1) := by decide +kernel
theorem dX6_readOrder_57 : decode cX6_readOrder 57 = .ok (.getfield 23, 3) := by decide +kernel
theorem dX6_readOrder_60 : decode cX6_readOrder 60 = .ok (.iload_n 1, 1) := by decide +kernel
theorem dX6_readOrder_61 : decode cX6_readOrder 61 = .ok (.iload_n 2, 1) := by decide +kernel
theorem dX6_readOrder_62 : decode cX6_readOrder 62 = .ok (.ifCond .eq 7, 3) := by decide +kernel
theorem dX6_readOrder_65 : decode cX6_readOrder 65 = .ok (.iconst 0, 1) := by decide +kernel
theorem dX6_readOrder_66 : decode cX6_readOrder 66 = .ok (.goto 4, 3) := by decide +kernel
theorem dX6_readOrder_69 : decode cX6_readOrder 69 = .ok (.iconst 2, 1) := by decide +kernel
theorem dX6_readOrder_70 : decode cX6_readOrder 70 = .ok (.iload_n 3, 1) := by decide +kernel
theorem dX6_readOrder_71 : decode cX6_readOrder 71 = .ok (.ifCond .eq 7, 3) := by decide +kernel
theorem dX6_readOrder_74 : decode cX6_readOrder 74 = .ok (.iconst 0, 1) := by decide +kernel
theorem dX6_readOrder_75 : decode cX6_readOrder 75 = .ok (.goto 4, 3) := by decide +kernel
theorem dX6_readOrder_78 : decode cX6_readOrder 78 = .ok (.iconst 1, 1) := by decide +kernel
theorem dX6_readOrder_79 : decode cX6_readOrder 79 = .ok (.iadd, 1) := by decide +kernel
theorem dX6_readOrder_80 : decode cX6_readOrder 80 = .ok (.iastore, 1) := by decide +kernel
theorem dX6_readOrder_81 : decode cX6_readOrder 81 = .ok (.aload_n 0, 1) := by decide +kernel
theorem dX6_readOrder_82 : decode cX6_readOrder 82 = .ok (.getfield 23, 3) := by decide +kernel
theorem dX6_readOrder_85 : decode cX6_readOrder 85 = .ok (.iload_n 1, 1) := by decide +kernel
theorem dX6_readOrder_86 : decode cX6_readOrder 86 = .ok (.iconst 1, 1) := by decide +kernel
theorem dX6_readOrder_87 : decode cX6_readOrder 87 = .ok (.iadd, 1) := by decide +kernel
theorem dX6_readOrder_88 : decode cX6_readOrder 88 = .ok (.aload_n 0, 1) := by decide +kernel
theorem dX6_readOrder_89 : decode cX6_readOrder 89 = .ok (.iconst 2, 1) := by decide +kernel
theorem dX6_readOrder_90 : decode cX6_readOrder 90 = .ok (.invokevirtual 179, 3) := by decide +kernel
theorem dX6_readOrder_93 : decode cX6_readOrder 93 = .ok (.iastore, 1) := by decide +kernel
theorem dX6_readOrder_94 : decode cX6_readOrder 94 = .ok (.goto 69, 3) := by decide +kernel
theorem dX6_readOrder_97 : decode cX6_readOrder 97 = .ok (.aload_n 0, 1) := by decide +kernel
theorem dX6_readOrder_98 : decode cX6_readOrder 98 = .ok (.getfield 23, 3) := by decide +kernel
theorem dX6_readOrder_101 : decode cX6_readOrder 101 = .ok (.iload_n 1, 1) := by decide +kernel
theorem dX6_readOrder_102 : decode cX6_readOrder 102 = .ok (.iconst 4, 1) := by decide +kernel
theorem dX6_readOrder_103 : decode cX6_readOrder 103 = .ok (.iastore, 1) := by decide +kernel
theorem dX6_readOrder_104 : decode cX6_readOrder 104 = .ok (.aload_n 0, 1) := by decide +kernel
theorem dX6_readOrder_105 : decode cX6_readOrder 105 = .ok (.getfield 23, 3) := by decide +kernel
theorem dX6_readOrder_108 : decode cX6_readOrder 108 = .ok (.iload_n 1, 1) := by decide +kernel
theorem dX6_readOrder_109 : decode cX6_readOrder 109 = .ok (.iconst 1, 1) := by decide +kernel
theorem dX6_readOrder_110 : decode cX6_readOrder 110 = .ok (.iadd, 1) := by decide +kernel
theorem dX6_readOrder_111 : decode cX6_readOrder 111 = .ok (.aload_n 0, 1) := by decide +kernel
theorem dX6_readOrder_112 : decode cX6_readOrder 112 = .ok (.iconst 2, 1) := by decide +kernel
theorem dX6_readOrder_113 : decode cX6_readOrder 113 = .ok (.invokevirtual 179, 3) := by decide +kernel
theorem dX6_readOrder_116 : decode cX6_readOrder 116 = .ok (.iastore, 1) := by decide +kernel
theorem dX6_readOrder_117 : decode cX6_readOrder 117 = .ok (.aload_n 0, 1) := by decide +kernel
theorem dX6_readOrder_118 : decode cX6_readOrder 118 = .ok (.aload_n 0, 1) := by decide +kernel
theorem dX6_readOrder_119 : decode cX6_readOrder 119 = .ok (.bipush 46, 2) := by decide +kernel
theorem dX6_readOrder_121 : decode cX6_readOrder 121 = .ok (.invokevirtual 175, 3) := by decide +kernel
theorem dX6_readOrder_124 : decode cX6_readOrder 124 = .ok (.putfield 164, 3) := by decide +kernel
theorem dX6_readOrder_127 : decode cX6_readOrder 127 = .ok (.aload_n 0, 1) := by decide +kernel
theorem dX6_readOrder_128 : decode cX6_readOrder 128 = .ok (.getfield 23, 3) := by decide +kernel
theorem dX6_readOrder_131 : decode cX6_readOrder 131 = .ok (.iload_n 1, 1) := by decide +kernel
theorem dX6_readOrder_132 : decode cX6_readOrder 132 = .ok (.iconst 2, 1) := by decide +kernel
theorem dX6_readOrder_133 : decode cX6_readOrder 133 = .ok (.iadd, 1) := by decide +kernel
theorem dX6_readOrder_134 : decode cX6_readOrder 134 = .ok (.aload_n 0, 1) := by decide +kernel
theorem dX6_readOrder_135 : decode cX6_readOrder 135 = .ok (.iconst 2, 1) := by decide +kernel
theorem dX6_readOrder_136 : decode cX6_readOrder 136 = .ok (.invokevirtual 179, 3) := by decide +kernel
theorem dX6_readOrder_139 : decode cX6_readOrder 139 = .ok (.iastore, 1) := by decide +kernel
theorem dX6_readOrder_140 : decode cX6_readOrder 140 = .ok (.aload_n 0, 1) := by decide +kernel
theorem dX6_readOrder_141 : decode cX6_readOrder 141 = .ok (.aload_n 0, 1) := by decide +kernel
theorem dX6_readOrder_142 : decode cX6_readOrder 142 = .ok (.bipush 61, 2) := by decide +kernel
theorem dX6_readOrder_144 : decode cX6_readOrder 144 = .ok (.invokevirtual 175, 3) := by decide +kernel
theorem dX6_readOrder_147 : decode cX6_readOrder 147 = .ok (.putfield 164, 3) := by decide +kernel
theorem dX6_readOrder_150 : decode cX6_readOrder 150 = .ok (.aload_n 0, 1) := by decide +kernel
theorem dX6_readOrder_151 : decode cX6_readOrder 151 = .ok (.getfield 23, 3) := by decide +kernel
theorem dX6_readOrder_154 : decode cX6_readOrder 154 = .ok (.iload_n 1, 1) := by decide +kernel
theorem dX6_readOrder_155 : decode cX6_readOrder 155 = .ok (.iconst 3, 1) := by decide +kernel
theorem dX6_readOrder_156 : decode cX6_readOrder 156 = .ok (.iadd, 1) := by decide +kernel
theorem dX6_readOrder_157 : decode cX6_readOrder 157 = .ok (.aload_n 0, 1) := by decide +kernel
theorem dX6_readOrder_158 : decode cX6_readOrder 158 = .ok (.iconst 4, 1) := by decide +kernel
theorem dX6_readOrder_159 : decode cX6_readOrder 159 = .ok (.invokevirtual 179, 3) := by decide +kernel
theorem dX6_readOrder_162 : decode cX6_readOrder 162 = .ok (.iastore, 1) := by decide +kernel
theorem dX6_readOrder_163 : decode cX6_readOrder 163 = .ok (.aload_n 0, 1) := by decide +kernel
theorem dX6_readOrder_164 : decode cX6_readOrder 164 = .ok (.dup, 1) := by decide +kernel
theorem dX6_readOrder_165 : decode cX6_readOrder 165 = .ok (.getfield 172, 3) := by decide +kernel
theorem dX6_readOrder_168 : decode cX6_readOrder 168 = .ok (.iconst 1, 1) := by decide +kernel
theorem dX6_readOrder_169 : decode cX6_readOrder 169 = .ok (.iadd, 1) := by decide +kernel
theorem dX6_readOrder_170 : decode cX6_readOrder 170 = .ok (.putfield 172, 3) := by decide +kernel
theorem dX6_readOrder_173 : decode cX6_readOrder 173 = .ok (.return_, 1) := by decide +kernel
theorem dX6_carryOut_0 : decode cX6_carryOut 0 = .ok (.aload_n 0, 1) := by decide +kernel
theorem dX6_carryOut_1 : decode cX6_carryOut 1 = .ok (.getfield 23, 3) := by decide +kernel
theorem dX6_carryOut_4 : decode cX6_carryOut 4 = .ok (.iload_n 2, 1) := by decide +kernel
theorem dX6_carryOut_5 : decode cX6_carryOut 5 = .ok (.iaload, 1) := by decide +kernel
theorem dX6_carryOut_6 : decode cX6_carryOut 6 = .ok (.istore_n 3, 1) := by decide +kernel
theorem dX6_carryOut_7 : decode cX6_carryOut 7 = .ok (.iload_n 3, 1) := by decide +kernel
theorem dX6_carryOut_8 : decode cX6_carryOut 8 = .ok (.iconst 4, 1) := by decide +kernel
theorem dX6_carryOut_9 : decode cX6_carryOut 9 = .ok (.if_icmp .ne 33, 3) := by decide +kernel
theorem dX6_carryOut_12 : decode cX6_carryOut 12 = .ok (.aload_n 0, 1) := by decide +kernel
theorem dX6_carryOut_13 : decode cX6_carryOut 13 = .ok (.iload_n 1, 1) := by decide +kernel
theorem dX6_carryOut_14 : decode cX6_carryOut 14 = .ok (.aload_n 0, 1) := by decide +kernel
theorem dX6_carryOut_15 : decode cX6_carryOut 15 = .ok (.getfield 23, 3) := by decide +kernel
theorem dX6_carryOut_18 : decode cX6_carryOut 18 = .ok (.iload_n 2, 1) := by decide +kernel
theorem dX6_carryOut_19 : decode cX6_carryOut 19 = .ok (.iconst 1, 1) := by decide +kernel
theorem dX6_carryOut_20 : decode cX6_carryOut 20 = .ok (.iadd, 1) := by decide +kernel
theorem dX6_carryOut_21 : decode cX6_carryOut 21 = .ok (.iaload, 1) := by decide +kernel
theorem dX6_carryOut_22 : decode cX6_carryOut 22 = .ok (.aload_n 0, 1) := by decide +kernel
theorem dX6_carryOut_23 : decode cX6_carryOut 23 = .ok (.getfield 23, 3) := by decide +kernel
theorem dX6_carryOut_26 : decode cX6_carryOut 26 = .ok (.iload_n 2, 1) := by decide +kernel
theorem dX6_carryOut_27 : decode cX6_carryOut 27 = .ok (.iconst 2, 1) := by decide +kernel
theorem dX6_carryOut_28 : decode cX6_carryOut 28 = .ok (.iadd, 1) := by decide +kernel
theorem dX6_carryOut_29 : decode cX6_carryOut 29 = .ok (.iaload, 1) := by decide +kernel
theorem dX6_carryOut_30 : decode cX6_carryOut 30 = .ok (.aload_n 0, 1) := by decide +kernel
theorem dX6_carryOut_31 : decode cX6_carryOut 31 = .ok (.getfield 23, 3) := by decide +kernel
theorem dX6_carryOut_34 : decode cX6_carryOut 34 = .ok (.iload_n 2, 1) := by decide +kernel
theorem dX6_carryOut_35 : decode cX6_carryOut 35 = .ok (.iconst 3, 1) := by decide +kernel
theorem dX6_carryOut_36 : decode cX6_carryOut 36 = .ok (.iadd, 1) := by decide +kernel
theorem dX6_carryOut_37 : decode cX6_carryOut 37 = .ok (.iaload, 1) := by decide +kernel
theorem dX6_carryOut_38 : decode cX6_carryOut 38 = .ok (.invokevirtual 131, 3) := by decide +kernel
theorem dX6_carryOut_41 : decode cX6_carryOut 41 = .ok (.ireturn, 1) := by decide +kernel
theorem dX6_carryOut_42 : decode cX6_carryOut 42 = .ok (.iload_n 3, 1) := by decide +kernel
theorem dX6_carryOut_43 : decode cX6_carryOut 43 = .ok (.iconst 2, 1) := by decide +kernel
theorem dX6_carryOut_44 : decode cX6_carryOut 44 = .ok (.if_icmp .ge 20, 3) := by decide +kernel
theorem dX6_carryOut_47 : decode cX6_carryOut 47 = .ok (.aload_n 0, 1) := by decide +kernel
theorem dX6_carryOut_48 : decode cX6_carryOut 48 = .ok (.iload_n 1, 1) := by decide +kernel
theorem dX6_carryOut_49 : decode cX6_carryOut 49 = .ok (.iload_n 3, 1) := by decide +kernel
theorem dX6_carryOut_50 : decode cX6_carryOut 50 = .ok (.aload_n 0, 1) := by decide +kernel
theorem dX6_carryOut_51 : decode cX6_carryOut 51 = .ok (.getfield 23, 3) := by decide +kernel
theorem dX6_carryOut_54 : decode cX6_carryOut 54 = .ok (.iload_n 2, 1) := by decide +kernel
theorem dX6_carryOut_55 : decode cX6_carryOut 55 = .ok (.iconst 1, 1) := by decide +kernel
theorem dX6_carryOut_56 : decode cX6_carryOut 56 = .ok (.iadd, 1) := by decide +kernel
theorem dX6_carryOut_57 : decode cX6_carryOut 57 = .ok (.iaload, 1) := by decide +kernel
theorem dX6_carryOut_58 : decode cX6_carryOut 58 = .ok (.invokevirtual 107, 3) := by decide +kernel
theorem dX6_carryOut_61 : decode cX6_carryOut 61 = .ok (.goto 19, 3) := by decide +kernel
theorem dX6_carryOut_64 : decode cX6_carryOut 64 = .ok (.aload_n 0, 1) := by decide +kernel
theorem dX6_carryOut_65 : decode cX6_carryOut 65 = .ok (.iload_n 1, 1) := by decide +kernel
theorem dX6_carryOut_66 : decode cX6_carryOut 66 = .ok (.iload_n 3, 1) := by decide +kernel
theorem dX6_carryOut_67 : decode cX6_carryOut 67 = .ok (.iconst 2, 1) := by decide +kernel
theorem dX6_carryOut_68 : decode cX6_carryOut 68 = .ok (.isub, 1) := by decide +kernel
theorem dX6_carryOut_69 : decode cX6_carryOut 69 = .ok (.aload_n 0, 1) := by decide +kernel
theorem dX6_carryOut_70 : decode cX6_carryOut 70 = .ok (.getfield 23, 3) := by decide +kernel
theorem dX6_carryOut_73 : decode cX6_carryOut 73 = .ok (.iload_n 2, 1) := by decide +kernel
theorem dX6_carryOut_74 : decode cX6_carryOut 74 = .ok (.iconst 1, 1) := by decide +kernel
theorem dX6_carryOut_75 : decode cX6_carryOut 75 = .ok (.iadd, 1) := by decide +kernel
theorem dX6_carryOut_76 : decode cX6_carryOut 76 = .ok (.iaload, 1) := by decide +kernel
theorem dX6_carryOut_77 : decode cX6_carryOut 77 = .ok (.invokevirtual 125, 3) := by decide +kernel
theorem dX6_carryOut_80 : decode cX6_carryOut 80 = .ok (.ireturn, 1) := by decide +kernel
theorem dX6_run_0 : decode cX6_run 0 = .ok (.iload_n 1, 1) := by decide +kernel
theorem dX6_run_1 : decode cX6_run 1 = .ok (.invokestatic 93, 3) := by decide +kernel
theorem dX6_run_4 : decode cX6_run 4 = .ok (.ifCond .eq 5, 3) := by decide +kernel
theorem dX6_run_7 : decode cX6_run 7 = .ok (.iconst (-1), 1) := by decide +kernel
theorem dX6_run_8 : decode cX6_run 8 = .ok (.ireturn, 1) := by decide +kernel
theorem dX6_run_9 : decode cX6_run 9 = .ok (.aload_n 0, 1) := by decide +kernel
theorem dX6_run_10 : decode cX6_run 10 = .ok (.iconst 0, 1) := by decide +kernel
theorem dX6_run_11 : decode cX6_run 11 = .ok (.putfield 161, 3) := by decide +kernel
theorem dX6_run_14 : decode cX6_run 14 = .ok (.aload_n 0, 1) := by decide +kernel
theorem dX6_run_15 : decode cX6_run 15 = .ok (.iconst 1, 1) := by decide +kernel
theorem dX6_run_16 : decode cX6_run 16 = .ok (.putfield 164, 3) := by decide +kernel
theorem dX6_run_19 : decode cX6_run 19 = .ok (.aload_n 0, 1) := by decide +kernel
theorem dX6_run_20 : decode cX6_run 20 = .ok (.iconst 0, 1) := by decide +kernel
theorem dX6_run_21 : decode cX6_run 21 = .ok (.putfield 172, 3) := by decide +kernel
theorem dX6_run_24 : decode cX6_run 24 = .ok (.aload_n 0, 1) := by decide +kernel
theorem dX6_run_25 : decode cX6_run 25 = .ok (.invokevirtual 182, 3) := by decide +kernel
theorem dX6_run_28 : decode cX6_run 28 = .ok (.aload_n 0, 1) := by decide +kernel
theorem dX6_run_29 : decode cX6_run 29 = .ok (.bipush 32, 2) := by decide +kernel
theorem dX6_run_31 : decode cX6_run 31 = .ok (.invokevirtual 175, 3) := by decide +kernel
theorem dX6_run_34 : decode cX6_run 34 = .ok (.ifCond .eq 10, 3) := by decide +kernel
theorem dX6_run_37 : decode cX6_run 37 = .ok (.aload_n 0, 1) := by decide +kernel
theorem dX6_run_38 : decode cX6_run 38 = .ok (.invokevirtual 182, 3) := by decide +kernel
theorem dX6_run_41 : decode cX6_run 41 = .ok (.goto (-13), 3) := by decide +kernel
theorem dX6_run_44 : decode cX6_run 44 = .ok (.aload_n 0, 1) := by decide +kernel
theorem dX6_run_45 : decode cX6_run 45 = .ok (.getfield 164, 3) := by decide +kernel
theorem dX6_run_48 : decode cX6_run 48 = .ok (.ifCond .eq 14, 3) := by decide +kernel
theorem dX6_run_51 : decode cX6_run 51 = .ok (.aload_n 0, 1) := by decide +kernel
theorem dX6_run_52 : decode cX6_run 52 = .ok (.getfield 161, 3) := by decide +kernel
theorem dX6_run_55 : decode cX6_run 55 = .ok (.aload_n 0, 1) := by decide +kernel
theorem dX6_run_56 : decode cX6_run 56 = .ok (.getfield 158, 3) := by decide +kernel
theorem dX6_run_59 : decode cX6_run 59 = .ok (.if_icmp .ge 11, 3) := by decide +kernel
theorem dX6_run_62 : decode cX6_run 62 = .ok (.bipush (-100), 2) := by decide +kernel
theorem dX6_run_64 : decode cX6_run 64 = .ok (.aload_n 0, 1) := by decide +kernel
theorem dX6_run_65 : decode cX6_run 65 = .ok (.getfield 161, 3) := by decide +kernel
theorem dX6_run_68 : decode cX6_run 68 = .ok (.isub, 1) := by decide +kernel
theorem dX6_run_69 : decode cX6_run 69 = .ok (.ireturn, 1) := by decide +kernel
theorem dX6_run_70 : decode cX6_run 70 = .ok (.aload_n 0, 1) := by decide +kernel
theorem dX6_run_71 : decode cX6_run 71 = .ok (.invokevirtual 83, 3) := by decide +kernel
theorem dX6_run_74 : decode cX6_run 74 = .ok (.iconst 0, 1) := by decide +kernel
theorem dX6_run_75 : decode cX6_run 75 = .ok (.istore_n 2, 1) := by decide +kernel
theorem dX6_run_76 : decode cX6_run 76 = .ok (.iload_n 2, 1) := by decide +kernel
theorem dX6_run_77 : decode cX6_run 77 = .ok (.aload_n 0, 1) := by decide +kernel
theorem dX6_run_78 : decode cX6_run 78 = .ok (.getfield 172, 3) := by decide +kernel
theorem dX6_run_81 : decode cX6_run 81 = .ok (.if_icmp .ge 20, 3) := by decide +kernel
theorem dX6_run_84 : decode cX6_run 84 = .ok (.aload_n 0, 1) := by decide +kernel
theorem dX6_run_85 : decode cX6_run 85 = .ok (.iload_n 1, 1) := by decide +kernel
theorem dX6_run_86 : decode cX6_run 86 = .ok (.iconst 4, 1) := by decide +kernel
theorem dX6_run_87 : decode cX6_run 87 = .ok (.iload_n 2, 1) := by decide +kernel
theorem dX6_run_88 : decode cX6_run 88 = .ok (.imul, 1) := by decide +kernel
theorem dX6_run_89 : decode cX6_run 89 = .ok (.invokevirtual 185, 3) := by decide +kernel
theorem dX6_run_92 : decode cX6_run 92 = .ok (.ifCond .lt 9, 3) := by decide +kernel
theorem dX6_run_95 : decode cX6_run 95 = .ok (.iinc 2 1, 3) := by decide +kernel
theorem dX6_run_98 : decode cX6_run 98 = .ok (.goto (-22), 3) := by decide +kernel
theorem dX6_run_101 : decode cX6_run 101 = .ok (.aload_n 0, 1) := by decide +kernel
theorem dX6_run_102 : decode cX6_run 102 = .ok (.iload_n 2, 1) := by decide +kernel
theorem dX6_run_103 : decode cX6_run 103 = .ok (.invokevirtual 90, 3) := by decide +kernel
theorem dX6_run_106 : decode cX6_run 106 = .ok (.ireturn, 1) := by decide +kernel
theorem dX6_isIn_0 : decode cX6_isIn 0 = .ok (.iload_n 1, 1) := by decide +kernel
theorem dX6_isIn_1 : decode cX6_isIn 1 = .ok (.ifCond .eq 29, 3) := by decide +kernel
theorem dX6_isIn_4 : decode cX6_isIn 4 = .ok (.iload_n 1, 1) := by decide +kernel
theorem dX6_isIn_5 : decode cX6_isIn 5 = .ok (.iconst 1, 1) := by decide +kernel
theorem dX6_isIn_6 : decode cX6_isIn 6 = .ok (.if_icmp .ne 15, 3) := by decide +kernel
theorem dX6_isIn_9 : decode cX6_isIn 9 = .ok (.aload_n 0, 1) := by decide +kernel
theorem dX6_isIn_10 : decode cX6_isIn 10 = .ok (.iload_n 2, 1) := by decide +kernel
theorem dX6_isIn_11 : decode cX6_isIn 11 = .ok (.iload_n 3, 1) := by decide +kernel
theorem dX6_isIn_12 : decode cX6_isIn 12 = .ok (.invokevirtual 122, 3) := by decide +kernel
theorem dX6_isIn_15 : decode cX6_isIn 15 = .ok (.ifCond .ne 19, 3) := by decide +kernel
theorem dX6_isIn_18 : decode cX6_isIn 18 = .ok (.goto 12, 3) := by decide +kernel
theorem dX6_isIn_21 : decode cX6_isIn 21 = .ok (.aload_n 0, 1) := by decide +kernel
theorem dX6_isIn_22 : decode cX6_isIn 22 = .ok (.iload_n 2, 1) := by decide +kernel
theorem dX6_isIn_23 : decode cX6_isIn 23 = .ok (.iload_n 3, 1) := by decide +kernel
theorem dX6_isIn_24 : decode cX6_isIn 24 = .ok (.invokevirtual 188, 3) := by decide +kernel
theorem dX6_isIn_27 : decode cX6_isIn 27 = .ok (.ifCond .ne 7, 3) := by decide +kernel
theorem dX6_isIn_30 : decode cX6_isIn 30 = .ok (.iconst 1, 1) := by decide +kernel
theorem dX6_isIn_31 : decode cX6_isIn 31 = .ok (.goto 4, 3) := by decide +kernel
theorem dX6_isIn_34 : decode cX6_isIn 34 = .ok (.iconst 0, 1) := by decide +kernel
theorem dX6_isIn_35 : decode cX6_isIn 35 = .ok (.ireturn, 1) := by decide +kernel
theorem dX6_sizeOf_0 : decode cX6_sizeOf 0 = .ok (.iconst 0, 1) := by decide +kernel
theorem dX6_sizeOf_1 : decode cX6_sizeOf 1 = .ok (.istore_n 3, 1) := by decide +kernel
theorem dX6_sizeOf_2 : decode cX6_sizeOf 2 = .ok (.iconst 0, 1) := by decide +kernel
theorem dX6_sizeOf_3 : decode cX6_sizeOf 3 = .ok (.istore 4, 2) := by decide +kernel
theorem dX6_sizeOf_5 : decode cX6_sizeOf 5 = .ok (.iload 4, 2) := by decide +kernel
theorem dX6_sizeOf_7 : decode cX6_sizeOf 7 = .ok (.aload_n 0, 1) := by decide +kernel
theorem dX6_sizeOf_8 : decode cX6_sizeOf 8 = .ok (.iload_n 2, 1) := by decide +kernel
theorem dX6_sizeOf_9 : decode cX6_sizeOf 9 = .ok (.invokevirtual 34, 3) := by decide +kernel
theorem dX6_sizeOf_12 : decode cX6_sizeOf 12 = .ok (.if_icmp .ge 28, 3) := by decide +kernel
theorem dX6_sizeOf_15 : decode cX6_sizeOf 15 = .ok (.iload_n 3, 1) := by decide +kernel
theorem dX6_sizeOf_16 : decode cX6_sizeOf 16 = .ok (.aload_n 0, 1) := by decide +kernel
theorem dX6_sizeOf_17 : decode cX6_sizeOf 17 = .ok (.iload_n 1, 1) := by decide +kernel
theorem dX6_sizeOf_18 : decode cX6_sizeOf 18 = .ok (.iload_n 2, 1) := by decide +kernel
theorem dX6_sizeOf_19 : decode cX6_sizeOf 19 = .ok (.iload 4, 2) := by decide +kernel
theorem dX6_sizeOf_21 : decode cX6_sizeOf 21 = .ok (.invokevirtual 191, 3) := by decide +kernel
theorem dX6_sizeOf_24 : decode cX6_sizeOf 24 = .ok (.ifCond .eq 7, 3) := by decide +kernel
theorem dX6_sizeOf_27 : decode cX6_sizeOf 27 = .ok (.iconst 1, 1) := by decide +kernel
theorem dX6_sizeOf_28 : decode cX6_sizeOf 28 = .ok (.goto 4, 3) := by decide +kernel
theorem dX6_sizeOf_31 : decode cX6_sizeOf 31 = .ok (.iconst 0, 1) := by decide +kernel
theorem dX6_sizeOf_32 : decode cX6_sizeOf 32 = .ok (.iadd, 1) := by decide +kernel
theorem dX6_sizeOf_33 : decode cX6_sizeOf 33 = .ok (.istore_n 3, 1) := by decide +kernel
theorem dX6_sizeOf_34 : decode cX6_sizeOf 34 = .ok (.iinc 4 1, 3) := by decide +kernel
theorem dX6_sizeOf_37 : decode cX6_sizeOf 37 = .ok (.goto (-32), 3) := by decide +kernel
theorem dX6_sizeOf_40 : decode cX6_sizeOf 40 = .ok (.iload_n 3, 1) := by decide +kernel
theorem dX6_sizeOf_41 : decode cX6_sizeOf 41 = .ok (.ireturn, 1) := by decide +kernel
theorem dX6_size_0 : decode cX6_size 0 = .ok (.iload_n 1, 1) := by decide +kernel
theorem dX6_size_1 : decode cX6_size 1 = .ok (.iconst 0, 1) := by decide +kernel
theorem dX6_size_2 : decode cX6_size 2 = .ok (.iconst 2, 1) := by decide +kernel
theorem dX6_size_3 : decode cX6_size 3 = .ok (.invokestatic 41, 3) := by decide +kernel
theorem dX6_size_6 : decode cX6_size 6 = .ok (.ifCond .eq 21, 3) := by decide +kernel
theorem dX6_size_9 : decode cX6_size 9 = .ok (.iload_n 2, 1) := by decide +kernel
theorem dX6_size_10 : decode cX6_size 10 = .ok (.iconst 0, 1) := by decide +kernel
theorem dX6_size_11 : decode cX6_size 11 = .ok (.iconst 1, 1) := by decide +kernel
theorem dX6_size_12 : decode cX6_size 12 = .ok (.invokestatic 41, 3) := by decide +kernel
theorem dX6_size_15 : decode cX6_size 15 = .ok (.ifCond .eq 12, 3) := by decide +kernel
theorem dX6_size_18 : decode cX6_size 18 = .ok (.aload_n 0, 1) := by decide +kernel
theorem dX6_size_19 : decode cX6_size 19 = .ok (.iload_n 1, 1) := by decide +kernel
theorem dX6_size_20 : decode cX6_size 20 = .ok (.iload_n 2, 1) := by decide +kernel
theorem dX6_size_21 : decode cX6_size 21 = .ok (.invokevirtual 194, 3) := by decide +kernel
theorem dX6_size_24 : decode cX6_size 24 = .ok (.goto 4, 3) := by decide +kernel
theorem dX6_size_27 : decode cX6_size 27 = .ok (.iconst (-1), 1) := by decide +kernel
theorem dX6_size_28 : decode cX6_size 28 = .ok (.ireturn, 1) := by decide +kernel
theorem dX6_fullPlace_0 : decode cX6_fullPlace 0 = .ok (.iload_n 3, 1) := by decide +kernel
theorem dX6_fullPlace_1 : decode cX6_fullPlace 1 = .ok (.istore 4, 2) := by decide +kernel
theorem dX6_fullPlace_3 : decode cX6_fullPlace 3 = .ok (.iconst 0, 1) := by decide +kernel
theorem dX6_fullPlace_4 : decode cX6_fullPlace 4 = .ok (.istore 5, 2) := by decide +kernel
theorem dX6_fullPlace_6 : decode cX6_fullPlace 6 = .ok (.iload 5, 2) := by decide +kernel
theorem dX6_fullPlace_8 : decode cX6_fullPlace 8 = .ok (.aload_n 0, 1) := by decide +kernel
theorem dX6_fullPlace_9 : decode cX6_fullPlace 9 = .ok (.iload_n 2, 1) := by decide +kernel
theorem dX6_fullPlace_10 : decode cX6_fullPlace 10 = .ok (.invokevirtual 34, 3) := by decide +kernel
theorem dX6_fullPlace_13 : decode cX6_fullPlace 13 = .ok (.if_icmp .ge 31, 3) := by decide +kernel
theorem dX6_fullPlace_16 : decode cX6_fullPlace 16 = .ok (.aload_n 0, 1) := by decide +kernel
theorem dX6_fullPlace_17 : decode cX6_fullPlace 17 = .ok (.iload_n 1, 1) := by decide +kernel
theorem dX6_fullPlace_18 : decode cX6_fullPlace 18 = .ok (.iload_n 2, 1) := by decide +kernel
theorem dX6_fullPlace_19 : decode cX6_fullPlace 19 = .ok (.iload 5, 2) := by decide +kernel
theorem dX6_fullPlace_21 : decode cX6_fullPlace 21 = .ok (.invokevirtual 191, 3) := by decide +kernel
theorem dX6_fullPlace_24 : decode cX6_fullPlace 24 = .ok (.ifCond .eq 14, 3) := by decide +kernel
theorem dX6_fullPlace_27 : decode cX6_fullPlace 27 = .ok (.iload 4, 2) := by decide +kernel
theorem dX6_fullPlace_29 : decode cX6_fullPlace 29 = .ok (.ifCond .ne 6, 3) := by decide +kernel
theorem dX6_fullPlace_32 : decode cX6_fullPlace 32 = .ok (.iload 5, 2) := by decide +kernel
theorem dX6_fullPlace_34 : decode cX6_fullPlace 34 = .ok (.ireturn, 1) := by decide +kernel
theorem dX6_fullPlace_35 : decode cX6_fullPlace 35 = .ok (.iinc 4 (-1), 3) := by decide +kernel
theorem dX6_fullPlace_38 : decode cX6_fullPlace 38 = .ok (.iinc 5 1, 3) := by decide +kernel
theorem dX6_fullPlace_41 : decode cX6_fullPlace 41 = .ok (.goto (-35), 3) := by decide +kernel
theorem dX6_fullPlace_44 : decode cX6_fullPlace 44 = .ok (.bipush (-5), 2) := by decide +kernel
theorem dX6_fullPlace_46 : decode cX6_fullPlace 46 = .ok (.ireturn, 1) := by decide +kernel
theorem dX6_valueIn_0 : decode cX6_valueIn 0 = .ok (.iload_n 1, 1) := by decide +kernel
theorem dX6_valueIn_1 : decode cX6_valueIn 1 = .ok (.iconst 2, 1) := by decide +kernel
theorem dX6_valueIn_2 : decode cX6_valueIn 2 = .ok (.if_icmp .ne 17, 3) := by decide +kernel
theorem dX6_valueIn_5 : decode cX6_valueIn 5 = .ok (.aload_n 0, 1) := by decide +kernel
theorem dX6_valueIn_6 : decode cX6_valueIn 6 = .ok (.getfield 7, 3) := by decide +kernel
theorem dX6_valueIn_9 : decode cX6_valueIn 9 = .ok (.aload_n 0, 1) := by decide +kernel
theorem dX6_valueIn_10 : decode cX6_valueIn 10 = .ok (.iload_n 2, 1) := by decide +kernel
theorem dX6_valueIn_11 : decode cX6_valueIn 11 = .ok (.iload_n 3, 1) := by decide +kernel
theorem dX6_valueIn_12 : decode cX6_valueIn 12 = .ok (.invokevirtual 48, 3) := by decide +kernel
theorem dX6_valueIn_15 : decode cX6_valueIn 15 = .ok (.iaload, 1) := by decide +kernel
theorem dX6_valueIn_16 : decode cX6_valueIn 16 = .ok (.goto 26, 3) := by decide +kernel
theorem dX6_valueIn_19 : decode cX6_valueIn 19 = .ok (.aload_n 0, 1) := by decide +kernel
theorem dX6_valueIn_20 : decode cX6_valueIn 20 = .ok (.aload_n 0, 1) := by decide +kernel
theorem dX6_valueIn_21 : decode cX6_valueIn 21 = .ok (.getfield 7, 3) := by decide +kernel
theorem dX6_valueIn_24 : decode cX6_valueIn 24 = .ok (.bipush 51, 2) := by decide +kernel
theorem dX6_valueIn_26 : decode cX6_valueIn 26 = .ok (.iaload, 1) := by decide +kernel
theorem dX6_valueIn_27 : decode cX6_valueIn 27 = .ok (.aload_n 0, 1) := by decide +kernel
theorem dX6_valueIn_28 : decode cX6_valueIn 28 = .ok (.iconst 0, 1) := by decide +kernel
theorem dX6_valueIn_29 : decode cX6_valueIn 29 = .ok (.iload_n 2, 1) := by decide +kernel
theorem dX6_valueIn_30 : decode cX6_valueIn 30 = .ok (.invokevirtual 38, 3) := by decide +kernel
theorem dX6_valueIn_33 : decode cX6_valueIn 33 = .ok (.aload_n 0, 1) := by decide +kernel
theorem dX6_valueIn_34 : decode cX6_valueIn 34 = .ok (.iconst 1, 1) := by decide +kernel
theorem dX6_valueIn_35 : decode cX6_valueIn 35 = .ok (.iload_n 3, 1) := by decide +kernel
theorem dX6_valueIn_36 : decode cX6_valueIn 36 = .ok (.invokevirtual 38, 3) := by decide +kernel
theorem dX6_valueIn_39 : decode cX6_valueIn 39 = .ok (.invokevirtual 128, 3) := by decide +kernel
theorem dX6_valueIn_42 : decode cX6_valueIn 42 = .ok (.ireturn, 1) := by decide +kernel
theorem dX6_cell_0 : decode cX6_cell 0 = .ok (.iload_n 1, 1) := by decide +kernel
theorem dX6_cell_1 : decode cX6_cell 1 = .ok (.iconst 0, 1) := by decide +kernel
theorem dX6_cell_2 : decode cX6_cell 2 = .ok (.iconst 2, 1) := by decide +kernel
theorem dX6_cell_3 : decode cX6_cell 3 = .ok (.invokestatic 41, 3) := by decide +kernel
theorem dX6_cell_6 : decode cX6_cell 6 = .ok (.ifCond .eq 11, 3) := by decide +kernel
theorem dX6_cell_9 : decode cX6_cell 9 = .ok (.iload_n 2, 1) := by decide +kernel
theorem dX6_cell_10 : decode cX6_cell 10 = .ok (.ifCond .lt 7, 3) := by decide +kernel
theorem dX6_cell_13 : decode cX6_cell 13 = .ok (.iload_n 3, 1) := by decide +kernel
theorem dX6_cell_14 : decode cX6_cell 14 = .ok (.ifCond .ge 5, 3) := by decide +kernel
theorem dX6_cell_17 : decode cX6_cell 17 = .ok (.iconst (-1), 1) := by decide +kernel
theorem dX6_cell_18 : decode cX6_cell 18 = .ok (.ireturn, 1) := by decide +kernel
theorem dX6_cell_19 : decode cX6_cell 19 = .ok (.aload_n 0, 1) := by decide +kernel
theorem dX6_cell_20 : decode cX6_cell 20 = .ok (.iload_n 1, 1) := by decide +kernel
theorem dX6_cell_21 : decode cX6_cell 21 = .ok (.iconst 0, 1) := by decide +kernel
theorem dX6_cell_22 : decode cX6_cell 22 = .ok (.iload_n 2, 1) := by decide +kernel
theorem dX6_cell_23 : decode cX6_cell 23 = .ok (.invokevirtual 197, 3) := by decide +kernel
theorem dX6_cell_26 : decode cX6_cell 26 = .ok (.istore 4, 2) := by decide +kernel
theorem dX6_cell_28 : decode cX6_cell 28 = .ok (.aload_n 0, 1) := by decide +kernel
theorem dX6_cell_29 : decode cX6_cell 29 = .ok (.iload_n 1, 1) := by decide +kernel
theorem dX6_cell_30 : decode cX6_cell 30 = .ok (.iconst 1, 1) := by decide +kernel
theorem dX6_cell_31 : decode cX6_cell 31 = .ok (.iload_n 3, 1) := by decide +kernel
theorem dX6_cell_32 : decode cX6_cell 32 = .ok (.invokevirtual 197, 3) := by decide +kernel
theorem dX6_cell_35 : decode cX6_cell 35 = .ok (.istore 5, 2) := by decide +kernel
theorem dX6_cell_37 : decode cX6_cell 37 = .ok (.iload 4, 2) := by decide +kernel
theorem dX6_cell_39 : decode cX6_cell 39 = .ok (.ifCond .lt 8, 3) := by decide +kernel
theorem dX6_cell_42 : decode cX6_cell 42 = .ok (.iload 5, 2) := by decide +kernel
theorem dX6_cell_44 : decode cX6_cell 44 = .ok (.ifCond .ge 7, 3) := by decide +kernel
theorem dX6_cell_47 : decode cX6_cell 47 = .ok (.iconst (-1), 1) := by decide +kernel
theorem dX6_cell_48 : decode cX6_cell 48 = .ok (.goto 12, 3) := by decide +kernel
theorem dX6_cell_51 : decode cX6_cell 51 = .ok (.aload_n 0, 1) := by decide +kernel
theorem dX6_cell_52 : decode cX6_cell 52 = .ok (.iload_n 1, 1) := by decide +kernel
theorem dX6_cell_53 : decode cX6_cell 53 = .ok (.iload 4, 2) := by decide +kernel
theorem dX6_cell_55 : decode cX6_cell 55 = .ok (.iload 5, 2) := by decide +kernel
theorem dX6_cell_57 : decode cX6_cell 57 = .ok (.invokevirtual 200, 3) := by decide +kernel
theorem dX6_cell_60 : decode cX6_cell 60 = .ok (.ireturn, 1) := by decide +kernel
theorem dX6_sum_0 : decode cX6_sum 0 = .ok (.iload_n 1, 1) := by decide +kernel
theorem dX6_sum_1 : decode cX6_sum 1 = .ok (.iconst 0, 1) := by decide +kernel
theorem dX6_sum_2 : decode cX6_sum 2 = .ok (.iconst 2, 1) := by decide +kernel
theorem dX6_sum_3 : decode cX6_sum 3 = .ok (.invokestatic 41, 3) := by decide +kernel
theorem dX6_sum_6 : decode cX6_sum 6 = .ok (.ifCond .ne 5, 3) := by decide +kernel
theorem dX6_sum_9 : decode cX6_sum 9 = .ok (.iconst (-1), 1) := by decide +kernel
theorem dX6_sum_10 : decode cX6_sum 10 = .ok (.ireturn, 1) := by decide +kernel
theorem dX6_sum_11 : decode cX6_sum 11 = .ok (.iconst 0, 1) := by decide +kernel
theorem dX6_sum_12 : decode cX6_sum 12 = .ok (.istore_n 2, 1) := by decide +kernel
theorem dX6_sum_13 : decode cX6_sum 13 = .ok (.iconst 0, 1) := by decide +kernel
theorem dX6_sum_14 : decode cX6_sum 14 = .ok (.istore_n 3, 1) := by decide +kernel
theorem dX6_sum_15 : decode cX6_sum 15 = .ok (.iload_n 3, 1) := by decide +kernel
theorem dX6_sum_16 : decode cX6_sum 16 = .ok (.aload_n 0, 1) := by decide +kernel
theorem dX6_sum_17 : decode cX6_sum 17 = .ok (.iconst 0, 1) := by decide +kernel
theorem dX6_sum_18 : decode cX6_sum 18 = .ok (.invokevirtual 34, 3) := by decide +kernel
theorem dX6_sum_21 : decode cX6_sum 21 = .ok (.if_icmp .ge 64, 3) := by decide +kernel
theorem dX6_sum_24 : decode cX6_sum 24 = .ok (.iconst 0, 1) := by decide +kernel
theorem dX6_sum_25 : decode cX6_sum 25 = .ok (.istore 4, 2) := by decide +kernel
theorem dX6_sum_27 : decode cX6_sum 27 = .ok (.iload 4, 2) := by decide +kernel
theorem dX6_sum_29 : decode cX6_sum 29 = .ok (.aload_n 0, 1) := by decide +kernel
theorem dX6_sum_30 : decode cX6_sum 30 = .ok (.iconst 1, 1) := by decide +kernel
theorem dX6_sum_31 : decode cX6_sum 31 = .ok (.invokevirtual 34, 3) := by decide +kernel
theorem dX6_sum_34 : decode cX6_sum 34 = .ok (.if_icmp .ge 45, 3) := by decide +kernel
theorem dX6_sum_37 : decode cX6_sum 37 = .ok (.iload_n 2, 1) := by decide +kernel
theorem dX6_sum_38 : decode cX6_sum 38 = .ok (.aload_n 0, 1) := by decide +kernel
theorem dX6_sum_39 : decode cX6_sum 39 = .ok (.iload_n 1, 1) := by decide +kernel
theorem dX6_sum_40 : decode cX6_sum 40 = .ok (.iconst 0, 1) := by decide +kernel
theorem dX6_sum_41 : decode cX6_sum 41 = .ok (.iload_n 3, 1) := by decide +kernel
theorem dX6_sum_42 : decode cX6_sum 42 = .ok (.invokevirtual 191, 3) := by decide +kernel
theorem dX6_sum_45 : decode cX6_sum 45 = .ok (.ifCond .eq 25, 3) := by decide +kernel
theorem dX6_sum_48 : decode cX6_sum 48 = .ok (.aload_n 0, 1) := by decide +kernel
theorem dX6_sum_49 : decode cX6_sum 49 = .ok (.iload_n 1, 1) := by decide +kernel
theorem dX6_sum_50 : decode cX6_sum 50 = .ok (.iconst 1, 1) := by decide +kernel
theorem dX6_sum_51 : decode cX6_sum 51 = .ok (.iload 4, 2) := by decide +kernel
theorem dX6_sum_53 : decode cX6_sum 53 = .ok (.invokevirtual 191, 3) := by decide +kernel
theorem dX6_sum_56 : decode cX6_sum 56 = .ok (.ifCond .eq 14, 3) := by decide +kernel
theorem dX6_sum_59 : decode cX6_sum 59 = .ok (.aload_n 0, 1) := by decide +kernel
theorem dX6_sum_60 : decode cX6_sum 60 = .ok (.iload_n 1, 1) := by decide +kernel
theorem dX6_sum_61 : decode cX6_sum 61 = .ok (.iload_n 3, 1) := by decide +kernel
theorem dX6_sum_62 : decode cX6_sum 62 = .ok (.iload 4, 2) := by decide +kernel
theorem dX6_sum_64 : decode cX6_sum 64 = .ok (.invokevirtual 200, 3) := by decide +kernel
theorem dX6_sum_67 : decode cX6_sum 67 = .ok (.goto 4, 3) := by decide +kernel
theorem dX6_sum_70 : decode cX6_sum 70 = .ok (.iconst 0, 1) := by decide +kernel
theorem dX6_sum_71 : decode cX6_sum 71 = .ok (.iadd, 1) := by decide +kernel
theorem dX6_sum_72 : decode cX6_sum 72 = .ok (.istore_n 2, 1) := by decide +kernel
theorem dX6_sum_73 : decode cX6_sum 73 = .ok (.iinc 4 1, 3) := by decide +kernel
theorem dX6_sum_76 : decode cX6_sum 76 = .ok (.goto (-49), 3) := by decide +kernel
theorem dX6_sum_79 : decode cX6_sum 79 = .ok (.iinc 3 1, 3) := by decide +kernel
theorem dX6_sum_82 : decode cX6_sum 82 = .ok (.goto (-67), 3) := by decide +kernel
theorem dX6_sum_85 : decode cX6_sum 85 = .ok (.iload_n 2, 1) := by decide +kernel
theorem dX6_sum_86 : decode cX6_sum 86 = .ok (.ireturn, 1) := by decide +kernel
theorem dX6_placeIn_0 : decode cX6_placeIn 0 = .ok (.iconst 0, 1) := by decide +kernel
theorem dX6_placeIn_1 : decode cX6_placeIn 1 = .ok (.istore 4, 2) := by decide +kernel
theorem dX6_placeIn_3 : decode cX6_placeIn 3 = .ok (.iconst 0, 1) := by decide +kernel
theorem dX6_placeIn_4 : decode cX6_placeIn 4 = .ok (.istore 5, 2) := by decide +kernel
theorem dX6_placeIn_6 : decode cX6_placeIn 6 = .ok (.iload 5, 2) := by decide +kernel
theorem dX6_placeIn_8 : decode cX6_placeIn 8 = .ok (.iload_n 3, 1) := by decide +kernel
theorem dX6_placeIn_9 : decode cX6_placeIn 9 = .ok (.if_icmp .ge 30, 3) := by decide +kernel
theorem dX6_placeIn_12 : decode cX6_placeIn 12 = .ok (.iload 4, 2) := by decide +kernel
theorem dX6_placeIn_14 : decode cX6_placeIn 14 = .ok (.aload_n 0, 1) := by decide +kernel
theorem dX6_placeIn_15 : decode cX6_placeIn 15 = .ok (.iload_n 1, 1) := by decide +kernel
theorem dX6_placeIn_16 : decode cX6_placeIn 16 = .ok (.iload_n 2, 1) := by decide +kernel
theorem dX6_placeIn_17 : decode cX6_placeIn 17 = .ok (.iload 5, 2) := by decide +kernel
theorem dX6_placeIn_19 : decode cX6_placeIn 19 = .ok (.invokevirtual 191, 3) := by decide +kernel
theorem dX6_placeIn_22 : decode cX6_placeIn 22 = .ok (.ifCond .eq 7, 3) := by decide +kernel
theorem dX6_placeIn_25 : decode cX6_placeIn 25 = .ok (.iconst 1, 1) := by decide +kernel
theorem dX6_placeIn_26 : decode cX6_placeIn 26 = .ok (.goto 4, 3) := by decide +kernel
theorem dX6_placeIn_29 : decode cX6_placeIn 29 = .ok (.iconst 0, 1) := by decide +kernel
theorem dX6_placeIn_30 : decode cX6_placeIn 30 = .ok (.iadd, 1) := by decide +kernel
theorem dX6_placeIn_31 : decode cX6_placeIn 31 = .ok (.istore 4, 2) := by decide +kernel
theorem dX6_placeIn_33 : decode cX6_placeIn 33 = .ok (.iinc 5 1, 3) := by decide +kernel
theorem dX6_placeIn_36 : decode cX6_placeIn 36 = .ok (.goto (-30), 3) := by decide +kernel
theorem dX6_placeIn_39 : decode cX6_placeIn 39 = .ok (.aload_n 0, 1) := by decide +kernel
theorem dX6_placeIn_40 : decode cX6_placeIn 40 = .ok (.iload_n 1, 1) := by decide +kernel
theorem dX6_placeIn_41 : decode cX6_placeIn 41 = .ok (.iload_n 2, 1) := by decide +kernel
theorem dX6_placeIn_42 : decode cX6_placeIn 42 = .ok (.iload_n 3, 1) := by decide +kernel
theorem dX6_placeIn_43 : decode cX6_placeIn 43 = .ok (.invokevirtual 191, 3) := by decide +kernel
theorem dX6_placeIn_46 : decode cX6_placeIn 46 = .ok (.ifCond .eq 8, 3) := by decide +kernel
theorem dX6_placeIn_49 : decode cX6_placeIn 49 = .ok (.iload 4, 2) := by decide +kernel
theorem dX6_placeIn_51 : decode cX6_placeIn 51 = .ok (.goto 5, 3) := by decide +kernel
theorem dX6_placeIn_54 : decode cX6_placeIn 54 = .ok (.bipush (-5), 2) := by decide +kernel
theorem dX6_placeIn_56 : decode cX6_placeIn 56 = .ok (.ireturn, 1) := by decide +kernel
theorem dX6_line_0 : decode cX6_line 0 = .ok (.aload_n 0, 1) := by decide +kernel
theorem dX6_line_1 : decode cX6_line 1 = .ok (.iload_n 1, 1) := by decide +kernel
theorem dX6_line_2 : decode cX6_line 2 = .ok (.iload_n 2, 1) := by decide +kernel
theorem dX6_line_3 : decode cX6_line 3 = .ok (.invokevirtual 110, 3) := by decide +kernel
theorem dX6_line_6 : decode cX6_line 6 = .ok (.ifCond .eq 5, 3) := by decide +kernel
theorem dX6_line_9 : decode cX6_line 9 = .ok (.iconst (-1), 1) := by decide +kernel
theorem dX6_line_10 : decode cX6_line 10 = .ok (.ireturn, 1) := by decide +kernel
theorem dX6_line_11 : decode cX6_line 11 = .ok (.iconst 0, 1) := by decide +kernel
theorem dX6_line_12 : decode cX6_line 12 = .ok (.istore 4, 2) := by decide +kernel
theorem dX6_line_14 : decode cX6_line 14 = .ok (.iconst 0, 1) := by decide +kernel
theorem dX6_line_15 : decode cX6_line 15 = .ok (.istore 5, 2) := by decide +kernel
theorem dX6_line_17 : decode cX6_line 17 = .ok (.iload 5, 2) := by decide +kernel
theorem dX6_line_19 : decode cX6_line 19 = .ok (.aload_n 0, 1) := by decide +kernel
theorem dX6_line_20 : decode cX6_line 20 = .ok (.getfield 7, 3) := by decide +kernel
theorem dX6_line_23 : decode cX6_line 23 = .ok (.bipush 51, 2) := by decide +kernel
theorem dX6_line_25 : decode cX6_line 25 = .ok (.iaload, 1) := by decide +kernel
theorem dX6_line_26 : decode cX6_line 26 = .ok (.if_icmp .ge 57, 3) := by decide +kernel
theorem dX6_line_29 : decode cX6_line 29 = .ok (.iload 4, 2) := by decide +kernel
theorem dX6_line_31 : decode cX6_line 31 = .ok (.aload_n 0, 1) := by decide +kernel
theorem dX6_line_32 : decode cX6_line 32 = .ok (.iload 5, 2) := by decide +kernel
theorem dX6_line_34 : decode cX6_line 34 = .ok (.invokevirtual 54, 3) := by decide +kernel
theorem dX6_line_37 : decode cX6_line 37 = .ok (.ifCond .eq 36, 3) := by decide +kernel
theorem dX6_line_40 : decode cX6_line 40 = .ok (.aload_n 0, 1) := by decide +kernel
theorem dX6_line_41 : decode cX6_line 41 = .ok (.iload 5, 2) := by decide +kernel
theorem dX6_line_43 : decode cX6_line 43 = .ok (.sipush 149, 3) := by decide +kernel
theorem dX6_line_46 : decode cX6_line 46 = .ok (.invokevirtual 51, 3) := by decide +kernel
theorem dX6_line_49 : decode cX6_line 49 = .ok (.iconst 4, 1) := by decide +kernel
theorem dX6_line_50 : decode cX6_line 50 = .ok (.if_icmp .ne 23, 3) := by decide +kernel
theorem dX6_line_53 : decode cX6_line 53 = .ok (.aload_n 0, 1) := by decide +kernel
theorem dX6_line_54 : decode cX6_line 54 = .ok (.iload 5, 2) := by decide +kernel
theorem dX6_line_56 : decode cX6_line 56 = .ok (.iload_n 1, 1) := by decide +kernel
theorem dX6_line_57 : decode cX6_line 57 = .ok (.aload_n 0, 1) := by decide +kernel
theorem dX6_line_58 : decode cX6_line 58 = .ok (.iload_n 1, 1) := by decide +kernel
theorem dX6_line_59 : decode cX6_line 59 = .ok (.iload_n 2, 1) := by decide +kernel
theorem dX6_line_60 : decode cX6_line 60 = .ok (.invokevirtual 38, 3) := by decide +kernel
theorem dX6_line_63 : decode cX6_line 63 = .ok (.invokevirtual 80, 3) := by decide +kernel
theorem dX6_line_66 : decode cX6_line 66 = .ok (.ifCond .eq 7, 3) := by decide +kernel
theorem dX6_line_69 : decode cX6_line 69 = .ok (.iconst 1, 1) := by decide +kernel
theorem dX6_line_70 : decode cX6_line 70 = .ok (.goto 4, 3) := by decide +kernel
theorem dX6_line_73 : decode cX6_line 73 = .ok (.iconst 0, 1) := by decide +kernel
theorem dX6_line_74 : decode cX6_line 74 = .ok (.iadd, 1) := by decide +kernel
theorem dX6_line_75 : decode cX6_line 75 = .ok (.istore 4, 2) := by decide +kernel
theorem dX6_line_77 : decode cX6_line 77 = .ok (.iinc 5 1, 3) := by decide +kernel
theorem dX6_line_80 : decode cX6_line 80 = .ok (.goto (-63), 3) := by decide +kernel
theorem dX6_line_83 : decode cX6_line 83 = .ok (.iload_n 3, 1) := by decide +kernel
theorem dX6_line_84 : decode cX6_line 84 = .ok (.tableswitch 69 0 4 #[36, 43, 50, 58, 66], 36) := by decide +kernel
theorem dX6_line_120 : decode cX6_line 120 = .ok (.aload_n 0, 1) := by decide +kernel
theorem dX6_line_121 : decode cX6_line 121 = .ok (.iload_n 1, 1) := by decide +kernel
theorem dX6_line_122 : decode cX6_line 122 = .ok (.iload_n 2, 1) := by decide +kernel
theorem dX6_line_123 : decode cX6_line 123 = .ok (.invokevirtual 61, 3) := by decide +kernel
theorem dX6_line_126 : decode cX6_line 126 = .ok (.ireturn, 1) := by decide +kernel
theorem dX6_line_127 : decode cX6_line 127 = .ok (.aload_n 0, 1) := by decide +kernel
theorem dX6_line_128 : decode cX6_line 128 = .ok (.iload_n 1, 1) := by decide +kernel
theorem dX6_line_129 : decode cX6_line 129 = .ok (.iload_n 2, 1) := by decide +kernel
theorem dX6_line_130 : decode cX6_line 130 = .ok (.invokevirtual 64, 3) := by decide +kernel
theorem dX6_line_133 : decode cX6_line 133 = .ok (.ireturn, 1) := by decide +kernel
theorem dX6_line_134 : decode cX6_line 134 = .ok (.aload_n 0, 1) := by decide +kernel
theorem dX6_line_135 : decode cX6_line 135 = .ok (.iconst 1, 1) := by decide +kernel
theorem dX6_line_136 : decode cX6_line 136 = .ok (.iload_n 1, 1) := by decide +kernel
theorem dX6_line_137 : decode cX6_line 137 = .ok (.iload_n 2, 1) := by decide +kernel
theorem dX6_line_138 : decode cX6_line 138 = .ok (.invokevirtual 203, 3) := by decide +kernel
theorem dX6_line_141 : decode cX6_line 141 = .ok (.ireturn, 1) := by decide +kernel
theorem dX6_line_142 : decode cX6_line 142 = .ok (.aload_n 0, 1) := by decide +kernel
theorem dX6_line_143 : decode cX6_line 143 = .ok (.iconst 2, 1) := by decide +kernel
theorem dX6_line_144 : decode cX6_line 144 = .ok (.iload_n 1, 1) := by decide +kernel
theorem dX6_line_145 : decode cX6_line 145 = .ok (.iload_n 2, 1) := by decide +kernel
theorem dX6_line_146 : decode cX6_line 146 = .ok (.invokevirtual 203, 3) := by decide +kernel
theorem dX6_line_149 : decode cX6_line 149 = .ok (.ireturn, 1) := by decide +kernel
theorem dX6_line_150 : decode cX6_line 150 = .ok (.iload 4, 2) := by decide +kernel
theorem dX6_line_152 : decode cX6_line 152 = .ok (.ireturn, 1) := by decide +kernel
theorem dX6_line_153 : decode cX6_line 153 = .ok (.bipush (-2), 2) := by decide +kernel
theorem dX6_line_155 : decode cX6_line 155 = .ok (.ireturn, 1) := by decide +kernel
theorem dX6_setting_0 : decode cX6_setting 0 = .ok (.aload_n 0, 1) := by decide +kernel
theorem dX6_setting_1 : decode cX6_setting 1 = .ok (.iconst 0, 1) := by decide +kernel
theorem dX6_setting_2 : decode cX6_setting 2 = .ok (.iload_n 1, 1) := by decide +kernel
theorem dX6_setting_3 : decode cX6_setting 3 = .ok (.invokevirtual 110, 3) := by decide +kernel
theorem dX6_setting_6 : decode cX6_setting 6 = .ok (.ifCond .ne 12, 3) := by decide +kernel
theorem dX6_setting_9 : decode cX6_setting 9 = .ok (.aload_n 0, 1) := by decide +kernel
theorem dX6_setting_10 : decode cX6_setting 10 = .ok (.iconst 1, 1) := by decide +kernel
theorem dX6_setting_11 : decode cX6_setting 11 = .ok (.iload_n 2, 1) := by decide +kernel
theorem dX6_setting_12 : decode cX6_setting 12 = .ok (.invokevirtual 110, 3) := by decide +kernel
theorem dX6_setting_15 : decode cX6_setting 15 = .ok (.ifCond .eq 5, 3) := by decide +kernel
theorem dX6_setting_18 : decode cX6_setting 18 = .ok (.iconst (-1), 1) := by decide +kernel
theorem dX6_setting_19 : decode cX6_setting 19 = .ok (.ireturn, 1) := by decide +kernel
theorem dX6_setting_20 : decode cX6_setting 20 = .ok (.iload_n 3, 1) := by decide +kernel
theorem dX6_setting_21 : decode cX6_setting 21 = .ok (.ifCond .ge 6, 3) := by decide +kernel
theorem dX6_setting_24 : decode cX6_setting 24 = .ok (.bipush (-2), 2) := by decide +kernel
theorem dX6_setting_26 : decode cX6_setting 26 = .ok (.ireturn, 1) := by decide +kernel
theorem dX6_setting_27 : decode cX6_setting 27 = .ok (.iload_n 3, 1) := by decide +kernel
theorem dX6_setting_28 : decode cX6_setting 28 = .ok (.istore 4, 2) := by decide +kernel
theorem dX6_setting_30 : decode cX6_setting 30 = .ok (.iconst 0, 1) := by decide +kernel
theorem dX6_setting_31 : decode cX6_setting 31 = .ok (.istore 5, 2) := by decide +kernel
theorem dX6_setting_33 : decode cX6_setting 33 = .ok (.iload 5, 2) := by decide +kernel
theorem dX6_setting_35 : decode cX6_setting 35 = .ok (.aload_n 0, 1) := by decide +kernel
theorem dX6_setting_36 : decode cX6_setting 36 = .ok (.getfield 7, 3) := by decide +kernel
theorem dX6_setting_39 : decode cX6_setting 39 = .ok (.bipush 51, 2) := by decide +kernel
theorem dX6_setting_41 : decode cX6_setting 41 = .ok (.iaload, 1) := by decide +kernel
theorem dX6_setting_42 : decode cX6_setting 42 = .ok (.if_icmp .ge 41, 3) := by decide +kernel
theorem dX6_setting_45 : decode cX6_setting 45 = .ok (.aload_n 0, 1) := by decide +kernel
theorem dX6_setting_46 : decode cX6_setting 46 = .ok (.iload 5, 2) := by decide +kernel
theorem dX6_setting_48 : decode cX6_setting 48 = .ok (.aload_n 0, 1) := by decide +kernel
theorem dX6_setting_49 : decode cX6_setting 49 = .ok (.iconst 0, 1) := by decide +kernel
theorem dX6_setting_50 : decode cX6_setting 50 = .ok (.iload_n 1, 1) := by decide +kernel
theorem dX6_setting_51 : decode cX6_setting 51 = .ok (.invokevirtual 38, 3) := by decide +kernel
theorem dX6_setting_54 : decode cX6_setting 54 = .ok (.aload_n 0, 1) := by decide +kernel
theorem dX6_setting_55 : decode cX6_setting 55 = .ok (.iconst 1, 1) := by decide +kernel
theorem dX6_setting_56 : decode cX6_setting 56 = .ok (.iload_n 2, 1) := by decide +kernel
theorem dX6_setting_57 : decode cX6_setting 57 = .ok (.invokevirtual 38, 3) := by decide +kernel
theorem dX6_setting_60 : decode cX6_setting 60 = .ok (.invokevirtual 67, 3) := by decide +kernel
theorem dX6_setting_63 : decode cX6_setting 63 = .ok (.ifCond .eq 14, 3) := by decide +kernel
theorem dX6_setting_66 : decode cX6_setting 66 = .ok (.iload 4, 2) := by decide +kernel
theorem dX6_setting_68 : decode cX6_setting 68 = .ok (.ifCond .ne 6, 3) := by decide +kernel
theorem dX6_setting_71 : decode cX6_setting 71 = .ok (.iload 5, 2) := by decide +kernel
theorem dX6_setting_73 : decode cX6_setting 73 = .ok (.ireturn, 1) := by decide +kernel
theorem dX6_setting_74 : decode cX6_setting 74 = .ok (.iinc 4 (-1), 3) := by decide +kernel
theorem dX6_setting_77 : decode cX6_setting 77 = .ok (.iinc 5 1, 3) := by decide +kernel
theorem dX6_setting_80 : decode cX6_setting 80 = .ok (.goto (-47), 3) := by decide +kernel
theorem dX6_setting_83 : decode cX6_setting 83 = .ok (.bipush (-5), 2) := by decide +kernel
theorem dX6_setting_85 : decode cX6_setting 85 = .ok (.ireturn, 1) := by decide +kernel
theorem dX6_rowPlace_0 : decode cX6_rowPlace 0 = .ok (.aload_n 0, 1) := by decide +kernel
theorem dX6_rowPlace_1 : decode cX6_rowPlace 1 = .ok (.iload_n 1, 1) := by decide +kernel
theorem dX6_rowPlace_2 : decode cX6_rowPlace 2 = .ok (.sipush 329, 3) := by decide +kernel
theorem dX6_rowPlace_5 : decode cX6_rowPlace 5 = .ok (.invokevirtual 51, 3) := by decide +kernel
theorem dX6_rowPlace_8 : decode cX6_rowPlace 8 = .ok (.ifCond .ge 8, 3) := by decide +kernel
theorem dX6_rowPlace_11 : decode cX6_rowPlace 11 = .ok (.bipush (-5), 2) := by decide +kernel
theorem dX6_rowPlace_13 : decode cX6_rowPlace 13 = .ok (.goto 16, 3) := by decide +kernel
theorem dX6_rowPlace_16 : decode cX6_rowPlace 16 = .ok (.aload_n 0, 1) := by decide +kernel
theorem dX6_rowPlace_17 : decode cX6_rowPlace 17 = .ok (.iconst 0, 1) := by decide +kernel
theorem dX6_rowPlace_18 : decode cX6_rowPlace 18 = .ok (.aload_n 0, 1) := by decide +kernel
theorem dX6_rowPlace_19 : decode cX6_rowPlace 19 = .ok (.iload_n 1, 1) := by decide +kernel
theorem dX6_rowPlace_20 : decode cX6_rowPlace 20 = .ok (.sipush 329, 3) := by decide +kernel
theorem dX6_rowPlace_23 : decode cX6_rowPlace 23 = .ok (.invokevirtual 51, 3) := by decide +kernel
theorem dX6_rowPlace_26 : decode cX6_rowPlace 26 = .ok (.invokevirtual 70, 3) := by decide +kernel
theorem dX6_rowPlace_29 : decode cX6_rowPlace 29 = .ok (.ireturn, 1) := by decide +kernel
theorem dX6_columnPlace_0 : decode cX6_columnPlace 0 = .ok (.aload_n 0, 1) := by decide +kernel
theorem dX6_columnPlace_1 : decode cX6_columnPlace 1 = .ok (.iload_n 1, 1) := by decide +kernel
theorem dX6_columnPlace_2 : decode cX6_columnPlace 2 = .ok (.sipush 389, 3) := by decide +kernel
theorem dX6_columnPlace_5 : decode cX6_columnPlace 5 = .ok (.invokevirtual 51, 3) := by decide +kernel
theorem dX6_columnPlace_8 : decode cX6_columnPlace 8 = .ok (.ifCond .ge 8, 3) := by decide +kernel
theorem dX6_columnPlace_11 : decode cX6_columnPlace 11 = .ok (.bipush (-5), 2) := by decide +kernel
theorem dX6_columnPlace_13 : decode cX6_columnPlace 13 = .ok (.goto 16, 3) := by decide +kernel
theorem dX6_columnPlace_16 : decode cX6_columnPlace 16 = .ok (.aload_n 0, 1) := by decide +kernel
theorem dX6_columnPlace_17 : decode cX6_columnPlace 17 = .ok (.iconst 1, 1) := by decide +kernel
theorem dX6_columnPlace_18 : decode cX6_columnPlace 18 = .ok (.aload_n 0, 1) := by decide +kernel
theorem dX6_columnPlace_19 : decode cX6_columnPlace 19 = .ok (.iload_n 1, 1) := by decide +kernel
theorem dX6_columnPlace_20 : decode cX6_columnPlace 20 = .ok (.sipush 389, 3) := by decide +kernel
theorem dX6_columnPlace_23 : decode cX6_columnPlace 23 = .ok (.invokevirtual 51, 3) := by decide +kernel
theorem dX6_columnPlace_26 : decode cX6_columnPlace 26 = .ok (.invokevirtual 70, 3) := by decide +kernel
theorem dX6_columnPlace_29 : decode cX6_columnPlace 29 = .ok (.ireturn, 1) := by decide +kernel
theorem dX6_change_0 : decode cX6_change 0 = .ok (.aload_n 0, 1) := by decide +kernel
theorem dX6_change_1 : decode cX6_change 1 = .ok (.iload_n 1, 1) := by decide +kernel
theorem dX6_change_2 : decode cX6_change 2 = .ok (.invokevirtual 142, 3) := by decide +kernel
theorem dX6_change_5 : decode cX6_change 5 = .ok (.ifCond .eq 5, 3) := by decide +kernel
theorem dX6_change_8 : decode cX6_change 8 = .ok (.iconst (-1), 1) := by decide +kernel
theorem dX6_change_9 : decode cX6_change 9 = .ok (.ireturn, 1) := by decide +kernel
theorem dX6_change_10 : decode cX6_change 10 = .ok (.iconst 0, 1) := by decide +kernel
theorem dX6_change_11 : decode cX6_change 11 = .ok (.istore_n 3, 1) := by decide +kernel
theorem dX6_change_12 : decode cX6_change 12 = .ok (.iconst 0, 1) := by decide +kernel
theorem dX6_change_13 : decode cX6_change 13 = .ok (.istore 4, 2) := by decide +kernel
theorem dX6_change_15 : decode cX6_change 15 = .ok (.iconst 0, 1) := by decide +kernel
theorem dX6_change_16 : decode cX6_change 16 = .ok (.istore 5, 2) := by decide +kernel
theorem dX6_change_18 : decode cX6_change 18 = .ok (.iload 5, 2) := by decide +kernel
theorem dX6_change_20 : decode cX6_change 20 = .ok (.aload_n 0, 1) := by decide +kernel
theorem dX6_change_21 : decode cX6_change 21 = .ok (.getfield 7, 3) := by decide +kernel
theorem dX6_change_24 : decode cX6_change 24 = .ok (.bipush 51, 2) := by decide +kernel
theorem dX6_change_26 : decode cX6_change 26 = .ok (.iaload, 1) := by decide +kernel
theorem dX6_change_27 : decode cX6_change 27 = .ok (.if_icmp .ge 47, 3) := by decide +kernel
theorem dX6_change_30 : decode cX6_change 30 = .ok (.iload_n 3, 1) := by decide +kernel
theorem dX6_change_31 : decode cX6_change 31 = .ok (.aload_n 0, 1) := by decide +kernel
theorem dX6_change_32 : decode cX6_change 32 = .ok (.iload_n 1, 1) := by decide +kernel
theorem dX6_change_33 : decode cX6_change 33 = .ok (.iload 5, 2) := by decide +kernel
theorem dX6_change_35 : decode cX6_change 35 = .ok (.invokevirtual 135, 3) := by decide +kernel
theorem dX6_change_38 : decode cX6_change 38 = .ok (.ifCond .eq 7, 3) := by decide +kernel
theorem dX6_change_41 : decode cX6_change 41 = .ok (.iconst 1, 1) := by decide +kernel
theorem dX6_change_42 : decode cX6_change 42 = .ok (.goto 4, 3) := by decide +kernel
theorem dX6_change_45 : decode cX6_change 45 = .ok (.iconst 0, 1) := by decide +kernel
theorem dX6_change_46 : decode cX6_change 46 = .ok (.iadd, 1) := by decide +kernel
theorem dX6_change_47 : decode cX6_change 47 = .ok (.istore_n 3, 1) := by decide +kernel
theorem dX6_change_48 : decode cX6_change 48 = .ok (.iload 4, 2) := by decide +kernel
theorem dX6_change_50 : decode cX6_change 50 = .ok (.aload_n 0, 1) := by decide +kernel
theorem dX6_change_51 : decode cX6_change 51 = .ok (.iload 5, 2) := by decide +kernel
theorem dX6_change_53 : decode cX6_change 53 = .ok (.iload_n 1, 1) := by decide +kernel
theorem dX6_change_54 : decode cX6_change 54 = .ok (.invokevirtual 135, 3) := by decide +kernel
theorem dX6_change_57 : decode cX6_change 57 = .ok (.ifCond .eq 7, 3) := by decide +kernel
theorem dX6_change_60 : decode cX6_change 60 = .ok (.iconst 1, 1) := by decide +kernel
theorem dX6_change_61 : decode cX6_change 61 = .ok (.goto 4, 3) := by decide +kernel
theorem dX6_change_64 : decode cX6_change 64 = .ok (.iconst 0, 1) := by decide +kernel
theorem dX6_change_65 : decode cX6_change 65 = .ok (.iadd, 1) := by decide +kernel
theorem dX6_change_66 : decode cX6_change 66 = .ok (.istore 4, 2) := by decide +kernel
theorem dX6_change_68 : decode cX6_change 68 = .ok (.iinc 5 1, 3) := by decide +kernel
theorem dX6_change_71 : decode cX6_change 71 = .ok (.goto (-53), 3) := by decide +kernel
theorem dX6_change_74 : decode cX6_change 74 = .ok (.aload_n 0, 1) := by decide +kernel
theorem dX6_change_75 : decode cX6_change 75 = .ok (.iload_n 1, 1) := by decide +kernel
theorem dX6_change_76 : decode cX6_change 76 = .ok (.sipush 149, 3) := by decide +kernel
theorem dX6_change_79 : decode cX6_change 79 = .ok (.invokevirtual 51, 3) := by decide +kernel
theorem dX6_change_82 : decode cX6_change 82 = .ok (.iconst 4, 1) := by decide +kernel
theorem dX6_change_83 : decode cX6_change 83 = .ok (.if_icmp .ne 7, 3) := by decide +kernel
theorem dX6_change_86 : decode cX6_change 86 = .ok (.iconst 1, 1) := by decide +kernel
theorem dX6_change_87 : decode cX6_change 87 = .ok (.goto 4, 3) := by decide +kernel
theorem dX6_change_90 : decode cX6_change 90 = .ok (.iconst 0, 1) := by decide +kernel
theorem dX6_change_91 : decode cX6_change 91 = .ok (.istore 5, 2) := by decide +kernel
theorem dX6_change_93 : decode cX6_change 93 = .ok (.iload_n 2, 1) := by decide +kernel
theorem dX6_change_94 : decode cX6_change 94 = .ok (.tableswitch 153 0 8 #[50, 59, 68, 77, 83, 89, 108, 148, 150], 50) := by decide +kernel
theorem dX6_change_144 : decode cX6_change 144 = .ok (.aload_n 0, 1) := by decide +kernel
theorem dX6_change_145 : decode cX6_change 145 = .ok (.iload_n 1, 1) := by decide +kernel
theorem dX6_change_146 : decode cX6_change 146 = .ok (.sipush 149, 3) := by decide +kernel
theorem dX6_change_149 : decode cX6_change 149 = .ok (.invokevirtual 51, 3) := by decide +kernel
theorem dX6_change_152 : decode cX6_change 152 = .ok (.ireturn, 1) := by decide +kernel
theorem dX6_change_153 : decode cX6_change 153 = .ok (.aload_n 0, 1) := by decide +kernel
theorem dX6_change_154 : decode cX6_change 154 = .ok (.iload_n 1, 1) := by decide +kernel
theorem dX6_change_155 : decode cX6_change 155 = .ok (.sipush 209, 3) := by decide +kernel
theorem dX6_change_158 : decode cX6_change 158 = .ok (.invokevirtual 51, 3) := by decide +kernel
theorem dX6_change_161 : decode cX6_change 161 = .ok (.ireturn, 1) := by decide +kernel
theorem dX6_change_162 : decode cX6_change 162 = .ok (.aload_n 0, 1) := by decide +kernel
theorem dX6_change_163 : decode cX6_change 163 = .ok (.iload_n 1, 1) := by decide +kernel
theorem dX6_change_164 : decode cX6_change 164 = .ok (.sipush 269, 3) := by decide +kernel
theorem dX6_change_167 : decode cX6_change 167 = .ok (.invokevirtual 51, 3) := by decide +kernel
theorem dX6_change_170 : decode cX6_change 170 = .ok (.ireturn, 1) := by decide +kernel
theorem dX6_change_171 : decode cX6_change 171 = .ok (.aload_n 0, 1) := by decide +kernel
theorem dX6_change_172 : decode cX6_change 172 = .ok (.iload_n 1, 1) := by decide +kernel
theorem dX6_change_173 : decode cX6_change 173 = .ok (.invokevirtual 206, 3) := by decide +kernel
theorem dX6_change_176 : decode cX6_change 176 = .ok (.ireturn, 1) := by decide +kernel
theorem dX6_change_177 : decode cX6_change 177 = .ok (.aload_n 0, 1) := by decide +kernel
theorem dX6_change_178 : decode cX6_change 178 = .ok (.iload_n 1, 1) := by decide +kernel
theorem dX6_change_179 : decode cX6_change 179 = .ok (.invokevirtual 209, 3) := by decide +kernel
theorem dX6_change_182 : decode cX6_change 182 = .ok (.ireturn, 1) := by decide +kernel
theorem dX6_change_183 : decode cX6_change 183 = .ok (.iload 5, 2) := by decide +kernel
theorem dX6_change_185 : decode cX6_change 185 = .ok (.ifCond .eq 14, 3) := by decide +kernel
theorem dX6_change_188 : decode cX6_change 188 = .ok (.aload_n 0, 1) := by decide +kernel
theorem dX6_change_189 : decode cX6_change 189 = .ok (.iload_n 1, 1) := by decide +kernel
theorem dX6_change_190 : decode cX6_change 190 = .ok (.sipush 449, 3) := by decide +kernel
theorem dX6_change_193 : decode cX6_change 193 = .ok (.invokevirtual 51, 3) := by decide +kernel
theorem dX6_change_196 : decode cX6_change 196 = .ok (.goto 5, 3) := by decide +kernel
theorem dX6_change_199 : decode cX6_change 199 = .ok (.bipush (-5), 2) := by decide +kernel
theorem dX6_change_201 : decode cX6_change 201 = .ok (.ireturn, 1) := by decide +kernel
theorem dX6_change_202 : decode cX6_change 202 = .ok (.iload 5, 2) := by decide +kernel
theorem dX6_change_204 : decode cX6_change 204 = .ok (.ifCond .eq 35, 3) := by decide +kernel
theorem dX6_change_207 : decode cX6_change 207 = .ok (.aload_n 0, 1) := by decide +kernel
theorem dX6_change_208 : decode cX6_change 208 = .ok (.iload_n 1, 1) := by decide +kernel
theorem dX6_change_209 : decode cX6_change 209 = .ok (.invokevirtual 54, 3) := by decide +kernel
theorem dX6_change_212 : decode cX6_change 212 = .ok (.ifCond .eq 27, 3) := by decide +kernel
theorem dX6_change_215 : decode cX6_change 215 = .ok (.aload_n 0, 1) := by decide +kernel
theorem dX6_change_216 : decode cX6_change 216 = .ok (.iload_n 1, 1) := by decide +kernel
theorem dX6_change_217 : decode cX6_change 217 = .ok (.aload_n 0, 1) := by decide +kernel
theorem dX6_change_218 : decode cX6_change 218 = .ok (.iload_n 1, 1) := by decide +kernel
theorem dX6_change_219 : decode cX6_change 219 = .ok (.sipush 329, 3) := by decide +kernel
theorem dX6_change_222 : decode cX6_change 222 = .ok (.invokevirtual 51, 3) := by decide +kernel
theorem dX6_change_225 : decode cX6_change 225 = .ok (.aload_n 0, 1) := by decide +kernel
theorem dX6_change_226 : decode cX6_change 226 = .ok (.iload_n 1, 1) := by decide +kernel
theorem dX6_change_227 : decode cX6_change 227 = .ok (.sipush 389, 3) := by decide +kernel
theorem dX6_change_230 : decode cX6_change 230 = .ok (.invokevirtual 51, 3) := by decide +kernel
theorem dX6_change_233 : decode cX6_change 233 = .ok (.invokevirtual 128, 3) := by decide +kernel
theorem dX6_change_236 : decode cX6_change 236 = .ok (.goto 5, 3) := by decide +kernel
theorem dX6_change_239 : decode cX6_change 239 = .ok (.bipush (-5), 2) := by decide +kernel
theorem dX6_change_241 : decode cX6_change 241 = .ok (.ireturn, 1) := by decide +kernel
theorem dX6_change_242 : decode cX6_change 242 = .ok (.iload_n 3, 1) := by decide +kernel
theorem dX6_change_243 : decode cX6_change 243 = .ok (.ireturn, 1) := by decide +kernel
theorem dX6_change_244 : decode cX6_change 244 = .ok (.iload 4, 2) := by decide +kernel
theorem dX6_change_246 : decode cX6_change 246 = .ok (.ireturn, 1) := by decide +kernel
theorem dX6_change_247 : decode cX6_change 247 = .ok (.bipush (-2), 2) := by decide +kernel
theorem dX6_change_249 : decode cX6_change 249 = .ok (.ireturn, 1) := by decide +kernel
theorem dX6_restsOn_0 : decode cX6_restsOn 0 = .ok (.aload_n 0, 1) := by decide +kernel
theorem dX6_restsOn_1 : decode cX6_restsOn 1 = .ok (.iload_n 1, 1) := by decide +kernel
theorem dX6_restsOn_2 : decode cX6_restsOn 2 = .ok (.invokevirtual 142, 3) := by decide +kernel
theorem dX6_restsOn_5 : decode cX6_restsOn 5 = .ok (.ifCond .ne 11, 3) := by decide +kernel
theorem dX6_restsOn_8 : decode cX6_restsOn 8 = .ok (.aload_n 0, 1) := by decide +kernel
theorem dX6_restsOn_9 : decode cX6_restsOn 9 = .ok (.iload_n 2, 1) := by decide +kernel
theorem dX6_restsOn_10 : decode cX6_restsOn 10 = .ok (.invokevirtual 142, 3) := by decide +kernel
theorem dX6_restsOn_13 : decode cX6_restsOn 13 = .ok (.ifCond .eq 5, 3) := by decide +kernel
theorem dX6_restsOn_16 : decode cX6_restsOn 16 = .ok (.iconst (-1), 1) := by decide +kernel
theorem dX6_restsOn_17 : decode cX6_restsOn 17 = .ok (.ireturn, 1) := by decide +kernel
theorem dX6_restsOn_18 : decode cX6_restsOn 18 = .ok (.iload_n 1, 1) := by decide +kernel
theorem dX6_restsOn_19 : decode cX6_restsOn 19 = .ok (.iload_n 2, 1) := by decide +kernel
theorem dX6_restsOn_20 : decode cX6_restsOn 20 = .ok (.if_icmp .ne 8, 3) := by decide +kernel
theorem dX6_restsOn_23 : decode cX6_restsOn 23 = .ok (.bipush (-2), 2) := by decide +kernel
theorem dX6_restsOn_25 : decode cX6_restsOn 25 = .ok (.goto 17, 3) := by decide +kernel
theorem dX6_restsOn_28 : decode cX6_restsOn 28 = .ok (.aload_n 0, 1) := by decide +kernel
theorem dX6_restsOn_29 : decode cX6_restsOn 29 = .ok (.iload_n 1, 1) := by decide +kernel
theorem dX6_restsOn_30 : decode cX6_restsOn 30 = .ok (.iload_n 2, 1) := by decide +kernel
theorem dX6_restsOn_31 : decode cX6_restsOn 31 = .ok (.invokevirtual 135, 3) := by decide +kernel
theorem dX6_restsOn_34 : decode cX6_restsOn 34 = .ok (.ifCond .eq 7, 3) := by decide +kernel
theorem dX6_restsOn_37 : decode cX6_restsOn 37 = .ok (.iconst 1, 1) := by decide +kernel
theorem dX6_restsOn_38 : decode cX6_restsOn 38 = .ok (.goto 4, 3) := by decide +kernel
theorem dX6_restsOn_41 : decode cX6_restsOn 41 = .ok (.iconst 0, 1) := by decide +kernel
theorem dX6_restsOn_42 : decode cX6_restsOn 42 = .ok (.ireturn, 1) := by decide +kernel
theorem dX6_isReadAhead_0 : decode cX6_isReadAhead 0 = .ok (.aload_n 0, 1) := by decide +kernel
theorem dX6_isReadAhead_1 : decode cX6_isReadAhead 1 = .ok (.iload_n 1, 1) := by decide +kernel
theorem dX6_isReadAhead_2 : decode cX6_isReadAhead 2 = .ok (.sipush 149, 3) := by decide +kernel
theorem dX6_isReadAhead_5 : decode cX6_isReadAhead 5 = .ok (.invokevirtual 51, 3) := by decide +kernel
theorem dX6_isReadAhead_8 : decode cX6_isReadAhead 8 = .ok (.iconst 2, 1) := by decide +kernel
theorem dX6_isReadAhead_9 : decode cX6_isReadAhead 9 = .ok (.idiv, 1) := by decide +kernel
theorem dX6_isReadAhead_10 : decode cX6_isReadAhead 10 = .ok (.istore_n 3, 1) := by decide +kernel
theorem dX6_isReadAhead_11 : decode cX6_isReadAhead 11 = .ok (.aload_n 0, 1) := by decide +kernel
theorem dX6_isReadAhead_12 : decode cX6_isReadAhead 12 = .ok (.iload_n 2, 1) := by decide +kernel
theorem dX6_isReadAhead_13 : decode cX6_isReadAhead 13 = .ok (.sipush 149, 3) := by decide +kernel
theorem dX6_isReadAhead_16 : decode cX6_isReadAhead 16 = .ok (.invokevirtual 51, 3) := by decide +kernel
theorem dX6_isReadAhead_19 : decode cX6_isReadAhead 19 = .ok (.iconst 2, 1) := by decide +kernel
theorem dX6_isReadAhead_20 : decode cX6_isReadAhead 20 = .ok (.idiv, 1) := by decide +kernel
theorem dX6_isReadAhead_21 : decode cX6_isReadAhead 21 = .ok (.istore 4, 2) := by decide +kernel
theorem dX6_isReadAhead_23 : decode cX6_isReadAhead 23 = .ok (.iload_n 3, 1) := by decide +kernel
theorem dX6_isReadAhead_24 : decode cX6_isReadAhead 24 = .ok (.iload 4, 2) := by decide +kernel
theorem dX6_isReadAhead_26 : decode cX6_isReadAhead 26 = .ok (.if_icmp .eq 15, 3) := by decide +kernel
theorem dX6_isReadAhead_29 : decode cX6_isReadAhead 29 = .ok (.iload_n 3, 1) := by decide +kernel
theorem dX6_isReadAhead_30 : decode cX6_isReadAhead 30 = .ok (.iload 4, 2) := by decide +kernel
theorem dX6_isReadAhead_32 : decode cX6_isReadAhead 32 = .ok (.if_icmp .ge 7, 3) := by decide +kernel
theorem dX6_isReadAhead_35 : decode cX6_isReadAhead 35 = .ok (.iconst 1, 1) := by decide +kernel
theorem dX6_isReadAhead_36 : decode cX6_isReadAhead 36 = .ok (.goto 4, 3) := by decide +kernel
theorem dX6_isReadAhead_39 : decode cX6_isReadAhead 39 = .ok (.iconst 0, 1) := by decide +kernel
theorem dX6_isReadAhead_40 : decode cX6_isReadAhead 40 = .ok (.ireturn, 1) := by decide +kernel
theorem dX6_isReadAhead_41 : decode cX6_isReadAhead 41 = .ok (.aload_n 0, 1) := by decide +kernel
theorem dX6_isReadAhead_42 : decode cX6_isReadAhead 42 = .ok (.iload_n 1, 1) := by decide +kernel
theorem dX6_isReadAhead_43 : decode cX6_isReadAhead 43 = .ok (.invokevirtual 206, 3) := by decide +kernel
theorem dX6_isReadAhead_46 : decode cX6_isReadAhead 46 = .ok (.aload_n 0, 1) := by decide +kernel
theorem dX6_isReadAhead_47 : decode cX6_isReadAhead 47 = .ok (.iload_n 2, 1) := by decide +kernel
theorem dX6_isReadAhead_48 : decode cX6_isReadAhead 48 = .ok (.invokevirtual 206, 3) := by decide +kernel
theorem dX6_isReadAhead_51 : decode cX6_isReadAhead 51 = .ok (.if_icmp .eq 22, 3) := by decide +kernel
theorem dX6_isReadAhead_54 : decode cX6_isReadAhead 54 = .ok (.aload_n 0, 1) := by decide +kernel
theorem dX6_isReadAhead_55 : decode cX6_isReadAhead 55 = .ok (.iload_n 1, 1) := by decide +kernel
theorem dX6_isReadAhead_56 : decode cX6_isReadAhead 56 = .ok (.invokevirtual 206, 3) := by decide +kernel
theorem dX6_isReadAhead_59 : decode cX6_isReadAhead 59 = .ok (.aload_n 0, 1) := by decide +kernel
theorem dX6_isReadAhead_60 : decode cX6_isReadAhead 60 = .ok (.iload_n 2, 1) := by decide +kernel
theorem dX6_isReadAhead_61 : decode cX6_isReadAhead 61 = .ok (.invokevirtual 206, 3) := by decide +kernel
theorem dX6_isReadAhead_64 : decode cX6_isReadAhead 64 = .ok (.if_icmp .ge 7, 3) := by decide +kernel
theorem dX6_isReadAhead_67 : decode cX6_isReadAhead 67 = .ok (.iconst 1, 1) := by decide +kernel
theorem dX6_isReadAhead_68 : decode cX6_isReadAhead 68 = .ok (.goto 4, 3) := by decide +kernel
theorem dX6_isReadAhead_71 : decode cX6_isReadAhead 71 = .ok (.iconst 0, 1) := by decide +kernel
theorem dX6_isReadAhead_72 : decode cX6_isReadAhead 72 = .ok (.ireturn, 1) := by decide +kernel
theorem dX6_isReadAhead_73 : decode cX6_isReadAhead 73 = .ok (.aload_n 0, 1) := by decide +kernel
theorem dX6_isReadAhead_74 : decode cX6_isReadAhead 74 = .ok (.iload_n 1, 1) := by decide +kernel
theorem dX6_isReadAhead_75 : decode cX6_isReadAhead 75 = .ok (.invokevirtual 209, 3) := by decide +kernel
theorem dX6_isReadAhead_78 : decode cX6_isReadAhead 78 = .ok (.aload_n 0, 1) := by decide +kernel
theorem dX6_isReadAhead_79 : decode cX6_isReadAhead 79 = .ok (.iload_n 2, 1) := by decide +kernel
theorem dX6_isReadAhead_80 : decode cX6_isReadAhead 80 = .ok (.invokevirtual 209, 3) := by decide +kernel
theorem dX6_isReadAhead_83 : decode cX6_isReadAhead 83 = .ok (.if_icmp .eq 24, 3) := by decide +kernel
theorem dX6_isReadAhead_86 : decode cX6_isReadAhead 86 = .ok (.aload_n 0, 1) := by decide +kernel
theorem dX6_isReadAhead_87 : decode cX6_isReadAhead 87 = .ok (.iload_n 1, 1) := by decide +kernel
theorem dX6_isReadAhead_88 : decode cX6_isReadAhead 88 = .ok (.invokevirtual 209, 3) := by decide +kernel
theorem dX6_isReadAhead_91 : decode cX6_isReadAhead 91 = .ok (.aload_n 0, 1) := by decide +kernel
theorem dX6_isReadAhead_92 : decode cX6_isReadAhead 92 = .ok (.iload_n 2, 1) := by decide +kernel
theorem dX6_isReadAhead_93 : decode cX6_isReadAhead 93 = .ok (.invokevirtual 209, 3) := by decide +kernel
theorem dX6_isReadAhead_96 : decode cX6_isReadAhead 96 = .ok (.if_icmp .ge 7, 3) := by decide +kernel
theorem dX6_isReadAhead_99 : decode cX6_isReadAhead 99 = .ok (.iconst 1, 1) := by decide +kernel
theorem dX6_isReadAhead_100 : decode cX6_isReadAhead 100 = .ok (.goto 17, 3) := by decide +kernel
theorem dX6_isReadAhead_103 : decode cX6_isReadAhead 103 = .ok (.iconst 0, 1) := by decide +kernel
theorem dX6_isReadAhead_104 : decode cX6_isReadAhead 104 = .ok (.goto 13, 3) := by decide +kernel
theorem dX6_isReadAhead_107 : decode cX6_isReadAhead 107 = .ok (.iload_n 1, 1) := by decide +kernel
theorem dX6_isReadAhead_108 : decode cX6_isReadAhead 108 = .ok (.iload_n 2, 1) := by decide +kernel
theorem dX6_isReadAhead_109 : decode cX6_isReadAhead 109 = .ok (.if_icmp .ge 7, 3) := by decide +kernel
theorem dX6_isReadAhead_112 : decode cX6_isReadAhead 112 = .ok (.iconst 1, 1) := by decide +kernel
theorem dX6_isReadAhead_113 : decode cX6_isReadAhead 113 = .ok (.goto 4, 3) := by decide +kernel
theorem dX6_isReadAhead_116 : decode cX6_isReadAhead 116 = .ok (.iconst 0, 1) := by decide +kernel
theorem dX6_isReadAhead_117 : decode cX6_isReadAhead 117 = .ok (.ireturn, 1) := by decide +kernel
theorem dX6_pending_0 : decode cX6_pending 0 = .ok (.iload_n 1, 1) := by decide +kernel
theorem dX6_pending_1 : decode cX6_pending 1 = .ok (.ifCond .ge 6, 3) := by decide +kernel
theorem dX6_pending_4 : decode cX6_pending 4 = .ok (.bipush (-2), 2) := by decide +kernel
theorem dX6_pending_6 : decode cX6_pending 6 = .ok (.ireturn, 1) := by decide +kernel
theorem dX6_pending_7 : decode cX6_pending 7 = .ok (.iconst 0, 1) := by decide +kernel
theorem dX6_pending_8 : decode cX6_pending 8 = .ok (.istore_n 2, 1) := by decide +kernel
theorem dX6_pending_9 : decode cX6_pending 9 = .ok (.iload_n 2, 1) := by decide +kernel
theorem dX6_pending_10 : decode cX6_pending 10 = .ok (.aload_n 0, 1) := by decide +kernel
theorem dX6_pending_11 : decode cX6_pending 11 = .ok (.getfield 7, 3) := by decide +kernel
theorem dX6_pending_14 : decode cX6_pending 14 = .ok (.bipush 51, 2) := by decide +kernel
theorem dX6_pending_16 : decode cX6_pending 16 = .ok (.iaload, 1) := by decide +kernel
theorem dX6_pending_17 : decode cX6_pending 17 = .ok (.if_icmp .ge 80, 3) := by decide +kernel
theorem dX6_pending_20 : decode cX6_pending 20 = .ok (.iconst 0, 1) := by decide +kernel
theorem dX6_pending_21 : decode cX6_pending 21 = .ok (.istore_n 3, 1) := by decide +kernel
theorem dX6_pending_22 : decode cX6_pending 22 = .ok (.iconst 0, 1) := by decide +kernel
theorem dX6_pending_23 : decode cX6_pending 23 = .ok (.istore 4, 2) := by decide +kernel
theorem dX6_pending_25 : decode cX6_pending 25 = .ok (.iload 4, 2) := by decide +kernel
theorem dX6_pending_27 : decode cX6_pending 27 = .ok (.aload_n 0, 1) := by decide +kernel
theorem dX6_pending_28 : decode cX6_pending 28 = .ok (.getfield 7, 3) := by decide +kernel
theorem dX6_pending_31 : decode cX6_pending 31 = .ok (.bipush 51, 2) := by decide +kernel
theorem dX6_pending_33 : decode cX6_pending 33 = .ok (.iaload, 1) := by decide +kernel
theorem dX6_pending_34 : decode cX6_pending 34 = .ok (.if_icmp .ge 42, 3) := by decide +kernel
theorem dX6_pending_37 : decode cX6_pending 37 = .ok (.iload_n 3, 1) := by decide +kernel
theorem dX6_pending_38 : decode cX6_pending 38 = .ok (.aload_n 0, 1) := by decide +kernel
theorem dX6_pending_39 : decode cX6_pending 39 = .ok (.iload 4, 2) := by decide +kernel
theorem dX6_pending_41 : decode cX6_pending 41 = .ok (.invokevirtual 54, 3) := by decide +kernel
theorem dX6_pending_44 : decode cX6_pending 44 = .ok (.ifCond .eq 23, 3) := by decide +kernel
theorem dX6_pending_47 : decode cX6_pending 47 = .ok (.iload 4, 2) := by decide +kernel
theorem dX6_pending_49 : decode cX6_pending 49 = .ok (.iload_n 2, 1) := by decide +kernel
theorem dX6_pending_50 : decode cX6_pending 50 = .ok (.if_icmp .eq 17, 3) := by decide +kernel
theorem dX6_pending_53 : decode cX6_pending 53 = .ok (.aload_n 0, 1) := by decide +kernel
theorem dX6_pending_54 : decode cX6_pending 54 = .ok (.iload 4, 2) := by decide +kernel
theorem dX6_pending_56 : decode cX6_pending 56 = .ok (.iload_n 2, 1) := by decide +kernel
theorem dX6_pending_57 : decode cX6_pending 57 = .ok (.invokevirtual 212, 3) := by decide +kernel
theorem dX6_pending_60 : decode cX6_pending 60 = .ok (.ifCond .eq 7, 3) := by decide +kernel
theorem dX6_pending_63 : decode cX6_pending 63 = .ok (.iconst 1, 1) := by decide +kernel
theorem dX6_pending_64 : decode cX6_pending 64 = .ok (.goto 4, 3) := by decide +kernel
theorem dX6_pending_67 : decode cX6_pending 67 = .ok (.iconst 0, 1) := by decide +kernel
theorem dX6_pending_68 : decode cX6_pending 68 = .ok (.iadd, 1) := by decide +kernel
theorem dX6_pending_69 : decode cX6_pending 69 = .ok (.istore_n 3, 1) := by decide +kernel
theorem dX6_pending_70 : decode cX6_pending 70 = .ok (.iinc 4 1, 3) := by decide +kernel
theorem dX6_pending_73 : decode cX6_pending 73 = .ok (.goto (-48), 3) := by decide +kernel
theorem dX6_pending_76 : decode cX6_pending 76 = .ok (.aload_n 0, 1) := by decide +kernel
theorem dX6_pending_77 : decode cX6_pending 77 = .ok (.iload_n 2, 1) := by decide +kernel
theorem dX6_pending_78 : decode cX6_pending 78 = .ok (.invokevirtual 54, 3) := by decide +kernel
theorem dX6_pending_81 : decode cX6_pending 81 = .ok (.ifCond .eq 10, 3) := by decide +kernel
theorem dX6_pending_84 : decode cX6_pending 84 = .ok (.iload_n 3, 1) := by decide +kernel
theorem dX6_pending_85 : decode cX6_pending 85 = .ok (.iload_n 1, 1) := by decide +kernel
theorem dX6_pending_86 : decode cX6_pending 86 = .ok (.if_icmp .ne 5, 3) := by decide +kernel
theorem dX6_pending_89 : decode cX6_pending 89 = .ok (.iload_n 2, 1) := by decide +kernel
theorem dX6_pending_90 : decode cX6_pending 90 = .ok (.ireturn, 1) := by decide +kernel
theorem dX6_pending_91 : decode cX6_pending 91 = .ok (.iinc 2 1, 3) := by decide +kernel
theorem dX6_pending_94 : decode cX6_pending 94 = .ok (.goto (-85), 3) := by decide +kernel
theorem dX6_pending_97 : decode cX6_pending 97 = .ok (.bipush (-5), 2) := by decide +kernel
theorem dX6_pending_99 : decode cX6_pending 99 = .ok (.ireturn, 1) := by decide +kernel
theorem dX6_author_0 : decode cX6_author 0 = .ok (.iload_n 1, 1) := by decide +kernel
theorem dX6_author_1 : decode cX6_author 1 = .ok (.invokestatic 93, 3) := by decide +kernel
theorem dX6_author_4 : decode cX6_author 4 = .ok (.ifCond .eq 5, 3) := by decide +kernel
theorem dX6_author_7 : decode cX6_author 7 = .ok (.iconst (-1), 1) := by decide +kernel
theorem dX6_author_8 : decode cX6_author 8 = .ok (.ireturn, 1) := by decide +kernel
theorem dX6_author_9 : decode cX6_author 9 = .ok (.iload_n 2, 1) := by decide +kernel
theorem dX6_author_10 : decode cX6_author 10 = .ok (.iconst 0, 1) := by decide +kernel
theorem dX6_author_11 : decode cX6_author 11 = .ok (.iconst 3, 1) := by decide +kernel
theorem dX6_author_12 : decode cX6_author 12 = .ok (.invokestatic 41, 3) := by decide +kernel
theorem dX6_author_15 : decode cX6_author 15 = .ok (.ifCond .ne 6, 3) := by decide +kernel
theorem dX6_author_18 : decode cX6_author 18 = .ok (.bipush (-2), 2) := by decide +kernel
theorem dX6_author_20 : decode cX6_author 20 = .ok (.ireturn, 1) := by decide +kernel
theorem dX6_author_21 : decode cX6_author 21 = .ok (.iconst 0, 1) := by decide +kernel
theorem dX6_author_22 : decode cX6_author 22 = .ok (.istore_n 3, 1) := by decide +kernel
theorem dX6_author_23 : decode cX6_author 23 = .ok (.iconst 0, 1) := by decide +kernel
theorem dX6_author_24 : decode cX6_author 24 = .ok (.istore 4, 2) := by decide +kernel
theorem dX6_author_26 : decode cX6_author 26 = .ok (.iload 4, 2) := by decide +kernel
theorem dX6_author_28 : decode cX6_author 28 = .ok (.aload_n 0, 1) := by decide +kernel
theorem dX6_author_29 : decode cX6_author 29 = .ok (.getfield 7, 3) := by decide +kernel
theorem dX6_author_32 : decode cX6_author 32 = .ok (.bipush 51, 2) := by decide +kernel
theorem dX6_author_34 : decode cX6_author 34 = .ok (.iaload, 1) := by decide +kernel
theorem dX6_author_35 : decode cX6_author 35 = .ok (.if_icmp .ge 43, 3) := by decide +kernel
theorem dX6_author_38 : decode cX6_author 38 = .ok (.iload_n 3, 1) := by decide +kernel
theorem dX6_author_39 : decode cX6_author 39 = .ok (.aload_n 0, 1) := by decide +kernel
theorem dX6_author_40 : decode cX6_author 40 = .ok (.iload 4, 2) := by decide +kernel
theorem dX6_author_42 : decode cX6_author 42 = .ok (.sipush 209, 3) := by decide +kernel
theorem dX6_author_45 : decode cX6_author 45 = .ok (.invokevirtual 51, 3) := by decide +kernel
theorem dX6_author_48 : decode cX6_author 48 = .ok (.iload_n 1, 1) := by decide +kernel
theorem dX6_author_49 : decode cX6_author 49 = .ok (.if_icmp .ne 20, 3) := by decide +kernel
theorem dX6_author_52 : decode cX6_author 52 = .ok (.aload_n 0, 1) := by decide +kernel
theorem dX6_author_53 : decode cX6_author 53 = .ok (.iload 4, 2) := by decide +kernel
theorem dX6_author_55 : decode cX6_author 55 = .ok (.sipush 269, 3) := by decide +kernel
theorem dX6_author_58 : decode cX6_author 58 = .ok (.invokevirtual 51, 3) := by decide +kernel
theorem dX6_author_61 : decode cX6_author 61 = .ok (.iload_n 2, 1) := by decide +kernel
theorem dX6_author_62 : decode cX6_author 62 = .ok (.if_icmp .ne 7, 3) := by decide +kernel
theorem dX6_author_65 : decode cX6_author 65 = .ok (.iconst 1, 1) := by decide +kernel
theorem dX6_author_66 : decode cX6_author 66 = .ok (.goto 4, 3) := by decide +kernel
theorem dX6_author_69 : decode cX6_author 69 = .ok (.iconst 0, 1) := by decide +kernel
theorem dX6_author_70 : decode cX6_author 70 = .ok (.iadd, 1) := by decide +kernel
theorem dX6_author_71 : decode cX6_author 71 = .ok (.istore_n 3, 1) := by decide +kernel
theorem dX6_author_72 : decode cX6_author 72 = .ok (.iinc 4 1, 3) := by decide +kernel
theorem dX6_author_75 : decode cX6_author 75 = .ok (.goto (-49), 3) := by decide +kernel
theorem dX6_author_78 : decode cX6_author 78 = .ok (.iload_n 3, 1) := by decide +kernel
theorem dX6_author_79 : decode cX6_author 79 = .ok (.ireturn, 1) := by decide +kernel
theorem dX6_count_0 : decode cX6_count 0 = .ok (.iconst 0, 1) := by decide +kernel
theorem dX6_count_1 : decode cX6_count 1 = .ok (.istore_n 2, 1) := by decide +kernel
theorem dX6_count_2 : decode cX6_count 2 = .ok (.iconst 0, 1) := by decide +kernel
theorem dX6_count_3 : decode cX6_count 3 = .ok (.istore_n 3, 1) := by decide +kernel
theorem dX6_count_4 : decode cX6_count 4 = .ok (.iconst 0, 1) := by decide +kernel
theorem dX6_count_5 : decode cX6_count 5 = .ok (.istore 4, 2) := by decide +kernel
theorem dX6_count_7 : decode cX6_count 7 = .ok (.iload 4, 2) := by decide +kernel
theorem dX6_count_9 : decode cX6_count 9 = .ok (.iconst 2, 1) := by decide +kernel
theorem dX6_count_10 : decode cX6_count 10 = .ok (.if_icmp .ge 67, 3) := by decide +kernel
theorem dX6_count_13 : decode cX6_count 13 = .ok (.iconst 0, 1) := by decide +kernel
theorem dX6_count_14 : decode cX6_count 14 = .ok (.istore 5, 2) := by decide +kernel
theorem dX6_count_16 : decode cX6_count 16 = .ok (.iload 5, 2) := by decide +kernel
theorem dX6_count_18 : decode cX6_count 18 = .ok (.aload_n 0, 1) := by decide +kernel
theorem dX6_count_19 : decode cX6_count 19 = .ok (.iload 4, 2) := by decide +kernel
theorem dX6_count_21 : decode cX6_count 21 = .ok (.invokevirtual 34, 3) := by decide +kernel
theorem dX6_count_24 : decode cX6_count 24 = .ok (.if_icmp .ge 47, 3) := by decide +kernel
theorem dX6_count_27 : decode cX6_count 27 = .ok (.iload_n 2, 1) := by decide +kernel
theorem dX6_count_28 : decode cX6_count 28 = .ok (.aload_n 0, 1) := by decide +kernel
theorem dX6_count_29 : decode cX6_count 29 = .ok (.iload 4, 2) := by decide +kernel
theorem dX6_count_31 : decode cX6_count 31 = .ok (.iload 5, 2) := by decide +kernel
theorem dX6_count_33 : decode cX6_count 33 = .ok (.invokevirtual 188, 3) := by decide +kernel
theorem dX6_count_36 : decode cX6_count 36 = .ok (.ifCond .eq 7, 3) := by decide +kernel
theorem dX6_count_39 : decode cX6_count 39 = .ok (.iconst 1, 1) := by decide +kernel
theorem dX6_count_40 : decode cX6_count 40 = .ok (.goto 4, 3) := by decide +kernel
theorem dX6_count_43 : decode cX6_count 43 = .ok (.iconst 0, 1) := by decide +kernel
theorem dX6_count_44 : decode cX6_count 44 = .ok (.iadd, 1) := by decide +kernel
theorem dX6_count_45 : decode cX6_count 45 = .ok (.istore_n 2, 1) := by decide +kernel
theorem dX6_count_46 : decode cX6_count 46 = .ok (.iload_n 3, 1) := by decide +kernel
theorem dX6_count_47 : decode cX6_count 47 = .ok (.aload_n 0, 1) := by decide +kernel
theorem dX6_count_48 : decode cX6_count 48 = .ok (.iload 4, 2) := by decide +kernel
theorem dX6_count_50 : decode cX6_count 50 = .ok (.iload 5, 2) := by decide +kernel
theorem dX6_count_52 : decode cX6_count 52 = .ok (.invokevirtual 122, 3) := by decide +kernel
theorem dX6_count_55 : decode cX6_count 55 = .ok (.ifCond .eq 7, 3) := by decide +kernel
theorem dX6_count_58 : decode cX6_count 58 = .ok (.iconst 1, 1) := by decide +kernel
theorem dX6_count_59 : decode cX6_count 59 = .ok (.goto 4, 3) := by decide +kernel
theorem dX6_count_62 : decode cX6_count 62 = .ok (.iconst 0, 1) := by decide +kernel
theorem dX6_count_63 : decode cX6_count 63 = .ok (.iadd, 1) := by decide +kernel
theorem dX6_count_64 : decode cX6_count 64 = .ok (.istore_n 3, 1) := by decide +kernel
theorem dX6_count_65 : decode cX6_count 65 = .ok (.iinc 5 1, 3) := by decide +kernel
theorem dX6_count_68 : decode cX6_count 68 = .ok (.goto (-52), 3) := by decide +kernel
theorem dX6_count_71 : decode cX6_count 71 = .ok (.iinc 4 1, 3) := by decide +kernel
theorem dX6_count_74 : decode cX6_count 74 = .ok (.goto (-67), 3) := by decide +kernel
theorem dX6_count_77 : decode cX6_count 77 = .ok (.iconst 0, 1) := by decide +kernel
theorem dX6_count_78 : decode cX6_count 78 = .ok (.istore 4, 2) := by decide +kernel
theorem dX6_count_80 : decode cX6_count 80 = .ok (.iconst 0, 1) := by decide +kernel
theorem dX6_count_81 : decode cX6_count 81 = .ok (.istore 5, 2) := by decide +kernel
theorem dX6_count_83 : decode cX6_count 83 = .ok (.iconst 0, 1) := by decide +kernel
theorem dX6_count_84 : decode cX6_count 84 = .ok (.istore 6, 2) := by decide +kernel
theorem dX6_count_86 : decode cX6_count 86 = .ok (.iload 6, 2) := by decide +kernel
theorem dX6_count_88 : decode cX6_count 88 = .ok (.aload_n 0, 1) := by decide +kernel
theorem dX6_count_89 : decode cX6_count 89 = .ok (.getfield 7, 3) := by decide +kernel
theorem dX6_count_92 : decode cX6_count 92 = .ok (.bipush 51, 2) := by decide +kernel
theorem dX6_count_94 : decode cX6_count 94 = .ok (.iaload, 1) := by decide +kernel
theorem dX6_count_95 : decode cX6_count 95 = .ok (.if_icmp .ge 75, 3) := by decide +kernel
theorem dX6_count_98 : decode cX6_count 98 = .ok (.iload 4, 2) := by decide +kernel
theorem dX6_count_100 : decode cX6_count 100 = .ok (.aload_n 0, 1) := by decide +kernel
theorem dX6_count_101 : decode cX6_count 101 = .ok (.iload 6, 2) := by decide +kernel
theorem dX6_count_103 : decode cX6_count 103 = .ok (.invokevirtual 54, 3) := by decide +kernel
theorem dX6_count_106 : decode cX6_count 106 = .ok (.ifCond .eq 20, 3) := by decide +kernel
theorem dX6_count_109 : decode cX6_count 109 = .ok (.aload_n 0, 1) := by decide +kernel
theorem dX6_count_110 : decode cX6_count 110 = .ok (.iload 6, 2) := by decide +kernel
theorem dX6_count_112 : decode cX6_count 112 = .ok (.sipush 149, 3) := by decide +kernel
theorem dX6_count_115 : decode cX6_count 115 = .ok (.invokevirtual 51, 3) := by decide +kernel
theorem dX6_count_118 : decode cX6_count 118 = .ok (.iconst 4, 1) := by decide +kernel
theorem dX6_count_119 : decode cX6_count 119 = .ok (.if_icmp .ne 7, 3) := by decide +kernel
theorem dX6_count_122 : decode cX6_count 122 = .ok (.iconst 1, 1) := by decide +kernel
theorem dX6_count_123 : decode cX6_count 123 = .ok (.goto 4, 3) := by decide +kernel
theorem dX6_count_126 : decode cX6_count 126 = .ok (.iconst 0, 1) := by decide +kernel
theorem dX6_count_127 : decode cX6_count 127 = .ok (.iadd, 1) := by decide +kernel
theorem dX6_count_128 : decode cX6_count 128 = .ok (.istore 4, 2) := by decide +kernel
theorem dX6_count_130 : decode cX6_count 130 = .ok (.iload 5, 2) := by decide +kernel
theorem dX6_count_132 : decode cX6_count 132 = .ok (.iload_n 1, 1) := by decide +kernel
theorem dX6_count_133 : decode cX6_count 133 = .ok (.iconst 1, 1) := by decide +kernel
theorem dX6_count_134 : decode cX6_count 134 = .ok (.iconst 4, 1) := by decide +kernel
theorem dX6_count_135 : decode cX6_count 135 = .ok (.invokestatic 41, 3) := by decide +kernel
theorem dX6_count_138 : decode cX6_count 138 = .ok (.ifCond .eq 22, 3) := by decide +kernel
theorem dX6_count_141 : decode cX6_count 141 = .ok (.aload_n 0, 1) := by decide +kernel
theorem dX6_count_142 : decode cX6_count 142 = .ok (.iload 6, 2) := by decide +kernel
theorem dX6_count_144 : decode cX6_count 144 = .ok (.sipush 269, 3) := by decide +kernel
theorem dX6_count_147 : decode cX6_count 147 = .ok (.invokevirtual 51, 3) := by decide +kernel
theorem dX6_count_150 : decode cX6_count 150 = .ok (.iload_n 1, 1) := by decide +kernel
theorem dX6_count_151 : decode cX6_count 151 = .ok (.iconst 1, 1) := by decide +kernel
theorem dX6_count_152 : decode cX6_count 152 = .ok (.isub, 1) := by decide +kernel
theorem dX6_count_153 : decode cX6_count 153 = .ok (.if_icmp .ne 7, 3) := by decide +kernel
theorem dX6_count_156 : decode cX6_count 156 = .ok (.iconst 1, 1) := by decide +kernel
theorem dX6_count_157 : decode cX6_count 157 = .ok (.goto 4, 3) := by decide +kernel
theorem dX6_count_160 : decode cX6_count 160 = .ok (.iconst 0, 1) := by decide +kernel
theorem dX6_count_161 : decode cX6_count 161 = .ok (.iadd, 1) := by decide +kernel
theorem dX6_count_162 : decode cX6_count 162 = .ok (.istore 5, 2) := by decide +kernel
theorem dX6_count_164 : decode cX6_count 164 = .ok (.iinc 6 1, 3) := by decide +kernel
theorem dX6_count_167 : decode cX6_count 167 = .ok (.goto (-81), 3) := by decide +kernel
theorem dX6_count_170 : decode cX6_count 170 = .ok (.iload_n 1, 1) := by decide +kernel
theorem dX6_count_171 : decode cX6_count 171 = .ok (.tableswitch 93 0 10 #[57, 65, 65, 65, 65, 68, 76, 78, 80, 83, 88], 57) := by decide +kernel
theorem dX6_count_228 : decode cX6_count 228 = .ok (.aload_n 0, 1) := by decide +kernel
theorem dX6_count_229 : decode cX6_count 229 = .ok (.getfield 7, 3) := by decide +kernel
theorem dX6_count_232 : decode cX6_count 232 = .ok (.bipush 51, 2) := by decide +kernel
theorem dX6_count_234 : decode cX6_count 234 = .ok (.iaload, 1) := by decide +kernel
theorem dX6_count_235 : decode cX6_count 235 = .ok (.ireturn, 1) := by decide +kernel
theorem dX6_count_236 : decode cX6_count 236 = .ok (.iload 5, 2) := by decide +kernel
theorem dX6_count_238 : decode cX6_count 238 = .ok (.ireturn, 1) := by decide +kernel
theorem dX6_count_239 : decode cX6_count 239 = .ok (.aload_n 0, 1) := by decide +kernel
theorem dX6_count_240 : decode cX6_count 240 = .ok (.getfield 7, 3) := by decide +kernel
theorem dX6_count_243 : decode cX6_count 243 = .ok (.bipush 52, 2) := by decide +kernel
theorem dX6_count_245 : decode cX6_count 245 = .ok (.iaload, 1) := by decide +kernel
theorem dX6_count_246 : decode cX6_count 246 = .ok (.ireturn, 1) := by decide +kernel
theorem dX6_count_247 : decode cX6_count 247 = .ok (.iload_n 2, 1) := by decide +kernel
theorem dX6_count_248 : decode cX6_count 248 = .ok (.ireturn, 1) := by decide +kernel
theorem dX6_count_249 : decode cX6_count 249 = .ok (.iload_n 3, 1) := by decide +kernel
theorem dX6_count_250 : decode cX6_count 250 = .ok (.ireturn, 1) := by decide +kernel
theorem dX6_count_251 : decode cX6_count 251 = .ok (.iload 4, 2) := by decide +kernel
theorem dX6_count_253 : decode cX6_count 253 = .ok (.ireturn, 1) := by decide +kernel
theorem dX6_count_254 : decode cX6_count 254 = .ok (.aload_n 0, 1) := by decide +kernel
theorem dX6_count_255 : decode cX6_count 255 = .ok (.getfield 26, 3) := by decide +kernel
theorem dX6_count_258 : decode cX6_count 258 = .ok (.ireturn, 1) := by decide +kernel
theorem dX6_count_259 : decode cX6_count 259 = .ok (.aload_n 0, 1) := by decide +kernel
theorem dX6_count_260 : decode cX6_count 260 = .ok (.getfield 158, 3) := by decide +kernel
theorem dX6_count_263 : decode cX6_count 263 = .ok (.ireturn, 1) := by decide +kernel
theorem dX6_count_264 : decode cX6_count 264 = .ok (.bipush (-2), 2) := by decide +kernel
theorem dX6_count_266 : decode cX6_count 266 = .ok (.ireturn, 1) := by decide +kernel
