theorem dX0_init_0 : decode cX0_init 0 = .ok (.aload_n 0, 1) := by decide +kernel
theorem dX0_init_1 : decode cX0_init 1 = .ok (.invokespecial 3, 3) := by decide +kernel
theorem dX0_init_4 : decode cX0_init 4 = .ok (.aload_n 0, 1) := by decide +kernel
theorem dX0_init_5 : decode cX0_init 5 = .ok (.sipush 360, 3) := by decide +kernel
theorem dX0_init_8 : decode cX0_init 8 = .ok (.newarray .int, 2) := by decide +kernel
theorem dX0_init_10 : decode cX0_init 10 = .ok (.putfield 9, 3) := by decide +kernel
theorem dX0_init_13 : decode cX0_init 13 = .ok (.return_, 1) := by decide +kernel
theorem dX0_isFull_0 : decode cX0_isFull 0 = .ok (.aload_n 0, 1) := by decide +kernel
theorem dX0_isFull_1 : decode cX0_isFull 1 = .ok (.getfield 15, 3) := by decide +kernel
theorem dX0_isFull_4 : decode cX0_isFull 4 = .ok (.bipush 60, 2) := by decide +kernel
theorem dX0_isFull_6 : decode cX0_isFull 6 = .ok (.if_icmp .lt 7, 3) := by decide +kernel
theorem dX0_isFull_9 : decode cX0_isFull 9 = .ok (.iconst 1, 1) := by decide +kernel
theorem dX0_isFull_10 : decode cX0_isFull 10 = .ok (.goto 4, 3) := by decide +kernel
theorem dX0_isFull_13 : decode cX0_isFull 13 = .ok (.iconst 0, 1) := by decide +kernel
theorem dX0_isFull_14 : decode cX0_isFull 14 = .ok (.ireturn, 1) := by decide +kernel
theorem dX0_isMade_0 : decode cX0_isMade 0 = .ok (.iload_n 1, 1) := by decide +kernel
theorem dX0_isMade_1 : decode cX0_isMade 1 = .ok (.ifCond .lt 21, 3) := by decide +kernel
theorem dX0_isMade_4 : decode cX0_isMade 4 = .ok (.iload_n 1, 1) := by decide +kernel
theorem dX0_isMade_5 : decode cX0_isMade 5 = .ok (.aload_n 0, 1) := by decide +kernel
theorem dX0_isMade_6 : decode cX0_isMade 6 = .ok (.getfield 15, 3) := by decide +kernel
theorem dX0_isMade_9 : decode cX0_isMade 9 = .ok (.if_icmp .ge 13, 3) := by decide +kernel
theorem dX0_isMade_12 : decode cX0_isMade 12 = .ok (.iload_n 1, 1) := by decide +kernel
theorem dX0_isMade_13 : decode cX0_isMade 13 = .ok (.bipush 60, 2) := by decide +kernel
theorem dX0_isMade_15 : decode cX0_isMade 15 = .ok (.if_icmp .ge 7, 3) := by decide +kernel
theorem dX0_isMade_18 : decode cX0_isMade 18 = .ok (.iconst 1, 1) := by decide +kernel
theorem dX0_isMade_19 : decode cX0_isMade 19 = .ok (.goto 4, 3) := by decide +kernel
theorem dX0_isMade_22 : decode cX0_isMade 22 = .ok (.iconst 0, 1) := by decide +kernel
theorem dX0_isMade_23 : decode cX0_isMade 23 = .ok (.ireturn, 1) := by decide +kernel
theorem dX0_isPending_0 : decode cX0_isPending 0 = .ok (.aload_n 0, 1) := by decide +kernel
theorem dX0_isPending_1 : decode cX0_isPending 1 = .ok (.iload_n 1, 1) := by decide +kernel
theorem dX0_isPending_2 : decode cX0_isPending 2 = .ok (.iconst 2, 1) := by decide +kernel
theorem dX0_isPending_3 : decode cX0_isPending 3 = .ok (.invokevirtual 19, 3) := by decide +kernel
theorem dX0_isPending_6 : decode cX0_isPending 6 = .ok (.ifCond .ne 7, 3) := by decide +kernel
theorem dX0_isPending_9 : decode cX0_isPending 9 = .ok (.iconst 1, 1) := by decide +kernel
theorem dX0_isPending_10 : decode cX0_isPending 10 = .ok (.goto 4, 3) := by decide +kernel
theorem dX0_isPending_13 : decode cX0_isPending 13 = .ok (.iconst 0, 1) := by decide +kernel
theorem dX0_isPending_14 : decode cX0_isPending 14 = .ok (.ireturn, 1) := by decide +kernel
theorem dX0_fact_0 : decode cX0_fact 0 = .ok (.iload_n 1, 1) := by decide +kernel
theorem dX0_fact_1 : decode cX0_fact 1 = .ok (.ifCond .lt 27, 3) := by decide +kernel
theorem dX0_fact_4 : decode cX0_fact 4 = .ok (.iload_n 1, 1) := by decide +kernel
theorem dX0_fact_5 : decode cX0_fact 5 = .ok (.aload_n 0, 1) := by decide +kernel
theorem dX0_fact_6 : decode cX0_fact 6 = .ok (.getfield 15, 3) := by decide +kernel
theorem dX0_fact_9 : decode cX0_fact 9 = .ok (.if_icmp .ge 19, 3) := by decide +kernel
theorem dX0_fact_12 : decode cX0_fact 12 = .ok (.iload_n 1, 1) := by decide +kernel
theorem dX0_fact_13 : decode cX0_fact 13 = .ok (.bipush 60, 2) := by decide +kernel
theorem dX0_fact_15 : decode cX0_fact 15 = .ok (.if_icmp .ge 13, 3) := by decide +kernel
theorem dX0_fact_18 : decode cX0_fact 18 = .ok (.iload_n 2, 1) := by decide +kernel
theorem dX0_fact_19 : decode cX0_fact 19 = .ok (.ifCond .lt 9, 3) := by decide +kernel
theorem dX0_fact_22 : decode cX0_fact 22 = .ok (.iload_n 2, 1) := by decide +kernel
theorem dX0_fact_23 : decode cX0_fact 23 = .ok (.bipush 6, 2) := by decide +kernel
theorem dX0_fact_25 : decode cX0_fact 25 = .ok (.if_icmp .lt 6, 3) := by decide +kernel
theorem dX0_fact_28 : decode cX0_fact 28 = .ok (.bipush (-5), 2) := by decide +kernel
theorem dX0_fact_30 : decode cX0_fact 30 = .ok (.ireturn, 1) := by decide +kernel
theorem dX0_fact_31 : decode cX0_fact 31 = .ok (.aload_n 0, 1) := by decide +kernel
theorem dX0_fact_32 : decode cX0_fact 32 = .ok (.getfield 9, 3) := by decide +kernel
theorem dX0_fact_35 : decode cX0_fact 35 = .ok (.iload_n 1, 1) := by decide +kernel
theorem dX0_fact_36 : decode cX0_fact 36 = .ok (.bipush 6, 2) := by decide +kernel
theorem dX0_fact_38 : decode cX0_fact 38 = .ok (.imul, 1) := by decide +kernel
theorem dX0_fact_39 : decode cX0_fact 39 = .ok (.iload_n 2, 1) := by decide +kernel
theorem dX0_fact_40 : decode cX0_fact 40 = .ok (.iadd, 1) := by decide +kernel
theorem dX0_fact_41 : decode cX0_fact 41 = .ok (.iaload, 1) := by decide +kernel
theorem dX0_fact_42 : decode cX0_fact 42 = .ok (.ireturn, 1) := by decide +kernel
theorem dX0_put_0 : decode cX0_put 0 = .ok (.aload_n 0, 1) := by decide +kernel
theorem dX0_put_1 : decode cX0_put 1 = .ok (.iload_n 1, 1) := by decide +kernel
theorem dX0_put_2 : decode cX0_put 2 = .ok (.invokevirtual 23, 3) := by decide +kernel
theorem dX0_put_5 : decode cX0_put 5 = .ok (.ifCond .eq 25, 3) := by decide +kernel
theorem dX0_put_8 : decode cX0_put 8 = .ok (.iload_n 2, 1) := by decide +kernel
theorem dX0_put_9 : decode cX0_put 9 = .ok (.ifCond .lt 21, 3) := by decide +kernel
theorem dX0_put_12 : decode cX0_put 12 = .ok (.iload_n 2, 1) := by decide +kernel
theorem dX0_put_13 : decode cX0_put 13 = .ok (.bipush 6, 2) := by decide +kernel
theorem dX0_put_15 : decode cX0_put 15 = .ok (.if_icmp .ge 15, 3) := by decide +kernel
theorem dX0_put_18 : decode cX0_put 18 = .ok (.aload_n 0, 1) := by decide +kernel
theorem dX0_put_19 : decode cX0_put 19 = .ok (.getfield 9, 3) := by decide +kernel
theorem dX0_put_22 : decode cX0_put 22 = .ok (.iload_n 1, 1) := by decide +kernel
theorem dX0_put_23 : decode cX0_put 23 = .ok (.bipush 6, 2) := by decide +kernel
theorem dX0_put_25 : decode cX0_put 25 = .ok (.imul, 1) := by decide +kernel
theorem dX0_put_26 : decode cX0_put 26 = .ok (.iload_n 2, 1) := by decide +kernel
theorem dX0_put_27 : decode cX0_put 27 = .ok (.iadd, 1) := by decide +kernel
theorem dX0_put_28 : decode cX0_put 28 = .ok (.iload_n 3, 1) := by decide +kernel
theorem dX0_put_29 : decode cX0_put 29 = .ok (.iastore, 1) := by decide +kernel
theorem dX0_put_30 : decode cX0_put 30 = .ok (.return_, 1) := by decide +kernel
theorem dX0_add_0 : decode cX0_add 0 = .ok (.aload_n 0, 1) := by decide +kernel
theorem dX0_add_1 : decode cX0_add 1 = .ok (.invokevirtual 27, 3) := by decide +kernel
theorem dX0_add_4 : decode cX0_add 4 = .ok (.ifCond .eq 6, 3) := by decide +kernel
theorem dX0_add_7 : decode cX0_add 7 = .ok (.bipush (-3), 2) := by decide +kernel
theorem dX0_add_9 : decode cX0_add 9 = .ok (.ireturn, 1) := by decide +kernel
theorem dX0_add_10 : decode cX0_add 10 = .ok (.aload_n 0, 1) := by decide +kernel
theorem dX0_add_11 : decode cX0_add 11 = .ok (.getfield 15, 3) := by decide +kernel
theorem dX0_add_14 : decode cX0_add 14 = .ok (.istore 6, 2) := by decide +kernel
theorem dX0_add_16 : decode cX0_add 16 = .ok (.aload_n 0, 1) := by decide +kernel
theorem dX0_add_17 : decode cX0_add 17 = .ok (.dup, 1) := by decide +kernel
theorem dX0_add_18 : decode cX0_add 18 = .ok (.getfield 15, 3) := by decide +kernel
theorem dX0_add_21 : decode cX0_add 21 = .ok (.iconst 1, 1) := by decide +kernel
theorem dX0_add_22 : decode cX0_add 22 = .ok (.iadd, 1) := by decide +kernel
theorem dX0_add_23 : decode cX0_add 23 = .ok (.putfield 15, 3) := by decide +kernel
theorem dX0_add_26 : decode cX0_add 26 = .ok (.aload_n 0, 1) := by decide +kernel
theorem dX0_add_27 : decode cX0_add 27 = .ok (.iload 6, 2) := by decide +kernel
theorem dX0_add_29 : decode cX0_add 29 = .ok (.iconst 0, 1) := by decide +kernel
theorem dX0_add_30 : decode cX0_add 30 = .ok (.iload_n 1, 1) := by decide +kernel
theorem dX0_add_31 : decode cX0_add 31 = .ok (.invokevirtual 31, 3) := by decide +kernel
theorem dX0_add_34 : decode cX0_add 34 = .ok (.aload_n 0, 1) := by decide +kernel
theorem dX0_add_35 : decode cX0_add 35 = .ok (.iload 6, 2) := by decide +kernel
theorem dX0_add_37 : decode cX0_add 37 = .ok (.iconst 1, 1) := by decide +kernel
theorem dX0_add_38 : decode cX0_add 38 = .ok (.iload_n 2, 1) := by decide +kernel
theorem dX0_add_39 : decode cX0_add 39 = .ok (.invokevirtual 31, 3) := by decide +kernel
theorem dX0_add_42 : decode cX0_add 42 = .ok (.aload_n 0, 1) := by decide +kernel
theorem dX0_add_43 : decode cX0_add 43 = .ok (.iload 6, 2) := by decide +kernel
theorem dX0_add_45 : decode cX0_add 45 = .ok (.iconst 2, 1) := by decide +kernel
theorem dX0_add_46 : decode cX0_add 46 = .ok (.iconst 0, 1) := by decide +kernel
theorem dX0_add_47 : decode cX0_add 47 = .ok (.invokevirtual 31, 3) := by decide +kernel
theorem dX0_add_50 : decode cX0_add 50 = .ok (.aload_n 0, 1) := by decide +kernel
theorem dX0_add_51 : decode cX0_add 51 = .ok (.iload 6, 2) := by decide +kernel
theorem dX0_add_53 : decode cX0_add 53 = .ok (.iconst 3, 1) := by decide +kernel
theorem dX0_add_54 : decode cX0_add 54 = .ok (.iload_n 3, 1) := by decide +kernel
theorem dX0_add_55 : decode cX0_add 55 = .ok (.invokevirtual 31, 3) := by decide +kernel
theorem dX0_add_58 : decode cX0_add 58 = .ok (.aload_n 0, 1) := by decide +kernel
theorem dX0_add_59 : decode cX0_add 59 = .ok (.iload 6, 2) := by decide +kernel
theorem dX0_add_61 : decode cX0_add 61 = .ok (.iconst 4, 1) := by decide +kernel
theorem dX0_add_62 : decode cX0_add 62 = .ok (.iload 4, 2) := by decide +kernel
theorem dX0_add_64 : decode cX0_add 64 = .ok (.invokevirtual 31, 3) := by decide +kernel
theorem dX0_add_67 : decode cX0_add 67 = .ok (.aload_n 0, 1) := by decide +kernel
theorem dX0_add_68 : decode cX0_add 68 = .ok (.iload 6, 2) := by decide +kernel
theorem dX0_add_70 : decode cX0_add 70 = .ok (.iconst 5, 1) := by decide +kernel
theorem dX0_add_71 : decode cX0_add 71 = .ok (.iload 5, 2) := by decide +kernel
theorem dX0_add_73 : decode cX0_add 73 = .ok (.invokevirtual 31, 3) := by decide +kernel
theorem dX0_add_76 : decode cX0_add 76 = .ok (.iload 6, 2) := by decide +kernel
theorem dX0_add_78 : decode cX0_add 78 = .ok (.ireturn, 1) := by decide +kernel
theorem dX0_addOfLine_0 : decode cX0_addOfLine 0 = .ok (.iload_n 1, 1) := by decide +kernel
theorem dX0_addOfLine_1 : decode cX0_addOfLine 1 = .ok (.invokestatic 35, 3) := by decide +kernel
theorem dX0_addOfLine_4 : decode cX0_addOfLine 4 = .ok (.iconst 3, 1) := by decide +kernel
theorem dX0_addOfLine_5 : decode cX0_addOfLine 5 = .ok (.if_icmp .ne 7, 3) := by decide +kernel
theorem dX0_addOfLine_8 : decode cX0_addOfLine 8 = .ok (.iconst 1, 1) := by decide +kernel
theorem dX0_addOfLine_9 : decode cX0_addOfLine 9 = .ok (.goto 4, 3) := by decide +kernel
theorem dX0_addOfLine_12 : decode cX0_addOfLine 12 = .ok (.iconst 0, 1) := by decide +kernel
theorem dX0_addOfLine_13 : decode cX0_addOfLine 13 = .ok (.istore 4, 2) := by decide +kernel
theorem dX0_addOfLine_15 : decode cX0_addOfLine 15 = .ok (.aload_n 0, 1) := by decide +kernel
theorem dX0_addOfLine_16 : decode cX0_addOfLine 16 = .ok (.iload_n 1, 1) := by decide +kernel
theorem dX0_addOfLine_17 : decode cX0_addOfLine 17 = .ok (.iload_n 2, 1) := by decide +kernel
theorem dX0_addOfLine_18 : decode cX0_addOfLine 18 = .ok (.iload 4, 2) := by decide +kernel
theorem dX0_addOfLine_20 : decode cX0_addOfLine 20 = .ok (.ifCond .eq 7, 3) := by decide +kernel
theorem dX0_addOfLine_23 : decode cX0_addOfLine 23 = .ok (.iload_n 3, 1) := by decide +kernel
theorem dX0_addOfLine_24 : decode cX0_addOfLine 24 = .ok (.goto 5, 3) := by decide +kernel
theorem dX0_addOfLine_27 : decode cX0_addOfLine 27 = .ok (.bipush (-5), 2) := by decide +kernel
theorem dX0_addOfLine_29 : decode cX0_addOfLine 29 = .ok (.iload 4, 2) := by decide +kernel
theorem dX0_addOfLine_31 : decode cX0_addOfLine 31 = .ok (.ifCond .eq 8, 3) := by decide +kernel
theorem dX0_addOfLine_34 : decode cX0_addOfLine 34 = .ok (.bipush (-5), 2) := by decide +kernel
theorem dX0_addOfLine_36 : decode cX0_addOfLine 36 = .ok (.goto 4, 3) := by decide +kernel
theorem dX0_addOfLine_39 : decode cX0_addOfLine 39 = .ok (.iload_n 3, 1) := by decide +kernel
theorem dX0_addOfLine_40 : decode cX0_addOfLine 40 = .ok (.bipush (-5), 2) := by decide +kernel
theorem dX0_addOfLine_42 : decode cX0_addOfLine 42 = .ok (.invokevirtual 39, 3) := by decide +kernel
theorem dX0_addOfLine_45 : decode cX0_addOfLine 45 = .ok (.ireturn, 1) := by decide +kernel
theorem dX0_lineFact_0 : decode cX0_lineFact 0 = .ok (.iload_n 0, 1) := by decide +kernel
theorem dX0_lineFact_1 : decode cX0_lineFact 1 = .ok (.ifCond .eq 8, 3) := by decide +kernel
theorem dX0_lineFact_4 : decode cX0_lineFact 4 = .ok (.iload_n 0, 1) := by decide +kernel
theorem dX0_lineFact_5 : decode cX0_lineFact 5 = .ok (.iconst 1, 1) := by decide +kernel
theorem dX0_lineFact_6 : decode cX0_lineFact 6 = .ok (.if_icmp .ne 7, 3) := by decide +kernel
theorem dX0_lineFact_9 : decode cX0_lineFact 9 = .ok (.iconst 3, 1) := by decide +kernel
theorem dX0_lineFact_10 : decode cX0_lineFact 10 = .ok (.goto 4, 3) := by decide +kernel
theorem dX0_lineFact_13 : decode cX0_lineFact 13 = .ok (.iconst 4, 1) := by decide +kernel
theorem dX0_lineFact_14 : decode cX0_lineFact 14 = .ok (.ireturn, 1) := by decide +kernel
theorem dX0_insertionOf_0 : decode cX0_insertionOf 0 = .ok (.aload_n 0, 1) := by decide +kernel
theorem dX0_insertionOf_1 : decode cX0_insertionOf 1 = .ok (.iload_n 1, 1) := by decide +kernel
theorem dX0_insertionOf_2 : decode cX0_insertionOf 2 = .ok (.ifCond .ne 7, 3) := by decide +kernel
theorem dX0_insertionOf_5 : decode cX0_insertionOf 5 = .ok (.iconst 0, 1) := by decide +kernel
theorem dX0_insertionOf_6 : decode cX0_insertionOf 6 = .ok (.goto 4, 3) := by decide +kernel
theorem dX0_insertionOf_9 : decode cX0_insertionOf 9 = .ok (.iconst 2, 1) := by decide +kernel
theorem dX0_insertionOf_10 : decode cX0_insertionOf 10 = .ok (.iload_n 2, 1) := by decide +kernel
theorem dX0_insertionOf_11 : decode cX0_insertionOf 11 = .ok (.invokevirtual 43, 3) := by decide +kernel
theorem dX0_insertionOf_14 : decode cX0_insertionOf 14 = .ok (.ireturn, 1) := by decide +kernel
theorem dX0_removalOf_0 : decode cX0_removalOf 0 = .ok (.aload_n 0, 1) := by decide +kernel
theorem dX0_removalOf_1 : decode cX0_removalOf 1 = .ok (.iload_n 1, 1) := by decide +kernel
theorem dX0_removalOf_2 : decode cX0_removalOf 2 = .ok (.ifCond .ne 7, 3) := by decide +kernel
theorem dX0_removalOf_5 : decode cX0_removalOf 5 = .ok (.iconst 1, 1) := by decide +kernel
theorem dX0_removalOf_6 : decode cX0_removalOf 6 = .ok (.goto 4, 3) := by decide +kernel
theorem dX0_removalOf_9 : decode cX0_removalOf 9 = .ok (.iconst 3, 1) := by decide +kernel
theorem dX0_removalOf_10 : decode cX0_removalOf 10 = .ok (.iload_n 2, 1) := by decide +kernel
theorem dX0_removalOf_11 : decode cX0_removalOf 11 = .ok (.invokevirtual 43, 3) := by decide +kernel
theorem dX0_removalOf_14 : decode cX0_removalOf 14 = .ok (.ireturn, 1) := by decide +kernel
theorem dX0_pendingOfLine_0 : decode cX0_pendingOfLine 0 = .ok (.iload_n 1, 1) := by decide +kernel
theorem dX0_pendingOfLine_1 : decode cX0_pendingOfLine 1 = .ok (.invokestatic 35, 3) := by decide +kernel
theorem dX0_pendingOfLine_4 : decode cX0_pendingOfLine 4 = .ok (.istore_n 3, 1) := by decide +kernel
theorem dX0_pendingOfLine_5 : decode cX0_pendingOfLine 5 = .ok (.iconst 0, 1) := by decide +kernel
theorem dX0_pendingOfLine_6 : decode cX0_pendingOfLine 6 = .ok (.istore 4, 2) := by decide +kernel
theorem dX0_pendingOfLine_8 : decode cX0_pendingOfLine 8 = .ok (.iload 4, 2) := by decide +kernel
theorem dX0_pendingOfLine_10 : decode cX0_pendingOfLine 10 = .ok (.aload_n 0, 1) := by decide +kernel
theorem dX0_pendingOfLine_11 : decode cX0_pendingOfLine 11 = .ok (.getfield 15, 3) := by decide +kernel
theorem dX0_pendingOfLine_14 : decode cX0_pendingOfLine 14 = .ok (.if_icmp .ge 44, 3) := by decide +kernel
theorem dX0_pendingOfLine_17 : decode cX0_pendingOfLine 17 = .ok (.aload_n 0, 1) := by decide +kernel
theorem dX0_pendingOfLine_18 : decode cX0_pendingOfLine 18 = .ok (.iload 4, 2) := by decide +kernel
theorem dX0_pendingOfLine_20 : decode cX0_pendingOfLine 20 = .ok (.iconst 2, 1) := by decide +kernel
theorem dX0_pendingOfLine_21 : decode cX0_pendingOfLine 21 = .ok (.invokevirtual 19, 3) := by decide +kernel
theorem dX0_pendingOfLine_24 : decode cX0_pendingOfLine 24 = .ok (.ifCond .ne 28, 3) := by decide +kernel
theorem dX0_pendingOfLine_27 : decode cX0_pendingOfLine 27 = .ok (.aload_n 0, 1) := by decide +kernel
theorem dX0_pendingOfLine_28 : decode cX0_pendingOfLine 28 = .ok (.iload 4, 2) := by decide +kernel
theorem dX0_pendingOfLine_30 : decode cX0_pendingOfLine 30 = .ok (.iconst 0, 1) := by decide +kernel
theorem dX0_pendingOfLine_31 : decode cX0_pendingOfLine 31 = .ok (.invokevirtual 19, 3) := by decide +kernel
theorem dX0_pendingOfLine_34 : decode cX0_pendingOfLine 34 = .ok (.iload_n 1, 1) := by decide +kernel
theorem dX0_pendingOfLine_35 : decode cX0_pendingOfLine 35 = .ok (.if_icmp .ne 17, 3) := by decide +kernel
theorem dX0_pendingOfLine_38 : decode cX0_pendingOfLine 38 = .ok (.aload_n 0, 1) := by decide +kernel
theorem dX0_pendingOfLine_39 : decode cX0_pendingOfLine 39 = .ok (.iload 4, 2) := by decide +kernel
theorem dX0_pendingOfLine_41 : decode cX0_pendingOfLine 41 = .ok (.iload_n 3, 1) := by decide +kernel
theorem dX0_pendingOfLine_42 : decode cX0_pendingOfLine 42 = .ok (.invokevirtual 19, 3) := by decide +kernel
theorem dX0_pendingOfLine_45 : decode cX0_pendingOfLine 45 = .ok (.iload_n 2, 1) := by decide +kernel
theorem dX0_pendingOfLine_46 : decode cX0_pendingOfLine 46 = .ok (.if_icmp .ne 6, 3) := by decide +kernel
theorem dX0_pendingOfLine_49 : decode cX0_pendingOfLine 49 = .ok (.iload 4, 2) := by decide +kernel
theorem dX0_pendingOfLine_51 : decode cX0_pendingOfLine 51 = .ok (.ireturn, 1) := by decide +kernel
theorem dX0_pendingOfLine_52 : decode cX0_pendingOfLine 52 = .ok (.iinc 4 1, 3) := by decide +kernel
theorem dX0_pendingOfLine_55 : decode cX0_pendingOfLine 55 = .ok (.goto (-47), 3) := by decide +kernel
theorem dX0_pendingOfLine_58 : decode cX0_pendingOfLine 58 = .ok (.bipush (-5), 2) := by decide +kernel
theorem dX0_pendingOfLine_60 : decode cX0_pendingOfLine 60 = .ok (.ireturn, 1) := by decide +kernel
theorem dX0_isSettingOf_0 : decode cX0_isSettingOf 0 = .ok (.iload_n 1, 1) := by decide +kernel
theorem dX0_isSettingOf_1 : decode cX0_isSettingOf 1 = .ok (.ifCond .lt 17, 3) := by decide +kernel
theorem dX0_isSettingOf_4 : decode cX0_isSettingOf 4 = .ok (.iload_n 1, 1) := by decide +kernel
theorem dX0_isSettingOf_5 : decode cX0_isSettingOf 5 = .ok (.aload_n 0, 1) := by decide +kernel
theorem dX0_isSettingOf_6 : decode cX0_isSettingOf 6 = .ok (.getfield 15, 3) := by decide +kernel
theorem dX0_isSettingOf_9 : decode cX0_isSettingOf 9 = .ok (.if_icmp .ge 9, 3) := by decide +kernel
theorem dX0_isSettingOf_12 : decode cX0_isSettingOf 12 = .ok (.iload_n 1, 1) := by decide +kernel
theorem dX0_isSettingOf_13 : decode cX0_isSettingOf 13 = .ok (.bipush 60, 2) := by decide +kernel
theorem dX0_isSettingOf_15 : decode cX0_isSettingOf 15 = .ok (.if_icmp .lt 5, 3) := by decide +kernel
theorem dX0_isSettingOf_18 : decode cX0_isSettingOf 18 = .ok (.iconst 0, 1) := by decide +kernel
theorem dX0_isSettingOf_19 : decode cX0_isSettingOf 19 = .ok (.ireturn, 1) := by decide +kernel
theorem dX0_isSettingOf_20 : decode cX0_isSettingOf 20 = .ok (.iload_n 1, 1) := by decide +kernel
theorem dX0_isSettingOf_21 : decode cX0_isSettingOf 21 = .ok (.bipush 6, 2) := by decide +kernel
theorem dX0_isSettingOf_23 : decode cX0_isSettingOf 23 = .ok (.imul, 1) := by decide +kernel
theorem dX0_isSettingOf_24 : decode cX0_isSettingOf 24 = .ok (.istore 4, 2) := by decide +kernel
theorem dX0_isSettingOf_26 : decode cX0_isSettingOf 26 = .ok (.aload_n 0, 1) := by decide +kernel
theorem dX0_isSettingOf_27 : decode cX0_isSettingOf 27 = .ok (.getfield 9, 3) := by decide +kernel
theorem dX0_isSettingOf_30 : decode cX0_isSettingOf 30 = .ok (.iload 4, 2) := by decide +kernel
theorem dX0_isSettingOf_32 : decode cX0_isSettingOf 32 = .ok (.iconst 2, 1) := by decide +kernel
theorem dX0_isSettingOf_33 : decode cX0_isSettingOf 33 = .ok (.iadd, 1) := by decide +kernel
theorem dX0_isSettingOf_34 : decode cX0_isSettingOf 34 = .ok (.iaload, 1) := by decide +kernel
theorem dX0_isSettingOf_35 : decode cX0_isSettingOf 35 = .ok (.ifCond .ne 46, 3) := by decide +kernel
theorem dX0_isSettingOf_38 : decode cX0_isSettingOf 38 = .ok (.aload_n 0, 1) := by decide +kernel
theorem dX0_isSettingOf_39 : decode cX0_isSettingOf 39 = .ok (.getfield 9, 3) := by decide +kernel
theorem dX0_isSettingOf_42 : decode cX0_isSettingOf 42 = .ok (.iload 4, 2) := by decide +kernel
theorem dX0_isSettingOf_44 : decode cX0_isSettingOf 44 = .ok (.iconst 0, 1) := by decide +kernel
theorem dX0_isSettingOf_45 : decode cX0_isSettingOf 45 = .ok (.iadd, 1) := by decide +kernel
theorem dX0_isSettingOf_46 : decode cX0_isSettingOf 46 = .ok (.iaload, 1) := by decide +kernel
theorem dX0_isSettingOf_47 : decode cX0_isSettingOf 47 = .ok (.iconst 4, 1) := by decide +kernel
theorem dX0_isSettingOf_48 : decode cX0_isSettingOf 48 = .ok (.if_icmp .ne 33, 3) := by decide +kernel
theorem dX0_isSettingOf_51 : decode cX0_isSettingOf 51 = .ok (.aload_n 0, 1) := by decide +kernel
theorem dX0_isSettingOf_52 : decode cX0_isSettingOf 52 = .ok (.getfield 9, 3) := by decide +kernel
theorem dX0_isSettingOf_55 : decode cX0_isSettingOf 55 = .ok (.iload 4, 2) := by decide +kernel
theorem dX0_isSettingOf_57 : decode cX0_isSettingOf 57 = .ok (.iconst 3, 1) := by decide +kernel
theorem dX0_isSettingOf_58 : decode cX0_isSettingOf 58 = .ok (.iadd, 1) := by decide +kernel
theorem dX0_isSettingOf_59 : decode cX0_isSettingOf 59 = .ok (.iaload, 1) := by decide +kernel
theorem dX0_isSettingOf_60 : decode cX0_isSettingOf 60 = .ok (.iload_n 2, 1) := by decide +kernel
theorem dX0_isSettingOf_61 : decode cX0_isSettingOf 61 = .ok (.if_icmp .ne 20, 3) := by decide +kernel
theorem dX0_isSettingOf_64 : decode cX0_isSettingOf 64 = .ok (.aload_n 0, 1) := by decide +kernel
theorem dX0_isSettingOf_65 : decode cX0_isSettingOf 65 = .ok (.getfield 9, 3) := by decide +kernel
theorem dX0_isSettingOf_68 : decode cX0_isSettingOf 68 = .ok (.iload 4, 2) := by decide +kernel
theorem dX0_isSettingOf_70 : decode cX0_isSettingOf 70 = .ok (.iconst 4, 1) := by decide +kernel
theorem dX0_isSettingOf_71 : decode cX0_isSettingOf 71 = .ok (.iadd, 1) := by decide +kernel
theorem dX0_isSettingOf_72 : decode cX0_isSettingOf 72 = .ok (.iaload, 1) := by decide +kernel
theorem dX0_isSettingOf_73 : decode cX0_isSettingOf 73 = .ok (.iload_n 3, 1) := by decide +kernel
theorem dX0_isSettingOf_74 : decode cX0_isSettingOf 74 = .ok (.if_icmp .ne 7, 3) := by decide +kernel
theorem dX0_isSettingOf_77 : decode cX0_isSettingOf 77 = .ok (.iconst 1, 1) := by decide +kernel
theorem dX0_isSettingOf_78 : decode cX0_isSettingOf 78 = .ok (.goto 4, 3) := by decide +kernel
theorem dX0_isSettingOf_81 : decode cX0_isSettingOf 81 = .ok (.iconst 0, 1) := by decide +kernel
theorem dX0_isSettingOf_82 : decode cX0_isSettingOf 82 = .ok (.ireturn, 1) := by decide +kernel
theorem dX0_settingAt_0 : decode cX0_settingAt 0 = .ok (.iconst 0, 1) := by decide +kernel
theorem dX0_settingAt_1 : decode cX0_settingAt 1 = .ok (.istore 4, 2) := by decide +kernel
theorem dX0_settingAt_3 : decode cX0_settingAt 3 = .ok (.iconst 0, 1) := by decide +kernel
theorem dX0_settingAt_4 : decode cX0_settingAt 4 = .ok (.istore 5, 2) := by decide +kernel
theorem dX0_settingAt_6 : decode cX0_settingAt 6 = .ok (.iload 5, 2) := by decide +kernel
theorem dX0_settingAt_8 : decode cX0_settingAt 8 = .ok (.aload_n 0, 1) := by decide +kernel
theorem dX0_settingAt_9 : decode cX0_settingAt 9 = .ok (.getfield 15, 3) := by decide +kernel
theorem dX0_settingAt_12 : decode cX0_settingAt 12 = .ok (.if_icmp .ge 32, 3) := by decide +kernel
theorem dX0_settingAt_15 : decode cX0_settingAt 15 = .ok (.aload_n 0, 1) := by decide +kernel
theorem dX0_settingAt_16 : decode cX0_settingAt 16 = .ok (.iload 5, 2) := by decide +kernel
theorem dX0_settingAt_18 : decode cX0_settingAt 18 = .ok (.iload_n 1, 1) := by decide +kernel
theorem dX0_settingAt_19 : decode cX0_settingAt 19 = .ok (.iload_n 2, 1) := by decide +kernel
theorem dX0_settingAt_20 : decode cX0_settingAt 20 = .ok (.invokevirtual 46, 3) := by decide +kernel
theorem dX0_settingAt_23 : decode cX0_settingAt 23 = .ok (.ifCond .eq 15, 3) := by decide +kernel
theorem dX0_settingAt_26 : decode cX0_settingAt 26 = .ok (.iload 4, 2) := by decide +kernel
theorem dX0_settingAt_28 : decode cX0_settingAt 28 = .ok (.iload_n 3, 1) := by decide +kernel
theorem dX0_settingAt_29 : decode cX0_settingAt 29 = .ok (.if_icmp .ne 6, 3) := by decide +kernel
theorem dX0_settingAt_32 : decode cX0_settingAt 32 = .ok (.iload 5, 2) := by decide +kernel
theorem dX0_settingAt_34 : decode cX0_settingAt 34 = .ok (.ireturn, 1) := by decide +kernel
theorem dX0_settingAt_35 : decode cX0_settingAt 35 = .ok (.iinc 4 1, 3) := by decide +kernel
theorem dX0_settingAt_38 : decode cX0_settingAt 38 = .ok (.iinc 5 1, 3) := by decide +kernel
theorem dX0_settingAt_41 : decode cX0_settingAt 41 = .ok (.goto (-35), 3) := by decide +kernel
theorem dX0_settingAt_44 : decode cX0_settingAt 44 = .ok (.bipush (-5), 2) := by decide +kernel
theorem dX0_settingAt_46 : decode cX0_settingAt 46 = .ok (.ireturn, 1) := by decide +kernel
theorem dX0_settingsOfCell_0 : decode cX0_settingsOfCell 0 = .ok (.iconst 0, 1) := by decide +kernel
theorem dX0_settingsOfCell_1 : decode cX0_settingsOfCell 1 = .ok (.istore_n 3, 1) := by decide +kernel
theorem dX0_settingsOfCell_2 : decode cX0_settingsOfCell 2 = .ok (.iconst 0, 1) := by decide +kernel
theorem dX0_settingsOfCell_3 : decode cX0_settingsOfCell 3 = .ok (.istore 4, 2) := by decide +kernel
theorem dX0_settingsOfCell_5 : decode cX0_settingsOfCell 5 = .ok (.iload 4, 2) := by decide +kernel
theorem dX0_settingsOfCell_7 : decode cX0_settingsOfCell 7 = .ok (.aload_n 0, 1) := by decide +kernel
theorem dX0_settingsOfCell_8 : decode cX0_settingsOfCell 8 = .ok (.getfield 15, 3) := by decide +kernel
theorem dX0_settingsOfCell_11 : decode cX0_settingsOfCell 11 = .ok (.if_icmp .ge 23, 3) := by decide +kernel
theorem dX0_settingsOfCell_14 : decode cX0_settingsOfCell 14 = .ok (.aload_n 0, 1) := by decide +kernel
theorem dX0_settingsOfCell_15 : decode cX0_settingsOfCell 15 = .ok (.iload 4, 2) := by decide +kernel
theorem dX0_settingsOfCell_17 : decode cX0_settingsOfCell 17 = .ok (.iload_n 1, 1) := by decide +kernel
theorem dX0_settingsOfCell_18 : decode cX0_settingsOfCell 18 = .ok (.iload_n 2, 1) := by decide +kernel
theorem dX0_settingsOfCell_19 : decode cX0_settingsOfCell 19 = .ok (.invokevirtual 46, 3) := by decide +kernel
theorem dX0_settingsOfCell_22 : decode cX0_settingsOfCell 22 = .ok (.ifCond .eq 6, 3) := by decide +kernel
theorem dX0_settingsOfCell_25 : decode cX0_settingsOfCell 25 = .ok (.iinc 3 1, 3) := by decide +kernel
theorem dX0_settingsOfCell_28 : decode cX0_settingsOfCell 28 = .ok (.iinc 4 1, 3) := by decide +kernel
theorem dX0_settingsOfCell_31 : decode cX0_settingsOfCell 31 = .ok (.goto (-26), 3) := by decide +kernel
theorem dX0_settingsOfCell_34 : decode cX0_settingsOfCell 34 = .ok (.iload_n 3, 1) := by decide +kernel
theorem dX0_settingsOfCell_35 : decode cX0_settingsOfCell 35 = .ok (.ireturn, 1) := by decide +kernel
theorem dX0_settingsOfLine_0 : decode cX0_settingsOfLine 0 = .ok (.iload_n 1, 1) := by decide +kernel
theorem dX0_settingsOfLine_1 : decode cX0_settingsOfLine 1 = .ok (.ifCond .ne 7, 3) := by decide +kernel
theorem dX0_settingsOfLine_4 : decode cX0_settingsOfLine 4 = .ok (.iconst 3, 1) := by decide +kernel
theorem dX0_settingsOfLine_5 : decode cX0_settingsOfLine 5 = .ok (.goto 4, 3) := by decide +kernel
theorem dX0_settingsOfLine_8 : decode cX0_settingsOfLine 8 = .ok (.iconst 4, 1) := by decide +kernel
theorem dX0_settingsOfLine_9 : decode cX0_settingsOfLine 9 = .ok (.istore_n 3, 1) := by decide +kernel
theorem dX0_settingsOfLine_10 : decode cX0_settingsOfLine 10 = .ok (.iconst 0, 1) := by decide +kernel
theorem dX0_settingsOfLine_11 : decode cX0_settingsOfLine 11 = .ok (.istore 4, 2) := by decide +kernel
theorem dX0_settingsOfLine_13 : decode cX0_settingsOfLine 13 = .ok (.iconst 0, 1) := by decide +kernel
theorem dX0_settingsOfLine_14 : decode cX0_settingsOfLine 14 = .ok (.istore 5, 2) := by decide +kernel
theorem dX0_settingsOfLine_16 : decode cX0_settingsOfLine 16 = .ok (.iload 5, 2) := by decide +kernel
theorem dX0_settingsOfLine_18 : decode cX0_settingsOfLine 18 = .ok (.aload_n 0, 1) := by decide +kernel
theorem dX0_settingsOfLine_19 : decode cX0_settingsOfLine 19 = .ok (.getfield 15, 3) := by decide +kernel
theorem dX0_settingsOfLine_22 : decode cX0_settingsOfLine 22 = .ok (.if_icmp .ge 43, 3) := by decide +kernel
theorem dX0_settingsOfLine_25 : decode cX0_settingsOfLine 25 = .ok (.aload_n 0, 1) := by decide +kernel
theorem dX0_settingsOfLine_26 : decode cX0_settingsOfLine 26 = .ok (.iload 5, 2) := by decide +kernel
theorem dX0_settingsOfLine_28 : decode cX0_settingsOfLine 28 = .ok (.iconst 0, 1) := by decide +kernel
theorem dX0_settingsOfLine_29 : decode cX0_settingsOfLine 29 = .ok (.invokevirtual 19, 3) := by decide +kernel
theorem dX0_settingsOfLine_32 : decode cX0_settingsOfLine 32 = .ok (.iconst 4, 1) := by decide +kernel
theorem dX0_settingsOfLine_33 : decode cX0_settingsOfLine 33 = .ok (.if_icmp .ne 26, 3) := by decide +kernel
theorem dX0_settingsOfLine_36 : decode cX0_settingsOfLine 36 = .ok (.aload_n 0, 1) := by decide +kernel
theorem dX0_settingsOfLine_37 : decode cX0_settingsOfLine 37 = .ok (.iload 5, 2) := by decide +kernel
theorem dX0_settingsOfLine_39 : decode cX0_settingsOfLine 39 = .ok (.invokevirtual 50, 3) := by decide +kernel
theorem dX0_settingsOfLine_42 : decode cX0_settingsOfLine 42 = .ok (.ifCond .eq 17, 3) := by decide +kernel
theorem dX0_settingsOfLine_45 : decode cX0_settingsOfLine 45 = .ok (.aload_n 0, 1) := by decide +kernel
theorem dX0_settingsOfLine_46 : decode cX0_settingsOfLine 46 = .ok (.iload 5, 2) := by decide +kernel
theorem dX0_settingsOfLine_48 : decode cX0_settingsOfLine 48 = .ok (.iload_n 3, 1) := by decide +kernel
theorem dX0_settingsOfLine_49 : decode cX0_settingsOfLine 49 = .ok (.invokevirtual 19, 3) := by decide +kernel
theorem dX0_settingsOfLine_52 : decode cX0_settingsOfLine 52 = .ok (.iload_n 2, 1) := by decide +kernel
theorem dX0_settingsOfLine_53 : decode cX0_settingsOfLine 53 = .ok (.if_icmp .ne 6, 3) := by decide +kernel
theorem dX0_settingsOfLine_56 : decode cX0_settingsOfLine 56 = .ok (.iinc 4 1, 3) := by decide +kernel
theorem dX0_settingsOfLine_59 : decode cX0_settingsOfLine 59 = .ok (.iinc 5 1, 3) := by decide +kernel
theorem dX0_settingsOfLine_62 : decode cX0_settingsOfLine 62 = .ok (.goto (-46), 3) := by decide +kernel
theorem dX0_settingsOfLine_65 : decode cX0_settingsOfLine 65 = .ok (.iload 4, 2) := by decide +kernel
theorem dX0_settingsOfLine_67 : decode cX0_settingsOfLine 67 = .ok (.ireturn, 1) := by decide +kernel
theorem dX0_settingUnder_0 : decode cX0_settingUnder 0 = .ok (.iload_n 1, 1) := by decide +kernel
theorem dX0_settingUnder_1 : decode cX0_settingUnder 1 = .ok (.aload_n 0, 1) := by decide +kernel
theorem dX0_settingUnder_2 : decode cX0_settingUnder 2 = .ok (.getfield 15, 3) := by decide +kernel
theorem dX0_settingUnder_5 : decode cX0_settingUnder 5 = .ok (.invokestatic 53, 3) := by decide +kernel
theorem dX0_settingUnder_8 : decode cX0_settingUnder 8 = .ok (.iconst 1, 1) := by decide +kernel
theorem dX0_settingUnder_9 : decode cX0_settingUnder 9 = .ok (.isub, 1) := by decide +kernel
theorem dX0_settingUnder_10 : decode cX0_settingUnder 10 = .ok (.istore 4, 2) := by decide +kernel
theorem dX0_settingUnder_12 : decode cX0_settingUnder 12 = .ok (.iload 4, 2) := by decide +kernel
theorem dX0_settingUnder_14 : decode cX0_settingUnder 14 = .ok (.ifCond .lt 23, 3) := by decide +kernel
theorem dX0_settingUnder_17 : decode cX0_settingUnder 17 = .ok (.aload_n 0, 1) := by decide +kernel
theorem dX0_settingUnder_18 : decode cX0_settingUnder 18 = .ok (.iload 4, 2) := by decide +kernel
theorem dX0_settingUnder_20 : decode cX0_settingUnder 20 = .ok (.iload_n 2, 1) := by decide +kernel
theorem dX0_settingUnder_21 : decode cX0_settingUnder 21 = .ok (.iload_n 3, 1) := by decide +kernel
theorem dX0_settingUnder_22 : decode cX0_settingUnder 22 = .ok (.invokevirtual 46, 3) := by decide +kernel
theorem dX0_settingUnder_25 : decode cX0_settingUnder 25 = .ok (.ifCond .eq 6, 3) := by decide +kernel
theorem dX0_settingUnder_28 : decode cX0_settingUnder 28 = .ok (.iload 4, 2) := by decide +kernel
theorem dX0_settingUnder_30 : decode cX0_settingUnder 30 = .ok (.ireturn, 1) := by decide +kernel
theorem dX0_settingUnder_31 : decode cX0_settingUnder 31 = .ok (.iinc 4 (-1), 3) := by decide +kernel
theorem dX0_settingUnder_34 : decode cX0_settingUnder 34 = .ok (.goto (-22), 3) := by decide +kernel
theorem dX0_settingUnder_37 : decode cX0_settingUnder 37 = .ok (.bipush (-5), 2) := by decide +kernel
theorem dX0_settingUnder_39 : decode cX0_settingUnder 39 = .ok (.ireturn, 1) := by decide +kernel
theorem dX0_rests_0 : decode cX0_rests 0 = .ok (.aload_n 0, 1) := by decide +kernel
theorem dX0_rests_1 : decode cX0_rests 1 = .ok (.iload_n 1, 1) := by decide +kernel
theorem dX0_rests_2 : decode cX0_rests 2 = .ok (.invokevirtual 50, 3) := by decide +kernel
theorem dX0_rests_5 : decode cX0_rests 5 = .ok (.ifCond .eq 11, 3) := by decide +kernel
theorem dX0_rests_8 : decode cX0_rests 8 = .ok (.aload_n 0, 1) := by decide +kernel
theorem dX0_rests_9 : decode cX0_rests 9 = .ok (.iload_n 2, 1) := by decide +kernel
theorem dX0_rests_10 : decode cX0_rests 10 = .ok (.invokevirtual 50, 3) := by decide +kernel
theorem dX0_rests_13 : decode cX0_rests 13 = .ok (.ifCond .ne 5, 3) := by decide +kernel
theorem dX0_rests_16 : decode cX0_rests 16 = .ok (.iconst 0, 1) := by decide +kernel
theorem dX0_rests_17 : decode cX0_rests 17 = .ok (.ireturn, 1) := by decide +kernel
theorem dX0_rests_18 : decode cX0_rests 18 = .ok (.aload_n 0, 1) := by decide +kernel
theorem dX0_rests_19 : decode cX0_rests 19 = .ok (.iload_n 1, 1) := by decide +kernel
theorem dX0_rests_20 : decode cX0_rests 20 = .ok (.iconst 3, 1) := by decide +kernel
theorem dX0_rests_21 : decode cX0_rests 21 = .ok (.invokevirtual 19, 3) := by decide +kernel
theorem dX0_rests_24 : decode cX0_rests 24 = .ok (.aload_n 0, 1) := by decide +kernel
theorem dX0_rests_25 : decode cX0_rests 25 = .ok (.iload_n 2, 1) := by decide +kernel
theorem dX0_rests_26 : decode cX0_rests 26 = .ok (.iconst 3, 1) := by decide +kernel
theorem dX0_rests_27 : decode cX0_rests 27 = .ok (.invokevirtual 19, 3) := by decide +kernel
theorem dX0_rests_30 : decode cX0_rests 30 = .ok (.if_icmp .ne 7, 3) := by decide +kernel
theorem dX0_rests_33 : decode cX0_rests 33 = .ok (.iconst 1, 1) := by decide +kernel
theorem dX0_rests_34 : decode cX0_rests 34 = .ok (.goto 4, 3) := by decide +kernel
theorem dX0_rests_37 : decode cX0_rests 37 = .ok (.iconst 0, 1) := by decide +kernel
theorem dX0_rests_38 : decode cX0_rests 38 = .ok (.istore_n 3, 1) := by decide +kernel
theorem dX0_rests_39 : decode cX0_rests 39 = .ok (.aload_n 0, 1) := by decide +kernel
theorem dX0_rests_40 : decode cX0_rests 40 = .ok (.iload_n 1, 1) := by decide +kernel
theorem dX0_rests_41 : decode cX0_rests 41 = .ok (.iconst 4, 1) := by decide +kernel
theorem dX0_rests_42 : decode cX0_rests 42 = .ok (.invokevirtual 19, 3) := by decide +kernel
theorem dX0_rests_45 : decode cX0_rests 45 = .ok (.aload_n 0, 1) := by decide +kernel
theorem dX0_rests_46 : decode cX0_rests 46 = .ok (.iload_n 2, 1) := by decide +kernel
theorem dX0_rests_47 : decode cX0_rests 47 = .ok (.iconst 4, 1) := by decide +kernel
theorem dX0_rests_48 : decode cX0_rests 48 = .ok (.invokevirtual 19, 3) := by decide +kernel
theorem dX0_rests_51 : decode cX0_rests 51 = .ok (.if_icmp .ne 7, 3) := by decide +kernel
theorem dX0_rests_54 : decode cX0_rests 54 = .ok (.iconst 1, 1) := by decide +kernel
theorem dX0_rests_55 : decode cX0_rests 55 = .ok (.goto 4, 3) := by decide +kernel
theorem dX0_rests_58 : decode cX0_rests 58 = .ok (.iconst 0, 1) := by decide +kernel
theorem dX0_rests_59 : decode cX0_rests 59 = .ok (.istore 4, 2) := by decide +kernel
theorem dX0_rests_61 : decode cX0_rests 61 = .ok (.aload_n 0, 1) := by decide +kernel
theorem dX0_rests_62 : decode cX0_rests 62 = .ok (.iload_n 2, 1) := by decide +kernel
theorem dX0_rests_63 : decode cX0_rests 63 = .ok (.iconst 0, 1) := by decide +kernel
theorem dX0_rests_64 : decode cX0_rests 64 = .ok (.invokevirtual 19, 3) := by decide +kernel
theorem dX0_rests_67 : decode cX0_rests 67 = .ok (.istore 5, 2) := by decide +kernel
theorem dX0_rests_69 : decode cX0_rests 69 = .ok (.aload_n 0, 1) := by decide +kernel
theorem dX0_rests_70 : decode cX0_rests 70 = .ok (.iload_n 1, 1) := by decide +kernel
theorem dX0_rests_71 : decode cX0_rests 71 = .ok (.iconst 0, 1) := by decide +kernel
theorem dX0_rests_72 : decode cX0_rests 72 = .ok (.invokevirtual 19, 3) := by decide +kernel
theorem dX0_rests_75 : decode cX0_rests 75 = .ok (.tableswitch 107 1 4 #[29, 107, 44, 61], 29) := by decide +kernel
theorem dX0_rests_104 : decode cX0_rests 104 = .ok (.iload 5, 2) := by decide +kernel
theorem dX0_rests_106 : decode cX0_rests 106 = .ok (.ifCond .ne 11, 3) := by decide +kernel
theorem dX0_rests_109 : decode cX0_rests 109 = .ok (.iload_n 3, 1) := by decide +kernel
theorem dX0_rests_110 : decode cX0_rests 110 = .ok (.ifCond .eq 7, 3) := by decide +kernel
theorem dX0_rests_113 : decode cX0_rests 113 = .ok (.iconst 1, 1) := by decide +kernel
theorem dX0_rests_114 : decode cX0_rests 114 = .ok (.goto 4, 3) := by decide +kernel
theorem dX0_rests_117 : decode cX0_rests 117 = .ok (.iconst 0, 1) := by decide +kernel
theorem dX0_rests_118 : decode cX0_rests 118 = .ok (.ireturn, 1) := by decide +kernel
theorem dX0_rests_119 : decode cX0_rests 119 = .ok (.iload 5, 2) := by decide +kernel
theorem dX0_rests_121 : decode cX0_rests 121 = .ok (.iconst 2, 1) := by decide +kernel
theorem dX0_rests_122 : decode cX0_rests 122 = .ok (.if_icmp .ne 12, 3) := by decide +kernel
theorem dX0_rests_125 : decode cX0_rests 125 = .ok (.iload 4, 2) := by decide +kernel
theorem dX0_rests_127 : decode cX0_rests 127 = .ok (.ifCond .eq 7, 3) := by decide +kernel
theorem dX0_rests_130 : decode cX0_rests 130 = .ok (.iconst 1, 1) := by decide +kernel
theorem dX0_rests_131 : decode cX0_rests 131 = .ok (.goto 4, 3) := by decide +kernel
theorem dX0_rests_134 : decode cX0_rests 134 = .ok (.iconst 0, 1) := by decide +kernel
theorem dX0_rests_135 : decode cX0_rests 135 = .ok (.ireturn, 1) := by decide +kernel
theorem dX0_rests_136 : decode cX0_rests 136 = .ok (.iload 5, 2) := by decide +kernel
theorem dX0_rests_138 : decode cX0_rests 138 = .ok (.ifCond .ne 7, 3) := by decide +kernel
theorem dX0_rests_141 : decode cX0_rests 141 = .ok (.iload_n 3, 1) := by decide +kernel
theorem dX0_rests_142 : decode cX0_rests 142 = .ok (.ifCond .ne 34, 3) := by decide +kernel
theorem dX0_rests_145 : decode cX0_rests 145 = .ok (.iload 5, 2) := by decide +kernel
theorem dX0_rests_147 : decode cX0_rests 147 = .ok (.iconst 2, 1) := by decide +kernel
theorem dX0_rests_148 : decode cX0_rests 148 = .ok (.if_icmp .ne 8, 3) := by decide +kernel
theorem dX0_rests_151 : decode cX0_rests 151 = .ok (.iload 4, 2) := by decide +kernel
theorem dX0_rests_153 : decode cX0_rests 153 = .ok (.ifCond .ne 23, 3) := by decide +kernel
theorem dX0_rests_156 : decode cX0_rests 156 = .ok (.iload 5, 2) := by decide +kernel
theorem dX0_rests_158 : decode cX0_rests 158 = .ok (.iconst 4, 1) := by decide +kernel
theorem dX0_rests_159 : decode cX0_rests 159 = .ok (.if_icmp .ne 21, 3) := by decide +kernel
theorem dX0_rests_162 : decode cX0_rests 162 = .ok (.iload_n 3, 1) := by decide +kernel
theorem dX0_rests_163 : decode cX0_rests 163 = .ok (.ifCond .eq 17, 3) := by decide +kernel
theorem dX0_rests_166 : decode cX0_rests 166 = .ok (.iload 4, 2) := by decide +kernel
theorem dX0_rests_168 : decode cX0_rests 168 = .ok (.ifCond .eq 12, 3) := by decide +kernel
theorem dX0_rests_171 : decode cX0_rests 171 = .ok (.iload_n 2, 1) := by decide +kernel
theorem dX0_rests_172 : decode cX0_rests 172 = .ok (.iload_n 1, 1) := by decide +kernel
theorem dX0_rests_173 : decode cX0_rests 173 = .ok (.if_icmp .ge 7, 3) := by decide +kernel
theorem dX0_rests_176 : decode cX0_rests 176 = .ok (.iconst 1, 1) := by decide +kernel
theorem dX0_rests_177 : decode cX0_rests 177 = .ok (.goto 4, 3) := by decide +kernel
theorem dX0_rests_180 : decode cX0_rests 180 = .ok (.iconst 0, 1) := by decide +kernel
theorem dX0_rests_181 : decode cX0_rests 181 = .ok (.ireturn, 1) := by decide +kernel
theorem dX0_rests_182 : decode cX0_rests 182 = .ok (.iconst 0, 1) := by decide +kernel
theorem dX0_rests_183 : decode cX0_rests 183 = .ok (.ireturn, 1) := by decide +kernel
theorem dX0_supportsOf_0 : decode cX0_supportsOf 0 = .ok (.iconst 0, 1) := by decide +kernel
theorem dX0_supportsOf_1 : decode cX0_supportsOf 1 = .ok (.istore_n 2, 1) := by decide +kernel
theorem dX0_supportsOf_2 : decode cX0_supportsOf 2 = .ok (.iconst 0, 1) := by decide +kernel
theorem dX0_supportsOf_3 : decode cX0_supportsOf 3 = .ok (.istore_n 3, 1) := by decide +kernel
theorem dX0_supportsOf_4 : decode cX0_supportsOf 4 = .ok (.iload_n 3, 1) := by decide +kernel
theorem dX0_supportsOf_5 : decode cX0_supportsOf 5 = .ok (.aload_n 0, 1) := by decide +kernel
theorem dX0_supportsOf_6 : decode cX0_supportsOf 6 = .ok (.getfield 15, 3) := by decide +kernel
theorem dX0_supportsOf_9 : decode cX0_supportsOf 9 = .ok (.if_icmp .ge 21, 3) := by decide +kernel
theorem dX0_supportsOf_12 : decode cX0_supportsOf 12 = .ok (.aload_n 0, 1) := by decide +kernel
theorem dX0_supportsOf_13 : decode cX0_supportsOf 13 = .ok (.iload_n 1, 1) := by decide +kernel
theorem dX0_supportsOf_14 : decode cX0_supportsOf 14 = .ok (.iload_n 3, 1) := by decide +kernel
theorem dX0_supportsOf_15 : decode cX0_supportsOf 15 = .ok (.invokevirtual 58, 3) := by decide +kernel
theorem dX0_supportsOf_18 : decode cX0_supportsOf 18 = .ok (.ifCond .eq 6, 3) := by decide +kernel
theorem dX0_supportsOf_21 : decode cX0_supportsOf 21 = .ok (.iinc 2 1, 3) := by decide +kernel
theorem dX0_supportsOf_24 : decode cX0_supportsOf 24 = .ok (.iinc 3 1, 3) := by decide +kernel
theorem dX0_supportsOf_27 : decode cX0_supportsOf 27 = .ok (.goto (-23), 3) := by decide +kernel
theorem dX0_supportsOf_30 : decode cX0_supportsOf 30 = .ok (.iload_n 2, 1) := by decide +kernel
theorem dX0_supportsOf_31 : decode cX0_supportsOf 31 = .ok (.ireturn, 1) := by decide +kernel
theorem dX0_dependentsOf_0 : decode cX0_dependentsOf 0 = .ok (.iconst 0, 1) := by decide +kernel
theorem dX0_dependentsOf_1 : decode cX0_dependentsOf 1 = .ok (.istore_n 2, 1) := by decide +kernel
theorem dX0_dependentsOf_2 : decode cX0_dependentsOf 2 = .ok (.iconst 0, 1) := by decide +kernel
theorem dX0_dependentsOf_3 : decode cX0_dependentsOf 3 = .ok (.istore_n 3, 1) := by decide +kernel
theorem dX0_dependentsOf_4 : decode cX0_dependentsOf 4 = .ok (.iload_n 3, 1) := by decide +kernel
theorem dX0_dependentsOf_5 : decode cX0_dependentsOf 5 = .ok (.aload_n 0, 1) := by decide +kernel
theorem dX0_dependentsOf_6 : decode cX0_dependentsOf 6 = .ok (.getfield 15, 3) := by decide +kernel
theorem dX0_dependentsOf_9 : decode cX0_dependentsOf 9 = .ok (.if_icmp .ge 21, 3) := by decide +kernel
theorem dX0_dependentsOf_12 : decode cX0_dependentsOf 12 = .ok (.aload_n 0, 1) := by decide +kernel
theorem dX0_dependentsOf_13 : decode cX0_dependentsOf 13 = .ok (.iload_n 3, 1) := by decide +kernel
theorem dX0_dependentsOf_14 : decode cX0_dependentsOf 14 = .ok (.iload_n 1, 1) := by decide +kernel
theorem dX0_dependentsOf_15 : decode cX0_dependentsOf 15 = .ok (.invokevirtual 58, 3) := by decide +kernel
theorem dX0_dependentsOf_18 : decode cX0_dependentsOf 18 = .ok (.ifCond .eq 6, 3) := by decide +kernel
theorem dX0_dependentsOf_21 : decode cX0_dependentsOf 21 = .ok (.iinc 2 1, 3) := by decide +kernel
theorem dX0_dependentsOf_24 : decode cX0_dependentsOf 24 = .ok (.iinc 3 1, 3) := by decide +kernel
theorem dX0_dependentsOf_27 : decode cX0_dependentsOf 27 = .ok (.goto (-23), 3) := by decide +kernel
theorem dX0_dependentsOf_30 : decode cX0_dependentsOf 30 = .ok (.iload_n 2, 1) := by decide +kernel
theorem dX0_dependentsOf_31 : decode cX0_dependentsOf 31 = .ok (.ireturn, 1) := by decide +kernel
theorem dX0_inState_0 : decode cX0_inState 0 = .ok (.iconst 0, 1) := by decide +kernel
theorem dX0_inState_1 : decode cX0_inState 1 = .ok (.istore_n 3, 1) := by decide +kernel
theorem dX0_inState_2 : decode cX0_inState 2 = .ok (.iconst 0, 1) := by decide +kernel
theorem dX0_inState_3 : decode cX0_inState 3 = .ok (.istore 4, 2) := by decide +kernel
theorem dX0_inState_5 : decode cX0_inState 5 = .ok (.iload 4, 2) := by decide +kernel
theorem dX0_inState_7 : decode cX0_inState 7 = .ok (.aload_n 0, 1) := by decide +kernel
theorem dX0_inState_8 : decode cX0_inState 8 = .ok (.getfield 15, 3) := by decide +kernel
theorem dX0_inState_11 : decode cX0_inState 11 = .ok (.if_icmp .ge 39, 3) := by decide +kernel
theorem dX0_inState_14 : decode cX0_inState 14 = .ok (.aload_n 0, 1) := by decide +kernel
theorem dX0_inState_15 : decode cX0_inState 15 = .ok (.iload 4, 2) := by decide +kernel
theorem dX0_inState_17 : decode cX0_inState 17 = .ok (.iconst 2, 1) := by decide +kernel
theorem dX0_inState_18 : decode cX0_inState 18 = .ok (.invokevirtual 19, 3) := by decide +kernel
theorem dX0_inState_21 : decode cX0_inState 21 = .ok (.iload_n 2, 1) := by decide +kernel
theorem dX0_inState_22 : decode cX0_inState 22 = .ok (.if_icmp .ne 22, 3) := by decide +kernel
theorem dX0_inState_25 : decode cX0_inState 25 = .ok (.iload_n 1, 1) := by decide +kernel
theorem dX0_inState_26 : decode cX0_inState 26 = .ok (.iconst (-1), 1) := by decide +kernel
theorem dX0_inState_27 : decode cX0_inState 27 = .ok (.if_icmp .eq 14, 3) := by decide +kernel
theorem dX0_inState_30 : decode cX0_inState 30 = .ok (.aload_n 0, 1) := by decide +kernel
theorem dX0_inState_31 : decode cX0_inState 31 = .ok (.iload 4, 2) := by decide +kernel
theorem dX0_inState_33 : decode cX0_inState 33 = .ok (.iconst 1, 1) := by decide +kernel
theorem dX0_inState_34 : decode cX0_inState 34 = .ok (.invokevirtual 19, 3) := by decide +kernel
theorem dX0_inState_37 : decode cX0_inState 37 = .ok (.iload_n 1, 1) := by decide +kernel
theorem dX0_inState_38 : decode cX0_inState 38 = .ok (.if_icmp .ne 6, 3) := by decide +kernel
theorem dX0_inState_41 : decode cX0_inState 41 = .ok (.iinc 3 1, 3) := by decide +kernel
theorem dX0_inState_44 : decode cX0_inState 44 = .ok (.iinc 4 1, 3) := by decide +kernel
theorem dX0_inState_47 : decode cX0_inState 47 = .ok (.goto (-42), 3) := by decide +kernel
theorem dX0_inState_50 : decode cX0_inState 50 = .ok (.iload_n 3, 1) := by decide +kernel
theorem dX0_inState_51 : decode cX0_inState 51 = .ok (.ireturn, 1) := by decide +kernel
theorem dX0_pendingOf_0 : decode cX0_pendingOf 0 = .ok (.iconst 0, 1) := by decide +kernel
theorem dX0_pendingOf_1 : decode cX0_pendingOf 1 = .ok (.istore_n 2, 1) := by decide +kernel
theorem dX0_pendingOf_2 : decode cX0_pendingOf 2 = .ok (.iconst 0, 1) := by decide +kernel
theorem dX0_pendingOf_3 : decode cX0_pendingOf 3 = .ok (.istore_n 3, 1) := by decide +kernel
theorem dX0_pendingOf_4 : decode cX0_pendingOf 4 = .ok (.iload_n 3, 1) := by decide +kernel
theorem dX0_pendingOf_5 : decode cX0_pendingOf 5 = .ok (.aload_n 0, 1) := by decide +kernel
theorem dX0_pendingOf_6 : decode cX0_pendingOf 6 = .ok (.getfield 15, 3) := by decide +kernel
theorem dX0_pendingOf_9 : decode cX0_pendingOf 9 = .ok (.if_icmp .ge 30, 3) := by decide +kernel
theorem dX0_pendingOf_12 : decode cX0_pendingOf 12 = .ok (.aload_n 0, 1) := by decide +kernel
theorem dX0_pendingOf_13 : decode cX0_pendingOf 13 = .ok (.iload_n 3, 1) := by decide +kernel
theorem dX0_pendingOf_14 : decode cX0_pendingOf 14 = .ok (.iconst 0, 1) := by decide +kernel
theorem dX0_pendingOf_15 : decode cX0_pendingOf 15 = .ok (.invokevirtual 19, 3) := by decide +kernel
theorem dX0_pendingOf_18 : decode cX0_pendingOf 18 = .ok (.iload_n 1, 1) := by decide +kernel
theorem dX0_pendingOf_19 : decode cX0_pendingOf 19 = .ok (.if_icmp .ne 14, 3) := by decide +kernel
theorem dX0_pendingOf_22 : decode cX0_pendingOf 22 = .ok (.aload_n 0, 1) := by decide +kernel
theorem dX0_pendingOf_23 : decode cX0_pendingOf 23 = .ok (.iload_n 3, 1) := by decide +kernel
theorem dX0_pendingOf_24 : decode cX0_pendingOf 24 = .ok (.invokevirtual 50, 3) := by decide +kernel
theorem dX0_pendingOf_27 : decode cX0_pendingOf 27 = .ok (.ifCond .eq 6, 3) := by decide +kernel
theorem dX0_pendingOf_30 : decode cX0_pendingOf 30 = .ok (.iinc 2 1, 3) := by decide +kernel
theorem dX0_pendingOf_33 : decode cX0_pendingOf 33 = .ok (.iinc 3 1, 3) := by decide +kernel
theorem dX0_pendingOf_36 : decode cX0_pendingOf 36 = .ok (.goto (-32), 3) := by decide +kernel
theorem dX0_pendingOf_39 : decode cX0_pendingOf 39 = .ok (.iload_n 2, 1) := by decide +kernel
theorem dX0_pendingOf_40 : decode cX0_pendingOf 40 = .ok (.ireturn, 1) := by decide +kernel
theorem dX0_dissolveCell_0 : decode cX0_dissolveCell 0 = .ok (.iconst 0, 1) := by decide +kernel
theorem dX0_dissolveCell_1 : decode cX0_dissolveCell 1 = .ok (.istore_n 3, 1) := by decide +kernel
theorem dX0_dissolveCell_2 : decode cX0_dissolveCell 2 = .ok (.iload_n 3, 1) := by decide +kernel
theorem dX0_dissolveCell_3 : decode cX0_dissolveCell 3 = .ok (.aload_n 0, 1) := by decide +kernel
theorem dX0_dissolveCell_4 : decode cX0_dissolveCell 4 = .ok (.getfield 15, 3) := by decide +kernel
theorem dX0_dissolveCell_7 : decode cX0_dissolveCell 7 = .ok (.if_icmp .ge 26, 3) := by decide +kernel
theorem dX0_dissolveCell_10 : decode cX0_dissolveCell 10 = .ok (.aload_n 0, 1) := by decide +kernel
theorem dX0_dissolveCell_11 : decode cX0_dissolveCell 11 = .ok (.iload_n 3, 1) := by decide +kernel
theorem dX0_dissolveCell_12 : decode cX0_dissolveCell 12 = .ok (.iload_n 1, 1) := by decide +kernel
theorem dX0_dissolveCell_13 : decode cX0_dissolveCell 13 = .ok (.iload_n 2, 1) := by decide +kernel
theorem dX0_dissolveCell_14 : decode cX0_dissolveCell 14 = .ok (.invokevirtual 46, 3) := by decide +kernel
theorem dX0_dissolveCell_17 : decode cX0_dissolveCell 17 = .ok (.ifCond .eq 10, 3) := by decide +kernel
theorem dX0_dissolveCell_20 : decode cX0_dissolveCell 20 = .ok (.aload_n 0, 1) := by decide +kernel
theorem dX0_dissolveCell_21 : decode cX0_dissolveCell 21 = .ok (.iload_n 3, 1) := by decide +kernel
theorem dX0_dissolveCell_22 : decode cX0_dissolveCell 22 = .ok (.iconst 2, 1) := by decide +kernel
theorem dX0_dissolveCell_23 : decode cX0_dissolveCell 23 = .ok (.iconst 3, 1) := by decide +kernel
theorem dX0_dissolveCell_24 : decode cX0_dissolveCell 24 = .ok (.invokevirtual 31, 3) := by decide +kernel
theorem dX0_dissolveCell_27 : decode cX0_dissolveCell 27 = .ok (.iinc 3 1, 3) := by decide +kernel
theorem dX0_dissolveCell_30 : decode cX0_dissolveCell 30 = .ok (.goto (-28), 3) := by decide +kernel
theorem dX0_dissolveCell_33 : decode cX0_dissolveCell 33 = .ok (.return_, 1) := by decide +kernel
theorem dX0_leaveLine_0 : decode cX0_leaveLine 0 = .ok (.iload_n 1, 1) := by decide +kernel
theorem dX0_leaveLine_1 : decode cX0_leaveLine 1 = .ok (.ifCond .ne 7, 3) := by decide +kernel
theorem dX0_leaveLine_4 : decode cX0_leaveLine 4 = .ok (.iconst 3, 1) := by decide +kernel
theorem dX0_leaveLine_5 : decode cX0_leaveLine 5 = .ok (.goto 4, 3) := by decide +kernel
theorem dX0_leaveLine_8 : decode cX0_leaveLine 8 = .ok (.iconst 4, 1) := by decide +kernel
theorem dX0_leaveLine_9 : decode cX0_leaveLine 9 = .ok (.istore_n 3, 1) := by decide +kernel
theorem dX0_leaveLine_10 : decode cX0_leaveLine 10 = .ok (.iconst 0, 1) := by decide +kernel
theorem dX0_leaveLine_11 : decode cX0_leaveLine 11 = .ok (.istore 4, 2) := by decide +kernel
theorem dX0_leaveLine_13 : decode cX0_leaveLine 13 = .ok (.iload 4, 2) := by decide +kernel
theorem dX0_leaveLine_15 : decode cX0_leaveLine 15 = .ok (.aload_n 0, 1) := by decide +kernel
theorem dX0_leaveLine_16 : decode cX0_leaveLine 16 = .ok (.getfield 15, 3) := by decide +kernel
theorem dX0_leaveLine_19 : decode cX0_leaveLine 19 = .ok (.if_icmp .ge 46, 3) := by decide +kernel
theorem dX0_leaveLine_22 : decode cX0_leaveLine 22 = .ok (.aload_n 0, 1) := by decide +kernel
theorem dX0_leaveLine_23 : decode cX0_leaveLine 23 = .ok (.iload 4, 2) := by decide +kernel
theorem dX0_leaveLine_25 : decode cX0_leaveLine 25 = .ok (.iload_n 3, 1) := by decide +kernel
theorem dX0_leaveLine_26 : decode cX0_leaveLine 26 = .ok (.invokevirtual 19, 3) := by decide +kernel
theorem dX0_leaveLine_29 : decode cX0_leaveLine 29 = .ok (.iload_n 2, 1) := by decide +kernel
theorem dX0_leaveLine_30 : decode cX0_leaveLine 30 = .ok (.if_icmp .ne 29, 3) := by decide +kernel
theorem dX0_leaveLine_33 : decode cX0_leaveLine 33 = .ok (.aload_n 0, 1) := by decide +kernel
theorem dX0_leaveLine_34 : decode cX0_leaveLine 34 = .ok (.iload 4, 2) := by decide +kernel
theorem dX0_leaveLine_36 : decode cX0_leaveLine 36 = .ok (.invokevirtual 50, 3) := by decide +kernel
theorem dX0_leaveLine_39 : decode cX0_leaveLine 39 = .ok (.ifCond .eq 11, 3) := by decide +kernel
theorem dX0_leaveLine_42 : decode cX0_leaveLine 42 = .ok (.aload_n 0, 1) := by decide +kernel
theorem dX0_leaveLine_43 : decode cX0_leaveLine 43 = .ok (.iload 4, 2) := by decide +kernel
theorem dX0_leaveLine_45 : decode cX0_leaveLine 45 = .ok (.iconst 2, 1) := by decide +kernel
theorem dX0_leaveLine_46 : decode cX0_leaveLine 46 = .ok (.iconst 3, 1) := by decide +kernel
theorem dX0_leaveLine_47 : decode cX0_leaveLine 47 = .ok (.invokevirtual 31, 3) := by decide +kernel
theorem dX0_leaveLine_50 : decode cX0_leaveLine 50 = .ok (.aload_n 0, 1) := by decide +kernel
theorem dX0_leaveLine_51 : decode cX0_leaveLine 51 = .ok (.iload 4, 2) := by decide +kernel
theorem dX0_leaveLine_53 : decode cX0_leaveLine 53 = .ok (.iload_n 3, 1) := by decide +kernel
theorem dX0_leaveLine_54 : decode cX0_leaveLine 54 = .ok (.bipush (-5), 2) := by decide +kernel
theorem dX0_leaveLine_56 : decode cX0_leaveLine 56 = .ok (.invokevirtual 31, 3) := by decide +kernel
theorem dX0_leaveLine_59 : decode cX0_leaveLine 59 = .ok (.iinc 4 1, 3) := by decide +kernel
theorem dX0_leaveLine_62 : decode cX0_leaveLine 62 = .ok (.goto (-49), 3) := by decide +kernel
theorem dX0_leaveLine_65 : decode cX0_leaveLine 65 = .ok (.return_, 1) := by decide +kernel
theorem dX0_copyFrom_0 : decode cX0_copyFrom 0 = .ok (.aload_n 1, 1) := by decide +kernel
theorem dX0_copyFrom_1 : decode cX0_copyFrom 1 = .ok (.getfield 9, 3) := by decide +kernel
theorem dX0_copyFrom_4 : decode cX0_copyFrom 4 = .ok (.aload_n 0, 1) := by decide +kernel
theorem dX0_copyFrom_5 : decode cX0_copyFrom 5 = .ok (.getfield 9, 3) := by decide +kernel
theorem dX0_copyFrom_8 : decode cX0_copyFrom 8 = .ok (.invokestatic 62, 3) := by decide +kernel
theorem dX0_copyFrom_11 : decode cX0_copyFrom 11 = .ok (.aload_n 0, 1) := by decide +kernel
theorem dX0_copyFrom_12 : decode cX0_copyFrom 12 = .ok (.aload_n 1, 1) := by decide +kernel
theorem dX0_copyFrom_13 : decode cX0_copyFrom 13 = .ok (.getfield 15, 3) := by decide +kernel
theorem dX0_copyFrom_16 : decode cX0_copyFrom 16 = .ok (.putfield 15, 3) := by decide +kernel
theorem dX0_copyFrom_19 : decode cX0_copyFrom 19 = .ok (.return_, 1) := by decide +kernel
theorem dX1_init_0 : decode cX1_init 0 = .ok (.aload_n 0, 1) := by decide +kernel
theorem dX1_init_1 : decode cX1_init 1 = .ok (.invokespecial 3, 3) := by decide +kernel
theorem dX1_init_4 : decode cX1_init 4 = .ok (.aload_n 0, 1) := by decide +kernel
theorem dX1_init_5 : decode cX1_init 5 = .ok (.iconst 5, 1) := by decide +kernel
theorem dX1_init_6 : decode cX1_init 6 = .ok (.anewarray 11, 3) := by decide +kernel
theorem dX1_init_9 : decode cX1_init 9 = .ok (.putfield 13, 3) := by decide +kernel
theorem dX1_init_12 : decode cX1_init 12 = .ok (.iconst 0, 1) := by decide +kernel
theorem dX1_init_13 : decode cX1_init 13 = .ok (.istore_n 1, 1) := by decide +kernel
theorem dX1_init_14 : decode cX1_init 14 = .ok (.iload_n 1, 1) := by decide +kernel
theorem dX1_init_15 : decode cX1_init 15 = .ok (.iconst 5, 1) := by decide +kernel
theorem dX1_init_16 : decode cX1_init 16 = .ok (.if_icmp .ge 22, 3) := by decide +kernel
theorem dX1_init_19 : decode cX1_init 19 = .ok (.aload_n 0, 1) := by decide +kernel
theorem dX1_init_20 : decode cX1_init 20 = .ok (.getfield 13, 3) := by decide +kernel
theorem dX1_init_23 : decode cX1_init 23 = .ok (.iload_n 1, 1) := by decide +kernel
theorem dX1_init_24 : decode cX1_init 24 = .ok (.new 11, 3) := by decide +kernel
theorem dX1_init_27 : decode cX1_init 27 = .ok (.dup, 1) := by decide +kernel
theorem dX1_init_28 : decode cX1_init 28 = .ok (.invokespecial 17, 3) := by decide +kernel
theorem dX1_init_31 : decode cX1_init 31 = .ok (.aastore, 1) := by decide +kernel
theorem dX1_init_32 : decode cX1_init 32 = .ok (.iinc 1 1, 3) := by decide +kernel
theorem dX1_init_35 : decode cX1_init 35 = .ok (.goto (-21), 3) := by decide +kernel
theorem dX1_init_38 : decode cX1_init 38 = .ok (.return_, 1) := by decide +kernel
theorem dX1_after_0 : decode cX1_after 0 = .ok (.aload_n 0, 1) := by decide +kernel
theorem dX1_after_1 : decode cX1_after 1 = .ok (.getfield 13, 3) := by decide +kernel
theorem dX1_after_4 : decode cX1_after 4 = .ok (.aload_n 0, 1) := by decide +kernel
theorem dX1_after_5 : decode cX1_after 5 = .ok (.getfield 18, 3) := by decide +kernel
theorem dX1_after_8 : decode cX1_after 8 = .ok (.iload_n 1, 1) := by decide +kernel
theorem dX1_after_9 : decode cX1_after 9 = .ok (.iadd, 1) := by decide +kernel
theorem dX1_after_10 : decode cX1_after 10 = .ok (.iconst 5, 1) := by decide +kernel
theorem dX1_after_11 : decode cX1_after 11 = .ok (.invokestatic 22, 3) := by decide +kernel
theorem dX1_after_14 : decode cX1_after 14 = .ok (.aaload, 1) := by decide +kernel
theorem dX1_after_15 : decode cX1_after 15 = .ok (.areturn, 1) := by decide +kernel
theorem dX1_draft_0 : decode cX1_draft 0 = .ok (.aload_n 0, 1) := by decide +kernel
theorem dX1_draft_1 : decode cX1_draft 1 = .ok (.aload_n 0, 1) := by decide +kernel
theorem dX1_draft_2 : decode cX1_draft 2 = .ok (.getfield 28, 3) := by decide +kernel
theorem dX1_draft_5 : decode cX1_draft 5 = .ok (.invokevirtual 31, 3) := by decide +kernel
theorem dX1_draft_8 : decode cX1_draft 8 = .ok (.astore_n 2, 1) := by decide +kernel
theorem dX1_draft_9 : decode cX1_draft 9 = .ok (.aload_n 2, 1) := by decide +kernel
theorem dX1_draft_10 : decode cX1_draft 10 = .ok (.ifnull 8, 3) := by decide +kernel
theorem dX1_draft_13 : decode cX1_draft 13 = .ok (.aload_n 2, 1) := by decide +kernel
theorem dX1_draft_14 : decode cX1_draft 14 = .ok (.aload_n 1, 1) := by decide +kernel
theorem dX1_draft_15 : decode cX1_draft 15 = .ok (.invokevirtual 35, 3) := by decide +kernel
theorem dX1_draft_18 : decode cX1_draft 18 = .ok (.return_, 1) := by decide +kernel
theorem dX1_keep_0 : decode cX1_keep 0 = .ok (.aload_n 0, 1) := by decide +kernel
theorem dX1_keep_1 : decode cX1_keep 1 = .ok (.getfield 28, 3) := by decide +kernel
theorem dX1_keep_4 : decode cX1_keep 4 = .ok (.iconst 4, 1) := by decide +kernel
theorem dX1_keep_5 : decode cX1_keep 5 = .ok (.if_icmp .ge 16, 3) := by decide +kernel
theorem dX1_keep_8 : decode cX1_keep 8 = .ok (.aload_n 0, 1) := by decide +kernel
theorem dX1_keep_9 : decode cX1_keep 9 = .ok (.dup, 1) := by decide +kernel
theorem dX1_keep_10 : decode cX1_keep 10 = .ok (.getfield 28, 3) := by decide +kernel
theorem dX1_keep_13 : decode cX1_keep 13 = .ok (.iconst 1, 1) := by decide +kernel
theorem dX1_keep_14 : decode cX1_keep 14 = .ok (.iadd, 1) := by decide +kernel
theorem dX1_keep_15 : decode cX1_keep 15 = .ok (.putfield 28, 3) := by decide +kernel
theorem dX1_keep_18 : decode cX1_keep 18 = .ok (.goto 17, 3) := by decide +kernel
theorem dX1_keep_21 : decode cX1_keep 21 = .ok (.aload_n 0, 1) := by decide +kernel
theorem dX1_keep_22 : decode cX1_keep 22 = .ok (.aload_n 0, 1) := by decide +kernel
theorem dX1_keep_23 : decode cX1_keep 23 = .ok (.getfield 18, 3) := by decide +kernel
theorem dX1_keep_26 : decode cX1_keep 26 = .ok (.iconst 1, 1) := by decide +kernel
theorem dX1_keep_27 : decode cX1_keep 27 = .ok (.iadd, 1) := by decide +kernel
theorem dX1_keep_28 : decode cX1_keep 28 = .ok (.iconst 5, 1) := by decide +kernel
theorem dX1_keep_29 : decode cX1_keep 29 = .ok (.invokestatic 22, 3) := by decide +kernel
theorem dX1_keep_32 : decode cX1_keep 32 = .ok (.putfield 18, 3) := by decide +kernel
theorem dX1_keep_35 : decode cX1_keep 35 = .ok (.return_, 1) := by decide +kernel
theorem dX1_restore_0 : decode cX1_restore 0 = .ok (.aload_n 0, 1) := by decide +kernel
theorem dX1_restore_1 : decode cX1_restore 1 = .ok (.getfield 28, 3) := by decide +kernel
theorem dX1_restore_4 : decode cX1_restore 4 = .ok (.ifCond .gt 6, 3) := by decide +kernel
theorem dX1_restore_7 : decode cX1_restore 7 = .ok (.bipush (-5), 2) := by decide +kernel
theorem dX1_restore_9 : decode cX1_restore 9 = .ok (.ireturn, 1) := by decide +kernel
theorem dX1_restore_10 : decode cX1_restore 10 = .ok (.aload_n 0, 1) := by decide +kernel
theorem dX1_restore_11 : decode cX1_restore 11 = .ok (.aload_n 0, 1) := by decide +kernel
theorem dX1_restore_12 : decode cX1_restore 12 = .ok (.getfield 28, 3) := by decide +kernel
theorem dX1_restore_15 : decode cX1_restore 15 = .ok (.iconst 1, 1) := by decide +kernel
theorem dX1_restore_16 : decode cX1_restore 16 = .ok (.isub, 1) := by decide +kernel
theorem dX1_restore_17 : decode cX1_restore 17 = .ok (.invokevirtual 31, 3) := by decide +kernel
theorem dX1_restore_20 : decode cX1_restore 20 = .ok (.astore_n 2, 1) := by decide +kernel
theorem dX1_restore_21 : decode cX1_restore 21 = .ok (.aload_n 2, 1) := by decide +kernel
theorem dX1_restore_22 : decode cX1_restore 22 = .ok (.ifnull 8, 3) := by decide +kernel
theorem dX1_restore_25 : decode cX1_restore 25 = .ok (.aload_n 1, 1) := by decide +kernel
theorem dX1_restore_26 : decode cX1_restore 26 = .ok (.aload_n 2, 1) := by decide +kernel
theorem dX1_restore_27 : decode cX1_restore 27 = .ok (.invokevirtual 35, 3) := by decide +kernel
theorem dX1_restore_30 : decode cX1_restore 30 = .ok (.aload_n 0, 1) := by decide +kernel
theorem dX1_restore_31 : decode cX1_restore 31 = .ok (.dup, 1) := by decide +kernel
theorem dX1_restore_32 : decode cX1_restore 32 = .ok (.getfield 28, 3) := by decide +kernel
theorem dX1_restore_35 : decode cX1_restore 35 = .ok (.iconst 1, 1) := by decide +kernel
theorem dX1_restore_36 : decode cX1_restore 36 = .ok (.isub, 1) := by decide +kernel
theorem dX1_restore_37 : decode cX1_restore 37 = .ok (.putfield 28, 3) := by decide +kernel
theorem dX1_restore_40 : decode cX1_restore 40 = .ok (.aload_n 0, 1) := by decide +kernel
theorem dX1_restore_41 : decode cX1_restore 41 = .ok (.getfield 28, 3) := by decide +kernel
theorem dX1_restore_44 : decode cX1_restore 44 = .ok (.ireturn, 1) := by decide +kernel
theorem dX2_init_0 : decode cX2_init 0 = .ok (.aload_n 0, 1) := by decide +kernel
theorem dX2_init_1 : decode cX2_init 1 = .ok (.invokespecial 3, 3) := by decide +kernel
theorem dX2_init_4 : decode cX2_init 4 = .ok (.aload_n 0, 1) := by decide +kernel
theorem dX2_init_5 : decode cX2_init 5 = .ok (.iload_n 1, 1) := by decide +kernel
theorem dX2_init_6 : decode cX2_init 6 = .ok (.iconst 0, 1) := by decide +kernel
theorem dX2_init_7 : decode cX2_init 7 = .ok (.invokestatic 9, 3) := by decide +kernel
theorem dX2_init_10 : decode cX2_init 10 = .ok (.newarray .int, 2) := by decide +kernel
theorem dX2_init_12 : decode cX2_init 12 = .ok (.putfield 15, 3) := by decide +kernel
theorem dX2_init_15 : decode cX2_init 15 = .ok (.iconst 0, 1) := by decide +kernel
theorem dX2_init_16 : decode cX2_init 16 = .ok (.istore_n 2, 1) := by decide +kernel
theorem dX2_init_17 : decode cX2_init 17 = .ok (.iload_n 2, 1) := by decide +kernel
theorem dX2_init_18 : decode cX2_init 18 = .ok (.aload_n 0, 1) := by decide +kernel
theorem dX2_init_19 : decode cX2_init 19 = .ok (.getfield 15, 3) := by decide +kernel
theorem dX2_init_22 : decode cX2_init 22 = .ok (.arraylength, 1) := by decide +kernel
theorem dX2_init_23 : decode cX2_init 23 = .ok (.if_icmp .ge 16, 3) := by decide +kernel
theorem dX2_init_26 : decode cX2_init 26 = .ok (.aload_n 0, 1) := by decide +kernel
theorem dX2_init_27 : decode cX2_init 27 = .ok (.getfield 15, 3) := by decide +kernel
theorem dX2_init_30 : decode cX2_init 30 = .ok (.iload_n 2, 1) := by decide +kernel
theorem dX2_init_31 : decode cX2_init 31 = .ok (.iload_n 2, 1) := by decide +kernel
theorem dX2_init_32 : decode cX2_init 32 = .ok (.iastore, 1) := by decide +kernel
theorem dX2_init_33 : decode cX2_init 33 = .ok (.iinc 2 1, 3) := by decide +kernel
theorem dX2_init_36 : decode cX2_init 36 = .ok (.goto (-19), 3) := by decide +kernel
theorem dX2_init_39 : decode cX2_init 39 = .ok (.return_, 1) := by decide +kernel
theorem dX2_isFull_0 : decode cX2_isFull 0 = .ok (.aload_n 0, 1) := by decide +kernel
theorem dX2_isFull_1 : decode cX2_isFull 1 = .ok (.getfield 21, 3) := by decide +kernel
theorem dX2_isFull_4 : decode cX2_isFull 4 = .ok (.aload_n 0, 1) := by decide +kernel
theorem dX2_isFull_5 : decode cX2_isFull 5 = .ok (.getfield 15, 3) := by decide +kernel
theorem dX2_isFull_8 : decode cX2_isFull 8 = .ok (.arraylength, 1) := by decide +kernel
theorem dX2_isFull_9 : decode cX2_isFull 9 = .ok (.if_icmp .lt 7, 3) := by decide +kernel
theorem dX2_isFull_12 : decode cX2_isFull 12 = .ok (.iconst 1, 1) := by decide +kernel
theorem dX2_isFull_13 : decode cX2_isFull 13 = .ok (.goto 4, 3) := by decide +kernel
theorem dX2_isFull_16 : decode cX2_isFull 16 = .ok (.iconst 0, 1) := by decide +kernel
theorem dX2_isFull_17 : decode cX2_isFull 17 = .ok (.ireturn, 1) := by decide +kernel
theorem dX2_slotAt_0 : decode cX2_slotAt 0 = .ok (.iload_n 1, 1) := by decide +kernel
theorem dX2_slotAt_1 : decode cX2_slotAt 1 = .ok (.ifCond .lt 20, 3) := by decide +kernel
theorem dX2_slotAt_4 : decode cX2_slotAt 4 = .ok (.iload_n 1, 1) := by decide +kernel
theorem dX2_slotAt_5 : decode cX2_slotAt 5 = .ok (.aload_n 0, 1) := by decide +kernel
theorem dX2_slotAt_6 : decode cX2_slotAt 6 = .ok (.getfield 21, 3) := by decide +kernel
theorem dX2_slotAt_9 : decode cX2_slotAt 9 = .ok (.if_icmp .ge 12, 3) := by decide +kernel
theorem dX2_slotAt_12 : decode cX2_slotAt 12 = .ok (.iload_n 1, 1) := by decide +kernel
theorem dX2_slotAt_13 : decode cX2_slotAt 13 = .ok (.aload_n 0, 1) := by decide +kernel
theorem dX2_slotAt_14 : decode cX2_slotAt 14 = .ok (.getfield 15, 3) := by decide +kernel
theorem dX2_slotAt_17 : decode cX2_slotAt 17 = .ok (.arraylength, 1) := by decide +kernel
theorem dX2_slotAt_18 : decode cX2_slotAt 18 = .ok (.if_icmp .lt 6, 3) := by decide +kernel
theorem dX2_slotAt_21 : decode cX2_slotAt 21 = .ok (.bipush (-5), 2) := by decide +kernel
theorem dX2_slotAt_23 : decode cX2_slotAt 23 = .ok (.ireturn, 1) := by decide +kernel
theorem dX2_slotAt_24 : decode cX2_slotAt 24 = .ok (.aload_n 0, 1) := by decide +kernel
theorem dX2_slotAt_25 : decode cX2_slotAt 25 = .ok (.getfield 15, 3) := by decide +kernel
theorem dX2_slotAt_28 : decode cX2_slotAt 28 = .ok (.iload_n 1, 1) := by decide +kernel
theorem dX2_slotAt_29 : decode cX2_slotAt 29 = .ok (.iaload, 1) := by decide +kernel
theorem dX2_slotAt_30 : decode cX2_slotAt 30 = .ok (.ireturn, 1) := by decide +kernel
theorem dX2_placeOf_0 : decode cX2_placeOf 0 = .ok (.iconst 0, 1) := by decide +kernel
theorem dX2_placeOf_1 : decode cX2_placeOf 1 = .ok (.istore_n 2, 1) := by decide +kernel
theorem dX2_placeOf_2 : decode cX2_placeOf 2 = .ok (.iload_n 2, 1) := by decide +kernel
theorem dX2_placeOf_3 : decode cX2_placeOf 3 = .ok (.aload_n 0, 1) := by decide +kernel
theorem dX2_placeOf_4 : decode cX2_placeOf 4 = .ok (.getfield 21, 3) := by decide +kernel
theorem dX2_placeOf_7 : decode cX2_placeOf 7 = .ok (.if_icmp .ge 30, 3) := by decide +kernel
theorem dX2_placeOf_10 : decode cX2_placeOf 10 = .ok (.iload_n 2, 1) := by decide +kernel
theorem dX2_placeOf_11 : decode cX2_placeOf 11 = .ok (.aload_n 0, 1) := by decide +kernel
theorem dX2_placeOf_12 : decode cX2_placeOf 12 = .ok (.getfield 15, 3) := by decide +kernel
theorem dX2_placeOf_15 : decode cX2_placeOf 15 = .ok (.arraylength, 1) := by decide +kernel
theorem dX2_placeOf_16 : decode cX2_placeOf 16 = .ok (.if_icmp .ge 21, 3) := by decide +kernel
theorem dX2_placeOf_19 : decode cX2_placeOf 19 = .ok (.aload_n 0, 1) := by decide +kernel
theorem dX2_placeOf_20 : decode cX2_placeOf 20 = .ok (.getfield 15, 3) := by decide +kernel
theorem dX2_placeOf_23 : decode cX2_placeOf 23 = .ok (.iload_n 2, 1) := by decide +kernel
theorem dX2_placeOf_24 : decode cX2_placeOf 24 = .ok (.iaload, 1) := by decide +kernel
theorem dX2_placeOf_25 : decode cX2_placeOf 25 = .ok (.iload_n 1, 1) := by decide +kernel
theorem dX2_placeOf_26 : decode cX2_placeOf 26 = .ok (.if_icmp .ne 5, 3) := by decide +kernel
theorem dX2_placeOf_29 : decode cX2_placeOf 29 = .ok (.iload_n 2, 1) := by decide +kernel
theorem dX2_placeOf_30 : decode cX2_placeOf 30 = .ok (.ireturn, 1) := by decide +kernel
theorem dX2_placeOf_31 : decode cX2_placeOf 31 = .ok (.iinc 2 1, 3) := by decide +kernel
theorem dX2_placeOf_34 : decode cX2_placeOf 34 = .ok (.goto (-32), 3) := by decide +kernel
theorem dX2_placeOf_37 : decode cX2_placeOf 37 = .ok (.bipush (-5), 2) := by decide +kernel
theorem dX2_placeOf_39 : decode cX2_placeOf 39 = .ok (.ireturn, 1) := by decide +kernel
theorem dX2_open_0 : decode cX2_open 0 = .ok (.iload_n 1, 1) := by decide +kernel
theorem dX2_open_1 : decode cX2_open 1 = .ok (.ifCond .lt 23, 3) := by decide +kernel
theorem dX2_open_4 : decode cX2_open 4 = .ok (.iload_n 1, 1) := by decide +kernel
theorem dX2_open_5 : decode cX2_open 5 = .ok (.aload_n 0, 1) := by decide +kernel
theorem dX2_open_6 : decode cX2_open 6 = .ok (.getfield 21, 3) := by decide +kernel
theorem dX2_open_9 : decode cX2_open 9 = .ok (.if_icmp .gt 15, 3) := by decide +kernel
theorem dX2_open_12 : decode cX2_open 12 = .ok (.aload_n 0, 1) := by decide +kernel
theorem dX2_open_13 : decode cX2_open 13 = .ok (.getfield 21, 3) := by decide +kernel
theorem dX2_open_16 : decode cX2_open 16 = .ok (.aload_n 0, 1) := by decide +kernel
theorem dX2_open_17 : decode cX2_open 17 = .ok (.getfield 15, 3) := by decide +kernel
theorem dX2_open_20 : decode cX2_open 20 = .ok (.arraylength, 1) := by decide +kernel
theorem dX2_open_21 : decode cX2_open 21 = .ok (.if_icmp .lt 6, 3) := by decide +kernel
theorem dX2_open_24 : decode cX2_open 24 = .ok (.bipush (-5), 2) := by decide +kernel
theorem dX2_open_26 : decode cX2_open 26 = .ok (.ireturn, 1) := by decide +kernel
theorem dX2_open_27 : decode cX2_open 27 = .ok (.aload_n 0, 1) := by decide +kernel
theorem dX2_open_28 : decode cX2_open 28 = .ok (.getfield 15, 3) := by decide +kernel
theorem dX2_open_31 : decode cX2_open 31 = .ok (.aload_n 0, 1) := by decide +kernel
theorem dX2_open_32 : decode cX2_open 32 = .ok (.getfield 21, 3) := by decide +kernel
theorem dX2_open_35 : decode cX2_open 35 = .ok (.iaload, 1) := by decide +kernel
theorem dX2_open_36 : decode cX2_open 36 = .ok (.istore_n 2, 1) := by decide +kernel
theorem dX2_open_37 : decode cX2_open 37 = .ok (.aload_n 0, 1) := by decide +kernel
theorem dX2_open_38 : decode cX2_open 38 = .ok (.getfield 21, 3) := by decide +kernel
theorem dX2_open_41 : decode cX2_open 41 = .ok (.istore_n 3, 1) := by decide +kernel
theorem dX2_open_42 : decode cX2_open 42 = .ok (.iload_n 3, 1) := by decide +kernel
theorem dX2_open_43 : decode cX2_open 43 = .ok (.iload_n 1, 1) := by decide +kernel
theorem dX2_open_44 : decode cX2_open 44 = .ok (.if_icmp .le 23, 3) := by decide +kernel
theorem dX2_open_47 : decode cX2_open 47 = .ok (.aload_n 0, 1) := by decide +kernel
theorem dX2_open_48 : decode cX2_open 48 = .ok (.getfield 15, 3) := by decide +kernel
theorem dX2_open_51 : decode cX2_open 51 = .ok (.iload_n 3, 1) := by decide +kernel
theorem dX2_open_52 : decode cX2_open 52 = .ok (.aload_n 0, 1) := by decide +kernel
theorem dX2_open_53 : decode cX2_open 53 = .ok (.getfield 15, 3) := by decide +kernel
theorem dX2_open_56 : decode cX2_open 56 = .ok (.iload_n 3, 1) := by decide +kernel
theorem dX2_open_57 : decode cX2_open 57 = .ok (.iconst 1, 1) := by decide +kernel
theorem dX2_open_58 : decode cX2_open 58 = .ok (.isub, 1) := by decide +kernel
theorem dX2_open_59 : decode cX2_open 59 = .ok (.iaload, 1) := by decide +kernel
theorem dX2_open_60 : decode cX2_open 60 = .ok (.iastore, 1) := by decide +kernel
theorem dX2_open_61 : decode cX2_open 61 = .ok (.iinc 3 (-1), 3) := by decide +kernel
theorem dX2_open_64 : decode cX2_open 64 = .ok (.goto (-22), 3) := by decide +kernel
theorem dX2_open_67 : decode cX2_open 67 = .ok (.aload_n 0, 1) := by decide +kernel
theorem dX2_open_68 : decode cX2_open 68 = .ok (.getfield 15, 3) := by decide +kernel
theorem dX2_open_71 : decode cX2_open 71 = .ok (.iload_n 1, 1) := by decide +kernel
theorem dX2_open_72 : decode cX2_open 72 = .ok (.iload_n 2, 1) := by decide +kernel
theorem dX2_open_73 : decode cX2_open 73 = .ok (.iastore, 1) := by decide +kernel
theorem dX2_open_74 : decode cX2_open 74 = .ok (.aload_n 0, 1) := by decide +kernel
theorem dX2_open_75 : decode cX2_open 75 = .ok (.dup, 1) := by decide +kernel
theorem dX2_open_76 : decode cX2_open 76 = .ok (.getfield 21, 3) := by decide +kernel
theorem dX2_open_79 : decode cX2_open 79 = .ok (.iconst 1, 1) := by decide +kernel
theorem dX2_open_80 : decode cX2_open 80 = .ok (.iadd, 1) := by decide +kernel
theorem dX2_open_81 : decode cX2_open 81 = .ok (.putfield 21, 3) := by decide +kernel
theorem dX2_open_84 : decode cX2_open 84 = .ok (.iload_n 2, 1) := by decide +kernel
theorem dX2_open_85 : decode cX2_open 85 = .ok (.ireturn, 1) := by decide +kernel
theorem dX2_close_0 : decode cX2_close 0 = .ok (.aload_n 0, 1) := by decide +kernel
theorem dX2_close_1 : decode cX2_close 1 = .ok (.iload_n 1, 1) := by decide +kernel
theorem dX2_close_2 : decode cX2_close 2 = .ok (.invokevirtual 25, 3) := by decide +kernel
theorem dX2_close_5 : decode cX2_close 5 = .ok (.istore_n 2, 1) := by decide +kernel
theorem dX2_close_6 : decode cX2_close 6 = .ok (.aload_n 0, 1) := by decide +kernel
theorem dX2_close_7 : decode cX2_close 7 = .ok (.getfield 21, 3) := by decide +kernel
theorem dX2_close_10 : decode cX2_close 10 = .ok (.iconst 1, 1) := by decide +kernel
theorem dX2_close_11 : decode cX2_close 11 = .ok (.isub, 1) := by decide +kernel
theorem dX2_close_12 : decode cX2_close 12 = .ok (.istore_n 3, 1) := by decide +kernel
theorem dX2_close_13 : decode cX2_close 13 = .ok (.iload_n 2, 1) := by decide +kernel
theorem dX2_close_14 : decode cX2_close 14 = .ok (.ifCond .lt 17, 3) := by decide +kernel
theorem dX2_close_17 : decode cX2_close 17 = .ok (.iload_n 3, 1) := by decide +kernel
theorem dX2_close_18 : decode cX2_close 18 = .ok (.iload_n 2, 1) := by decide +kernel
theorem dX2_close_19 : decode cX2_close 19 = .ok (.if_icmp .lt 12, 3) := by decide +kernel
theorem dX2_close_22 : decode cX2_close 22 = .ok (.iload_n 3, 1) := by decide +kernel
theorem dX2_close_23 : decode cX2_close 23 = .ok (.aload_n 0, 1) := by decide +kernel
theorem dX2_close_24 : decode cX2_close 24 = .ok (.getfield 15, 3) := by decide +kernel
theorem dX2_close_27 : decode cX2_close 27 = .ok (.arraylength, 1) := by decide +kernel
theorem dX2_close_28 : decode cX2_close 28 = .ok (.if_icmp .lt 4, 3) := by decide +kernel
theorem dX2_close_31 : decode cX2_close 31 = .ok (.return_, 1) := by decide +kernel
theorem dX2_close_32 : decode cX2_close 32 = .ok (.iload_n 2, 1) := by decide +kernel
theorem dX2_close_33 : decode cX2_close 33 = .ok (.istore 4, 2) := by decide +kernel
theorem dX2_close_35 : decode cX2_close 35 = .ok (.iload 4, 2) := by decide +kernel
theorem dX2_close_37 : decode cX2_close 37 = .ok (.iload_n 3, 1) := by decide +kernel
theorem dX2_close_38 : decode cX2_close 38 = .ok (.if_icmp .ge 25, 3) := by decide +kernel
theorem dX2_close_41 : decode cX2_close 41 = .ok (.aload_n 0, 1) := by decide +kernel
theorem dX2_close_42 : decode cX2_close 42 = .ok (.getfield 15, 3) := by decide +kernel
theorem dX2_close_45 : decode cX2_close 45 = .ok (.iload 4, 2) := by decide +kernel
theorem dX2_close_47 : decode cX2_close 47 = .ok (.aload_n 0, 1) := by decide +kernel
theorem dX2_close_48 : decode cX2_close 48 = .ok (.getfield 15, 3) := by decide +kernel
theorem dX2_close_51 : decode cX2_close 51 = .ok (.iload 4, 2) := by decide +kernel
theorem dX2_close_53 : decode cX2_close 53 = .ok (.iconst 1, 1) := by decide +kernel
theorem dX2_close_54 : decode cX2_close 54 = .ok (.iadd, 1) := by decide +kernel
theorem dX2_close_55 : decode cX2_close 55 = .ok (.iaload, 1) := by decide +kernel
theorem dX2_close_56 : decode cX2_close 56 = .ok (.iastore, 1) := by decide +kernel
theorem dX2_close_57 : decode cX2_close 57 = .ok (.iinc 4 1, 3) := by decide +kernel
theorem dX2_close_60 : decode cX2_close 60 = .ok (.goto (-25), 3) := by decide +kernel
theorem dX2_close_63 : decode cX2_close 63 = .ok (.aload_n 0, 1) := by decide +kernel
theorem dX2_close_64 : decode cX2_close 64 = .ok (.getfield 15, 3) := by decide +kernel
theorem dX2_close_67 : decode cX2_close 67 = .ok (.iload_n 3, 1) := by decide +kernel
theorem dX2_close_68 : decode cX2_close 68 = .ok (.iload_n 1, 1) := by decide +kernel
theorem dX2_close_69 : decode cX2_close 69 = .ok (.iastore, 1) := by decide +kernel
theorem dX2_close_70 : decode cX2_close 70 = .ok (.aload_n 0, 1) := by decide +kernel
theorem dX2_close_71 : decode cX2_close 71 = .ok (.iload_n 3, 1) := by decide +kernel
theorem dX2_close_72 : decode cX2_close 72 = .ok (.putfield 21, 3) := by decide +kernel
theorem dX2_close_75 : decode cX2_close 75 = .ok (.return_, 1) := by decide +kernel
theorem dX2_copyFrom_0 : decode cX2_copyFrom 0 = .ok (.aload_n 1, 1) := by decide +kernel
theorem dX2_copyFrom_1 : decode cX2_copyFrom 1 = .ok (.getfield 15, 3) := by decide +kernel
theorem dX2_copyFrom_4 : decode cX2_copyFrom 4 = .ok (.aload_n 0, 1) := by decide +kernel
theorem dX2_copyFrom_5 : decode cX2_copyFrom 5 = .ok (.getfield 15, 3) := by decide +kernel
theorem dX2_copyFrom_8 : decode cX2_copyFrom 8 = .ok (.invokestatic 29, 3) := by decide +kernel
theorem dX2_copyFrom_11 : decode cX2_copyFrom 11 = .ok (.aload_n 0, 1) := by decide +kernel
theorem dX2_copyFrom_12 : decode cX2_copyFrom 12 = .ok (.aload_n 1, 1) := by decide +kernel
theorem dX2_copyFrom_13 : decode cX2_copyFrom 13 = .ok (.getfield 21, 3) := by decide +kernel
theorem dX2_copyFrom_16 : decode cX2_copyFrom 16 = .ok (.putfield 21, 3) := by decide +kernel
theorem dX2_copyFrom_19 : decode cX2_copyFrom 19 = .ok (.return_, 1) := by decide +kernel
theorem dX3_init_0 : decode cX3_init 0 = .ok (.aload_n 0, 1) := by decide +kernel
theorem dX3_init_1 : decode cX3_init 1 = .ok (.invokespecial 3, 3) := by decide +kernel
theorem dX3_init_4 : decode cX3_init 4 = .ok (.aload_n 0, 1) := by decide +kernel
theorem dX3_init_5 : decode cX3_init 5 = .ok (.bipush 60, 2) := by decide +kernel
theorem dX3_init_7 : decode cX3_init 7 = .ok (.newarray .char, 2) := by decide +kernel
theorem dX3_init_9 : decode cX3_init 9 = .ok (.putfield 9, 3) := by decide +kernel
theorem dX3_init_12 : decode cX3_init 12 = .ok (.return_, 1) := by decide +kernel
theorem dX3_append_0 : decode cX3_append 0 = .ok (.aload_n 0, 1) := by decide +kernel
theorem dX3_append_1 : decode cX3_append 1 = .ok (.getfield 15, 3) := by decide +kernel
theorem dX3_append_4 : decode cX3_append 4 = .ok (.ifCond .lt 12, 3) := by decide +kernel
theorem dX3_append_7 : decode cX3_append 7 = .ok (.aload_n 0, 1) := by decide +kernel
theorem dX3_append_8 : decode cX3_append 8 = .ok (.getfield 15, 3) := by decide +kernel
theorem dX3_append_11 : decode cX3_append 11 = .ok (.bipush 60, 2) := by decide +kernel
theorem dX3_append_13 : decode cX3_append 13 = .ok (.if_icmp .lt 6, 3) := by decide +kernel
theorem dX3_append_16 : decode cX3_append 16 = .ok (.bipush (-3), 2) := by decide +kernel
theorem dX3_append_18 : decode cX3_append 18 = .ok (.ireturn, 1) := by decide +kernel
theorem dX3_append_19 : decode cX3_append 19 = .ok (.aload_n 0, 1) := by decide +kernel
theorem dX3_append_20 : decode cX3_append 20 = .ok (.getfield 9, 3) := by decide +kernel
theorem dX3_append_23 : decode cX3_append 23 = .ok (.aload_n 0, 1) := by decide +kernel
theorem dX3_append_24 : decode cX3_append 24 = .ok (.getfield 15, 3) := by decide +kernel
theorem dX3_append_27 : decode cX3_append 27 = .ok (.iload_n 1, 1) := by decide +kernel
theorem dX3_append_28 : decode cX3_append 28 = .ok (.castore, 1) := by decide +kernel
theorem dX3_append_29 : decode cX3_append 29 = .ok (.aload_n 0, 1) := by decide +kernel
theorem dX3_append_30 : decode cX3_append 30 = .ok (.dup, 1) := by decide +kernel
theorem dX3_append_31 : decode cX3_append 31 = .ok (.getfield 15, 3) := by decide +kernel
theorem dX3_append_34 : decode cX3_append 34 = .ok (.iconst 1, 1) := by decide +kernel
theorem dX3_append_35 : decode cX3_append 35 = .ok (.iadd, 1) := by decide +kernel
theorem dX3_append_36 : decode cX3_append 36 = .ok (.putfield 15, 3) := by decide +kernel
theorem dX3_append_39 : decode cX3_append 39 = .ok (.aload_n 0, 1) := by decide +kernel
theorem dX3_append_40 : decode cX3_append 40 = .ok (.getfield 15, 3) := by decide +kernel
theorem dX3_append_43 : decode cX3_append 43 = .ok (.ireturn, 1) := by decide +kernel
theorem dX3_fault_0 : decode cX3_fault 0 = .ok (.aload_n 0, 1) := by decide +kernel
theorem dX3_fault_1 : decode cX3_fault 1 = .ok (.invokevirtual 19, 3) := by decide +kernel
theorem dX3_fault_4 : decode cX3_fault 4 = .ok (.iconst 0, 1) := by decide +kernel
theorem dX3_fault_5 : decode cX3_fault 5 = .ok (.istore_n 1, 1) := by decide +kernel
theorem dX3_fault_6 : decode cX3_fault 6 = .ok (.iload_n 1, 1) := by decide +kernel
theorem dX3_fault_7 : decode cX3_fault 7 = .ok (.bipush 60, 2) := by decide +kernel
theorem dX3_fault_9 : decode cX3_fault 9 = .ok (.if_icmp .ge 35, 3) := by decide +kernel
theorem dX3_fault_12 : decode cX3_fault 12 = .ok (.aload_n 0, 1) := by decide +kernel
theorem dX3_fault_13 : decode cX3_fault 13 = .ok (.invokevirtual 22, 3) := by decide +kernel
theorem dX3_fault_16 : decode cX3_fault 16 = .ok (.ifCond .ne 8, 3) := by decide +kernel
theorem dX3_fault_19 : decode cX3_fault 19 = .ok (.aload_n 0, 1) := by decide +kernel
theorem dX3_fault_20 : decode cX3_fault 20 = .ok (.getfield 26, 3) := by decide +kernel
theorem dX3_fault_23 : decode cX3_fault 23 = .ok (.ireturn, 1) := by decide +kernel
theorem dX3_fault_24 : decode cX3_fault 24 = .ok (.aload_n 0, 1) := by decide +kernel
theorem dX3_fault_25 : decode cX3_fault 25 = .ok (.getfield 26, 3) := by decide +kernel
theorem dX3_fault_28 : decode cX3_fault 28 = .ok (.aload_n 0, 1) := by decide +kernel
theorem dX3_fault_29 : decode cX3_fault 29 = .ok (.getfield 15, 3) := by decide +kernel
theorem dX3_fault_32 : decode cX3_fault 32 = .ok (.if_icmp .lt 6, 3) := by decide +kernel
theorem dX3_fault_35 : decode cX3_fault 35 = .ok (.bipush (-5), 2) := by decide +kernel
theorem dX3_fault_37 : decode cX3_fault 37 = .ok (.ireturn, 1) := by decide +kernel
theorem dX3_fault_38 : decode cX3_fault 38 = .ok (.iinc 1 1, 3) := by decide +kernel
theorem dX3_fault_41 : decode cX3_fault 41 = .ok (.goto (-35), 3) := by decide +kernel
theorem dX3_fault_44 : decode cX3_fault 44 = .ok (.aload_n 0, 1) := by decide +kernel
theorem dX3_fault_45 : decode cX3_fault 45 = .ok (.getfield 26, 3) := by decide +kernel
theorem dX3_fault_48 : decode cX3_fault 48 = .ok (.ireturn, 1) := by decide +kernel
theorem dX3_rewind_0 : decode cX3_rewind 0 = .ok (.aload_n 0, 1) := by decide +kernel
theorem dX3_rewind_1 : decode cX3_rewind 1 = .ok (.iconst 0, 1) := by decide +kernel
theorem dX3_rewind_2 : decode cX3_rewind 2 = .ok (.putfield 26, 3) := by decide +kernel
theorem dX3_rewind_5 : decode cX3_rewind 5 = .ok (.return_, 1) := by decide +kernel
theorem dX3_nextOrder_0 : decode cX3_nextOrder 0 = .ok (.aload_n 0, 1) := by decide +kernel
theorem dX3_nextOrder_1 : decode cX3_nextOrder 1 = .ok (.getfield 26, 3) := by decide +kernel
theorem dX3_nextOrder_4 : decode cX3_nextOrder 4 = .ok (.ifCond .le 14, 3) := by decide +kernel
theorem dX3_nextOrder_7 : decode cX3_nextOrder 7 = .ok (.aload_n 0, 1) := by decide +kernel
theorem dX3_nextOrder_8 : decode cX3_nextOrder 8 = .ok (.bipush 32, 2) := by decide +kernel
theorem dX3_nextOrder_10 : decode cX3_nextOrder 10 = .ok (.invokevirtual 29, 3) := by decide +kernel
theorem dX3_nextOrder_13 : decode cX3_nextOrder 13 = .ok (.ifCond .ne 5, 3) := by decide +kernel
theorem dX3_nextOrder_16 : decode cX3_nextOrder 16 = .ok (.iconst 0, 1) := by decide +kernel
theorem dX3_nextOrder_17 : decode cX3_nextOrder 17 = .ok (.ireturn, 1) := by decide +kernel
theorem dX3_nextOrder_18 : decode cX3_nextOrder 18 = .ok (.aload_n 0, 1) := by decide +kernel
theorem dX3_nextOrder_19 : decode cX3_nextOrder 19 = .ok (.aload_n 0, 1) := by decide +kernel
theorem dX3_nextOrder_20 : decode cX3_nextOrder 20 = .ok (.invokevirtual 33, 3) := by decide +kernel
theorem dX3_nextOrder_23 : decode cX3_nextOrder 23 = .ok (.putfield 37, 3) := by decide +kernel
theorem dX3_nextOrder_26 : decode cX3_nextOrder 26 = .ok (.aload_n 0, 1) := by decide +kernel
theorem dX3_nextOrder_27 : decode cX3_nextOrder 27 = .ok (.bipush 43, 2) := by decide +kernel
theorem dX3_nextOrder_29 : decode cX3_nextOrder 29 = .ok (.invokevirtual 29, 3) := by decide +kernel
theorem dX3_nextOrder_32 : decode cX3_nextOrder 32 = .ok (.ifCond .ne 12, 3) := by decide +kernel
theorem dX3_nextOrder_35 : decode cX3_nextOrder 35 = .ok (.aload_n 0, 1) := by decide +kernel
theorem dX3_nextOrder_36 : decode cX3_nextOrder 36 = .ok (.bipush 45, 2) := by decide +kernel
theorem dX3_nextOrder_38 : decode cX3_nextOrder 38 = .ok (.invokevirtual 29, 3) := by decide +kernel
theorem dX3_nextOrder_41 : decode cX3_nextOrder 41 = .ok (.ifCond .eq 23, 3) := by decide +kernel
theorem dX3_nextOrder_44 : decode cX3_nextOrder 44 = .ok (.aload_n 0, 1) := by decide +kernel
theorem dX3_nextOrder_45 : decode cX3_nextOrder 45 = .ok (.invokevirtual 41, 3) := by decide +kernel
theorem dX3_nextOrder_48 : decode cX3_nextOrder 48 = .ok (.ifCond .eq 14, 3) := by decide +kernel
theorem dX3_nextOrder_51 : decode cX3_nextOrder 51 = .ok (.aload_n 0, 1) := by decide +kernel
theorem dX3_nextOrder_52 : decode cX3_nextOrder 52 = .ok (.invokevirtual 44, 3) := by decide +kernel
theorem dX3_nextOrder_55 : decode cX3_nextOrder 55 = .ok (.ifCond .eq 7, 3) := by decide +kernel
theorem dX3_nextOrder_58 : decode cX3_nextOrder 58 = .ok (.iconst 1, 1) := by decide +kernel
theorem dX3_nextOrder_59 : decode cX3_nextOrder 59 = .ok (.goto 4, 3) := by decide +kernel
theorem dX3_nextOrder_62 : decode cX3_nextOrder 62 = .ok (.iconst 0, 1) := by decide +kernel
theorem dX3_nextOrder_63 : decode cX3_nextOrder 63 = .ok (.ireturn, 1) := by decide +kernel
theorem dX3_nextOrder_64 : decode cX3_nextOrder 64 = .ok (.aload_n 0, 1) := by decide +kernel
theorem dX3_nextOrder_65 : decode cX3_nextOrder 65 = .ok (.invokevirtual 44, 3) := by decide +kernel
theorem dX3_nextOrder_68 : decode cX3_nextOrder 68 = .ok (.ifCond .eq 39, 3) := by decide +kernel
theorem dX3_nextOrder_71 : decode cX3_nextOrder 71 = .ok (.aload_n 0, 1) := by decide +kernel
theorem dX3_nextOrder_72 : decode cX3_nextOrder 72 = .ok (.bipush 46, 2) := by decide +kernel
theorem dX3_nextOrder_74 : decode cX3_nextOrder 74 = .ok (.invokevirtual 29, 3) := by decide +kernel
theorem dX3_nextOrder_77 : decode cX3_nextOrder 77 = .ok (.ifCond .eq 30, 3) := by decide +kernel
theorem dX3_nextOrder_80 : decode cX3_nextOrder 80 = .ok (.aload_n 0, 1) := by decide +kernel
theorem dX3_nextOrder_81 : decode cX3_nextOrder 81 = .ok (.invokevirtual 47, 3) := by decide +kernel
theorem dX3_nextOrder_84 : decode cX3_nextOrder 84 = .ok (.ifCond .eq 23, 3) := by decide +kernel
theorem dX3_nextOrder_87 : decode cX3_nextOrder 87 = .ok (.aload_n 0, 1) := by decide +kernel
theorem dX3_nextOrder_88 : decode cX3_nextOrder 88 = .ok (.bipush 61, 2) := by decide +kernel
theorem dX3_nextOrder_90 : decode cX3_nextOrder 90 = .ok (.invokevirtual 29, 3) := by decide +kernel
theorem dX3_nextOrder_93 : decode cX3_nextOrder 93 = .ok (.ifCond .eq 14, 3) := by decide +kernel
theorem dX3_nextOrder_96 : decode cX3_nextOrder 96 = .ok (.aload_n 0, 1) := by decide +kernel
theorem dX3_nextOrder_97 : decode cX3_nextOrder 97 = .ok (.invokevirtual 50, 3) := by decide +kernel
theorem dX3_nextOrder_100 : decode cX3_nextOrder 100 = .ok (.ifCond .eq 7, 3) := by decide +kernel
theorem dX3_nextOrder_103 : decode cX3_nextOrder 103 = .ok (.iconst 1, 1) := by decide +kernel
theorem dX3_nextOrder_104 : decode cX3_nextOrder 104 = .ok (.goto 4, 3) := by decide +kernel
theorem dX3_nextOrder_107 : decode cX3_nextOrder 107 = .ok (.iconst 0, 1) := by decide +kernel
theorem dX3_nextOrder_108 : decode cX3_nextOrder 108 = .ok (.ireturn, 1) := by decide +kernel
theorem dX3_readAxis_0 : decode cX3_readAxis 0 = .ok (.aload_n 0, 1) := by decide +kernel
theorem dX3_readAxis_1 : decode cX3_readAxis 1 = .ok (.aload_n 0, 1) := by decide +kernel
theorem dX3_readAxis_2 : decode cX3_readAxis 2 = .ok (.invokevirtual 33, 3) := by decide +kernel
theorem dX3_readAxis_5 : decode cX3_readAxis 5 = .ok (.bipush 114, 2) := by decide +kernel
theorem dX3_readAxis_7 : decode cX3_readAxis 7 = .ok (.if_icmp .ne 7, 3) := by decide +kernel
theorem dX3_readAxis_10 : decode cX3_readAxis 10 = .ok (.iconst 0, 1) := by decide +kernel
theorem dX3_readAxis_11 : decode cX3_readAxis 11 = .ok (.goto 4, 3) := by decide +kernel
theorem dX3_readAxis_14 : decode cX3_readAxis 14 = .ok (.iconst 1, 1) := by decide +kernel
theorem dX3_readAxis_15 : decode cX3_readAxis 15 = .ok (.putfield 53, 3) := by decide +kernel
theorem dX3_readAxis_18 : decode cX3_readAxis 18 = .ok (.aload_n 0, 1) := by decide +kernel
theorem dX3_readAxis_19 : decode cX3_readAxis 19 = .ok (.bipush 114, 2) := by decide +kernel
theorem dX3_readAxis_21 : decode cX3_readAxis 21 = .ok (.invokevirtual 29, 3) := by decide +kernel
theorem dX3_readAxis_24 : decode cX3_readAxis 24 = .ok (.ifCond .ne 12, 3) := by decide +kernel
theorem dX3_readAxis_27 : decode cX3_readAxis 27 = .ok (.aload_n 0, 1) := by decide +kernel
theorem dX3_readAxis_28 : decode cX3_readAxis 28 = .ok (.bipush 99, 2) := by decide +kernel
theorem dX3_readAxis_30 : decode cX3_readAxis 30 = .ok (.invokevirtual 29, 3) := by decide +kernel
theorem dX3_readAxis_33 : decode cX3_readAxis 33 = .ok (.ifCond .eq 7, 3) := by decide +kernel
theorem dX3_readAxis_36 : decode cX3_readAxis 36 = .ok (.iconst 1, 1) := by decide +kernel
theorem dX3_readAxis_37 : decode cX3_readAxis 37 = .ok (.goto 4, 3) := by decide +kernel
theorem dX3_readAxis_40 : decode cX3_readAxis 40 = .ok (.iconst 0, 1) := by decide +kernel
theorem dX3_readAxis_41 : decode cX3_readAxis 41 = .ok (.ireturn, 1) := by decide +kernel
theorem dX3_readPlace_0 : decode cX3_readPlace 0 = .ok (.aload_n 0, 1) := by decide +kernel
theorem dX3_readPlace_1 : decode cX3_readPlace 1 = .ok (.aload_n 0, 1) := by decide +kernel
theorem dX3_readPlace_2 : decode cX3_readPlace 2 = .ok (.iconst 2, 1) := by decide +kernel
theorem dX3_readPlace_3 : decode cX3_readPlace 3 = .ok (.invokevirtual 56, 3) := by decide +kernel
theorem dX3_readPlace_6 : decode cX3_readPlace 6 = .ok (.putfield 60, 3) := by decide +kernel
theorem dX3_readPlace_9 : decode cX3_readPlace 9 = .ok (.aload_n 0, 1) := by decide +kernel
theorem dX3_readPlace_10 : decode cX3_readPlace 10 = .ok (.getfield 60, 3) := by decide +kernel
theorem dX3_readPlace_13 : decode cX3_readPlace 13 = .ok (.ifCond .lt 7, 3) := by decide +kernel
theorem dX3_readPlace_16 : decode cX3_readPlace 16 = .ok (.iconst 1, 1) := by decide +kernel
theorem dX3_readPlace_17 : decode cX3_readPlace 17 = .ok (.goto 4, 3) := by decide +kernel
theorem dX3_readPlace_20 : decode cX3_readPlace 20 = .ok (.iconst 0, 1) := by decide +kernel
theorem dX3_readPlace_21 : decode cX3_readPlace 21 = .ok (.ireturn, 1) := by decide +kernel
theorem dX3_readColumn_0 : decode cX3_readColumn 0 = .ok (.aload_n 0, 1) := by decide +kernel
theorem dX3_readColumn_1 : decode cX3_readColumn 1 = .ok (.aload_n 0, 1) := by decide +kernel
theorem dX3_readColumn_2 : decode cX3_readColumn 2 = .ok (.iconst 2, 1) := by decide +kernel
theorem dX3_readColumn_3 : decode cX3_readColumn 3 = .ok (.invokevirtual 56, 3) := by decide +kernel
theorem dX3_readColumn_6 : decode cX3_readColumn 6 = .ok (.putfield 63, 3) := by decide +kernel
theorem dX3_readColumn_9 : decode cX3_readColumn 9 = .ok (.aload_n 0, 1) := by decide +kernel
theorem dX3_readColumn_10 : decode cX3_readColumn 10 = .ok (.getfield 63, 3) := by decide +kernel
theorem dX3_readColumn_13 : decode cX3_readColumn 13 = .ok (.ifCond .lt 7, 3) := by decide +kernel
theorem dX3_readColumn_16 : decode cX3_readColumn 16 = .ok (.iconst 1, 1) := by decide +kernel
theorem dX3_readColumn_17 : decode cX3_readColumn 17 = .ok (.goto 4, 3) := by decide +kernel
theorem dX3_readColumn_20 : decode cX3_readColumn 20 = .ok (.iconst 0, 1) := by decide +kernel
theorem dX3_readColumn_21 : decode cX3_readColumn 21 = .ok (.ireturn, 1) := by decide +kernel
theorem dX3_readValue_0 : decode cX3_readValue 0 = .ok (.aload_n 0, 1) := by decide +kernel
theorem dX3_readValue_1 : decode cX3_readValue 1 = .ok (.aload_n 0, 1) := by decide +kernel
theorem dX3_readValue_2 : decode cX3_readValue 2 = .ok (.iconst 4, 1) := by decide +kernel
theorem dX3_readValue_3 : decode cX3_readValue 3 = .ok (.invokevirtual 56, 3) := by decide +kernel
theorem dX3_readValue_6 : decode cX3_readValue 6 = .ok (.putfield 66, 3) := by decide +kernel
theorem dX3_readValue_9 : decode cX3_readValue 9 = .ok (.aload_n 0, 1) := by decide +kernel
theorem dX3_readValue_10 : decode cX3_readValue 10 = .ok (.getfield 66, 3) := by decide +kernel
theorem dX3_readValue_13 : decode cX3_readValue 13 = .ok (.ifCond .lt 7, 3) := by decide +kernel
theorem dX3_readValue_16 : decode cX3_readValue 16 = .ok (.iconst 1, 1) := by decide +kernel
theorem dX3_readValue_17 : decode cX3_readValue 17 = .ok (.goto 4, 3) := by decide +kernel
theorem dX3_readValue_20 : decode cX3_readValue 20 = .ok (.iconst 0, 1) := by decide +kernel
theorem dX3_readValue_21 : decode cX3_readValue 21 = .ok (.ireturn, 1) := by decide +kernel
theorem dX3_readNumber_0 : decode cX3_readNumber 0 = .ok (.aload_n 0, 1) := by decide +kernel
theorem dX3_readNumber_1 : decode cX3_readNumber 1 = .ok (.invokevirtual 33, 3) := by decide +kernel
theorem dX3_readNumber_4 : decode cX3_readNumber 4 = .ok (.invokestatic 69, 3) := by decide +kernel
theorem dX3_readNumber_7 : decode cX3_readNumber 7 = .ok (.ifCond .ne 6, 3) := by decide +kernel
theorem dX3_readNumber_10 : decode cX3_readNumber 10 = .ok (.bipush (-5), 2) := by decide +kernel
theorem dX3_readNumber_12 : decode cX3_readNumber 12 = .ok (.ireturn, 1) := by decide +kernel
theorem dX3_readNumber_13 : decode cX3_readNumber 13 = .ok (.aload_n 0, 1) := by decide +kernel
theorem dX3_readNumber_14 : decode cX3_readNumber 14 = .ok (.bipush 48, 2) := by decide +kernel
theorem dX3_readNumber_16 : decode cX3_readNumber 16 = .ok (.invokevirtual 29, 3) := by decide +kernel
theorem dX3_readNumber_19 : decode cX3_readNumber 19 = .ok (.ifCond .eq 5, 3) := by decide +kernel
theorem dX3_readNumber_22 : decode cX3_readNumber 22 = .ok (.iconst 0, 1) := by decide +kernel
theorem dX3_readNumber_23 : decode cX3_readNumber 23 = .ok (.ireturn, 1) := by decide +kernel
theorem dX3_readNumber_24 : decode cX3_readNumber 24 = .ok (.iconst 0, 1) := by decide +kernel
theorem dX3_readNumber_25 : decode cX3_readNumber 25 = .ok (.istore_n 2, 1) := by decide +kernel
theorem dX3_readNumber_26 : decode cX3_readNumber 26 = .ok (.iconst 0, 1) := by decide +kernel
theorem dX3_readNumber_27 : decode cX3_readNumber 27 = .ok (.istore_n 3, 1) := by decide +kernel
theorem dX3_readNumber_28 : decode cX3_readNumber 28 = .ok (.iload_n 3, 1) := by decide +kernel
theorem dX3_readNumber_29 : decode cX3_readNumber 29 = .ok (.iload_n 1, 1) := by decide +kernel
theorem dX3_readNumber_30 : decode cX3_readNumber 30 = .ok (.if_icmp .ge 42, 3) := by decide +kernel
theorem dX3_readNumber_33 : decode cX3_readNumber 33 = .ok (.aload_n 0, 1) := by decide +kernel
theorem dX3_readNumber_34 : decode cX3_readNumber 34 = .ok (.invokevirtual 33, 3) := by decide +kernel
theorem dX3_readNumber_37 : decode cX3_readNumber 37 = .ok (.invokestatic 69, 3) := by decide +kernel
theorem dX3_readNumber_40 : decode cX3_readNumber 40 = .ok (.ifCond .eq 32, 3) := by decide +kernel
theorem dX3_readNumber_43 : decode cX3_readNumber 43 = .ok (.iload_n 2, 1) := by decide +kernel
theorem dX3_readNumber_44 : decode cX3_readNumber 44 = .ok (.bipush 10, 2) := by decide +kernel
theorem dX3_readNumber_46 : decode cX3_readNumber 46 = .ok (.imul, 1) := by decide +kernel
theorem dX3_readNumber_47 : decode cX3_readNumber 47 = .ok (.aload_n 0, 1) := by decide +kernel
theorem dX3_readNumber_48 : decode cX3_readNumber 48 = .ok (.invokevirtual 33, 3) := by decide +kernel
theorem dX3_readNumber_51 : decode cX3_readNumber 51 = .ok (.bipush 48, 2) := by decide +kernel
theorem dX3_readNumber_53 : decode cX3_readNumber 53 = .ok (.isub, 1) := by decide +kernel
theorem dX3_readNumber_54 : decode cX3_readNumber 54 = .ok (.iadd, 1) := by decide +kernel
theorem dX3_readNumber_55 : decode cX3_readNumber 55 = .ok (.istore_n 2, 1) := by decide +kernel
theorem dX3_readNumber_56 : decode cX3_readNumber 56 = .ok (.aload_n 0, 1) := by decide +kernel
theorem dX3_readNumber_57 : decode cX3_readNumber 57 = .ok (.dup, 1) := by decide +kernel
theorem dX3_readNumber_58 : decode cX3_readNumber 58 = .ok (.getfield 26, 3) := by decide +kernel
theorem dX3_readNumber_61 : decode cX3_readNumber 61 = .ok (.iconst 1, 1) := by decide +kernel
theorem dX3_readNumber_62 : decode cX3_readNumber 62 = .ok (.iadd, 1) := by decide +kernel
theorem dX3_readNumber_63 : decode cX3_readNumber 63 = .ok (.putfield 26, 3) := by decide +kernel
theorem dX3_readNumber_66 : decode cX3_readNumber 66 = .ok (.iinc 3 1, 3) := by decide +kernel
theorem dX3_readNumber_69 : decode cX3_readNumber 69 = .ok (.goto (-41), 3) := by decide +kernel
theorem dX3_readNumber_72 : decode cX3_readNumber 72 = .ok (.iload_n 2, 1) := by decide +kernel
theorem dX3_readNumber_73 : decode cX3_readNumber 73 = .ok (.ireturn, 1) := by decide +kernel
theorem dX3_pass_0 : decode cX3_pass 0 = .ok (.aload_n 0, 1) := by decide +kernel
theorem dX3_pass_1 : decode cX3_pass 1 = .ok (.invokevirtual 33, 3) := by decide +kernel
theorem dX3_pass_4 : decode cX3_pass 4 = .ok (.iload_n 1, 1) := by decide +kernel
theorem dX3_pass_5 : decode cX3_pass 5 = .ok (.if_icmp .eq 5, 3) := by decide +kernel
theorem dX3_pass_8 : decode cX3_pass 8 = .ok (.iconst 0, 1) := by decide +kernel
theorem dX3_pass_9 : decode cX3_pass 9 = .ok (.ireturn, 1) := by decide +kernel
theorem dX3_pass_10 : decode cX3_pass 10 = .ok (.aload_n 0, 1) := by decide +kernel
theorem dX3_pass_11 : decode cX3_pass 11 = .ok (.dup, 1) := by decide +kernel
theorem dX3_pass_12 : decode cX3_pass 12 = .ok (.getfield 26, 3) := by decide +kernel
theorem dX3_pass_15 : decode cX3_pass 15 = .ok (.iconst 1, 1) := by decide +kernel
theorem dX3_pass_16 : decode cX3_pass 16 = .ok (.iadd, 1) := by decide +kernel
theorem dX3_pass_17 : decode cX3_pass 17 = .ok (.putfield 26, 3) := by decide +kernel
theorem dX3_pass_20 : decode cX3_pass 20 = .ok (.iconst 1, 1) := by decide +kernel
theorem dX3_pass_21 : decode cX3_pass 21 = .ok (.ireturn, 1) := by decide +kernel
theorem dX3_here_0 : decode cX3_here 0 = .ok (.aload_n 0, 1) := by decide +kernel
theorem dX3_here_1 : decode cX3_here 1 = .ok (.getfield 26, 3) := by decide +kernel
theorem dX3_here_4 : decode cX3_here 4 = .ok (.ifCond .lt 35, 3) := by decide +kernel
theorem dX3_here_7 : decode cX3_here 7 = .ok (.aload_n 0, 1) := by decide +kernel
theorem dX3_here_8 : decode cX3_here 8 = .ok (.getfield 26, 3) := by decide +kernel
theorem dX3_here_11 : decode cX3_here 11 = .ok (.aload_n 0, 1) := by decide +kernel
theorem dX3_here_12 : decode cX3_here 12 = .ok (.getfield 15, 3) := by decide +kernel
theorem dX3_here_15 : decode cX3_here 15 = .ok (.if_icmp .ge 24, 3) := by decide +kernel
theorem dX3_here_18 : decode cX3_here 18 = .ok (.aload_n 0, 1) := by decide +kernel
theorem dX3_here_19 : decode cX3_here 19 = .ok (.getfield 26, 3) := by decide +kernel
theorem dX3_here_22 : decode cX3_here 22 = .ok (.bipush 60, 2) := by decide +kernel
theorem dX3_here_24 : decode cX3_here 24 = .ok (.if_icmp .ge 15, 3) := by decide +kernel
theorem dX3_here_27 : decode cX3_here 27 = .ok (.aload_n 0, 1) := by decide +kernel
theorem dX3_here_28 : decode cX3_here 28 = .ok (.getfield 9, 3) := by decide +kernel
theorem dX3_here_31 : decode cX3_here 31 = .ok (.aload_n 0, 1) := by decide +kernel
theorem dX3_here_32 : decode cX3_here 32 = .ok (.getfield 26, 3) := by decide +kernel
theorem dX3_here_35 : decode cX3_here 35 = .ok (.caload, 1) := by decide +kernel
theorem dX3_here_36 : decode cX3_here 36 = .ok (.goto 4, 3) := by decide +kernel
theorem dX3_here_39 : decode cX3_here 39 = .ok (.iconst 0, 1) := by decide +kernel
theorem dX3_here_40 : decode cX3_here 40 = .ok (.ireturn, 1) := by decide +kernel
theorem dX3_isDigit_0 : decode cX3_isDigit 0 = .ok (.iload_n 0, 1) := by decide +kernel
theorem dX3_isDigit_1 : decode cX3_isDigit 1 = .ok (.bipush 48, 2) := by decide +kernel
theorem dX3_isDigit_3 : decode cX3_isDigit 3 = .ok (.if_icmp .lt 13, 3) := by decide +kernel
theorem dX3_isDigit_6 : decode cX3_isDigit 6 = .ok (.iload_n 0, 1) := by decide +kernel
theorem dX3_isDigit_7 : decode cX3_isDigit 7 = .ok (.bipush 57, 2) := by decide +kernel
theorem dX3_isDigit_9 : decode cX3_isDigit 9 = .ok (.if_icmp .gt 7, 3) := by decide +kernel
theorem dX3_isDigit_12 : decode cX3_isDigit 12 = .ok (.iconst 1, 1) := by decide +kernel
theorem dX3_isDigit_13 : decode cX3_isDigit 13 = .ok (.goto 4, 3) := by decide +kernel
theorem dX3_isDigit_16 : decode cX3_isDigit 16 = .ok (.iconst 0, 1) := by decide +kernel
theorem dX3_isDigit_17 : decode cX3_isDigit 17 = .ok (.ireturn, 1) := by decide +kernel
theorem dX4_init_0 : decode cX4_init 0 = .ok (.aload_n 0, 1) := by decide +kernel
theorem dX4_init_1 : decode cX4_init 1 = .ok (.invokespecial 3, 3) := by decide +kernel
theorem dX4_init_4 : decode cX4_init 4 = .ok (.aload_n 0, 1) := by decide +kernel
theorem dX4_init_5 : decode cX4_init 5 = .ok (.new 9, 3) := by decide +kernel
theorem dX4_init_8 : decode cX4_init 8 = .ok (.dup, 1) := by decide +kernel
theorem dX4_init_9 : decode cX4_init 9 = .ok (.bipush 12, 2) := by decide +kernel
theorem dX4_init_11 : decode cX4_init 11 = .ok (.invokespecial 11, 3) := by decide +kernel
theorem dX4_init_14 : decode cX4_init 14 = .ok (.putfield 14, 3) := by decide +kernel
theorem dX4_init_17 : decode cX4_init 17 = .ok (.aload_n 0, 1) := by decide +kernel
theorem dX4_init_18 : decode cX4_init 18 = .ok (.new 9, 3) := by decide +kernel
theorem dX4_init_21 : decode cX4_init 21 = .ok (.dup, 1) := by decide +kernel
theorem dX4_init_22 : decode cX4_init 22 = .ok (.bipush 8, 2) := by decide +kernel
theorem dX4_init_24 : decode cX4_init 24 = .ok (.invokespecial 11, 3) := by decide +kernel
theorem dX4_init_27 : decode cX4_init 27 = .ok (.putfield 20, 3) := by decide +kernel
theorem dX4_init_30 : decode cX4_init 30 = .ok (.aload_n 0, 1) := by decide +kernel
theorem dX4_init_31 : decode cX4_init 31 = .ok (.bipush 96, 2) := by decide +kernel
theorem dX4_init_33 : decode cX4_init 33 = .ok (.newarray .int, 2) := by decide +kernel
theorem dX4_init_35 : decode cX4_init 35 = .ok (.putfield 23, 3) := by decide +kernel
theorem dX4_init_38 : decode cX4_init 38 = .ok (.aload_n 0, 1) := by decide +kernel
theorem dX4_init_39 : decode cX4_init 39 = .ok (.new 27, 3) := by decide +kernel
theorem dX4_init_42 : decode cX4_init 42 = .ok (.dup, 1) := by decide +kernel
theorem dX4_init_43 : decode cX4_init 43 = .ok (.invokespecial 29, 3) := by decide +kernel
theorem dX4_init_46 : decode cX4_init 46 = .ok (.putfield 30, 3) := by decide +kernel
theorem dX4_init_49 : decode cX4_init 49 = .ok (.aload_n 0, 1) := by decide +kernel
theorem dX4_init_50 : decode cX4_init 50 = .ok (.iconst 1, 1) := by decide +kernel
theorem dX4_init_51 : decode cX4_init 51 = .ok (.putfield 34, 3) := by decide +kernel
theorem dX4_init_54 : decode cX4_init 54 = .ok (.return_, 1) := by decide +kernel
theorem dX4_copyFrom_0 : decode cX4_copyFrom 0 = .ok (.aload_n 0, 1) := by decide +kernel
theorem dX4_copyFrom_1 : decode cX4_copyFrom 1 = .ok (.getfield 14, 3) := by decide +kernel
theorem dX4_copyFrom_4 : decode cX4_copyFrom 4 = .ok (.aload_n 1, 1) := by decide +kernel
theorem dX4_copyFrom_5 : decode cX4_copyFrom 5 = .ok (.getfield 14, 3) := by decide +kernel
theorem dX4_copyFrom_8 : decode cX4_copyFrom 8 = .ok (.invokevirtual 38, 3) := by decide +kernel
theorem dX4_copyFrom_11 : decode cX4_copyFrom 11 = .ok (.aload_n 0, 1) := by decide +kernel
theorem dX4_copyFrom_12 : decode cX4_copyFrom 12 = .ok (.getfield 20, 3) := by decide +kernel
theorem dX4_copyFrom_15 : decode cX4_copyFrom 15 = .ok (.aload_n 1, 1) := by decide +kernel
theorem dX4_copyFrom_16 : decode cX4_copyFrom 16 = .ok (.getfield 20, 3) := by decide +kernel
theorem dX4_copyFrom_19 : decode cX4_copyFrom 19 = .ok (.invokevirtual 38, 3) := by decide +kernel
theorem dX4_copyFrom_22 : decode cX4_copyFrom 22 = .ok (.aload_n 1, 1) := by decide +kernel
theorem dX4_copyFrom_23 : decode cX4_copyFrom 23 = .ok (.getfield 23, 3) := by decide +kernel
theorem dX4_copyFrom_26 : decode cX4_copyFrom 26 = .ok (.aload_n 0, 1) := by decide +kernel
theorem dX4_copyFrom_27 : decode cX4_copyFrom 27 = .ok (.getfield 23, 3) := by decide +kernel
theorem dX4_copyFrom_30 : decode cX4_copyFrom 30 = .ok (.invokestatic 42, 3) := by decide +kernel
theorem dX4_copyFrom_33 : decode cX4_copyFrom 33 = .ok (.aload_n 0, 1) := by decide +kernel
theorem dX4_copyFrom_34 : decode cX4_copyFrom 34 = .ok (.getfield 30, 3) := by decide +kernel
theorem dX4_copyFrom_37 : decode cX4_copyFrom 37 = .ok (.aload_n 1, 1) := by decide +kernel
theorem dX4_copyFrom_38 : decode cX4_copyFrom 38 = .ok (.getfield 30, 3) := by decide +kernel
theorem dX4_copyFrom_41 : decode cX4_copyFrom 41 = .ok (.invokevirtual 46, 3) := by decide +kernel
theorem dX4_copyFrom_44 : decode cX4_copyFrom 44 = .ok (.aload_n 0, 1) := by decide +kernel
theorem dX4_copyFrom_45 : decode cX4_copyFrom 45 = .ok (.aload_n 1, 1) := by decide +kernel
theorem dX4_copyFrom_46 : decode cX4_copyFrom 46 = .ok (.getfield 34, 3) := by decide +kernel
theorem dX4_copyFrom_49 : decode cX4_copyFrom 49 = .ok (.putfield 34, 3) := by decide +kernel
theorem dX4_copyFrom_52 : decode cX4_copyFrom 52 = .ok (.return_, 1) := by decide +kernel
theorem dX4_linesOf_0 : decode cX4_linesOf 0 = .ok (.iload_n 1, 1) := by decide +kernel
theorem dX4_linesOf_1 : decode cX4_linesOf 1 = .ok (.ifCond .ne 10, 3) := by decide +kernel
theorem dX4_linesOf_4 : decode cX4_linesOf 4 = .ok (.aload_n 0, 1) := by decide +kernel
theorem dX4_linesOf_5 : decode cX4_linesOf 5 = .ok (.getfield 14, 3) := by decide +kernel
theorem dX4_linesOf_8 : decode cX4_linesOf 8 = .ok (.goto 7, 3) := by decide +kernel
theorem dX4_linesOf_11 : decode cX4_linesOf 11 = .ok (.aload_n 0, 1) := by decide +kernel
theorem dX4_linesOf_12 : decode cX4_linesOf 12 = .ok (.getfield 20, 3) := by decide +kernel
theorem dX4_linesOf_15 : decode cX4_linesOf 15 = .ok (.areturn, 1) := by decide +kernel
theorem dX4_slotAt_0 : decode cX4_slotAt 0 = .ok (.iload_n 1, 1) := by decide +kernel
theorem dX4_slotAt_1 : decode cX4_slotAt 1 = .ok (.invokestatic 49, 3) := by decide +kernel
theorem dX4_slotAt_4 : decode cX4_slotAt 4 = .ok (.ifCond .eq 15, 3) := by decide +kernel
theorem dX4_slotAt_7 : decode cX4_slotAt 7 = .ok (.aload_n 0, 1) := by decide +kernel
theorem dX4_slotAt_8 : decode cX4_slotAt 8 = .ok (.iload_n 1, 1) := by decide +kernel
theorem dX4_slotAt_9 : decode cX4_slotAt 9 = .ok (.invokevirtual 53, 3) := by decide +kernel
theorem dX4_slotAt_12 : decode cX4_slotAt 12 = .ok (.iload_n 2, 1) := by decide +kernel
theorem dX4_slotAt_13 : decode cX4_slotAt 13 = .ok (.invokevirtual 57, 3) := by decide +kernel
theorem dX4_slotAt_16 : decode cX4_slotAt 16 = .ok (.goto 5, 3) := by decide +kernel
theorem dX4_slotAt_19 : decode cX4_slotAt 19 = .ok (.bipush (-5), 2) := by decide +kernel
theorem dX4_slotAt_21 : decode cX4_slotAt 21 = .ok (.ireturn, 1) := by decide +kernel
theorem dX4_insertLine_0 : decode cX4_insertLine 0 = .ok (.iload_n 1, 1) := by decide +kernel
theorem dX4_insertLine_1 : decode cX4_insertLine 1 = .ok (.invokestatic 61, 3) := by decide +kernel
theorem dX4_insertLine_4 : decode cX4_insertLine 4 = .ok (.ifCond .eq 10, 3) := by decide +kernel
theorem dX4_insertLine_7 : decode cX4_insertLine 7 = .ok (.iload_n 2, 1) := by decide +kernel
theorem dX4_insertLine_8 : decode cX4_insertLine 8 = .ok (.invokestatic 49, 3) := by decide +kernel
theorem dX4_insertLine_11 : decode cX4_insertLine 11 = .ok (.ifCond .ne 5, 3) := by decide +kernel
theorem dX4_insertLine_14 : decode cX4_insertLine 14 = .ok (.iconst (-1), 1) := by decide +kernel
theorem dX4_insertLine_15 : decode cX4_insertLine 15 = .ok (.ireturn, 1) := by decide +kernel
theorem dX4_insertLine_16 : decode cX4_insertLine 16 = .ok (.aload_n 0, 1) := by decide +kernel
theorem dX4_insertLine_17 : decode cX4_insertLine 17 = .ok (.iload_n 2, 1) := by decide +kernel
theorem dX4_insertLine_18 : decode cX4_insertLine 18 = .ok (.invokevirtual 53, 3) := by decide +kernel
theorem dX4_insertLine_21 : decode cX4_insertLine 21 = .ok (.astore 4, 2) := by decide +kernel
theorem dX4_insertLine_23 : decode cX4_insertLine 23 = .ok (.iload_n 3, 1) := by decide +kernel
theorem dX4_insertLine_24 : decode cX4_insertLine 24 = .ok (.ifCond .lt 12, 3) := by decide +kernel
theorem dX4_insertLine_27 : decode cX4_insertLine 27 = .ok (.iload_n 3, 1) := by decide +kernel
theorem dX4_insertLine_28 : decode cX4_insertLine 28 = .ok (.aload 4, 2) := by decide +kernel
theorem dX4_insertLine_30 : decode cX4_insertLine 30 = .ok (.getfield 64, 3) := by decide +kernel
theorem dX4_insertLine_33 : decode cX4_insertLine 33 = .ok (.if_icmp .le 6, 3) := by decide +kernel
theorem dX4_insertLine_36 : decode cX4_insertLine 36 = .ok (.bipush (-2), 2) := by decide +kernel
theorem dX4_insertLine_38 : decode cX4_insertLine 38 = .ok (.ireturn, 1) := by decide +kernel
theorem dX4_insertLine_39 : decode cX4_insertLine 39 = .ok (.aload 4, 2) := by decide +kernel
theorem dX4_insertLine_41 : decode cX4_insertLine 41 = .ok (.invokevirtual 68, 3) := by decide +kernel
theorem dX4_insertLine_44 : decode cX4_insertLine 44 = .ok (.ifCond .ne 20, 3) := by decide +kernel
theorem dX4_insertLine_47 : decode cX4_insertLine 47 = .ok (.aload_n 0, 1) := by decide +kernel
theorem dX4_insertLine_48 : decode cX4_insertLine 48 = .ok (.getfield 34, 3) := by decide +kernel
theorem dX4_insertLine_51 : decode cX4_insertLine 51 = .ok (.ifCond .eq 16, 3) := by decide +kernel
theorem dX4_insertLine_54 : decode cX4_insertLine 54 = .ok (.aload_n 0, 1) := by decide +kernel
theorem dX4_insertLine_55 : decode cX4_insertLine 55 = .ok (.getfield 30, 3) := by decide +kernel
theorem dX4_insertLine_58 : decode cX4_insertLine 58 = .ok (.invokevirtual 72, 3) := by decide +kernel
theorem dX4_insertLine_61 : decode cX4_insertLine 61 = .ok (.ifCond .eq 6, 3) := by decide +kernel
theorem dX4_insertLine_64 : decode cX4_insertLine 64 = .ok (.bipush (-3), 2) := by decide +kernel
theorem dX4_insertLine_66 : decode cX4_insertLine 66 = .ok (.ireturn, 1) := by decide +kernel
theorem dX4_insertLine_67 : decode cX4_insertLine 67 = .ok (.aload 4, 2) := by decide +kernel
theorem dX4_insertLine_69 : decode cX4_insertLine 69 = .ok (.iload_n 3, 1) := by decide +kernel
theorem dX4_insertLine_70 : decode cX4_insertLine 70 = .ok (.invokevirtual 73, 3) := by decide +kernel
theorem dX4_insertLine_73 : decode cX4_insertLine 73 = .ok (.istore 5, 2) := by decide +kernel
theorem dX4_insertLine_75 : decode cX4_insertLine 75 = .ok (.aload_n 0, 1) := by decide +kernel
theorem dX4_insertLine_76 : decode cX4_insertLine 76 = .ok (.iload_n 2, 1) := by decide +kernel
theorem dX4_insertLine_77 : decode cX4_insertLine 77 = .ok (.iload 5, 2) := by decide +kernel
theorem dX4_insertLine_79 : decode cX4_insertLine 79 = .ok (.invokevirtual 76, 3) := by decide +kernel
theorem dX4_insertLine_82 : decode cX4_insertLine 82 = .ok (.aload_n 0, 1) := by decide +kernel
theorem dX4_insertLine_83 : decode cX4_insertLine 83 = .ok (.getfield 34, 3) := by decide +kernel
theorem dX4_insertLine_86 : decode cX4_insertLine 86 = .ok (.ifCond .ne 7, 3) := by decide +kernel
theorem dX4_insertLine_89 : decode cX4_insertLine 89 = .ok (.sipush 1000, 3) := by decide +kernel
theorem dX4_insertLine_92 : decode cX4_insertLine 92 = .ok (.ireturn, 1) := by decide +kernel
theorem dX4_insertLine_93 : decode cX4_insertLine 93 = .ok (.aload_n 0, 1) := by decide +kernel
theorem dX4_insertLine_94 : decode cX4_insertLine 94 = .ok (.getfield 30, 3) := by decide +kernel
theorem dX4_insertLine_97 : decode cX4_insertLine 97 = .ok (.iload_n 2, 1) := by decide +kernel
theorem dX4_insertLine_98 : decode cX4_insertLine 98 = .ok (.ifCond .ne 7, 3) := by decide +kernel
theorem dX4_insertLine_101 : decode cX4_insertLine 101 = .ok (.iconst 0, 1) := by decide +kernel
theorem dX4_insertLine_102 : decode cX4_insertLine 102 = .ok (.goto 4, 3) := by decide +kernel
theorem dX4_insertLine_105 : decode cX4_insertLine 105 = .ok (.iconst 2, 1) := by decide +kernel
theorem dX4_insertLine_106 : decode cX4_insertLine 106 = .ok (.iload_n 1, 1) := by decide +kernel
theorem dX4_insertLine_107 : decode cX4_insertLine 107 = .ok (.iload 5, 2) := by decide +kernel
theorem dX4_insertLine_109 : decode cX4_insertLine 109 = .ok (.invokevirtual 80, 3) := by decide +kernel
theorem dX4_insertLine_112 : decode cX4_insertLine 112 = .ok (.ireturn, 1) := by decide +kernel
theorem dX4_removeLine_0 : decode cX4_removeLine 0 = .ok (.aload_n 0, 1) := by decide +kernel
theorem dX4_removeLine_1 : decode cX4_removeLine 1 = .ok (.iload_n 2, 1) := by decide +kernel
theorem dX4_removeLine_2 : decode cX4_removeLine 2 = .ok (.iload_n 3, 1) := by decide +kernel
theorem dX4_removeLine_3 : decode cX4_removeLine 3 = .ok (.invokevirtual 84, 3) := by decide +kernel
theorem dX4_removeLine_6 : decode cX4_removeLine 6 = .ok (.istore 4, 2) := by decide +kernel
theorem dX4_removeLine_8 : decode cX4_removeLine 8 = .ok (.iload_n 1, 1) := by decide +kernel
theorem dX4_removeLine_9 : decode cX4_removeLine 9 = .ok (.invokestatic 61, 3) := by decide +kernel
theorem dX4_removeLine_12 : decode cX4_removeLine 12 = .ok (.ifCond .eq 8, 3) := by decide +kernel
theorem dX4_removeLine_15 : decode cX4_removeLine 15 = .ok (.iload 4, 2) := by decide +kernel
theorem dX4_removeLine_17 : decode cX4_removeLine 17 = .ok (.ifCond .ge 5, 3) := by decide +kernel
theorem dX4_removeLine_20 : decode cX4_removeLine 20 = .ok (.iconst (-1), 1) := by decide +kernel
theorem dX4_removeLine_21 : decode cX4_removeLine 21 = .ok (.ireturn, 1) := by decide +kernel
theorem dX4_removeLine_22 : decode cX4_removeLine 22 = .ok (.aload_n 0, 1) := by decide +kernel
theorem dX4_removeLine_23 : decode cX4_removeLine 23 = .ok (.getfield 34, 3) := by decide +kernel
theorem dX4_removeLine_26 : decode cX4_removeLine 26 = .ok (.ifCond .ne 14, 3) := by decide +kernel
theorem dX4_removeLine_29 : decode cX4_removeLine 29 = .ok (.aload_n 0, 1) := by decide +kernel
theorem dX4_removeLine_30 : decode cX4_removeLine 30 = .ok (.iload_n 2, 1) := by decide +kernel
theorem dX4_removeLine_31 : decode cX4_removeLine 31 = .ok (.iload 4, 2) := by decide +kernel
theorem dX4_removeLine_33 : decode cX4_removeLine 33 = .ok (.invokevirtual 87, 3) := by decide +kernel
theorem dX4_removeLine_36 : decode cX4_removeLine 36 = .ok (.sipush 1000, 3) := by decide +kernel
theorem dX4_removeLine_39 : decode cX4_removeLine 39 = .ok (.ireturn, 1) := by decide +kernel
theorem dX4_removeLine_40 : decode cX4_removeLine 40 = .ok (.aload_n 0, 1) := by decide +kernel
theorem dX4_removeLine_41 : decode cX4_removeLine 41 = .ok (.getfield 30, 3) := by decide +kernel
theorem dX4_removeLine_44 : decode cX4_removeLine 44 = .ok (.iload_n 2, 1) := by decide +kernel
theorem dX4_removeLine_45 : decode cX4_removeLine 45 = .ok (.iload 4, 2) := by decide +kernel
theorem dX4_removeLine_47 : decode cX4_removeLine 47 = .ok (.invokevirtual 90, 3) := by decide +kernel
theorem dX4_removeLine_50 : decode cX4_removeLine 50 = .ok (.ifCond .lt 6, 3) := by decide +kernel
theorem dX4_removeLine_53 : decode cX4_removeLine 53 = .ok (.bipush (-4), 2) := by decide +kernel
theorem dX4_removeLine_55 : decode cX4_removeLine 55 = .ok (.ireturn, 1) := by decide +kernel
theorem dX4_removeLine_56 : decode cX4_removeLine 56 = .ok (.aload_n 0, 1) := by decide +kernel
theorem dX4_removeLine_57 : decode cX4_removeLine 57 = .ok (.getfield 30, 3) := by decide +kernel
theorem dX4_removeLine_60 : decode cX4_removeLine 60 = .ok (.iload_n 2, 1) := by decide +kernel
theorem dX4_removeLine_61 : decode cX4_removeLine 61 = .ok (.iload 4, 2) := by decide +kernel
theorem dX4_removeLine_63 : decode cX4_removeLine 63 = .ok (.invokevirtual 93, 3) := by decide +kernel
theorem dX4_removeLine_66 : decode cX4_removeLine 66 = .ok (.istore 5, 2) := by decide +kernel
theorem dX4_removeLine_68 : decode cX4_removeLine 68 = .ok (.iload 5, 2) := by decide +kernel
theorem dX4_removeLine_70 : decode cX4_removeLine 70 = .ok (.ifCond .lt 27, 3) := by decide +kernel
theorem dX4_removeLine_73 : decode cX4_removeLine 73 = .ok (.aload_n 0, 1) := by decide +kernel
theorem dX4_removeLine_74 : decode cX4_removeLine 74 = .ok (.getfield 30, 3) := by decide +kernel
theorem dX4_removeLine_77 : decode cX4_removeLine 77 = .ok (.iload 5, 2) := by decide +kernel
theorem dX4_removeLine_79 : decode cX4_removeLine 79 = .ok (.iconst 1, 1) := by decide +kernel
theorem dX4_removeLine_80 : decode cX4_removeLine 80 = .ok (.invokevirtual 96, 3) := by decide +kernel
theorem dX4_removeLine_83 : decode cX4_removeLine 83 = .ok (.iload_n 1, 1) := by decide +kernel
theorem dX4_removeLine_84 : decode cX4_removeLine 84 = .ok (.if_icmp .ne 13, 3) := by decide +kernel
theorem dX4_removeLine_87 : decode cX4_removeLine 87 = .ok (.aload_n 0, 1) := by decide +kernel
theorem dX4_removeLine_88 : decode cX4_removeLine 88 = .ok (.iload_n 2, 1) := by decide +kernel
theorem dX4_removeLine_89 : decode cX4_removeLine 89 = .ok (.iload 4, 2) := by decide +kernel
theorem dX4_removeLine_91 : decode cX4_removeLine 91 = .ok (.invokevirtual 87, 3) := by decide +kernel
theorem dX4_removeLine_94 : decode cX4_removeLine 94 = .ok (.iload 5, 2) := by decide +kernel
theorem dX4_removeLine_96 : decode cX4_removeLine 96 = .ok (.ireturn, 1) := by decide +kernel
theorem dX4_removeLine_97 : decode cX4_removeLine 97 = .ok (.aload_n 0, 1) := by decide +kernel
theorem dX4_removeLine_98 : decode cX4_removeLine 98 = .ok (.getfield 30, 3) := by decide +kernel
theorem dX4_removeLine_101 : decode cX4_removeLine 101 = .ok (.iload_n 2, 1) := by decide +kernel
theorem dX4_removeLine_102 : decode cX4_removeLine 102 = .ok (.ifCond .ne 7, 3) := by decide +kernel
theorem dX4_removeLine_105 : decode cX4_removeLine 105 = .ok (.iconst 1, 1) := by decide +kernel
theorem dX4_removeLine_106 : decode cX4_removeLine 106 = .ok (.goto 4, 3) := by decide +kernel
theorem dX4_removeLine_109 : decode cX4_removeLine 109 = .ok (.iconst 3, 1) := by decide +kernel
theorem dX4_removeLine_110 : decode cX4_removeLine 110 = .ok (.iload_n 1, 1) := by decide +kernel
theorem dX4_removeLine_111 : decode cX4_removeLine 111 = .ok (.iload 4, 2) := by decide +kernel
theorem dX4_removeLine_113 : decode cX4_removeLine 113 = .ok (.invokevirtual 80, 3) := by decide +kernel
theorem dX4_removeLine_116 : decode cX4_removeLine 116 = .ok (.ireturn, 1) := by decide +kernel
theorem dX4_setCell_0 : decode cX4_setCell 0 = .ok (.aload_n 0, 1) := by decide +kernel
theorem dX4_setCell_1 : decode cX4_setCell 1 = .ok (.getfield 14, 3) := by decide +kernel
theorem dX4_setCell_4 : decode cX4_setCell 4 = .ok (.iload_n 2, 1) := by decide +kernel
theorem dX4_setCell_5 : decode cX4_setCell 5 = .ok (.invokevirtual 57, 3) := by decide +kernel
theorem dX4_setCell_8 : decode cX4_setCell 8 = .ok (.istore 5, 2) := by decide +kernel
theorem dX4_setCell_10 : decode cX4_setCell 10 = .ok (.aload_n 0, 1) := by decide +kernel
theorem dX4_setCell_11 : decode cX4_setCell 11 = .ok (.getfield 20, 3) := by decide +kernel
theorem dX4_setCell_14 : decode cX4_setCell 14 = .ok (.iload_n 3, 1) := by decide +kernel
theorem dX4_setCell_15 : decode cX4_setCell 15 = .ok (.invokevirtual 57, 3) := by decide +kernel
theorem dX4_setCell_18 : decode cX4_setCell 18 = .ok (.istore 6, 2) := by decide +kernel
theorem dX4_setCell_20 : decode cX4_setCell 20 = .ok (.iload_n 1, 1) := by decide +kernel
theorem dX4_setCell_21 : decode cX4_setCell 21 = .ok (.invokestatic 61, 3) := by decide +kernel
theorem dX4_setCell_24 : decode cX4_setCell 24 = .ok (.ifCond .eq 13, 3) := by decide +kernel
theorem dX4_setCell_27 : decode cX4_setCell 27 = .ok (.iload 5, 2) := by decide +kernel
theorem dX4_setCell_29 : decode cX4_setCell 29 = .ok (.ifCond .lt 8, 3) := by decide +kernel
theorem dX4_setCell_32 : decode cX4_setCell 32 = .ok (.iload 6, 2) := by decide +kernel
theorem dX4_setCell_34 : decode cX4_setCell 34 = .ok (.ifCond .ge 5, 3) := by decide +kernel
theorem dX4_setCell_37 : decode cX4_setCell 37 = .ok (.iconst (-1), 1) := by decide +kernel
theorem dX4_setCell_38 : decode cX4_setCell 38 = .ok (.ireturn, 1) := by decide +kernel
theorem dX4_setCell_39 : decode cX4_setCell 39 = .ok (.iload 4, 2) := by decide +kernel
theorem dX4_setCell_41 : decode cX4_setCell 41 = .ok (.ifCond .lt 11, 3) := by decide +kernel
theorem dX4_setCell_44 : decode cX4_setCell 44 = .ok (.iload 4, 2) := by decide +kernel
theorem dX4_setCell_46 : decode cX4_setCell 46 = .ok (.sipush 9999, 3) := by decide +kernel
theorem dX4_setCell_49 : decode cX4_setCell 49 = .ok (.if_icmp .le 6, 3) := by decide +kernel
theorem dX4_setCell_52 : decode cX4_setCell 52 = .ok (.bipush (-2), 2) := by decide +kernel
theorem dX4_setCell_54 : decode cX4_setCell 54 = .ok (.ireturn, 1) := by decide +kernel
theorem dX4_setCell_55 : decode cX4_setCell 55 = .ok (.aload_n 0, 1) := by decide +kernel
theorem dX4_setCell_56 : decode cX4_setCell 56 = .ok (.getfield 30, 3) := by decide +kernel
theorem dX4_setCell_59 : decode cX4_setCell 59 = .ok (.iconst 0, 1) := by decide +kernel
theorem dX4_setCell_60 : decode cX4_setCell 60 = .ok (.iload 5, 2) := by decide +kernel
theorem dX4_setCell_62 : decode cX4_setCell 62 = .ok (.invokevirtual 90, 3) := by decide +kernel
theorem dX4_setCell_65 : decode cX4_setCell 65 = .ok (.ifCond .ge 31, 3) := by decide +kernel
theorem dX4_setCell_68 : decode cX4_setCell 68 = .ok (.aload_n 0, 1) := by decide +kernel
theorem dX4_setCell_69 : decode cX4_setCell 69 = .ok (.getfield 30, 3) := by decide +kernel
theorem dX4_setCell_72 : decode cX4_setCell 72 = .ok (.iconst 1, 1) := by decide +kernel
theorem dX4_setCell_73 : decode cX4_setCell 73 = .ok (.iload 6, 2) := by decide +kernel
theorem dX4_setCell_75 : decode cX4_setCell 75 = .ok (.invokevirtual 90, 3) := by decide +kernel
theorem dX4_setCell_78 : decode cX4_setCell 78 = .ok (.ifCond .ge 18, 3) := by decide +kernel
theorem dX4_setCell_81 : decode cX4_setCell 81 = .ok (.aload_n 0, 1) := by decide +kernel
theorem dX4_setCell_82 : decode cX4_setCell 82 = .ok (.bipush 60, 2) := by decide +kernel
theorem dX4_setCell_84 : decode cX4_setCell 84 = .ok (.iload 5, 2) := by decide +kernel
theorem dX4_setCell_86 : decode cX4_setCell 86 = .ok (.iload 6, 2) := by decide +kernel
theorem dX4_setCell_88 : decode cX4_setCell 88 = .ok (.invokevirtual 99, 3) := by decide +kernel
theorem dX4_setCell_91 : decode cX4_setCell 91 = .ok (.iload 4, 2) := by decide +kernel
theorem dX4_setCell_93 : decode cX4_setCell 93 = .ok (.if_icmp .ne 6, 3) := by decide +kernel
theorem dX4_setCell_96 : decode cX4_setCell 96 = .ok (.bipush (-4), 2) := by decide +kernel
theorem dX4_setCell_98 : decode cX4_setCell 98 = .ok (.ireturn, 1) := by decide +kernel
theorem dX4_setCell_99 : decode cX4_setCell 99 = .ok (.aload_n 0, 1) := by decide +kernel
theorem dX4_setCell_100 : decode cX4_setCell 100 = .ok (.getfield 34, 3) := by decide +kernel
theorem dX4_setCell_103 : decode cX4_setCell 103 = .ok (.ifCond .ne 28, 3) := by decide +kernel
theorem dX4_setCell_106 : decode cX4_setCell 106 = .ok (.aload_n 0, 1) := by decide +kernel
theorem dX4_setCell_107 : decode cX4_setCell 107 = .ok (.getfield 30, 3) := by decide +kernel
theorem dX4_setCell_110 : decode cX4_setCell 110 = .ok (.iload 5, 2) := by decide +kernel
theorem dX4_setCell_112 : decode cX4_setCell 112 = .ok (.iload 6, 2) := by decide +kernel
theorem dX4_setCell_114 : decode cX4_setCell 114 = .ok (.invokevirtual 102, 3) := by decide +kernel
theorem dX4_setCell_117 : decode cX4_setCell 117 = .ok (.aload_n 0, 1) := by decide +kernel
theorem dX4_setCell_118 : decode cX4_setCell 118 = .ok (.iload 5, 2) := by decide +kernel
theorem dX4_setCell_120 : decode cX4_setCell 120 = .ok (.iload 6, 2) := by decide +kernel
theorem dX4_setCell_122 : decode cX4_setCell 122 = .ok (.iload 4, 2) := by decide +kernel
theorem dX4_setCell_124 : decode cX4_setCell 124 = .ok (.invokevirtual 105, 3) := by decide +kernel
theorem dX4_setCell_127 : decode cX4_setCell 127 = .ok (.sipush 1000, 3) := by decide +kernel
theorem dX4_setCell_130 : decode cX4_setCell 130 = .ok (.ireturn, 1) := by decide +kernel
theorem dX4_setCell_131 : decode cX4_setCell 131 = .ok (.aload_n 0, 1) := by decide +kernel
theorem dX4_setCell_132 : decode cX4_setCell 132 = .ok (.getfield 30, 3) := by decide +kernel
theorem dX4_setCell_135 : decode cX4_setCell 135 = .ok (.bipush 60, 2) := by decide +kernel
theorem dX4_setCell_137 : decode cX4_setCell 137 = .ok (.iload 5, 2) := by decide +kernel
theorem dX4_setCell_139 : decode cX4_setCell 139 = .ok (.iload 6, 2) := by decide +kernel
theorem dX4_setCell_141 : decode cX4_setCell 141 = .ok (.invokevirtual 109, 3) := by decide +kernel
theorem dX4_setCell_144 : decode cX4_setCell 144 = .ok (.istore 7, 2) := by decide +kernel
theorem dX4_setCell_146 : decode cX4_setCell 146 = .ok (.iload 7, 2) := by decide +kernel
theorem dX4_setCell_148 : decode cX4_setCell 148 = .ok (.ifCond .lt 36, 3) := by decide +kernel
theorem dX4_setCell_151 : decode cX4_setCell 151 = .ok (.aload_n 0, 1) := by decide +kernel
theorem dX4_setCell_152 : decode cX4_setCell 152 = .ok (.getfield 30, 3) := by decide +kernel
theorem dX4_setCell_155 : decode cX4_setCell 155 = .ok (.iload 7, 2) := by decide +kernel
theorem dX4_setCell_157 : decode cX4_setCell 157 = .ok (.iconst 1, 1) := by decide +kernel
theorem dX4_setCell_158 : decode cX4_setCell 158 = .ok (.invokevirtual 96, 3) := by decide +kernel
theorem dX4_setCell_161 : decode cX4_setCell 161 = .ok (.iload_n 1, 1) := by decide +kernel
theorem dX4_setCell_162 : decode cX4_setCell 162 = .ok (.if_icmp .ne 22, 3) := by decide +kernel
theorem dX4_setCell_165 : decode cX4_setCell 165 = .ok (.aload_n 0, 1) := by decide +kernel
theorem dX4_setCell_166 : decode cX4_setCell 166 = .ok (.iload 7, 2) := by decide +kernel
theorem dX4_setCell_168 : decode cX4_setCell 168 = .ok (.aload_n 0, 1) := by decide +kernel
theorem dX4_setCell_169 : decode cX4_setCell 169 = .ok (.iload 7, 2) := by decide +kernel
theorem dX4_setCell_171 : decode cX4_setCell 171 = .ok (.iload 5, 2) := by decide +kernel
theorem dX4_setCell_173 : decode cX4_setCell 173 = .ok (.iload 6, 2) := by decide +kernel
theorem dX4_setCell_175 : decode cX4_setCell 175 = .ok (.invokevirtual 99, 3) := by decide +kernel
theorem dX4_setCell_178 : decode cX4_setCell 178 = .ok (.iload 4, 2) := by decide +kernel
theorem dX4_setCell_180 : decode cX4_setCell 180 = .ok (.invokevirtual 112, 3) := by decide +kernel
theorem dX4_setCell_183 : decode cX4_setCell 183 = .ok (.ireturn, 1) := by decide +kernel
theorem dX4_setCell_184 : decode cX4_setCell 184 = .ok (.aload_n 0, 1) := by decide +kernel
theorem dX4_setCell_185 : decode cX4_setCell 185 = .ok (.getfield 30, 3) := by decide +kernel
theorem dX4_setCell_188 : decode cX4_setCell 188 = .ok (.iconst 4, 1) := by decide +kernel
theorem dX4_setCell_189 : decode cX4_setCell 189 = .ok (.iload_n 1, 1) := by decide +kernel
theorem dX4_setCell_190 : decode cX4_setCell 190 = .ok (.iload 5, 2) := by decide +kernel
theorem dX4_setCell_192 : decode cX4_setCell 192 = .ok (.iload 6, 2) := by decide +kernel
theorem dX4_setCell_194 : decode cX4_setCell 194 = .ok (.iload 4, 2) := by decide +kernel
theorem dX4_setCell_196 : decode cX4_setCell 196 = .ok (.invokevirtual 115, 3) := by decide +kernel
theorem dX4_setCell_199 : decode cX4_setCell 199 = .ok (.ireturn, 1) := by decide +kernel
theorem dX4_setAgain_0 : decode cX4_setAgain 0 = .ok (.iload_n 2, 1) := by decide +kernel
theorem dX4_setAgain_1 : decode cX4_setAgain 1 = .ok (.iload_n 3, 1) := by decide +kernel
theorem dX4_setAgain_2 : decode cX4_setAgain 2 = .ok (.if_icmp .ne 13, 3) := by decide +kernel
theorem dX4_setAgain_5 : decode cX4_setAgain 5 = .ok (.aload_n 0, 1) := by decide +kernel
theorem dX4_setAgain_6 : decode cX4_setAgain 6 = .ok (.getfield 30, 3) := by decide +kernel
theorem dX4_setAgain_9 : decode cX4_setAgain 9 = .ok (.iload_n 1, 1) := by decide +kernel
theorem dX4_setAgain_10 : decode cX4_setAgain 10 = .ok (.iconst 2, 1) := by decide +kernel
theorem dX4_setAgain_11 : decode cX4_setAgain 11 = .ok (.iconst 3, 1) := by decide +kernel
theorem dX4_setAgain_12 : decode cX4_setAgain 12 = .ok (.invokevirtual 119, 3) := by decide +kernel
theorem dX4_setAgain_15 : decode cX4_setAgain 15 = .ok (.aload_n 0, 1) := by decide +kernel
theorem dX4_setAgain_16 : decode cX4_setAgain 16 = .ok (.getfield 30, 3) := by decide +kernel
theorem dX4_setAgain_19 : decode cX4_setAgain 19 = .ok (.iload_n 1, 1) := by decide +kernel
theorem dX4_setAgain_20 : decode cX4_setAgain 20 = .ok (.iconst 5, 1) := by decide +kernel
theorem dX4_setAgain_21 : decode cX4_setAgain 21 = .ok (.iload_n 3, 1) := by decide +kernel
theorem dX4_setAgain_22 : decode cX4_setAgain 22 = .ok (.invokevirtual 119, 3) := by decide +kernel
theorem dX4_setAgain_25 : decode cX4_setAgain 25 = .ok (.iload_n 1, 1) := by decide +kernel
theorem dX4_setAgain_26 : decode cX4_setAgain 26 = .ok (.ireturn, 1) := by decide +kernel
theorem dX4_dropLine_0 : decode cX4_dropLine 0 = .ok (.aload_n 0, 1) := by decide +kernel
theorem dX4_dropLine_1 : decode cX4_dropLine 1 = .ok (.getfield 30, 3) := by decide +kernel
theorem dX4_dropLine_4 : decode cX4_dropLine 4 = .ok (.iload_n 1, 1) := by decide +kernel
theorem dX4_dropLine_5 : decode cX4_dropLine 5 = .ok (.iload_n 2, 1) := by decide +kernel
theorem dX4_dropLine_6 : decode cX4_dropLine 6 = .ok (.invokevirtual 122, 3) := by decide +kernel
theorem dX4_dropLine_9 : decode cX4_dropLine 9 = .ok (.aload_n 0, 1) := by decide +kernel
theorem dX4_dropLine_10 : decode cX4_dropLine 10 = .ok (.iload_n 1, 1) := by decide +kernel
theorem dX4_dropLine_11 : decode cX4_dropLine 11 = .ok (.invokevirtual 53, 3) := by decide +kernel
theorem dX4_dropLine_14 : decode cX4_dropLine 14 = .ok (.iload_n 2, 1) := by decide +kernel
theorem dX4_dropLine_15 : decode cX4_dropLine 15 = .ok (.invokevirtual 125, 3) := by decide +kernel
theorem dX4_dropLine_18 : decode cX4_dropLine 18 = .ok (.return_, 1) := by decide +kernel
theorem dX4_acceptWhole_0 : decode cX4_acceptWhole 0 = .ok (.iconst 0, 1) := by decide +kernel
theorem dX4_acceptWhole_1 : decode cX4_acceptWhole 1 = .ok (.istore_n 2, 1) := by decide +kernel
theorem dX4_acceptWhole_2 : decode cX4_acceptWhole 2 = .ok (.iconst 0, 1) := by decide +kernel
theorem dX4_acceptWhole_3 : decode cX4_acceptWhole 3 = .ok (.istore_n 3, 1) := by decide +kernel
theorem dX4_acceptWhole_4 : decode cX4_acceptWhole 4 = .ok (.iload_n 3, 1) := by decide +kernel
theorem dX4_acceptWhole_5 : decode cX4_acceptWhole 5 = .ok (.aload_n 0, 1) := by decide +kernel
theorem dX4_acceptWhole_6 : decode cX4_acceptWhole 6 = .ok (.getfield 30, 3) := by decide +kernel
theorem dX4_acceptWhole_9 : decode cX4_acceptWhole 9 = .ok (.getfield 128, 3) := by decide +kernel
theorem dX4_acceptWhole_12 : decode cX4_acceptWhole 12 = .ok (.if_icmp .ge 29, 3) := by decide +kernel
theorem dX4_acceptWhole_15 : decode cX4_acceptWhole 15 = .ok (.aload_n 0, 1) := by decide +kernel
theorem dX4_acceptWhole_16 : decode cX4_acceptWhole 16 = .ok (.getfield 30, 3) := by decide +kernel
theorem dX4_acceptWhole_19 : decode cX4_acceptWhole 19 = .ok (.iload_n 1, 1) := by decide +kernel
theorem dX4_acceptWhole_20 : decode cX4_acceptWhole 20 = .ok (.iload_n 3, 1) := by decide +kernel
theorem dX4_acceptWhole_21 : decode cX4_acceptWhole 21 = .ok (.invokevirtual 131, 3) := by decide +kernel
theorem dX4_acceptWhole_24 : decode cX4_acceptWhole 24 = .ok (.ifCond .eq 11, 3) := by decide +kernel
theorem dX4_acceptWhole_27 : decode cX4_acceptWhole 27 = .ok (.aload_n 0, 1) := by decide +kernel
theorem dX4_acceptWhole_28 : decode cX4_acceptWhole 28 = .ok (.iload_n 3, 1) := by decide +kernel
theorem dX4_acceptWhole_29 : decode cX4_acceptWhole 29 = .ok (.invokevirtual 135, 3) := by decide +kernel
theorem dX4_acceptWhole_32 : decode cX4_acceptWhole 32 = .ok (.iinc 2 1, 3) := by decide +kernel
theorem dX4_acceptWhole_35 : decode cX4_acceptWhole 35 = .ok (.iinc 3 1, 3) := by decide +kernel
theorem dX4_acceptWhole_38 : decode cX4_acceptWhole 38 = .ok (.goto (-34), 3) := by decide +kernel
theorem dX4_acceptWhole_41 : decode cX4_acceptWhole 41 = .ok (.aload_n 0, 1) := by decide +kernel
theorem dX4_acceptWhole_42 : decode cX4_acceptWhole 42 = .ok (.iload_n 1, 1) := by decide +kernel
theorem dX4_acceptWhole_43 : decode cX4_acceptWhole 43 = .ok (.invokevirtual 135, 3) := by decide +kernel
theorem dX4_acceptWhole_46 : decode cX4_acceptWhole 46 = .ok (.iload_n 2, 1) := by decide +kernel
theorem dX4_acceptWhole_47 : decode cX4_acceptWhole 47 = .ok (.iconst 1, 1) := by decide +kernel
theorem dX4_acceptWhole_48 : decode cX4_acceptWhole 48 = .ok (.iadd, 1) := by decide +kernel
theorem dX4_acceptWhole_49 : decode cX4_acceptWhole 49 = .ok (.ireturn, 1) := by decide +kernel
theorem dX4_acceptAlone_0 : decode cX4_acceptAlone 0 = .ok (.aload_n 0, 1) := by decide +kernel
theorem dX4_acceptAlone_1 : decode cX4_acceptAlone 1 = .ok (.getfield 30, 3) := by decide +kernel
theorem dX4_acceptAlone_4 : decode cX4_acceptAlone 4 = .ok (.iload_n 1, 1) := by decide +kernel
theorem dX4_acceptAlone_5 : decode cX4_acceptAlone 5 = .ok (.iconst 2, 1) := by decide +kernel
theorem dX4_acceptAlone_6 : decode cX4_acceptAlone 6 = .ok (.iconst 1, 1) := by decide +kernel
theorem dX4_acceptAlone_7 : decode cX4_acceptAlone 7 = .ok (.invokevirtual 119, 3) := by decide +kernel
theorem dX4_acceptAlone_10 : decode cX4_acceptAlone 10 = .ok (.aload_n 0, 1) := by decide +kernel
theorem dX4_acceptAlone_11 : decode cX4_acceptAlone 11 = .ok (.getfield 30, 3) := by decide +kernel
theorem dX4_acceptAlone_14 : decode cX4_acceptAlone 14 = .ok (.iload_n 1, 1) := by decide +kernel
theorem dX4_acceptAlone_15 : decode cX4_acceptAlone 15 = .ok (.iconst 3, 1) := by decide +kernel
theorem dX4_acceptAlone_16 : decode cX4_acceptAlone 16 = .ok (.invokevirtual 96, 3) := by decide +kernel
theorem dX4_acceptAlone_19 : decode cX4_acceptAlone 19 = .ok (.istore_n 2, 1) := by decide +kernel
theorem dX4_acceptAlone_20 : decode cX4_acceptAlone 20 = .ok (.aload_n 0, 1) := by decide +kernel
theorem dX4_acceptAlone_21 : decode cX4_acceptAlone 21 = .ok (.getfield 30, 3) := by decide +kernel
theorem dX4_acceptAlone_24 : decode cX4_acceptAlone 24 = .ok (.iload_n 1, 1) := by decide +kernel
theorem dX4_acceptAlone_25 : decode cX4_acceptAlone 25 = .ok (.iconst 4, 1) := by decide +kernel
theorem dX4_acceptAlone_26 : decode cX4_acceptAlone 26 = .ok (.invokevirtual 96, 3) := by decide +kernel
theorem dX4_acceptAlone_29 : decode cX4_acceptAlone 29 = .ok (.istore_n 3, 1) := by decide +kernel
theorem dX4_acceptAlone_30 : decode cX4_acceptAlone 30 = .ok (.aload_n 0, 1) := by decide +kernel
theorem dX4_acceptAlone_31 : decode cX4_acceptAlone 31 = .ok (.getfield 30, 3) := by decide +kernel
theorem dX4_acceptAlone_34 : decode cX4_acceptAlone 34 = .ok (.iload_n 1, 1) := by decide +kernel
theorem dX4_acceptAlone_35 : decode cX4_acceptAlone 35 = .ok (.iconst 0, 1) := by decide +kernel
theorem dX4_acceptAlone_36 : decode cX4_acceptAlone 36 = .ok (.invokevirtual 96, 3) := by decide +kernel
theorem dX4_acceptAlone_39 : decode cX4_acceptAlone 39 = .ok (.tableswitch 65 1 4 #[29, 65, 38, 47], 29) := by decide +kernel
theorem dX4_acceptAlone_68 : decode cX4_acceptAlone 68 = .ok (.aload_n 0, 1) := by decide +kernel
theorem dX4_acceptAlone_69 : decode cX4_acceptAlone 69 = .ok (.iconst 0, 1) := by decide +kernel
theorem dX4_acceptAlone_70 : decode cX4_acceptAlone 70 = .ok (.iload_n 2, 1) := by decide +kernel
theorem dX4_acceptAlone_71 : decode cX4_acceptAlone 71 = .ok (.invokevirtual 87, 3) := by decide +kernel
theorem dX4_acceptAlone_74 : decode cX4_acceptAlone 74 = .ok (.goto 30, 3) := by decide +kernel
theorem dX4_acceptAlone_77 : decode cX4_acceptAlone 77 = .ok (.aload_n 0, 1) := by decide +kernel
theorem dX4_acceptAlone_78 : decode cX4_acceptAlone 78 = .ok (.iconst 1, 1) := by decide +kernel
theorem dX4_acceptAlone_79 : decode cX4_acceptAlone 79 = .ok (.iload_n 3, 1) := by decide +kernel
theorem dX4_acceptAlone_80 : decode cX4_acceptAlone 80 = .ok (.invokevirtual 87, 3) := by decide +kernel
theorem dX4_acceptAlone_83 : decode cX4_acceptAlone 83 = .ok (.goto 21, 3) := by decide +kernel
theorem dX4_acceptAlone_86 : decode cX4_acceptAlone 86 = .ok (.aload_n 0, 1) := by decide +kernel
theorem dX4_acceptAlone_87 : decode cX4_acceptAlone 87 = .ok (.iload_n 2, 1) := by decide +kernel
theorem dX4_acceptAlone_88 : decode cX4_acceptAlone 88 = .ok (.iload_n 3, 1) := by decide +kernel
theorem dX4_acceptAlone_89 : decode cX4_acceptAlone 89 = .ok (.aload_n 0, 1) := by decide +kernel
theorem dX4_acceptAlone_90 : decode cX4_acceptAlone 90 = .ok (.getfield 30, 3) := by decide +kernel
theorem dX4_acceptAlone_93 : decode cX4_acceptAlone 93 = .ok (.iload_n 1, 1) := by decide +kernel
theorem dX4_acceptAlone_94 : decode cX4_acceptAlone 94 = .ok (.iconst 5, 1) := by decide +kernel
theorem dX4_acceptAlone_95 : decode cX4_acceptAlone 95 = .ok (.invokevirtual 96, 3) := by decide +kernel
theorem dX4_acceptAlone_98 : decode cX4_acceptAlone 98 = .ok (.invokevirtual 105, 3) := by decide +kernel
theorem dX4_acceptAlone_101 : decode cX4_acceptAlone 101 = .ok (.goto 3, 3) := by decide +kernel
theorem dX4_acceptAlone_104 : decode cX4_acceptAlone 104 = .ok (.return_, 1) := by decide +kernel
theorem dX4_rejectWhole_0 : decode cX4_rejectWhole 0 = .ok (.iconst 0, 1) := by decide +kernel
theorem dX4_rejectWhole_1 : decode cX4_rejectWhole 1 = .ok (.istore_n 2, 1) := by decide +kernel
theorem dX4_rejectWhole_2 : decode cX4_rejectWhole 2 = .ok (.iconst 0, 1) := by decide +kernel
theorem dX4_rejectWhole_3 : decode cX4_rejectWhole 3 = .ok (.istore_n 3, 1) := by decide +kernel
theorem dX4_rejectWhole_4 : decode cX4_rejectWhole 4 = .ok (.iload_n 3, 1) := by decide +kernel
theorem dX4_rejectWhole_5 : decode cX4_rejectWhole 5 = .ok (.aload_n 0, 1) := by decide +kernel
theorem dX4_rejectWhole_6 : decode cX4_rejectWhole 6 = .ok (.getfield 30, 3) := by decide +kernel
theorem dX4_rejectWhole_9 : decode cX4_rejectWhole 9 = .ok (.getfield 128, 3) := by decide +kernel
theorem dX4_rejectWhole_12 : decode cX4_rejectWhole 12 = .ok (.if_icmp .ge 34, 3) := by decide +kernel
theorem dX4_rejectWhole_15 : decode cX4_rejectWhole 15 = .ok (.aload_n 0, 1) := by decide +kernel
theorem dX4_rejectWhole_16 : decode cX4_rejectWhole 16 = .ok (.getfield 30, 3) := by decide +kernel
theorem dX4_rejectWhole_19 : decode cX4_rejectWhole 19 = .ok (.iload_n 3, 1) := by decide +kernel
theorem dX4_rejectWhole_20 : decode cX4_rejectWhole 20 = .ok (.iload_n 1, 1) := by decide +kernel
theorem dX4_rejectWhole_21 : decode cX4_rejectWhole 21 = .ok (.invokevirtual 131, 3) := by decide +kernel
theorem dX4_rejectWhole_24 : decode cX4_rejectWhole 24 = .ok (.ifCond .eq 16, 3) := by decide +kernel
theorem dX4_rejectWhole_27 : decode cX4_rejectWhole 27 = .ok (.aload_n 0, 1) := by decide +kernel
theorem dX4_rejectWhole_28 : decode cX4_rejectWhole 28 = .ok (.getfield 30, 3) := by decide +kernel
theorem dX4_rejectWhole_31 : decode cX4_rejectWhole 31 = .ok (.iload_n 3, 1) := by decide +kernel
theorem dX4_rejectWhole_32 : decode cX4_rejectWhole 32 = .ok (.iconst 2, 1) := by decide +kernel
theorem dX4_rejectWhole_33 : decode cX4_rejectWhole 33 = .ok (.iconst 2, 1) := by decide +kernel
theorem dX4_rejectWhole_34 : decode cX4_rejectWhole 34 = .ok (.invokevirtual 119, 3) := by decide +kernel
theorem dX4_rejectWhole_37 : decode cX4_rejectWhole 37 = .ok (.iinc 2 1, 3) := by decide +kernel
theorem dX4_rejectWhole_40 : decode cX4_rejectWhole 40 = .ok (.iinc 3 1, 3) := by decide +kernel
theorem dX4_rejectWhole_43 : decode cX4_rejectWhole 43 = .ok (.goto (-39), 3) := by decide +kernel
theorem dX4_rejectWhole_46 : decode cX4_rejectWhole 46 = .ok (.aload_n 0, 1) := by decide +kernel
theorem dX4_rejectWhole_47 : decode cX4_rejectWhole 47 = .ok (.getfield 30, 3) := by decide +kernel
theorem dX4_rejectWhole_50 : decode cX4_rejectWhole 50 = .ok (.iload_n 1, 1) := by decide +kernel
theorem dX4_rejectWhole_51 : decode cX4_rejectWhole 51 = .ok (.iconst 2, 1) := by decide +kernel
theorem dX4_rejectWhole_52 : decode cX4_rejectWhole 52 = .ok (.iconst 2, 1) := by decide +kernel
theorem dX4_rejectWhole_53 : decode cX4_rejectWhole 53 = .ok (.invokevirtual 119, 3) := by decide +kernel
theorem dX4_rejectWhole_56 : decode cX4_rejectWhole 56 = .ok (.aload_n 0, 1) := by decide +kernel
theorem dX4_rejectWhole_57 : decode cX4_rejectWhole 57 = .ok (.getfield 30, 3) := by decide +kernel
theorem dX4_rejectWhole_60 : decode cX4_rejectWhole 60 = .ok (.iload_n 1, 1) := by decide +kernel
theorem dX4_rejectWhole_61 : decode cX4_rejectWhole 61 = .ok (.iconst 0, 1) := by decide +kernel
theorem dX4_rejectWhole_62 : decode cX4_rejectWhole 62 = .ok (.invokevirtual 96, 3) := by decide +kernel
theorem dX4_rejectWhole_65 : decode cX4_rejectWhole 65 = .ok (.istore_n 3, 1) := by decide +kernel
theorem dX4_rejectWhole_66 : decode cX4_rejectWhole 66 = .ok (.iload_n 3, 1) := by decide +kernel
theorem dX4_rejectWhole_67 : decode cX4_rejectWhole 67 = .ok (.ifCond .ne 20, 3) := by decide +kernel
theorem dX4_rejectWhole_70 : decode cX4_rejectWhole 70 = .ok (.aload_n 0, 1) := by decide +kernel
theorem dX4_rejectWhole_71 : decode cX4_rejectWhole 71 = .ok (.iconst 0, 1) := by decide +kernel
theorem dX4_rejectWhole_72 : decode cX4_rejectWhole 72 = .ok (.aload_n 0, 1) := by decide +kernel
theorem dX4_rejectWhole_73 : decode cX4_rejectWhole 73 = .ok (.getfield 30, 3) := by decide +kernel
theorem dX4_rejectWhole_76 : decode cX4_rejectWhole 76 = .ok (.iload_n 1, 1) := by decide +kernel
theorem dX4_rejectWhole_77 : decode cX4_rejectWhole 77 = .ok (.iconst 3, 1) := by decide +kernel
theorem dX4_rejectWhole_78 : decode cX4_rejectWhole 78 = .ok (.invokevirtual 96, 3) := by decide +kernel
theorem dX4_rejectWhole_81 : decode cX4_rejectWhole 81 = .ok (.invokevirtual 87, 3) := by decide +kernel
theorem dX4_rejectWhole_84 : decode cX4_rejectWhole 84 = .ok (.goto 22, 3) := by decide +kernel
theorem dX4_rejectWhole_87 : decode cX4_rejectWhole 87 = .ok (.iload_n 3, 1) := by decide +kernel
theorem dX4_rejectWhole_88 : decode cX4_rejectWhole 88 = .ok (.iconst 2, 1) := by decide +kernel
theorem dX4_rejectWhole_89 : decode cX4_rejectWhole 89 = .ok (.if_icmp .ne 17, 3) := by decide +kernel
theorem dX4_rejectWhole_92 : decode cX4_rejectWhole 92 = .ok (.aload_n 0, 1) := by decide +kernel
theorem dX4_rejectWhole_93 : decode cX4_rejectWhole 93 = .ok (.iconst 1, 1) := by decide +kernel
theorem dX4_rejectWhole_94 : decode cX4_rejectWhole 94 = .ok (.aload_n 0, 1) := by decide +kernel
theorem dX4_rejectWhole_95 : decode cX4_rejectWhole 95 = .ok (.getfield 30, 3) := by decide +kernel
theorem dX4_rejectWhole_98 : decode cX4_rejectWhole 98 = .ok (.iload_n 1, 1) := by decide +kernel
theorem dX4_rejectWhole_99 : decode cX4_rejectWhole 99 = .ok (.iconst 4, 1) := by decide +kernel
theorem dX4_rejectWhole_100 : decode cX4_rejectWhole 100 = .ok (.invokevirtual 96, 3) := by decide +kernel
theorem dX4_rejectWhole_103 : decode cX4_rejectWhole 103 = .ok (.invokevirtual 87, 3) := by decide +kernel
theorem dX4_rejectWhole_106 : decode cX4_rejectWhole 106 = .ok (.iload_n 2, 1) := by decide +kernel
theorem dX4_rejectWhole_107 : decode cX4_rejectWhole 107 = .ok (.iconst 1, 1) := by decide +kernel
theorem dX4_rejectWhole_108 : decode cX4_rejectWhole 108 = .ok (.iadd, 1) := by decide +kernel
theorem dX4_rejectWhole_109 : decode cX4_rejectWhole 109 = .ok (.ireturn, 1) := by decide +kernel
theorem dX4_settleAll_0 : decode cX4_settleAll 0 = .ok (.iconst 0, 1) := by decide +kernel
theorem dX4_settleAll_1 : decode cX4_settleAll 1 = .ok (.istore_n 3, 1) := by decide +kernel
theorem dX4_settleAll_2 : decode cX4_settleAll 2 = .ok (.iconst 0, 1) := by decide +kernel
theorem dX4_settleAll_3 : decode cX4_settleAll 3 = .ok (.istore 4, 2) := by decide +kernel
theorem dX4_settleAll_5 : decode cX4_settleAll 5 = .ok (.iload 4, 2) := by decide +kernel
theorem dX4_settleAll_7 : decode cX4_settleAll 7 = .ok (.aload_n 0, 1) := by decide +kernel
theorem dX4_settleAll_8 : decode cX4_settleAll 8 = .ok (.getfield 30, 3) := by decide +kernel
theorem dX4_settleAll_11 : decode cX4_settleAll 11 = .ok (.getfield 128, 3) := by decide +kernel
theorem dX4_settleAll_14 : decode cX4_settleAll 14 = .ok (.if_icmp .ge 74, 3) := by decide +kernel
theorem dX4_settleAll_17 : decode cX4_settleAll 17 = .ok (.iload_n 1, 1) := by decide +kernel
theorem dX4_settleAll_18 : decode cX4_settleAll 18 = .ok (.iconst (-1), 1) := by decide +kernel
theorem dX4_settleAll_19 : decode cX4_settleAll 19 = .ok (.if_icmp .eq 17, 3) := by decide +kernel
theorem dX4_settleAll_22 : decode cX4_settleAll 22 = .ok (.aload_n 0, 1) := by decide +kernel
theorem dX4_settleAll_23 : decode cX4_settleAll 23 = .ok (.getfield 30, 3) := by decide +kernel
theorem dX4_settleAll_26 : decode cX4_settleAll 26 = .ok (.iload 4, 2) := by decide +kernel
theorem dX4_settleAll_28 : decode cX4_settleAll 28 = .ok (.iconst 1, 1) := by decide +kernel
theorem dX4_settleAll_29 : decode cX4_settleAll 29 = .ok (.invokevirtual 96, 3) := by decide +kernel
theorem dX4_settleAll_32 : decode cX4_settleAll 32 = .ok (.iload_n 1, 1) := by decide +kernel
theorem dX4_settleAll_33 : decode cX4_settleAll 33 = .ok (.if_icmp .ne 7, 3) := by decide +kernel
theorem dX4_settleAll_36 : decode cX4_settleAll 36 = .ok (.iconst 1, 1) := by decide +kernel
theorem dX4_settleAll_37 : decode cX4_settleAll 37 = .ok (.goto 4, 3) := by decide +kernel
theorem dX4_settleAll_40 : decode cX4_settleAll 40 = .ok (.iconst 0, 1) := by decide +kernel
theorem dX4_settleAll_41 : decode cX4_settleAll 41 = .ok (.istore 5, 2) := by decide +kernel
theorem dX4_settleAll_43 : decode cX4_settleAll 43 = .ok (.iload 5, 2) := by decide +kernel
theorem dX4_settleAll_45 : decode cX4_settleAll 45 = .ok (.ifCond .eq 37, 3) := by decide +kernel
theorem dX4_settleAll_48 : decode cX4_settleAll 48 = .ok (.aload_n 0, 1) := by decide +kernel
theorem dX4_settleAll_49 : decode cX4_settleAll 49 = .ok (.getfield 30, 3) := by decide +kernel
theorem dX4_settleAll_52 : decode cX4_settleAll 52 = .ok (.iload 4, 2) := by decide +kernel
theorem dX4_settleAll_54 : decode cX4_settleAll 54 = .ok (.invokevirtual 138, 3) := by decide +kernel
theorem dX4_settleAll_57 : decode cX4_settleAll 57 = .ok (.ifCond .eq 25, 3) := by decide +kernel
theorem dX4_settleAll_60 : decode cX4_settleAll 60 = .ok (.iload_n 3, 1) := by decide +kernel
theorem dX4_settleAll_61 : decode cX4_settleAll 61 = .ok (.iload_n 2, 1) := by decide +kernel
theorem dX4_settleAll_62 : decode cX4_settleAll 62 = .ok (.ifCond .eq 12, 3) := by decide +kernel
theorem dX4_settleAll_65 : decode cX4_settleAll 65 = .ok (.aload_n 0, 1) := by decide +kernel
theorem dX4_settleAll_66 : decode cX4_settleAll 66 = .ok (.iload 4, 2) := by decide +kernel
theorem dX4_settleAll_68 : decode cX4_settleAll 68 = .ok (.invokevirtual 141, 3) := by decide +kernel
theorem dX4_settleAll_71 : decode cX4_settleAll 71 = .ok (.goto 9, 3) := by decide +kernel
theorem dX4_settleAll_74 : decode cX4_settleAll 74 = .ok (.aload_n 0, 1) := by decide +kernel
theorem dX4_settleAll_75 : decode cX4_settleAll 75 = .ok (.iload 4, 2) := by decide +kernel
theorem dX4_settleAll_77 : decode cX4_settleAll 77 = .ok (.invokevirtual 144, 3) := by decide +kernel
theorem dX4_settleAll_80 : decode cX4_settleAll 80 = .ok (.iadd, 1) := by decide +kernel
theorem dX4_settleAll_81 : decode cX4_settleAll 81 = .ok (.istore_n 3, 1) := by decide +kernel
theorem dX4_settleAll_82 : decode cX4_settleAll 82 = .ok (.iinc 4 1, 3) := by decide +kernel
theorem dX4_settleAll_85 : decode cX4_settleAll 85 = .ok (.goto (-80), 3) := by decide +kernel
theorem dX4_settleAll_88 : decode cX4_settleAll 88 = .ok (.iload_n 3, 1) := by decide +kernel
theorem dX4_settleAll_89 : decode cX4_settleAll 89 = .ok (.ireturn, 1) := by decide +kernel
theorem dX4_base_0 : decode cX4_base 0 = .ok (.iload_n 1, 1) := by decide +kernel
theorem dX4_base_1 : decode cX4_base 1 = .ok (.ifCond .lt 19, 3) := by decide +kernel
theorem dX4_base_4 : decode cX4_base 4 = .ok (.iload_n 1, 1) := by decide +kernel
theorem dX4_base_5 : decode cX4_base 5 = .ok (.bipush 12, 2) := by decide +kernel
theorem dX4_base_7 : decode cX4_base 7 = .ok (.if_icmp .ge 13, 3) := by decide +kernel
theorem dX4_base_10 : decode cX4_base 10 = .ok (.iload_n 2, 1) := by decide +kernel
theorem dX4_base_11 : decode cX4_base 11 = .ok (.ifCond .lt 9, 3) := by decide +kernel
theorem dX4_base_14 : decode cX4_base 14 = .ok (.iload_n 2, 1) := by decide +kernel
theorem dX4_base_15 : decode cX4_base 15 = .ok (.bipush 8, 2) := by decide +kernel
theorem dX4_base_17 : decode cX4_base 17 = .ok (.if_icmp .lt 5, 3) := by decide +kernel
theorem dX4_base_20 : decode cX4_base 20 = .ok (.iconst 0, 1) := by decide +kernel
theorem dX4_base_21 : decode cX4_base 21 = .ok (.ireturn, 1) := by decide +kernel
theorem dX4_base_22 : decode cX4_base 22 = .ok (.aload_n 0, 1) := by decide +kernel
theorem dX4_base_23 : decode cX4_base 23 = .ok (.getfield 23, 3) := by decide +kernel
theorem dX4_base_26 : decode cX4_base 26 = .ok (.iload_n 1, 1) := by decide +kernel
theorem dX4_base_27 : decode cX4_base 27 = .ok (.bipush 8, 2) := by decide +kernel
theorem dX4_base_29 : decode cX4_base 29 = .ok (.imul, 1) := by decide +kernel
theorem dX4_base_30 : decode cX4_base 30 = .ok (.iload_n 2, 1) := by decide +kernel
theorem dX4_base_31 : decode cX4_base 31 = .ok (.iadd, 1) := by decide +kernel
theorem dX4_base_32 : decode cX4_base 32 = .ok (.iaload, 1) := by decide +kernel
theorem dX4_base_33 : decode cX4_base 33 = .ok (.ireturn, 1) := by decide +kernel
theorem dX4_putBase_0 : decode cX4_putBase 0 = .ok (.iload_n 1, 1) := by decide +kernel
theorem dX4_putBase_1 : decode cX4_putBase 1 = .ok (.ifCond .lt 31, 3) := by decide +kernel
theorem dX4_putBase_4 : decode cX4_putBase 4 = .ok (.iload_n 1, 1) := by decide +kernel
theorem dX4_putBase_5 : decode cX4_putBase 5 = .ok (.bipush 12, 2) := by decide +kernel
theorem dX4_putBase_7 : decode cX4_putBase 7 = .ok (.if_icmp .ge 25, 3) := by decide +kernel
theorem dX4_putBase_10 : decode cX4_putBase 10 = .ok (.iload_n 2, 1) := by decide +kernel
theorem dX4_putBase_11 : decode cX4_putBase 11 = .ok (.ifCond .lt 21, 3) := by decide +kernel
theorem dX4_putBase_14 : decode cX4_putBase 14 = .ok (.iload_n 2, 1) := by decide +kernel
theorem dX4_putBase_15 : decode cX4_putBase 15 = .ok (.bipush 8, 2) := by decide +kernel
theorem dX4_putBase_17 : decode cX4_putBase 17 = .ok (.if_icmp .ge 15, 3) := by decide +kernel
theorem dX4_putBase_20 : decode cX4_putBase 20 = .ok (.aload_n 0, 1) := by decide +kernel
theorem dX4_putBase_21 : decode cX4_putBase 21 = .ok (.getfield 23, 3) := by decide +kernel
theorem dX4_putBase_24 : decode cX4_putBase 24 = .ok (.iload_n 1, 1) := by decide +kernel
theorem dX4_putBase_25 : decode cX4_putBase 25 = .ok (.bipush 8, 2) := by decide +kernel
theorem dX4_putBase_27 : decode cX4_putBase 27 = .ok (.imul, 1) := by decide +kernel
theorem dX4_putBase_28 : decode cX4_putBase 28 = .ok (.iload_n 2, 1) := by decide +kernel
theorem dX4_putBase_29 : decode cX4_putBase 29 = .ok (.iadd, 1) := by decide +kernel
theorem dX4_putBase_30 : decode cX4_putBase 30 = .ok (.iload_n 3, 1) := by decide +kernel
theorem dX4_putBase_31 : decode cX4_putBase 31 = .ok (.iastore, 1) := by decide +kernel
theorem dX4_putBase_32 : decode cX4_putBase 32 = .ok (.return_, 1) := by decide +kernel
theorem dX4_clearCells_0 : decode cX4_clearCells 0 = .ok (.iload_n 1, 1) := by decide +kernel
theorem dX4_clearCells_1 : decode cX4_clearCells 1 = .ok (.ifCond .ne 27, 3) := by decide +kernel
theorem dX4_clearCells_4 : decode cX4_clearCells 4 = .ok (.iconst 0, 1) := by decide +kernel
theorem dX4_clearCells_5 : decode cX4_clearCells 5 = .ok (.istore_n 3, 1) := by decide +kernel
theorem dX4_clearCells_6 : decode cX4_clearCells 6 = .ok (.iload_n 3, 1) := by decide +kernel
theorem dX4_clearCells_7 : decode cX4_clearCells 7 = .ok (.bipush 8, 2) := by decide +kernel
theorem dX4_clearCells_9 : decode cX4_clearCells 9 = .ok (.if_icmp .ge 16, 3) := by decide +kernel
theorem dX4_clearCells_12 : decode cX4_clearCells 12 = .ok (.aload_n 0, 1) := by decide +kernel
theorem dX4_clearCells_13 : decode cX4_clearCells 13 = .ok (.iload_n 2, 1) := by decide +kernel
theorem dX4_clearCells_14 : decode cX4_clearCells 14 = .ok (.iload_n 3, 1) := by decide +kernel
theorem dX4_clearCells_15 : decode cX4_clearCells 15 = .ok (.iconst 0, 1) := by decide +kernel
theorem dX4_clearCells_16 : decode cX4_clearCells 16 = .ok (.invokevirtual 105, 3) := by decide +kernel
theorem dX4_clearCells_19 : decode cX4_clearCells 19 = .ok (.iinc 3 1, 3) := by decide +kernel
theorem dX4_clearCells_22 : decode cX4_clearCells 22 = .ok (.goto (-16), 3) := by decide +kernel
theorem dX4_clearCells_25 : decode cX4_clearCells 25 = .ok (.goto 24, 3) := by decide +kernel
theorem dX4_clearCells_28 : decode cX4_clearCells 28 = .ok (.iconst 0, 1) := by decide +kernel
theorem dX4_clearCells_29 : decode cX4_clearCells 29 = .ok (.istore_n 3, 1) := by decide +kernel
theorem dX4_clearCells_30 : decode cX4_clearCells 30 = .ok (.iload_n 3, 1) := by decide +kernel
theorem dX4_clearCells_31 : decode cX4_clearCells 31 = .ok (.bipush 12, 2) := by decide +kernel
theorem dX4_clearCells_33 : decode cX4_clearCells 33 = .ok (.if_icmp .ge 16, 3) := by decide +kernel
theorem dX4_clearCells_36 : decode cX4_clearCells 36 = .ok (.aload_n 0, 1) := by decide +kernel
theorem dX4_clearCells_37 : decode cX4_clearCells 37 = .ok (.iload_n 3, 1) := by decide +kernel
theorem dX4_clearCells_38 : decode cX4_clearCells 38 = .ok (.iload_n 2, 1) := by decide +kernel
theorem dX4_clearCells_39 : decode cX4_clearCells 39 = .ok (.iconst 0, 1) := by decide +kernel
theorem dX4_clearCells_40 : decode cX4_clearCells 40 = .ok (.invokevirtual 105, 3) := by decide +kernel
theorem dX4_clearCells_43 : decode cX4_clearCells 43 = .ok (.iinc 3 1, 3) := by decide +kernel
theorem dX4_clearCells_46 : decode cX4_clearCells 46 = .ok (.goto (-16), 3) := by decide +kernel
theorem dX4_clearCells_49 : decode cX4_clearCells 49 = .ok (.return_, 1) := by decide +kernel
theorem dX4_valueUnder_0 : decode cX4_valueUnder 0 = .ok (.aload_n 0, 1) := by decide +kernel
theorem dX4_valueUnder_1 : decode cX4_valueUnder 1 = .ok (.getfield 30, 3) := by decide +kernel
theorem dX4_valueUnder_4 : decode cX4_valueUnder 4 = .ok (.iload_n 1, 1) := by decide +kernel
theorem dX4_valueUnder_5 : decode cX4_valueUnder 5 = .ok (.iload_n 2, 1) := by decide +kernel
theorem dX4_valueUnder_6 : decode cX4_valueUnder 6 = .ok (.iload_n 3, 1) := by decide +kernel
theorem dX4_valueUnder_7 : decode cX4_valueUnder 7 = .ok (.invokevirtual 109, 3) := by decide +kernel
theorem dX4_valueUnder_10 : decode cX4_valueUnder 10 = .ok (.istore 4, 2) := by decide +kernel
theorem dX4_valueUnder_12 : decode cX4_valueUnder 12 = .ok (.iload 4, 2) := by decide +kernel
theorem dX4_valueUnder_14 : decode cX4_valueUnder 14 = .ok (.ifCond .ge 12, 3) := by decide +kernel
theorem dX4_valueUnder_17 : decode cX4_valueUnder 17 = .ok (.aload_n 0, 1) := by decide +kernel
theorem dX4_valueUnder_18 : decode cX4_valueUnder 18 = .ok (.iload_n 2, 1) := by decide +kernel
theorem dX4_valueUnder_19 : decode cX4_valueUnder 19 = .ok (.iload_n 3, 1) := by decide +kernel
theorem dX4_valueUnder_20 : decode cX4_valueUnder 20 = .ok (.invokevirtual 147, 3) := by decide +kernel
theorem dX4_valueUnder_23 : decode cX4_valueUnder 23 = .ok (.goto 13, 3) := by decide +kernel
theorem dX4_valueUnder_26 : decode cX4_valueUnder 26 = .ok (.aload_n 0, 1) := by decide +kernel
theorem dX4_valueUnder_27 : decode cX4_valueUnder 27 = .ok (.getfield 30, 3) := by decide +kernel
theorem dX4_valueUnder_30 : decode cX4_valueUnder 30 = .ok (.iload 4, 2) := by decide +kernel
theorem dX4_valueUnder_32 : decode cX4_valueUnder 32 = .ok (.iconst 5, 1) := by decide +kernel
theorem dX4_valueUnder_33 : decode cX4_valueUnder 33 = .ok (.invokevirtual 96, 3) := by decide +kernel
theorem dX4_valueUnder_36 : decode cX4_valueUnder 36 = .ok (.ireturn, 1) := by decide +kernel
theorem dX4_valueBelow_0 : decode cX4_valueBelow 0 = .ok (.aload_n 0, 1) := by decide +kernel
theorem dX4_valueBelow_1 : decode cX4_valueBelow 1 = .ok (.getfield 30, 3) := by decide +kernel
theorem dX4_valueBelow_4 : decode cX4_valueBelow 4 = .ok (.iload_n 1, 1) := by decide +kernel
theorem dX4_valueBelow_5 : decode cX4_valueBelow 5 = .ok (.iconst 0, 1) := by decide +kernel
theorem dX4_valueBelow_6 : decode cX4_valueBelow 6 = .ok (.invokevirtual 96, 3) := by decide +kernel
theorem dX4_valueBelow_9 : decode cX4_valueBelow 9 = .ok (.iconst 4, 1) := by decide +kernel
theorem dX4_valueBelow_10 : decode cX4_valueBelow 10 = .ok (.if_icmp .ne 14, 3) := by decide +kernel
theorem dX4_valueBelow_13 : decode cX4_valueBelow 13 = .ok (.aload_n 0, 1) := by decide +kernel
theorem dX4_valueBelow_14 : decode cX4_valueBelow 14 = .ok (.getfield 30, 3) := by decide +kernel
theorem dX4_valueBelow_17 : decode cX4_valueBelow 17 = .ok (.iload_n 1, 1) := by decide +kernel
theorem dX4_valueBelow_18 : decode cX4_valueBelow 18 = .ok (.invokevirtual 138, 3) := by decide +kernel
theorem dX4_valueBelow_21 : decode cX4_valueBelow 21 = .ok (.ifCond .ne 6, 3) := by decide +kernel
theorem dX4_valueBelow_24 : decode cX4_valueBelow 24 = .ok (.bipush (-5), 2) := by decide +kernel
theorem dX4_valueBelow_26 : decode cX4_valueBelow 26 = .ok (.ireturn, 1) := by decide +kernel
theorem dX4_valueBelow_27 : decode cX4_valueBelow 27 = .ok (.aload_n 0, 1) := by decide +kernel
theorem dX4_valueBelow_28 : decode cX4_valueBelow 28 = .ok (.iload_n 1, 1) := by decide +kernel
theorem dX4_valueBelow_29 : decode cX4_valueBelow 29 = .ok (.aload_n 0, 1) := by decide +kernel
theorem dX4_valueBelow_30 : decode cX4_valueBelow 30 = .ok (.getfield 30, 3) := by decide +kernel
theorem dX4_valueBelow_33 : decode cX4_valueBelow 33 = .ok (.iload_n 1, 1) := by decide +kernel
theorem dX4_valueBelow_34 : decode cX4_valueBelow 34 = .ok (.iconst 3, 1) := by decide +kernel
theorem dX4_valueBelow_35 : decode cX4_valueBelow 35 = .ok (.invokevirtual 96, 3) := by decide +kernel
theorem dX4_valueBelow_38 : decode cX4_valueBelow 38 = .ok (.aload_n 0, 1) := by decide +kernel
theorem dX4_valueBelow_39 : decode cX4_valueBelow 39 = .ok (.getfield 30, 3) := by decide +kernel
theorem dX4_valueBelow_42 : decode cX4_valueBelow 42 = .ok (.iload_n 1, 1) := by decide +kernel
theorem dX4_valueBelow_43 : decode cX4_valueBelow 43 = .ok (.iconst 4, 1) := by decide +kernel
theorem dX4_valueBelow_44 : decode cX4_valueBelow 44 = .ok (.invokevirtual 96, 3) := by decide +kernel
theorem dX4_valueBelow_47 : decode cX4_valueBelow 47 = .ok (.invokevirtual 99, 3) := by decide +kernel
theorem dX4_valueBelow_50 : decode cX4_valueBelow 50 = .ok (.ireturn, 1) := by decide +kernel
theorem dX4_isShown_0 : decode cX4_isShown 0 = .ok (.iload_n 1, 1) := by decide +kernel
theorem dX4_isShown_1 : decode cX4_isShown 1 = .ok (.tableswitch 65 0 2 #[27, 29, 47], 27) := by decide +kernel
theorem dX4_isShown_28 : decode cX4_isShown 28 = .ok (.iconst 1, 1) := by decide +kernel
theorem dX4_isShown_29 : decode cX4_isShown 29 = .ok (.ireturn, 1) := by decide +kernel
theorem dX4_isShown_30 : decode cX4_isShown 30 = .ok (.aload_n 0, 1) := by decide +kernel
theorem dX4_isShown_31 : decode cX4_isShown 31 = .ok (.getfield 30, 3) := by decide +kernel
theorem dX4_isShown_34 : decode cX4_isShown 34 = .ok (.iload_n 2, 1) := by decide +kernel
theorem dX4_isShown_35 : decode cX4_isShown 35 = .ok (.iload_n 3, 1) := by decide +kernel
theorem dX4_isShown_36 : decode cX4_isShown 36 = .ok (.invokevirtual 90, 3) := by decide +kernel
theorem dX4_isShown_39 : decode cX4_isShown 39 = .ok (.ifCond .ge 7, 3) := by decide +kernel
theorem dX4_isShown_42 : decode cX4_isShown 42 = .ok (.iconst 1, 1) := by decide +kernel
theorem dX4_isShown_43 : decode cX4_isShown 43 = .ok (.goto 4, 3) := by decide +kernel
theorem dX4_isShown_46 : decode cX4_isShown 46 = .ok (.iconst 0, 1) := by decide +kernel
theorem dX4_isShown_47 : decode cX4_isShown 47 = .ok (.ireturn, 1) := by decide +kernel
theorem dX4_isShown_48 : decode cX4_isShown 48 = .ok (.aload_n 0, 1) := by decide +kernel
theorem dX4_isShown_49 : decode cX4_isShown 49 = .ok (.getfield 30, 3) := by decide +kernel
theorem dX4_isShown_52 : decode cX4_isShown 52 = .ok (.iload_n 2, 1) := by decide +kernel
theorem dX4_isShown_53 : decode cX4_isShown 53 = .ok (.iload_n 3, 1) := by decide +kernel
theorem dX4_isShown_54 : decode cX4_isShown 54 = .ok (.invokevirtual 93, 3) := by decide +kernel
theorem dX4_isShown_57 : decode cX4_isShown 57 = .ok (.ifCond .ge 7, 3) := by decide +kernel
theorem dX4_isShown_60 : decode cX4_isShown 60 = .ok (.iconst 1, 1) := by decide +kernel
theorem dX4_isShown_61 : decode cX4_isShown 61 = .ok (.goto 4, 3) := by decide +kernel
theorem dX4_isShown_64 : decode cX4_isShown 64 = .ok (.iconst 0, 1) := by decide +kernel
theorem dX4_isShown_65 : decode cX4_isShown 65 = .ok (.ireturn, 1) := by decide +kernel
theorem dX4_isShown_66 : decode cX4_isShown 66 = .ok (.iconst 0, 1) := by decide +kernel
theorem dX4_isShown_67 : decode cX4_isShown 67 = .ok (.ireturn, 1) := by decide +kernel
theorem dX4_shownLines_0 : decode cX4_shownLines 0 = .ok (.aload_n 0, 1) := by decide +kernel
theorem dX4_shownLines_1 : decode cX4_shownLines 1 = .ok (.iload_n 2, 1) := by decide +kernel
theorem dX4_shownLines_2 : decode cX4_shownLines 2 = .ok (.invokevirtual 53, 3) := by decide +kernel
theorem dX4_shownLines_5 : decode cX4_shownLines 5 = .ok (.astore_n 3, 1) := by decide +kernel
theorem dX4_shownLines_6 : decode cX4_shownLines 6 = .ok (.iconst 0, 1) := by decide +kernel
theorem dX4_shownLines_7 : decode cX4_shownLines 7 = .ok (.istore 4, 2) := by decide +kernel
theorem dX4_shownLines_9 : decode cX4_shownLines 9 = .ok (.iconst 0, 1) := by decide +kernel
theorem dX4_shownLines_10 : decode cX4_shownLines 10 = .ok (.istore 5, 2) := by decide +kernel
theorem dX4_shownLines_12 : decode cX4_shownLines 12 = .ok (.iload 5, 2) := by decide +kernel
theorem dX4_shownLines_14 : decode cX4_shownLines 14 = .ok (.aload_n 3, 1) := by decide +kernel
theorem dX4_shownLines_15 : decode cX4_shownLines 15 = .ok (.getfield 64, 3) := by decide +kernel
theorem dX4_shownLines_18 : decode cX4_shownLines 18 = .ok (.if_icmp .ge 27, 3) := by decide +kernel
theorem dX4_shownLines_21 : decode cX4_shownLines 21 = .ok (.aload_n 0, 1) := by decide +kernel
theorem dX4_shownLines_22 : decode cX4_shownLines 22 = .ok (.iload_n 1, 1) := by decide +kernel
theorem dX4_shownLines_23 : decode cX4_shownLines 23 = .ok (.iload_n 2, 1) := by decide +kernel
theorem dX4_shownLines_24 : decode cX4_shownLines 24 = .ok (.aload_n 3, 1) := by decide +kernel
theorem dX4_shownLines_25 : decode cX4_shownLines 25 = .ok (.iload 5, 2) := by decide +kernel
theorem dX4_shownLines_27 : decode cX4_shownLines 27 = .ok (.invokevirtual 57, 3) := by decide +kernel
theorem dX4_shownLines_30 : decode cX4_shownLines 30 = .ok (.invokevirtual 150, 3) := by decide +kernel
theorem dX4_shownLines_33 : decode cX4_shownLines 33 = .ok (.ifCond .eq 6, 3) := by decide +kernel
theorem dX4_shownLines_36 : decode cX4_shownLines 36 = .ok (.iinc 4 1, 3) := by decide +kernel
theorem dX4_shownLines_39 : decode cX4_shownLines 39 = .ok (.iinc 5 1, 3) := by decide +kernel
theorem dX4_shownLines_42 : decode cX4_shownLines 42 = .ok (.goto (-30), 3) := by decide +kernel
theorem dX4_shownLines_45 : decode cX4_shownLines 45 = .ok (.iload 4, 2) := by decide +kernel
theorem dX4_shownLines_47 : decode cX4_shownLines 47 = .ok (.ireturn, 1) := by decide +kernel
theorem dX4_slotInView_0 : decode cX4_slotInView 0 = .ok (.aload_n 0, 1) := by decide +kernel
theorem dX4_slotInView_1 : decode cX4_slotInView 1 = .ok (.iload_n 2, 1) := by decide +kernel
theorem dX4_slotInView_2 : decode cX4_slotInView 2 = .ok (.invokevirtual 53, 3) := by decide +kernel
theorem dX4_slotInView_5 : decode cX4_slotInView 5 = .ok (.astore 4, 2) := by decide +kernel
theorem dX4_slotInView_7 : decode cX4_slotInView 7 = .ok (.iconst 0, 1) := by decide +kernel
theorem dX4_slotInView_8 : decode cX4_slotInView 8 = .ok (.istore 5, 2) := by decide +kernel
theorem dX4_slotInView_10 : decode cX4_slotInView 10 = .ok (.iconst 0, 1) := by decide +kernel
theorem dX4_slotInView_11 : decode cX4_slotInView 11 = .ok (.istore 6, 2) := by decide +kernel
theorem dX4_slotInView_13 : decode cX4_slotInView 13 = .ok (.iload 6, 2) := by decide +kernel
theorem dX4_slotInView_15 : decode cX4_slotInView 15 = .ok (.aload 4, 2) := by decide +kernel
theorem dX4_slotInView_17 : decode cX4_slotInView 17 = .ok (.getfield 64, 3) := by decide +kernel
theorem dX4_slotInView_20 : decode cX4_slotInView 20 = .ok (.if_icmp .ge 41, 3) := by decide +kernel
theorem dX4_slotInView_23 : decode cX4_slotInView 23 = .ok (.aload 4, 2) := by decide +kernel
theorem dX4_slotInView_25 : decode cX4_slotInView 25 = .ok (.iload 6, 2) := by decide +kernel
theorem dX4_slotInView_27 : decode cX4_slotInView 27 = .ok (.invokevirtual 57, 3) := by decide +kernel
theorem dX4_slotInView_30 : decode cX4_slotInView 30 = .ok (.istore 7, 2) := by decide +kernel
theorem dX4_slotInView_32 : decode cX4_slotInView 32 = .ok (.aload_n 0, 1) := by decide +kernel
theorem dX4_slotInView_33 : decode cX4_slotInView 33 = .ok (.iload_n 1, 1) := by decide +kernel
theorem dX4_slotInView_34 : decode cX4_slotInView 34 = .ok (.iload_n 2, 1) := by decide +kernel
theorem dX4_slotInView_35 : decode cX4_slotInView 35 = .ok (.iload 7, 2) := by decide +kernel
theorem dX4_slotInView_37 : decode cX4_slotInView 37 = .ok (.invokevirtual 150, 3) := by decide +kernel
theorem dX4_slotInView_40 : decode cX4_slotInView 40 = .ok (.ifCond .eq 15, 3) := by decide +kernel
theorem dX4_slotInView_43 : decode cX4_slotInView 43 = .ok (.iload 5, 2) := by decide +kernel
theorem dX4_slotInView_45 : decode cX4_slotInView 45 = .ok (.iload_n 3, 1) := by decide +kernel
theorem dX4_slotInView_46 : decode cX4_slotInView 46 = .ok (.if_icmp .ne 6, 3) := by decide +kernel
theorem dX4_slotInView_49 : decode cX4_slotInView 49 = .ok (.iload 7, 2) := by decide +kernel
theorem dX4_slotInView_51 : decode cX4_slotInView 51 = .ok (.ireturn, 1) := by decide +kernel
theorem dX4_slotInView_52 : decode cX4_slotInView 52 = .ok (.iinc 5 1, 3) := by decide +kernel
theorem dX4_slotInView_55 : decode cX4_slotInView 55 = .ok (.iinc 6 1, 3) := by decide +kernel
theorem dX4_slotInView_58 : decode cX4_slotInView 58 = .ok (.goto (-45), 3) := by decide +kernel
theorem dX4_slotInView_61 : decode cX4_slotInView 61 = .ok (.bipush (-5), 2) := by decide +kernel
theorem dX4_slotInView_63 : decode cX4_slotInView 63 = .ok (.ireturn, 1) := by decide +kernel
theorem dX4_placeInView_0 : decode cX4_placeInView 0 = .ok (.aload_n 0, 1) := by decide +kernel
theorem dX4_placeInView_1 : decode cX4_placeInView 1 = .ok (.iload_n 2, 1) := by decide +kernel
theorem dX4_placeInView_2 : decode cX4_placeInView 2 = .ok (.invokevirtual 53, 3) := by decide +kernel
theorem dX4_placeInView_5 : decode cX4_placeInView 5 = .ok (.astore 4, 2) := by decide +kernel
theorem dX4_placeInView_7 : decode cX4_placeInView 7 = .ok (.iconst 0, 1) := by decide +kernel
theorem dX4_placeInView_8 : decode cX4_placeInView 8 = .ok (.istore 5, 2) := by decide +kernel
theorem dX4_placeInView_10 : decode cX4_placeInView 10 = .ok (.iconst 0, 1) := by decide +kernel
theorem dX4_placeInView_11 : decode cX4_placeInView 11 = .ok (.istore 6, 2) := by decide +kernel
theorem dX4_placeInView_13 : decode cX4_placeInView 13 = .ok (.iload 6, 2) := by decide +kernel
theorem dX4_placeInView_15 : decode cX4_placeInView 15 = .ok (.aload 4, 2) := by decide +kernel
theorem dX4_placeInView_17 : decode cX4_placeInView 17 = .ok (.getfield 64, 3) := by decide +kernel
theorem dX4_placeInView_20 : decode cX4_placeInView 20 = .ok (.if_icmp .ge 55, 3) := by decide +kernel
theorem dX4_placeInView_23 : decode cX4_placeInView 23 = .ok (.aload 4, 2) := by decide +kernel
theorem dX4_placeInView_25 : decode cX4_placeInView 25 = .ok (.iload 6, 2) := by decide +kernel
theorem dX4_placeInView_27 : decode cX4_placeInView 27 = .ok (.invokevirtual 57, 3) := by decide +kernel
theorem dX4_placeInView_30 : decode cX4_placeInView 30 = .ok (.istore 7, 2) := by decide +kernel
theorem dX4_placeInView_32 : decode cX4_placeInView 32 = .ok (.aload_n 0, 1) := by decide +kernel
theorem dX4_placeInView_33 : decode cX4_placeInView 33 = .ok (.iload_n 1, 1) := by decide +kernel
theorem dX4_placeInView_34 : decode cX4_placeInView 34 = .ok (.iload_n 2, 1) := by decide +kernel
theorem dX4_placeInView_35 : decode cX4_placeInView 35 = .ok (.iload 7, 2) := by decide +kernel
theorem dX4_placeInView_37 : decode cX4_placeInView 37 = .ok (.invokevirtual 150, 3) := by decide +kernel
theorem dX4_placeInView_40 : decode cX4_placeInView 40 = .ok (.istore 8, 2) := by decide +kernel
theorem dX4_placeInView_42 : decode cX4_placeInView 42 = .ok (.iload 7, 2) := by decide +kernel
theorem dX4_placeInView_44 : decode cX4_placeInView 44 = .ok (.iload_n 3, 1) := by decide +kernel
theorem dX4_placeInView_45 : decode cX4_placeInView 45 = .ok (.if_icmp .ne 16, 3) := by decide +kernel
theorem dX4_placeInView_48 : decode cX4_placeInView 48 = .ok (.iload 8, 2) := by decide +kernel
theorem dX4_placeInView_50 : decode cX4_placeInView 50 = .ok (.ifCond .eq 8, 3) := by decide +kernel
theorem dX4_placeInView_53 : decode cX4_placeInView 53 = .ok (.iload 5, 2) := by decide +kernel
theorem dX4_placeInView_55 : decode cX4_placeInView 55 = .ok (.goto 5, 3) := by decide +kernel
theorem dX4_placeInView_58 : decode cX4_placeInView 58 = .ok (.bipush (-5), 2) := by decide +kernel
theorem dX4_placeInView_60 : decode cX4_placeInView 60 = .ok (.ireturn, 1) := by decide +kernel
theorem dX4_placeInView_61 : decode cX4_placeInView 61 = .ok (.iload 8, 2) := by decide +kernel
theorem dX4_placeInView_63 : decode cX4_placeInView 63 = .ok (.ifCond .eq 6, 3) := by decide +kernel
theorem dX4_placeInView_66 : decode cX4_placeInView 66 = .ok (.iinc 5 1, 3) := by decide +kernel
theorem dX4_placeInView_69 : decode cX4_placeInView 69 = .ok (.iinc 6 1, 3) := by decide +kernel
theorem dX4_placeInView_72 : decode cX4_placeInView 72 = .ok (.goto (-59), 3) := by decide +kernel
theorem dX4_placeInView_75 : decode cX4_placeInView 75 = .ok (.bipush (-5), 2) := by decide +kernel
theorem dX4_placeInView_77 : decode cX4_placeInView 77 = .ok (.ireturn, 1) := by decide +kernel
theorem dX4_valueInView_0 : decode cX4_valueInView 0 = .ok (.iload_n 1, 1) := by decide +kernel
theorem dX4_valueInView_1 : decode cX4_valueInView 1 = .ok (.iconst 2, 1) := by decide +kernel
theorem dX4_valueInView_2 : decode cX4_valueInView 2 = .ok (.if_icmp .ne 12, 3) := by decide +kernel
theorem dX4_valueInView_5 : decode cX4_valueInView 5 = .ok (.aload_n 0, 1) := by decide +kernel
theorem dX4_valueInView_6 : decode cX4_valueInView 6 = .ok (.iload_n 2, 1) := by decide +kernel
theorem dX4_valueInView_7 : decode cX4_valueInView 7 = .ok (.iload_n 3, 1) := by decide +kernel
theorem dX4_valueInView_8 : decode cX4_valueInView 8 = .ok (.invokevirtual 147, 3) := by decide +kernel
theorem dX4_valueInView_11 : decode cX4_valueInView 11 = .ok (.goto 11, 3) := by decide +kernel
theorem dX4_valueInView_14 : decode cX4_valueInView 14 = .ok (.aload_n 0, 1) := by decide +kernel
theorem dX4_valueInView_15 : decode cX4_valueInView 15 = .ok (.bipush 60, 2) := by decide +kernel
theorem dX4_valueInView_17 : decode cX4_valueInView 17 = .ok (.iload_n 2, 1) := by decide +kernel
theorem dX4_valueInView_18 : decode cX4_valueInView 18 = .ok (.iload_n 3, 1) := by decide +kernel
theorem dX4_valueInView_19 : decode cX4_valueInView 19 = .ok (.invokevirtual 99, 3) := by decide +kernel
theorem dX4_valueInView_22 : decode cX4_valueInView 22 = .ok (.ireturn, 1) := by decide +kernel
theorem dX4_total_0 : decode cX4_total 0 = .ok (.iconst 0, 1) := by decide +kernel
theorem dX4_total_1 : decode cX4_total 1 = .ok (.istore_n 2, 1) := by decide +kernel
theorem dX4_total_2 : decode cX4_total 2 = .ok (.iconst 0, 1) := by decide +kernel
theorem dX4_total_3 : decode cX4_total 3 = .ok (.istore_n 3, 1) := by decide +kernel
theorem dX4_total_4 : decode cX4_total 4 = .ok (.iload_n 3, 1) := by decide +kernel
theorem dX4_total_5 : decode cX4_total 5 = .ok (.aload_n 0, 1) := by decide +kernel
theorem dX4_total_6 : decode cX4_total 6 = .ok (.getfield 14, 3) := by decide +kernel
theorem dX4_total_9 : decode cX4_total 9 = .ok (.getfield 64, 3) := by decide +kernel
theorem dX4_total_12 : decode cX4_total 12 = .ok (.if_icmp .ge 40, 3) := by decide +kernel
theorem dX4_total_15 : decode cX4_total 15 = .ok (.aload_n 0, 1) := by decide +kernel
theorem dX4_total_16 : decode cX4_total 16 = .ok (.getfield 14, 3) := by decide +kernel
theorem dX4_total_19 : decode cX4_total 19 = .ok (.iload_n 3, 1) := by decide +kernel
theorem dX4_total_20 : decode cX4_total 20 = .ok (.invokevirtual 57, 3) := by decide +kernel
theorem dX4_total_23 : decode cX4_total 23 = .ok (.istore 4, 2) := by decide +kernel
theorem dX4_total_25 : decode cX4_total 25 = .ok (.aload_n 0, 1) := by decide +kernel
theorem dX4_total_26 : decode cX4_total 26 = .ok (.iload_n 1, 1) := by decide +kernel
theorem dX4_total_27 : decode cX4_total 27 = .ok (.iconst 0, 1) := by decide +kernel
theorem dX4_total_28 : decode cX4_total 28 = .ok (.iload 4, 2) := by decide +kernel
theorem dX4_total_30 : decode cX4_total 30 = .ok (.invokevirtual 150, 3) := by decide +kernel
theorem dX4_total_33 : decode cX4_total 33 = .ok (.ifCond .eq 13, 3) := by decide +kernel
theorem dX4_total_36 : decode cX4_total 36 = .ok (.iload_n 2, 1) := by decide +kernel
theorem dX4_total_37 : decode cX4_total 37 = .ok (.aload_n 0, 1) := by decide +kernel
theorem dX4_total_38 : decode cX4_total 38 = .ok (.iload_n 1, 1) := by decide +kernel
theorem dX4_total_39 : decode cX4_total 39 = .ok (.iload 4, 2) := by decide +kernel
theorem dX4_total_41 : decode cX4_total 41 = .ok (.invokevirtual 154, 3) := by decide +kernel
theorem dX4_total_44 : decode cX4_total 44 = .ok (.iadd, 1) := by decide +kernel
theorem dX4_total_45 : decode cX4_total 45 = .ok (.istore_n 2, 1) := by decide +kernel
theorem dX4_total_46 : decode cX4_total 46 = .ok (.iinc 3 1, 3) := by decide +kernel
theorem dX4_total_49 : decode cX4_total 49 = .ok (.goto (-45), 3) := by decide +kernel
theorem dX4_total_52 : decode cX4_total 52 = .ok (.iload_n 2, 1) := by decide +kernel
theorem dX4_total_53 : decode cX4_total 53 = .ok (.ireturn, 1) := by decide +kernel
theorem dX4_totalOfRow_0 : decode cX4_totalOfRow 0 = .ok (.iconst 0, 1) := by decide +kernel
theorem dX4_totalOfRow_1 : decode cX4_totalOfRow 1 = .ok (.istore_n 3, 1) := by decide +kernel
theorem dX4_totalOfRow_2 : decode cX4_totalOfRow 2 = .ok (.iconst 0, 1) := by decide +kernel
theorem dX4_totalOfRow_3 : decode cX4_totalOfRow 3 = .ok (.istore 4, 2) := by decide +kernel
theorem dX4_totalOfRow_5 : decode cX4_totalOfRow 5 = .ok (.iload 4, 2) := by decide +kernel
theorem dX4_totalOfRow_7 : decode cX4_totalOfRow 7 = .ok (.aload_n 0, 1) := by decide +kernel
theorem dX4_totalOfRow_8 : decode cX4_totalOfRow 8 = .ok (.getfield 20, 3) := by decide +kernel
theorem dX4_totalOfRow_11 : decode cX4_totalOfRow 11 = .ok (.getfield 64, 3) := by decide +kernel
theorem dX4_totalOfRow_14 : decode cX4_totalOfRow 14 = .ok (.if_icmp .ge 42, 3) := by decide +kernel
theorem dX4_totalOfRow_17 : decode cX4_totalOfRow 17 = .ok (.aload_n 0, 1) := by decide +kernel
theorem dX4_totalOfRow_18 : decode cX4_totalOfRow 18 = .ok (.getfield 20, 3) := by decide +kernel
theorem dX4_totalOfRow_21 : decode cX4_totalOfRow 21 = .ok (.iload 4, 2) := by decide +kernel
theorem dX4_totalOfRow_23 : decode cX4_totalOfRow 23 = .ok (.invokevirtual 57, 3) := by decide +kernel
theorem dX4_totalOfRow_26 : decode cX4_totalOfRow 26 = .ok (.istore 5, 2) := by decide +kernel
theorem dX4_totalOfRow_28 : decode cX4_totalOfRow 28 = .ok (.aload_n 0, 1) := by decide +kernel
theorem dX4_totalOfRow_29 : decode cX4_totalOfRow 29 = .ok (.iload_n 1, 1) := by decide +kernel
theorem dX4_totalOfRow_30 : decode cX4_totalOfRow 30 = .ok (.iconst 1, 1) := by decide +kernel
theorem dX4_totalOfRow_31 : decode cX4_totalOfRow 31 = .ok (.iload 5, 2) := by decide +kernel
theorem dX4_totalOfRow_33 : decode cX4_totalOfRow 33 = .ok (.invokevirtual 150, 3) := by decide +kernel
theorem dX4_totalOfRow_36 : decode cX4_totalOfRow 36 = .ok (.ifCond .eq 14, 3) := by decide +kernel
theorem dX4_totalOfRow_39 : decode cX4_totalOfRow 39 = .ok (.iload_n 3, 1) := by decide +kernel
theorem dX4_totalOfRow_40 : decode cX4_totalOfRow 40 = .ok (.aload_n 0, 1) := by decide +kernel
theorem dX4_totalOfRow_41 : decode cX4_totalOfRow 41 = .ok (.iload_n 1, 1) := by decide +kernel
theorem dX4_totalOfRow_42 : decode cX4_totalOfRow 42 = .ok (.iload_n 2, 1) := by decide +kernel
theorem dX4_totalOfRow_43 : decode cX4_totalOfRow 43 = .ok (.iload 5, 2) := by decide +kernel
theorem dX4_totalOfRow_45 : decode cX4_totalOfRow 45 = .ok (.invokevirtual 157, 3) := by decide +kernel
theorem dX4_totalOfRow_48 : decode cX4_totalOfRow 48 = .ok (.iadd, 1) := by decide +kernel
theorem dX4_totalOfRow_49 : decode cX4_totalOfRow 49 = .ok (.istore_n 3, 1) := by decide +kernel
theorem dX4_totalOfRow_50 : decode cX4_totalOfRow 50 = .ok (.iinc 4 1, 3) := by decide +kernel
theorem dX4_totalOfRow_53 : decode cX4_totalOfRow 53 = .ok (.goto (-48), 3) := by decide +kernel
theorem dX4_totalOfRow_56 : decode cX4_totalOfRow 56 = .ok (.iload_n 3, 1) := by decide +kernel
theorem dX4_totalOfRow_57 : decode cX4_totalOfRow 57 = .ok (.ireturn, 1) := by decide +kernel
theorem dX4_pendingInReadingOrder_0 : decode cX4_pendingInReadingOrder 0 = .ok (.aload_n 0, 1) := by decide +kernel
theorem dX4_pendingInReadingOrder_1 : decode cX4_pendingInReadingOrder 1 = .ok (.iconst 0, 1) := by decide +kernel
theorem dX4_pendingInReadingOrder_2 : decode cX4_pendingInReadingOrder 2 = .ok (.invokevirtual 160, 3) := by decide +kernel
theorem dX4_pendingInReadingOrder_5 : decode cX4_pendingInReadingOrder 5 = .ok (.istore_n 2, 1) := by decide +kernel
theorem dX4_pendingInReadingOrder_6 : decode cX4_pendingInReadingOrder 6 = .ok (.aload_n 0, 1) := by decide +kernel
theorem dX4_pendingInReadingOrder_7 : decode cX4_pendingInReadingOrder 7 = .ok (.iconst 1, 1) := by decide +kernel
theorem dX4_pendingInReadingOrder_8 : decode cX4_pendingInReadingOrder 8 = .ok (.invokevirtual 160, 3) := by decide +kernel
theorem dX4_pendingInReadingOrder_11 : decode cX4_pendingInReadingOrder 11 = .ok (.istore_n 3, 1) := by decide +kernel
theorem dX4_pendingInReadingOrder_12 : decode cX4_pendingInReadingOrder 12 = .ok (.iload_n 1, 1) := by decide +kernel
theorem dX4_pendingInReadingOrder_13 : decode cX4_pendingInReadingOrder 13 = .ok (.iload_n 2, 1) := by decide +kernel
theorem dX4_pendingInReadingOrder_14 : decode cX4_pendingInReadingOrder 14 = .ok (.if_icmp .ge 10, 3) := by decide +kernel
theorem dX4_pendingInReadingOrder_17 : decode cX4_pendingInReadingOrder 17 = .ok (.aload_n 0, 1) := by decide +kernel
theorem dX4_pendingInReadingOrder_18 : decode cX4_pendingInReadingOrder 18 = .ok (.iconst 0, 1) := by decide +kernel
theorem dX4_pendingInReadingOrder_19 : decode cX4_pendingInReadingOrder 19 = .ok (.iload_n 1, 1) := by decide +kernel
theorem dX4_pendingInReadingOrder_20 : decode cX4_pendingInReadingOrder 20 = .ok (.invokevirtual 163, 3) := by decide +kernel
theorem dX4_pendingInReadingOrder_23 : decode cX4_pendingInReadingOrder 23 = .ok (.ireturn, 1) := by decide +kernel
theorem dX4_pendingInReadingOrder_24 : decode cX4_pendingInReadingOrder 24 = .ok (.iload_n 1, 1) := by decide +kernel
theorem dX4_pendingInReadingOrder_25 : decode cX4_pendingInReadingOrder 25 = .ok (.iload_n 2, 1) := by decide +kernel
theorem dX4_pendingInReadingOrder_26 : decode cX4_pendingInReadingOrder 26 = .ok (.iload_n 3, 1) := by decide +kernel
theorem dX4_pendingInReadingOrder_27 : decode cX4_pendingInReadingOrder 27 = .ok (.iadd, 1) := by decide +kernel
theorem dX4_pendingInReadingOrder_28 : decode cX4_pendingInReadingOrder 28 = .ok (.if_icmp .ge 12, 3) := by decide +kernel
theorem dX4_pendingInReadingOrder_31 : decode cX4_pendingInReadingOrder 31 = .ok (.aload_n 0, 1) := by decide +kernel
theorem dX4_pendingInReadingOrder_32 : decode cX4_pendingInReadingOrder 32 = .ok (.iconst 1, 1) := by decide +kernel
theorem dX4_pendingInReadingOrder_33 : decode cX4_pendingInReadingOrder 33 = .ok (.iload_n 1, 1) := by decide +kernel
theorem dX4_pendingInReadingOrder_34 : decode cX4_pendingInReadingOrder 34 = .ok (.iload_n 2, 1) := by decide +kernel
theorem dX4_pendingInReadingOrder_35 : decode cX4_pendingInReadingOrder 35 = .ok (.isub, 1) := by decide +kernel
theorem dX4_pendingInReadingOrder_36 : decode cX4_pendingInReadingOrder 36 = .ok (.invokevirtual 163, 3) := by decide +kernel
theorem dX4_pendingInReadingOrder_39 : decode cX4_pendingInReadingOrder 39 = .ok (.ireturn, 1) := by decide +kernel
theorem dX4_pendingInReadingOrder_40 : decode cX4_pendingInReadingOrder 40 = .ok (.aload_n 0, 1) := by decide +kernel
theorem dX4_pendingInReadingOrder_41 : decode cX4_pendingInReadingOrder 41 = .ok (.iload_n 1, 1) := by decide +kernel
theorem dX4_pendingInReadingOrder_42 : decode cX4_pendingInReadingOrder 42 = .ok (.iload_n 2, 1) := by decide +kernel
theorem dX4_pendingInReadingOrder_43 : decode cX4_pendingInReadingOrder 43 = .ok (.isub, 1) := by decide +kernel
theorem dX4_pendingInReadingOrder_44 : decode cX4_pendingInReadingOrder 44 = .ok (.iload_n 3, 1) := by decide +kernel
theorem dX4_pendingInReadingOrder_45 : decode cX4_pendingInReadingOrder 45 = .ok (.isub, 1) := by decide +kernel
theorem dX4_pendingInReadingOrder_46 : decode cX4_pendingInReadingOrder 46 = .ok (.invokevirtual 166, 3) := by decide +kernel
theorem dX4_pendingInReadingOrder_49 : decode cX4_pendingInReadingOrder 49 = .ok (.ireturn, 1) := by decide +kernel
theorem dX4_lineChanges_0 : decode cX4_lineChanges 0 = .ok (.iload_n 1, 1) := by decide +kernel
theorem dX4_lineChanges_1 : decode cX4_lineChanges 1 = .ok (.ifCond .ne 21, 3) := by decide +kernel
theorem dX4_lineChanges_4 : decode cX4_lineChanges 4 = .ok (.aload_n 0, 1) := by decide +kernel
theorem dX4_lineChanges_5 : decode cX4_lineChanges 5 = .ok (.getfield 30, 3) := by decide +kernel
theorem dX4_lineChanges_8 : decode cX4_lineChanges 8 = .ok (.iconst 0, 1) := by decide +kernel
theorem dX4_lineChanges_9 : decode cX4_lineChanges 9 = .ok (.invokevirtual 169, 3) := by decide +kernel
theorem dX4_lineChanges_12 : decode cX4_lineChanges 12 = .ok (.aload_n 0, 1) := by decide +kernel
theorem dX4_lineChanges_13 : decode cX4_lineChanges 13 = .ok (.getfield 30, 3) := by decide +kernel
theorem dX4_lineChanges_16 : decode cX4_lineChanges 16 = .ok (.iconst 1, 1) := by decide +kernel
theorem dX4_lineChanges_17 : decode cX4_lineChanges 17 = .ok (.invokevirtual 169, 3) := by decide +kernel
theorem dX4_lineChanges_20 : decode cX4_lineChanges 20 = .ok (.iadd, 1) := by decide +kernel
theorem dX4_lineChanges_21 : decode cX4_lineChanges 21 = .ok (.ireturn, 1) := by decide +kernel
theorem dX4_lineChanges_22 : decode cX4_lineChanges 22 = .ok (.aload_n 0, 1) := by decide +kernel
theorem dX4_lineChanges_23 : decode cX4_lineChanges 23 = .ok (.getfield 30, 3) := by decide +kernel
theorem dX4_lineChanges_26 : decode cX4_lineChanges 26 = .ok (.iconst 2, 1) := by decide +kernel
theorem dX4_lineChanges_27 : decode cX4_lineChanges 27 = .ok (.invokevirtual 169, 3) := by decide +kernel
theorem dX4_lineChanges_30 : decode cX4_lineChanges 30 = .ok (.aload_n 0, 1) := by decide +kernel
theorem dX4_lineChanges_31 : decode cX4_lineChanges 31 = .ok (.getfield 30, 3) := by decide +kernel
theorem dX4_lineChanges_34 : decode cX4_lineChanges 34 = .ok (.iconst 3, 1) := by decide +kernel
theorem dX4_lineChanges_35 : decode cX4_lineChanges 35 = .ok (.invokevirtual 169, 3) := by decide +kernel
theorem dX4_lineChanges_38 : decode cX4_lineChanges 38 = .ok (.iadd, 1) := by decide +kernel
theorem dX4_lineChanges_39 : decode cX4_lineChanges 39 = .ok (.ireturn, 1) := by decide +kernel
theorem dX4_lineChangeAt_0 : decode cX4_lineChangeAt 0 = .ok (.aload_n 0, 1) := by decide +kernel
theorem dX4_lineChangeAt_1 : decode cX4_lineChangeAt 1 = .ok (.iload_n 1, 1) := by decide +kernel
theorem dX4_lineChangeAt_2 : decode cX4_lineChangeAt 2 = .ok (.invokevirtual 53, 3) := by decide +kernel
theorem dX4_lineChangeAt_5 : decode cX4_lineChangeAt 5 = .ok (.astore_n 3, 1) := by decide +kernel
theorem dX4_lineChangeAt_6 : decode cX4_lineChangeAt 6 = .ok (.iload_n 2, 1) := by decide +kernel
theorem dX4_lineChangeAt_7 : decode cX4_lineChangeAt 7 = .ok (.istore 4, 2) := by decide +kernel
theorem dX4_lineChangeAt_9 : decode cX4_lineChangeAt 9 = .ok (.iconst 0, 1) := by decide +kernel
theorem dX4_lineChangeAt_10 : decode cX4_lineChangeAt 10 = .ok (.istore 5, 2) := by decide +kernel
theorem dX4_lineChangeAt_12 : decode cX4_lineChangeAt 12 = .ok (.iload 5, 2) := by decide +kernel
theorem dX4_lineChangeAt_14 : decode cX4_lineChangeAt 14 = .ok (.aload_n 3, 1) := by decide +kernel
theorem dX4_lineChangeAt_15 : decode cX4_lineChangeAt 15 = .ok (.getfield 64, 3) := by decide +kernel
theorem dX4_lineChangeAt_18 : decode cX4_lineChangeAt 18 = .ok (.if_icmp .ge 73, 3) := by decide +kernel
theorem dX4_lineChangeAt_21 : decode cX4_lineChangeAt 21 = .ok (.aload_n 3, 1) := by decide +kernel
theorem dX4_lineChangeAt_22 : decode cX4_lineChangeAt 22 = .ok (.iload 5, 2) := by decide +kernel
theorem dX4_lineChangeAt_24 : decode cX4_lineChangeAt 24 = .ok (.invokevirtual 57, 3) := by decide +kernel
theorem dX4_lineChangeAt_27 : decode cX4_lineChangeAt 27 = .ok (.istore 6, 2) := by decide +kernel
theorem dX4_lineChangeAt_29 : decode cX4_lineChangeAt 29 = .ok (.aload_n 0, 1) := by decide +kernel
theorem dX4_lineChangeAt_30 : decode cX4_lineChangeAt 30 = .ok (.getfield 30, 3) := by decide +kernel
theorem dX4_lineChangeAt_33 : decode cX4_lineChangeAt 33 = .ok (.iload_n 1, 1) := by decide +kernel
theorem dX4_lineChangeAt_34 : decode cX4_lineChangeAt 34 = .ok (.iload 6, 2) := by decide +kernel
theorem dX4_lineChangeAt_36 : decode cX4_lineChangeAt 36 = .ok (.invokevirtual 93, 3) := by decide +kernel
theorem dX4_lineChangeAt_39 : decode cX4_lineChangeAt 39 = .ok (.istore 7, 2) := by decide +kernel
theorem dX4_lineChangeAt_41 : decode cX4_lineChangeAt 41 = .ok (.iload 7, 2) := by decide +kernel
theorem dX4_lineChangeAt_43 : decode cX4_lineChangeAt 43 = .ok (.ifCond .lt 14, 3) := by decide +kernel
theorem dX4_lineChangeAt_46 : decode cX4_lineChangeAt 46 = .ok (.iload 4, 2) := by decide +kernel
theorem dX4_lineChangeAt_48 : decode cX4_lineChangeAt 48 = .ok (.ifCond .ne 6, 3) := by decide +kernel
theorem dX4_lineChangeAt_51 : decode cX4_lineChangeAt 51 = .ok (.iload 7, 2) := by decide +kernel
theorem dX4_lineChangeAt_53 : decode cX4_lineChangeAt 53 = .ok (.ireturn, 1) := by decide +kernel
theorem dX4_lineChangeAt_54 : decode cX4_lineChangeAt 54 = .ok (.iinc 4 (-1), 3) := by decide +kernel
theorem dX4_lineChangeAt_57 : decode cX4_lineChangeAt 57 = .ok (.aload_n 0, 1) := by decide +kernel
theorem dX4_lineChangeAt_58 : decode cX4_lineChangeAt 58 = .ok (.getfield 30, 3) := by decide +kernel
theorem dX4_lineChangeAt_61 : decode cX4_lineChangeAt 61 = .ok (.iload_n 1, 1) := by decide +kernel
theorem dX4_lineChangeAt_62 : decode cX4_lineChangeAt 62 = .ok (.iload 6, 2) := by decide +kernel
theorem dX4_lineChangeAt_64 : decode cX4_lineChangeAt 64 = .ok (.invokevirtual 90, 3) := by decide +kernel
theorem dX4_lineChangeAt_67 : decode cX4_lineChangeAt 67 = .ok (.istore 8, 2) := by decide +kernel
theorem dX4_lineChangeAt_69 : decode cX4_lineChangeAt 69 = .ok (.iload 8, 2) := by decide +kernel
theorem dX4_lineChangeAt_71 : decode cX4_lineChangeAt 71 = .ok (.ifCond .lt 14, 3) := by decide +kernel
theorem dX4_lineChangeAt_74 : decode cX4_lineChangeAt 74 = .ok (.iload 4, 2) := by decide +kernel
theorem dX4_lineChangeAt_76 : decode cX4_lineChangeAt 76 = .ok (.ifCond .ne 6, 3) := by decide +kernel
theorem dX4_lineChangeAt_79 : decode cX4_lineChangeAt 79 = .ok (.iload 8, 2) := by decide +kernel
theorem dX4_lineChangeAt_81 : decode cX4_lineChangeAt 81 = .ok (.ireturn, 1) := by decide +kernel
theorem dX4_lineChangeAt_82 : decode cX4_lineChangeAt 82 = .ok (.iinc 4 (-1), 3) := by decide +kernel
theorem dX4_lineChangeAt_85 : decode cX4_lineChangeAt 85 = .ok (.iinc 5 1, 3) := by decide +kernel
theorem dX4_lineChangeAt_88 : decode cX4_lineChangeAt 88 = .ok (.goto (-76), 3) := by decide +kernel
theorem dX4_lineChangeAt_91 : decode cX4_lineChangeAt 91 = .ok (.bipush (-5), 2) := by decide +kernel
theorem dX4_lineChangeAt_93 : decode cX4_lineChangeAt 93 = .ok (.ireturn, 1) := by decide +kernel
theorem dX4_settingInReadingOrder_0 : decode cX4_settingInReadingOrder 0 = .ok (.iload_n 1, 1) := by decide +kernel
theorem dX4_settingInReadingOrder_1 : decode cX4_settingInReadingOrder 1 = .ok (.istore_n 2, 1) := by decide +kernel
theorem dX4_settingInReadingOrder_2 : decode cX4_settingInReadingOrder 2 = .ok (.iconst 0, 1) := by decide +kernel
theorem dX4_settingInReadingOrder_3 : decode cX4_settingInReadingOrder 3 = .ok (.istore_n 3, 1) := by decide +kernel
theorem dX4_settingInReadingOrder_4 : decode cX4_settingInReadingOrder 4 = .ok (.iload_n 3, 1) := by decide +kernel
theorem dX4_settingInReadingOrder_5 : decode cX4_settingInReadingOrder 5 = .ok (.aload_n 0, 1) := by decide +kernel
theorem dX4_settingInReadingOrder_6 : decode cX4_settingInReadingOrder 6 = .ok (.getfield 14, 3) := by decide +kernel
theorem dX4_settingInReadingOrder_9 : decode cX4_settingInReadingOrder 9 = .ok (.getfield 64, 3) := by decide +kernel
theorem dX4_settingInReadingOrder_12 : decode cX4_settingInReadingOrder 12 = .ok (.if_icmp .ge 88, 3) := by decide +kernel
theorem dX4_settingInReadingOrder_15 : decode cX4_settingInReadingOrder 15 = .ok (.aload_n 0, 1) := by decide +kernel
theorem dX4_settingInReadingOrder_16 : decode cX4_settingInReadingOrder 16 = .ok (.getfield 14, 3) := by decide +kernel
theorem dX4_settingInReadingOrder_19 : decode cX4_settingInReadingOrder 19 = .ok (.iload_n 3, 1) := by decide +kernel
theorem dX4_settingInReadingOrder_20 : decode cX4_settingInReadingOrder 20 = .ok (.invokevirtual 57, 3) := by decide +kernel
theorem dX4_settingInReadingOrder_23 : decode cX4_settingInReadingOrder 23 = .ok (.istore 4, 2) := by decide +kernel
theorem dX4_settingInReadingOrder_25 : decode cX4_settingInReadingOrder 25 = .ok (.iconst 0, 1) := by decide +kernel
theorem dX4_settingInReadingOrder_26 : decode cX4_settingInReadingOrder 26 = .ok (.istore 5, 2) := by decide +kernel
theorem dX4_settingInReadingOrder_28 : decode cX4_settingInReadingOrder 28 = .ok (.iload 5, 2) := by decide +kernel
theorem dX4_settingInReadingOrder_30 : decode cX4_settingInReadingOrder 30 = .ok (.aload_n 0, 1) := by decide +kernel
theorem dX4_settingInReadingOrder_31 : decode cX4_settingInReadingOrder 31 = .ok (.getfield 20, 3) := by decide +kernel
theorem dX4_settingInReadingOrder_34 : decode cX4_settingInReadingOrder 34 = .ok (.getfield 64, 3) := by decide +kernel
theorem dX4_settingInReadingOrder_37 : decode cX4_settingInReadingOrder 37 = .ok (.if_icmp .ge 57, 3) := by decide +kernel
theorem dX4_settingInReadingOrder_40 : decode cX4_settingInReadingOrder 40 = .ok (.aload_n 0, 1) := by decide +kernel
theorem dX4_settingInReadingOrder_41 : decode cX4_settingInReadingOrder 41 = .ok (.getfield 20, 3) := by decide +kernel
theorem dX4_settingInReadingOrder_44 : decode cX4_settingInReadingOrder 44 = .ok (.iload 5, 2) := by decide +kernel
theorem dX4_settingInReadingOrder_46 : decode cX4_settingInReadingOrder 46 = .ok (.invokevirtual 57, 3) := by decide +kernel
theorem dX4_settingInReadingOrder_49 : decode cX4_settingInReadingOrder 49 = .ok (.istore 6, 2) := by decide +kernel
theorem dX4_settingInReadingOrder_51 : decode cX4_settingInReadingOrder 51 = .ok (.aload_n 0, 1) := by decide +kernel
theorem dX4_settingInReadingOrder_52 : decode cX4_settingInReadingOrder 52 = .ok (.getfield 30, 3) := by decide +kernel
theorem dX4_settingInReadingOrder_55 : decode cX4_settingInReadingOrder 55 = .ok (.iload 4, 2) := by decide +kernel
theorem dX4_settingInReadingOrder_57 : decode cX4_settingInReadingOrder 57 = .ok (.iload 6, 2) := by decide +kernel
theorem dX4_settingInReadingOrder_59 : decode cX4_settingInReadingOrder 59 = .ok (.invokevirtual 172, 3) := by decide +kernel
theorem dX4_settingInReadingOrder_62 : decode cX4_settingInReadingOrder 62 = .ok (.istore 7, 2) := by decide +kernel
theorem dX4_settingInReadingOrder_64 : decode cX4_settingInReadingOrder 64 = .ok (.iload_n 2, 1) := by decide +kernel
theorem dX4_settingInReadingOrder_65 : decode cX4_settingInReadingOrder 65 = .ok (.iload 7, 2) := by decide +kernel
theorem dX4_settingInReadingOrder_67 : decode cX4_settingInReadingOrder 67 = .ok (.if_icmp .ge 16, 3) := by decide +kernel
theorem dX4_settingInReadingOrder_70 : decode cX4_settingInReadingOrder 70 = .ok (.aload_n 0, 1) := by decide +kernel
theorem dX4_settingInReadingOrder_71 : decode cX4_settingInReadingOrder 71 = .ok (.getfield 30, 3) := by decide +kernel
theorem dX4_settingInReadingOrder_74 : decode cX4_settingInReadingOrder 74 = .ok (.iload 4, 2) := by decide +kernel
theorem dX4_settingInReadingOrder_76 : decode cX4_settingInReadingOrder 76 = .ok (.iload 6, 2) := by decide +kernel
theorem dX4_settingInReadingOrder_78 : decode cX4_settingInReadingOrder 78 = .ok (.iload_n 2, 1) := by decide +kernel
theorem dX4_settingInReadingOrder_79 : decode cX4_settingInReadingOrder 79 = .ok (.invokevirtual 175, 3) := by decide +kernel
theorem dX4_settingInReadingOrder_82 : decode cX4_settingInReadingOrder 82 = .ok (.ireturn, 1) := by decide +kernel
theorem dX4_settingInReadingOrder_83 : decode cX4_settingInReadingOrder 83 = .ok (.iload_n 2, 1) := by decide +kernel
theorem dX4_settingInReadingOrder_84 : decode cX4_settingInReadingOrder 84 = .ok (.iload 7, 2) := by decide +kernel
theorem dX4_settingInReadingOrder_86 : decode cX4_settingInReadingOrder 86 = .ok (.isub, 1) := by decide +kernel
theorem dX4_settingInReadingOrder_87 : decode cX4_settingInReadingOrder 87 = .ok (.istore_n 2, 1) := by decide +kernel
theorem dX4_settingInReadingOrder_88 : decode cX4_settingInReadingOrder 88 = .ok (.iinc 5 1, 3) := by decide +kernel
theorem dX4_settingInReadingOrder_91 : decode cX4_settingInReadingOrder 91 = .ok (.goto (-63), 3) := by decide +kernel
theorem dX4_settingInReadingOrder_94 : decode cX4_settingInReadingOrder 94 = .ok (.iinc 3 1, 3) := by decide +kernel
theorem dX4_settingInReadingOrder_97 : decode cX4_settingInReadingOrder 97 = .ok (.goto (-93), 3) := by decide +kernel
theorem dX4_settingInReadingOrder_100 : decode cX4_settingInReadingOrder 100 = .ok (.bipush (-5), 2) := by decide +kernel
theorem dX4_settingInReadingOrder_102 : decode cX4_settingInReadingOrder 102 = .ok (.ireturn, 1) := by decide +kernel
theorem dX5_init_0 : decode cX5_init 0 = .ok (.aload_n 0, 1) := by decide +kernel
theorem dX5_init_1 : decode cX5_init 1 = .ok (.invokespecial 1, 3) := by decide +kernel
theorem dX5_init_4 : decode cX5_init 4 = .ok (.aload_n 0, 1) := by decide +kernel
theorem dX5_init_5 : decode cX5_init 5 = .ok (.new 7, 3) := by decide +kernel
theorem dX5_init_8 : decode cX5_init 8 = .ok (.dup, 1) := by decide +kernel
theorem dX5_init_9 : decode cX5_init 9 = .ok (.invokespecial 9, 3) := by decide +kernel
theorem dX5_init_12 : decode cX5_init 12 = .ok (.putfield 10, 3) := by decide +kernel
theorem dX5_init_15 : decode cX5_init 15 = .ok (.aload_n 0, 1) := by decide +kernel
theorem dX5_init_16 : decode cX5_init 16 = .ok (.new 16, 3) := by decide +kernel
theorem dX5_init_19 : decode cX5_init 19 = .ok (.dup, 1) := by decide +kernel
theorem dX5_init_20 : decode cX5_init 20 = .ok (.invokespecial 18, 3) := by decide +kernel
theorem dX5_init_23 : decode cX5_init 23 = .ok (.putfield 19, 3) := by decide +kernel
theorem dX5_init_26 : decode cX5_init 26 = .ok (.aload_n 0, 1) := by decide +kernel
theorem dX5_init_27 : decode cX5_init 27 = .ok (.new 23, 3) := by decide +kernel
theorem dX5_init_30 : decode cX5_init 30 = .ok (.dup, 1) := by decide +kernel
theorem dX5_init_31 : decode cX5_init 31 = .ok (.invokespecial 25, 3) := by decide +kernel
theorem dX5_init_34 : decode cX5_init 34 = .ok (.putfield 26, 3) := by decide +kernel
theorem dX5_init_37 : decode cX5_init 37 = .ok (.return_, 1) := by decide +kernel
theorem dX5_track_0 : decode cX5_track 0 = .ok (.aload_n 0, 1) := by decide +kernel
theorem dX5_track_1 : decode cX5_track 1 = .ok (.getfield 10, 3) := by decide +kernel
theorem dX5_track_4 : decode cX5_track 4 = .ok (.getfield 30, 3) := by decide +kernel
theorem dX5_track_7 : decode cX5_track 7 = .ok (.iload_n 1, 1) := by decide +kernel
theorem dX5_track_8 : decode cX5_track 8 = .ok (.if_icmp .ne 6, 3) := by decide +kernel
theorem dX5_track_11 : decode cX5_track 11 = .ok (.bipush (-4), 2) := by decide +kernel
theorem dX5_track_13 : decode cX5_track 13 = .ok (.ireturn, 1) := by decide +kernel
theorem dX5_track_14 : decode cX5_track 14 = .ok (.aload_n 0, 1) := by decide +kernel
theorem dX5_track_15 : decode cX5_track 15 = .ok (.getfield 19, 3) := by decide +kernel
theorem dX5_track_18 : decode cX5_track 18 = .ok (.aload_n 0, 1) := by decide +kernel
theorem dX5_track_19 : decode cX5_track 19 = .ok (.getfield 10, 3) := by decide +kernel
theorem dX5_track_22 : decode cX5_track 22 = .ok (.invokevirtual 34, 3) := by decide +kernel
theorem dX5_track_25 : decode cX5_track 25 = .ok (.aload_n 0, 1) := by decide +kernel
theorem dX5_track_26 : decode cX5_track 26 = .ok (.getfield 10, 3) := by decide +kernel
theorem dX5_track_29 : decode cX5_track 29 = .ok (.iload_n 1, 1) := by decide +kernel
theorem dX5_track_30 : decode cX5_track 30 = .ok (.putfield 30, 3) := by decide +kernel
theorem dX5_track_33 : decode cX5_track 33 = .ok (.aload_n 0, 1) := by decide +kernel
theorem dX5_track_34 : decode cX5_track 34 = .ok (.aload_n 0, 1) := by decide +kernel
theorem dX5_track_35 : decode cX5_track 35 = .ok (.getfield 10, 3) := by decide +kernel
theorem dX5_track_38 : decode cX5_track 38 = .ok (.getfield 38, 3) := by decide +kernel
theorem dX5_track_41 : decode cX5_track 41 = .ok (.iconst (-1), 1) := by decide +kernel
theorem dX5_track_42 : decode cX5_track 42 = .ok (.iconst 0, 1) := by decide +kernel
theorem dX5_track_43 : decode cX5_track 43 = .ok (.invokevirtual 42, 3) := by decide +kernel
theorem dX5_track_46 : decode cX5_track 46 = .ok (.invokevirtual 48, 3) := by decide +kernel
theorem dX5_track_49 : decode cX5_track 49 = .ok (.ireturn, 1) := by decide +kernel
theorem dX5_insert_0 : decode cX5_insert 0 = .ok (.aload_n 0, 1) := by decide +kernel
theorem dX5_insert_1 : decode cX5_insert 1 = .ok (.getfield 19, 3) := by decide +kernel
theorem dX5_insert_4 : decode cX5_insert 4 = .ok (.aload_n 0, 1) := by decide +kernel
theorem dX5_insert_5 : decode cX5_insert 5 = .ok (.getfield 10, 3) := by decide +kernel
theorem dX5_insert_8 : decode cX5_insert 8 = .ok (.invokevirtual 34, 3) := by decide +kernel
theorem dX5_insert_11 : decode cX5_insert 11 = .ok (.aload_n 0, 1) := by decide +kernel
theorem dX5_insert_12 : decode cX5_insert 12 = .ok (.aload_n 0, 1) := by decide +kernel
theorem dX5_insert_13 : decode cX5_insert 13 = .ok (.getfield 10, 3) := by decide +kernel
theorem dX5_insert_16 : decode cX5_insert 16 = .ok (.iload_n 1, 1) := by decide +kernel
theorem dX5_insert_17 : decode cX5_insert 17 = .ok (.iload_n 2, 1) := by decide +kernel
theorem dX5_insert_18 : decode cX5_insert 18 = .ok (.iload_n 3, 1) := by decide +kernel
theorem dX5_insert_19 : decode cX5_insert 19 = .ok (.invokevirtual 52, 3) := by decide +kernel
theorem dX5_insert_22 : decode cX5_insert 22 = .ok (.invokevirtual 48, 3) := by decide +kernel
theorem dX5_insert_25 : decode cX5_insert 25 = .ok (.ireturn, 1) := by decide +kernel
theorem dX5_remove_0 : decode cX5_remove 0 = .ok (.aload_n 0, 1) := by decide +kernel
theorem dX5_remove_1 : decode cX5_remove 1 = .ok (.getfield 19, 3) := by decide +kernel
theorem dX5_remove_4 : decode cX5_remove 4 = .ok (.aload_n 0, 1) := by decide +kernel
theorem dX5_remove_5 : decode cX5_remove 5 = .ok (.getfield 10, 3) := by decide +kernel
theorem dX5_remove_8 : decode cX5_remove 8 = .ok (.invokevirtual 34, 3) := by decide +kernel
theorem dX5_remove_11 : decode cX5_remove 11 = .ok (.aload_n 0, 1) := by decide +kernel
theorem dX5_remove_12 : decode cX5_remove 12 = .ok (.aload_n 0, 1) := by decide +kernel
theorem dX5_remove_13 : decode cX5_remove 13 = .ok (.getfield 10, 3) := by decide +kernel
theorem dX5_remove_16 : decode cX5_remove 16 = .ok (.iload_n 1, 1) := by decide +kernel
theorem dX5_remove_17 : decode cX5_remove 17 = .ok (.iload_n 2, 1) := by decide +kernel
theorem dX5_remove_18 : decode cX5_remove 18 = .ok (.iload_n 3, 1) := by decide +kernel
theorem dX5_remove_19 : decode cX5_remove 19 = .ok (.invokevirtual 56, 3) := by decide +kernel
theorem dX5_remove_22 : decode cX5_remove 22 = .ok (.invokevirtual 48, 3) := by decide +kernel
theorem dX5_remove_25 : decode cX5_remove 25 = .ok (.ireturn, 1) := by decide +kernel
theorem dX5_set_0 : decode cX5_set 0 = .ok (.aload_n 0, 1) := by decide +kernel
theorem dX5_set_1 : decode cX5_set 1 = .ok (.getfield 19, 3) := by decide +kernel
theorem dX5_set_4 : decode cX5_set 4 = .ok (.aload_n 0, 1) := by decide +kernel
theorem dX5_set_5 : decode cX5_set 5 = .ok (.getfield 10, 3) := by decide +kernel
theorem dX5_set_8 : decode cX5_set 8 = .ok (.invokevirtual 34, 3) := by decide +kernel
theorem dX5_set_11 : decode cX5_set 11 = .ok (.aload_n 0, 1) := by decide +kernel
theorem dX5_set_12 : decode cX5_set 12 = .ok (.aload_n 0, 1) := by decide +kernel
theorem dX5_set_13 : decode cX5_set 13 = .ok (.getfield 10, 3) := by decide +kernel
theorem dX5_set_16 : decode cX5_set 16 = .ok (.iload_n 1, 1) := by decide +kernel
theorem dX5_set_17 : decode cX5_set 17 = .ok (.iload_n 2, 1) := by decide +kernel
theorem dX5_set_18 : decode cX5_set 18 = .ok (.iload_n 3, 1) := by decide +kernel
theorem dX5_set_19 : decode cX5_set 19 = .ok (.iload 4, 2) := by decide +kernel
theorem dX5_set_21 : decode cX5_set 21 = .ok (.invokevirtual 59, 3) := by decide +kernel
theorem dX5_set_24 : decode cX5_set 24 = .ok (.invokevirtual 48, 3) := by decide +kernel
theorem dX5_set_27 : decode cX5_set 27 = .ok (.ireturn, 1) := by decide +kernel
theorem dX5_accept_0 : decode cX5_accept 0 = .ok (.aload_n 0, 1) := by decide +kernel
theorem dX5_accept_1 : decode cX5_accept 1 = .ok (.getfield 10, 3) := by decide +kernel
theorem dX5_accept_4 : decode cX5_accept 4 = .ok (.getfield 38, 3) := by decide +kernel
theorem dX5_accept_7 : decode cX5_accept 7 = .ok (.iload_n 1, 1) := by decide +kernel
theorem dX5_accept_8 : decode cX5_accept 8 = .ok (.invokevirtual 63, 3) := by decide +kernel
theorem dX5_accept_11 : decode cX5_accept 11 = .ok (.ifCond .ne 5, 3) := by decide +kernel
theorem dX5_accept_14 : decode cX5_accept 14 = .ok (.iconst (-1), 1) := by decide +kernel
theorem dX5_accept_15 : decode cX5_accept 15 = .ok (.ireturn, 1) := by decide +kernel
theorem dX5_accept_16 : decode cX5_accept 16 = .ok (.aload_n 0, 1) := by decide +kernel
theorem dX5_accept_17 : decode cX5_accept 17 = .ok (.getfield 10, 3) := by decide +kernel
theorem dX5_accept_20 : decode cX5_accept 20 = .ok (.getfield 38, 3) := by decide +kernel
theorem dX5_accept_23 : decode cX5_accept 23 = .ok (.iload_n 1, 1) := by decide +kernel
theorem dX5_accept_24 : decode cX5_accept 24 = .ok (.invokevirtual 67, 3) := by decide +kernel
theorem dX5_accept_27 : decode cX5_accept 27 = .ok (.ifCond .ne 6, 3) := by decide +kernel
theorem dX5_accept_30 : decode cX5_accept 30 = .ok (.bipush (-4), 2) := by decide +kernel
theorem dX5_accept_32 : decode cX5_accept 32 = .ok (.ireturn, 1) := by decide +kernel
theorem dX5_accept_33 : decode cX5_accept 33 = .ok (.aload_n 0, 1) := by decide +kernel
theorem dX5_accept_34 : decode cX5_accept 34 = .ok (.getfield 19, 3) := by decide +kernel
theorem dX5_accept_37 : decode cX5_accept 37 = .ok (.aload_n 0, 1) := by decide +kernel
theorem dX5_accept_38 : decode cX5_accept 38 = .ok (.getfield 10, 3) := by decide +kernel
theorem dX5_accept_41 : decode cX5_accept 41 = .ok (.invokevirtual 34, 3) := by decide +kernel
theorem dX5_accept_44 : decode cX5_accept 44 = .ok (.aload_n 0, 1) := by decide +kernel
theorem dX5_accept_45 : decode cX5_accept 45 = .ok (.aload_n 0, 1) := by decide +kernel
theorem dX5_accept_46 : decode cX5_accept 46 = .ok (.getfield 10, 3) := by decide +kernel
theorem dX5_accept_49 : decode cX5_accept 49 = .ok (.iload_n 1, 1) := by decide +kernel
theorem dX5_accept_50 : decode cX5_accept 50 = .ok (.invokevirtual 70, 3) := by decide +kernel
theorem dX5_accept_53 : decode cX5_accept 53 = .ok (.invokevirtual 48, 3) := by decide +kernel
theorem dX5_accept_56 : decode cX5_accept 56 = .ok (.ireturn, 1) := by decide +kernel
theorem dX5_reject_0 : decode cX5_reject 0 = .ok (.aload_n 0, 1) := by decide +kernel
theorem dX5_reject_1 : decode cX5_reject 1 = .ok (.getfield 10, 3) := by decide +kernel
theorem dX5_reject_4 : decode cX5_reject 4 = .ok (.getfield 38, 3) := by decide +kernel
theorem dX5_reject_7 : decode cX5_reject 7 = .ok (.iload_n 1, 1) := by decide +kernel
theorem dX5_reject_8 : decode cX5_reject 8 = .ok (.invokevirtual 63, 3) := by decide +kernel
theorem dX5_reject_11 : decode cX5_reject 11 = .ok (.ifCond .ne 5, 3) := by decide +kernel
theorem dX5_reject_14 : decode cX5_reject 14 = .ok (.iconst (-1), 1) := by decide +kernel
theorem dX5_reject_15 : decode cX5_reject 15 = .ok (.ireturn, 1) := by decide +kernel
theorem dX5_reject_16 : decode cX5_reject 16 = .ok (.aload_n 0, 1) := by decide +kernel
theorem dX5_reject_17 : decode cX5_reject 17 = .ok (.getfield 10, 3) := by decide +kernel
theorem dX5_reject_20 : decode cX5_reject 20 = .ok (.getfield 38, 3) := by decide +kernel
theorem dX5_reject_23 : decode cX5_reject 23 = .ok (.iload_n 1, 1) := by decide +kernel
theorem dX5_reject_24 : decode cX5_reject 24 = .ok (.invokevirtual 67, 3) := by decide +kernel
theorem dX5_reject_27 : decode cX5_reject 27 = .ok (.ifCond .ne 6, 3) := by decide +kernel
theorem dX5_reject_30 : decode cX5_reject 30 = .ok (.bipush (-4), 2) := by decide +kernel
theorem dX5_reject_32 : decode cX5_reject 32 = .ok (.ireturn, 1) := by decide +kernel
theorem dX5_reject_33 : decode cX5_reject 33 = .ok (.aload_n 0, 1) := by decide +kernel
theorem dX5_reject_34 : decode cX5_reject 34 = .ok (.getfield 19, 3) := by decide +kernel
theorem dX5_reject_37 : decode cX5_reject 37 = .ok (.aload_n 0, 1) := by decide +kernel
theorem dX5_reject_38 : decode cX5_reject 38 = .ok (.getfield 10, 3) := by decide +kernel
theorem dX5_reject_41 : decode cX5_reject 41 = .ok (.invokevirtual 34, 3) := by decide +kernel
theorem dX5_reject_44 : decode cX5_reject 44 = .ok (.aload_n 0, 1) := by decide +kernel
theorem dX5_reject_45 : decode cX5_reject 45 = .ok (.aload_n 0, 1) := by decide +kernel
theorem dX5_reject_46 : decode cX5_reject 46 = .ok (.getfield 10, 3) := by decide +kernel
theorem dX5_reject_49 : decode cX5_reject 49 = .ok (.iload_n 1, 1) := by decide +kernel
theorem dX5_reject_50 : decode cX5_reject 50 = .ok (.invokevirtual 73, 3) := by decide +kernel
theorem dX5_reject_53 : decode cX5_reject 53 = .ok (.invokevirtual 48, 3) := by decide +kernel
theorem dX5_reject_56 : decode cX5_reject 56 = .ok (.ireturn, 1) := by decide +kernel
theorem dX5_settle_0 : decode cX5_settle 0 = .ok (.iload_n 1, 1) := by decide +kernel
theorem dX5_settle_1 : decode cX5_settle 1 = .ok (.iconst (-1), 1) := by decide +kernel
theorem dX5_settle_2 : decode cX5_settle 2 = .ok (.if_icmp .eq 12, 3) := by decide +kernel
theorem dX5_settle_5 : decode cX5_settle 5 = .ok (.iload_n 1, 1) := by decide +kernel
theorem dX5_settle_6 : decode cX5_settle 6 = .ok (.invokestatic 76, 3) := by decide +kernel
theorem dX5_settle_9 : decode cX5_settle 9 = .ok (.ifCond .ne 5, 3) := by decide +kernel
theorem dX5_settle_12 : decode cX5_settle 12 = .ok (.iconst (-1), 1) := by decide +kernel
theorem dX5_settle_13 : decode cX5_settle 13 = .ok (.ireturn, 1) := by decide +kernel
theorem dX5_settle_14 : decode cX5_settle 14 = .ok (.aload_n 0, 1) := by decide +kernel
theorem dX5_settle_15 : decode cX5_settle 15 = .ok (.getfield 10, 3) := by decide +kernel
theorem dX5_settle_18 : decode cX5_settle 18 = .ok (.getfield 38, 3) := by decide +kernel
theorem dX5_settle_21 : decode cX5_settle 21 = .ok (.iload_n 1, 1) := by decide +kernel
theorem dX5_settle_22 : decode cX5_settle 22 = .ok (.iconst 0, 1) := by decide +kernel
theorem dX5_settle_23 : decode cX5_settle 23 = .ok (.invokevirtual 42, 3) := by decide +kernel
theorem dX5_settle_26 : decode cX5_settle 26 = .ok (.ifCond .ne 6, 3) := by decide +kernel
theorem dX5_settle_29 : decode cX5_settle 29 = .ok (.bipush (-4), 2) := by decide +kernel
theorem dX5_settle_31 : decode cX5_settle 31 = .ok (.ireturn, 1) := by decide +kernel
theorem dX5_settle_32 : decode cX5_settle 32 = .ok (.aload_n 0, 1) := by decide +kernel
theorem dX5_settle_33 : decode cX5_settle 33 = .ok (.getfield 19, 3) := by decide +kernel
theorem dX5_settle_36 : decode cX5_settle 36 = .ok (.aload_n 0, 1) := by decide +kernel
theorem dX5_settle_37 : decode cX5_settle 37 = .ok (.getfield 10, 3) := by decide +kernel
theorem dX5_settle_40 : decode cX5_settle 40 = .ok (.invokevirtual 34, 3) := by decide +kernel
theorem dX5_settle_43 : decode cX5_settle 43 = .ok (.aload_n 0, 1) := by decide +kernel
theorem dX5_settle_44 : decode cX5_settle 44 = .ok (.aload_n 0, 1) := by decide +kernel
theorem dX5_settle_45 : decode cX5_settle 45 = .ok (.getfield 10, 3) := by decide +kernel
theorem dX5_settle_48 : decode cX5_settle 48 = .ok (.iload_n 1, 1) := by decide +kernel
theorem dX5_settle_49 : decode cX5_settle 49 = .ok (.iload_n 2, 1) := by decide +kernel
theorem dX5_settle_50 : decode cX5_settle 50 = .ok (.invokevirtual 79, 3) := by decide +kernel
theorem dX5_settle_53 : decode cX5_settle 53 = .ok (.invokevirtual 48, 3) := by decide +kernel
theorem dX5_settle_56 : decode cX5_settle 56 = .ok (.ireturn, 1) := by decide +kernel
theorem dX5_type_0 : decode cX5_type 0 = .ok (.aload_n 0, 1) := by decide +kernel
theorem dX5_type_1 : decode cX5_type 1 = .ok (.getfield 26, 3) := by decide +kernel
theorem dX5_type_4 : decode cX5_type 4 = .ok (.iload_n 1, 1) := by decide +kernel
theorem dX5_type_5 : decode cX5_type 5 = .ok (.invokevirtual 83, 3) := by decide +kernel
theorem dX5_type_8 : decode cX5_type 8 = .ok (.ireturn, 1) := by decide +kernel
theorem dX5_clearText_0 : decode cX5_clearText 0 = .ok (.aload_n 0, 1) := by decide +kernel
theorem dX5_clearText_1 : decode cX5_clearText 1 = .ok (.getfield 26, 3) := by decide +kernel
theorem dX5_clearText_4 : decode cX5_clearText 4 = .ok (.getfield 87, 3) := by decide +kernel
theorem dX5_clearText_7 : decode cX5_clearText 7 = .ok (.istore_n 1, 1) := by decide +kernel
theorem dX5_clearText_8 : decode cX5_clearText 8 = .ok (.aload_n 0, 1) := by decide +kernel
theorem dX5_clearText_9 : decode cX5_clearText 9 = .ok (.getfield 26, 3) := by decide +kernel
theorem dX5_clearText_12 : decode cX5_clearText 12 = .ok (.iconst 0, 1) := by decide +kernel
theorem dX5_clearText_13 : decode cX5_clearText 13 = .ok (.putfield 87, 3) := by decide +kernel
theorem dX5_clearText_16 : decode cX5_clearText 16 = .ok (.iload_n 1, 1) := by decide +kernel
theorem dX5_clearText_17 : decode cX5_clearText 17 = .ok (.ireturn, 1) := by decide +kernel
theorem dX5_run_0 : decode cX5_run 0 = .ok (.iload_n 1, 1) := by decide +kernel
theorem dX5_run_1 : decode cX5_run 1 = .ok (.invokestatic 76, 3) := by decide +kernel
theorem dX5_run_4 : decode cX5_run 4 = .ok (.ifCond .ne 5, 3) := by decide +kernel
theorem dX5_run_7 : decode cX5_run 7 = .ok (.iconst (-1), 1) := by decide +kernel
theorem dX5_run_8 : decode cX5_run 8 = .ok (.ireturn, 1) := by decide +kernel
theorem dX5_run_9 : decode cX5_run 9 = .ok (.aload_n 0, 1) := by decide +kernel
theorem dX5_run_10 : decode cX5_run 10 = .ok (.getfield 26, 3) := by decide +kernel
theorem dX5_run_13 : decode cX5_run 13 = .ok (.invokevirtual 91, 3) := by decide +kernel
theorem dX5_run_16 : decode cX5_run 16 = .ok (.istore_n 2, 1) := by decide +kernel
theorem dX5_run_17 : decode cX5_run 17 = .ok (.iload_n 2, 1) := by decide +kernel
theorem dX5_run_18 : decode cX5_run 18 = .ok (.ifCond .lt 8, 3) := by decide +kernel
theorem dX5_run_21 : decode cX5_run 21 = .ok (.bipush (-100), 2) := by decide +kernel
theorem dX5_run_23 : decode cX5_run 23 = .ok (.iload_n 2, 1) := by decide +kernel
theorem dX5_run_24 : decode cX5_run 24 = .ok (.isub, 1) := by decide +kernel
theorem dX5_run_25 : decode cX5_run 25 = .ok (.ireturn, 1) := by decide +kernel
theorem dX5_run_26 : decode cX5_run 26 = .ok (.aload_n 0, 1) := by decide +kernel
theorem dX5_run_27 : decode cX5_run 27 = .ok (.getfield 19, 3) := by decide +kernel
theorem dX5_run_30 : decode cX5_run 30 = .ok (.aload_n 0, 1) := by decide +kernel
theorem dX5_run_31 : decode cX5_run 31 = .ok (.getfield 10, 3) := by decide +kernel
theorem dX5_run_34 : decode cX5_run 34 = .ok (.invokevirtual 34, 3) := by decide +kernel
theorem dX5_run_37 : decode cX5_run 37 = .ok (.aload_n 0, 1) := by decide +kernel
theorem dX5_run_38 : decode cX5_run 38 = .ok (.aload_n 0, 1) := by decide +kernel
theorem dX5_run_39 : decode cX5_run 39 = .ok (.iload_n 1, 1) := by decide +kernel
theorem dX5_run_40 : decode cX5_run 40 = .ok (.invokevirtual 95, 3) := by decide +kernel
theorem dX5_run_43 : decode cX5_run 43 = .ok (.invokevirtual 48, 3) := by decide +kernel
theorem dX5_run_46 : decode cX5_run 46 = .ok (.ireturn, 1) := by decide +kernel
theorem dX5_undo_0 : decode cX5_undo 0 = .ok (.aload_n 0, 1) := by decide +kernel
theorem dX5_undo_1 : decode cX5_undo 1 = .ok (.getfield 19, 3) := by decide +kernel
theorem dX5_undo_4 : decode cX5_undo 4 = .ok (.aload_n 0, 1) := by decide +kernel
theorem dX5_undo_5 : decode cX5_undo 5 = .ok (.getfield 10, 3) := by decide +kernel
theorem dX5_undo_8 : decode cX5_undo 8 = .ok (.invokevirtual 98, 3) := by decide +kernel
theorem dX5_undo_11 : decode cX5_undo 11 = .ok (.ireturn, 1) := by decide +kernel
theorem dX5_size_0 : decode cX5_size 0 = .ok (.iload_n 1, 1) := by decide +kernel
theorem dX5_size_1 : decode cX5_size 1 = .ok (.invokestatic 102, 3) := by decide +kernel
theorem dX5_size_4 : decode cX5_size 4 = .ok (.ifCond .eq 10, 3) := by decide +kernel
theorem dX5_size_7 : decode cX5_size 7 = .ok (.iload_n 2, 1) := by decide +kernel
theorem dX5_size_8 : decode cX5_size 8 = .ok (.invokestatic 105, 3) := by decide +kernel
theorem dX5_size_11 : decode cX5_size 11 = .ok (.ifCond .ne 5, 3) := by decide +kernel
theorem dX5_size_14 : decode cX5_size 14 = .ok (.iconst (-1), 1) := by decide +kernel
theorem dX5_size_15 : decode cX5_size 15 = .ok (.ireturn, 1) := by decide +kernel
theorem dX5_size_16 : decode cX5_size 16 = .ok (.aload_n 0, 1) := by decide +kernel
theorem dX5_size_17 : decode cX5_size 17 = .ok (.getfield 10, 3) := by decide +kernel
theorem dX5_size_20 : decode cX5_size 20 = .ok (.iload_n 1, 1) := by decide +kernel
theorem dX5_size_21 : decode cX5_size 21 = .ok (.iload_n 2, 1) := by decide +kernel
theorem dX5_size_22 : decode cX5_size 22 = .ok (.invokevirtual 108, 3) := by decide +kernel
theorem dX5_size_25 : decode cX5_size 25 = .ok (.ireturn, 1) := by decide +kernel
theorem dX5_cell_0 : decode cX5_cell 0 = .ok (.aload_n 0, 1) := by decide +kernel
theorem dX5_cell_1 : decode cX5_cell 1 = .ok (.getfield 10, 3) := by decide +kernel
theorem dX5_cell_4 : decode cX5_cell 4 = .ok (.iload_n 1, 1) := by decide +kernel
theorem dX5_cell_5 : decode cX5_cell 5 = .ok (.iconst 0, 1) := by decide +kernel
theorem dX5_cell_6 : decode cX5_cell 6 = .ok (.iload_n 2, 1) := by decide +kernel
theorem dX5_cell_7 : decode cX5_cell 7 = .ok (.invokevirtual 111, 3) := by decide +kernel
theorem dX5_cell_10 : decode cX5_cell 10 = .ok (.istore 4, 2) := by decide +kernel
theorem dX5_cell_12 : decode cX5_cell 12 = .ok (.aload_n 0, 1) := by decide +kernel
theorem dX5_cell_13 : decode cX5_cell 13 = .ok (.getfield 10, 3) := by decide +kernel
theorem dX5_cell_16 : decode cX5_cell 16 = .ok (.iload_n 1, 1) := by decide +kernel
theorem dX5_cell_17 : decode cX5_cell 17 = .ok (.iconst 1, 1) := by decide +kernel
theorem dX5_cell_18 : decode cX5_cell 18 = .ok (.iload_n 3, 1) := by decide +kernel
theorem dX5_cell_19 : decode cX5_cell 19 = .ok (.invokevirtual 111, 3) := by decide +kernel
theorem dX5_cell_22 : decode cX5_cell 22 = .ok (.istore 5, 2) := by decide +kernel
theorem dX5_cell_24 : decode cX5_cell 24 = .ok (.iload 4, 2) := by decide +kernel
theorem dX5_cell_26 : decode cX5_cell 26 = .ok (.ifCond .lt 8, 3) := by decide +kernel
theorem dX5_cell_29 : decode cX5_cell 29 = .ok (.iload 5, 2) := by decide +kernel
theorem dX5_cell_31 : decode cX5_cell 31 = .ok (.ifCond .ge 5, 3) := by decide +kernel
theorem dX5_cell_34 : decode cX5_cell 34 = .ok (.iconst (-1), 1) := by decide +kernel
theorem dX5_cell_35 : decode cX5_cell 35 = .ok (.ireturn, 1) := by decide +kernel
theorem dX5_cell_36 : decode cX5_cell 36 = .ok (.aload_n 0, 1) := by decide +kernel
theorem dX5_cell_37 : decode cX5_cell 37 = .ok (.getfield 10, 3) := by decide +kernel
theorem dX5_cell_40 : decode cX5_cell 40 = .ok (.iload_n 1, 1) := by decide +kernel
theorem dX5_cell_41 : decode cX5_cell 41 = .ok (.iload 4, 2) := by decide +kernel
theorem dX5_cell_43 : decode cX5_cell 43 = .ok (.iload 5, 2) := by decide +kernel
theorem dX5_cell_45 : decode cX5_cell 45 = .ok (.invokevirtual 114, 3) := by decide +kernel
theorem dX5_cell_48 : decode cX5_cell 48 = .ok (.ireturn, 1) := by decide +kernel
theorem dX5_line_0 : decode cX5_line 0 = .ok (.aload_n 0, 1) := by decide +kernel
theorem dX5_line_1 : decode cX5_line 1 = .ok (.getfield 10, 3) := by decide +kernel
theorem dX5_line_4 : decode cX5_line 4 = .ok (.iload_n 1, 1) := by decide +kernel
theorem dX5_line_5 : decode cX5_line 5 = .ok (.iload_n 2, 1) := by decide +kernel
theorem dX5_line_6 : decode cX5_line 6 = .ok (.invokevirtual 117, 3) := by decide +kernel
theorem dX5_line_9 : decode cX5_line 9 = .ok (.istore 4, 2) := by decide +kernel
theorem dX5_line_11 : decode cX5_line 11 = .ok (.iload 4, 2) := by decide +kernel
theorem dX5_line_13 : decode cX5_line 13 = .ok (.ifCond .ge 5, 3) := by decide +kernel
theorem dX5_line_16 : decode cX5_line 16 = .ok (.iconst (-1), 1) := by decide +kernel
theorem dX5_line_17 : decode cX5_line 17 = .ok (.ireturn, 1) := by decide +kernel
theorem dX5_line_18 : decode cX5_line 18 = .ok (.iload_n 3, 1) := by decide +kernel
theorem dX5_line_19 : decode cX5_line 19 = .ok (.tableswitch 99 0 4 #[33, 47, 61, 73, 85], 33) := by decide +kernel
theorem dX5_line_52 : decode cX5_line 52 = .ok (.aload_n 0, 1) := by decide +kernel
theorem dX5_line_53 : decode cX5_line 53 = .ok (.getfield 10, 3) := by decide +kernel
theorem dX5_line_56 : decode cX5_line 56 = .ok (.getfield 38, 3) := by decide +kernel
theorem dX5_line_59 : decode cX5_line 59 = .ok (.iload_n 1, 1) := by decide +kernel
theorem dX5_line_60 : decode cX5_line 60 = .ok (.iload 4, 2) := by decide +kernel
theorem dX5_line_62 : decode cX5_line 62 = .ok (.invokevirtual 120, 3) := by decide +kernel
theorem dX5_line_65 : decode cX5_line 65 = .ok (.ireturn, 1) := by decide +kernel
theorem dX5_line_66 : decode cX5_line 66 = .ok (.aload_n 0, 1) := by decide +kernel
theorem dX5_line_67 : decode cX5_line 67 = .ok (.getfield 10, 3) := by decide +kernel
theorem dX5_line_70 : decode cX5_line 70 = .ok (.getfield 38, 3) := by decide +kernel
theorem dX5_line_73 : decode cX5_line 73 = .ok (.iload_n 1, 1) := by decide +kernel
theorem dX5_line_74 : decode cX5_line 74 = .ok (.iload 4, 2) := by decide +kernel
theorem dX5_line_76 : decode cX5_line 76 = .ok (.invokevirtual 123, 3) := by decide +kernel
theorem dX5_line_79 : decode cX5_line 79 = .ok (.ireturn, 1) := by decide +kernel
theorem dX5_line_80 : decode cX5_line 80 = .ok (.aload_n 0, 1) := by decide +kernel
theorem dX5_line_81 : decode cX5_line 81 = .ok (.getfield 10, 3) := by decide +kernel
theorem dX5_line_84 : decode cX5_line 84 = .ok (.iconst 1, 1) := by decide +kernel
theorem dX5_line_85 : decode cX5_line 85 = .ok (.iload_n 1, 1) := by decide +kernel
theorem dX5_line_86 : decode cX5_line 86 = .ok (.iload 4, 2) := by decide +kernel
theorem dX5_line_88 : decode cX5_line 88 = .ok (.invokevirtual 126, 3) := by decide +kernel
theorem dX5_line_91 : decode cX5_line 91 = .ok (.ireturn, 1) := by decide +kernel
theorem dX5_line_92 : decode cX5_line 92 = .ok (.aload_n 0, 1) := by decide +kernel
theorem dX5_line_93 : decode cX5_line 93 = .ok (.getfield 10, 3) := by decide +kernel
theorem dX5_line_96 : decode cX5_line 96 = .ok (.iconst 2, 1) := by decide +kernel
theorem dX5_line_97 : decode cX5_line 97 = .ok (.iload_n 1, 1) := by decide +kernel
theorem dX5_line_98 : decode cX5_line 98 = .ok (.iload 4, 2) := by decide +kernel
theorem dX5_line_100 : decode cX5_line 100 = .ok (.invokevirtual 126, 3) := by decide +kernel
theorem dX5_line_103 : decode cX5_line 103 = .ok (.ireturn, 1) := by decide +kernel
theorem dX5_line_104 : decode cX5_line 104 = .ok (.aload_n 0, 1) := by decide +kernel
theorem dX5_line_105 : decode cX5_line 105 = .ok (.getfield 10, 3) := by decide +kernel
theorem dX5_line_108 : decode cX5_line 108 = .ok (.getfield 38, 3) := by decide +kernel
theorem dX5_line_111 : decode cX5_line 111 = .ok (.iload_n 1, 1) := by decide +kernel
theorem dX5_line_112 : decode cX5_line 112 = .ok (.iload 4, 2) := by decide +kernel
theorem dX5_line_114 : decode cX5_line 114 = .ok (.invokevirtual 129, 3) := by decide +kernel
theorem dX5_line_117 : decode cX5_line 117 = .ok (.ireturn, 1) := by decide +kernel
theorem dX5_line_118 : decode cX5_line 118 = .ok (.bipush (-2), 2) := by decide +kernel
theorem dX5_line_120 : decode cX5_line 120 = .ok (.ireturn, 1) := by decide +kernel
theorem dX5_setting_0 : decode cX5_setting 0 = .ok (.aload_n 0, 1) := by decide +kernel
theorem dX5_setting_1 : decode cX5_setting 1 = .ok (.getfield 10, 3) := by decide +kernel
theorem dX5_setting_4 : decode cX5_setting 4 = .ok (.iconst 0, 1) := by decide +kernel
theorem dX5_setting_5 : decode cX5_setting 5 = .ok (.iload_n 1, 1) := by decide +kernel
theorem dX5_setting_6 : decode cX5_setting 6 = .ok (.invokevirtual 117, 3) := by decide +kernel
theorem dX5_setting_9 : decode cX5_setting 9 = .ok (.istore 4, 2) := by decide +kernel
theorem dX5_setting_11 : decode cX5_setting 11 = .ok (.aload_n 0, 1) := by decide +kernel
theorem dX5_setting_12 : decode cX5_setting 12 = .ok (.getfield 10, 3) := by decide +kernel
theorem dX5_setting_15 : decode cX5_setting 15 = .ok (.iconst 1, 1) := by decide +kernel
theorem dX5_setting_16 : decode cX5_setting 16 = .ok (.iload_n 2, 1) := by decide +kernel
theorem dX5_setting_17 : decode cX5_setting 17 = .ok (.invokevirtual 117, 3) := by decide +kernel
theorem dX5_setting_20 : decode cX5_setting 20 = .ok (.istore 5, 2) := by decide +kernel
theorem dX5_setting_22 : decode cX5_setting 22 = .ok (.iload 4, 2) := by decide +kernel
theorem dX5_setting_24 : decode cX5_setting 24 = .ok (.ifCond .lt 8, 3) := by decide +kernel
theorem dX5_setting_27 : decode cX5_setting 27 = .ok (.iload 5, 2) := by decide +kernel
theorem dX5_setting_29 : decode cX5_setting 29 = .ok (.ifCond .ge 5, 3) := by decide +kernel
theorem dX5_setting_32 : decode cX5_setting 32 = .ok (.iconst (-1), 1) := by decide +kernel
theorem dX5_setting_33 : decode cX5_setting 33 = .ok (.ireturn, 1) := by decide +kernel
theorem dX5_setting_34 : decode cX5_setting 34 = .ok (.iload_n 3, 1) := by decide +kernel
theorem dX5_setting_35 : decode cX5_setting 35 = .ok (.ifCond .ge 6, 3) := by decide +kernel
theorem dX5_setting_38 : decode cX5_setting 38 = .ok (.bipush (-2), 2) := by decide +kernel
theorem dX5_setting_40 : decode cX5_setting 40 = .ok (.ireturn, 1) := by decide +kernel
theorem dX5_setting_41 : decode cX5_setting 41 = .ok (.aload_n 0, 1) := by decide +kernel
theorem dX5_setting_42 : decode cX5_setting 42 = .ok (.getfield 10, 3) := by decide +kernel
theorem dX5_setting_45 : decode cX5_setting 45 = .ok (.getfield 38, 3) := by decide +kernel
theorem dX5_setting_48 : decode cX5_setting 48 = .ok (.iload 4, 2) := by decide +kernel
theorem dX5_setting_50 : decode cX5_setting 50 = .ok (.iload 5, 2) := by decide +kernel
theorem dX5_setting_52 : decode cX5_setting 52 = .ok (.iload_n 3, 1) := by decide +kernel
theorem dX5_setting_53 : decode cX5_setting 53 = .ok (.invokevirtual 132, 3) := by decide +kernel
theorem dX5_setting_56 : decode cX5_setting 56 = .ok (.ireturn, 1) := by decide +kernel
theorem dX5_change_0 : decode cX5_change 0 = .ok (.aload_n 0, 1) := by decide +kernel
theorem dX5_change_1 : decode cX5_change 1 = .ok (.getfield 10, 3) := by decide +kernel
theorem dX5_change_4 : decode cX5_change 4 = .ok (.getfield 38, 3) := by decide +kernel
theorem dX5_change_7 : decode cX5_change 7 = .ok (.iload_n 1, 1) := by decide +kernel
theorem dX5_change_8 : decode cX5_change 8 = .ok (.invokevirtual 63, 3) := by decide +kernel
theorem dX5_change_11 : decode cX5_change 11 = .ok (.ifCond .ne 5, 3) := by decide +kernel
theorem dX5_change_14 : decode cX5_change 14 = .ok (.iconst (-1), 1) := by decide +kernel
theorem dX5_change_15 : decode cX5_change 15 = .ok (.ireturn, 1) := by decide +kernel
theorem dX5_change_16 : decode cX5_change 16 = .ok (.iload_n 2, 1) := by decide +kernel
theorem dX5_change_17 : decode cX5_change 17 = .ok (.tableswitch 182 0 8 #[51, 64, 77, 90, 113, 136, 149, 158, 170], 51) := by decide +kernel
theorem dX5_change_68 : decode cX5_change 68 = .ok (.aload_n 0, 1) := by decide +kernel
theorem dX5_change_69 : decode cX5_change 69 = .ok (.getfield 10, 3) := by decide +kernel
theorem dX5_change_72 : decode cX5_change 72 = .ok (.getfield 38, 3) := by decide +kernel
theorem dX5_change_75 : decode cX5_change 75 = .ok (.iload_n 1, 1) := by decide +kernel
theorem dX5_change_76 : decode cX5_change 76 = .ok (.iconst 0, 1) := by decide +kernel
theorem dX5_change_77 : decode cX5_change 77 = .ok (.invokevirtual 135, 3) := by decide +kernel
theorem dX5_change_80 : decode cX5_change 80 = .ok (.ireturn, 1) := by decide +kernel
theorem dX5_change_81 : decode cX5_change 81 = .ok (.aload_n 0, 1) := by decide +kernel
theorem dX5_change_82 : decode cX5_change 82 = .ok (.getfield 10, 3) := by decide +kernel
theorem dX5_change_85 : decode cX5_change 85 = .ok (.getfield 38, 3) := by decide +kernel
theorem dX5_change_88 : decode cX5_change 88 = .ok (.iload_n 1, 1) := by decide +kernel
theorem dX5_change_89 : decode cX5_change 89 = .ok (.iconst 1, 1) := by decide +kernel
theorem dX5_change_90 : decode cX5_change 90 = .ok (.invokevirtual 135, 3) := by decide +kernel
theorem dX5_change_93 : decode cX5_change 93 = .ok (.ireturn, 1) := by decide +kernel
theorem dX5_change_94 : decode cX5_change 94 = .ok (.aload_n 0, 1) := by decide +kernel
theorem dX5_change_95 : decode cX5_change 95 = .ok (.getfield 10, 3) := by decide +kernel
theorem dX5_change_98 : decode cX5_change 98 = .ok (.getfield 38, 3) := by decide +kernel
theorem dX5_change_101 : decode cX5_change 101 = .ok (.iload_n 1, 1) := by decide +kernel
theorem dX5_change_102 : decode cX5_change 102 = .ok (.iconst 2, 1) := by decide +kernel
theorem dX5_change_103 : decode cX5_change 103 = .ok (.invokevirtual 135, 3) := by decide +kernel
theorem dX5_change_106 : decode cX5_change 106 = .ok (.ireturn, 1) := by decide +kernel
theorem dX5_change_107 : decode cX5_change 107 = .ok (.aload_n 0, 1) := by decide +kernel
theorem dX5_change_108 : decode cX5_change 108 = .ok (.getfield 10, 3) := by decide +kernel
theorem dX5_change_111 : decode cX5_change 111 = .ok (.getfield 138, 3) := by decide +kernel
theorem dX5_change_114 : decode cX5_change 114 = .ok (.aload_n 0, 1) := by decide +kernel
theorem dX5_change_115 : decode cX5_change 115 = .ok (.getfield 10, 3) := by decide +kernel
theorem dX5_change_118 : decode cX5_change 118 = .ok (.getfield 38, 3) := by decide +kernel
theorem dX5_change_121 : decode cX5_change 121 = .ok (.iload_n 1, 1) := by decide +kernel
theorem dX5_change_122 : decode cX5_change 122 = .ok (.iconst 3, 1) := by decide +kernel
theorem dX5_change_123 : decode cX5_change 123 = .ok (.invokevirtual 135, 3) := by decide +kernel
theorem dX5_change_126 : decode cX5_change 126 = .ok (.invokevirtual 142, 3) := by decide +kernel
theorem dX5_change_129 : decode cX5_change 129 = .ok (.ireturn, 1) := by decide +kernel
theorem dX5_change_130 : decode cX5_change 130 = .ok (.aload_n 0, 1) := by decide +kernel
theorem dX5_change_131 : decode cX5_change 131 = .ok (.getfield 10, 3) := by decide +kernel
theorem dX5_change_134 : decode cX5_change 134 = .ok (.getfield 147, 3) := by decide +kernel
theorem dX5_change_137 : decode cX5_change 137 = .ok (.aload_n 0, 1) := by decide +kernel
theorem dX5_change_138 : decode cX5_change 138 = .ok (.getfield 10, 3) := by decide +kernel
theorem dX5_change_141 : decode cX5_change 141 = .ok (.getfield 38, 3) := by decide +kernel
theorem dX5_change_144 : decode cX5_change 144 = .ok (.iload_n 1, 1) := by decide +kernel
theorem dX5_change_145 : decode cX5_change 145 = .ok (.iconst 4, 1) := by decide +kernel
theorem dX5_change_146 : decode cX5_change 146 = .ok (.invokevirtual 135, 3) := by decide +kernel
theorem dX5_change_149 : decode cX5_change 149 = .ok (.invokevirtual 142, 3) := by decide +kernel
theorem dX5_change_152 : decode cX5_change 152 = .ok (.ireturn, 1) := by decide +kernel
theorem dX5_change_153 : decode cX5_change 153 = .ok (.aload_n 0, 1) := by decide +kernel
theorem dX5_change_154 : decode cX5_change 154 = .ok (.getfield 10, 3) := by decide +kernel
theorem dX5_change_157 : decode cX5_change 157 = .ok (.getfield 38, 3) := by decide +kernel
theorem dX5_change_160 : decode cX5_change 160 = .ok (.iload_n 1, 1) := by decide +kernel
theorem dX5_change_161 : decode cX5_change 161 = .ok (.iconst 5, 1) := by decide +kernel
theorem dX5_change_162 : decode cX5_change 162 = .ok (.invokevirtual 135, 3) := by decide +kernel
theorem dX5_change_165 : decode cX5_change 165 = .ok (.ireturn, 1) := by decide +kernel
theorem dX5_change_166 : decode cX5_change 166 = .ok (.aload_n 0, 1) := by decide +kernel
theorem dX5_change_167 : decode cX5_change 167 = .ok (.getfield 10, 3) := by decide +kernel
theorem dX5_change_170 : decode cX5_change 170 = .ok (.iload_n 1, 1) := by decide +kernel
theorem dX5_change_171 : decode cX5_change 171 = .ok (.invokevirtual 150, 3) := by decide +kernel
theorem dX5_change_174 : decode cX5_change 174 = .ok (.ireturn, 1) := by decide +kernel
theorem dX5_change_175 : decode cX5_change 175 = .ok (.aload_n 0, 1) := by decide +kernel
theorem dX5_change_176 : decode cX5_change 176 = .ok (.getfield 10, 3) := by decide +kernel
theorem dX5_change_179 : decode cX5_change 179 = .ok (.getfield 38, 3) := by decide +kernel
theorem dX5_change_182 : decode cX5_change 182 = .ok (.iload_n 1, 1) := by decide +kernel
theorem dX5_change_183 : decode cX5_change 183 = .ok (.invokevirtual 153, 3) := by decide +kernel
theorem dX5_change_186 : decode cX5_change 186 = .ok (.ireturn, 1) := by decide +kernel
theorem dX5_change_187 : decode cX5_change 187 = .ok (.aload_n 0, 1) := by decide +kernel
theorem dX5_change_188 : decode cX5_change 188 = .ok (.getfield 10, 3) := by decide +kernel
theorem dX5_change_191 : decode cX5_change 191 = .ok (.getfield 38, 3) := by decide +kernel
theorem dX5_change_194 : decode cX5_change 194 = .ok (.iload_n 1, 1) := by decide +kernel
theorem dX5_change_195 : decode cX5_change 195 = .ok (.invokevirtual 156, 3) := by decide +kernel
theorem dX5_change_198 : decode cX5_change 198 = .ok (.ireturn, 1) := by decide +kernel
theorem dX5_change_199 : decode cX5_change 199 = .ok (.bipush (-2), 2) := by decide +kernel
theorem dX5_change_201 : decode cX5_change 201 = .ok (.ireturn, 1) := by decide +kernel
theorem dX5_restsOn_0 : decode cX5_restsOn 0 = .ok (.aload_n 0, 1) := by decide +kernel
theorem dX5_restsOn_1 : decode cX5_restsOn 1 = .ok (.getfield 10, 3) := by decide +kernel
theorem dX5_restsOn_4 : decode cX5_restsOn 4 = .ok (.getfield 38, 3) := by decide +kernel
theorem dX5_restsOn_7 : decode cX5_restsOn 7 = .ok (.iload_n 1, 1) := by decide +kernel
theorem dX5_restsOn_8 : decode cX5_restsOn 8 = .ok (.invokevirtual 63, 3) := by decide +kernel
theorem dX5_restsOn_11 : decode cX5_restsOn 11 = .ok (.ifCond .eq 17, 3) := by decide +kernel
theorem dX5_restsOn_14 : decode cX5_restsOn 14 = .ok (.aload_n 0, 1) := by decide +kernel
theorem dX5_restsOn_15 : decode cX5_restsOn 15 = .ok (.getfield 10, 3) := by decide +kernel
theorem dX5_restsOn_18 : decode cX5_restsOn 18 = .ok (.getfield 38, 3) := by decide +kernel
theorem dX5_restsOn_21 : decode cX5_restsOn 21 = .ok (.iload_n 2, 1) := by decide +kernel
theorem dX5_restsOn_22 : decode cX5_restsOn 22 = .ok (.invokevirtual 63, 3) := by decide +kernel
theorem dX5_restsOn_25 : decode cX5_restsOn 25 = .ok (.ifCond .ne 5, 3) := by decide +kernel
theorem dX5_restsOn_28 : decode cX5_restsOn 28 = .ok (.iconst (-1), 1) := by decide +kernel
theorem dX5_restsOn_29 : decode cX5_restsOn 29 = .ok (.ireturn, 1) := by decide +kernel
theorem dX5_restsOn_30 : decode cX5_restsOn 30 = .ok (.iload_n 1, 1) := by decide +kernel
theorem dX5_restsOn_31 : decode cX5_restsOn 31 = .ok (.iload_n 2, 1) := by decide +kernel
theorem dX5_restsOn_32 : decode cX5_restsOn 32 = .ok (.if_icmp .ne 6, 3) := by decide +kernel
theorem dX5_restsOn_35 : decode cX5_restsOn 35 = .ok (.bipush (-2), 2) := by decide +kernel
theorem dX5_restsOn_37 : decode cX5_restsOn 37 = .ok (.ireturn, 1) := by decide +kernel
theorem dX5_restsOn_38 : decode cX5_restsOn 38 = .ok (.aload_n 0, 1) := by decide +kernel
theorem dX5_restsOn_39 : decode cX5_restsOn 39 = .ok (.getfield 10, 3) := by decide +kernel
theorem dX5_restsOn_42 : decode cX5_restsOn 42 = .ok (.getfield 38, 3) := by decide +kernel
theorem dX5_restsOn_45 : decode cX5_restsOn 45 = .ok (.iload_n 1, 1) := by decide +kernel
theorem dX5_restsOn_46 : decode cX5_restsOn 46 = .ok (.iload_n 2, 1) := by decide +kernel
theorem dX5_restsOn_47 : decode cX5_restsOn 47 = .ok (.invokevirtual 159, 3) := by decide +kernel
theorem dX5_restsOn_50 : decode cX5_restsOn 50 = .ok (.ifCond .eq 7, 3) := by decide +kernel
theorem dX5_restsOn_53 : decode cX5_restsOn 53 = .ok (.iconst 1, 1) := by decide +kernel
theorem dX5_restsOn_54 : decode cX5_restsOn 54 = .ok (.goto 4, 3) := by decide +kernel
theorem dX5_restsOn_57 : decode cX5_restsOn 57 = .ok (.iconst 0, 1) := by decide +kernel
theorem dX5_restsOn_58 : decode cX5_restsOn 58 = .ok (.ireturn, 1) := by decide +kernel
theorem dX5_pending_0 : decode cX5_pending 0 = .ok (.iload_n 1, 1) := by decide +kernel
theorem dX5_pending_1 : decode cX5_pending 1 = .ok (.ifCond .ge 6, 3) := by decide +kernel
theorem dX5_pending_4 : decode cX5_pending 4 = .ok (.bipush (-2), 2) := by decide +kernel
theorem dX5_pending_6 : decode cX5_pending 6 = .ok (.ireturn, 1) := by decide +kernel
theorem dX5_pending_7 : decode cX5_pending 7 = .ok (.aload_n 0, 1) := by decide +kernel
theorem dX5_pending_8 : decode cX5_pending 8 = .ok (.getfield 10, 3) := by decide +kernel
theorem dX5_pending_11 : decode cX5_pending 11 = .ok (.iload_n 1, 1) := by decide +kernel
theorem dX5_pending_12 : decode cX5_pending 12 = .ok (.invokevirtual 163, 3) := by decide +kernel
theorem dX5_pending_15 : decode cX5_pending 15 = .ok (.ireturn, 1) := by decide +kernel
theorem dX5_author_0 : decode cX5_author 0 = .ok (.iload_n 1, 1) := by decide +kernel
theorem dX5_author_1 : decode cX5_author 1 = .ok (.invokestatic 76, 3) := by decide +kernel
theorem dX5_author_4 : decode cX5_author 4 = .ok (.ifCond .ne 5, 3) := by decide +kernel
theorem dX5_author_7 : decode cX5_author 7 = .ok (.iconst (-1), 1) := by decide +kernel
theorem dX5_author_8 : decode cX5_author 8 = .ok (.ireturn, 1) := by decide +kernel
theorem dX5_author_9 : decode cX5_author 9 = .ok (.iload_n 2, 1) := by decide +kernel
theorem dX5_author_10 : decode cX5_author 10 = .ok (.ifCond .lt 8, 3) := by decide +kernel
theorem dX5_author_13 : decode cX5_author 13 = .ok (.iload_n 2, 1) := by decide +kernel
theorem dX5_author_14 : decode cX5_author 14 = .ok (.iconst 3, 1) := by decide +kernel
theorem dX5_author_15 : decode cX5_author 15 = .ok (.if_icmp .le 6, 3) := by decide +kernel
theorem dX5_author_18 : decode cX5_author 18 = .ok (.bipush (-2), 2) := by decide +kernel
theorem dX5_author_20 : decode cX5_author 20 = .ok (.ireturn, 1) := by decide +kernel
theorem dX5_author_21 : decode cX5_author 21 = .ok (.aload_n 0, 1) := by decide +kernel
theorem dX5_author_22 : decode cX5_author 22 = .ok (.getfield 10, 3) := by decide +kernel
theorem dX5_author_25 : decode cX5_author 25 = .ok (.getfield 38, 3) := by decide +kernel
theorem dX5_author_28 : decode cX5_author 28 = .ok (.iload_n 1, 1) := by decide +kernel
theorem dX5_author_29 : decode cX5_author 29 = .ok (.iload_n 2, 1) := by decide +kernel
theorem dX5_author_30 : decode cX5_author 30 = .ok (.invokevirtual 42, 3) := by decide +kernel
theorem dX5_author_33 : decode cX5_author 33 = .ok (.ireturn, 1) := by decide +kernel
theorem dX5_sum_0 : decode cX5_sum 0 = .ok (.iload_n 1, 1) := by decide +kernel
theorem dX5_sum_1 : decode cX5_sum 1 = .ok (.invokestatic 102, 3) := by decide +kernel
theorem dX5_sum_4 : decode cX5_sum 4 = .ok (.ifCond .ne 5, 3) := by decide +kernel
theorem dX5_sum_7 : decode cX5_sum 7 = .ok (.iconst (-1), 1) := by decide +kernel
theorem dX5_sum_8 : decode cX5_sum 8 = .ok (.ireturn, 1) := by decide +kernel
theorem dX5_sum_9 : decode cX5_sum 9 = .ok (.aload_n 0, 1) := by decide +kernel
theorem dX5_sum_10 : decode cX5_sum 10 = .ok (.getfield 10, 3) := by decide +kernel
theorem dX5_sum_13 : decode cX5_sum 13 = .ok (.iload_n 1, 1) := by decide +kernel
theorem dX5_sum_14 : decode cX5_sum 14 = .ok (.invokevirtual 166, 3) := by decide +kernel
theorem dX5_sum_17 : decode cX5_sum 17 = .ok (.ireturn, 1) := by decide +kernel
theorem dX5_count_0 : decode cX5_count 0 = .ok (.aload_n 0, 1) := by decide +kernel
theorem dX5_count_1 : decode cX5_count 1 = .ok (.getfield 10, 3) := by decide +kernel
theorem dX5_count_4 : decode cX5_count 4 = .ok (.getfield 38, 3) := by decide +kernel
theorem dX5_count_7 : decode cX5_count 7 = .ok (.astore_n 2, 1) := by decide +kernel
theorem dX5_count_8 : decode cX5_count 8 = .ok (.iload_n 1, 1) := by decide +kernel
theorem dX5_count_9 : decode cX5_count 9 = .ok (.tableswitch 154 0 10 #[59, 64, 71, 78, 85, 92, 108, 120, 132, 138, 146], 59) := by decide +kernel
theorem dX5_count_68 : decode cX5_count 68 = .ok (.aload_n 2, 1) := by decide +kernel
theorem dX5_count_69 : decode cX5_count 69 = .ok (.getfield 169, 3) := by decide +kernel
theorem dX5_count_72 : decode cX5_count 72 = .ok (.ireturn, 1) := by decide +kernel
theorem dX5_count_73 : decode cX5_count 73 = .ok (.aload_n 2, 1) := by decide +kernel
theorem dX5_count_74 : decode cX5_count 74 = .ok (.iconst (-1), 1) := by decide +kernel
theorem dX5_count_75 : decode cX5_count 75 = .ok (.iconst 0, 1) := by decide +kernel
theorem dX5_count_76 : decode cX5_count 76 = .ok (.invokevirtual 42, 3) := by decide +kernel
theorem dX5_count_79 : decode cX5_count 79 = .ok (.ireturn, 1) := by decide +kernel
theorem dX5_count_80 : decode cX5_count 80 = .ok (.aload_n 2, 1) := by decide +kernel
theorem dX5_count_81 : decode cX5_count 81 = .ok (.iconst (-1), 1) := by decide +kernel
theorem dX5_count_82 : decode cX5_count 82 = .ok (.iconst 1, 1) := by decide +kernel
theorem dX5_count_83 : decode cX5_count 83 = .ok (.invokevirtual 42, 3) := by decide +kernel
theorem dX5_count_86 : decode cX5_count 86 = .ok (.ireturn, 1) := by decide +kernel
theorem dX5_count_87 : decode cX5_count 87 = .ok (.aload_n 2, 1) := by decide +kernel
theorem dX5_count_88 : decode cX5_count 88 = .ok (.iconst (-1), 1) := by decide +kernel
theorem dX5_count_89 : decode cX5_count 89 = .ok (.iconst 2, 1) := by decide +kernel
theorem dX5_count_90 : decode cX5_count 90 = .ok (.invokevirtual 42, 3) := by decide +kernel
theorem dX5_count_93 : decode cX5_count 93 = .ok (.ireturn, 1) := by decide +kernel
theorem dX5_count_94 : decode cX5_count 94 = .ok (.aload_n 2, 1) := by decide +kernel
theorem dX5_count_95 : decode cX5_count 95 = .ok (.iconst (-1), 1) := by decide +kernel
theorem dX5_count_96 : decode cX5_count 96 = .ok (.iconst 3, 1) := by decide +kernel
theorem dX5_count_97 : decode cX5_count 97 = .ok (.invokevirtual 42, 3) := by decide +kernel
theorem dX5_count_100 : decode cX5_count 100 = .ok (.ireturn, 1) := by decide +kernel
theorem dX5_count_101 : decode cX5_count 101 = .ok (.aload_n 0, 1) := by decide +kernel
theorem dX5_count_102 : decode cX5_count 102 = .ok (.getfield 10, 3) := by decide +kernel
theorem dX5_count_105 : decode cX5_count 105 = .ok (.getfield 30, 3) := by decide +kernel
theorem dX5_count_108 : decode cX5_count 108 = .ok (.ifCond .eq 7, 3) := by decide +kernel
theorem dX5_count_111 : decode cX5_count 111 = .ok (.iconst 1, 1) := by decide +kernel
theorem dX5_count_112 : decode cX5_count 112 = .ok (.goto 4, 3) := by decide +kernel
theorem dX5_count_115 : decode cX5_count 115 = .ok (.iconst 0, 1) := by decide +kernel
theorem dX5_count_116 : decode cX5_count 116 = .ok (.ireturn, 1) := by decide +kernel
theorem dX5_count_117 : decode cX5_count 117 = .ok (.aload_n 2, 1) := by decide +kernel
theorem dX5_count_118 : decode cX5_count 118 = .ok (.iconst 0, 1) := by decide +kernel
theorem dX5_count_119 : decode cX5_count 119 = .ok (.invokevirtual 172, 3) := by decide +kernel
theorem dX5_count_122 : decode cX5_count 122 = .ok (.aload_n 2, 1) := by decide +kernel
theorem dX5_count_123 : decode cX5_count 123 = .ok (.iconst 2, 1) := by decide +kernel
theorem dX5_count_124 : decode cX5_count 124 = .ok (.invokevirtual 172, 3) := by decide +kernel
theorem dX5_count_127 : decode cX5_count 127 = .ok (.iadd, 1) := by decide +kernel
theorem dX5_count_128 : decode cX5_count 128 = .ok (.ireturn, 1) := by decide +kernel
theorem dX5_count_129 : decode cX5_count 129 = .ok (.aload_n 2, 1) := by decide +kernel
theorem dX5_count_130 : decode cX5_count 130 = .ok (.iconst 1, 1) := by decide +kernel
theorem dX5_count_131 : decode cX5_count 131 = .ok (.invokevirtual 172, 3) := by decide +kernel
theorem dX5_count_134 : decode cX5_count 134 = .ok (.aload_n 2, 1) := by decide +kernel
theorem dX5_count_135 : decode cX5_count 135 = .ok (.iconst 3, 1) := by decide +kernel
theorem dX5_count_136 : decode cX5_count 136 = .ok (.invokevirtual 172, 3) := by decide +kernel
theorem dX5_count_139 : decode cX5_count 139 = .ok (.iadd, 1) := by decide +kernel
theorem dX5_count_140 : decode cX5_count 140 = .ok (.ireturn, 1) := by decide +kernel
theorem dX5_count_141 : decode cX5_count 141 = .ok (.aload_n 2, 1) := by decide +kernel
theorem dX5_count_142 : decode cX5_count 142 = .ok (.iconst 4, 1) := by decide +kernel
theorem dX5_count_143 : decode cX5_count 143 = .ok (.invokevirtual 172, 3) := by decide +kernel
theorem dX5_count_146 : decode cX5_count 146 = .ok (.ireturn, 1) := by decide +kernel
theorem dX5_count_147 : decode cX5_count 147 = .ok (.aload_n 0, 1) := by decide +kernel
theorem dX5_count_148 : decode cX5_count 148 = .ok (.getfield 19, 3) := by decide +kernel
theorem dX5_count_151 : decode cX5_count 151 = .ok (.getfield 175, 3) := by decide +kernel
theorem dX5_count_154 : decode cX5_count 154 = .ok (.ireturn, 1) := by decide +kernel
theorem dX5_count_155 : decode cX5_count 155 = .ok (.aload_n 0, 1) := by decide +kernel
theorem dX5_count_156 : decode cX5_count 156 = .ok (.getfield 26, 3) := by decide +kernel
theorem dX5_count_159 : decode cX5_count 159 = .ok (.getfield 87, 3) := by decide +kernel
theorem dX5_count_162 : decode cX5_count 162 = .ok (.ireturn, 1) := by decide +kernel
theorem dX5_count_163 : decode cX5_count 163 = .ok (.bipush (-2), 2) := by decide +kernel
theorem dX5_count_165 : decode cX5_count 165 = .ok (.ireturn, 1) := by decide +kernel
theorem dX5_recorded_0 : decode cX5_recorded 0 = .ok (.iload_n 1, 1) := by decide +kernel
theorem dX5_recorded_1 : decode cX5_recorded 1 = .ok (.ifCond .lt 10, 3) := by decide +kernel
theorem dX5_recorded_4 : decode cX5_recorded 4 = .ok (.aload_n 0, 1) := by decide +kernel
theorem dX5_recorded_5 : decode cX5_recorded 5 = .ok (.getfield 19, 3) := by decide +kernel
theorem dX5_recorded_8 : decode cX5_recorded 8 = .ok (.invokevirtual 178, 3) := by decide +kernel
theorem dX5_recorded_11 : decode cX5_recorded 11 = .ok (.iload_n 1, 1) := by decide +kernel
theorem dX5_recorded_12 : decode cX5_recorded 12 = .ok (.ireturn, 1) := by decide +kernel
theorem dX5_carryOut_0 : decode cX5_carryOut 0 = .ok (.aload_n 0, 1) := by decide +kernel
theorem dX5_carryOut_1 : decode cX5_carryOut 1 = .ok (.getfield 26, 3) := by decide +kernel
theorem dX5_carryOut_4 : decode cX5_carryOut 4 = .ok (.invokevirtual 181, 3) := by decide +kernel
theorem dX5_carryOut_7 : decode cX5_carryOut 7 = .ok (.iconst 0, 1) := by decide +kernel
theorem dX5_carryOut_8 : decode cX5_carryOut 8 = .ok (.istore_n 2, 1) := by decide +kernel
theorem dX5_carryOut_9 : decode cX5_carryOut 9 = .ok (.iload_n 2, 1) := by decide +kernel
theorem dX5_carryOut_10 : decode cX5_carryOut 10 = .ok (.bipush 60, 2) := by decide +kernel
theorem dX5_carryOut_12 : decode cX5_carryOut 12 = .ok (.if_icmp .ge 29, 3) := by decide +kernel
theorem dX5_carryOut_15 : decode cX5_carryOut 15 = .ok (.aload_n 0, 1) := by decide +kernel
theorem dX5_carryOut_16 : decode cX5_carryOut 16 = .ok (.getfield 26, 3) := by decide +kernel
theorem dX5_carryOut_19 : decode cX5_carryOut 19 = .ok (.invokevirtual 184, 3) := by decide +kernel
theorem dX5_carryOut_22 : decode cX5_carryOut 22 = .ok (.ifCond .eq 11, 3) := by decide +kernel
theorem dX5_carryOut_25 : decode cX5_carryOut 25 = .ok (.aload_n 0, 1) := by decide +kernel
theorem dX5_carryOut_26 : decode cX5_carryOut 26 = .ok (.iload_n 1, 1) := by decide +kernel
theorem dX5_carryOut_27 : decode cX5_carryOut 27 = .ok (.invokevirtual 188, 3) := by decide +kernel
theorem dX5_carryOut_30 : decode cX5_carryOut 30 = .ok (.ifCond .ge 5, 3) := by decide +kernel
theorem dX5_carryOut_33 : decode cX5_carryOut 33 = .ok (.iload_n 2, 1) := by decide +kernel
theorem dX5_carryOut_34 : decode cX5_carryOut 34 = .ok (.ireturn, 1) := by decide +kernel
theorem dX5_carryOut_35 : decode cX5_carryOut 35 = .ok (.iinc 2 1, 3) := by decide +kernel
theorem dX5_carryOut_38 : decode cX5_carryOut 38 = .ok (.goto (-29), 3) := by decide +kernel
theorem dX5_carryOut_41 : decode cX5_carryOut 41 = .ok (.bipush 60, 2) := by decide +kernel
theorem dX5_carryOut_43 : decode cX5_carryOut 43 = .ok (.ireturn, 1) := by decide +kernel
theorem dX5_obey_0 : decode cX5_obey 0 = .ok (.aload_n 0, 1) := by decide +kernel
theorem dX5_obey_1 : decode cX5_obey 1 = .ok (.getfield 26, 3) := by decide +kernel
theorem dX5_obey_4 : decode cX5_obey 4 = .ok (.getfield 191, 3) := by decide +kernel
theorem dX5_obey_7 : decode cX5_obey 7 = .ok (.bipush 43, 2) := by decide +kernel
theorem dX5_obey_9 : decode cX5_obey 9 = .ok (.if_icmp .ne 26, 3) := by decide +kernel
theorem dX5_obey_12 : decode cX5_obey 12 = .ok (.aload_n 0, 1) := by decide +kernel
theorem dX5_obey_13 : decode cX5_obey 13 = .ok (.getfield 10, 3) := by decide +kernel
theorem dX5_obey_16 : decode cX5_obey 16 = .ok (.iload_n 1, 1) := by decide +kernel
theorem dX5_obey_17 : decode cX5_obey 17 = .ok (.aload_n 0, 1) := by decide +kernel
theorem dX5_obey_18 : decode cX5_obey 18 = .ok (.getfield 26, 3) := by decide +kernel
theorem dX5_obey_21 : decode cX5_obey 21 = .ok (.getfield 195, 3) := by decide +kernel
theorem dX5_obey_24 : decode cX5_obey 24 = .ok (.aload_n 0, 1) := by decide +kernel
theorem dX5_obey_25 : decode cX5_obey 25 = .ok (.getfield 26, 3) := by decide +kernel
theorem dX5_obey_28 : decode cX5_obey 28 = .ok (.getfield 198, 3) := by decide +kernel
theorem dX5_obey_31 : decode cX5_obey 31 = .ok (.invokevirtual 52, 3) := by decide +kernel
theorem dX5_obey_34 : decode cX5_obey 34 = .ok (.ireturn, 1) := by decide +kernel
theorem dX5_obey_35 : decode cX5_obey 35 = .ok (.aload_n 0, 1) := by decide +kernel
theorem dX5_obey_36 : decode cX5_obey 36 = .ok (.getfield 26, 3) := by decide +kernel
theorem dX5_obey_39 : decode cX5_obey 39 = .ok (.getfield 191, 3) := by decide +kernel
theorem dX5_obey_42 : decode cX5_obey 42 = .ok (.bipush 45, 2) := by decide +kernel
theorem dX5_obey_44 : decode cX5_obey 44 = .ok (.if_icmp .ne 26, 3) := by decide +kernel
theorem dX5_obey_47 : decode cX5_obey 47 = .ok (.aload_n 0, 1) := by decide +kernel
theorem dX5_obey_48 : decode cX5_obey 48 = .ok (.getfield 10, 3) := by decide +kernel
theorem dX5_obey_51 : decode cX5_obey 51 = .ok (.iload_n 1, 1) := by decide +kernel
theorem dX5_obey_52 : decode cX5_obey 52 = .ok (.aload_n 0, 1) := by decide +kernel
theorem dX5_obey_53 : decode cX5_obey 53 = .ok (.getfield 26, 3) := by decide +kernel
theorem dX5_obey_56 : decode cX5_obey 56 = .ok (.getfield 195, 3) := by decide +kernel
theorem dX5_obey_59 : decode cX5_obey 59 = .ok (.aload_n 0, 1) := by decide +kernel
theorem dX5_obey_60 : decode cX5_obey 60 = .ok (.getfield 26, 3) := by decide +kernel
theorem dX5_obey_63 : decode cX5_obey 63 = .ok (.getfield 198, 3) := by decide +kernel
theorem dX5_obey_66 : decode cX5_obey 66 = .ok (.invokevirtual 56, 3) := by decide +kernel
theorem dX5_obey_69 : decode cX5_obey 69 = .ok (.ireturn, 1) := by decide +kernel
theorem dX5_obey_70 : decode cX5_obey 70 = .ok (.aload_n 0, 1) := by decide +kernel
theorem dX5_obey_71 : decode cX5_obey 71 = .ok (.getfield 10, 3) := by decide +kernel
theorem dX5_obey_74 : decode cX5_obey 74 = .ok (.iload_n 1, 1) := by decide +kernel
theorem dX5_obey_75 : decode cX5_obey 75 = .ok (.aload_n 0, 1) := by decide +kernel
theorem dX5_obey_76 : decode cX5_obey 76 = .ok (.getfield 26, 3) := by decide +kernel
theorem dX5_obey_79 : decode cX5_obey 79 = .ok (.getfield 198, 3) := by decide +kernel
theorem dX5_obey_82 : decode cX5_obey 82 = .ok (.aload_n 0, 1) := by decide +kernel
theorem dX5_obey_83 : decode cX5_obey 83 = .ok (.getfield 26, 3) := by decide +kernel
theorem dX5_obey_86 : decode cX5_obey 86 = .ok (.getfield 201, 3) := by decide +kernel
theorem dX5_obey_89 : decode cX5_obey 89 = .ok (.aload_n 0, 1) := by decide +kernel
theorem dX5_obey_90 : decode cX5_obey 90 = .ok (.getfield 26, 3) := by decide +kernel
theorem dX5_obey_93 : decode cX5_obey 93 = .ok (.getfield 204, 3) := by decide +kernel
theorem dX5_obey_96 : decode cX5_obey 96 = .ok (.invokevirtual 59, 3) := by decide +kernel
theorem dX5_obey_99 : decode cX5_obey 99 = .ok (.ireturn, 1) := by decide +kernel
theorem dX5_isAuthor_0 : decode cX5_isAuthor 0 = .ok (.iload_n 0, 1) := by decide +kernel
theorem dX5_isAuthor_1 : decode cX5_isAuthor 1 = .ok (.ifCond .lt 12, 3) := by decide +kernel
theorem dX5_isAuthor_4 : decode cX5_isAuthor 4 = .ok (.iload_n 0, 1) := by decide +kernel
theorem dX5_isAuthor_5 : decode cX5_isAuthor 5 = .ok (.iconst 4, 1) := by decide +kernel
theorem dX5_isAuthor_6 : decode cX5_isAuthor 6 = .ok (.if_icmp .ge 7, 3) := by decide +kernel
theorem dX5_isAuthor_9 : decode cX5_isAuthor 9 = .ok (.iconst 1, 1) := by decide +kernel
theorem dX5_isAuthor_10 : decode cX5_isAuthor 10 = .ok (.goto 4, 3) := by decide +kernel
theorem dX5_isAuthor_13 : decode cX5_isAuthor 13 = .ok (.iconst 0, 1) := by decide +kernel
theorem dX5_isAuthor_14 : decode cX5_isAuthor 14 = .ok (.ireturn, 1) := by decide +kernel
theorem dX5_isAxis_0 : decode cX5_isAxis 0 = .ok (.iload_n 0, 1) := by decide +kernel
theorem dX5_isAxis_1 : decode cX5_isAxis 1 = .ok (.ifCond .eq 8, 3) := by decide +kernel
theorem dX5_isAxis_4 : decode cX5_isAxis 4 = .ok (.iload_n 0, 1) := by decide +kernel
theorem dX5_isAxis_5 : decode cX5_isAxis 5 = .ok (.iconst 1, 1) := by decide +kernel
theorem dX5_isAxis_6 : decode cX5_isAxis 6 = .ok (.if_icmp .ne 7, 3) := by decide +kernel
theorem dX5_isAxis_9 : decode cX5_isAxis 9 = .ok (.iconst 1, 1) := by decide +kernel
theorem dX5_isAxis_10 : decode cX5_isAxis 10 = .ok (.goto 4, 3) := by decide +kernel
theorem dX5_isAxis_13 : decode cX5_isAxis 13 = .ok (.iconst 0, 1) := by decide +kernel
theorem dX5_isAxis_14 : decode cX5_isAxis 14 = .ok (.ireturn, 1) := by decide +kernel
theorem dX5_isView_0 : decode cX5_isView 0 = .ok (.iload_n 0, 1) := by decide +kernel
theorem dX5_isView_1 : decode cX5_isView 1 = .ok (.ifCond .lt 12, 3) := by decide +kernel
theorem dX5_isView_4 : decode cX5_isView 4 = .ok (.iload_n 0, 1) := by decide +kernel
theorem dX5_isView_5 : decode cX5_isView 5 = .ok (.iconst 2, 1) := by decide +kernel
theorem dX5_isView_6 : decode cX5_isView 6 = .ok (.if_icmp .gt 7, 3) := by decide +kernel
theorem dX5_isView_9 : decode cX5_isView 9 = .ok (.iconst 1, 1) := by decide +kernel
theorem dX5_isView_10 : decode cX5_isView 10 = .ok (.goto 4, 3) := by decide +kernel
theorem dX5_isView_13 : decode cX5_isView 13 = .ok (.iconst 0, 1) := by decide +kernel
theorem dX5_isView_14 : decode cX5_isView 14 = .ok (.ireturn, 1) := by decide +kernel
theorem dX5_copy_0 : decode cX5_copy 0 = .ok (.aload_n 0, 1) := by decide +kernel
theorem dX5_copy_1 : decode cX5_copy 1 = .ok (.iconst 0, 1) := by decide +kernel
theorem dX5_copy_2 : decode cX5_copy 2 = .ok (.aload_n 1, 1) := by decide +kernel
theorem dX5_copy_3 : decode cX5_copy 3 = .ok (.iconst 0, 1) := by decide +kernel
theorem dX5_copy_4 : decode cX5_copy 4 = .ok (.aload_n 0, 1) := by decide +kernel
theorem dX5_copy_5 : decode cX5_copy 5 = .ok (.arraylength, 1) := by decide +kernel
theorem dX5_copy_6 : decode cX5_copy 6 = .ok (.aload_n 1, 1) := by decide +kernel
theorem dX5_copy_7 : decode cX5_copy 7 = .ok (.arraylength, 1) := by decide +kernel
theorem dX5_copy_8 : decode cX5_copy 8 = .ok (.invokestatic 207, 3) := by decide +kernel
theorem dX5_copy_11 : decode cX5_copy 11 = .ok (.invokestatic 212, 3) := by decide +kernel
theorem dX5_copy_14 : decode cX5_copy 14 = .ok (.return_, 1) := by decide +kernel
theorem dJ9_floorMod_7cf53_0 : decode cJ9_floorMod_7cf53 0 = .ok (.iload_n 0, 1) := by decide +kernel
theorem dJ9_floorMod_7cf53_1 : decode cJ9_floorMod_7cf53 1 = .ok (.iload_n 1, 1) := by decide +kernel
theorem dJ9_floorMod_7cf53_2 : decode cJ9_floorMod_7cf53 2 = .ok (.irem, 1) := by decide +kernel
theorem dJ9_floorMod_7cf53_3 : decode cJ9_floorMod_7cf53 3 = .ok (.istore_n 2, 1) := by decide +kernel
theorem dJ9_floorMod_7cf53_4 : decode cJ9_floorMod_7cf53 4 = .ok (.iload_n 0, 1) := by decide +kernel
theorem dJ9_floorMod_7cf53_5 : decode cJ9_floorMod_7cf53 5 = .ok (.iload_n 1, 1) := by decide +kernel
theorem dJ9_floorMod_7cf53_6 : decode cJ9_floorMod_7cf53 6 = .ok (.ixor, 1) := by decide +kernel
theorem dJ9_floorMod_7cf53_7 : decode cJ9_floorMod_7cf53 7 = .ok (.ifCond .ge 11, 3) := by decide +kernel
theorem dJ9_floorMod_7cf53_10 : decode cJ9_floorMod_7cf53 10 = .ok (.iload_n 2, 1) := by decide +kernel
theorem dJ9_floorMod_7cf53_11 : decode cJ9_floorMod_7cf53 11 = .ok (.ifCond .eq 7, 3) := by decide +kernel
theorem dJ9_floorMod_7cf53_14 : decode cJ9_floorMod_7cf53 14 = .ok (.iload_n 2, 1) := by decide +kernel
theorem dJ9_floorMod_7cf53_15 : decode cJ9_floorMod_7cf53 15 = .ok (.iload_n 1, 1) := by decide +kernel
theorem dJ9_floorMod_7cf53_16 : decode cJ9_floorMod_7cf53 16 = .ok (.iadd, 1) := by decide +kernel
theorem dJ9_floorMod_7cf53_17 : decode cJ9_floorMod_7cf53 17 = .ok (.ireturn, 1) := by decide +kernel
theorem dJ9_floorMod_7cf53_18 : decode cJ9_floorMod_7cf53 18 = .ok (.iload_n 2, 1) := by decide +kernel
theorem dJ9_floorMod_7cf53_19 : decode cJ9_floorMod_7cf53 19 = .ok (.ireturn, 1) := by decide +kernel
theorem dJ9_max_7cf53_0 : decode cJ9_max_7cf53 0 = .ok (.iload_n 0, 1) := by decide +kernel
theorem dJ9_max_7cf53_1 : decode cJ9_max_7cf53 1 = .ok (.iload_n 1, 1) := by decide +kernel
theorem dJ9_max_7cf53_2 : decode cJ9_max_7cf53 2 = .ok (.if_icmp .lt 7, 3) := by decide +kernel
theorem dJ9_max_7cf53_5 : decode cJ9_max_7cf53 5 = .ok (.iload_n 0, 1) := by decide +kernel
theorem dJ9_max_7cf53_6 : decode cJ9_max_7cf53 6 = .ok (.goto 4, 3) := by decide +kernel
theorem dJ9_max_7cf53_9 : decode cJ9_max_7cf53 9 = .ok (.iload_n 1, 1) := by decide +kernel
theorem dJ9_max_7cf53_10 : decode cJ9_max_7cf53 10 = .ok (.ireturn, 1) := by decide +kernel
theorem dJ9_min_7cf53_0 : decode cJ9_min_7cf53 0 = .ok (.iload_n 0, 1) := by decide +kernel
theorem dJ9_min_7cf53_1 : decode cJ9_min_7cf53 1 = .ok (.iload_n 1, 1) := by decide +kernel
theorem dJ9_min_7cf53_2 : decode cJ9_min_7cf53 2 = .ok (.if_icmp .gt 7, 3) := by decide +kernel
theorem dJ9_min_7cf53_5 : decode cJ9_min_7cf53 5 = .ok (.iload_n 0, 1) := by decide +kernel
theorem dJ9_min_7cf53_6 : decode cJ9_min_7cf53 6 = .ok (.goto 4, 3) := by decide +kernel
theorem dJ9_min_7cf53_9 : decode cJ9_min_7cf53 9 = .ok (.iload_n 1, 1) := by decide +kernel
theorem dJ9_min_7cf53_10 : decode cJ9_min_7cf53 10 = .ok (.ireturn, 1) := by decide +kernel
