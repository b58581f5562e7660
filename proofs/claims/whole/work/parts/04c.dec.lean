theorem dX9_count_68 : decode cX9_count 68 = .ok (.getfield 166, 3) := by decide +kernel
theorem dX9_count_71 : decode cX9_count 71 = .ok (.ireturn, 1) := by decide +kernel
theorem dX9_count_72 : decode cX9_count 72 = .ok (.aload_n 0, 1) := by decide +kernel
theorem dX9_count_73 : decode cX9_count 73 = .ok (.getfield 12, 3) := by decide +kernel
theorem dX9_count_76 : decode cX9_count 76 = .ok (.invokevirtual 115, 3) := by decide +kernel
theorem dX9_count_79 : decode cX9_count 79 = .ok (.ifCond .eq 9, 3) := by decide +kernel
theorem dX9_count_82 : decode cX9_count 82 = .ok (.sipush (-1006), 3) := by decide +kernel
theorem dX9_count_85 : decode cX9_count 85 = .ok (.goto 10, 3) := by decide +kernel
theorem dX9_count_88 : decode cX9_count 88 = .ok (.aload_n 0, 1) := by decide +kernel
theorem dX9_count_89 : decode cX9_count 89 = .ok (.getfield 12, 3) := by decide +kernel
theorem dX9_count_92 : decode cX9_count 92 = .ok (.getfield 169, 3) := by decide +kernel
theorem dX9_count_95 : decode cX9_count 95 = .ok (.ireturn, 1) := by decide +kernel
theorem dX9_count_96 : decode cX9_count 96 = .ok (.aload_n 0, 1) := by decide +kernel
theorem dX9_count_97 : decode cX9_count 97 = .ok (.getfield 12, 3) := by decide +kernel
theorem dX9_count_100 : decode cX9_count 100 = .ok (.getfield 91, 3) := by decide +kernel
theorem dX9_count_103 : decode cX9_count 103 = .ok (.ireturn, 1) := by decide +kernel
theorem dX9_count_104 : decode cX9_count 104 = .ok (.aload_n 0, 1) := by decide +kernel
theorem dX9_count_105 : decode cX9_count 105 = .ok (.getfield 12, 3) := by decide +kernel
theorem dX9_count_108 : decode cX9_count 108 = .ok (.invokevirtual 172, 3) := by decide +kernel
theorem dX9_count_111 : decode cX9_count 111 = .ok (.ireturn, 1) := by decide +kernel
theorem dX9_count_112 : decode cX9_count 112 = .ok (.aload_n 0, 1) := by decide +kernel
theorem dX9_count_113 : decode cX9_count 113 = .ok (.getfield 12, 3) := by decide +kernel
theorem dX9_count_116 : decode cX9_count 116 = .ok (.getfield 175, 3) := by decide +kernel
theorem dX9_count_119 : decode cX9_count 119 = .ok (.ireturn, 1) := by decide +kernel
theorem dX9_count_120 : decode cX9_count 120 = .ok (.aload_n 0, 1) := by decide +kernel
theorem dX9_count_121 : decode cX9_count 121 = .ok (.getfield 12, 3) := by decide +kernel
theorem dX9_count_124 : decode cX9_count 124 = .ok (.getfield 95, 3) := by decide +kernel
theorem dX9_count_127 : decode cX9_count 127 = .ok (.getfield 160, 3) := by decide +kernel
theorem dX9_count_130 : decode cX9_count 130 = .ok (.aload_n 0, 1) := by decide +kernel
theorem dX9_count_131 : decode cX9_count 131 = .ok (.getfield 12, 3) := by decide +kernel
theorem dX9_count_134 : decode cX9_count 134 = .ok (.getfield 104, 3) := by decide +kernel
theorem dX9_count_137 : decode cX9_count 137 = .ok (.getfield 160, 3) := by decide +kernel
theorem dX9_count_140 : decode cX9_count 140 = .ok (.iadd, 1) := by decide +kernel
theorem dX9_count_141 : decode cX9_count 141 = .ok (.ireturn, 1) := by decide +kernel
theorem dX9_count_142 : decode cX9_count 142 = .ok (.aload_n 0, 1) := by decide +kernel
theorem dX9_count_143 : decode cX9_count 143 = .ok (.getfield 36, 3) := by decide +kernel
theorem dX9_count_146 : decode cX9_count 146 = .ok (.getfield 178, 3) := by decide +kernel
theorem dX9_count_149 : decode cX9_count 149 = .ok (.ireturn, 1) := by decide +kernel
theorem dX9_count_150 : decode cX9_count 150 = .ok (.aload_n 0, 1) := by decide +kernel
theorem dX9_count_151 : decode cX9_count 151 = .ok (.getfield 19, 3) := by decide +kernel
theorem dX9_count_154 : decode cX9_count 154 = .ok (.getfield 181, 3) := by decide +kernel
theorem dX9_count_157 : decode cX9_count 157 = .ok (.ireturn, 1) := by decide +kernel
theorem dX9_count_158 : decode cX9_count 158 = .ok (.sipush (-1002), 3) := by decide +kernel
theorem dX9_count_161 : decode cX9_count 161 = .ok (.ireturn, 1) := by decide +kernel
theorem dX9_forced_0 : decode cX9_forced 0 = .ok (.iload_n 1, 1) := by decide +kernel
theorem dX9_forced_1 : decode cX9_forced 1 = .ok (.invokestatic 141, 3) := by decide +kernel
theorem dX9_forced_4 : decode cX9_forced 4 = .ok (.ifCond .ne 7, 3) := by decide +kernel
theorem dX9_forced_7 : decode cX9_forced 7 = .ok (.sipush (-1001), 3) := by decide +kernel
theorem dX9_forced_10 : decode cX9_forced 10 = .ok (.ireturn, 1) := by decide +kernel
theorem dX9_forced_11 : decode cX9_forced 11 = .ok (.iload_n 2, 1) := by decide +kernel
theorem dX9_forced_12 : decode cX9_forced 12 = .ok (.iconst 0, 1) := by decide +kernel
theorem dX9_forced_13 : decode cX9_forced 13 = .ok (.bipush 8, 2) := by decide +kernel
theorem dX9_forced_15 : decode cX9_forced 15 = .ok (.invokestatic 87, 3) := by decide +kernel
theorem dX9_forced_18 : decode cX9_forced 18 = .ok (.ifCond .ne 7, 3) := by decide +kernel
theorem dX9_forced_21 : decode cX9_forced 21 = .ok (.sipush (-1002), 3) := by decide +kernel
theorem dX9_forced_24 : decode cX9_forced 24 = .ok (.ireturn, 1) := by decide +kernel
theorem dX9_forced_25 : decode cX9_forced 25 = .ok (.aload_n 0, 1) := by decide +kernel
theorem dX9_forced_26 : decode cX9_forced 26 = .ok (.iload_n 1, 1) := by decide +kernel
theorem dX9_forced_27 : decode cX9_forced 27 = .ok (.aload_n 0, 1) := by decide +kernel
theorem dX9_forced_28 : decode cX9_forced 28 = .ok (.getfield 12, 3) := by decide +kernel
theorem dX9_forced_31 : decode cX9_forced 31 = .ok (.iload_n 1, 1) := by decide +kernel
theorem dX9_forced_32 : decode cX9_forced 32 = .ok (.invokevirtual 151, 3) := by decide +kernel
theorem dX9_forced_35 : decode cX9_forced 35 = .ok (.invokevirtual 163, 3) := by decide +kernel
theorem dX9_forced_38 : decode cX9_forced 38 = .ok (.iload_n 2, 1) := by decide +kernel
theorem dX9_forced_39 : decode cX9_forced 39 = .ok (.if_icmp .gt 7, 3) := by decide +kernel
theorem dX9_forced_42 : decode cX9_forced 42 = .ok (.iconst 1, 1) := by decide +kernel
theorem dX9_forced_43 : decode cX9_forced 43 = .ok (.goto 4, 3) := by decide +kernel
theorem dX9_forced_46 : decode cX9_forced 46 = .ok (.iconst 0, 1) := by decide +kernel
theorem dX9_forced_47 : decode cX9_forced 47 = .ok (.ireturn, 1) := by decide +kernel
theorem dX9_ahead_0 : decode cX9_ahead 0 = .ok (.iload_n 1, 1) := by decide +kernel
theorem dX9_ahead_1 : decode cX9_ahead 1 = .ok (.invokestatic 141, 3) := by decide +kernel
theorem dX9_ahead_4 : decode cX9_ahead 4 = .ok (.ifCond .ne 7, 3) := by decide +kernel
theorem dX9_ahead_7 : decode cX9_ahead 7 = .ok (.sipush (-1001), 3) := by decide +kernel
theorem dX9_ahead_10 : decode cX9_ahead 10 = .ok (.ireturn, 1) := by decide +kernel
theorem dX9_ahead_11 : decode cX9_ahead 11 = .ok (.iload_n 2, 1) := by decide +kernel
theorem dX9_ahead_12 : decode cX9_ahead 12 = .ok (.iconst 0, 1) := by decide +kernel
theorem dX9_ahead_13 : decode cX9_ahead 13 = .ok (.iconst 3, 1) := by decide +kernel
theorem dX9_ahead_14 : decode cX9_ahead 14 = .ok (.invokestatic 87, 3) := by decide +kernel
theorem dX9_ahead_17 : decode cX9_ahead 17 = .ok (.ifCond .ne 7, 3) := by decide +kernel
theorem dX9_ahead_20 : decode cX9_ahead 20 = .ok (.sipush (-1002), 3) := by decide +kernel
theorem dX9_ahead_23 : decode cX9_ahead 23 = .ok (.ireturn, 1) := by decide +kernel
theorem dX9_ahead_24 : decode cX9_ahead 24 = .ok (.aload_n 0, 1) := by decide +kernel
theorem dX9_ahead_25 : decode cX9_ahead 25 = .ok (.getfield 59, 3) := by decide +kernel
theorem dX9_ahead_28 : decode cX9_ahead 28 = .ok (.iload_n 1, 1) := by decide +kernel
theorem dX9_ahead_29 : decode cX9_ahead 29 = .ok (.iload_n 2, 1) := by decide +kernel
theorem dX9_ahead_30 : decode cX9_ahead 30 = .ok (.invokevirtual 184, 3) := by decide +kernel
theorem dX9_ahead_33 : decode cX9_ahead 33 = .ok (.ifCond .eq 7, 3) := by decide +kernel
theorem dX9_ahead_36 : decode cX9_ahead 36 = .ok (.iconst 1, 1) := by decide +kernel
theorem dX9_ahead_37 : decode cX9_ahead 37 = .ok (.goto 4, 3) := by decide +kernel
theorem dX9_ahead_40 : decode cX9_ahead 40 = .ok (.iconst 0, 1) := by decide +kernel
theorem dX9_ahead_41 : decode cX9_ahead 41 = .ok (.ireturn, 1) := by decide +kernel
theorem dX9_bestBid_0 : decode cX9_bestBid 0 = .ok (.aload_n 0, 1) := by decide +kernel
theorem dX9_bestBid_1 : decode cX9_bestBid 1 = .ok (.getfield 12, 3) := by decide +kernel
theorem dX9_bestBid_4 : decode cX9_bestBid 4 = .ok (.invokevirtual 115, 3) := by decide +kernel
theorem dX9_bestBid_7 : decode cX9_bestBid 7 = .ok (.ifCond .eq 7, 3) := by decide +kernel
theorem dX9_bestBid_10 : decode cX9_bestBid 10 = .ok (.sipush (-1005), 3) := by decide +kernel
theorem dX9_bestBid_13 : decode cX9_bestBid 13 = .ok (.ireturn, 1) := by decide +kernel
theorem dX9_bestBid_14 : decode cX9_bestBid 14 = .ok (.aload_n 0, 1) := by decide +kernel
theorem dX9_bestBid_15 : decode cX9_bestBid 15 = .ok (.getfield 52, 3) := by decide +kernel
theorem dX9_bestBid_18 : decode cX9_bestBid 18 = .ok (.aload_n 0, 1) := by decide +kernel
theorem dX9_bestBid_19 : decode cX9_bestBid 19 = .ok (.invokevirtual 119, 3) := by decide +kernel
theorem dX9_bestBid_22 : decode cX9_bestBid 22 = .ok (.invokevirtual 123, 3) := by decide +kernel
theorem dX9_bestBid_25 : decode cX9_bestBid 25 = .ok (.ireturn, 1) := by decide +kernel
theorem dX9_bestAnswer_0 : decode cX9_bestAnswer 0 = .ok (.iload_n 1, 1) := by decide +kernel
theorem dX9_bestAnswer_1 : decode cX9_bestAnswer 1 = .ok (.iconst 0, 1) := by decide +kernel
theorem dX9_bestAnswer_2 : decode cX9_bestAnswer 2 = .ok (.bipush 14, 2) := by decide +kernel
theorem dX9_bestAnswer_4 : decode cX9_bestAnswer 4 = .ok (.invokestatic 87, 3) := by decide +kernel
theorem dX9_bestAnswer_7 : decode cX9_bestAnswer 7 = .ok (.ifCond .ne 7, 3) := by decide +kernel
theorem dX9_bestAnswer_10 : decode cX9_bestAnswer 10 = .ok (.sipush (-1002), 3) := by decide +kernel
theorem dX9_bestAnswer_13 : decode cX9_bestAnswer 13 = .ok (.ireturn, 1) := by decide +kernel
theorem dX9_bestAnswer_14 : decode cX9_bestAnswer 14 = .ok (.aload_n 0, 1) := by decide +kernel
theorem dX9_bestAnswer_15 : decode cX9_bestAnswer 15 = .ok (.getfield 12, 3) := by decide +kernel
theorem dX9_bestAnswer_18 : decode cX9_bestAnswer 18 = .ok (.iload_n 1, 1) := by decide +kernel
theorem dX9_bestAnswer_19 : decode cX9_bestAnswer 19 = .ok (.iconst 0, 1) := by decide +kernel
theorem dX9_bestAnswer_20 : decode cX9_bestAnswer 20 = .ok (.invokevirtual 107, 3) := by decide +kernel
theorem dX9_bestAnswer_23 : decode cX9_bestAnswer 23 = .ok (.ifCond .ne 7, 3) := by decide +kernel
theorem dX9_bestAnswer_26 : decode cX9_bestAnswer 26 = .ok (.sipush (-1005), 3) := by decide +kernel
theorem dX9_bestAnswer_29 : decode cX9_bestAnswer 29 = .ok (.ireturn, 1) := by decide +kernel
theorem dX9_bestAnswer_30 : decode cX9_bestAnswer 30 = .ok (.aload_n 0, 1) := by decide +kernel
theorem dX9_bestAnswer_31 : decode cX9_bestAnswer 31 = .ok (.getfield 52, 3) := by decide +kernel
theorem dX9_bestAnswer_34 : decode cX9_bestAnswer 34 = .ok (.aload_n 0, 1) := by decide +kernel
theorem dX9_bestAnswer_35 : decode cX9_bestAnswer 35 = .ok (.invokevirtual 119, 3) := by decide +kernel
theorem dX9_bestAnswer_38 : decode cX9_bestAnswer 38 = .ok (.iload_n 1, 1) := by decide +kernel
theorem dX9_bestAnswer_39 : decode cX9_bestAnswer 39 = .ok (.invokevirtual 127, 3) := by decide +kernel
theorem dX9_bestAnswer_42 : decode cX9_bestAnswer 42 = .ok (.ireturn, 1) := by decide +kernel
theorem dX9_keeps_0 : decode cX9_keeps 0 = .ok (.aload_n 0, 1) := by decide +kernel
theorem dX9_keeps_1 : decode cX9_keeps 1 = .ok (.getfield 12, 3) := by decide +kernel
theorem dX9_keeps_4 : decode cX9_keeps 4 = .ok (.invokevirtual 115, 3) := by decide +kernel
theorem dX9_keeps_7 : decode cX9_keeps 7 = .ok (.ifCond .eq 7, 3) := by decide +kernel
theorem dX9_keeps_10 : decode cX9_keeps 10 = .ok (.sipush (-1005), 3) := by decide +kernel
theorem dX9_keeps_13 : decode cX9_keeps 13 = .ok (.ireturn, 1) := by decide +kernel
theorem dX9_keeps_14 : decode cX9_keeps 14 = .ok (.aload_n 0, 1) := by decide +kernel
theorem dX9_keeps_15 : decode cX9_keeps 15 = .ok (.getfield 52, 3) := by decide +kernel
theorem dX9_keeps_18 : decode cX9_keeps 18 = .ok (.aload_n 0, 1) := by decide +kernel
theorem dX9_keeps_19 : decode cX9_keeps 19 = .ok (.invokevirtual 119, 3) := by decide +kernel
theorem dX9_keeps_22 : decode cX9_keeps 22 = .ok (.invokevirtual 187, 3) := by decide +kernel
theorem dX9_keeps_25 : decode cX9_keeps 25 = .ok (.ireturn, 1) := by decide +kernel
theorem dX9_leastHours_0 : decode cX9_leastHours 0 = .ok (.iload_n 1, 1) := by decide +kernel
theorem dX9_leastHours_1 : decode cX9_leastHours 1 = .ok (.invokestatic 141, 3) := by decide +kernel
theorem dX9_leastHours_4 : decode cX9_leastHours 4 = .ok (.ifCond .ne 7, 3) := by decide +kernel
theorem dX9_leastHours_7 : decode cX9_leastHours 7 = .ok (.sipush (-1001), 3) := by decide +kernel
theorem dX9_leastHours_10 : decode cX9_leastHours 10 = .ok (.ireturn, 1) := by decide +kernel
theorem dX9_leastHours_11 : decode cX9_leastHours 11 = .ok (.aload_n 0, 1) := by decide +kernel
theorem dX9_leastHours_12 : decode cX9_leastHours 12 = .ok (.getfield 12, 3) := by decide +kernel
theorem dX9_leastHours_15 : decode cX9_leastHours 15 = .ok (.invokevirtual 115, 3) := by decide +kernel
theorem dX9_leastHours_18 : decode cX9_leastHours 18 = .ok (.ifCond .eq 7, 3) := by decide +kernel
theorem dX9_leastHours_21 : decode cX9_leastHours 21 = .ok (.sipush (-1005), 3) := by decide +kernel
theorem dX9_leastHours_24 : decode cX9_leastHours 24 = .ok (.ireturn, 1) := by decide +kernel
theorem dX9_leastHours_25 : decode cX9_leastHours 25 = .ok (.iconst 0, 1) := by decide +kernel
theorem dX9_leastHours_26 : decode cX9_leastHours 26 = .ok (.istore_n 2, 1) := by decide +kernel
theorem dX9_leastHours_27 : decode cX9_leastHours 27 = .ok (.iload_n 2, 1) := by decide +kernel
theorem dX9_leastHours_28 : decode cX9_leastHours 28 = .ok (.bipush 6, 2) := by decide +kernel
theorem dX9_leastHours_30 : decode cX9_leastHours 30 = .ok (.if_icmp .gt 30, 3) := by decide +kernel
theorem dX9_leastHours_33 : decode cX9_leastHours 33 = .ok (.aload_n 0, 1) := by decide +kernel
theorem dX9_leastHours_34 : decode cX9_leastHours 34 = .ok (.iload_n 1, 1) := by decide +kernel
theorem dX9_leastHours_35 : decode cX9_leastHours 35 = .ok (.iload_n 2, 1) := by decide +kernel
theorem dX9_leastHours_36 : decode cX9_leastHours 36 = .ok (.aload_n 0, 1) := by decide +kernel
theorem dX9_leastHours_37 : decode cX9_leastHours 37 = .ok (.getfield 12, 3) := by decide +kernel
theorem dX9_leastHours_40 : decode cX9_leastHours 40 = .ok (.getfield 190, 3) := by decide +kernel
theorem dX9_leastHours_43 : decode cX9_leastHours 43 = .ok (.iadd, 1) := by decide +kernel
theorem dX9_leastHours_44 : decode cX9_leastHours 44 = .ok (.invokevirtual 163, 3) := by decide +kernel
theorem dX9_leastHours_47 : decode cX9_leastHours 47 = .ok (.bipush 9, 2) := by decide +kernel
theorem dX9_leastHours_49 : decode cX9_leastHours 49 = .ok (.if_icmp .ge 5, 3) := by decide +kernel
theorem dX9_leastHours_52 : decode cX9_leastHours 52 = .ok (.iload_n 2, 1) := by decide +kernel
theorem dX9_leastHours_53 : decode cX9_leastHours 53 = .ok (.ireturn, 1) := by decide +kernel
theorem dX9_leastHours_54 : decode cX9_leastHours 54 = .ok (.iinc 2 1, 3) := by decide +kernel
theorem dX9_leastHours_57 : decode cX9_leastHours 57 = .ok (.goto (-30), 3) := by decide +kernel
theorem dX9_leastHours_60 : decode cX9_leastHours 60 = .ok (.sipush (-1006), 3) := by decide +kernel
theorem dX9_leastHours_63 : decode cX9_leastHours 63 = .ok (.ireturn, 1) := by decide +kernel
theorem dX9_put_0 : decode cX9_put 0 = .ok (.lload_n 1, 1) := by decide +kernel
theorem dX9_put_1 : decode cX9_put 1 = .ok (.invokestatic 193, 3) := by decide +kernel
theorem dX9_put_4 : decode cX9_put 4 = .ok (.istore_n 3, 1) := by decide +kernel
theorem dX9_put_5 : decode cX9_put 5 = .ok (.iload_n 3, 1) := by decide +kernel
theorem dX9_put_6 : decode cX9_put 6 = .ok (.ifCond .ne 7, 3) := by decide +kernel
theorem dX9_put_9 : decode cX9_put 9 = .ok (.sipush (-1002), 3) := by decide +kernel
theorem dX9_put_12 : decode cX9_put 12 = .ok (.ireturn, 1) := by decide +kernel
theorem dX9_put_13 : decode cX9_put 13 = .ok (.aload_n 0, 1) := by decide +kernel
theorem dX9_put_14 : decode cX9_put 14 = .ok (.getfield 36, 3) := by decide +kernel
theorem dX9_put_17 : decode cX9_put 17 = .ok (.getfield 178, 3) := by decide +kernel
theorem dX9_put_20 : decode cX9_put 20 = .ok (.iload_n 3, 1) := by decide +kernel
theorem dX9_put_21 : decode cX9_put 21 = .ok (.iadd, 1) := by decide +kernel
theorem dX9_put_22 : decode cX9_put 22 = .ok (.bipush 60, 2) := by decide +kernel
theorem dX9_put_24 : decode cX9_put 24 = .ok (.if_icmp .le 7, 3) := by decide +kernel
theorem dX9_put_27 : decode cX9_put 27 = .ok (.sipush (-1004), 3) := by decide +kernel
theorem dX9_put_30 : decode cX9_put 30 = .ok (.ireturn, 1) := by decide +kernel
theorem dX9_put_31 : decode cX9_put 31 = .ok (.aload_n 0, 1) := by decide +kernel
theorem dX9_put_32 : decode cX9_put 32 = .ok (.getfield 36, 3) := by decide +kernel
theorem dX9_put_35 : decode cX9_put 35 = .ok (.lload_n 1, 1) := by decide +kernel
theorem dX9_put_36 : decode cX9_put 36 = .ok (.iload_n 3, 1) := by decide +kernel
theorem dX9_put_37 : decode cX9_put 37 = .ok (.invokevirtual 197, 3) := by decide +kernel
theorem dX9_put_40 : decode cX9_put 40 = .ok (.aload_n 0, 1) := by decide +kernel
theorem dX9_put_41 : decode cX9_put 41 = .ok (.getfield 36, 3) := by decide +kernel
theorem dX9_put_44 : decode cX9_put 44 = .ok (.getfield 178, 3) := by decide +kernel
theorem dX9_put_47 : decode cX9_put 47 = .ok (.ireturn, 1) := by decide +kernel
theorem dX9_wipe_0 : decode cX9_wipe 0 = .ok (.aload_n 0, 1) := by decide +kernel
theorem dX9_wipe_1 : decode cX9_wipe 1 = .ok (.getfield 36, 3) := by decide +kernel
theorem dX9_wipe_4 : decode cX9_wipe 4 = .ok (.getfield 178, 3) := by decide +kernel
theorem dX9_wipe_7 : decode cX9_wipe 7 = .ok (.istore_n 1, 1) := by decide +kernel
theorem dX9_wipe_8 : decode cX9_wipe 8 = .ok (.aload_n 0, 1) := by decide +kernel
theorem dX9_wipe_9 : decode cX9_wipe 9 = .ok (.getfield 36, 3) := by decide +kernel
theorem dX9_wipe_12 : decode cX9_wipe 12 = .ok (.invokevirtual 138, 3) := by decide +kernel
theorem dX9_wipe_15 : decode cX9_wipe 15 = .ok (.iload_n 1, 1) := by decide +kernel
theorem dX9_wipe_16 : decode cX9_wipe 16 = .ok (.ireturn, 1) := by decide +kernel
theorem dX9_fault_0 : decode cX9_fault 0 = .ok (.aload_n 0, 1) := by decide +kernel
theorem dX9_fault_1 : decode cX9_fault 1 = .ok (.getfield 36, 3) := by decide +kernel
theorem dX9_fault_4 : decode cX9_fault 4 = .ok (.invokevirtual 131, 3) := by decide +kernel
theorem dX9_fault_7 : decode cX9_fault 7 = .ok (.ireturn, 1) := by decide +kernel
theorem dX9_undo_0 : decode cX9_undo 0 = .ok (.aload_n 0, 1) := by decide +kernel
theorem dX9_undo_1 : decode cX9_undo 1 = .ok (.getfield 19, 3) := by decide +kernel
theorem dX9_undo_4 : decode cX9_undo 4 = .ok (.getfield 181, 3) := by decide +kernel
theorem dX9_undo_7 : decode cX9_undo 7 = .ok (.ifCond .ne 7, 3) := by decide +kernel
theorem dX9_undo_10 : decode cX9_undo 10 = .ok (.sipush (-1005), 3) := by decide +kernel
theorem dX9_undo_13 : decode cX9_undo 13 = .ok (.ireturn, 1) := by decide +kernel
theorem dX9_undo_14 : decode cX9_undo 14 = .ok (.aload_n 0, 1) := by decide +kernel
theorem dX9_undo_15 : decode cX9_undo 15 = .ok (.getfield 19, 3) := by decide +kernel
theorem dX9_undo_18 : decode cX9_undo 18 = .ok (.aload_n 0, 1) := by decide +kernel
theorem dX9_undo_19 : decode cX9_undo 19 = .ok (.getfield 12, 3) := by decide +kernel
theorem dX9_undo_22 : decode cX9_undo 22 = .ok (.invokevirtual 201, 3) := by decide +kernel
theorem dX9_undo_25 : decode cX9_undo 25 = .ok (.aload_n 0, 1) := by decide +kernel
theorem dX9_undo_26 : decode cX9_undo 26 = .ok (.getfield 19, 3) := by decide +kernel
theorem dX9_undo_29 : decode cX9_undo 29 = .ok (.getfield 181, 3) := by decide +kernel
theorem dX9_undo_32 : decode cX9_undo 32 = .ok (.ireturn, 1) := by decide +kernel
theorem dX9_save_0 : decode cX9_save 0 = .ok (.iload_n 1, 1) := by decide +kernel
theorem dX9_save_1 : decode cX9_save 1 = .ok (.invokestatic 204, 3) := by decide +kernel
theorem dX9_save_4 : decode cX9_save 4 = .ok (.ifCond .ne 7, 3) := by decide +kernel
theorem dX9_save_7 : decode cX9_save 7 = .ok (.sipush (-1002), 3) := by decide +kernel
theorem dX9_save_10 : decode cX9_save 10 = .ok (.ireturn, 1) := by decide +kernel
theorem dX9_save_11 : decode cX9_save 11 = .ok (.aload_n 0, 1) := by decide +kernel
theorem dX9_save_12 : decode cX9_save 12 = .ok (.iload_n 1, 1) := by decide +kernel
theorem dX9_save_13 : decode cX9_save 13 = .ok (.invokevirtual 207, 3) := by decide +kernel
theorem dX9_save_16 : decode cX9_save 16 = .ok (.astore_n 2, 1) := by decide +kernel
theorem dX9_save_17 : decode cX9_save 17 = .ok (.aload_n 2, 1) := by decide +kernel
theorem dX9_save_18 : decode cX9_save 18 = .ok (.getfield 211, 3) := by decide +kernel
theorem dX9_save_21 : decode cX9_save 21 = .ok (.aload_n 0, 1) := by decide +kernel
theorem dX9_save_22 : decode cX9_save 22 = .ok (.getfield 12, 3) := by decide +kernel
theorem dX9_save_25 : decode cX9_save 25 = .ok (.invokevirtual 214, 3) := by decide +kernel
theorem dX9_save_28 : decode cX9_save 28 = .ok (.aload_n 2, 1) := by decide +kernel
theorem dX9_save_29 : decode cX9_save 29 = .ok (.iconst 1, 1) := by decide +kernel
theorem dX9_save_30 : decode cX9_save 30 = .ok (.putfield 217, 3) := by decide +kernel
theorem dX9_save_33 : decode cX9_save 33 = .ok (.aload_n 0, 1) := by decide +kernel
theorem dX9_save_34 : decode cX9_save 34 = .ok (.getfield 12, 3) := by decide +kernel
theorem dX9_save_37 : decode cX9_save 37 = .ok (.getfield 91, 3) := by decide +kernel
theorem dX9_save_40 : decode cX9_save 40 = .ok (.ireturn, 1) := by decide +kernel
theorem dX9_restore_0 : decode cX9_restore 0 = .ok (.iload_n 1, 1) := by decide +kernel
theorem dX9_restore_1 : decode cX9_restore 1 = .ok (.invokestatic 204, 3) := by decide +kernel
theorem dX9_restore_4 : decode cX9_restore 4 = .ok (.ifCond .ne 7, 3) := by decide +kernel
theorem dX9_restore_7 : decode cX9_restore 7 = .ok (.sipush (-1002), 3) := by decide +kernel
theorem dX9_restore_10 : decode cX9_restore 10 = .ok (.ireturn, 1) := by decide +kernel
theorem dX9_restore_11 : decode cX9_restore 11 = .ok (.aload_n 0, 1) := by decide +kernel
theorem dX9_restore_12 : decode cX9_restore 12 = .ok (.iload_n 1, 1) := by decide +kernel
theorem dX9_restore_13 : decode cX9_restore 13 = .ok (.invokevirtual 207, 3) := by decide +kernel
theorem dX9_restore_16 : decode cX9_restore 16 = .ok (.astore_n 2, 1) := by decide +kernel
theorem dX9_restore_17 : decode cX9_restore 17 = .ok (.aload_n 2, 1) := by decide +kernel
theorem dX9_restore_18 : decode cX9_restore 18 = .ok (.getfield 217, 3) := by decide +kernel
theorem dX9_restore_21 : decode cX9_restore 21 = .ok (.ifCond .ne 7, 3) := by decide +kernel
theorem dX9_restore_24 : decode cX9_restore 24 = .ok (.sipush (-1005), 3) := by decide +kernel
theorem dX9_restore_27 : decode cX9_restore 27 = .ok (.ireturn, 1) := by decide +kernel
theorem dX9_restore_28 : decode cX9_restore 28 = .ok (.aload_n 0, 1) := by decide +kernel
theorem dX9_restore_29 : decode cX9_restore 29 = .ok (.getfield 19, 3) := by decide +kernel
theorem dX9_restore_32 : decode cX9_restore 32 = .ok (.aload_n 0, 1) := by decide +kernel
theorem dX9_restore_33 : decode cX9_restore 33 = .ok (.getfield 12, 3) := by decide +kernel
theorem dX9_restore_36 : decode cX9_restore 36 = .ok (.invokevirtual 77, 3) := by decide +kernel
theorem dX9_restore_39 : decode cX9_restore 39 = .ok (.aload_n 0, 1) := by decide +kernel
theorem dX9_restore_40 : decode cX9_restore 40 = .ok (.getfield 12, 3) := by decide +kernel
theorem dX9_restore_43 : decode cX9_restore 43 = .ok (.aload_n 2, 1) := by decide +kernel
theorem dX9_restore_44 : decode cX9_restore 44 = .ok (.getfield 211, 3) := by decide +kernel
theorem dX9_restore_47 : decode cX9_restore 47 = .ok (.invokevirtual 214, 3) := by decide +kernel
theorem dX9_restore_50 : decode cX9_restore 50 = .ok (.aload_n 0, 1) := by decide +kernel
theorem dX9_restore_51 : decode cX9_restore 51 = .ok (.getfield 12, 3) := by decide +kernel
theorem dX9_restore_54 : decode cX9_restore 54 = .ok (.getfield 91, 3) := by decide +kernel
theorem dX9_restore_57 : decode cX9_restore 57 = .ok (.ireturn, 1) := by decide +kernel
theorem dX9_isBetween_0 : decode cX9_isBetween 0 = .ok (.iload_n 0, 1) := by decide +kernel
theorem dX9_isBetween_1 : decode cX9_isBetween 1 = .ok (.iload_n 1, 1) := by decide +kernel
theorem dX9_isBetween_2 : decode cX9_isBetween 2 = .ok (.if_icmp .lt 12, 3) := by decide +kernel
theorem dX9_isBetween_5 : decode cX9_isBetween 5 = .ok (.iload_n 0, 1) := by decide +kernel
theorem dX9_isBetween_6 : decode cX9_isBetween 6 = .ok (.iload_n 2, 1) := by decide +kernel
theorem dX9_isBetween_7 : decode cX9_isBetween 7 = .ok (.if_icmp .gt 7, 3) := by decide +kernel
theorem dX9_isBetween_10 : decode cX9_isBetween 10 = .ok (.iconst 1, 1) := by decide +kernel
theorem dX9_isBetween_11 : decode cX9_isBetween 11 = .ok (.goto 4, 3) := by decide +kernel
theorem dX9_isBetween_14 : decode cX9_isBetween 14 = .ok (.iconst 0, 1) := by decide +kernel
theorem dX9_isBetween_15 : decode cX9_isBetween 15 = .ok (.ireturn, 1) := by decide +kernel
theorem dX9_isPlayer_0 : decode cX9_isPlayer 0 = .ok (.iload_n 0, 1) := by decide +kernel
theorem dX9_isPlayer_1 : decode cX9_isPlayer 1 = .ok (.ifCond .eq 8, 3) := by decide +kernel
theorem dX9_isPlayer_4 : decode cX9_isPlayer 4 = .ok (.iload_n 0, 1) := by decide +kernel
theorem dX9_isPlayer_5 : decode cX9_isPlayer 5 = .ok (.iconst 1, 1) := by decide +kernel
theorem dX9_isPlayer_6 : decode cX9_isPlayer 6 = .ok (.if_icmp .ne 7, 3) := by decide +kernel
theorem dX9_isPlayer_9 : decode cX9_isPlayer 9 = .ok (.iconst 1, 1) := by decide +kernel
theorem dX9_isPlayer_10 : decode cX9_isPlayer 10 = .ok (.goto 4, 3) := by decide +kernel
theorem dX9_isPlayer_13 : decode cX9_isPlayer 13 = .ok (.iconst 0, 1) := by decide +kernel
theorem dX9_isPlayer_14 : decode cX9_isPlayer 14 = .ok (.ireturn, 1) := by decide +kernel
theorem dX9_isSlot_0 : decode cX9_isSlot 0 = .ok (.iload_n 0, 1) := by decide +kernel
theorem dX9_isSlot_1 : decode cX9_isSlot 1 = .ok (.ifCond .eq 8, 3) := by decide +kernel
theorem dX9_isSlot_4 : decode cX9_isSlot 4 = .ok (.iload_n 0, 1) := by decide +kernel
theorem dX9_isSlot_5 : decode cX9_isSlot 5 = .ok (.iconst 1, 1) := by decide +kernel
theorem dX9_isSlot_6 : decode cX9_isSlot 6 = .ok (.if_icmp .ne 7, 3) := by decide +kernel
theorem dX9_isSlot_9 : decode cX9_isSlot 9 = .ok (.iconst 1, 1) := by decide +kernel
theorem dX9_isSlot_10 : decode cX9_isSlot 10 = .ok (.goto 4, 3) := by decide +kernel
theorem dX9_isSlot_13 : decode cX9_isSlot 13 = .ok (.iconst 0, 1) := by decide +kernel
theorem dX9_isSlot_14 : decode cX9_isSlot 14 = .ok (.ireturn, 1) := by decide +kernel
theorem dX9_isSetting_0 : decode cX9_isSetting 0 = .ok (.iload_n 0, 1) := by decide +kernel
theorem dX9_isSetting_1 : decode cX9_isSetting 1 = .ok (.iconst 0, 1) := by decide +kernel
theorem dX9_isSetting_2 : decode cX9_isSetting 2 = .ok (.iconst 3, 1) := by decide +kernel
theorem dX9_isSetting_3 : decode cX9_isSetting 3 = .ok (.invokestatic 87, 3) := by decide +kernel
theorem dX9_isSetting_6 : decode cX9_isSetting 6 = .ok (.ireturn, 1) := by decide +kernel
theorem dX9_leastSetting_0 : decode cX9_leastSetting 0 = .ok (.iload_n 0, 1) := by decide +kernel
theorem dX9_leastSetting_1 : decode cX9_leastSetting 1 = .ok (.ifCond .ne 7, 3) := by decide +kernel
theorem dX9_leastSetting_4 : decode cX9_leastSetting 4 = .ok (.iconst 1, 1) := by decide +kernel
theorem dX9_leastSetting_5 : decode cX9_leastSetting 5 = .ok (.goto 4, 3) := by decide +kernel
theorem dX9_leastSetting_8 : decode cX9_leastSetting 8 = .ok (.iconst 0, 1) := by decide +kernel
theorem dX9_leastSetting_9 : decode cX9_leastSetting 9 = .ok (.ireturn, 1) := by decide +kernel
theorem dX9_mostSetting_0 : decode cX9_mostSetting 0 = .ok (.iload_n 0, 1) := by decide +kernel
theorem dX9_mostSetting_1 : decode cX9_mostSetting 1 = .ok (.lookupswitch 31 #[(0, 27), (1, 29)], 27) := by decide +kernel
theorem dX9_mostSetting_28 : decode cX9_mostSetting 28 = .ok (.iconst 3, 1) := by decide +kernel
theorem dX9_mostSetting_29 : decode cX9_mostSetting 29 = .ok (.ireturn, 1) := by decide +kernel
theorem dX9_mostSetting_30 : decode cX9_mostSetting 30 = .ok (.iconst 2, 1) := by decide +kernel
theorem dX9_mostSetting_31 : decode cX9_mostSetting 31 = .ok (.ireturn, 1) := by decide +kernel
theorem dX9_mostSetting_32 : decode cX9_mostSetting 32 = .ok (.iconst 1, 1) := by decide +kernel
theorem dX9_mostSetting_33 : decode cX9_mostSetting 33 = .ok (.ireturn, 1) := by decide +kernel
theorem dX9_slotOf_0 : decode cX9_slotOf 0 = .ok (.iload_n 1, 1) := by decide +kernel
theorem dX9_slotOf_1 : decode cX9_slotOf 1 = .ok (.ifCond .ne 10, 3) := by decide +kernel
theorem dX9_slotOf_4 : decode cX9_slotOf 4 = .ok (.aload_n 0, 1) := by decide +kernel
theorem dX9_slotOf_5 : decode cX9_slotOf 5 = .ok (.getfield 26, 3) := by decide +kernel
theorem dX9_slotOf_8 : decode cX9_slotOf 8 = .ok (.goto 7, 3) := by decide +kernel
theorem dX9_slotOf_11 : decode cX9_slotOf 11 = .ok (.aload_n 0, 1) := by decide +kernel
theorem dX9_slotOf_12 : decode cX9_slotOf 12 = .ok (.getfield 30, 3) := by decide +kernel
theorem dX9_slotOf_15 : decode cX9_slotOf 15 = .ok (.areturn, 1) := by decide +kernel
theorem dX9_timeWith_0 : decode cX9_timeWith 0 = .ok (.aload_n 0, 1) := by decide +kernel
theorem dX9_timeWith_1 : decode cX9_timeWith 1 = .ok (.getfield 12, 3) := by decide +kernel
theorem dX9_timeWith_4 : decode cX9_timeWith 4 = .ok (.iconst 1, 1) := by decide +kernel
theorem dX9_timeWith_5 : decode cX9_timeWith 5 = .ok (.iload_n 1, 1) := by decide +kernel
theorem dX9_timeWith_6 : decode cX9_timeWith 6 = .ok (.isub, 1) := by decide +kernel
theorem dX9_timeWith_7 : decode cX9_timeWith 7 = .ok (.invokevirtual 151, 3) := by decide +kernel
theorem dX9_timeWith_10 : decode cX9_timeWith 10 = .ok (.istore_n 3, 1) := by decide +kernel
theorem dX9_timeWith_11 : decode cX9_timeWith 11 = .ok (.aload_n 0, 1) := by decide +kernel
theorem dX9_timeWith_12 : decode cX9_timeWith 12 = .ok (.getfield 43, 3) := by decide +kernel
theorem dX9_timeWith_15 : decode cX9_timeWith 15 = .ok (.aload_n 0, 1) := by decide +kernel
theorem dX9_timeWith_16 : decode cX9_timeWith 16 = .ok (.getfield 12, 3) := by decide +kernel
theorem dX9_timeWith_19 : decode cX9_timeWith 19 = .ok (.iload_n 2, 1) := by decide +kernel
theorem dX9_timeWith_20 : decode cX9_timeWith 20 = .ok (.iload_n 3, 1) := by decide +kernel
theorem dX9_timeWith_21 : decode cX9_timeWith 21 = .ok (.iadd, 1) := by decide +kernel
theorem dX9_timeWith_22 : decode cX9_timeWith 22 = .ok (.invokevirtual 221, 3) := by decide +kernel
theorem dX9_timeWith_25 : decode cX9_timeWith 25 = .ok (.astore 4, 2) := by decide +kernel
theorem dX9_timeWith_27 : decode cX9_timeWith 27 = .ok (.aload 4, 2) := by decide +kernel
theorem dX9_timeWith_29 : decode cX9_timeWith 29 = .ok (.aload_n 0, 1) := by decide +kernel
theorem dX9_timeWith_30 : decode cX9_timeWith 30 = .ok (.getfield 12, 3) := by decide +kernel
theorem dX9_timeWith_33 : decode cX9_timeWith 33 = .ok (.iload_n 1, 1) := by decide +kernel
theorem dX9_timeWith_34 : decode cX9_timeWith 34 = .ok (.invokevirtual 225, 3) := by decide +kernel
theorem dX9_timeWith_37 : decode cX9_timeWith 37 = .ok (.iload_n 2, 1) := by decide +kernel
theorem dX9_timeWith_38 : decode cX9_timeWith 38 = .ok (.iload_n 3, 1) := by decide +kernel
theorem dX9_timeWith_39 : decode cX9_timeWith 39 = .ok (.iload_n 1, 1) := by decide +kernel
theorem dX9_timeWith_40 : decode cX9_timeWith 40 = .ok (.aload_n 0, 1) := by decide +kernel
theorem dX9_timeWith_41 : decode cX9_timeWith 41 = .ok (.getfield 12, 3) := by decide +kernel
theorem dX9_timeWith_44 : decode cX9_timeWith 44 = .ok (.getfield 169, 3) := by decide +kernel
theorem dX9_timeWith_47 : decode cX9_timeWith 47 = .ok (.if_icmp .ne 7, 3) := by decide +kernel
theorem dX9_timeWith_50 : decode cX9_timeWith 50 = .ok (.iconst 1, 1) := by decide +kernel
theorem dX9_timeWith_51 : decode cX9_timeWith 51 = .ok (.goto 4, 3) := by decide +kernel
theorem dX9_timeWith_54 : decode cX9_timeWith 54 = .ok (.iconst 0, 1) := by decide +kernel
theorem dX9_timeWith_55 : decode cX9_timeWith 55 = .ok (.invokevirtual 228, 3) := by decide +kernel
theorem dX9_timeWith_58 : decode cX9_timeWith 58 = .ok (.ireturn, 1) := by decide +kernel
theorem dX9_timesNow_0 : decode cX9_timesNow 0 = .ok (.aload_n 0, 1) := by decide +kernel
theorem dX9_timesNow_1 : decode cX9_timesNow 1 = .ok (.getfield 43, 3) := by decide +kernel
theorem dX9_timesNow_4 : decode cX9_timesNow 4 = .ok (.aload_n 0, 1) := by decide +kernel
theorem dX9_timesNow_5 : decode cX9_timesNow 5 = .ok (.getfield 12, 3) := by decide +kernel
theorem dX9_timesNow_8 : decode cX9_timesNow 8 = .ok (.aload_n 0, 1) := by decide +kernel
theorem dX9_timesNow_9 : decode cX9_timesNow 9 = .ok (.getfield 12, 3) := by decide +kernel
theorem dX9_timesNow_12 : decode cX9_timesNow 12 = .ok (.iconst 0, 1) := by decide +kernel
theorem dX9_timesNow_13 : decode cX9_timesNow 13 = .ok (.invokevirtual 151, 3) := by decide +kernel
theorem dX9_timesNow_16 : decode cX9_timesNow 16 = .ok (.aload_n 0, 1) := by decide +kernel
theorem dX9_timesNow_17 : decode cX9_timesNow 17 = .ok (.getfield 12, 3) := by decide +kernel
theorem dX9_timesNow_20 : decode cX9_timesNow 20 = .ok (.iconst 1, 1) := by decide +kernel
theorem dX9_timesNow_21 : decode cX9_timesNow 21 = .ok (.invokevirtual 151, 3) := by decide +kernel
theorem dX9_timesNow_24 : decode cX9_timesNow 24 = .ok (.iadd, 1) := by decide +kernel
theorem dX9_timesNow_25 : decode cX9_timesNow 25 = .ok (.invokevirtual 221, 3) := by decide +kernel
theorem dX9_timesNow_28 : decode cX9_timesNow 28 = .ok (.areturn, 1) := by decide +kernel
theorem dX9_playPad_0 : decode cX9_playPad 0 = .ok (.iconst 0, 1) := by decide +kernel
theorem dX9_playPad_1 : decode cX9_playPad 1 = .ok (.istore_n 1, 1) := by decide +kernel
theorem dX9_playPad_2 : decode cX9_playPad 2 = .ok (.iconst 0, 1) := by decide +kernel
theorem dX9_playPad_3 : decode cX9_playPad 3 = .ok (.istore_n 2, 1) := by decide +kernel
theorem dX9_playPad_4 : decode cX9_playPad 4 = .ok (.iconst 0, 1) := by decide +kernel
theorem dX9_playPad_5 : decode cX9_playPad 5 = .ok (.istore_n 3, 1) := by decide +kernel
theorem dX9_playPad_6 : decode cX9_playPad 6 = .ok (.iconst 0, 1) := by decide +kernel
theorem dX9_playPad_7 : decode cX9_playPad 7 = .ok (.istore 4, 2) := by decide +kernel
theorem dX9_playPad_9 : decode cX9_playPad 9 = .ok (.iload 4, 2) := by decide +kernel
theorem dX9_playPad_11 : decode cX9_playPad 11 = .ok (.aload_n 0, 1) := by decide +kernel
theorem dX9_playPad_12 : decode cX9_playPad 12 = .ok (.getfield 36, 3) := by decide +kernel
theorem dX9_playPad_15 : decode cX9_playPad 15 = .ok (.getfield 178, 3) := by decide +kernel
theorem dX9_playPad_18 : decode cX9_playPad 18 = .ok (.if_icmp .gt 101, 3) := by decide +kernel
theorem dX9_playPad_21 : decode cX9_playPad 21 = .ok (.iload 4, 2) := by decide +kernel
theorem dX9_playPad_23 : decode cX9_playPad 23 = .ok (.aload_n 0, 1) := by decide +kernel
theorem dX9_playPad_24 : decode cX9_playPad 24 = .ok (.getfield 36, 3) := by decide +kernel
theorem dX9_playPad_27 : decode cX9_playPad 27 = .ok (.getfield 178, 3) := by decide +kernel
theorem dX9_playPad_30 : decode cX9_playPad 30 = .ok (.if_icmp .ge 15, 3) := by decide +kernel
theorem dX9_playPad_33 : decode cX9_playPad 33 = .ok (.aload_n 0, 1) := by decide +kernel
theorem dX9_playPad_34 : decode cX9_playPad 34 = .ok (.getfield 36, 3) := by decide +kernel
theorem dX9_playPad_37 : decode cX9_playPad 37 = .ok (.iload 4, 2) := by decide +kernel
theorem dX9_playPad_39 : decode cX9_playPad 39 = .ok (.invokevirtual 234, 3) := by decide +kernel
theorem dX9_playPad_42 : decode cX9_playPad 42 = .ok (.goto 5, 3) := by decide +kernel
theorem dX9_playPad_45 : decode cX9_playPad 45 = .ok (.bipush 44, 2) := by decide +kernel
theorem dX9_playPad_47 : decode cX9_playPad 47 = .ok (.istore 5, 2) := by decide +kernel
theorem dX9_playPad_49 : decode cX9_playPad 49 = .ok (.iload 5, 2) := by decide +kernel
theorem dX9_playPad_51 : decode cX9_playPad 51 = .ok (.bipush 58, 2) := by decide +kernel
theorem dX9_playPad_53 : decode cX9_playPad 53 = .ok (.if_icmp .ne 10, 3) := by decide +kernel
theorem dX9_playPad_56 : decode cX9_playPad 56 = .ok (.iload_n 3, 1) := by decide +kernel
theorem dX9_playPad_57 : decode cX9_playPad 57 = .ok (.istore_n 2, 1) := by decide +kernel
theorem dX9_playPad_58 : decode cX9_playPad 58 = .ok (.iconst 0, 1) := by decide +kernel
theorem dX9_playPad_59 : decode cX9_playPad 59 = .ok (.istore_n 3, 1) := by decide +kernel
theorem dX9_playPad_60 : decode cX9_playPad 60 = .ok (.goto 53, 3) := by decide +kernel
theorem dX9_playPad_63 : decode cX9_playPad 63 = .ok (.iload 5, 2) := by decide +kernel
theorem dX9_playPad_65 : decode cX9_playPad 65 = .ok (.bipush 44, 2) := by decide +kernel
theorem dX9_playPad_67 : decode cX9_playPad 67 = .ok (.if_icmp .ne 35, 3) := by decide +kernel
theorem dX9_playPad_70 : decode cX9_playPad 70 = .ok (.aload_n 0, 1) := by decide +kernel
theorem dX9_playPad_71 : decode cX9_playPad 71 = .ok (.getfield 12, 3) := by decide +kernel
theorem dX9_playPad_74 : decode cX9_playPad 74 = .ok (.iload_n 2, 1) := by decide +kernel
theorem dX9_playPad_75 : decode cX9_playPad 75 = .ok (.iload_n 3, 1) := by decide +kernel
theorem dX9_playPad_76 : decode cX9_playPad 76 = .ok (.invokevirtual 107, 3) := by decide +kernel
theorem dX9_playPad_79 : decode cX9_playPad 79 = .ok (.ifCond .ne 5, 3) := by decide +kernel
theorem dX9_playPad_82 : decode cX9_playPad 82 = .ok (.iload_n 1, 1) := by decide +kernel
theorem dX9_playPad_83 : decode cX9_playPad 83 = .ok (.ireturn, 1) := by decide +kernel
theorem dX9_playPad_84 : decode cX9_playPad 84 = .ok (.aload_n 0, 1) := by decide +kernel
theorem dX9_playPad_85 : decode cX9_playPad 85 = .ok (.getfield 12, 3) := by decide +kernel
theorem dX9_playPad_88 : decode cX9_playPad 88 = .ok (.iload_n 2, 1) := by decide +kernel
theorem dX9_playPad_89 : decode cX9_playPad 89 = .ok (.iload_n 3, 1) := by decide +kernel
theorem dX9_playPad_90 : decode cX9_playPad 90 = .ok (.invokevirtual 111, 3) := by decide +kernel
theorem dX9_playPad_93 : decode cX9_playPad 93 = .ok (.pop, 1) := by decide +kernel
theorem dX9_playPad_94 : decode cX9_playPad 94 = .ok (.iinc 1 1, 3) := by decide +kernel
theorem dX9_playPad_97 : decode cX9_playPad 97 = .ok (.iconst 0, 1) := by decide +kernel
theorem dX9_playPad_98 : decode cX9_playPad 98 = .ok (.istore_n 3, 1) := by decide +kernel
theorem dX9_playPad_99 : decode cX9_playPad 99 = .ok (.goto 14, 3) := by decide +kernel
theorem dX9_playPad_102 : decode cX9_playPad 102 = .ok (.iload_n 3, 1) := by decide +kernel
theorem dX9_playPad_103 : decode cX9_playPad 103 = .ok (.bipush 10, 2) := by decide +kernel
theorem dX9_playPad_105 : decode cX9_playPad 105 = .ok (.imul, 1) := by decide +kernel
theorem dX9_playPad_106 : decode cX9_playPad 106 = .ok (.iload 5, 2) := by decide +kernel
theorem dX9_playPad_108 : decode cX9_playPad 108 = .ok (.iadd, 1) := by decide +kernel
theorem dX9_playPad_109 : decode cX9_playPad 109 = .ok (.bipush 48, 2) := by decide +kernel
theorem dX9_playPad_111 : decode cX9_playPad 111 = .ok (.isub, 1) := by decide +kernel
theorem dX9_playPad_112 : decode cX9_playPad 112 = .ok (.istore_n 3, 1) := by decide +kernel
theorem dX9_playPad_113 : decode cX9_playPad 113 = .ok (.iinc 4 1, 3) := by decide +kernel
theorem dX9_playPad_116 : decode cX9_playPad 116 = .ok (.goto (-107), 3) := by decide +kernel
theorem dX9_playPad_119 : decode cX9_playPad 119 = .ok (.iload_n 1, 1) := by decide +kernel
theorem dX9_playPad_120 : decode cX9_playPad 120 = .ok (.ireturn, 1) := by decide +kernel
theorem dX10_init_0 : decode cX10_init 0 = .ok (.aload_n 0, 1) := by decide +kernel
theorem dX10_init_1 : decode cX10_init 1 = .ok (.invokespecial 1, 3) := by decide +kernel
theorem dX10_init_4 : decode cX10_init 4 = .ok (.aload_n 0, 1) := by decide +kernel
theorem dX10_init_5 : decode cX10_init 5 = .ok (.bipush 19, 2) := by decide +kernel
theorem dX10_init_7 : decode cX10_init 7 = .ok (.newarray .int, 2) := by decide +kernel
theorem dX10_init_9 : decode cX10_init 9 = .ok (.putfield 7, 3) := by decide +kernel
theorem dX10_init_12 : decode cX10_init 12 = .ok (.aload_n 0, 1) := by decide +kernel
theorem dX10_init_13 : decode cX10_init 13 = .ok (.bipush 114, 2) := by decide +kernel
theorem dX10_init_15 : decode cX10_init 15 = .ok (.newarray .int, 2) := by decide +kernel
theorem dX10_init_17 : decode cX10_init 17 = .ok (.putfield 13, 3) := by decide +kernel
theorem dX10_init_20 : decode cX10_init 20 = .ok (.aload_n 0, 1) := by decide +kernel
theorem dX10_init_21 : decode cX10_init 21 = .ok (.bipush 38, 2) := by decide +kernel
theorem dX10_init_23 : decode cX10_init 23 = .ok (.newarray .int, 2) := by decide +kernel
theorem dX10_init_25 : decode cX10_init 25 = .ok (.putfield 16, 3) := by decide +kernel
theorem dX10_init_28 : decode cX10_init 28 = .ok (.aload_n 0, 1) := by decide +kernel
theorem dX10_init_29 : decode cX10_init 29 = .ok (.iconst 2, 1) := by decide +kernel
theorem dX10_init_30 : decode cX10_init 30 = .ok (.newarray .int, 2) := by decide +kernel
theorem dX10_init_32 : decode cX10_init 32 = .ok (.putfield 19, 3) := by decide +kernel
theorem dX10_init_35 : decode cX10_init 35 = .ok (.aload_n 0, 1) := by decide +kernel
theorem dX10_init_36 : decode cX10_init 36 = .ok (.sipush 20412, 3) := by decide +kernel
theorem dX10_init_39 : decode cX10_init 39 = .ok (.newarray .int, 2) := by decide +kernel
theorem dX10_init_41 : decode cX10_init 41 = .ok (.putfield 22, 3) := by decide +kernel
theorem dX10_init_44 : decode cX10_init 44 = .ok (.aload_n 0, 1) := by decide +kernel
theorem dX10_init_45 : decode cX10_init 45 = .ok (.bipush 60, 2) := by decide +kernel
theorem dX10_init_47 : decode cX10_init 47 = .ok (.newarray .int, 2) := by decide +kernel
theorem dX10_init_49 : decode cX10_init 49 = .ok (.putfield 25, 3) := by decide +kernel
theorem dX10_init_52 : decode cX10_init 52 = .ok (.aload_n 0, 1) := by decide +kernel
theorem dX10_init_53 : decode cX10_init 53 = .ok (.bipush 40, 2) := by decide +kernel
theorem dX10_init_55 : decode cX10_init 55 = .ok (.newarray .int, 2) := by decide +kernel
theorem dX10_init_57 : decode cX10_init 57 = .ok (.putfield 28, 3) := by decide +kernel
theorem dX10_init_60 : decode cX10_init 60 = .ok (.aload_n 0, 1) := by decide +kernel
theorem dX10_init_61 : decode cX10_init 61 = .ok (.getfield 7, 3) := by decide +kernel
theorem dX10_init_64 : decode cX10_init 64 = .ok (.iconst 0, 1) := by decide +kernel
theorem dX10_init_65 : decode cX10_init 65 = .ok (.iconst 2, 1) := by decide +kernel
theorem dX10_init_66 : decode cX10_init 66 = .ok (.iastore, 1) := by decide +kernel
theorem dX10_init_67 : decode cX10_init 67 = .ok (.aload_n 0, 1) := by decide +kernel
theorem dX10_init_68 : decode cX10_init 68 = .ok (.getfield 7, 3) := by decide +kernel
theorem dX10_init_71 : decode cX10_init 71 = .ok (.bipush 9, 2) := by decide +kernel
theorem dX10_init_73 : decode cX10_init 73 = .ok (.iconst 4, 1) := by decide +kernel
theorem dX10_init_74 : decode cX10_init 74 = .ok (.iastore, 1) := by decide +kernel
theorem dX10_init_75 : decode cX10_init 75 = .ok (.aload_n 0, 1) := by decide +kernel
theorem dX10_init_76 : decode cX10_init 76 = .ok (.getfield 7, 3) := by decide +kernel
theorem dX10_init_79 : decode cX10_init 79 = .ok (.bipush 10, 2) := by decide +kernel
theorem dX10_init_81 : decode cX10_init 81 = .ok (.iconst 4, 1) := by decide +kernel
theorem dX10_init_82 : decode cX10_init 82 = .ok (.iastore, 1) := by decide +kernel
theorem dX10_init_83 : decode cX10_init 83 = .ok (.aload_n 0, 1) := by decide +kernel
theorem dX10_init_84 : decode cX10_init 84 = .ok (.invokevirtual 31, 3) := by decide +kernel
theorem dX10_init_87 : decode cX10_init 87 = .ok (.return_, 1) := by decide +kernel
theorem dX10_in_0 : decode cX10_in 0 = .ok (.lload_n 0, 1) := by decide +kernel
theorem dX10_in_1 : decode cX10_in 1 = .ok (.lload_n 2, 1) := by decide +kernel
theorem dX10_in_2 : decode cX10_in 2 = .ok (.lcmp, 1) := by decide +kernel
theorem dX10_in_3 : decode cX10_in 3 = .ok (.ifCond .lt 14, 3) := by decide +kernel
theorem dX10_in_6 : decode cX10_in 6 = .ok (.lload_n 0, 1) := by decide +kernel
theorem dX10_in_7 : decode cX10_in 7 = .ok (.lload 4, 2) := by decide +kernel
theorem dX10_in_9 : decode cX10_in 9 = .ok (.lcmp, 1) := by decide +kernel
theorem dX10_in_10 : decode cX10_in 10 = .ok (.ifCond .gt 7, 3) := by decide +kernel
theorem dX10_in_13 : decode cX10_in 13 = .ok (.iconst 1, 1) := by decide +kernel
theorem dX10_in_14 : decode cX10_in 14 = .ok (.goto 4, 3) := by decide +kernel
theorem dX10_in_17 : decode cX10_in 17 = .ok (.iconst 0, 1) := by decide +kernel
theorem dX10_in_18 : decode cX10_in 18 = .ok (.ireturn, 1) := by decide +kernel
theorem dX10_changes_0 : decode cX10_changes 0 = .ok (.aload_n 0, 1) := by decide +kernel
theorem dX10_changes_1 : decode cX10_changes 1 = .ok (.getfield 34, 3) := by decide +kernel
theorem dX10_changes_4 : decode cX10_changes 4 = .ok (.bipush 6, 2) := by decide +kernel
theorem dX10_changes_6 : decode cX10_changes 6 = .ok (.if_icmp .ne 42, 3) := by decide +kernel
theorem dX10_changes_9 : decode cX10_changes 9 = .ok (.iconst 0, 1) := by decide +kernel
theorem dX10_changes_10 : decode cX10_changes 10 = .ok (.istore_n 1, 1) := by decide +kernel
theorem dX10_changes_11 : decode cX10_changes 11 = .ok (.iload_n 1, 1) := by decide +kernel
theorem dX10_changes_12 : decode cX10_changes 12 = .ok (.bipush 95, 2) := by decide +kernel
theorem dX10_changes_14 : decode cX10_changes 14 = .ok (.if_icmp .ge 24, 3) := by decide +kernel
theorem dX10_changes_17 : decode cX10_changes 17 = .ok (.aload_n 0, 1) := by decide +kernel
theorem dX10_changes_18 : decode cX10_changes 18 = .ok (.getfield 13, 3) := by decide +kernel
theorem dX10_changes_21 : decode cX10_changes 21 = .ok (.iload_n 1, 1) := by decide +kernel
theorem dX10_changes_22 : decode cX10_changes 22 = .ok (.aload_n 0, 1) := by decide +kernel
theorem dX10_changes_23 : decode cX10_changes 23 = .ok (.getfield 13, 3) := by decide +kernel
theorem dX10_changes_26 : decode cX10_changes 26 = .ok (.iload_n 1, 1) := by decide +kernel
theorem dX10_changes_27 : decode cX10_changes 27 = .ok (.bipush 19, 2) := by decide +kernel
theorem dX10_changes_29 : decode cX10_changes 29 = .ok (.iadd, 1) := by decide +kernel
theorem dX10_changes_30 : decode cX10_changes 30 = .ok (.iaload, 1) := by decide +kernel
theorem dX10_changes_31 : decode cX10_changes 31 = .ok (.iastore, 1) := by decide +kernel
theorem dX10_changes_32 : decode cX10_changes 32 = .ok (.iinc 1 1, 3) := by decide +kernel
theorem dX10_changes_35 : decode cX10_changes 35 = .ok (.goto (-24), 3) := by decide +kernel
theorem dX10_changes_38 : decode cX10_changes 38 = .ok (.aload_n 0, 1) := by decide +kernel
theorem dX10_changes_39 : decode cX10_changes 39 = .ok (.dup, 1) := by decide +kernel
theorem dX10_changes_40 : decode cX10_changes 40 = .ok (.getfield 34, 3) := by decide +kernel
theorem dX10_changes_43 : decode cX10_changes 43 = .ok (.iconst 1, 1) := by decide +kernel
theorem dX10_changes_44 : decode cX10_changes 44 = .ok (.isub, 1) := by decide +kernel
theorem dX10_changes_45 : decode cX10_changes 45 = .ok (.putfield 34, 3) := by decide +kernel
theorem dX10_changes_48 : decode cX10_changes 48 = .ok (.iconst 0, 1) := by decide +kernel
theorem dX10_changes_49 : decode cX10_changes 49 = .ok (.istore_n 1, 1) := by decide +kernel
theorem dX10_changes_50 : decode cX10_changes 50 = .ok (.iload_n 1, 1) := by decide +kernel
theorem dX10_changes_51 : decode cX10_changes 51 = .ok (.bipush 19, 2) := by decide +kernel
theorem dX10_changes_53 : decode cX10_changes 53 = .ok (.if_icmp .ge 29, 3) := by decide +kernel
theorem dX10_changes_56 : decode cX10_changes 56 = .ok (.aload_n 0, 1) := by decide +kernel
theorem dX10_changes_57 : decode cX10_changes 57 = .ok (.getfield 13, 3) := by decide +kernel
theorem dX10_changes_60 : decode cX10_changes 60 = .ok (.bipush 19, 2) := by decide +kernel
theorem dX10_changes_62 : decode cX10_changes 62 = .ok (.aload_n 0, 1) := by decide +kernel
theorem dX10_changes_63 : decode cX10_changes 63 = .ok (.getfield 34, 3) := by decide +kernel
theorem dX10_changes_66 : decode cX10_changes 66 = .ok (.imul, 1) := by decide +kernel
theorem dX10_changes_67 : decode cX10_changes 67 = .ok (.iload_n 1, 1) := by decide +kernel
theorem dX10_changes_68 : decode cX10_changes 68 = .ok (.iadd, 1) := by decide +kernel
theorem dX10_changes_69 : decode cX10_changes 69 = .ok (.aload_n 0, 1) := by decide +kernel
theorem dX10_changes_70 : decode cX10_changes 70 = .ok (.getfield 7, 3) := by decide +kernel
theorem dX10_changes_73 : decode cX10_changes 73 = .ok (.iload_n 1, 1) := by decide +kernel
theorem dX10_changes_74 : decode cX10_changes 74 = .ok (.iaload, 1) := by decide +kernel
theorem dX10_changes_75 : decode cX10_changes 75 = .ok (.iastore, 1) := by decide +kernel
theorem dX10_changes_76 : decode cX10_changes 76 = .ok (.iinc 1 1, 3) := by decide +kernel
theorem dX10_changes_79 : decode cX10_changes 79 = .ok (.goto (-29), 3) := by decide +kernel
theorem dX10_changes_82 : decode cX10_changes 82 = .ok (.aload_n 0, 1) := by decide +kernel
theorem dX10_changes_83 : decode cX10_changes 83 = .ok (.dup, 1) := by decide +kernel
theorem dX10_changes_84 : decode cX10_changes 84 = .ok (.getfield 34, 3) := by decide +kernel
theorem dX10_changes_87 : decode cX10_changes 87 = .ok (.iconst 1, 1) := by decide +kernel
theorem dX10_changes_88 : decode cX10_changes 88 = .ok (.iadd, 1) := by decide +kernel
theorem dX10_changes_89 : decode cX10_changes 89 = .ok (.putfield 34, 3) := by decide +kernel
theorem dX10_changes_92 : decode cX10_changes 92 = .ok (.return_, 1) := by decide +kernel
theorem dX10_newGame_0 : decode cX10_newGame 0 = .ok (.aload_n 0, 1) := by decide +kernel
theorem dX10_newGame_1 : decode cX10_newGame 1 = .ok (.getfield 7, 3) := by decide +kernel
theorem dX10_newGame_4 : decode cX10_newGame 4 = .ok (.iconst 4, 1) := by decide +kernel
theorem dX10_newGame_5 : decode cX10_newGame 5 = .ok (.iconst 0, 1) := by decide +kernel
theorem dX10_newGame_6 : decode cX10_newGame 6 = .ok (.iastore, 1) := by decide +kernel
theorem dX10_newGame_7 : decode cX10_newGame 7 = .ok (.aload_n 0, 1) := by decide +kernel
theorem dX10_newGame_8 : decode cX10_newGame 8 = .ok (.getfield 7, 3) := by decide +kernel
theorem dX10_newGame_11 : decode cX10_newGame 11 = .ok (.iconst 5, 1) := by decide +kernel
theorem dX10_newGame_12 : decode cX10_newGame 12 = .ok (.iconst 0, 1) := by decide +kernel
theorem dX10_newGame_13 : decode cX10_newGame 13 = .ok (.iastore, 1) := by decide +kernel
theorem dX10_newGame_14 : decode cX10_newGame 14 = .ok (.aload_n 0, 1) := by decide +kernel
theorem dX10_newGame_15 : decode cX10_newGame 15 = .ok (.getfield 7, 3) := by decide +kernel
theorem dX10_newGame_18 : decode cX10_newGame 18 = .ok (.bipush 6, 2) := by decide +kernel
theorem dX10_newGame_20 : decode cX10_newGame 20 = .ok (.iconst 0, 1) := by decide +kernel
theorem dX10_newGame_21 : decode cX10_newGame 21 = .ok (.iastore, 1) := by decide +kernel
theorem dX10_newGame_22 : decode cX10_newGame 22 = .ok (.aload_n 0, 1) := by decide +kernel
theorem dX10_newGame_23 : decode cX10_newGame 23 = .ok (.getfield 7, 3) := by decide +kernel
theorem dX10_newGame_26 : decode cX10_newGame 26 = .ok (.bipush 17, 2) := by decide +kernel
theorem dX10_newGame_28 : decode cX10_newGame 28 = .ok (.iconst 0, 1) := by decide +kernel
theorem dX10_newGame_29 : decode cX10_newGame 29 = .ok (.iastore, 1) := by decide +kernel
theorem dX10_newGame_30 : decode cX10_newGame 30 = .ok (.iconst 0, 1) := by decide +kernel
theorem dX10_newGame_31 : decode cX10_newGame 31 = .ok (.istore_n 1, 1) := by decide +kernel
theorem dX10_newGame_32 : decode cX10_newGame 32 = .ok (.iload_n 1, 1) := by decide +kernel
theorem dX10_newGame_33 : decode cX10_newGame 33 = .ok (.iconst 2, 1) := by decide +kernel
theorem dX10_newGame_34 : decode cX10_newGame 34 = .ok (.if_icmp .ge 47, 3) := by decide +kernel
theorem dX10_newGame_37 : decode cX10_newGame 37 = .ok (.aload_n 0, 1) := by decide +kernel
theorem dX10_newGame_38 : decode cX10_newGame 38 = .ok (.getfield 7, 3) := by decide +kernel
theorem dX10_newGame_41 : decode cX10_newGame 41 = .ok (.bipush 7, 2) := by decide +kernel
theorem dX10_newGame_43 : decode cX10_newGame 43 = .ok (.iload_n 1, 1) := by decide +kernel
theorem dX10_newGame_44 : decode cX10_newGame 44 = .ok (.iadd, 1) := by decide +kernel
theorem dX10_newGame_45 : decode cX10_newGame 45 = .ok (.aload_n 0, 1) := by decide +kernel
theorem dX10_newGame_46 : decode cX10_newGame 46 = .ok (.getfield 7, 3) := by decide +kernel
theorem dX10_newGame_49 : decode cX10_newGame 49 = .ok (.bipush 9, 2) := by decide +kernel
theorem dX10_newGame_51 : decode cX10_newGame 51 = .ok (.iload_n 1, 1) := by decide +kernel
theorem dX10_newGame_52 : decode cX10_newGame 52 = .ok (.iadd, 1) := by decide +kernel
theorem dX10_newGame_53 : decode cX10_newGame 53 = .ok (.iaload, 1) := by decide +kernel
theorem dX10_newGame_54 : decode cX10_newGame 54 = .ok (.iastore, 1) := by decide +kernel
theorem dX10_newGame_55 : decode cX10_newGame 55 = .ok (.aload_n 0, 1) := by decide +kernel
theorem dX10_newGame_56 : decode cX10_newGame 56 = .ok (.getfield 7, 3) := by decide +kernel
theorem dX10_newGame_59 : decode cX10_newGame 59 = .ok (.bipush 11, 2) := by decide +kernel
theorem dX10_newGame_61 : decode cX10_newGame 61 = .ok (.iload_n 1, 1) := by decide +kernel
theorem dX10_newGame_62 : decode cX10_newGame 62 = .ok (.iadd, 1) := by decide +kernel
theorem dX10_newGame_63 : decode cX10_newGame 63 = .ok (.iconst 0, 1) := by decide +kernel
theorem dX10_newGame_64 : decode cX10_newGame 64 = .ok (.iastore, 1) := by decide +kernel
theorem dX10_newGame_65 : decode cX10_newGame 65 = .ok (.aload_n 0, 1) := by decide +kernel
theorem dX10_newGame_66 : decode cX10_newGame 66 = .ok (.getfield 7, 3) := by decide +kernel
theorem dX10_newGame_69 : decode cX10_newGame 69 = .ok (.bipush 13, 2) := by decide +kernel
theorem dX10_newGame_71 : decode cX10_newGame 71 = .ok (.iload_n 1, 1) := by decide +kernel
theorem dX10_newGame_72 : decode cX10_newGame 72 = .ok (.iadd, 1) := by decide +kernel
theorem dX10_newGame_73 : decode cX10_newGame 73 = .ok (.iconst 0, 1) := by decide +kernel
theorem dX10_newGame_74 : decode cX10_newGame 74 = .ok (.iastore, 1) := by decide +kernel
theorem dX10_newGame_75 : decode cX10_newGame 75 = .ok (.iinc 1 1, 3) := by decide +kernel
theorem dX10_newGame_78 : decode cX10_newGame 78 = .ok (.goto (-46), 3) := by decide +kernel
theorem dX10_newGame_81 : decode cX10_newGame 81 = .ok (.return_, 1) := by decide +kernel
theorem dX10_isPlayer_0 : decode cX10_isPlayer 0 = .ok (.iload_n 0, 1) := by decide +kernel
theorem dX10_isPlayer_1 : decode cX10_isPlayer 1 = .ok (.ifCond .eq 8, 3) := by decide +kernel
theorem dX10_isPlayer_4 : decode cX10_isPlayer 4 = .ok (.iload_n 0, 1) := by decide +kernel
theorem dX10_isPlayer_5 : decode cX10_isPlayer 5 = .ok (.iconst 1, 1) := by decide +kernel
theorem dX10_isPlayer_6 : decode cX10_isPlayer 6 = .ok (.if_icmp .ne 7, 3) := by decide +kernel
theorem dX10_isPlayer_9 : decode cX10_isPlayer 9 = .ok (.iconst 1, 1) := by decide +kernel
theorem dX10_isPlayer_10 : decode cX10_isPlayer 10 = .ok (.goto 4, 3) := by decide +kernel
theorem dX10_isPlayer_13 : decode cX10_isPlayer 13 = .ok (.iconst 0, 1) := by decide +kernel
theorem dX10_isPlayer_14 : decode cX10_isPlayer 14 = .ok (.ireturn, 1) := by decide +kernel
theorem dX10_winnerAt_0 : decode cX10_winnerAt 0 = .ok (.iload_n 1, 1) := by decide +kernel
theorem dX10_winnerAt_1 : decode cX10_winnerAt 1 = .ok (.aload_n 0, 1) := by decide +kernel
theorem dX10_winnerAt_2 : decode cX10_winnerAt 2 = .ok (.getfield 7, 3) := by decide +kernel
theorem dX10_winnerAt_5 : decode cX10_winnerAt 5 = .ok (.iconst 0, 1) := by decide +kernel
theorem dX10_winnerAt_6 : decode cX10_winnerAt 6 = .ok (.iaload, 1) := by decide +kernel
theorem dX10_winnerAt_7 : decode cX10_winnerAt 7 = .ok (.if_icmp .ne 7, 3) := by decide +kernel
theorem dX10_winnerAt_10 : decode cX10_winnerAt 10 = .ok (.iconst 0, 1) := by decide +kernel
theorem dX10_winnerAt_11 : decode cX10_winnerAt 11 = .ok (.goto 21, 3) := by decide +kernel
theorem dX10_winnerAt_14 : decode cX10_winnerAt 14 = .ok (.iload_n 1, 1) := by decide +kernel
theorem dX10_winnerAt_15 : decode cX10_winnerAt 15 = .ok (.aload_n 0, 1) := by decide +kernel
theorem dX10_winnerAt_16 : decode cX10_winnerAt 16 = .ok (.getfield 7, 3) := by decide +kernel
theorem dX10_winnerAt_19 : decode cX10_winnerAt 19 = .ok (.iconst 0, 1) := by decide +kernel
theorem dX10_winnerAt_20 : decode cX10_winnerAt 20 = .ok (.iaload, 1) := by decide +kernel
theorem dX10_winnerAt_21 : decode cX10_winnerAt 21 = .ok (.ineg, 1) := by decide +kernel
theorem dX10_winnerAt_22 : decode cX10_winnerAt 22 = .ok (.if_icmp .ne 7, 3) := by decide +kernel
theorem dX10_winnerAt_25 : decode cX10_winnerAt 25 = .ok (.iconst 1, 1) := by decide +kernel
theorem dX10_winnerAt_26 : decode cX10_winnerAt 26 = .ok (.goto 6, 3) := by decide +kernel
theorem dX10_winnerAt_29 : decode cX10_winnerAt 29 = .ok (.sipush (-1006), 3) := by decide +kernel
theorem dX10_winnerAt_32 : decode cX10_winnerAt 32 = .ok (.ireturn, 1) := by decide +kernel
theorem dX10_isOver_0 : decode cX10_isOver 0 = .ok (.aload_n 0, 1) := by decide +kernel
theorem dX10_isOver_1 : decode cX10_isOver 1 = .ok (.aload_n 0, 1) := by decide +kernel
theorem dX10_isOver_2 : decode cX10_isOver 2 = .ok (.getfield 7, 3) := by decide +kernel
theorem dX10_isOver_5 : decode cX10_isOver 5 = .ok (.iconst 4, 1) := by decide +kernel
theorem dX10_isOver_6 : decode cX10_isOver 6 = .ok (.iaload, 1) := by decide +kernel
theorem dX10_isOver_7 : decode cX10_isOver 7 = .ok (.invokevirtual 38, 3) := by decide +kernel
theorem dX10_isOver_10 : decode cX10_isOver 10 = .ok (.sipush (-1006), 3) := by decide +kernel
theorem dX10_isOver_13 : decode cX10_isOver 13 = .ok (.if_icmp .eq 7, 3) := by decide +kernel
theorem dX10_isOver_16 : decode cX10_isOver 16 = .ok (.iconst 1, 1) := by decide +kernel
theorem dX10_isOver_17 : decode cX10_isOver 17 = .ok (.goto 4, 3) := by decide +kernel
theorem dX10_isOver_20 : decode cX10_isOver 20 = .ok (.iconst 0, 1) := by decide +kernel
theorem dX10_isOver_21 : decode cX10_isOver 21 = .ok (.ireturn, 1) := by decide +kernel
theorem dX10_most_0 : decode cX10_most 0 = .ok (.aload_n 0, 1) := by decide +kernel
theorem dX10_most_1 : decode cX10_most 1 = .ok (.getfield 7, 3) := by decide +kernel
theorem dX10_most_4 : decode cX10_most 4 = .ok (.bipush 7, 2) := by decide +kernel
theorem dX10_most_6 : decode cX10_most 6 = .ok (.iload_n 1, 1) := by decide +kernel
theorem dX10_most_7 : decode cX10_most 7 = .ok (.iadd, 1) := by decide +kernel
theorem dX10_most_8 : decode cX10_most 8 = .ok (.iaload, 1) := by decide +kernel
theorem dX10_most_9 : decode cX10_most 9 = .ok (.aload_n 0, 1) := by decide +kernel
theorem dX10_most_10 : decode cX10_most 10 = .ok (.getfield 7, 3) := by decide +kernel
theorem dX10_most_13 : decode cX10_most 13 = .ok (.iconst 1, 1) := by decide +kernel
theorem dX10_most_14 : decode cX10_most 14 = .ok (.iaload, 1) := by decide +kernel
theorem dX10_most_15 : decode cX10_most 15 = .ok (.iadd, 1) := by decide +kernel
theorem dX10_most_16 : decode cX10_most 16 = .ok (.ireturn, 1) := by decide +kernel
theorem dX10_taker_0 : decode cX10_taker 0 = .ok (.iload_n 2, 1) := by decide +kernel
theorem dX10_taker_1 : decode cX10_taker 1 = .ok (.iload_n 3, 1) := by decide +kernel
theorem dX10_taker_2 : decode cX10_taker 2 = .ok (.if_icmp .gt 17, 3) := by decide +kernel
theorem dX10_taker_5 : decode cX10_taker 5 = .ok (.iload_n 2, 1) := by decide +kernel
theorem dX10_taker_6 : decode cX10_taker 6 = .ok (.iload_n 3, 1) := by decide +kernel
theorem dX10_taker_7 : decode cX10_taker 7 = .ok (.if_icmp .ne 16, 3) := by decide +kernel
theorem dX10_taker_10 : decode cX10_taker 10 = .ok (.aload_n 0, 1) := by decide +kernel
theorem dX10_taker_11 : decode cX10_taker 11 = .ok (.getfield 7, 3) := by decide +kernel
theorem dX10_taker_14 : decode cX10_taker 14 = .ok (.iconst 3, 1) := by decide +kernel
theorem dX10_taker_15 : decode cX10_taker 15 = .ok (.iaload, 1) := by decide +kernel
theorem dX10_taker_16 : decode cX10_taker 16 = .ok (.ifCond .ne 7, 3) := by decide +kernel
theorem dX10_taker_19 : decode cX10_taker 19 = .ok (.iload_n 1, 1) := by decide +kernel
theorem dX10_taker_20 : decode cX10_taker 20 = .ok (.goto 6, 3) := by decide +kernel
theorem dX10_taker_23 : decode cX10_taker 23 = .ok (.iconst 1, 1) := by decide +kernel
theorem dX10_taker_24 : decode cX10_taker 24 = .ok (.iload_n 1, 1) := by decide +kernel
theorem dX10_taker_25 : decode cX10_taker 25 = .ok (.isub, 1) := by decide +kernel
theorem dX10_taker_26 : decode cX10_taker 26 = .ok (.ireturn, 1) := by decide +kernel
theorem dX10_plays_0 : decode cX10_plays 0 = .ok (.aload_n 0, 1) := by decide +kernel
theorem dX10_plays_1 : decode cX10_plays 1 = .ok (.aload_n 0, 1) := by decide +kernel
theorem dX10_plays_2 : decode cX10_plays 2 = .ok (.getfield 7, 3) := by decide +kernel
theorem dX10_plays_5 : decode cX10_plays 5 = .ok (.iconst 5, 1) := by decide +kernel
theorem dX10_plays_6 : decode cX10_plays 6 = .ok (.iaload, 1) := by decide +kernel
theorem dX10_plays_7 : decode cX10_plays 7 = .ok (.iload_n 1, 1) := by decide +kernel
theorem dX10_plays_8 : decode cX10_plays 8 = .ok (.iload_n 2, 1) := by decide +kernel
theorem dX10_plays_9 : decode cX10_plays 9 = .ok (.invokevirtual 42, 3) := by decide +kernel
theorem dX10_plays_12 : decode cX10_plays 12 = .ok (.istore_n 3, 1) := by decide +kernel
theorem dX10_plays_13 : decode cX10_plays 13 = .ok (.iload_n 3, 1) := by decide +kernel
theorem dX10_plays_14 : decode cX10_plays 14 = .ok (.aload_n 0, 1) := by decide +kernel
theorem dX10_plays_15 : decode cX10_plays 15 = .ok (.getfield 7, 3) := by decide +kernel
theorem dX10_plays_18 : decode cX10_plays 18 = .ok (.iconst 5, 1) := by decide +kernel
theorem dX10_plays_19 : decode cX10_plays 19 = .ok (.iaload, 1) := by decide +kernel
theorem dX10_plays_20 : decode cX10_plays 20 = .ok (.if_icmp .ne 7, 3) := by decide +kernel
theorem dX10_plays_23 : decode cX10_plays 23 = .ok (.iload_n 1, 1) := by decide +kernel
theorem dX10_plays_24 : decode cX10_plays 24 = .ok (.goto 4, 3) := by decide +kernel
theorem dX10_plays_27 : decode cX10_plays 27 = .ok (.iload_n 2, 1) := by decide +kernel
theorem dX10_plays_28 : decode cX10_plays 28 = .ok (.istore 4, 2) := by decide +kernel
theorem dX10_plays_30 : decode cX10_plays 30 = .ok (.aload_n 0, 1) := by decide +kernel
theorem dX10_plays_31 : decode cX10_plays 31 = .ok (.getfield 7, 3) := by decide +kernel
theorem dX10_plays_34 : decode cX10_plays 34 = .ok (.bipush 7, 2) := by decide +kernel
theorem dX10_plays_36 : decode cX10_plays 36 = .ok (.iload_n 3, 1) := by decide +kernel
theorem dX10_plays_37 : decode cX10_plays 37 = .ok (.iadd, 1) := by decide +kernel
theorem dX10_plays_38 : decode cX10_plays 38 = .ok (.dup2, 1) := by decide +kernel
theorem dX10_plays_39 : decode cX10_plays 39 = .ok (.iaload, 1) := by decide +kernel
theorem dX10_plays_40 : decode cX10_plays 40 = .ok (.iload 4, 2) := by decide +kernel
theorem dX10_plays_42 : decode cX10_plays 42 = .ok (.isub, 1) := by decide +kernel
theorem dX10_plays_43 : decode cX10_plays 43 = .ok (.iastore, 1) := by decide +kernel
theorem dX10_plays_44 : decode cX10_plays 44 = .ok (.aload_n 0, 1) := by decide +kernel
theorem dX10_plays_45 : decode cX10_plays 45 = .ok (.getfield 7, 3) := by decide +kernel
theorem dX10_plays_48 : decode cX10_plays 48 = .ok (.bipush 8, 2) := by decide +kernel
theorem dX10_plays_50 : decode cX10_plays 50 = .ok (.iload_n 3, 1) := by decide +kernel
theorem dX10_plays_51 : decode cX10_plays 51 = .ok (.isub, 1) := by decide +kernel
theorem dX10_plays_52 : decode cX10_plays 52 = .ok (.dup2, 1) := by decide +kernel
theorem dX10_plays_53 : decode cX10_plays 53 = .ok (.iaload, 1) := by decide +kernel
theorem dX10_plays_54 : decode cX10_plays 54 = .ok (.aload_n 0, 1) := by decide +kernel
theorem dX10_plays_55 : decode cX10_plays 55 = .ok (.getfield 7, 3) := by decide +kernel
theorem dX10_plays_58 : decode cX10_plays 58 = .ok (.iconst 2, 1) := by decide +kernel
theorem dX10_plays_59 : decode cX10_plays 59 = .ok (.iaload, 1) := by decide +kernel
theorem dX10_plays_60 : decode cX10_plays 60 = .ok (.ifCond .ne 8, 3) := by decide +kernel
theorem dX10_plays_63 : decode cX10_plays 63 = .ok (.iload 4, 2) := by decide +kernel
theorem dX10_plays_65 : decode cX10_plays 65 = .ok (.goto 4, 3) := by decide +kernel
theorem dX10_plays_68 : decode cX10_plays 68 = .ok (.iconst 0, 1) := by decide +kernel
theorem dX10_plays_69 : decode cX10_plays 69 = .ok (.iadd, 1) := by decide +kernel
theorem dX10_plays_70 : decode cX10_plays 70 = .ok (.iastore, 1) := by decide +kernel
theorem dX10_plays_71 : decode cX10_plays 71 = .ok (.aload_n 0, 1) := by decide +kernel
theorem dX10_plays_72 : decode cX10_plays 72 = .ok (.getfield 7, 3) := by decide +kernel
theorem dX10_plays_75 : decode cX10_plays 75 = .ok (.bipush 17, 2) := by decide +kernel
theorem dX10_plays_77 : decode cX10_plays 77 = .ok (.dup2, 1) := by decide +kernel
theorem dX10_plays_78 : decode cX10_plays 78 = .ok (.iaload, 1) := by decide +kernel
theorem dX10_plays_79 : decode cX10_plays 79 = .ok (.aload_n 0, 1) := by decide +kernel
theorem dX10_plays_80 : decode cX10_plays 80 = .ok (.getfield 7, 3) := by decide +kernel
theorem dX10_plays_83 : decode cX10_plays 83 = .ok (.iconst 2, 1) := by decide +kernel
theorem dX10_plays_84 : decode cX10_plays 84 = .ok (.iaload, 1) := by decide +kernel
theorem dX10_plays_85 : decode cX10_plays 85 = .ok (.iconst 1, 1) := by decide +kernel
theorem dX10_plays_86 : decode cX10_plays 86 = .ok (.if_icmp .ne 8, 3) := by decide +kernel
theorem dX10_plays_89 : decode cX10_plays 89 = .ok (.iload 4, 2) := by decide +kernel
theorem dX10_plays_91 : decode cX10_plays 91 = .ok (.goto 4, 3) := by decide +kernel
theorem dX10_plays_94 : decode cX10_plays 94 = .ok (.iconst 0, 1) := by decide +kernel
theorem dX10_plays_95 : decode cX10_plays 95 = .ok (.iadd, 1) := by decide +kernel
theorem dX10_plays_96 : decode cX10_plays 96 = .ok (.iastore, 1) := by decide +kernel
theorem dX10_plays_97 : decode cX10_plays 97 = .ok (.aload_n 0, 1) := by decide +kernel
theorem dX10_plays_98 : decode cX10_plays 98 = .ok (.getfield 7, 3) := by decide +kernel
theorem dX10_plays_101 : decode cX10_plays 101 = .ok (.bipush 11, 2) := by decide +kernel
theorem dX10_plays_103 : decode cX10_plays 103 = .ok (.iload_n 3, 1) := by decide +kernel
theorem dX10_plays_104 : decode cX10_plays 104 = .ok (.iadd, 1) := by decide +kernel
theorem dX10_plays_105 : decode cX10_plays 105 = .ok (.dup2, 1) := by decide +kernel
theorem dX10_plays_106 : decode cX10_plays 106 = .ok (.iaload, 1) := by decide +kernel
theorem dX10_plays_107 : decode cX10_plays 107 = .ok (.iload 4, 2) := by decide +kernel
theorem dX10_plays_109 : decode cX10_plays 109 = .ok (.iadd, 1) := by decide +kernel
theorem dX10_plays_110 : decode cX10_plays 110 = .ok (.iastore, 1) := by decide +kernel
theorem dX10_plays_111 : decode cX10_plays 111 = .ok (.aload_n 0, 1) := by decide +kernel
theorem dX10_plays_112 : decode cX10_plays 112 = .ok (.getfield 7, 3) := by decide +kernel
theorem dX10_plays_115 : decode cX10_plays 115 = .ok (.bipush 13, 2) := by decide +kernel
theorem dX10_plays_117 : decode cX10_plays 117 = .ok (.iload_n 3, 1) := by decide +kernel
theorem dX10_plays_118 : decode cX10_plays 118 = .ok (.iadd, 1) := by decide +kernel
theorem dX10_plays_119 : decode cX10_plays 119 = .ok (.dup2, 1) := by decide +kernel
theorem dX10_plays_120 : decode cX10_plays 120 = .ok (.iaload, 1) := by decide +kernel
theorem dX10_plays_121 : decode cX10_plays 121 = .ok (.iconst 1, 1) := by decide +kernel
theorem dX10_plays_122 : decode cX10_plays 122 = .ok (.iadd, 1) := by decide +kernel
theorem dX10_plays_123 : decode cX10_plays 123 = .ok (.iastore, 1) := by decide +kernel
theorem dX10_plays_124 : decode cX10_plays 124 = .ok (.aload_n 0, 1) := by decide +kernel
theorem dX10_plays_125 : decode cX10_plays 125 = .ok (.getfield 7, 3) := by decide +kernel
theorem dX10_plays_128 : decode cX10_plays 128 = .ok (.iconst 4, 1) := by decide +kernel
theorem dX10_plays_129 : decode cX10_plays 129 = .ok (.dup2, 1) := by decide +kernel
theorem dX10_plays_130 : decode cX10_plays 130 = .ok (.iaload, 1) := by decide +kernel
theorem dX10_plays_131 : decode cX10_plays 131 = .ok (.iload_n 3, 1) := by decide +kernel
theorem dX10_plays_132 : decode cX10_plays 132 = .ok (.ifCond .ne 7, 3) := by decide +kernel
theorem dX10_plays_135 : decode cX10_plays 135 = .ok (.iconst 1, 1) := by decide +kernel
theorem dX10_plays_136 : decode cX10_plays 136 = .ok (.goto 4, 3) := by decide +kernel
theorem dX10_plays_139 : decode cX10_plays 139 = .ok (.iconst (-1), 1) := by decide +kernel
theorem dX10_plays_140 : decode cX10_plays 140 = .ok (.iadd, 1) := by decide +kernel
theorem dX10_plays_141 : decode cX10_plays 141 = .ok (.iastore, 1) := by decide +kernel
theorem dX10_plays_142 : decode cX10_plays 142 = .ok (.aload_n 0, 1) := by decide +kernel
theorem dX10_plays_143 : decode cX10_plays 143 = .ok (.getfield 7, 3) := by decide +kernel
theorem dX10_plays_146 : decode cX10_plays 146 = .ok (.iconst 5, 1) := by decide +kernel
theorem dX10_plays_147 : decode cX10_plays 147 = .ok (.iconst 1, 1) := by decide +kernel
theorem dX10_plays_148 : decode cX10_plays 148 = .ok (.aload_n 0, 1) := by decide +kernel
theorem dX10_plays_149 : decode cX10_plays 149 = .ok (.getfield 7, 3) := by decide +kernel
theorem dX10_plays_152 : decode cX10_plays 152 = .ok (.iconst 5, 1) := by decide +kernel
theorem dX10_plays_153 : decode cX10_plays 153 = .ok (.iaload, 1) := by decide +kernel
theorem dX10_plays_154 : decode cX10_plays 154 = .ok (.isub, 1) := by decide +kernel
theorem dX10_plays_155 : decode cX10_plays 155 = .ok (.iastore, 1) := by decide +kernel
theorem dX10_plays_156 : decode cX10_plays 156 = .ok (.aload_n 0, 1) := by decide +kernel
theorem dX10_plays_157 : decode cX10_plays 157 = .ok (.getfield 7, 3) := by decide +kernel
theorem dX10_plays_160 : decode cX10_plays 160 = .ok (.bipush 6, 2) := by decide +kernel
theorem dX10_plays_162 : decode cX10_plays 162 = .ok (.dup2, 1) := by decide +kernel
theorem dX10_plays_163 : decode cX10_plays 163 = .ok (.iaload, 1) := by decide +kernel
theorem dX10_plays_164 : decode cX10_plays 164 = .ok (.iconst 1, 1) := by decide +kernel
theorem dX10_plays_165 : decode cX10_plays 165 = .ok (.iadd, 1) := by decide +kernel
theorem dX10_plays_166 : decode cX10_plays 166 = .ok (.iastore, 1) := by decide +kernel
theorem dX10_plays_167 : decode cX10_plays 167 = .ok (.aload_n 0, 1) := by decide +kernel
theorem dX10_plays_168 : decode cX10_plays 168 = .ok (.aload_n 0, 1) := by decide +kernel
theorem dX10_plays_169 : decode cX10_plays 169 = .ok (.getfield 7, 3) := by decide +kernel
theorem dX10_plays_172 : decode cX10_plays 172 = .ok (.iconst 4, 1) := by decide +kernel
theorem dX10_plays_173 : decode cX10_plays 173 = .ok (.iaload, 1) := by decide +kernel
theorem dX10_plays_174 : decode cX10_plays 174 = .ok (.invokevirtual 38, 3) := by decide +kernel
theorem dX10_plays_177 : decode cX10_plays 177 = .ok (.istore 5, 2) := by decide +kernel
theorem dX10_plays_179 : decode cX10_plays 179 = .ok (.iload 5, 2) := by decide +kernel
theorem dX10_plays_181 : decode cX10_plays 181 = .ok (.sipush (-1006), 3) := by decide +kernel
theorem dX10_plays_184 : decode cX10_plays 184 = .ok (.if_icmp .eq 28, 3) := by decide +kernel
theorem dX10_plays_187 : decode cX10_plays 187 = .ok (.aload_n 0, 1) := by decide +kernel
theorem dX10_plays_188 : decode cX10_plays 188 = .ok (.getfield 7, 3) := by decide +kernel
theorem dX10_plays_191 : decode cX10_plays 191 = .ok (.bipush 15, 2) := by decide +kernel
theorem dX10_plays_193 : decode cX10_plays 193 = .ok (.iload 5, 2) := by decide +kernel
theorem dX10_plays_195 : decode cX10_plays 195 = .ok (.iadd, 1) := by decide +kernel
theorem dX10_plays_196 : decode cX10_plays 196 = .ok (.dup2, 1) := by decide +kernel
theorem dX10_plays_197 : decode cX10_plays 197 = .ok (.iaload, 1) := by decide +kernel
theorem dX10_plays_198 : decode cX10_plays 198 = .ok (.iconst 1, 1) := by decide +kernel
theorem dX10_plays_199 : decode cX10_plays 199 = .ok (.iadd, 1) := by decide +kernel
theorem dX10_plays_200 : decode cX10_plays 200 = .ok (.iastore, 1) := by decide +kernel
theorem dX10_plays_201 : decode cX10_plays 201 = .ok (.aload_n 0, 1) := by decide +kernel
theorem dX10_plays_202 : decode cX10_plays 202 = .ok (.getfield 7, 3) := by decide +kernel
theorem dX10_plays_205 : decode cX10_plays 205 = .ok (.bipush 18, 2) := by decide +kernel
theorem dX10_plays_207 : decode cX10_plays 207 = .ok (.dup2, 1) := by decide +kernel
theorem dX10_plays_208 : decode cX10_plays 208 = .ok (.iaload, 1) := by decide +kernel
theorem dX10_plays_209 : decode cX10_plays 209 = .ok (.iconst 1, 1) := by decide +kernel
theorem dX10_plays_210 : decode cX10_plays 210 = .ok (.iadd, 1) := by decide +kernel
theorem dX10_plays_211 : decode cX10_plays 211 = .ok (.iastore, 1) := by decide +kernel
theorem dX10_plays_212 : decode cX10_plays 212 = .ok (.iload_n 3, 1) := by decide +kernel
theorem dX10_plays_213 : decode cX10_plays 213 = .ok (.ireturn, 1) := by decide +kernel
theorem dX10_canPlay_0 : decode cX10_canPlay 0 = .ok (.aload_n 0, 1) := by decide +kernel
theorem dX10_canPlay_1 : decode cX10_canPlay 1 = .ok (.invokevirtual 46, 3) := by decide +kernel
theorem dX10_canPlay_4 : decode cX10_canPlay 4 = .ok (.ifCond .ne 37, 3) := by decide +kernel
theorem dX10_canPlay_7 : decode cX10_canPlay 7 = .ok (.iload_n 1, 1) := by decide +kernel
theorem dX10_canPlay_8 : decode cX10_canPlay 8 = .ok (.aload_n 0, 1) := by decide +kernel
theorem dX10_canPlay_9 : decode cX10_canPlay 9 = .ok (.aload_n 0, 1) := by decide +kernel
theorem dX10_canPlay_10 : decode cX10_canPlay 10 = .ok (.getfield 7, 3) := by decide +kernel
theorem dX10_canPlay_13 : decode cX10_canPlay 13 = .ok (.iconst 5, 1) := by decide +kernel
theorem dX10_canPlay_14 : decode cX10_canPlay 14 = .ok (.iaload, 1) := by decide +kernel
theorem dX10_canPlay_15 : decode cX10_canPlay 15 = .ok (.invokevirtual 50, 3) := by decide +kernel
theorem dX10_canPlay_18 : decode cX10_canPlay 18 = .ok (.if_icmp .gt 23, 3) := by decide +kernel
theorem dX10_canPlay_21 : decode cX10_canPlay 21 = .ok (.iload_n 2, 1) := by decide +kernel
theorem dX10_canPlay_22 : decode cX10_canPlay 22 = .ok (.aload_n 0, 1) := by decide +kernel
theorem dX10_canPlay_23 : decode cX10_canPlay 23 = .ok (.iconst 1, 1) := by decide +kernel
theorem dX10_canPlay_24 : decode cX10_canPlay 24 = .ok (.aload_n 0, 1) := by decide +kernel
theorem dX10_canPlay_25 : decode cX10_canPlay 25 = .ok (.getfield 7, 3) := by decide +kernel
theorem dX10_canPlay_28 : decode cX10_canPlay 28 = .ok (.iconst 5, 1) := by decide +kernel
theorem dX10_canPlay_29 : decode cX10_canPlay 29 = .ok (.iaload, 1) := by decide +kernel
theorem dX10_canPlay_30 : decode cX10_canPlay 30 = .ok (.isub, 1) := by decide +kernel
theorem dX10_canPlay_31 : decode cX10_canPlay 31 = .ok (.invokevirtual 50, 3) := by decide +kernel
theorem dX10_canPlay_34 : decode cX10_canPlay 34 = .ok (.if_icmp .gt 7, 3) := by decide +kernel
theorem dX10_canPlay_37 : decode cX10_canPlay 37 = .ok (.iconst 1, 1) := by decide +kernel
theorem dX10_canPlay_38 : decode cX10_canPlay 38 = .ok (.goto 4, 3) := by decide +kernel
theorem dX10_canPlay_41 : decode cX10_canPlay 41 = .ok (.iconst 0, 1) := by decide +kernel
theorem dX10_canPlay_42 : decode cX10_canPlay 42 = .ok (.ireturn, 1) := by decide +kernel
theorem dX10_at_0 : decode cX10_at 0 = .ok (.bipush 27, 2) := by decide +kernel
theorem dX10_at_2 : decode cX10_at 2 = .ok (.iload_n 2, 1) := by decide +kernel
theorem dX10_at_3 : decode cX10_at 3 = .ok (.iconst 2, 1) := by decide +kernel
theorem dX10_at_4 : decode cX10_at 4 = .ok (.iadd, 1) := by decide +kernel
theorem dX10_at_5 : decode cX10_at 5 = .ok (.imul, 1) := by decide +kernel
theorem dX10_at_6 : decode cX10_at 6 = .ok (.iload_n 3, 1) := by decide +kernel
theorem dX10_at_7 : decode cX10_at 7 = .ok (.iadd, 1) := by decide +kernel
theorem dX10_at_8 : decode cX10_at 8 = .ok (.iconst 2, 1) := by decide +kernel
theorem dX10_at_9 : decode cX10_at 9 = .ok (.iadd, 1) := by decide +kernel
theorem dX10_at_10 : decode cX10_at 10 = .ok (.istore 5, 2) := by decide +kernel
theorem dX10_at_12 : decode cX10_at 12 = .ok (.iload_n 0, 1) := by decide +kernel
theorem dX10_at_13 : decode cX10_at 13 = .ok (.bipush 7, 2) := by decide +kernel
theorem dX10_at_15 : decode cX10_at 15 = .ok (.imul, 1) := by decide +kernel
theorem dX10_at_16 : decode cX10_at 16 = .ok (.iload_n 1, 1) := by decide +kernel
theorem dX10_at_17 : decode cX10_at 17 = .ok (.iadd, 1) := by decide +kernel
theorem dX10_at_18 : decode cX10_at 18 = .ok (.iconst 3, 1) := by decide +kernel
theorem dX10_at_19 : decode cX10_at 19 = .ok (.iadd, 1) := by decide +kernel
theorem dX10_at_20 : decode cX10_at 20 = .ok (.bipush 27, 2) := by decide +kernel
theorem dX10_at_22 : decode cX10_at 22 = .ok (.imul, 1) := by decide +kernel
theorem dX10_at_23 : decode cX10_at 23 = .ok (.bipush 27, 2) := by decide +kernel
theorem dX10_at_25 : decode cX10_at 25 = .ok (.imul, 1) := by decide +kernel
theorem dX10_at_26 : decode cX10_at 26 = .ok (.iload 5, 2) := by decide +kernel
theorem dX10_at_28 : decode cX10_at 28 = .ok (.iadd, 1) := by decide +kernel
theorem dX10_at_29 : decode cX10_at 29 = .ok (.iconst 2, 1) := by decide +kernel
theorem dX10_at_30 : decode cX10_at 30 = .ok (.imul, 1) := by decide +kernel
theorem dX10_at_31 : decode cX10_at 31 = .ok (.iload 4, 2) := by decide +kernel
theorem dX10_at_33 : decode cX10_at 33 = .ok (.iadd, 1) := by decide +kernel
theorem dX10_at_34 : decode cX10_at 34 = .ok (.ireturn, 1) := by decide +kernel
theorem dX10_behind_0 : decode cX10_behind 0 = .ok (.aload_n 0, 1) := by decide +kernel
theorem dX10_behind_1 : decode cX10_behind 1 = .ok (.iload 5, 2) := by decide +kernel
theorem dX10_behind_3 : decode cX10_behind 3 = .ok (.iload 6, 2) := by decide +kernel
theorem dX10_behind_5 : decode cX10_behind 5 = .ok (.iload 7, 2) := by decide +kernel
theorem dX10_behind_7 : decode cX10_behind 7 = .ok (.invokevirtual 42, 3) := by decide +kernel
theorem dX10_behind_10 : decode cX10_behind 10 = .ok (.istore 8, 2) := by decide +kernel
theorem dX10_behind_12 : decode cX10_behind 12 = .ok (.iload 8, 2) := by decide +kernel
theorem dX10_behind_14 : decode cX10_behind 14 = .ok (.iload 5, 2) := by decide +kernel
theorem dX10_behind_16 : decode cX10_behind 16 = .ok (.if_icmp .ne 8, 3) := by decide +kernel
theorem dX10_behind_19 : decode cX10_behind 19 = .ok (.iload 6, 2) := by decide +kernel
theorem dX10_behind_21 : decode cX10_behind 21 = .ok (.goto 5, 3) := by decide +kernel
theorem dX10_behind_24 : decode cX10_behind 24 = .ok (.iload 7, 2) := by decide +kernel
theorem dX10_behind_26 : decode cX10_behind 26 = .ok (.istore 9, 2) := by decide +kernel
theorem dX10_behind_28 : decode cX10_behind 28 = .ok (.aload_n 0, 1) := by decide +kernel
theorem dX10_behind_29 : decode cX10_behind 29 = .ok (.getfield 7, 3) := by decide +kernel
theorem dX10_behind_32 : decode cX10_behind 32 = .ok (.iconst 2, 1) := by decide +kernel
theorem dX10_behind_33 : decode cX10_behind 33 = .ok (.iaload, 1) := by decide +kernel
theorem dX10_behind_34 : decode cX10_behind 34 = .ok (.ifCond .ne 8, 3) := by decide +kernel
theorem dX10_behind_37 : decode cX10_behind 37 = .ok (.iload 9, 2) := by decide +kernel
theorem dX10_behind_39 : decode cX10_behind 39 = .ok (.goto 4, 3) := by decide +kernel
theorem dX10_behind_42 : decode cX10_behind 42 = .ok (.iconst 0, 1) := by decide +kernel
theorem dX10_behind_43 : decode cX10_behind 43 = .ok (.istore 10, 2) := by decide +kernel
theorem dX10_behind_45 : decode cX10_behind 45 = .ok (.iload 8, 2) := by decide +kernel
theorem dX10_behind_47 : decode cX10_behind 47 = .ok (.ifCond .ne 10, 3) := by decide +kernel
theorem dX10_behind_50 : decode cX10_behind 50 = .ok (.iload_n 3, 1) := by decide +kernel
theorem dX10_behind_51 : decode cX10_behind 51 = .ok (.iload 9, 2) := by decide +kernel
theorem dX10_behind_53 : decode cX10_behind 53 = .ok (.isub, 1) := by decide +kernel
theorem dX10_behind_54 : decode cX10_behind 54 = .ok (.goto 7, 3) := by decide +kernel
theorem dX10_behind_57 : decode cX10_behind 57 = .ok (.iload_n 3, 1) := by decide +kernel
theorem dX10_behind_58 : decode cX10_behind 58 = .ok (.iload 10, 2) := by decide +kernel
theorem dX10_behind_60 : decode cX10_behind 60 = .ok (.iadd, 1) := by decide +kernel
theorem dX10_behind_61 : decode cX10_behind 61 = .ok (.istore 11, 2) := by decide +kernel
theorem dX10_behind_63 : decode cX10_behind 63 = .ok (.iload 8, 2) := by decide +kernel
theorem dX10_behind_65 : decode cX10_behind 65 = .ok (.ifCond .ne 11, 3) := by decide +kernel
theorem dX10_behind_68 : decode cX10_behind 68 = .ok (.iload 4, 2) := by decide +kernel
theorem dX10_behind_70 : decode cX10_behind 70 = .ok (.iload 10, 2) := by decide +kernel
theorem dX10_behind_72 : decode cX10_behind 72 = .ok (.iadd, 1) := by decide +kernel
theorem dX10_behind_73 : decode cX10_behind 73 = .ok (.goto 8, 3) := by decide +kernel
theorem dX10_behind_76 : decode cX10_behind 76 = .ok (.iload 4, 2) := by decide +kernel
theorem dX10_behind_78 : decode cX10_behind 78 = .ok (.iload 9, 2) := by decide +kernel
theorem dX10_behind_80 : decode cX10_behind 80 = .ok (.isub, 1) := by decide +kernel
theorem dX10_behind_81 : decode cX10_behind 81 = .ok (.istore 12, 2) := by decide +kernel
theorem dX10_behind_83 : decode cX10_behind 83 = .ok (.iload_n 1, 1) := by decide +kernel
theorem dX10_behind_84 : decode cX10_behind 84 = .ok (.iload 8, 2) := by decide +kernel
theorem dX10_behind_86 : decode cX10_behind 86 = .ok (.ifCond .ne 9, 3) := by decide +kernel
theorem dX10_behind_89 : decode cX10_behind 89 = .ok (.iload_n 2, 1) := by decide +kernel
theorem dX10_behind_90 : decode cX10_behind 90 = .ok (.iconst 1, 1) := by decide +kernel
theorem dX10_behind_91 : decode cX10_behind 91 = .ok (.iadd, 1) := by decide +kernel
theorem dX10_behind_92 : decode cX10_behind 92 = .ok (.goto 6, 3) := by decide +kernel
theorem dX10_behind_95 : decode cX10_behind 95 = .ok (.iload_n 2, 1) := by decide +kernel
theorem dX10_behind_96 : decode cX10_behind 96 = .ok (.iconst 1, 1) := by decide +kernel
theorem dX10_behind_97 : decode cX10_behind 97 = .ok (.isub, 1) := by decide +kernel
theorem dX10_behind_98 : decode cX10_behind 98 = .ok (.iload 11, 2) := by decide +kernel
theorem dX10_behind_100 : decode cX10_behind 100 = .ok (.iload 12, 2) := by decide +kernel
theorem dX10_behind_102 : decode cX10_behind 102 = .ok (.iconst 1, 1) := by decide +kernel
theorem dX10_behind_103 : decode cX10_behind 103 = .ok (.iload 5, 2) := by decide +kernel
theorem dX10_behind_105 : decode cX10_behind 105 = .ok (.isub, 1) := by decide +kernel
theorem dX10_behind_106 : decode cX10_behind 106 = .ok (.invokestatic 53, 3) := by decide +kernel
theorem dX10_behind_109 : decode cX10_behind 109 = .ok (.ireturn, 1) := by decide +kernel
theorem dX10_canForce_0 : decode cX10_canForce 0 = .ok (.iload 5, 2) := by decide +kernel
theorem dX10_canForce_2 : decode cX10_canForce 2 = .ok (.ifCond .ne 7, 3) := by decide +kernel
theorem dX10_canForce_5 : decode cX10_canForce 5 = .ok (.iload_n 3, 1) := by decide +kernel
theorem dX10_canForce_6 : decode cX10_canForce 6 = .ok (.goto 5, 3) := by decide +kernel
theorem dX10_canForce_9 : decode cX10_canForce 9 = .ok (.iload 4, 2) := by decide +kernel
theorem dX10_canForce_11 : decode cX10_canForce 11 = .ok (.aload_n 0, 1) := by decide +kernel
theorem dX10_canForce_12 : decode cX10_canForce 12 = .ok (.getfield 7, 3) := by decide +kernel
theorem dX10_canForce_15 : decode cX10_canForce 15 = .ok (.iconst 1, 1) := by decide +kernel
theorem dX10_canForce_16 : decode cX10_canForce 16 = .ok (.iaload, 1) := by decide +kernel
theorem dX10_canForce_17 : decode cX10_canForce 17 = .ok (.iadd, 1) := by decide +kernel
theorem dX10_canForce_18 : decode cX10_canForce 18 = .ok (.istore 7, 2) := by decide +kernel
theorem dX10_canForce_20 : decode cX10_canForce 20 = .ok (.iload 5, 2) := by decide +kernel
theorem dX10_canForce_22 : decode cX10_canForce 22 = .ok (.ifCond .ne 8, 3) := by decide +kernel
theorem dX10_canForce_25 : decode cX10_canForce 25 = .ok (.iload 4, 2) := by decide +kernel
theorem dX10_canForce_27 : decode cX10_canForce 27 = .ok (.goto 4, 3) := by decide +kernel
theorem dX10_canForce_30 : decode cX10_canForce 30 = .ok (.iload_n 3, 1) := by decide +kernel
theorem dX10_canForce_31 : decode cX10_canForce 31 = .ok (.aload_n 0, 1) := by decide +kernel
theorem dX10_canForce_32 : decode cX10_canForce 32 = .ok (.getfield 7, 3) := by decide +kernel
theorem dX10_canForce_35 : decode cX10_canForce 35 = .ok (.iconst 1, 1) := by decide +kernel
theorem dX10_canForce_36 : decode cX10_canForce 36 = .ok (.iaload, 1) := by decide +kernel
theorem dX10_canForce_37 : decode cX10_canForce 37 = .ok (.iadd, 1) := by decide +kernel
theorem dX10_canForce_38 : decode cX10_canForce 38 = .ok (.istore 8, 2) := by decide +kernel
theorem dX10_canForce_40 : decode cX10_canForce 40 = .ok (.iconst 0, 1) := by decide +kernel
theorem dX10_canForce_41 : decode cX10_canForce 41 = .ok (.istore 9, 2) := by decide +kernel
theorem dX10_canForce_43 : decode cX10_canForce 43 = .ok (.iconst 1, 1) := by decide +kernel
theorem dX10_canForce_44 : decode cX10_canForce 44 = .ok (.istore 10, 2) := by decide +kernel
theorem dX10_canForce_46 : decode cX10_canForce 46 = .ok (.iconst 0, 1) := by decide +kernel
theorem dX10_canForce_47 : decode cX10_canForce 47 = .ok (.istore 11, 2) := by decide +kernel
theorem dX10_canForce_49 : decode cX10_canForce 49 = .ok (.iload 11, 2) := by decide +kernel
theorem dX10_canForce_51 : decode cX10_canForce 51 = .ok (.iload 7, 2) := by decide +kernel
theorem dX10_canForce_53 : decode cX10_canForce 53 = .ok (.if_icmp .gt 131, 3) := by decide +kernel
theorem dX10_canForce_56 : decode cX10_canForce 56 = .ok (.iconst 0, 1) := by decide +kernel
theorem dX10_canForce_57 : decode cX10_canForce 57 = .ok (.istore 12, 2) := by decide +kernel
theorem dX10_canForce_59 : decode cX10_canForce 59 = .ok (.iconst 1, 1) := by decide +kernel
theorem dX10_canForce_60 : decode cX10_canForce 60 = .ok (.istore 13, 2) := by decide +kernel
theorem dX10_canForce_62 : decode cX10_canForce 62 = .ok (.iconst 0, 1) := by decide +kernel
theorem dX10_canForce_63 : decode cX10_canForce 63 = .ok (.istore 14, 2) := by decide +kernel
theorem dX10_canForce_65 : decode cX10_canForce 65 = .ok (.iload 14, 2) := by decide +kernel
theorem dX10_canForce_67 : decode cX10_canForce 67 = .ok (.iload 8, 2) := by decide +kernel
theorem dX10_canForce_69 : decode cX10_canForce 69 = .ok (.if_icmp .gt 75, 3) := by decide +kernel
theorem dX10_canForce_72 : decode cX10_canForce 72 = .ok (.aload_n 0, 1) := by decide +kernel
theorem dX10_canForce_73 : decode cX10_canForce 73 = .ok (.getfield 22, 3) := by decide +kernel
theorem dX10_canForce_76 : decode cX10_canForce 76 = .ok (.aload_n 0, 1) := by decide +kernel
theorem dX10_canForce_77 : decode cX10_canForce 77 = .ok (.iload_n 1, 1) := by decide +kernel
theorem dX10_canForce_78 : decode cX10_canForce 78 = .ok (.iload_n 2, 1) := by decide +kernel
theorem dX10_canForce_79 : decode cX10_canForce 79 = .ok (.iload_n 3, 1) := by decide +kernel
theorem dX10_canForce_80 : decode cX10_canForce 80 = .ok (.iload 4, 2) := by decide +kernel
theorem dX10_canForce_82 : decode cX10_canForce 82 = .ok (.iload 5, 2) := by decide +kernel
theorem dX10_canForce_84 : decode cX10_canForce 84 = .ok (.iload 11, 2) := by decide +kernel
theorem dX10_canForce_86 : decode cX10_canForce 86 = .ok (.iload 14, 2) := by decide +kernel
theorem dX10_canForce_88 : decode cX10_canForce 88 = .ok (.invokevirtual 57, 3) := by decide +kernel
theorem dX10_canForce_91 : decode cX10_canForce 91 = .ok (.iaload, 1) := by decide +kernel
theorem dX10_canForce_92 : decode cX10_canForce 92 = .ok (.iload 6, 2) := by decide +kernel
theorem dX10_canForce_94 : decode cX10_canForce 94 = .ok (.if_icmp .ge 7, 3) := by decide +kernel
theorem dX10_canForce_97 : decode cX10_canForce 97 = .ok (.iconst 1, 1) := by decide +kernel
theorem dX10_canForce_98 : decode cX10_canForce 98 = .ok (.goto 4, 3) := by decide +kernel
theorem dX10_canForce_101 : decode cX10_canForce 101 = .ok (.iconst 0, 1) := by decide +kernel
theorem dX10_canForce_102 : decode cX10_canForce 102 = .ok (.istore 15, 2) := by decide +kernel
theorem dX10_canForce_104 : decode cX10_canForce 104 = .ok (.iload 12, 2) := by decide +kernel
theorem dX10_canForce_106 : decode cX10_canForce 106 = .ok (.ifCond .ne 8, 3) := by decide +kernel
theorem dX10_canForce_109 : decode cX10_canForce 109 = .ok (.iload 15, 2) := by decide +kernel
theorem dX10_canForce_111 : decode cX10_canForce 111 = .ok (.ifCond .eq 7, 3) := by decide +kernel
theorem dX10_canForce_114 : decode cX10_canForce 114 = .ok (.iconst 1, 1) := by decide +kernel
theorem dX10_canForce_115 : decode cX10_canForce 115 = .ok (.goto 4, 3) := by decide +kernel
theorem dX10_canForce_118 : decode cX10_canForce 118 = .ok (.iconst 0, 1) := by decide +kernel
theorem dX10_canForce_119 : decode cX10_canForce 119 = .ok (.istore 12, 2) := by decide +kernel
theorem dX10_canForce_121 : decode cX10_canForce 121 = .ok (.iload 13, 2) := by decide +kernel
theorem dX10_canForce_123 : decode cX10_canForce 123 = .ok (.ifCond .eq 12, 3) := by decide +kernel
theorem dX10_canForce_126 : decode cX10_canForce 126 = .ok (.iload 15, 2) := by decide +kernel
