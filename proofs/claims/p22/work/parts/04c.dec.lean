theorem dX9_count_68 : decode cX9_count 68 = .ok (.getfield 166, 3) := by decide +kernel
theorem dX9_count_71 : decode cX9_count 71 = .ok (.ireturn, 1) := by decide +kernel
theorem dX9_count_72 : decode cX9_count 72 = .ok (.aload_n 0, 1) := by decide +kernel
theorem dX9_count_73 : decode cX9_count 73 = .ok (.getfield 12, 3) := by decide +kernel
theorem dX9_count_76 : decode cX9_count 76 = .ok (.invokevirtual 115, 3) := by decide +kernel
theorem dX9_count_79 : decode cX9_count 79 = .ok (.ifCond .eq 9, 3) := by decide +kernel
theorem dX9_count_82 : decode cX9_count 82 = .ok (.sipush (-1006), 3) := by decide +kernel
theorem dX9_count_85 : decode cX9_count 85 = .ok (.goto 10, 3) := by decide +kernel
theorem dX9_count_88 : decode cX9_count 88 = .ok (.aload_n 0, 1) := by decide +kernel
theorem dX9_count_89 : decode cX9_count 89 = .ok (.getfield 12, 3) := by decide +kernel
theorem dX9_count_92 : decode cX9_count 92 = .ok (.getfield 169, 3) := by decide +kernel
theorem dX9_count_95 : decode cX9_count 95 = .ok (.ireturn, 1) := by decide +kernel
theorem dX9_count_96 : decode cX9_count 96 = .ok (.aload_n 0, 1) := by decide +kernel
theorem dX9_count_97 : decode cX9_count 97 = .ok (.getfield 12, 3) := by decide +kernel
theorem dX9_count_100 : decode cX9_count 100 = .ok (.getfield 91, 3) := by decide +kernel
theorem dX9_count_103 : decode cX9_count 103 = .ok (.ireturn, 1) := by decide +kernel
theorem dX9_count_104 : decode cX9_count 104 = .ok (.aload_n 0, 1) := by decide +kernel
theorem dX9_count_105 : decode cX9_count 105 = .ok (.getfield 12, 3) := by decide +kernel
theorem dX9_count_108 : decode cX9_count 108 = .ok (.invokevirtual 172, 3) := by decide +kernel
theorem dX9_count_111 : decode cX9_count 111 = .ok (.ireturn, 1) := by decide +kernel
theorem dX9_count_112 : decode cX9_count 112 = .ok (.aload_n 0, 1) := by decide +kernel
theorem dX9_count_113 : decode cX9_count 113 = .ok (.getfield 12, 3) := by decide +kernel
theorem dX9_count_116 : decode cX9_count 116 = .ok (.getfield 175, 3) := by decide +kernel
theorem dX9_count_119 : decode cX9_count 119 = .ok (.ireturn, 1) := by decide +kernel
theorem dX9_count_120 : decode cX9_count 120 = .ok (.aload_n 0, 1) := by decide +kernel
theorem dX9_count_121 : decode cX9_count 121 = .ok (.getfield 12, 3) := by decide +kernel
theorem dX9_count_124 : decode cX9_count 124 = .ok (.getfield 95, 3) := by decide +kernel
theorem dX9_count_127 : decode cX9_count 127 = .ok (.getfield 160, 3) := by decide +kernel
theorem dX9_count_130 : decode cX9_count 130 = .ok (.aload_n 0, 1) := by decide +kernel
theorem dX9_count_131 : decode cX9_count 131 = .ok (.getfield 12, 3) := by decide +kernel
theorem dX9_count_134 : decode cX9_count 134 = .ok (.getfield 104, 3) := by decide +kernel
theorem dX9_count_137 : decode cX9_count 137 = .ok (.getfield 160, 3) := by decide +kernel
theorem dX9_count_140 : decode cX9_count 140 = .ok (.iadd, 1) := by decide +kernel
theorem dX9_count_141 : decode cX9_count 141 = .ok (.ireturn, 1) := by decide +kernel
theorem dX9_count_142 : decode cX9_count 142 = .ok (.aload_n 0, 1) := by decide +kernel
theorem dX9_count_143 : decode cX9_count 143 = .ok (.getfield 36, 3) := by decide +kernel
theorem dX9_count_146 : decode cX9_count 146 = .ok (.getfield 178, 3) := by decide +kernel
theorem dX9_count_149 : decode cX9_count 149 = .ok (.ireturn, 1) := by decide +kernel
theorem dX9_count_150 : decode cX9_count 150 = .ok (.aload_n 0, 1) := by decide +kernel
theorem dX9_count_151 : decode cX9_count 151 = .ok (.getfield 19, 3) := by decide +kernel
theorem dX9_count_154 : decode cX9_count 154 = .ok (.getfield 181, 3) := by decide +kernel
theorem dX9_count_157 : decode cX9_count 157 = .ok (.ireturn, 1) := by decide +kernel
theorem dX9_count_158 : decode cX9_count 158 = .ok (.sipush (-1002), 3) := by decide +kernel
theorem dX9_count_161 : decode cX9_count 161 = .ok (.ireturn, 1) := by decide +kernel
theorem dX9_forced_0 : decode cX9_forced 0 = .ok (.iload_n 1, 1) := by decide +kernel
theorem dX9_forced_1 : decode cX9_forced 1 = .ok (.invokestatic 141, 3) := by decide +kernel
theorem dX9_forced_4 : decode cX9_forced 4 = .ok (.ifCond .ne 7, 3) := by decide +kernel
theorem dX9_forced_7 : decode cX9_forced 7 = .ok (.sipush (-1001), 3) := by decide +kernel
theorem dX9_forced_10 : decode cX9_forced 10 = .ok (.ireturn, 1) := by decide +kernel
theorem dX9_forced_11 : decode cX9_forced 11 = .ok (.iload_n 2, 1) := by decide +kernel
theorem dX9_forced_12 : decode cX9_forced 12 = .ok (.iconst 0, 1) := by decide +kernel
theorem dX9_forced_13 : decode cX9_forced 13 = .ok (.bipush 8, 2) := by decide +kernel
theorem dX9_forced_15 : decode cX9_forced 15 = .ok (.invokestatic 87, 3) := by decide +kernel
theorem dX9_forced_18 : decode cX9_forced 18 = .ok (.ifCond .ne 7, 3) := by decide +kernel
theorem dX9_forced_21 : decode cX9_forced 21 = .ok (.sipush (-1002), 3) := by decide +kernel
theorem dX9_forced_24 : decode cX9_forced 24 = .ok (.ireturn, 1) := by decide +kernel
theorem dX9_forced_25 : decode cX9_forced 25 = .ok (.aload_n 0, 1) := by decide +kernel
theorem dX9_forced_26 : decode cX9_forced 26 = .ok (.iload_n 1, 1) := by decide +kernel
theorem dX9_forced_27 : decode cX9_forced 27 = .ok (.aload_n 0, 1) := by decide +kernel
theorem dX9_forced_28 : decode cX9_forced 28 = .ok (.getfield 12, 3) := by decide +kernel
theorem dX9_forced_31 : decode cX9_forced 31 = .ok (.iload_n 1, 1) := by decide +kernel
theorem dX9_forced_32 : decode cX9_forced 32 = .ok (.invokevirtual 151, 3) := by decide +kernel
theorem dX9_forced_35 : decode cX9_forced 35 = .ok (.invokevirtual 163, 3) := by decide +kernel
theorem dX9_forced_38 : decode cX9_forced 38 = .ok (.iload_n 2, 1) := by decide +kernel
theorem dX9_forced_39 : decode cX9_forced 39 = .ok (.if_icmp .gt 7, 3) := by decide +kernel
theorem dX9_forced_42 : decode cX9_forced 42 = .ok (.iconst 1, 1) := by decide +kernel
theorem dX9_forced_43 : decode cX9_forced 43 = .ok (.goto 4, 3) := by decide +kernel
theorem dX9_forced_46 : decode cX9_forced 46 = .ok (.iconst 0, 1) := by decide +kernel
theorem dX9_forced_47 : decode cX9_forced 47 = .ok (.ireturn, 1) := by decide +kernel
theorem dX9_ahead_0 : decode cX9_ahead 0 = .ok (.iload_n 1, 1) := by decide +kernel
theorem dX9_ahead_1 : decode cX9_ahead 1 = .ok (.invokestatic 141, 3) := by decide +kernel
theorem dX9_ahead_4 : decode cX9_ahead 4 = .ok (.ifCond .ne 7, 3) := by decide +kernel
theorem dX9_ahead_7 : decode cX9_ahead 7 = .ok (.sipush (-1001), 3) := by decide +kernel
theorem dX9_ahead_10 : decode cX9_ahead 10 = .ok (.ireturn, 1) := by decide +kernel
theorem dX9_ahead_11 : decode cX9_ahead 11 = .ok (.iload_n 2, 1) := by decide +kernel
theorem dX9_ahead_12 : decode cX9_ahead 12 = .ok (.iconst 0, 1) := by decide +kernel
theorem dX9_ahead_13 : decode cX9_ahead 13 = .ok (.iconst 3, 1) := by decide +kernel
theorem dX9_ahead_14 : decode cX9_ahead 14 = .ok (.invokestatic 87, 3) := by decide +kernel
theorem dX9_ahead_17 : decode cX9_ahead 17 = .ok (.ifCond .ne 7, 3) := by decide +kernel
theorem dX9_ahead_20 : decode cX9_ahead 20 = .ok (.sipush (-1002), 3) := by decide +kernel
theorem dX9_ahead_23 : decode cX9_ahead 23 = .ok (.ireturn, 1) := by decide +kernel
theorem dX9_ahead_24 : decode cX9_ahead 24 = .ok (.aload_n 0, 1) := by decide +kernel
theorem dX9_ahead_25 : decode cX9_ahead 25 = .ok (.getfield 59, 3) := by decide +kernel
theorem dX9_ahead_28 : decode cX9_ahead 28 = .ok (.iload_n 1, 1) := by decide +kernel
theorem dX9_ahead_29 : decode cX9_ahead 29 = .ok (.iload_n 2, 1) := by decide +kernel
theorem dX9_ahead_30 : decode cX9_ahead 30 = .ok (.invokevirtual 184, 3) := by decide +kernel
theorem dX9_ahead_33 : decode cX9_ahead 33 = .ok (.ifCond .eq 7, 3) := by decide +kernel
theorem dX9_ahead_36 : decode cX9_ahead 36 = .ok (.iconst 1, 1) := by decide +kernel
theorem dX9_ahead_37 : decode cX9_ahead 37 = .ok (.goto 4, 3) := by decide +kernel
theorem dX9_ahead_40 : decode cX9_ahead 40 = .ok (.iconst 0, 1) := by decide +kernel
theorem dX9_ahead_41 : decode cX9_ahead 41 = .ok (.ireturn, 1) := by decide +kernel
theorem dX9_bestBid_0 : decode cX9_bestBid 0 = .ok (.aload_n 0, 1) := by decide +kernel
theorem dX9_bestBid_1 : decode cX9_bestBid 1 = .ok (.getfield 12, 3) := by decide +kernel
theorem dX9_bestBid_4 : decode cX9_bestBid 4 = .ok (.invokevirtual 115, 3) := by decide +kernel
theorem dX9_bestBid_7 : decode cX9_bestBid 7 = .ok (.ifCond .eq 7, 3) := by decide +kernel
theorem dX9_bestBid_10 : decode cX9_bestBid 10 = .ok (.sipush (-1005), 3) := by decide +kernel
theorem dX9_bestBid_13 : decode cX9_bestBid 13 = .ok (.ireturn, 1) := by decide +kernel
theorem dX9_bestBid_14 : decode cX9_bestBid 14 = .ok (.aload_n 0, 1) := by decide +kernel
theorem dX9_bestBid_15 : decode cX9_bestBid 15 = .ok (.getfield 52, 3) := by decide +kernel
theorem dX9_bestBid_18 : decode cX9_bestBid 18 = .ok (.aload_n 0, 1) := by decide +kernel
theorem dX9_bestBid_19 : decode cX9_bestBid 19 = .ok (.invokevirtual 119, 3) := by decide +kernel
theorem dX9_bestBid_22 : decode cX9_bestBid 22 = .ok (.invokevirtual 123, 3) := by decide +kernel
theorem dX9_bestBid_25 : decode cX9_bestBid 25 = .ok (.ireturn, 1) := by decide +kernel
theorem dX9_bestAnswer_0 : decode cX9_bestAnswer 0 = .ok (.iload_n 1, 1) := by decide +kernel
theorem dX9_bestAnswer_1 : decode cX9_bestAnswer 1 = .ok (.iconst 0, 1) := by decide +kernel
theorem dX9_bestAnswer_2 : decode cX9_bestAnswer 2 = .ok (.bipush 14, 2) := by decide +kernel
theorem dX9_bestAnswer_4 : decode cX9_bestAnswer 4 = .ok (.invokestatic 87, 3) := by decide +kernel
theorem dX9_bestAnswer_7 : decode cX9_bestAnswer 7 = .ok (.ifCond .ne 7, 3) := by decide +kernel
theorem dX9_bestAnswer_10 : decode cX9_bestAnswer 10 = .ok (.sipush (-1002), 3) := by decide +kernel
theorem dX9_bestAnswer_13 : decode cX9_bestAnswer 13 = .ok (.ireturn, 1) := by decide +kernel
theorem dX9_bestAnswer_14 : decode cX9_bestAnswer 14 = .ok (.aload_n 0, 1) := by decide +kernel
theorem dX9_bestAnswer_15 : decode cX9_bestAnswer 15 = .ok (.getfield 12, 3) := by decide +kernel
theorem dX9_bestAnswer_18 : decode cX9_bestAnswer 18 = .ok (.iload_n 1, 1) := by decide +kernel
theorem dX9_bestAnswer_19 : decode cX9_bestAnswer 19 = .ok (.iconst 0, 1) := by decide +kernel
theorem dX9_bestAnswer_20 : decode cX9_bestAnswer 20 = .ok (.invokevirtual 107, 3) := by decide +kernel
theorem dX9_bestAnswer_23 : decode cX9_bestAnswer 23 = .ok (.ifCond .ne 7, 3) := by decide +kernel
theorem dX9_bestAnswer_26 : decode cX9_bestAnswer 26 = .ok (.sipush (-1005), 3) := by decide +kernel
theorem dX9_bestAnswer_29 : decode cX9_bestAnswer 29 = .ok (.ireturn, 1) := by decide +kernel
theorem dX9_bestAnswer_30 : decode cX9_bestAnswer 30 = .ok (.aload_n 0, 1) := by decide +kernel
theorem dX9_bestAnswer_31 : decode cX9_bestAnswer 31 = .ok (.getfield 52, 3) := by decide +kernel
theorem dX9_bestAnswer_34 : decode cX9_bestAnswer 34 = .ok (.aload_n 0, 1) := by decide +kernel
theorem dX9_bestAnswer_35 : decode cX9_bestAnswer 35 = .ok (.invokevirtual 119, 3) := by decide +kernel
theorem dX9_bestAnswer_38 : decode cX9_bestAnswer 38 = .ok (.iload_n 1, 1) := by decide +kernel
theorem dX9_bestAnswer_39 : decode cX9_bestAnswer 39 = .ok (.invokevirtual 127, 3) := by decide +kernel
theorem dX9_bestAnswer_42 : decode cX9_bestAnswer 42 = .ok (.ireturn, 1) := by decide +kernel
theorem dX9_keeps_0 : decode cX9_keeps 0 = .ok (.aload_n 0, 1) := by decide +kernel
theorem dX9_keeps_1 : decode cX9_keeps 1 = .ok (.getfield 12, 3) := by decide +kernel
theorem dX9_keeps_4 : decode cX9_keeps 4 = .ok (.invokevirtual 115, 3) := by decide +kernel
theorem dX9_keeps_7 : decode cX9_keeps 7 = .ok (.ifCond .eq 7, 3) := by decide +kernel
theorem dX9_keeps_10 : decode cX9_keeps 10 = .ok (.sipush (-1005), 3) := by decide +kernel
theorem dX9_keeps_13 : decode cX9_keeps 13 = .ok (.ireturn, 1) := by decide +kernel
theorem dX9_keeps_14 : decode cX9_keeps 14 = .ok (.aload_n 0, 1) := by decide +kernel
theorem dX9_keeps_15 : decode cX9_keeps 15 = .ok (.getfield 52, 3) := by decide +kernel
theorem dX9_keeps_18 : decode cX9_keeps 18 = .ok (.aload_n 0, 1) := by decide +kernel
theorem dX9_keeps_19 : decode cX9_keeps 19 = .ok (.invokevirtual 119, 3) := by decide +kernel
theorem dX9_keeps_22 : decode cX9_keeps 22 = .ok (.invokevirtual 187, 3) := by decide +kernel
theorem dX9_keeps_25 : decode cX9_keeps 25 = .ok (.ireturn, 1) := by decide +kernel
theorem dX9_leastHours_0 : decode cX9_leastHours 0 = .ok (.iload_n 1, 1) := by decide +kernel
theorem dX9_leastHours_1 : decode cX9_leastHours 1 = .ok (.invokestatic 141, 3) := by decide +kernel
theorem dX9_leastHours_4 : decode cX9_leastHours 4 = .ok (.ifCond .ne 7, 3) := by decide +kernel
theorem dX9_leastHours_7 : decode cX9_leastHours 7 = .ok (.sipush (-1001), 3) := by decide +kernel
theorem dX9_leastHours_10 : decode cX9_leastHours 10 = .ok (.ireturn, 1) := by decide +kernel
theorem dX9_leastHours_11 : decode cX9_leastHours 11 = .ok (.aload_n 0, 1) := by decide +kernel
theorem dX9_leastHours_12 : decode cX9_leastHours 12 = .ok (.getfield 12, 3) := by decide +kernel
theorem dX9_leastHours_15 : decode cX9_leastHours 15 = .ok (.invokevirtual 115, 3) := by decide +kernel
theorem dX9_leastHours_18 : decode cX9_leastHours 18 = .ok (.ifCond .eq 7, 3) := by decide +kernel
theorem dX9_leastHours_21 : decode cX9_leastHours 21 = .ok (.sipush (-1005), 3) := by decide +kernel
theorem dX9_leastHours_24 : decode cX9_leastHours 24 = .ok (.ireturn, 1) := by decide +kernel
theorem dX9_leastHours_25 : decode cX9_leastHours 25 = .ok (.iconst 0, 1) := by decide +kernel
theorem dX9_leastHours_26 : decode cX9_leastHours 26 = .ok (.istore_n 2, 1) := by decide +kernel
theorem dX9_leastHours_27 : decode cX9_leastHours 27 = .ok (.iload_n 2, 1) := by decide +kernel
theorem dX9_leastHours_28 : decode cX9_leastHours 28 = .ok (.bipush 6, 2) := by decide +kernel
theorem dX9_leastHours_30 : decode cX9_leastHours 30 = .ok (.if_icmp .gt 30, 3) := by decide +kernel
theorem dX9_leastHours_33 : decode cX9_leastHours 33 = .ok (.aload_n 0, 1) := by decide +kernel
theorem dX9_leastHours_34 : decode cX9_leastHours 34 = .ok (.iload_n 1, 1) := by decide +kernel
theorem dX9_leastHours_35 : decode cX9_leastHours 35 = .ok (.iload_n 2, 1) := by decide +kernel
theorem dX9_leastHours_36 : decode cX9_leastHours 36 = .ok (.aload_n 0, 1) := by decide +kernel
theorem dX9_leastHours_37 : decode cX9_leastHours 37 = .ok (.getfield 12, 3) := by decide +kernel
theorem dX9_leastHours_40 : decode cX9_leastHours 40 = .ok (.getfield 190, 3) := by decide +kernel
theorem dX9_leastHours_43 : decode cX9_leastHours 43 = .ok (.iadd, 1) := by decide +kernel
theorem dX9_leastHours_44 : decode cX9_leastHours 44 = .ok (.invokevirtual 163, 3) := by decide +kernel
theorem dX9_leastHours_47 : decode cX9_leastHours 47 = .ok (.bipush 9, 2) := by decide +kernel
theorem dX9_leastHours_49 : decode cX9_leastHours 49 = .ok (.if_icmp .ge 5, 3) := by decide +kernel
theorem dX9_leastHours_52 : decode cX9_leastHours 52 = .ok (.iload_n 2, 1) := by decide +kernel
theorem dX9_leastHours_53 : decode cX9_leastHours 53 = .ok (.ireturn, 1) := by decide +kernel
theorem dX9_leastHours_54 : decode cX9_leastHours 54 = .ok (.iinc 2 1, 3) := by decide +kernel
theorem dX9_leastHours_57 : decode cX9_leastHours 57 = .ok (.goto (-30), 3) := by decide +kernel
theorem dX9_leastHours_60 : decode cX9_leastHours 60 = .ok (.sipush (-1006), 3) := by decide +kernel
theorem dX9_leastHours_63 : decode cX9_leastHours 63 = .ok (.ireturn, 1) := by decide +kernel
theorem dX9_put_0 : decode cX9_put 0 = .ok (.lload_n 1, 1) := by decide +kernel
theorem dX9_put_1 : decode cX9_put 1 = .ok (.invokestatic 193, 3) := by decide +kernel
theorem dX9_put_4 : decode cX9_put 4 = .ok (.istore_n 3, 1) := by decide +kernel
theorem dX9_put_5 : decode cX9_put 5 = .ok (.iload_n 3, 1) := by decide +kernel
theorem dX9_put_6 : decode cX9_put 6 = .ok (.ifCond .ne 7, 3) := by decide +kernel
theorem dX9_put_9 : decode cX9_put 9 = .ok (.sipush (-1002), 3) := by decide +kernel
theorem dX9_put_12 : decode cX9_put 12 = .ok (.ireturn, 1) := by decide +kernel
theorem dX9_put_13 : decode cX9_put 13 = .ok (.aload_n 0, 1) := by decide +kernel
theorem dX9_put_14 : decode cX9_put 14 = .ok (.getfield 36, 3) := by decide +kernel
theorem dX9_put_17 : decode cX9_put 17 = .ok (.getfield 178, 3) := by decide +kernel
theorem dX9_put_20 : decode cX9_put 20 = .ok (.iload_n 3, 1) := by decide +kernel
theorem dX9_put_21 : decode cX9_put 21 = .ok (.iadd, 1) := by decide +kernel
theorem dX9_put_22 : decode cX9_put 22 = .ok (.bipush 60, 2) := by decide +kernel
theorem dX9_put_24 : decode cX9_put 24 = .ok (.if_icmp .le 7, 3) := by decide +kernel
theorem dX9_put_27 : decode cX9_put 27 = .ok (.sipush (-1004), 3) := by decide +kernel
theorem dX9_put_30 : decode cX9_put 30 = .ok (.ireturn, 1) := by decide +kernel
theorem dX9_put_31 : decode cX9_put 31 = .ok (.aload_n 0, 1) := by decide +kernel
theorem dX9_put_32 : decode cX9_put 32 = .ok (.getfield 36, 3) := by decide +kernel
theorem dX9_put_35 : decode cX9_put 35 = .ok (.lload_n 1, 1) := by decide +kernel
theorem dX9_put_36 : decode cX9_put 36 = .ok (.iload_n 3, 1) := by decide +kernel
theorem dX9_put_37 : decode cX9_put 37 = .ok (.invokevirtual 197, 3) := by decide +kernel
theorem dX9_put_40 : decode cX9_put 40 = .ok (.aload_n 0, 1) := by decide +kernel
theorem dX9_put_41 : decode cX9_put 41 = .ok (.getfield 36, 3) := by decide +kernel
theorem dX9_put_44 : decode cX9_put 44 = .ok (.getfield 178, 3) := by decide +kernel
theorem dX9_put_47 : decode cX9_put 47 = .ok (.ireturn, 1) := by decide +kernel
theorem dX9_wipe_0 : decode cX9_wipe 0 = .ok (.aload_n 0, 1) := by decide +kernel
theorem dX9_wipe_1 : decode cX9_wipe 1 = .ok (.getfield 36, 3) := by decide +kernel
theorem dX9_wipe_4 : decode cX9_wipe 4 = .ok (.getfield 178, 3) := by decide +kernel
theorem dX9_wipe_7 : decode cX9_wipe 7 = .ok (.istore_n 1, 1) := by decide +kernel
theorem dX9_wipe_8 : decode cX9_wipe 8 = .ok (.aload_n 0, 1) := by decide +kernel
theorem dX9_wipe_9 : decode cX9_wipe 9 = .ok (.getfield 36, 3) := by decide +kernel
theorem dX9_wipe_12 : decode cX9_wipe 12 = .ok (.invokevirtual 138, 3) := by decide +kernel
theorem dX9_wipe_15 : decode cX9_wipe 15 = .ok (.iload_n 1, 1) := by decide +kernel
theorem dX9_wipe_16 : decode cX9_wipe 16 = .ok (.ireturn, 1) := by decide +kernel
theorem dX9_undo_0 : decode cX9_undo 0 = .ok (.aload_n 0, 1) := by decide +kernel
theorem dX9_undo_1 : decode cX9_undo 1 = .ok (.getfield 19, 3) := by decide +kernel
theorem dX9_undo_4 : decode cX9_undo 4 = .ok (.getfield 181, 3) := by decide +kernel
theorem dX9_undo_7 : decode cX9_undo 7 = .ok (.ifCond .ne 7, 3) := by decide +kernel
theorem dX9_undo_10 : decode cX9_undo 10 = .ok (.sipush (-1005), 3) := by decide +kernel
theorem dX9_undo_13 : decode cX9_undo 13 = .ok (.ireturn, 1) := by decide +kernel
theorem dX9_undo_14 : decode cX9_undo 14 = .ok (.aload_n 0, 1) := by decide +kernel
theorem dX9_undo_15 : decode cX9_undo 15 = .ok (.getfield 19, 3) := by decide +kernel
theorem dX9_undo_18 : decode cX9_undo 18 = .ok (.aload_n 0, 1) := by decide +kernel
theorem dX9_undo_19 : decode cX9_undo 19 = .ok (.getfield 12, 3) := by decide +kernel
theorem dX9_undo_22 : decode cX9_undo 22 = .ok (.invokevirtual 201, 3) := by decide +kernel
theorem dX9_undo_25 : decode cX9_undo 25 = .ok (.aload_n 0, 1) := by decide +kernel
theorem dX9_undo_26 : decode cX9_undo 26 = .ok (.getfield 19, 3) := by decide +kernel
theorem dX9_undo_29 : decode cX9_undo 29 = .ok (.getfield 181, 3) := by decide +kernel
theorem dX9_undo_32 : decode cX9_undo 32 = .ok (.ireturn, 1) := by decide +kernel
theorem dX9_save_0 : decode cX9_save 0 = .ok (.iload_n 1, 1) := by decide +kernel
theorem dX9_save_1 : decode cX9_save 1 = .ok (.invokestatic 204, 3) := by decide +kernel
theorem dX9_save_4 : decode cX9_save 4 = .ok (.ifCond .ne 7, 3) := by decide +kernel
theorem dX9_save_7 : decode cX9_save 7 = .ok (.sipush (-1002), 3) := by decide +kernel
theorem dX9_save_10 : decode cX9_save 10 = .ok (.ireturn, 1) := by decide +kernel
theorem dX9_save_11 : decode cX9_save 11 = .ok (.aload_n 0, 1) := by decide +kernel
theorem dX9_save_12 : decode cX9_save 12 = .ok (.iload_n 1, 1) := by decide +kernel
theorem dX9_save_13 : decode cX9_save 13 = .ok (.invokevirtual 207, 3) := by decide +kernel
theorem dX9_save_16 : decode cX9_save 16 = .ok (.astore_n 2, 1) := by decide +kernel
theorem dX9_save_17 : decode cX9_save 17 = .ok (.aload_n 2, 1) := by decide +kernel
theorem dX9_save_18 : decode cX9_save 18 = .ok (.getfield 211, 3) := by decide +kernel
theorem dX9_save_21 : decode cX9_save 21 = .ok (.aload_n 0, 1) := by decide +kernel
theorem dX9_save_22 : decode cX9_save 22 = .ok (.getfield 12, 3) := by decide +kernel
theorem dX9_save_25 : decode cX9_save 25 = .ok (.invokevirtual 214, 3) := by decide +kernel
theorem dX9_save_28 : decode cX9_save 28 = .ok (.aload_n 2, 1) := by decide +kernel
theorem dX9_save_29 : decode cX9_save 29 = .ok (.iconst 1, 1) := by decide +kernel
theorem dX9_save_30 : decode cX9_save 30 = .ok (.putfield 217, 3) := by decide +kernel
theorem dX9_save_33 : decode cX9_save 33 = .ok (.aload_n 0, 1) := by decide +kernel
theorem dX9_save_34 : decode cX9_save 34 = .ok (.getfield 12, 3) := by decide +kernel
theorem dX9_save_37 : decode cX9_save 37 = .ok (.getfield 91, 3) := by decide +kernel
theorem dX9_save_40 : decode cX9_save 40 = .ok (.ireturn, 1) := by decide +kernel
theorem dX9_restore_0 : decode cX9_restore 0 = .ok (.iload_n 1, 1) := by decide +kernel
theorem dX9_restore_1 : decode cX9_restore 1 = .ok (.invokestatic 204, 3) := by decide +kernel
theorem dX9_restore_4 : decode cX9_restore 4 = .ok (.ifCond .ne 7, 3) := by decide +kernel
theorem dX9_restore_7 : decode cX9_restore 7 = .ok (.sipush (-1002), 3) := by decide +kernel
theorem dX9_restore_10 : decode cX9_restore 10 = .ok (.ireturn, 1) := by decide +kernel
theorem dX9_restore_11 : decode cX9_restore 11 = .ok (.aload_n 0, 1) := by decide +kernel
theorem dX9_restore_12 : decode cX9_restore 12 = .ok (.iload_n 1, 1) := by decide +kernel
theorem dX9_restore_13 : decode cX9_restore 13 = .ok (.invokevirtual 207, 3) := by decide +kernel
theorem dX9_restore_16 : decode cX9_restore 16 = .ok (.astore_n 2, 1) := by decide +kernel
theorem dX9_restore_17 : decode cX9_restore 17 = .ok (.aload_n 2, 1) := by decide +kernel
theorem dX9_restore_18 : decode cX9_restore 18 = .ok (.getfield 217, 3) := by decide +kernel
theorem dX9_restore_21 : decode cX9_restore 21 = .ok (.ifCond .ne 7, 3) := by decide +kernel
theorem dX9_restore_24 : decode cX9_restore 24 = .ok (.sipush (-1005), 3) := by decide +kernel
theorem dX9_restore_27 : decode cX9_restore 27 = .ok (.ireturn, 1) := by decide +kernel
theorem dX9_restore_28 : decode cX9_restore 28 = .ok (.aload_n 0, 1) := by decide +kernel
theorem dX9_restore_29 : decode cX9_restore 29 = .ok (.getfield 19, 3) := by decide +kernel
theorem dX9_restore_32 : decode cX9_restore 32 = .ok (.aload_n 0, 1) := by decide +kernel
theorem dX9_restore_33 : decode cX9_restore 33 = .ok (.getfield 12, 3) := by decide +kernel
theorem dX9_restore_36 : decode cX9_restore 36 = .ok (.invokevirtual 77, 3) := by decide +kernel
theorem dX9_restore_39 : decode cX9_restore 39 = .ok (.aload_n 0, 1) := by decide +kernel
theorem dX9_restore_40 : decode cX9_restore 40 = .ok (.getfield 12, 3) := by decide +kernel
theorem dX9_restore_43 : decode cX9_restore 43 = .ok (.aload_n 2, 1) := by decide +kernel
theorem dX9_restore_44 : decode cX9_restore 44 = .ok (.getfield 211, 3) := by decide +kernel
theorem dX9_restore_47 : decode cX9_restore 47 = .ok (.invokevirtual 214, 3) := by decide +kernel
theorem dX9_restore_50 : decode cX9_restore 50 = .ok (.aload_n 0, 1) := by decide +kernel
theorem dX9_restore_51 : decode cX9_restore 51 = .ok (.getfield 12, 3) := by decide +kernel
theorem dX9_restore_54 : decode cX9_restore 54 = .ok (.getfield 91, 3) := by decide +kernel
theorem dX9_restore_57 : decode cX9_restore 57 = .ok (.ireturn, 1) := by decide +kernel
theorem dX9_isBetween_0 : decode cX9_isBetween 0 = .ok (.iload_n 0, 1) := by decide +kernel
theorem dX9_isBetween_1 : decode cX9_isBetween 1 = .ok (.iload_n 1, 1) := by decide +kernel
theorem dX9_isBetween_2 : decode cX9_isBetween 2 = .ok (.if_icmp .lt 12, 3) := by decide +kernel
theorem dX9_isBetween_5 : decode cX9_isBetween 5 = .ok (.iload_n 0, 1) := by decide +kernel
theorem dX9_isBetween_6 : decode cX9_isBetween 6 = .ok (.iload_n 2, 1) := by decide +kernel
theorem dX9_isBetween_7 : decode cX9_isBetween 7 = .ok (.if_icmp .gt 7, 3) := by decide +kernel
theorem dX9_isBetween_10 : decode cX9_isBetween 10 = .ok (.iconst 1, 1) := by decide +kernel
theorem dX9_isBetween_11 : decode cX9_isBetween 11 = .ok (.goto 4, 3) := by decide +kernel
theorem dX9_isBetween_14 : decode cX9_isBetween 14 = .ok (.iconst 0, 1) := by decide +kernel
theorem dX9_isBetween_15 : decode cX9_isBetween 15 = .ok (.ireturn, 1) := by decide +kernel
theorem dX9_isPlayer_0 : decode cX9_isPlayer 0 = .ok (.iload_n 0, 1) := by decide +kernel
theorem dX9_isPlayer_1 : decode cX9_isPlayer 1 = .ok (.ifCond .eq 8, 3) := by decide +kernel
theorem dX9_isPlayer_4 : decode cX9_isPlayer 4 = .ok (.iload_n 0, 1) := by decide +kernel
theorem dX9_isPlayer_5 : decode cX9_isPlayer 5 = .ok (.iconst 1, 1) := by decide +kernel
theorem dX9_isPlayer_6 : decode cX9_isPlayer 6 = .ok (.if_icmp .ne 7, 3) := by decide +kernel
theorem dX9_isPlayer_9 : decode cX9_isPlayer 9 = .ok (.iconst 1, 1) := by decide +kernel
theorem dX9_isPlayer_10 : decode cX9_isPlayer 10 = .ok (.goto 4, 3) := by decide +kernel
theorem dX9_isPlayer_13 : decode cX9_isPlayer 13 = .ok (.iconst 0, 1) := by decide +kernel
theorem dX9_isPlayer_14 : decode cX9_isPlayer 14 = .ok (.ireturn, 1) := by decide +kernel
theorem dX9_isSlot_0 : decode cX9_isSlot 0 = .ok (.iload_n 0, 1) := by decide +kernel
theorem dX9_isSlot_1 : decode cX9_isSlot 1 = .ok (.ifCond .eq 8, 3) := by decide +kernel
theorem dX9_isSlot_4 : decode cX9_isSlot 4 = .ok (.iload_n 0, 1) := by decide +kernel
theorem dX9_isSlot_5 : decode cX9_isSlot 5 = .ok (.iconst 1, 1) := by decide +kernel
theorem dX9_isSlot_6 : decode cX9_isSlot 6 = .ok (.if_icmp .ne 7, 3) := by decide +kernel
theorem dX9_isSlot_9 : decode cX9_isSlot 9 = .ok (.iconst 1, 1) := by decide +kernel
theorem dX9_isSlot_10 : decode cX9_isSlot 10 = .ok (.goto 4, 3) := by decide +kernel
theorem dX9_isSlot_13 : decode cX9_isSlot 13 = .ok (.iconst 0, 1) := by decide +kernel
theorem dX9_isSlot_14 : decode cX9_isSlot 14 = .ok (.ireturn, 1) := by decide +kernel
theorem dX9_isSetting_0 : decode cX9_isSetting 0 = .ok (.iload_n 0, 1) := by decide +kernel
theorem dX9_isSetting_1 : decode cX9_isSetting 1 = .ok (.iconst 0, 1) := by decide +kernel
theorem dX9_isSetting_2 : decode cX9_isSetting 2 = .ok (.iconst 3, 1) := by decide +kernel
theorem dX9_isSetting_3 : decode cX9_isSetting 3 = .ok (.invokestatic 87, 3) := by decide +kernel
theorem dX9_isSetting_6 : decode cX9_isSetting 6 = .ok (.ireturn, 1) := by decide +kernel
theorem dX9_leastSetting_0 : decode cX9_leastSetting 0 = .ok (.iload_n 0, 1) := by decide +kernel
theorem dX9_leastSetting_1 : decode cX9_leastSetting 1 = .ok (.ifCond .ne 7, 3) := by decide +kernel
theorem dX9_leastSetting_4 : decode cX9_leastSetting 4 = .ok (.iconst 1, 1) := by decide +kernel
theorem dX9_leastSetting_5 : decode cX9_leastSetting 5 = .ok (.goto 4, 3) := by decide +kernel
theorem dX9_leastSetting_8 : decode cX9_leastSetting 8 = .ok (.iconst 0, 1) := by decide +kernel
theorem dX9_leastSetting_9 : decode cX9_leastSetting 9 = .ok (.ireturn, 1) := by decide +kernel
theorem dX9_mostSetting_0 : decode cX9_mostSetting 0 = .ok (.iload_n 0, 1) := by decide +kernel
theorem dX9_mostSetting_1 : decode cX9_mostSetting 1 = .ok (.lookupswitch 31 #[(0, 27), (1, 29)], 27) := by decide +kernel
theorem dX9_mostSetting_28 : decode cX9_mostSetting 28 = .ok (.iconst 3, 1) := by decide +kernel
theorem dX9_mostSetting_29 : decode cX9_mostSetting 29 = .ok (.ireturn, 1) := by decide +kernel
theorem dX9_mostSetting_30 : decode cX9_mostSetting 30 = .ok (.iconst 2, 1) := by decide +kernel
theorem dX9_mostSetting_31 : decode cX9_mostSetting 31 = .ok (.ireturn, 1) := by decide +kernel
theorem dX9_mostSetting_32 : decode cX9_mostSetting 32 = .ok (.iconst 1, 1) := by decide +kernel
theorem dX9_mostSetting_33 : decode cX9_mostSetting 33 = .ok (.ireturn, 1) := by decide +kernel
theorem dX9_slotOf_0 : decode cX9_slotOf 0 = .ok (.iload_n 1, 1) := by decide +kernel
theorem dX9_slotOf_1 : decode cX9_slotOf 1 = .ok (.ifCond .ne 10, 3) := by decide +kernel
theorem dX9_slotOf_4 : decode cX9_slotOf 4 = .ok (.aload_n 0, 1) := by decide +kernel
theorem dX9_slotOf_5 : decode cX9_slotOf 5 = .ok (.getfield 26, 3) := by decide +kernel
theorem dX9_slotOf_8 : decode cX9_slotOf 8 = .ok (.goto 7, 3) := by decide +kernel
theorem dX9_slotOf_11 : decode cX9_slotOf 11 = .ok (.aload_n 0, 1) := by decide +kernel
theorem dX9_slotOf_12 : decode cX9_slotOf 12 = .ok (.getfield 30, 3) := by decide +kernel
theorem dX9_slotOf_15 : decode cX9_slotOf 15 = .ok (.areturn, 1) := by decide +kernel
theorem dX9_timeWith_0 : decode cX9_timeWith 0 = .ok (.aload_n 0, 1) := by decide +kernel
theorem dX9_timeWith_1 : decode cX9_timeWith 1 = .ok (.getfield 12, 3) := by decide +kernel
theorem dX9_timeWith_4 : decode cX9_timeWith 4 = .ok (.iconst 1, 1) := by decide +kernel
theorem dX9_timeWith_5 : decode cX9_timeWith 5 = .ok (.iload_n 1, 1) := by decide +kernel
theorem dX9_timeWith_6 : decode cX9_timeWith 6 = .ok (.isub, 1) := by decide +kernel
theorem dX9_timeWith_7 : decode cX9_timeWith 7 = .ok (.invokevirtual 151, 3) := by decide +kernel
theorem dX9_timeWith_10 : decode cX9_timeWith 10 = .ok (.istore_n 3, 1) := by decide +kernel
theorem dX9_timeWith_11 : decode cX9_timeWith 11 = .ok (.aload_n 0, 1) := by decide +kernel
theorem dX9_timeWith_12 : decode cX9_timeWith 12 = .ok (.getfield 43, 3) := by decide +kernel
theorem dX9_timeWith_15 : decode cX9_timeWith 15 = .ok (.aload_n 0, 1) := by decide +kernel
theorem dX9_timeWith_16 : decode cX9_timeWith 16 = .ok (.getfield 12, 3) := by decide +kernel
theorem dX9_timeWith_19 : decode cX9_timeWith 19 = .ok (.iload_n 2, 1) := by decide +kernel
theorem dX9_timeWith_20 : decode cX9_timeWith 20 = .ok (.iload_n 3, 1) := by decide +kernel
theorem dX9_timeWith_21 : decode cX9_timeWith 21 = .ok (.iadd, 1) := by decide +kernel
theorem dX9_timeWith_22 : decode cX9_timeWith 22 = .ok (.invokevirtual 221, 3) := by decide +kernel
theorem dX9_timeWith_25 : decode cX9_timeWith 25 = .ok (.astore 4, 2) := by decide +kernel
theorem dX9_timeWith_27 : decode cX9_timeWith 27 = .ok (.aload 4, 2) := by decide +kernel
theorem dX9_timeWith_29 : decode cX9_timeWith 29 = .ok (.aload_n 0, 1) := by decide +kernel
theorem dX9_timeWith_30 : decode cX9_timeWith 30 = .ok (.getfield 12, 3) := by decide +kernel
theorem dX9_timeWith_33 : decode cX9_timeWith 33 = .ok (.iload_n 1, 1) := by decide +kernel
theorem dX9_timeWith_34 : decode cX9_timeWith 34 = .ok (.invokevirtual 225, 3) := by decide +kernel
theorem dX9_timeWith_37 : decode cX9_timeWith 37 = .ok (.iload_n 2, 1) := by decide +kernel
theorem dX9_timeWith_38 : decode cX9_timeWith 38 = .ok (.iload_n 3, 1) := by decide +kernel
theorem dX9_timeWith_39 : decode cX9_timeWith 39 = .ok (.iload_n 1, 1) := by decide +kernel
theorem dX9_timeWith_40 : decode cX9_timeWith 40 = .ok (.aload_n 0, 1) := by decide +kernel
theorem dX9_timeWith_41 : decode cX9_timeWith 41 = .ok (.getfield 12, 3) := by decide +kernel
theorem dX9_timeWith_44 : decode cX9_timeWith 44 = .ok (.getfield 169, 3) := by decide +kernel
theorem dX9_timeWith_47 : decode cX9_timeWith 47 = .ok (.if_icmp .ne 7, 3) := by decide +kernel
theorem dX9_timeWith_50 : decode cX9_timeWith 50 = .ok (.iconst 1, 1) := by decide +kernel
theorem dX9_timeWith_51 : decode cX9_timeWith 51 = .ok (.goto 4, 3) := by decide +kernel
theorem dX9_timeWith_54 : decode cX9_timeWith 54 = .ok (.iconst 0, 1) := by decide +kernel
theorem dX9_timeWith_55 : decode cX9_timeWith 55 = .ok (.invokevirtual 228, 3) := by decide +kernel
theorem dX9_timeWith_58 : decode cX9_timeWith 58 = .ok (.ireturn, 1) := by decide +kernel
theorem dX9_timesNow_0 : decode cX9_timesNow 0 = .ok (.aload_n 0, 1) := by decide +kernel
theorem dX9_timesNow_1 : decode cX9_timesNow 1 = .ok (.getfield 43, 3) := by decide +kernel
theorem dX9_timesNow_4 : decode cX9_timesNow 4 = .ok (.aload_n 0, 1) := by decide +kernel
theorem dX9_timesNow_5 : decode cX9_timesNow 5 = .ok (.getfield 12, 3) := by decide +kernel
theorem dX9_timesNow_8 : decode cX9_timesNow 8 = .ok (.aload_n 0, 1) := by decide +kernel
theorem dX9_timesNow_9 : decode cX9_timesNow 9 = .ok (.getfield 12, 3) := by decide +kernel
theorem dX9_timesNow_12 : decode cX9_timesNow 12 = .ok (.iconst 0, 1) := by decide +kernel
theorem dX9_timesNow_13 : decode cX9_timesNow 13 = .ok (.invokevirtual 151, 3) := by decide +kernel
theorem dX9_timesNow_16 : decode cX9_timesNow 16 = .ok (.aload_n 0, 1) := by decide +kernel
theorem dX9_timesNow_17 : decode cX9_timesNow 17 = .ok (.getfield 12, 3) := by decide +kernel
theorem dX9_timesNow_20 : decode cX9_timesNow 20 = .ok (.iconst 1, 1) := by decide +kernel
theorem dX9_timesNow_21 : decode cX9_timesNow 21 = .ok (.invokevirtual 151, 3) := by decide +kernel
theorem dX9_timesNow_24 : decode cX9_timesNow 24 = .ok (.iadd, 1) := by decide +kernel
theorem dX9_timesNow_25 : decode cX9_timesNow 25 = .ok (.invokevirtual 221, 3) := by decide +kernel
theorem dX9_timesNow_28 : decode cX9_timesNow 28 = .ok (.areturn, 1) := by decide +kernel
theorem dX9_playPad_0 : decode cX9_playPad 0 = .ok (.iconst 0, 1) := by decide +kernel
theorem dX9_playPad_1 : decode cX9_playPad 1 = .ok (.istore_n 1, 1) := by decide +kernel
theorem dX9_playPad_2 : decode cX9_playPad 2 = .ok (.iconst 0, 1) := by decide +kernel
theorem dX9_playPad_3 : decode cX9_playPad 3 = .ok (.istore_n 2, 1) := by decide +kernel
theorem dX9_playPad_4 : decode cX9_playPad 4 = .ok (.iconst 0, 1) := by decide +kernel
theorem dX9_playPad_5 : decode cX9_playPad 5 = .ok (.istore_n 3, 1) := by decide +kernel
theorem dX9_playPad_6 : decode cX9_playPad 6 = .ok (.iconst 0, 1) := by decide +kernel
theorem dX9_playPad_7 : decode cX9_playPad 7 = .ok (.istore 4, 2) := by decide +kernel
theorem dX9_playPad_9 : decode cX9_playPad 9 = .ok (.iload 4, 2) := by decide +kernel
theorem dX9_playPad_11 : decode cX9_playPad 11 = .ok (.aload_n 0, 1) := by decide +kernel
theorem dX9_playPad_12 : decode cX9_playPad 12 = .ok (.getfield 36, 3) := by decide +kernel
theorem dX9_playPad_15 : decode cX9_playPad 15 = .ok (.getfield 178, 3) := by decide +kernel
theorem dX9_playPad_18 : decode cX9_playPad 18 = .ok (.if_icmp .gt 101, 3) := by decide +kernel
theorem dX9_playPad_21 : decode cX9_playPad 21 = .ok (.iload 4, 2) := by decide +kernel
theorem dX9_playPad_23 : decode cX9_playPad 23 = .ok (.aload_n 0, 1) := by decide +kernel
theorem dX9_playPad_24 : decode cX9_playPad 24 = .ok (.getfield 36, 3) := by decide +kernel
theorem dX9_playPad_27 : decode cX9_playPad 27 = .ok (.getfield 178, 3) := by decide +kernel
theorem dX9_playPad_30 : decode cX9_playPad 30 = .ok (.if_icmp .ge 15, 3) := by decide +kernel
theorem dX9_playPad_33 : decode cX9_playPad 33 = .ok (.aload_n 0, 1) := by decide +kernel
theorem dX9_playPad_34 : decode cX9_playPad 34 = .ok (.getfield 36, 3) := by decide +kernel
theorem dX9_playPad_37 : decode cX9_playPad 37 = .ok (.iload 4, 2) := by decide +kernel
theorem dX9_playPad_39 : decode cX9_playPad 39 = .ok (.invokevirtual 234, 3) := by decide +kernel
theorem dX9_playPad_42 : decode cX9_playPad 42 = .ok (.goto 5, 3) := by decide +kernel
theorem dX9_playPad_45 : decode cX9_playPad 45 = .ok (.bipush 44, 2) := by decide +kernel
theorem dX9_playPad_47 : decode cX9_playPad 47 = .ok (.istore 5, 2) := by decide +kernel
theorem dX9_playPad_49 : decode cX9_playPad 49 = .ok (.iload 5, 2) := by decide +kernel
theorem dX9_playPad_51 : decode cX9_playPad 51 = .ok (.bipush 58, 2) := by decide +kernel
theorem dX9_playPad_53 : decode cX9_playPad 53 = .ok (.if_icmp .ne 10, 3) := by decide +kernel
theorem dX9_playPad_56 : decode cX9_playPad 56 = .ok (.iload_n 3, 1) := by decide +kernel
theorem dX9_playPad_57 : decode cX9_playPad 57 = .ok (.istore_n 2, 1) := by decide +kernel
theorem dX9_playPad_58 : decode cX9_playPad 58 = .ok (.iconst 0, 1) := by decide +kernel
theorem dX9_playPad_59 : decode cX9_playPad 59 = .ok (.istore_n 3, 1) := by decide +kernel
theorem dX9_playPad_60 : decode cX9_playPad 60 = .ok (.goto 53, 3) := by decide +kernel
theorem dX9_playPad_63 : decode cX9_playPad 63 = .ok (.iload 5, 2) := by decide +kernel
theorem dX9_playPad_65 : decode cX9_playPad 65 = .ok (.bipush 44, 2) := by decide +kernel
theorem dX9_playPad_67 : decode cX9_playPad 67 = .ok (.if_icmp .ne 35, 3) := by decide +kernel
theorem dX9_playPad_70 : decode cX9_playPad 70 = .ok (.aload_n 0, 1) := by decide +kernel
theorem dX9_playPad_71 : decode cX9_playPad 71 = .ok (.getfield 12, 3) := by decide +kernel
theorem dX9_playPad_74 : decode cX9_playPad 74 = .ok (.iload_n 2, 1) := by decide +kernel
theorem dX9_playPad_75 : decode cX9_playPad 75 = .ok (.iload_n 3, 1) := by decide +kernel
theorem dX9_playPad_76 : decode cX9_playPad 76 = .ok (.invokevirtual 107, 3) := by decide +kernel
theorem dX9_playPad_79 : decode cX9_playPad 79 = .ok (.ifCond .ne 5, 3) := by decide +kernel
theorem dX9_playPad_82 : decode cX9_playPad 82 = .ok (.iload_n 1, 1) := by decide +kernel
theorem dX9_playPad_83 : decode cX9_playPad 83 = .ok (.ireturn, 1) := by decide +kernel
theorem dX9_playPad_84 : decode cX9_playPad 84 = .ok (.aload_n 0, 1) := by decide +kernel
theorem dX9_playPad_85 : decode cX9_playPad 85 = .ok (.getfield 12, 3) := by decide +kernel
theorem dX9_playPad_88 : decode cX9_playPad 88 = .ok (.iload_n 2, 1) := by decide +kernel
theorem dX9_playPad_89 : decode cX9_playPad 89 = .ok (.iload_n 3, 1) := by decide +kernel
theorem dX9_playPad_90 : decode cX9_playPad 90 = .ok (.invokevirtual 111, 3) := by decide +kernel
theorem dX9_playPad_93 : decode cX9_playPad 93 = .ok (.pop, 1) := by decide +kernel
theorem dX9_playPad_94 : decode cX9_playPad 94 = .ok (.iinc 1 1, 3) := by decide +kernel
theorem dX9_playPad_97 : decode cX9_playPad 97 = .ok (.iconst 0, 1) := by decide +kernel
theorem dX9_playPad_98 : decode cX9_playPad 98 = .ok (.istore_n 3, 1) := by decide +kernel
theorem dX9_playPad_99 : decode cX9_playPad 99 = .ok (.goto 14, 3) := by decide +kernel
theorem dX9_playPad_102 : decode cX9_playPad 102 = .ok (.iload_n 3, 1) := by decide +kernel
theorem dX9_playPad_103 : decode cX9_playPad 103 = .ok (.bipush 10, 2) := by decide +kernel
theorem dX9_playPad_105 : decode cX9_playPad 105 = .ok (.imul, 1) := by decide +kernel
theorem dX9_playPad_106 : decode cX9_playPad 106 = .ok (.iload 5, 2) := by decide +kernel
theorem dX9_playPad_108 : decode cX9_playPad 108 = .ok (.iadd, 1) := by decide +kernel
theorem dX9_playPad_109 : decode cX9_playPad 109 = .ok (.bipush 48, 2) := by decide +kernel
theorem dX9_playPad_111 : decode cX9_playPad 111 = .ok (.isub, 1) := by decide +kernel
theorem dX9_playPad_112 : decode cX9_playPad 112 = .ok (.istore_n 3, 1) := by decide +kernel
theorem dX9_playPad_113 : decode cX9_playPad 113 = .ok (.iinc 4 1, 3) := by decide +kernel
theorem dX9_playPad_116 : decode cX9_playPad 116 = .ok (.goto (-107), 3) := by decide +kernel
theorem dX9_playPad_119 : decode cX9_playPad 119 = .ok (.iload_n 1, 1) := by decide +kernel
theorem dX9_playPad_120 : decode cX9_playPad 120 = .ok (.ireturn, 1) := by decide +kernel
theorem dL_cell_0 : decode cL_cell 0 = .ok (.iload_n 1, 1) := by decide +kernel
theorem dL_cell_1 : decode cL_cell 1 = .ok (.aload_n 0, 1) := by decide +kernel
theorem dL_cell_2 : decode cL_cell 2 = .ok (.arraylength, 1) := by decide +kernel
theorem dL_cell_3 : decode cL_cell 3 = .ok (.if_icmp .ge 9, 3) := by decide +kernel
theorem dL_cell_6 : decode cL_cell 6 = .ok (.aload_n 0, 1) := by decide +kernel
theorem dL_cell_7 : decode cL_cell 7 = .ok (.iload_n 1, 1) := by decide +kernel
theorem dL_cell_8 : decode cL_cell 8 = .ok (.iaload, 1) := by decide +kernel
theorem dL_cell_9 : decode cL_cell 9 = .ok (.goto 11, 3) := by decide +kernel
theorem dL_cell_12 : decode cL_cell 12 = .ok (.ldc 7, 2) := by decide +kernel
theorem dL_cell_14 : decode cL_cell 14 = .ok (.iload_n 1, 1) := by decide +kernel
theorem dL_cell_15 : decode cL_cell 15 = .ok (.sipush 1429, 3) := by decide +kernel
theorem dL_cell_18 : decode cL_cell 18 = .ok (.iadd, 1) := by decide +kernel
theorem dL_cell_19 : decode cL_cell 19 = .ok (.imul, 1) := by decide +kernel
theorem dL_cell_20 : decode cL_cell 20 = .ok (.ireturn, 1) := by decide +kernel
theorem dL_up_0 : decode cL_up 0 = .ok (.iload_n 0, 1) := by decide +kernel
theorem dL_up_1 : decode cL_up 1 = .ok (.ldc 8, 2) := by decide +kernel
theorem dL_up_3 : decode cL_up 3 = .ok (.iand, 1) := by decide +kernel
theorem dL_up_4 : decode cL_up 4 = .ok (.iload_n 1, 1) := by decide +kernel
theorem dL_up_5 : decode cL_up 5 = .ok (.irem, 1) := by decide +kernel
theorem dL_up_6 : decode cL_up 6 = .ok (.ireturn, 1) := by decide +kernel
theorem dL_number_0 : decode cL_number 0 = .ok (.iload_n 1, 1) := by decide +kernel
theorem dL_number_1 : decode cL_number 1 = .ok (.bipush 10, 2) := by decide +kernel
theorem dL_number_3 : decode cL_number 3 = .ok (.if_icmp .lt 13, 3) := by decide +kernel
theorem dL_number_6 : decode cL_number 6 = .ok (.aload_n 0, 1) := by decide +kernel
theorem dL_number_7 : decode cL_number 7 = .ok (.ldc2_w 9, 3) := by decide +kernel
theorem dL_number_10 : decode cL_number 10 = .ok (.invokevirtual 11, 3) := by decide +kernel
theorem dL_number_13 : decode cL_number 13 = .ok (.ifCond .le 22, 3) := by decide +kernel
theorem dL_number_16 : decode cL_number 16 = .ok (.aload_n 0, 1) := by decide +kernel
theorem dL_number_17 : decode cL_number 17 = .ok (.bipush 48, 2) := by decide +kernel
theorem dL_number_19 : decode cL_number 19 = .ok (.iload_n 1, 1) := by decide +kernel
theorem dL_number_20 : decode cL_number 20 = .ok (.bipush 10, 2) := by decide +kernel
theorem dL_number_22 : decode cL_number 22 = .ok (.irem, 1) := by decide +kernel
theorem dL_number_23 : decode cL_number 23 = .ok (.iadd, 1) := by decide +kernel
theorem dL_number_24 : decode cL_number 24 = .ok (.i2l, 1) := by decide +kernel
theorem dL_number_25 : decode cL_number 25 = .ok (.invokevirtual 11, 3) := by decide +kernel
theorem dL_number_28 : decode cL_number 28 = .ok (.ifCond .le 7, 3) := by decide +kernel
theorem dL_number_31 : decode cL_number 31 = .ok (.iconst 1, 1) := by decide +kernel
theorem dL_number_32 : decode cL_number 32 = .ok (.goto 4, 3) := by decide +kernel
theorem dL_number_35 : decode cL_number 35 = .ok (.iconst 0, 1) := by decide +kernel
theorem dL_number_36 : decode cL_number 36 = .ok (.ireturn, 1) := by decide +kernel
theorem dL_isStep_0 : decode cL_isStep 0 = .ok (.iload_n 2, 1) := by decide +kernel
theorem dL_isStep_1 : decode cL_isStep 1 = .ok (.iconst 4, 1) := by decide +kernel
theorem dL_isStep_2 : decode cL_isStep 2 = .ok (.ishr, 1) := by decide +kernel
theorem dL_isStep_3 : decode cL_isStep 3 = .ok (.istore 4, 2) := by decide +kernel
theorem dL_isStep_5 : decode cL_isStep 5 = .ok (.iload_n 2, 1) := by decide +kernel
theorem dL_isStep_6 : decode cL_isStep 6 = .ok (.bipush 13, 2) := by decide +kernel
theorem dL_isStep_8 : decode cL_isStep 8 = .ok (.invokestatic 17, 3) := by decide +kernel
theorem dL_isStep_11 : decode cL_isStep 11 = .ok (.tableswitch 541 0 6 #[41, 143, 143, 230, 384, 452, 478], 41) := by decide +kernel
theorem dL_isStep_52 : decode cL_isStep 52 = .ok (.iload 4, 2) := by decide +kernel
theorem dL_isStep_54 : decode cL_isStep 54 = .ok (.iconst 4, 1) := by decide +kernel
theorem dL_isStep_55 : decode cL_isStep 55 = .ok (.invokestatic 17, 3) := by decide +kernel
theorem dL_isStep_58 : decode cL_isStep 58 = .ok (.istore 5, 2) := by decide +kernel
theorem dL_isStep_60 : decode cL_isStep 60 = .ok (.iload 5, 2) := by decide +kernel
theorem dL_isStep_62 : decode cL_isStep 62 = .ok (.ifCond .ne 13, 3) := by decide +kernel
theorem dL_isStep_65 : decode cL_isStep 65 = .ok (.iconst 1, 1) := by decide +kernel
theorem dL_isStep_66 : decode cL_isStep 66 = .ok (.iload_n 3, 1) := by decide +kernel
theorem dL_isStep_67 : decode cL_isStep 67 = .ok (.iconst 3, 1) := by decide +kernel
theorem dL_isStep_68 : decode cL_isStep 68 = .ok (.invokestatic 17, 3) := by decide +kernel
theorem dL_isStep_71 : decode cL_isStep 71 = .ok (.iadd, 1) := by decide +kernel
theorem dL_isStep_72 : decode cL_isStep 72 = .ok (.goto 22, 3) := by decide +kernel
theorem dL_isStep_75 : decode cL_isStep 75 = .ok (.iload 5, 2) := by decide +kernel
theorem dL_isStep_77 : decode cL_isStep 77 = .ok (.iconst 1, 1) := by decide +kernel
theorem dL_isStep_78 : decode cL_isStep 78 = .ok (.if_icmp .ne 11, 3) := by decide +kernel
theorem dL_isStep_81 : decode cL_isStep 81 = .ok (.iload_n 3, 1) := by decide +kernel
theorem dL_isStep_82 : decode cL_isStep 82 = .ok (.iconst 3, 1) := by decide +kernel
theorem dL_isStep_83 : decode cL_isStep 83 = .ok (.invokestatic 17, 3) := by decide +kernel
theorem dL_isStep_86 : decode cL_isStep 86 = .ok (.goto 8, 3) := by decide +kernel
theorem dL_isStep_89 : decode cL_isStep 89 = .ok (.iload_n 3, 1) := by decide +kernel
theorem dL_isStep_90 : decode cL_isStep 90 = .ok (.iconst 2, 1) := by decide +kernel
theorem dL_isStep_91 : decode cL_isStep 91 = .ok (.invokestatic 17, 3) := by decide +kernel
theorem dL_isStep_94 : decode cL_isStep 94 = .ok (.istore 6, 2) := by decide +kernel
theorem dL_isStep_96 : decode cL_isStep 96 = .ok (.aload_n 0, 1) := by decide +kernel
theorem dL_isStep_97 : decode cL_isStep 97 = .ok (.iload 5, 2) := by decide +kernel
theorem dL_isStep_99 : decode cL_isStep 99 = .ok (.invokevirtual 23, 3) := by decide +kernel
theorem dL_isStep_102 : decode cL_isStep 102 = .ok (.istore 7, 2) := by decide +kernel
theorem dL_isStep_104 : decode cL_isStep 104 = .ok (.aload_n 0, 1) := by decide +kernel
theorem dL_isStep_105 : decode cL_isStep 105 = .ok (.iload 5, 2) := by decide +kernel
theorem dL_isStep_107 : decode cL_isStep 107 = .ok (.iload 6, 2) := by decide +kernel
theorem dL_isStep_109 : decode cL_isStep 109 = .ok (.invokevirtual 27, 3) := by decide +kernel
theorem dL_isStep_112 : decode cL_isStep 112 = .ok (.iload 7, 2) := by decide +kernel
theorem dL_isStep_114 : decode cL_isStep 114 = .ok (.if_icmp .ne 38, 3) := by decide +kernel
theorem dL_isStep_117 : decode cL_isStep 117 = .ok (.aload_n 1, 1) := by decide +kernel
theorem dL_isStep_118 : decode cL_isStep 118 = .ok (.iload 5, 2) := by decide +kernel
theorem dL_isStep_120 : decode cL_isStep 120 = .ok (.iload 6, 2) := by decide +kernel
theorem dL_isStep_122 : decode cL_isStep 122 = .ok (.invokevirtual 27, 3) := by decide +kernel
theorem dL_isStep_125 : decode cL_isStep 125 = .ok (.iload 7, 2) := by decide +kernel
theorem dL_isStep_127 : decode cL_isStep 127 = .ok (.if_icmp .ne 25, 3) := by decide +kernel
theorem dL_isStep_130 : decode cL_isStep 130 = .ok (.aload_n 0, 1) := by decide +kernel
theorem dL_isStep_131 : decode cL_isStep 131 = .ok (.iload 5, 2) := by decide +kernel
theorem dL_isStep_133 : decode cL_isStep 133 = .ok (.invokevirtual 23, 3) := by decide +kernel
theorem dL_isStep_136 : decode cL_isStep 136 = .ok (.iload 6, 2) := by decide +kernel
theorem dL_isStep_138 : decode cL_isStep 138 = .ok (.if_icmp .ne 14, 3) := by decide +kernel
theorem dL_isStep_141 : decode cL_isStep 141 = .ok (.aload_n 0, 1) := by decide +kernel
theorem dL_isStep_142 : decode cL_isStep 142 = .ok (.invokestatic 30, 3) := by decide +kernel
theorem dL_isStep_145 : decode cL_isStep 145 = .ok (.ifCond .eq 7, 3) := by decide +kernel
theorem dL_isStep_148 : decode cL_isStep 148 = .ok (.iconst 1, 1) := by decide +kernel
theorem dL_isStep_149 : decode cL_isStep 149 = .ok (.goto 4, 3) := by decide +kernel
theorem dL_isStep_152 : decode cL_isStep 152 = .ok (.iconst 0, 1) := by decide +kernel
theorem dL_isStep_153 : decode cL_isStep 153 = .ok (.ireturn, 1) := by decide +kernel
theorem dL_isStep_154 : decode cL_isStep 154 = .ok (.iload_n 3, 1) := by decide +kernel
theorem dL_isStep_155 : decode cL_isStep 155 = .ok (.bipush 7, 2) := by decide +kernel
theorem dL_isStep_157 : decode cL_isStep 157 = .ok (.invokestatic 17, 3) := by decide +kernel
theorem dL_isStep_160 : decode cL_isStep 160 = .ok (.istore 5, 2) := by decide +kernel
theorem dL_isStep_162 : decode cL_isStep 162 = .ok (.iload_n 3, 1) := by decide +kernel
theorem dL_isStep_163 : decode cL_isStep 163 = .ok (.iconst 3, 1) := by decide +kernel
theorem dL_isStep_164 : decode cL_isStep 164 = .ok (.ishr, 1) := by decide +kernel
theorem dL_isStep_165 : decode cL_isStep 165 = .ok (.bipush 7, 2) := by decide +kernel
theorem dL_isStep_167 : decode cL_isStep 167 = .ok (.invokestatic 17, 3) := by decide +kernel
theorem dL_isStep_170 : decode cL_isStep 170 = .ok (.istore 6, 2) := by decide +kernel
theorem dL_isStep_172 : decode cL_isStep 172 = .ok (.aload_n 0, 1) := by decide +kernel
theorem dL_isStep_173 : decode cL_isStep 173 = .ok (.bipush 6, 2) := by decide +kernel
theorem dL_isStep_175 : decode cL_isStep 175 = .ok (.invokevirtual 23, 3) := by decide +kernel
theorem dL_isStep_178 : decode cL_isStep 178 = .ok (.istore 7, 2) := by decide +kernel
theorem dL_isStep_180 : decode cL_isStep 180 = .ok (.aload_n 0, 1) := by decide +kernel
theorem dL_isStep_181 : decode cL_isStep 181 = .ok (.iload 5, 2) := by decide +kernel
theorem dL_isStep_183 : decode cL_isStep 183 = .ok (.iload 6, 2) := by decide +kernel
theorem dL_isStep_185 : decode cL_isStep 185 = .ok (.invokevirtual 34, 3) := by decide +kernel
theorem dL_isStep_188 : decode cL_isStep 188 = .ok (.iload 7, 2) := by decide +kernel
theorem dL_isStep_190 : decode cL_isStep 190 = .ok (.if_icmp .ne 49, 3) := by decide +kernel
theorem dL_isStep_193 : decode cL_isStep 193 = .ok (.aload_n 1, 1) := by decide +kernel
theorem dL_isStep_194 : decode cL_isStep 194 = .ok (.iload 5, 2) := by decide +kernel
theorem dL_isStep_196 : decode cL_isStep 196 = .ok (.iload 6, 2) := by decide +kernel
theorem dL_isStep_198 : decode cL_isStep 198 = .ok (.invokevirtual 34, 3) := by decide +kernel
theorem dL_isStep_201 : decode cL_isStep 201 = .ok (.iload 7, 2) := by decide +kernel
theorem dL_isStep_203 : decode cL_isStep 203 = .ok (.if_icmp .ne 36, 3) := by decide +kernel
theorem dL_isStep_206 : decode cL_isStep 206 = .ok (.aload_n 0, 1) := by decide +kernel
theorem dL_isStep_207 : decode cL_isStep 207 = .ok (.invokestatic 30, 3) := by decide +kernel
theorem dL_isStep_210 : decode cL_isStep 210 = .ok (.ifCond .eq 29, 3) := by decide +kernel
theorem dL_isStep_213 : decode cL_isStep 213 = .ok (.aload_n 0, 1) := by decide +kernel
theorem dL_isStep_214 : decode cL_isStep 214 = .ok (.iconst 0, 1) := by decide +kernel
theorem dL_isStep_215 : decode cL_isStep 215 = .ok (.iconst 0, 1) := by decide +kernel
theorem dL_isStep_216 : decode cL_isStep 216 = .ok (.invokevirtual 37, 3) := by decide +kernel
theorem dL_isStep_219 : decode cL_isStep 219 = .ok (.iload 5, 2) := by decide +kernel
theorem dL_isStep_221 : decode cL_isStep 221 = .ok (.if_icmp .ne 18, 3) := by decide +kernel
theorem dL_isStep_224 : decode cL_isStep 224 = .ok (.aload_n 0, 1) := by decide +kernel
theorem dL_isStep_225 : decode cL_isStep 225 = .ok (.iconst 1, 1) := by decide +kernel
theorem dL_isStep_226 : decode cL_isStep 226 = .ok (.iconst 0, 1) := by decide +kernel
theorem dL_isStep_227 : decode cL_isStep 227 = .ok (.invokevirtual 37, 3) := by decide +kernel
theorem dL_isStep_230 : decode cL_isStep 230 = .ok (.iload 6, 2) := by decide +kernel
theorem dL_isStep_232 : decode cL_isStep 232 = .ok (.if_icmp .ne 7, 3) := by decide +kernel
theorem dL_isStep_235 : decode cL_isStep 235 = .ok (.iconst 1, 1) := by decide +kernel
theorem dL_isStep_236 : decode cL_isStep 236 = .ok (.goto 4, 3) := by decide +kernel
theorem dL_isStep_239 : decode cL_isStep 239 = .ok (.iconst 0, 1) := by decide +kernel
theorem dL_isStep_240 : decode cL_isStep 240 = .ok (.ireturn, 1) := by decide +kernel
theorem dL_isStep_241 : decode cL_isStep 241 = .ok (.aload_n 0, 1) := by decide +kernel
theorem dL_isStep_242 : decode cL_isStep 242 = .ok (.bipush 7, 2) := by decide +kernel
theorem dL_isStep_244 : decode cL_isStep 244 = .ok (.invokevirtual 23, 3) := by decide +kernel
theorem dL_isStep_247 : decode cL_isStep 247 = .ok (.sipush (-1006), 3) := by decide +kernel
theorem dL_isStep_250 : decode cL_isStep 250 = .ok (.if_icmp .eq 29, 3) := by decide +kernel
theorem dL_isStep_253 : decode cL_isStep 253 = .ok (.aload_n 0, 1) := by decide +kernel
theorem dL_isStep_254 : decode cL_isStep 254 = .ok (.invokevirtual 40, 3) := by decide +kernel
theorem dL_isStep_257 : decode cL_isStep 257 = .ok (.sipush (-1005), 3) := by decide +kernel
theorem dL_isStep_260 : decode cL_isStep 260 = .ok (.if_icmp .ne 17, 3) := by decide +kernel
theorem dL_isStep_263 : decode cL_isStep 263 = .ok (.aload_n 1, 1) := by decide +kernel
theorem dL_isStep_264 : decode cL_isStep 264 = .ok (.invokevirtual 40, 3) := by decide +kernel
theorem dL_isStep_267 : decode cL_isStep 267 = .ok (.sipush (-1005), 3) := by decide +kernel
theorem dL_isStep_270 : decode cL_isStep 270 = .ok (.if_icmp .ne 7, 3) := by decide +kernel
theorem dL_isStep_273 : decode cL_isStep 273 = .ok (.iconst 1, 1) := by decide +kernel
theorem dL_isStep_274 : decode cL_isStep 274 = .ok (.goto 4, 3) := by decide +kernel
theorem dL_isStep_277 : decode cL_isStep 277 = .ok (.iconst 0, 1) := by decide +kernel
theorem dL_isStep_278 : decode cL_isStep 278 = .ok (.ireturn, 1) := by decide +kernel
theorem dL_isStep_279 : decode cL_isStep 279 = .ok (.aload_n 0, 1) := by decide +kernel
theorem dL_isStep_280 : decode cL_isStep 280 = .ok (.iconst 5, 1) := by decide +kernel
theorem dL_isStep_281 : decode cL_isStep 281 = .ok (.invokevirtual 23, 3) := by decide +kernel
theorem dL_isStep_284 : decode cL_isStep 284 = .ok (.istore 5, 2) := by decide +kernel
theorem dL_isStep_286 : decode cL_isStep 286 = .ok (.aload_n 0, 1) := by decide +kernel
theorem dL_isStep_287 : decode cL_isStep 287 = .ok (.iload 5, 2) := by decide +kernel
theorem dL_isStep_289 : decode cL_isStep 289 = .ok (.bipush 6, 2) := by decide +kernel
theorem dL_isStep_291 : decode cL_isStep 291 = .ok (.invokevirtual 37, 3) := by decide +kernel
theorem dL_isStep_294 : decode cL_isStep 294 = .ok (.istore 6, 2) := by decide +kernel
theorem dL_isStep_296 : decode cL_isStep 296 = .ok (.aload_n 0, 1) := by decide +kernel
theorem dL_isStep_297 : decode cL_isStep 297 = .ok (.iconst 1, 1) := by decide +kernel
theorem dL_isStep_298 : decode cL_isStep 298 = .ok (.iload 5, 2) := by decide +kernel
theorem dL_isStep_300 : decode cL_isStep 300 = .ok (.isub, 1) := by decide +kernel
theorem dL_isStep_301 : decode cL_isStep 301 = .ok (.bipush 6, 2) := by decide +kernel
theorem dL_isStep_303 : decode cL_isStep 303 = .ok (.invokevirtual 37, 3) := by decide +kernel
theorem dL_isStep_306 : decode cL_isStep 306 = .ok (.istore 7, 2) := by decide +kernel
theorem dL_isStep_308 : decode cL_isStep 308 = .ok (.aload_n 0, 1) := by decide +kernel
theorem dL_isStep_309 : decode cL_isStep 309 = .ok (.invokevirtual 40, 3) := by decide +kernel
theorem dL_isStep_312 : decode cL_isStep 312 = .ok (.istore 8, 2) := by decide +kernel
theorem dL_isStep_314 : decode cL_isStep 314 = .ok (.iload 8, 2) := by decide +kernel
theorem dL_isStep_316 : decode cL_isStep 316 = .ok (.aload_n 1, 1) := by decide +kernel
theorem dL_isStep_317 : decode cL_isStep 317 = .ok (.invokevirtual 40, 3) := by decide +kernel
theorem dL_isStep_320 : decode cL_isStep 320 = .ok (.if_icmp .ne 73, 3) := by decide +kernel
theorem dL_isStep_323 : decode cL_isStep 323 = .ok (.iload 6, 2) := by decide +kernel
theorem dL_isStep_325 : decode cL_isStep 325 = .ok (.ifCond .lt 29, 3) := by decide +kernel
theorem dL_isStep_328 : decode cL_isStep 328 = .ok (.aload_n 0, 1) := by decide +kernel
theorem dL_isStep_329 : decode cL_isStep 329 = .ok (.iload 5, 2) := by decide +kernel
theorem dL_isStep_331 : decode cL_isStep 331 = .ok (.bipush 6, 2) := by decide +kernel
theorem dL_isStep_333 : decode cL_isStep 333 = .ok (.invokevirtual 37, 3) := by decide +kernel
theorem dL_isStep_336 : decode cL_isStep 336 = .ok (.ifCond .lt 57, 3) := by decide +kernel
theorem dL_isStep_339 : decode cL_isStep 339 = .ok (.aload_n 0, 1) := by decide +kernel
theorem dL_isStep_340 : decode cL_isStep 340 = .ok (.iload 5, 2) := by decide +kernel
theorem dL_isStep_342 : decode cL_isStep 342 = .ok (.bipush 6, 2) := by decide +kernel
theorem dL_isStep_344 : decode cL_isStep 344 = .ok (.invokevirtual 37, 3) := by decide +kernel
theorem dL_isStep_347 : decode cL_isStep 347 = .ok (.iload 6, 2) := by decide +kernel
theorem dL_isStep_349 : decode cL_isStep 349 = .ok (.iconst 1, 1) := by decide +kernel
theorem dL_isStep_350 : decode cL_isStep 350 = .ok (.isub, 1) := by decide +kernel
theorem dL_isStep_351 : decode cL_isStep 351 = .ok (.if_icmp .gt 42, 3) := by decide +kernel
theorem dL_isStep_354 : decode cL_isStep 354 = .ok (.iload 7, 2) := by decide +kernel
theorem dL_isStep_356 : decode cL_isStep 356 = .ok (.ifCond .lt 33, 3) := by decide +kernel
theorem dL_isStep_359 : decode cL_isStep 359 = .ok (.aload_n 0, 1) := by decide +kernel
theorem dL_isStep_360 : decode cL_isStep 360 = .ok (.iconst 1, 1) := by decide +kernel
theorem dL_isStep_361 : decode cL_isStep 361 = .ok (.iload 5, 2) := by decide +kernel
theorem dL_isStep_363 : decode cL_isStep 363 = .ok (.isub, 1) := by decide +kernel
theorem dL_isStep_364 : decode cL_isStep 364 = .ok (.bipush 6, 2) := by decide +kernel
theorem dL_isStep_366 : decode cL_isStep 366 = .ok (.invokevirtual 37, 3) := by decide +kernel
theorem dL_isStep_369 : decode cL_isStep 369 = .ok (.ifCond .lt 24, 3) := by decide +kernel
theorem dL_isStep_372 : decode cL_isStep 372 = .ok (.aload_n 0, 1) := by decide +kernel
theorem dL_isStep_373 : decode cL_isStep 373 = .ok (.iconst 1, 1) := by decide +kernel
theorem dL_isStep_374 : decode cL_isStep 374 = .ok (.iload 5, 2) := by decide +kernel
theorem dL_isStep_376 : decode cL_isStep 376 = .ok (.isub, 1) := by decide +kernel
theorem dL_isStep_377 : decode cL_isStep 377 = .ok (.bipush 6, 2) := by decide +kernel
theorem dL_isStep_379 : decode cL_isStep 379 = .ok (.invokevirtual 37, 3) := by decide +kernel
theorem dL_isStep_382 : decode cL_isStep 382 = .ok (.iload 7, 2) := by decide +kernel
theorem dL_isStep_384 : decode cL_isStep 384 = .ok (.iconst 1, 1) := by decide +kernel
theorem dL_isStep_385 : decode cL_isStep 385 = .ok (.isub, 1) := by decide +kernel
theorem dL_isStep_386 : decode cL_isStep 386 = .ok (.if_icmp .gt 7, 3) := by decide +kernel
theorem dL_isStep_389 : decode cL_isStep 389 = .ok (.iconst 1, 1) := by decide +kernel
theorem dL_isStep_390 : decode cL_isStep 390 = .ok (.goto 4, 3) := by decide +kernel
theorem dL_isStep_393 : decode cL_isStep 393 = .ok (.iconst 0, 1) := by decide +kernel
theorem dL_isStep_394 : decode cL_isStep 394 = .ok (.ireturn, 1) := by decide +kernel
theorem dL_isStep_395 : decode cL_isStep 395 = .ok (.iload_n 3, 1) := by decide +kernel
theorem dL_isStep_396 : decode cL_isStep 396 = .ok (.iconst 2, 1) := by decide +kernel
theorem dL_isStep_397 : decode cL_isStep 397 = .ok (.invokestatic 17, 3) := by decide +kernel
theorem dL_isStep_400 : decode cL_isStep 400 = .ok (.ifCond .ne 34, 3) := by decide +kernel
theorem dL_isStep_403 : decode cL_isStep 403 = .ok (.aload_n 0, 1) := by decide +kernel
theorem dL_isStep_404 : decode cL_isStep 404 = .ok (.iload 4, 2) := by decide +kernel
theorem dL_isStep_406 : decode cL_isStep 406 = .ok (.iconst 2, 1) := by decide +kernel
theorem dL_isStep_407 : decode cL_isStep 407 = .ok (.invokestatic 17, 3) := by decide +kernel
theorem dL_isStep_410 : decode cL_isStep 410 = .ok (.invokevirtual 44, 3) := by decide +kernel
theorem dL_isStep_413 : decode cL_isStep 413 = .ok (.aload_n 1, 1) := by decide +kernel
theorem dL_isStep_414 : decode cL_isStep 414 = .ok (.iload 4, 2) := by decide +kernel
theorem dL_isStep_416 : decode cL_isStep 416 = .ok (.iconst 2, 1) := by decide +kernel
theorem dL_isStep_417 : decode cL_isStep 417 = .ok (.invokestatic 17, 3) := by decide +kernel
theorem dL_isStep_420 : decode cL_isStep 420 = .ok (.invokevirtual 44, 3) := by decide +kernel
theorem dL_isStep_423 : decode cL_isStep 423 = .ok (.if_icmp .ne 7, 3) := by decide +kernel
theorem dL_isStep_426 : decode cL_isStep 426 = .ok (.iconst 1, 1) := by decide +kernel
theorem dL_isStep_427 : decode cL_isStep 427 = .ok (.goto 35, 3) := by decide +kernel
theorem dL_isStep_430 : decode cL_isStep 430 = .ok (.iconst 0, 1) := by decide +kernel
theorem dL_isStep_431 : decode cL_isStep 431 = .ok (.goto 31, 3) := by decide +kernel
theorem dL_isStep_434 : decode cL_isStep 434 = .ok (.aload_n 0, 1) := by decide +kernel
theorem dL_isStep_435 : decode cL_isStep 435 = .ok (.iload 4, 2) := by decide +kernel
theorem dL_isStep_437 : decode cL_isStep 437 = .ok (.iconst 2, 1) := by decide +kernel
theorem dL_isStep_438 : decode cL_isStep 438 = .ok (.invokestatic 17, 3) := by decide +kernel
theorem dL_isStep_441 : decode cL_isStep 441 = .ok (.invokevirtual 47, 3) := by decide +kernel
theorem dL_isStep_444 : decode cL_isStep 444 = .ok (.aload_n 1, 1) := by decide +kernel
theorem dL_isStep_445 : decode cL_isStep 445 = .ok (.iload 4, 2) := by decide +kernel
theorem dL_isStep_447 : decode cL_isStep 447 = .ok (.iconst 2, 1) := by decide +kernel
theorem dL_isStep_448 : decode cL_isStep 448 = .ok (.invokestatic 17, 3) := by decide +kernel
theorem dL_isStep_451 : decode cL_isStep 451 = .ok (.invokevirtual 47, 3) := by decide +kernel
theorem dL_isStep_454 : decode cL_isStep 454 = .ok (.if_icmp .ne 7, 3) := by decide +kernel
theorem dL_isStep_457 : decode cL_isStep 457 = .ok (.iconst 1, 1) := by decide +kernel
theorem dL_isStep_458 : decode cL_isStep 458 = .ok (.goto 4, 3) := by decide +kernel
theorem dL_isStep_461 : decode cL_isStep 461 = .ok (.iconst 0, 1) := by decide +kernel
theorem dL_isStep_462 : decode cL_isStep 462 = .ok (.ireturn, 1) := by decide +kernel
theorem dL_isStep_463 : decode cL_isStep 463 = .ok (.aload_n 0, 1) := by decide +kernel
theorem dL_isStep_464 : decode cL_isStep 464 = .ok (.bipush 11, 2) := by decide +kernel
theorem dL_isStep_466 : decode cL_isStep 466 = .ok (.invokevirtual 23, 3) := by decide +kernel
theorem dL_isStep_469 : decode cL_isStep 469 = .ok (.ifCond .eq 14, 3) := by decide +kernel
theorem dL_isStep_472 : decode cL_isStep 472 = .ok (.aload_n 0, 1) := by decide +kernel
theorem dL_isStep_473 : decode cL_isStep 473 = .ok (.invokevirtual 50, 3) := by decide +kernel
theorem dL_isStep_476 : decode cL_isStep 476 = .ok (.aload_n 1, 1) := by decide +kernel
theorem dL_isStep_477 : decode cL_isStep 477 = .ok (.invokevirtual 50, 3) := by decide +kernel
theorem dL_isStep_480 : decode cL_isStep 480 = .ok (.if_icmp .ne 7, 3) := by decide +kernel
theorem dL_isStep_483 : decode cL_isStep 483 = .ok (.iconst 1, 1) := by decide +kernel
theorem dL_isStep_484 : decode cL_isStep 484 = .ok (.goto 4, 3) := by decide +kernel
theorem dL_isStep_487 : decode cL_isStep 487 = .ok (.iconst 0, 1) := by decide +kernel
theorem dL_isStep_488 : decode cL_isStep 488 = .ok (.ireturn, 1) := by decide +kernel
theorem dL_isStep_489 : decode cL_isStep 489 = .ok (.aload_n 0, 1) := by decide +kernel
theorem dL_isStep_490 : decode cL_isStep 490 = .ok (.iconst 0, 1) := by decide +kernel
theorem dL_isStep_491 : decode cL_isStep 491 = .ok (.bipush 6, 2) := by decide +kernel
theorem dL_isStep_493 : decode cL_isStep 493 = .ok (.invokevirtual 37, 3) := by decide +kernel
theorem dL_isStep_496 : decode cL_isStep 496 = .ok (.aload_n 1, 1) := by decide +kernel
theorem dL_isStep_497 : decode cL_isStep 497 = .ok (.iconst 0, 1) := by decide +kernel
theorem dL_isStep_498 : decode cL_isStep 498 = .ok (.bipush 6, 2) := by decide +kernel
theorem dL_isStep_500 : decode cL_isStep 500 = .ok (.invokevirtual 37, 3) := by decide +kernel
theorem dL_isStep_503 : decode cL_isStep 503 = .ok (.if_icmp .ne 47, 3) := by decide +kernel
theorem dL_isStep_506 : decode cL_isStep 506 = .ok (.aload_n 0, 1) := by decide +kernel
theorem dL_isStep_507 : decode cL_isStep 507 = .ok (.iload 4, 2) := by decide +kernel
theorem dL_isStep_509 : decode cL_isStep 509 = .ok (.iconst 2, 1) := by decide +kernel
theorem dL_isStep_510 : decode cL_isStep 510 = .ok (.invokestatic 17, 3) := by decide +kernel
theorem dL_isStep_513 : decode cL_isStep 513 = .ok (.invokevirtual 53, 3) := by decide +kernel
theorem dL_isStep_516 : decode cL_isStep 516 = .ok (.aload_n 1, 1) := by decide +kernel
theorem dL_isStep_517 : decode cL_isStep 517 = .ok (.iload 4, 2) := by decide +kernel
theorem dL_isStep_519 : decode cL_isStep 519 = .ok (.iconst 2, 1) := by decide +kernel
theorem dL_isStep_520 : decode cL_isStep 520 = .ok (.invokestatic 17, 3) := by decide +kernel
theorem dL_isStep_523 : decode cL_isStep 523 = .ok (.invokevirtual 53, 3) := by decide +kernel
theorem dL_isStep_526 : decode cL_isStep 526 = .ok (.if_icmp .ne 24, 3) := by decide +kernel
theorem dL_isStep_529 : decode cL_isStep 529 = .ok (.aload_n 0, 1) := by decide +kernel
theorem dL_isStep_530 : decode cL_isStep 530 = .ok (.iconst 1, 1) := by decide +kernel
theorem dL_isStep_531 : decode cL_isStep 531 = .ok (.bipush 6, 2) := by decide +kernel
theorem dL_isStep_533 : decode cL_isStep 533 = .ok (.invokevirtual 37, 3) := by decide +kernel
theorem dL_isStep_536 : decode cL_isStep 536 = .ok (.aload_n 1, 1) := by decide +kernel
theorem dL_isStep_537 : decode cL_isStep 537 = .ok (.iconst 1, 1) := by decide +kernel
theorem dL_isStep_538 : decode cL_isStep 538 = .ok (.bipush 6, 2) := by decide +kernel
theorem dL_isStep_540 : decode cL_isStep 540 = .ok (.invokevirtual 37, 3) := by decide +kernel
theorem dL_isStep_543 : decode cL_isStep 543 = .ok (.if_icmp .ne 7, 3) := by decide +kernel
theorem dL_isStep_546 : decode cL_isStep 546 = .ok (.iconst 1, 1) := by decide +kernel
theorem dL_isStep_547 : decode cL_isStep 547 = .ok (.goto 4, 3) := by decide +kernel
theorem dL_isStep_550 : decode cL_isStep 550 = .ok (.iconst 0, 1) := by decide +kernel
theorem dL_isStep_551 : decode cL_isStep 551 = .ok (.ireturn, 1) := by decide +kernel
theorem dL_isStep_552 : decode cL_isStep 552 = .ok (.iload_n 3, 1) := by decide +kernel
theorem dL_isStep_553 : decode cL_isStep 553 = .ok (.bipush 7, 2) := by decide +kernel
theorem dL_isStep_555 : decode cL_isStep 555 = .ok (.invokestatic 17, 3) := by decide +kernel
theorem dL_isStep_558 : decode cL_isStep 558 = .ok (.istore 5, 2) := by decide +kernel
theorem dL_isStep_560 : decode cL_isStep 560 = .ok (.iload_n 3, 1) := by decide +kernel
theorem dL_isStep_561 : decode cL_isStep 561 = .ok (.iconst 4, 1) := by decide +kernel
theorem dL_isStep_562 : decode cL_isStep 562 = .ok (.ishr, 1) := by decide +kernel
theorem dL_isStep_563 : decode cL_isStep 563 = .ok (.bipush 7, 2) := by decide +kernel
theorem dL_isStep_565 : decode cL_isStep 565 = .ok (.invokestatic 17, 3) := by decide +kernel
theorem dL_isStep_568 : decode cL_isStep 568 = .ok (.istore 6, 2) := by decide +kernel
theorem dL_isStep_570 : decode cL_isStep 570 = .ok (.aload_n 0, 1) := by decide +kernel
theorem dL_isStep_571 : decode cL_isStep 571 = .ok (.iconst 5, 1) := by decide +kernel
theorem dL_isStep_572 : decode cL_isStep 572 = .ok (.invokevirtual 23, 3) := by decide +kernel
theorem dL_isStep_575 : decode cL_isStep 575 = .ok (.istore 7, 2) := by decide +kernel
theorem dL_isStep_577 : decode cL_isStep 577 = .ok (.iload 7, 2) := by decide +kernel
theorem dL_isStep_579 : decode cL_isStep 579 = .ok (.ifCond .lt 33, 3) := by decide +kernel
theorem dL_isStep_582 : decode cL_isStep 582 = .ok (.iload 5, 2) := by decide +kernel
theorem dL_isStep_584 : decode cL_isStep 584 = .ok (.aload_n 0, 1) := by decide +kernel
theorem dL_isStep_585 : decode cL_isStep 585 = .ok (.iload 7, 2) := by decide +kernel
theorem dL_isStep_587 : decode cL_isStep 587 = .ok (.iconst 1, 1) := by decide +kernel
theorem dL_isStep_588 : decode cL_isStep 588 = .ok (.invokevirtual 37, 3) := by decide +kernel
theorem dL_isStep_591 : decode cL_isStep 591 = .ok (.if_icmp .gt 21, 3) := by decide +kernel
theorem dL_isStep_594 : decode cL_isStep 594 = .ok (.iload 6, 2) := by decide +kernel
theorem dL_isStep_596 : decode cL_isStep 596 = .ok (.aload_n 0, 1) := by decide +kernel
theorem dL_isStep_597 : decode cL_isStep 597 = .ok (.iconst 1, 1) := by decide +kernel
theorem dL_isStep_598 : decode cL_isStep 598 = .ok (.iload 7, 2) := by decide +kernel
theorem dL_isStep_600 : decode cL_isStep 600 = .ok (.isub, 1) := by decide +kernel
theorem dL_isStep_601 : decode cL_isStep 601 = .ok (.iconst 1, 1) := by decide +kernel
theorem dL_isStep_602 : decode cL_isStep 602 = .ok (.invokevirtual 37, 3) := by decide +kernel
theorem dL_isStep_605 : decode cL_isStep 605 = .ok (.if_icmp .gt 7, 3) := by decide +kernel
theorem dL_isStep_608 : decode cL_isStep 608 = .ok (.iconst 1, 1) := by decide +kernel
theorem dL_isStep_609 : decode cL_isStep 609 = .ok (.goto 4, 3) := by decide +kernel
theorem dL_isStep_612 : decode cL_isStep 612 = .ok (.iconst 0, 1) := by decide +kernel
theorem dL_isStep_613 : decode cL_isStep 613 = .ok (.istore 8, 2) := by decide +kernel
theorem dL_isStep_615 : decode cL_isStep 615 = .ok (.iload 8, 2) := by decide +kernel
theorem dL_isStep_617 : decode cL_isStep 617 = .ok (.ifCond .ne 37, 3) := by decide +kernel
theorem dL_isStep_620 : decode cL_isStep 620 = .ok (.aload_n 0, 1) := by decide +kernel
theorem dL_isStep_621 : decode cL_isStep 621 = .ok (.iload 5, 2) := by decide +kernel
theorem dL_isStep_623 : decode cL_isStep 623 = .ok (.iload 6, 2) := by decide +kernel
theorem dL_isStep_625 : decode cL_isStep 625 = .ok (.invokevirtual 56, 3) := by decide +kernel
theorem dL_isStep_628 : decode cL_isStep 628 = .ok (.sipush (-1005), 3) := by decide +kernel
theorem dL_isStep_631 : decode cL_isStep 631 = .ok (.if_icmp .ne 21, 3) := by decide +kernel
theorem dL_isStep_634 : decode cL_isStep 634 = .ok (.aload_n 1, 1) := by decide +kernel
theorem dL_isStep_635 : decode cL_isStep 635 = .ok (.iload 5, 2) := by decide +kernel
theorem dL_isStep_637 : decode cL_isStep 637 = .ok (.iload 6, 2) := by decide +kernel
theorem dL_isStep_639 : decode cL_isStep 639 = .ok (.invokevirtual 56, 3) := by decide +kernel
theorem dL_isStep_642 : decode cL_isStep 642 = .ok (.sipush (-1005), 3) := by decide +kernel
theorem dL_isStep_645 : decode cL_isStep 645 = .ok (.if_icmp .ne 7, 3) := by decide +kernel
theorem dL_isStep_648 : decode cL_isStep 648 = .ok (.iconst 1, 1) := by decide +kernel
theorem dL_isStep_649 : decode cL_isStep 649 = .ok (.goto 4, 3) := by decide +kernel
theorem dL_isStep_652 : decode cL_isStep 652 = .ok (.iconst 0, 1) := by decide +kernel
theorem dL_isStep_653 : decode cL_isStep 653 = .ok (.ireturn, 1) := by decide +kernel
theorem dL_isStep_654 : decode cL_isStep 654 = .ok (.aload_n 0, 1) := by decide +kernel
theorem dL_isStep_655 : decode cL_isStep 655 = .ok (.iload 5, 2) := by decide +kernel
theorem dL_isStep_657 : decode cL_isStep 657 = .ok (.iload 6, 2) := by decide +kernel
theorem dL_isStep_659 : decode cL_isStep 659 = .ok (.iload 7, 2) := by decide +kernel
theorem dL_isStep_661 : decode cL_isStep 661 = .ok (.invokestatic 59, 3) := by decide +kernel
theorem dL_isStep_664 : decode cL_isStep 664 = .ok (.ifCond .eq 50, 3) := by decide +kernel
theorem dL_isStep_667 : decode cL_isStep 667 = .ok (.aload_n 1, 1) := by decide +kernel
theorem dL_isStep_668 : decode cL_isStep 668 = .ok (.invokevirtual 63, 3) := by decide +kernel
theorem dL_isStep_671 : decode cL_isStep 671 = .ok (.ifCond .lt 43, 3) := by decide +kernel
theorem dL_isStep_674 : decode cL_isStep 674 = .ok (.aload_n 1, 1) := by decide +kernel
theorem dL_isStep_675 : decode cL_isStep 675 = .ok (.iload 5, 2) := by decide +kernel
theorem dL_isStep_677 : decode cL_isStep 677 = .ok (.invokestatic 66, 3) := by decide +kernel
theorem dL_isStep_680 : decode cL_isStep 680 = .ok (.ifCond .eq 34, 3) := by decide +kernel
theorem dL_isStep_683 : decode cL_isStep 683 = .ok (.aload_n 1, 1) := by decide +kernel
theorem dL_isStep_684 : decode cL_isStep 684 = .ok (.ldc2_w 70, 3) := by decide +kernel
theorem dL_isStep_687 : decode cL_isStep 687 = .ok (.invokevirtual 11, 3) := by decide +kernel
theorem dL_isStep_690 : decode cL_isStep 690 = .ok (.ifCond .le 24, 3) := by decide +kernel
theorem dL_isStep_693 : decode cL_isStep 693 = .ok (.aload_n 1, 1) := by decide +kernel
theorem dL_isStep_694 : decode cL_isStep 694 = .ok (.iload 6, 2) := by decide +kernel
theorem dL_isStep_696 : decode cL_isStep 696 = .ok (.invokestatic 66, 3) := by decide +kernel
theorem dL_isStep_699 : decode cL_isStep 699 = .ok (.ifCond .eq 15, 3) := by decide +kernel
theorem dL_isStep_702 : decode cL_isStep 702 = .ok (.aload_n 1, 1) := by decide +kernel
theorem dL_isStep_703 : decode cL_isStep 703 = .ok (.invokevirtual 72, 3) := by decide +kernel
theorem dL_isStep_706 : decode cL_isStep 706 = .ok (.iconst 1, 1) := by decide +kernel
theorem dL_isStep_707 : decode cL_isStep 707 = .ok (.if_icmp .ne 7, 3) := by decide +kernel
theorem dL_isStep_710 : decode cL_isStep 710 = .ok (.iconst 1, 1) := by decide +kernel
theorem dL_isStep_711 : decode cL_isStep 711 = .ok (.goto 4, 3) := by decide +kernel
theorem dL_isStep_714 : decode cL_isStep 714 = .ok (.iconst 0, 1) := by decide +kernel
theorem dL_isStep_715 : decode cL_isStep 715 = .ok (.ireturn, 1) := by decide +kernel
theorem dL_isNew_0 : decode cL_isNew 0 = .ok (.aload_n 0, 1) := by decide +kernel
theorem dL_isNew_1 : decode cL_isNew 1 = .ok (.iconst 4, 1) := by decide +kernel
theorem dL_isNew_2 : decode cL_isNew 2 = .ok (.invokevirtual 23, 3) := by decide +kernel
theorem dL_isNew_5 : decode cL_isNew 5 = .ok (.ifCond .ne 45, 3) := by decide +kernel
theorem dL_isNew_8 : decode cL_isNew 8 = .ok (.aload_n 0, 1) := by decide +kernel
theorem dL_isNew_9 : decode cL_isNew 9 = .ok (.iconst 5, 1) := by decide +kernel
theorem dL_isNew_10 : decode cL_isNew 10 = .ok (.invokevirtual 23, 3) := by decide +kernel
theorem dL_isNew_13 : decode cL_isNew 13 = .ok (.ifCond .ne 37, 3) := by decide +kernel
theorem dL_isNew_16 : decode cL_isNew 16 = .ok (.aload_n 0, 1) := by decide +kernel
theorem dL_isNew_17 : decode cL_isNew 17 = .ok (.bipush 6, 2) := by decide +kernel
theorem dL_isNew_19 : decode cL_isNew 19 = .ok (.invokevirtual 23, 3) := by decide +kernel
theorem dL_isNew_22 : decode cL_isNew 22 = .ok (.ifCond .ne 28, 3) := by decide +kernel
theorem dL_isNew_25 : decode cL_isNew 25 = .ok (.aload_n 0, 1) := by decide +kernel
theorem dL_isNew_26 : decode cL_isNew 26 = .ok (.bipush 7, 2) := by decide +kernel
theorem dL_isNew_28 : decode cL_isNew 28 = .ok (.invokevirtual 23, 3) := by decide +kernel
theorem dL_isNew_31 : decode cL_isNew 31 = .ok (.sipush (-1006), 3) := by decide +kernel
theorem dL_isNew_34 : decode cL_isNew 34 = .ok (.if_icmp .ne 16, 3) := by decide +kernel
theorem dL_isNew_37 : decode cL_isNew 37 = .ok (.aload_n 0, 1) := by decide +kernel
theorem dL_isNew_38 : decode cL_isNew 38 = .ok (.bipush 8, 2) := by decide +kernel
theorem dL_isNew_40 : decode cL_isNew 40 = .ok (.invokevirtual 23, 3) := by decide +kernel
theorem dL_isNew_43 : decode cL_isNew 43 = .ok (.ifCond .ne 7, 3) := by decide +kernel
theorem dL_isNew_46 : decode cL_isNew 46 = .ok (.iconst 1, 1) := by decide +kernel
theorem dL_isNew_47 : decode cL_isNew 47 = .ok (.goto 4, 3) := by decide +kernel
theorem dL_isNew_50 : decode cL_isNew 50 = .ok (.iconst 0, 1) := by decide +kernel
theorem dL_isNew_51 : decode cL_isNew 51 = .ok (.istore_n 1, 1) := by decide +kernel
theorem dL_isNew_52 : decode cL_isNew 52 = .ok (.iconst 0, 1) := by decide +kernel
theorem dL_isNew_53 : decode cL_isNew 53 = .ok (.istore_n 2, 1) := by decide +kernel
theorem dL_isNew_54 : decode cL_isNew 54 = .ok (.iload_n 2, 1) := by decide +kernel
theorem dL_isNew_55 : decode cL_isNew 55 = .ok (.iconst 2, 1) := by decide +kernel
theorem dL_isNew_56 : decode cL_isNew 56 = .ok (.if_icmp .ge 52, 3) := by decide +kernel
theorem dL_isNew_59 : decode cL_isNew 59 = .ok (.iload_n 1, 1) := by decide +kernel
theorem dL_isNew_60 : decode cL_isNew 60 = .ok (.ifCond .eq 40, 3) := by decide +kernel
theorem dL_isNew_63 : decode cL_isNew 63 = .ok (.aload_n 0, 1) := by decide +kernel
theorem dL_isNew_64 : decode cL_isNew 64 = .ok (.iload_n 2, 1) := by decide +kernel
theorem dL_isNew_65 : decode cL_isNew 65 = .ok (.iconst 0, 1) := by decide +kernel
theorem dL_isNew_66 : decode cL_isNew 66 = .ok (.invokevirtual 37, 3) := by decide +kernel
theorem dL_isNew_69 : decode cL_isNew 69 = .ok (.aload_n 0, 1) := by decide +kernel
theorem dL_isNew_70 : decode cL_isNew 70 = .ok (.iload_n 2, 1) := by decide +kernel
theorem dL_isNew_71 : decode cL_isNew 71 = .ok (.iconst 2, 1) := by decide +kernel
theorem dL_isNew_72 : decode cL_isNew 72 = .ok (.invokevirtual 37, 3) := by decide +kernel
theorem dL_isNew_75 : decode cL_isNew 75 = .ok (.if_icmp .ne 25, 3) := by decide +kernel
theorem dL_isNew_78 : decode cL_isNew 78 = .ok (.aload_n 0, 1) := by decide +kernel
theorem dL_isNew_79 : decode cL_isNew 79 = .ok (.iload_n 2, 1) := by decide +kernel
theorem dL_isNew_80 : decode cL_isNew 80 = .ok (.iconst 3, 1) := by decide +kernel
theorem dL_isNew_81 : decode cL_isNew 81 = .ok (.invokevirtual 37, 3) := by decide +kernel
theorem dL_isNew_84 : decode cL_isNew 84 = .ok (.ifCond .ne 16, 3) := by decide +kernel
theorem dL_isNew_87 : decode cL_isNew 87 = .ok (.aload_n 0, 1) := by decide +kernel
theorem dL_isNew_88 : decode cL_isNew 88 = .ok (.iload_n 2, 1) := by decide +kernel
theorem dL_isNew_89 : decode cL_isNew 89 = .ok (.iconst 4, 1) := by decide +kernel
theorem dL_isNew_90 : decode cL_isNew 90 = .ok (.invokevirtual 37, 3) := by decide +kernel
theorem dL_isNew_93 : decode cL_isNew 93 = .ok (.ifCond .ne 7, 3) := by decide +kernel
theorem dL_isNew_96 : decode cL_isNew 96 = .ok (.iconst 1, 1) := by decide +kernel
theorem dL_isNew_97 : decode cL_isNew 97 = .ok (.goto 4, 3) := by decide +kernel
theorem dL_isNew_100 : decode cL_isNew 100 = .ok (.iconst 0, 1) := by decide +kernel
theorem dL_isNew_101 : decode cL_isNew 101 = .ok (.istore_n 1, 1) := by decide +kernel
theorem dL_isNew_102 : decode cL_isNew 102 = .ok (.iinc 2 1, 3) := by decide +kernel
theorem dL_isNew_105 : decode cL_isNew 105 = .ok (.goto (-51), 3) := by decide +kernel
theorem dL_isNew_108 : decode cL_isNew 108 = .ok (.iload_n 1, 1) := by decide +kernel
theorem dL_isNew_109 : decode cL_isNew 109 = .ok (.ireturn, 1) := by decide +kernel
theorem dL_isRound_0 : decode cL_isRound 0 = .ok (.iload_n 1, 1) := by decide +kernel
theorem dL_isRound_1 : decode cL_isRound 1 = .ok (.iload_n 2, 1) := by decide +kernel
theorem dL_isRound_2 : decode cL_isRound 2 = .ok (.if_icmp .gt 16, 3) := by decide +kernel
theorem dL_isRound_5 : decode cL_isRound 5 = .ok (.iload_n 1, 1) := by decide +kernel
theorem dL_isRound_6 : decode cL_isRound 6 = .ok (.iload_n 2, 1) := by decide +kernel
theorem dL_isRound_7 : decode cL_isRound 7 = .ok (.if_icmp .ne 15, 3) := by decide +kernel
theorem dL_isRound_10 : decode cL_isRound 10 = .ok (.aload_n 0, 1) := by decide +kernel
theorem dL_isRound_11 : decode cL_isRound 11 = .ok (.iconst 3, 1) := by decide +kernel
theorem dL_isRound_12 : decode cL_isRound 12 = .ok (.invokevirtual 23, 3) := by decide +kernel
theorem dL_isRound_15 : decode cL_isRound 15 = .ok (.ifCond .ne 7, 3) := by decide +kernel
theorem dL_isRound_18 : decode cL_isRound 18 = .ok (.iload_n 3, 1) := by decide +kernel
theorem dL_isRound_19 : decode cL_isRound 19 = .ok (.goto 6, 3) := by decide +kernel
theorem dL_isRound_22 : decode cL_isRound 22 = .ok (.iconst 1, 1) := by decide +kernel
theorem dL_isRound_23 : decode cL_isRound 23 = .ok (.iload_n 3, 1) := by decide +kernel
theorem dL_isRound_24 : decode cL_isRound 24 = .ok (.isub, 1) := by decide +kernel
theorem dL_isRound_25 : decode cL_isRound 25 = .ok (.istore 4, 2) := by decide +kernel
theorem dL_isRound_27 : decode cL_isRound 27 = .ok (.iload_n 1, 1) := by decide +kernel
theorem dL_isRound_28 : decode cL_isRound 28 = .ok (.iload_n 2, 1) := by decide +kernel
theorem dL_isRound_29 : decode cL_isRound 29 = .ok (.if_icmp .le 7, 3) := by decide +kernel
theorem dL_isRound_32 : decode cL_isRound 32 = .ok (.iload_n 1, 1) := by decide +kernel
theorem dL_isRound_33 : decode cL_isRound 33 = .ok (.goto 4, 3) := by decide +kernel
theorem dL_isRound_36 : decode cL_isRound 36 = .ok (.iload_n 2, 1) := by decide +kernel
theorem dL_isRound_37 : decode cL_isRound 37 = .ok (.istore 5, 2) := by decide +kernel
theorem dL_isRound_39 : decode cL_isRound 39 = .ok (.aload_n 0, 1) := by decide +kernel
theorem dL_isRound_40 : decode cL_isRound 40 = .ok (.iload 4, 2) := by decide +kernel
theorem dL_isRound_42 : decode cL_isRound 42 = .ok (.iconst 0, 1) := by decide +kernel
theorem dL_isRound_43 : decode cL_isRound 43 = .ok (.invokevirtual 37, 3) := by decide +kernel
theorem dL_isRound_46 : decode cL_isRound 46 = .ok (.istore 6, 2) := by decide +kernel
theorem dL_isRound_48 : decode cL_isRound 48 = .ok (.aload_n 0, 1) := by decide +kernel
theorem dL_isRound_49 : decode cL_isRound 49 = .ok (.iconst 1, 1) := by decide +kernel
theorem dL_isRound_50 : decode cL_isRound 50 = .ok (.iload 4, 2) := by decide +kernel
theorem dL_isRound_52 : decode cL_isRound 52 = .ok (.isub, 1) := by decide +kernel
theorem dL_isRound_53 : decode cL_isRound 53 = .ok (.iconst 0, 1) := by decide +kernel
theorem dL_isRound_54 : decode cL_isRound 54 = .ok (.invokevirtual 37, 3) := by decide +kernel
theorem dL_isRound_57 : decode cL_isRound 57 = .ok (.istore 7, 2) := by decide +kernel
theorem dL_isRound_59 : decode cL_isRound 59 = .ok (.aload_n 0, 1) := by decide +kernel
theorem dL_isRound_60 : decode cL_isRound 60 = .ok (.iload 4, 2) := by decide +kernel
theorem dL_isRound_62 : decode cL_isRound 62 = .ok (.iconst 3, 1) := by decide +kernel
theorem dL_isRound_63 : decode cL_isRound 63 = .ok (.invokevirtual 37, 3) := by decide +kernel
theorem dL_isRound_66 : decode cL_isRound 66 = .ok (.istore 8, 2) := by decide +kernel
theorem dL_isRound_68 : decode cL_isRound 68 = .ok (.aload_n 0, 1) := by decide +kernel
theorem dL_isRound_69 : decode cL_isRound 69 = .ok (.iload 4, 2) := by decide +kernel
theorem dL_isRound_71 : decode cL_isRound 71 = .ok (.iconst 4, 1) := by decide +kernel
theorem dL_isRound_72 : decode cL_isRound 72 = .ok (.invokevirtual 37, 3) := by decide +kernel
theorem dL_isRound_75 : decode cL_isRound 75 = .ok (.istore 9, 2) := by decide +kernel
theorem dL_isRound_77 : decode cL_isRound 77 = .ok (.aload_n 0, 1) := by decide +kernel
theorem dL_isRound_78 : decode cL_isRound 78 = .ok (.iconst 4, 1) := by decide +kernel
theorem dL_isRound_79 : decode cL_isRound 79 = .ok (.invokevirtual 23, 3) := by decide +kernel
theorem dL_isRound_82 : decode cL_isRound 82 = .ok (.istore 10, 2) := by decide +kernel
theorem dL_isRound_84 : decode cL_isRound 84 = .ok (.aload_n 0, 1) := by decide +kernel
theorem dL_isRound_85 : decode cL_isRound 85 = .ok (.bipush 6, 2) := by decide +kernel
theorem dL_isRound_87 : decode cL_isRound 87 = .ok (.invokevirtual 23, 3) := by decide +kernel
theorem dL_isRound_90 : decode cL_isRound 90 = .ok (.istore 11, 2) := by decide +kernel
theorem dL_isRound_92 : decode cL_isRound 92 = .ok (.aload_n 0, 1) := by decide +kernel
theorem dL_isRound_93 : decode cL_isRound 93 = .ok (.bipush 8, 2) := by decide +kernel
theorem dL_isRound_95 : decode cL_isRound 95 = .ok (.invokevirtual 23, 3) := by decide +kernel
theorem dL_isRound_98 : decode cL_isRound 98 = .ok (.istore 12, 2) := by decide +kernel
theorem dL_isRound_100 : decode cL_isRound 100 = .ok (.aload_n 0, 1) := by decide +kernel
theorem dL_isRound_101 : decode cL_isRound 101 = .ok (.bipush 9, 2) := by decide +kernel
theorem dL_isRound_103 : decode cL_isRound 103 = .ok (.invokevirtual 23, 3) := by decide +kernel
theorem dL_isRound_106 : decode cL_isRound 106 = .ok (.istore 13, 2) := by decide +kernel
theorem dL_isRound_108 : decode cL_isRound 108 = .ok (.aload_n 0, 1) := by decide +kernel
theorem dL_isRound_109 : decode cL_isRound 109 = .ok (.iconst 2, 1) := by decide +kernel
theorem dL_isRound_110 : decode cL_isRound 110 = .ok (.invokevirtual 23, 3) := by decide +kernel
theorem dL_isRound_113 : decode cL_isRound 113 = .ok (.iconst 1, 1) := by decide +kernel
theorem dL_isRound_114 : decode cL_isRound 114 = .ok (.if_icmp .ne 7, 3) := by decide +kernel
theorem dL_isRound_117 : decode cL_isRound 117 = .ok (.iconst 1, 1) := by decide +kernel
theorem dL_isRound_118 : decode cL_isRound 118 = .ok (.goto 4, 3) := by decide +kernel
theorem dL_isRound_121 : decode cL_isRound 121 = .ok (.iconst 0, 1) := by decide +kernel
theorem dL_isRound_122 : decode cL_isRound 122 = .ok (.istore 14, 2) := by decide +kernel
theorem dL_isRound_124 : decode cL_isRound 124 = .ok (.aload_n 0, 1) := by decide +kernel
theorem dL_isRound_125 : decode cL_isRound 125 = .ok (.iload_n 1, 1) := by decide +kernel
theorem dL_isRound_126 : decode cL_isRound 126 = .ok (.iload_n 2, 1) := by decide +kernel
theorem dL_isRound_127 : decode cL_isRound 127 = .ok (.invokevirtual 56, 3) := by decide +kernel
theorem dL_isRound_130 : decode cL_isRound 130 = .ok (.iload 4, 2) := by decide +kernel
theorem dL_isRound_132 : decode cL_isRound 132 = .ok (.if_icmp .ne 134, 3) := by decide +kernel
theorem dL_isRound_135 : decode cL_isRound 135 = .ok (.aload_n 0, 1) := by decide +kernel
theorem dL_isRound_136 : decode cL_isRound 136 = .ok (.iload 4, 2) := by decide +kernel
theorem dL_isRound_138 : decode cL_isRound 138 = .ok (.iconst 0, 1) := by decide +kernel
theorem dL_isRound_139 : decode cL_isRound 139 = .ok (.invokevirtual 37, 3) := by decide +kernel
theorem dL_isRound_142 : decode cL_isRound 142 = .ok (.iload 6, 2) := by decide +kernel
theorem dL_isRound_144 : decode cL_isRound 144 = .ok (.iload 5, 2) := by decide +kernel
theorem dL_isRound_146 : decode cL_isRound 146 = .ok (.isub, 1) := by decide +kernel
theorem dL_isRound_147 : decode cL_isRound 147 = .ok (.if_icmp .ne 119, 3) := by decide +kernel
theorem dL_isRound_150 : decode cL_isRound 150 = .ok (.aload_n 0, 1) := by decide +kernel
theorem dL_isRound_151 : decode cL_isRound 151 = .ok (.iconst 1, 1) := by decide +kernel
theorem dL_isRound_152 : decode cL_isRound 152 = .ok (.iload 4, 2) := by decide +kernel
theorem dL_isRound_154 : decode cL_isRound 154 = .ok (.isub, 1) := by decide +kernel
theorem dL_isRound_155 : decode cL_isRound 155 = .ok (.iconst 0, 1) := by decide +kernel
theorem dL_isRound_156 : decode cL_isRound 156 = .ok (.invokevirtual 37, 3) := by decide +kernel
theorem dL_isRound_159 : decode cL_isRound 159 = .ok (.iload 7, 2) := by decide +kernel
theorem dL_isRound_161 : decode cL_isRound 161 = .ok (.iload 14, 2) := by decide +kernel
theorem dL_isRound_163 : decode cL_isRound 163 = .ok (.ifCond .eq 7, 3) := by decide +kernel
theorem dL_isRound_166 : decode cL_isRound 166 = .ok (.iconst 0, 1) := by decide +kernel
theorem dL_isRound_167 : decode cL_isRound 167 = .ok (.goto 5, 3) := by decide +kernel
theorem dL_isRound_170 : decode cL_isRound 170 = .ok (.iload 5, 2) := by decide +kernel
theorem dL_isRound_172 : decode cL_isRound 172 = .ok (.iadd, 1) := by decide +kernel
theorem dL_isRound_173 : decode cL_isRound 173 = .ok (.if_icmp .ne 93, 3) := by decide +kernel
theorem dL_isRound_176 : decode cL_isRound 176 = .ok (.aload_n 0, 1) := by decide +kernel
theorem dL_isRound_177 : decode cL_isRound 177 = .ok (.bipush 8, 2) := by decide +kernel
theorem dL_isRound_179 : decode cL_isRound 179 = .ok (.invokevirtual 23, 3) := by decide +kernel
theorem dL_isRound_182 : decode cL_isRound 182 = .ok (.iload 12, 2) := by decide +kernel
theorem dL_isRound_184 : decode cL_isRound 184 = .ok (.iload 14, 2) := by decide +kernel
theorem dL_isRound_186 : decode cL_isRound 186 = .ok (.ifCond .eq 8, 3) := by decide +kernel
theorem dL_isRound_189 : decode cL_isRound 189 = .ok (.iload 5, 2) := by decide +kernel
theorem dL_isRound_191 : decode cL_isRound 191 = .ok (.goto 4, 3) := by decide +kernel
theorem dL_isRound_194 : decode cL_isRound 194 = .ok (.iconst 0, 1) := by decide +kernel
theorem dL_isRound_195 : decode cL_isRound 195 = .ok (.iadd, 1) := by decide +kernel
theorem dL_isRound_196 : decode cL_isRound 196 = .ok (.if_icmp .ne 70, 3) := by decide +kernel
theorem dL_isRound_199 : decode cL_isRound 199 = .ok (.aload_n 0, 1) := by decide +kernel
theorem dL_isRound_200 : decode cL_isRound 200 = .ok (.iload 4, 2) := by decide +kernel
theorem dL_isRound_202 : decode cL_isRound 202 = .ok (.iconst 3, 1) := by decide +kernel
theorem dL_isRound_203 : decode cL_isRound 203 = .ok (.invokevirtual 37, 3) := by decide +kernel
theorem dL_isRound_206 : decode cL_isRound 206 = .ok (.iload 8, 2) := by decide +kernel
theorem dL_isRound_208 : decode cL_isRound 208 = .ok (.iload 5, 2) := by decide +kernel
theorem dL_isRound_210 : decode cL_isRound 210 = .ok (.iadd, 1) := by decide +kernel
theorem dL_isRound_211 : decode cL_isRound 211 = .ok (.if_icmp .ne 55, 3) := by decide +kernel
theorem dL_isRound_214 : decode cL_isRound 214 = .ok (.aload_n 0, 1) := by decide +kernel
theorem dL_isRound_215 : decode cL_isRound 215 = .ok (.iload 4, 2) := by decide +kernel
theorem dL_isRound_217 : decode cL_isRound 217 = .ok (.iconst 4, 1) := by decide +kernel
theorem dL_isRound_218 : decode cL_isRound 218 = .ok (.invokevirtual 37, 3) := by decide +kernel
theorem dL_isRound_221 : decode cL_isRound 221 = .ok (.iload 9, 2) := by decide +kernel
