theorem dX0_init_0 : decode cX0_init 0 = .ok (.aload_n 0, 1) := by decide +kernel
theorem dX0_init_1 : decode cX0_init 1 = .ok (.invokespecial 3, 3) := by decide +kernel
theorem dX0_init_4 : decode cX0_init 4 = .ok (.aload_n 0, 1) := by decide +kernel
theorem dX0_init_5 : decode cX0_init 5 = .ok (.aload_n 1, 1) := by decide +kernel
theorem dX0_init_6 : decode cX0_init 6 = .ok (.putfield 9, 3) := by decide +kernel
theorem dX0_init_9 : decode cX0_init 9 = .ok (.return_, 1) := by decide +kernel
theorem dX0_findBid_0 : decode cX0_findBid 0 = .ok (.iconst 0, 1) := by decide +kernel
theorem dX0_findBid_1 : decode cX0_findBid 1 = .ok (.istore_n 2, 1) := by decide +kernel
theorem dX0_findBid_2 : decode cX0_findBid 2 = .ok (.bipush 9, 2) := by decide +kernel
theorem dX0_findBid_4 : decode cX0_findBid 4 = .ok (.istore_n 3, 1) := by decide +kernel
theorem dX0_findBid_5 : decode cX0_findBid 5 = .ok (.aload_n 0, 1) := by decide +kernel
theorem dX0_findBid_6 : decode cX0_findBid 6 = .ok (.getfield 9, 3) := by decide +kernel
theorem dX0_findBid_9 : decode cX0_findBid 9 = .ok (.aload_n 0, 1) := by decide +kernel
theorem dX0_findBid_10 : decode cX0_findBid 10 = .ok (.getfield 9, 3) := by decide +kernel
theorem dX0_findBid_13 : decode cX0_findBid 13 = .ok (.getfield 15, 3) := by decide +kernel
theorem dX0_findBid_16 : decode cX0_findBid 16 = .ok (.invokevirtual 21, 3) := by decide +kernel
theorem dX0_findBid_19 : decode cX0_findBid 19 = .ok (.istore 4, 2) := by decide +kernel
theorem dX0_findBid_21 : decode cX0_findBid 21 = .ok (.iconst 0, 1) := by decide +kernel
theorem dX0_findBid_22 : decode cX0_findBid 22 = .ok (.istore 5, 2) := by decide +kernel
theorem dX0_findBid_24 : decode cX0_findBid 24 = .ok (.iload 5, 2) := by decide +kernel
theorem dX0_findBid_26 : decode cX0_findBid 26 = .ok (.iload 4, 2) := by decide +kernel
theorem dX0_findBid_28 : decode cX0_findBid 28 = .ok (.if_icmp .gt 30, 3) := by decide +kernel
theorem dX0_findBid_31 : decode cX0_findBid 31 = .ok (.aload_n 0, 1) := by decide +kernel
theorem dX0_findBid_32 : decode cX0_findBid 32 = .ok (.aload_n 1, 1) := by decide +kernel
theorem dX0_findBid_33 : decode cX0_findBid 33 = .ok (.iload 5, 2) := by decide +kernel
theorem dX0_findBid_35 : decode cX0_findBid 35 = .ok (.invokevirtual 25, 3) := by decide +kernel
theorem dX0_findBid_38 : decode cX0_findBid 38 = .ok (.istore 6, 2) := by decide +kernel
theorem dX0_findBid_40 : decode cX0_findBid 40 = .ok (.iload 6, 2) := by decide +kernel
theorem dX0_findBid_42 : decode cX0_findBid 42 = .ok (.iload_n 3, 1) := by decide +kernel
theorem dX0_findBid_43 : decode cX0_findBid 43 = .ok (.if_icmp .ge 9, 3) := by decide +kernel
theorem dX0_findBid_46 : decode cX0_findBid 46 = .ok (.iload 5, 2) := by decide +kernel
theorem dX0_findBid_48 : decode cX0_findBid 48 = .ok (.istore_n 2, 1) := by decide +kernel
theorem dX0_findBid_49 : decode cX0_findBid 49 = .ok (.iload 6, 2) := by decide +kernel
theorem dX0_findBid_51 : decode cX0_findBid 51 = .ok (.istore_n 3, 1) := by decide +kernel
theorem dX0_findBid_52 : decode cX0_findBid 52 = .ok (.iinc 5 1, 3) := by decide +kernel
theorem dX0_findBid_55 : decode cX0_findBid 55 = .ok (.goto (-31), 3) := by decide +kernel
theorem dX0_findBid_58 : decode cX0_findBid 58 = .ok (.iload_n 3, 1) := by decide +kernel
theorem dX0_findBid_59 : decode cX0_findBid 59 = .ok (.bipush 9, 2) := by decide +kernel
theorem dX0_findBid_61 : decode cX0_findBid 61 = .ok (.if_icmp .ge 7, 3) := by decide +kernel
theorem dX0_findBid_64 : decode cX0_findBid 64 = .ok (.iload_n 2, 1) := by decide +kernel
theorem dX0_findBid_65 : decode cX0_findBid 65 = .ok (.goto 8, 3) := by decide +kernel
theorem dX0_findBid_68 : decode cX0_findBid 68 = .ok (.aload_n 0, 1) := by decide +kernel
theorem dX0_findBid_69 : decode cX0_findBid 69 = .ok (.aload_n 1, 1) := by decide +kernel
theorem dX0_findBid_70 : decode cX0_findBid 70 = .ok (.invokevirtual 29, 3) := by decide +kernel
theorem dX0_findBid_73 : decode cX0_findBid 73 = .ok (.ireturn, 1) := by decide +kernel
theorem dX0_findDelay_0 : decode cX0_findDelay 0 = .ok (.iconst 0, 1) := by decide +kernel
theorem dX0_findDelay_1 : decode cX0_findDelay 1 = .ok (.istore_n 2, 1) := by decide +kernel
theorem dX0_findDelay_2 : decode cX0_findDelay 2 = .ok (.iconst (-1), 1) := by decide +kernel
theorem dX0_findDelay_3 : decode cX0_findDelay 3 = .ok (.istore_n 3, 1) := by decide +kernel
theorem dX0_findDelay_4 : decode cX0_findDelay 4 = .ok (.aload_n 0, 1) := by decide +kernel
theorem dX0_findDelay_5 : decode cX0_findDelay 5 = .ok (.getfield 9, 3) := by decide +kernel
theorem dX0_findDelay_8 : decode cX0_findDelay 8 = .ok (.aload_n 0, 1) := by decide +kernel
theorem dX0_findDelay_9 : decode cX0_findDelay 9 = .ok (.getfield 9, 3) := by decide +kernel
theorem dX0_findDelay_12 : decode cX0_findDelay 12 = .ok (.getfield 15, 3) := by decide +kernel
theorem dX0_findDelay_15 : decode cX0_findDelay 15 = .ok (.invokevirtual 21, 3) := by decide +kernel
theorem dX0_findDelay_18 : decode cX0_findDelay 18 = .ok (.istore 4, 2) := by decide +kernel
theorem dX0_findDelay_20 : decode cX0_findDelay 20 = .ok (.iconst 0, 1) := by decide +kernel
theorem dX0_findDelay_21 : decode cX0_findDelay 21 = .ok (.istore 5, 2) := by decide +kernel
theorem dX0_findDelay_23 : decode cX0_findDelay 23 = .ok (.iload 5, 2) := by decide +kernel
theorem dX0_findDelay_25 : decode cX0_findDelay 25 = .ok (.iload 4, 2) := by decide +kernel
theorem dX0_findDelay_27 : decode cX0_findDelay 27 = .ok (.if_icmp .gt 30, 3) := by decide +kernel
theorem dX0_findDelay_30 : decode cX0_findDelay 30 = .ok (.aload_n 0, 1) := by decide +kernel
theorem dX0_findDelay_31 : decode cX0_findDelay 31 = .ok (.aload_n 1, 1) := by decide +kernel
theorem dX0_findDelay_32 : decode cX0_findDelay 32 = .ok (.iload 5, 2) := by decide +kernel
theorem dX0_findDelay_34 : decode cX0_findDelay 34 = .ok (.invokevirtual 33, 3) := by decide +kernel
theorem dX0_findDelay_37 : decode cX0_findDelay 37 = .ok (.istore 6, 2) := by decide +kernel
theorem dX0_findDelay_39 : decode cX0_findDelay 39 = .ok (.iload 6, 2) := by decide +kernel
theorem dX0_findDelay_41 : decode cX0_findDelay 41 = .ok (.iload_n 3, 1) := by decide +kernel
theorem dX0_findDelay_42 : decode cX0_findDelay 42 = .ok (.if_icmp .le 9, 3) := by decide +kernel
theorem dX0_findDelay_45 : decode cX0_findDelay 45 = .ok (.iload 5, 2) := by decide +kernel
theorem dX0_findDelay_47 : decode cX0_findDelay 47 = .ok (.istore_n 2, 1) := by decide +kernel
theorem dX0_findDelay_48 : decode cX0_findDelay 48 = .ok (.iload 6, 2) := by decide +kernel
theorem dX0_findDelay_50 : decode cX0_findDelay 50 = .ok (.istore_n 3, 1) := by decide +kernel
theorem dX0_findDelay_51 : decode cX0_findDelay 51 = .ok (.iinc 5 1, 3) := by decide +kernel
theorem dX0_findDelay_54 : decode cX0_findDelay 54 = .ok (.goto (-31), 3) := by decide +kernel
theorem dX0_findDelay_57 : decode cX0_findDelay 57 = .ok (.iload_n 2, 1) := by decide +kernel
theorem dX0_findDelay_58 : decode cX0_findDelay 58 = .ok (.ireturn, 1) := by decide +kernel
theorem dX0_findAnswer_0 : decode cX0_findAnswer 0 = .ok (.iconst 0, 1) := by decide +kernel
theorem dX0_findAnswer_1 : decode cX0_findAnswer 1 = .ok (.istore_n 3, 1) := by decide +kernel
theorem dX0_findAnswer_2 : decode cX0_findAnswer 2 = .ok (.bipush 9, 2) := by decide +kernel
theorem dX0_findAnswer_4 : decode cX0_findAnswer 4 = .ok (.istore 4, 2) := by decide +kernel
theorem dX0_findAnswer_6 : decode cX0_findAnswer 6 = .ok (.iconst 0, 1) := by decide +kernel
theorem dX0_findAnswer_7 : decode cX0_findAnswer 7 = .ok (.istore 5, 2) := by decide +kernel
theorem dX0_findAnswer_9 : decode cX0_findAnswer 9 = .ok (.iconst (-1), 1) := by decide +kernel
theorem dX0_findAnswer_10 : decode cX0_findAnswer 10 = .ok (.istore 6, 2) := by decide +kernel
theorem dX0_findAnswer_12 : decode cX0_findAnswer 12 = .ok (.aload_n 0, 1) := by decide +kernel
theorem dX0_findAnswer_13 : decode cX0_findAnswer 13 = .ok (.getfield 9, 3) := by decide +kernel
theorem dX0_findAnswer_16 : decode cX0_findAnswer 16 = .ok (.iconst 1, 1) := by decide +kernel
theorem dX0_findAnswer_17 : decode cX0_findAnswer 17 = .ok (.aload_n 0, 1) := by decide +kernel
theorem dX0_findAnswer_18 : decode cX0_findAnswer 18 = .ok (.getfield 9, 3) := by decide +kernel
theorem dX0_findAnswer_21 : decode cX0_findAnswer 21 = .ok (.getfield 15, 3) := by decide +kernel
theorem dX0_findAnswer_24 : decode cX0_findAnswer 24 = .ok (.isub, 1) := by decide +kernel
theorem dX0_findAnswer_25 : decode cX0_findAnswer 25 = .ok (.invokevirtual 21, 3) := by decide +kernel
theorem dX0_findAnswer_28 : decode cX0_findAnswer 28 = .ok (.istore 7, 2) := by decide +kernel
theorem dX0_findAnswer_30 : decode cX0_findAnswer 30 = .ok (.iconst 0, 1) := by decide +kernel
theorem dX0_findAnswer_31 : decode cX0_findAnswer 31 = .ok (.istore 8, 2) := by decide +kernel
theorem dX0_findAnswer_33 : decode cX0_findAnswer 33 = .ok (.iload 8, 2) := by decide +kernel
theorem dX0_findAnswer_35 : decode cX0_findAnswer 35 = .ok (.iload 7, 2) := by decide +kernel
theorem dX0_findAnswer_37 : decode cX0_findAnswer 37 = .ok (.if_icmp .gt 74, 3) := by decide +kernel
theorem dX0_findAnswer_40 : decode cX0_findAnswer 40 = .ok (.aload_n 0, 1) := by decide +kernel
theorem dX0_findAnswer_41 : decode cX0_findAnswer 41 = .ok (.aload_n 1, 1) := by decide +kernel
theorem dX0_findAnswer_42 : decode cX0_findAnswer 42 = .ok (.iconst 1, 1) := by decide +kernel
theorem dX0_findAnswer_43 : decode cX0_findAnswer 43 = .ok (.aload_n 0, 1) := by decide +kernel
theorem dX0_findAnswer_44 : decode cX0_findAnswer 44 = .ok (.getfield 9, 3) := by decide +kernel
theorem dX0_findAnswer_47 : decode cX0_findAnswer 47 = .ok (.getfield 15, 3) := by decide +kernel
theorem dX0_findAnswer_50 : decode cX0_findAnswer 50 = .ok (.isub, 1) := by decide +kernel
theorem dX0_findAnswer_51 : decode cX0_findAnswer 51 = .ok (.iload_n 2, 1) := by decide +kernel
theorem dX0_findAnswer_52 : decode cX0_findAnswer 52 = .ok (.iload 8, 2) := by decide +kernel
theorem dX0_findAnswer_54 : decode cX0_findAnswer 54 = .ok (.invokevirtual 36, 3) := by decide +kernel
theorem dX0_findAnswer_57 : decode cX0_findAnswer 57 = .ok (.istore 9, 2) := by decide +kernel
theorem dX0_findAnswer_59 : decode cX0_findAnswer 59 = .ok (.iload 9, 2) := by decide +kernel
theorem dX0_findAnswer_61 : decode cX0_findAnswer 61 = .ok (.iload 4, 2) := by decide +kernel
theorem dX0_findAnswer_63 : decode cX0_findAnswer 63 = .ok (.if_icmp .ge 10, 3) := by decide +kernel
theorem dX0_findAnswer_66 : decode cX0_findAnswer 66 = .ok (.iload 8, 2) := by decide +kernel
theorem dX0_findAnswer_68 : decode cX0_findAnswer 68 = .ok (.istore_n 3, 1) := by decide +kernel
theorem dX0_findAnswer_69 : decode cX0_findAnswer 69 = .ok (.iload 9, 2) := by decide +kernel
theorem dX0_findAnswer_71 : decode cX0_findAnswer 71 = .ok (.istore 4, 2) := by decide +kernel
theorem dX0_findAnswer_73 : decode cX0_findAnswer 73 = .ok (.aload_n 0, 1) := by decide +kernel
theorem dX0_findAnswer_74 : decode cX0_findAnswer 74 = .ok (.aload_n 1, 1) := by decide +kernel
theorem dX0_findAnswer_75 : decode cX0_findAnswer 75 = .ok (.aload_n 0, 1) := by decide +kernel
theorem dX0_findAnswer_76 : decode cX0_findAnswer 76 = .ok (.getfield 9, 3) := by decide +kernel
theorem dX0_findAnswer_79 : decode cX0_findAnswer 79 = .ok (.getfield 15, 3) := by decide +kernel
theorem dX0_findAnswer_82 : decode cX0_findAnswer 82 = .ok (.iload_n 2, 1) := by decide +kernel
theorem dX0_findAnswer_83 : decode cX0_findAnswer 83 = .ok (.iload 8, 2) := by decide +kernel
theorem dX0_findAnswer_85 : decode cX0_findAnswer 85 = .ok (.invokevirtual 36, 3) := by decide +kernel
theorem dX0_findAnswer_88 : decode cX0_findAnswer 88 = .ok (.istore 10, 2) := by decide +kernel
theorem dX0_findAnswer_90 : decode cX0_findAnswer 90 = .ok (.iload 10, 2) := by decide +kernel
theorem dX0_findAnswer_92 : decode cX0_findAnswer 92 = .ok (.iload 6, 2) := by decide +kernel
theorem dX0_findAnswer_94 : decode cX0_findAnswer 94 = .ok (.if_icmp .le 11, 3) := by decide +kernel
theorem dX0_findAnswer_97 : decode cX0_findAnswer 97 = .ok (.iload 8, 2) := by decide +kernel
theorem dX0_findAnswer_99 : decode cX0_findAnswer 99 = .ok (.istore 5, 2) := by decide +kernel
theorem dX0_findAnswer_101 : decode cX0_findAnswer 101 = .ok (.iload 10, 2) := by decide +kernel
theorem dX0_findAnswer_103 : decode cX0_findAnswer 103 = .ok (.istore 6, 2) := by decide +kernel
theorem dX0_findAnswer_105 : decode cX0_findAnswer 105 = .ok (.iinc 8 1, 3) := by decide +kernel
theorem dX0_findAnswer_108 : decode cX0_findAnswer 108 = .ok (.goto (-75), 3) := by decide +kernel
theorem dX0_findAnswer_111 : decode cX0_findAnswer 111 = .ok (.iload 4, 2) := by decide +kernel
theorem dX0_findAnswer_113 : decode cX0_findAnswer 113 = .ok (.bipush 9, 2) := by decide +kernel
theorem dX0_findAnswer_115 : decode cX0_findAnswer 115 = .ok (.if_icmp .ge 7, 3) := by decide +kernel
theorem dX0_findAnswer_118 : decode cX0_findAnswer 118 = .ok (.iload_n 3, 1) := by decide +kernel
theorem dX0_findAnswer_119 : decode cX0_findAnswer 119 = .ok (.goto 5, 3) := by decide +kernel
theorem dX0_findAnswer_122 : decode cX0_findAnswer 122 = .ok (.iload 5, 2) := by decide +kernel
theorem dX0_findAnswer_124 : decode cX0_findAnswer 124 = .ok (.ireturn, 1) := by decide +kernel
theorem dX0_countKeeping_0 : decode cX0_countKeeping 0 = .ok (.iconst 0, 1) := by decide +kernel
theorem dX0_countKeeping_1 : decode cX0_countKeeping 1 = .ok (.istore_n 2, 1) := by decide +kernel
theorem dX0_countKeeping_2 : decode cX0_countKeeping 2 = .ok (.aload_n 0, 1) := by decide +kernel
theorem dX0_countKeeping_3 : decode cX0_countKeeping 3 = .ok (.getfield 9, 3) := by decide +kernel
theorem dX0_countKeeping_6 : decode cX0_countKeeping 6 = .ok (.aload_n 0, 1) := by decide +kernel
theorem dX0_countKeeping_7 : decode cX0_countKeeping 7 = .ok (.getfield 9, 3) := by decide +kernel
theorem dX0_countKeeping_10 : decode cX0_countKeeping 10 = .ok (.getfield 15, 3) := by decide +kernel
theorem dX0_countKeeping_13 : decode cX0_countKeeping 13 = .ok (.invokevirtual 21, 3) := by decide +kernel
theorem dX0_countKeeping_16 : decode cX0_countKeeping 16 = .ok (.istore_n 3, 1) := by decide +kernel
theorem dX0_countKeeping_17 : decode cX0_countKeeping 17 = .ok (.iconst 0, 1) := by decide +kernel
theorem dX0_countKeeping_18 : decode cX0_countKeeping 18 = .ok (.istore 4, 2) := by decide +kernel
theorem dX0_countKeeping_20 : decode cX0_countKeeping 20 = .ok (.iload 4, 2) := by decide +kernel
theorem dX0_countKeeping_22 : decode cX0_countKeeping 22 = .ok (.iload_n 3, 1) := by decide +kernel
theorem dX0_countKeeping_23 : decode cX0_countKeeping 23 = .ok (.if_icmp .gt 24, 3) := by decide +kernel
theorem dX0_countKeeping_26 : decode cX0_countKeeping 26 = .ok (.aload_n 0, 1) := by decide +kernel
theorem dX0_countKeeping_27 : decode cX0_countKeeping 27 = .ok (.aload_n 1, 1) := by decide +kernel
theorem dX0_countKeeping_28 : decode cX0_countKeeping 28 = .ok (.iload 4, 2) := by decide +kernel
theorem dX0_countKeeping_30 : decode cX0_countKeeping 30 = .ok (.invokevirtual 25, 3) := by decide +kernel
theorem dX0_countKeeping_33 : decode cX0_countKeeping 33 = .ok (.bipush 9, 2) := by decide +kernel
theorem dX0_countKeeping_35 : decode cX0_countKeeping 35 = .ok (.if_icmp .ge 6, 3) := by decide +kernel
theorem dX0_countKeeping_38 : decode cX0_countKeeping 38 = .ok (.iinc 2 1, 3) := by decide +kernel
theorem dX0_countKeeping_41 : decode cX0_countKeeping 41 = .ok (.iinc 4 1, 3) := by decide +kernel
theorem dX0_countKeeping_44 : decode cX0_countKeeping 44 = .ok (.goto (-24), 3) := by decide +kernel
theorem dX0_countKeeping_47 : decode cX0_countKeeping 47 = .ok (.iload_n 2, 1) := by decide +kernel
theorem dX0_countKeeping_48 : decode cX0_countKeeping 48 = .ok (.ireturn, 1) := by decide +kernel
theorem dX0_longestOwn_0 : decode cX0_longestOwn 0 = .ok (.iconst 0, 1) := by decide +kernel
theorem dX0_longestOwn_1 : decode cX0_longestOwn 1 = .ok (.istore_n 3, 1) := by decide +kernel
theorem dX0_longestOwn_2 : decode cX0_longestOwn 2 = .ok (.aload_n 0, 1) := by decide +kernel
theorem dX0_longestOwn_3 : decode cX0_longestOwn 3 = .ok (.getfield 9, 3) := by decide +kernel
theorem dX0_longestOwn_6 : decode cX0_longestOwn 6 = .ok (.iconst 1, 1) := by decide +kernel
theorem dX0_longestOwn_7 : decode cX0_longestOwn 7 = .ok (.aload_n 0, 1) := by decide +kernel
theorem dX0_longestOwn_8 : decode cX0_longestOwn 8 = .ok (.getfield 9, 3) := by decide +kernel
theorem dX0_longestOwn_11 : decode cX0_longestOwn 11 = .ok (.getfield 15, 3) := by decide +kernel
theorem dX0_longestOwn_14 : decode cX0_longestOwn 14 = .ok (.isub, 1) := by decide +kernel
theorem dX0_longestOwn_15 : decode cX0_longestOwn 15 = .ok (.invokevirtual 21, 3) := by decide +kernel
theorem dX0_longestOwn_18 : decode cX0_longestOwn 18 = .ok (.istore 4, 2) := by decide +kernel
theorem dX0_longestOwn_20 : decode cX0_longestOwn 20 = .ok (.iconst 0, 1) := by decide +kernel
theorem dX0_longestOwn_21 : decode cX0_longestOwn 21 = .ok (.istore 5, 2) := by decide +kernel
theorem dX0_longestOwn_23 : decode cX0_longestOwn 23 = .ok (.iload 5, 2) := by decide +kernel
theorem dX0_longestOwn_25 : decode cX0_longestOwn 25 = .ok (.iload 4, 2) := by decide +kernel
theorem dX0_longestOwn_27 : decode cX0_longestOwn 27 = .ok (.if_icmp .gt 29, 3) := by decide +kernel
theorem dX0_longestOwn_30 : decode cX0_longestOwn 30 = .ok (.iload_n 3, 1) := by decide +kernel
theorem dX0_longestOwn_31 : decode cX0_longestOwn 31 = .ok (.aload_n 0, 1) := by decide +kernel
theorem dX0_longestOwn_32 : decode cX0_longestOwn 32 = .ok (.aload_n 1, 1) := by decide +kernel
theorem dX0_longestOwn_33 : decode cX0_longestOwn 33 = .ok (.aload_n 0, 1) := by decide +kernel
theorem dX0_longestOwn_34 : decode cX0_longestOwn 34 = .ok (.getfield 9, 3) := by decide +kernel
theorem dX0_longestOwn_37 : decode cX0_longestOwn 37 = .ok (.getfield 15, 3) := by decide +kernel
theorem dX0_longestOwn_40 : decode cX0_longestOwn 40 = .ok (.iload_n 2, 1) := by decide +kernel
theorem dX0_longestOwn_41 : decode cX0_longestOwn 41 = .ok (.iload 5, 2) := by decide +kernel
theorem dX0_longestOwn_43 : decode cX0_longestOwn 43 = .ok (.invokevirtual 36, 3) := by decide +kernel
theorem dX0_longestOwn_46 : decode cX0_longestOwn 46 = .ok (.invokestatic 40, 3) := by decide +kernel
theorem dX0_longestOwn_49 : decode cX0_longestOwn 49 = .ok (.istore_n 3, 1) := by decide +kernel
theorem dX0_longestOwn_50 : decode cX0_longestOwn 50 = .ok (.iinc 5 1, 3) := by decide +kernel
theorem dX0_longestOwn_53 : decode cX0_longestOwn 53 = .ok (.goto (-30), 3) := by decide +kernel
theorem dX0_longestOwn_56 : decode cX0_longestOwn 56 = .ok (.iload_n 3, 1) := by decide +kernel
theorem dX0_longestOwn_57 : decode cX0_longestOwn 57 = .ok (.ireturn, 1) := by decide +kernel
theorem dX0_leastOther_0 : decode cX0_leastOther 0 = .ok (.bipush 9, 2) := by decide +kernel
theorem dX0_leastOther_2 : decode cX0_leastOther 2 = .ok (.istore_n 3, 1) := by decide +kernel
theorem dX0_leastOther_3 : decode cX0_leastOther 3 = .ok (.aload_n 0, 1) := by decide +kernel
theorem dX0_leastOther_4 : decode cX0_leastOther 4 = .ok (.getfield 9, 3) := by decide +kernel
theorem dX0_leastOther_7 : decode cX0_leastOther 7 = .ok (.iconst 1, 1) := by decide +kernel
theorem dX0_leastOther_8 : decode cX0_leastOther 8 = .ok (.aload_n 0, 1) := by decide +kernel
theorem dX0_leastOther_9 : decode cX0_leastOther 9 = .ok (.getfield 9, 3) := by decide +kernel
theorem dX0_leastOther_12 : decode cX0_leastOther 12 = .ok (.getfield 15, 3) := by decide +kernel
theorem dX0_leastOther_15 : decode cX0_leastOther 15 = .ok (.isub, 1) := by decide +kernel
theorem dX0_leastOther_16 : decode cX0_leastOther 16 = .ok (.invokevirtual 21, 3) := by decide +kernel
theorem dX0_leastOther_19 : decode cX0_leastOther 19 = .ok (.istore 4, 2) := by decide +kernel
theorem dX0_leastOther_21 : decode cX0_leastOther 21 = .ok (.iconst 0, 1) := by decide +kernel
theorem dX0_leastOther_22 : decode cX0_leastOther 22 = .ok (.istore 5, 2) := by decide +kernel
theorem dX0_leastOther_24 : decode cX0_leastOther 24 = .ok (.iload 5, 2) := by decide +kernel
theorem dX0_leastOther_26 : decode cX0_leastOther 26 = .ok (.iload 4, 2) := by decide +kernel
theorem dX0_leastOther_28 : decode cX0_leastOther 28 = .ok (.if_icmp .gt 31, 3) := by decide +kernel
theorem dX0_leastOther_31 : decode cX0_leastOther 31 = .ok (.iload_n 3, 1) := by decide +kernel
theorem dX0_leastOther_32 : decode cX0_leastOther 32 = .ok (.aload_n 0, 1) := by decide +kernel
theorem dX0_leastOther_33 : decode cX0_leastOther 33 = .ok (.aload_n 1, 1) := by decide +kernel
theorem dX0_leastOther_34 : decode cX0_leastOther 34 = .ok (.iconst 1, 1) := by decide +kernel
theorem dX0_leastOther_35 : decode cX0_leastOther 35 = .ok (.aload_n 0, 1) := by decide +kernel
theorem dX0_leastOther_36 : decode cX0_leastOther 36 = .ok (.getfield 9, 3) := by decide +kernel
theorem dX0_leastOther_39 : decode cX0_leastOther 39 = .ok (.getfield 15, 3) := by decide +kernel
theorem dX0_leastOther_42 : decode cX0_leastOther 42 = .ok (.isub, 1) := by decide +kernel
theorem dX0_leastOther_43 : decode cX0_leastOther 43 = .ok (.iload_n 2, 1) := by decide +kernel
theorem dX0_leastOther_44 : decode cX0_leastOther 44 = .ok (.iload 5, 2) := by decide +kernel
theorem dX0_leastOther_46 : decode cX0_leastOther 46 = .ok (.invokevirtual 36, 3) := by decide +kernel
theorem dX0_leastOther_49 : decode cX0_leastOther 49 = .ok (.invokestatic 46, 3) := by decide +kernel
theorem dX0_leastOther_52 : decode cX0_leastOther 52 = .ok (.istore_n 3, 1) := by decide +kernel
theorem dX0_leastOther_53 : decode cX0_leastOther 53 = .ok (.iinc 5 1, 3) := by decide +kernel
theorem dX0_leastOther_56 : decode cX0_leastOther 56 = .ok (.goto (-32), 3) := by decide +kernel
theorem dX0_leastOther_59 : decode cX0_leastOther 59 = .ok (.iload_n 3, 1) := by decide +kernel
theorem dX0_leastOther_60 : decode cX0_leastOther 60 = .ok (.ireturn, 1) := by decide +kernel
theorem dX0_timeBehind_0 : decode cX0_timeBehind 0 = .ok (.aload_n 0, 1) := by decide +kernel
theorem dX0_timeBehind_1 : decode cX0_timeBehind 1 = .ok (.getfield 9, 3) := by decide +kernel
theorem dX0_timeBehind_4 : decode cX0_timeBehind 4 = .ok (.iload_n 3, 1) := by decide +kernel
theorem dX0_timeBehind_5 : decode cX0_timeBehind 5 = .ok (.iload 4, 2) := by decide +kernel
theorem dX0_timeBehind_7 : decode cX0_timeBehind 7 = .ok (.invokevirtual 49, 3) := by decide +kernel
theorem dX0_timeBehind_10 : decode cX0_timeBehind 10 = .ok (.istore 5, 2) := by decide +kernel
theorem dX0_timeBehind_12 : decode cX0_timeBehind 12 = .ok (.iload 5, 2) := by decide +kernel
theorem dX0_timeBehind_14 : decode cX0_timeBehind 14 = .ok (.aload_n 0, 1) := by decide +kernel
theorem dX0_timeBehind_15 : decode cX0_timeBehind 15 = .ok (.getfield 9, 3) := by decide +kernel
theorem dX0_timeBehind_18 : decode cX0_timeBehind 18 = .ok (.getfield 15, 3) := by decide +kernel
theorem dX0_timeBehind_21 : decode cX0_timeBehind 21 = .ok (.if_icmp .ne 7, 3) := by decide +kernel
theorem dX0_timeBehind_24 : decode cX0_timeBehind 24 = .ok (.iload_n 3, 1) := by decide +kernel
theorem dX0_timeBehind_25 : decode cX0_timeBehind 25 = .ok (.goto 5, 3) := by decide +kernel
theorem dX0_timeBehind_28 : decode cX0_timeBehind 28 = .ok (.iload 4, 2) := by decide +kernel
theorem dX0_timeBehind_30 : decode cX0_timeBehind 30 = .ok (.istore 6, 2) := by decide +kernel
theorem dX0_timeBehind_32 : decode cX0_timeBehind 32 = .ok (.aload_n 0, 1) := by decide +kernel
theorem dX0_timeBehind_33 : decode cX0_timeBehind 33 = .ok (.getfield 9, 3) := by decide +kernel
theorem dX0_timeBehind_36 : decode cX0_timeBehind 36 = .ok (.iload 6, 2) := by decide +kernel
theorem dX0_timeBehind_38 : decode cX0_timeBehind 38 = .ok (.invokevirtual 52, 3) := by decide +kernel
theorem dX0_timeBehind_41 : decode cX0_timeBehind 41 = .ok (.istore 7, 2) := by decide +kernel
theorem dX0_timeBehind_43 : decode cX0_timeBehind 43 = .ok (.iload 5, 2) := by decide +kernel
theorem dX0_timeBehind_45 : decode cX0_timeBehind 45 = .ok (.iload_n 2, 1) := by decide +kernel
theorem dX0_timeBehind_46 : decode cX0_timeBehind 46 = .ok (.if_icmp .ne 7, 3) := by decide +kernel
theorem dX0_timeBehind_49 : decode cX0_timeBehind 49 = .ok (.iconst 1, 1) := by decide +kernel
theorem dX0_timeBehind_50 : decode cX0_timeBehind 50 = .ok (.goto 4, 3) := by decide +kernel
theorem dX0_timeBehind_53 : decode cX0_timeBehind 53 = .ok (.iconst 0, 1) := by decide +kernel
theorem dX0_timeBehind_54 : decode cX0_timeBehind 54 = .ok (.istore 8, 2) := by decide +kernel
theorem dX0_timeBehind_56 : decode cX0_timeBehind 56 = .ok (.aload_n 0, 1) := by decide +kernel
theorem dX0_timeBehind_57 : decode cX0_timeBehind 57 = .ok (.getfield 9, 3) := by decide +kernel
theorem dX0_timeBehind_60 : decode cX0_timeBehind 60 = .ok (.iload_n 2, 1) := by decide +kernel
theorem dX0_timeBehind_61 : decode cX0_timeBehind 61 = .ok (.invokevirtual 55, 3) := by decide +kernel
theorem dX0_timeBehind_64 : decode cX0_timeBehind 64 = .ok (.iload 8, 2) := by decide +kernel
theorem dX0_timeBehind_66 : decode cX0_timeBehind 66 = .ok (.ifCond .eq 7, 3) := by decide +kernel
theorem dX0_timeBehind_69 : decode cX0_timeBehind 69 = .ok (.iconst (-1), 1) := by decide +kernel
theorem dX0_timeBehind_70 : decode cX0_timeBehind 70 = .ok (.goto 4, 3) := by decide +kernel
theorem dX0_timeBehind_73 : decode cX0_timeBehind 73 = .ok (.iconst 1, 1) := by decide +kernel
theorem dX0_timeBehind_74 : decode cX0_timeBehind 74 = .ok (.iadd, 1) := by decide +kernel
theorem dX0_timeBehind_75 : decode cX0_timeBehind 75 = .ok (.istore 9, 2) := by decide +kernel
theorem dX0_timeBehind_77 : decode cX0_timeBehind 77 = .ok (.aload_n 0, 1) := by decide +kernel
theorem dX0_timeBehind_78 : decode cX0_timeBehind 78 = .ok (.getfield 9, 3) := by decide +kernel
theorem dX0_timeBehind_81 : decode cX0_timeBehind 81 = .ok (.iload_n 2, 1) := by decide +kernel
theorem dX0_timeBehind_82 : decode cX0_timeBehind 82 = .ok (.invokevirtual 21, 3) := by decide +kernel
theorem dX0_timeBehind_85 : decode cX0_timeBehind 85 = .ok (.iload 8, 2) := by decide +kernel
theorem dX0_timeBehind_87 : decode cX0_timeBehind 87 = .ok (.ifCond .eq 9, 3) := by decide +kernel
theorem dX0_timeBehind_90 : decode cX0_timeBehind 90 = .ok (.iload 6, 2) := by decide +kernel
theorem dX0_timeBehind_92 : decode cX0_timeBehind 92 = .ok (.ineg, 1) := by decide +kernel
theorem dX0_timeBehind_93 : decode cX0_timeBehind 93 = .ok (.goto 5, 3) := by decide +kernel
theorem dX0_timeBehind_96 : decode cX0_timeBehind 96 = .ok (.iload 7, 2) := by decide +kernel
theorem dX0_timeBehind_98 : decode cX0_timeBehind 98 = .ok (.iadd, 1) := by decide +kernel
theorem dX0_timeBehind_99 : decode cX0_timeBehind 99 = .ok (.istore 10, 2) := by decide +kernel
theorem dX0_timeBehind_101 : decode cX0_timeBehind 101 = .ok (.aload_n 0, 1) := by decide +kernel
theorem dX0_timeBehind_102 : decode cX0_timeBehind 102 = .ok (.getfield 9, 3) := by decide +kernel
theorem dX0_timeBehind_105 : decode cX0_timeBehind 105 = .ok (.iconst 1, 1) := by decide +kernel
theorem dX0_timeBehind_106 : decode cX0_timeBehind 106 = .ok (.iload_n 2, 1) := by decide +kernel
theorem dX0_timeBehind_107 : decode cX0_timeBehind 107 = .ok (.isub, 1) := by decide +kernel
theorem dX0_timeBehind_108 : decode cX0_timeBehind 108 = .ok (.invokevirtual 21, 3) := by decide +kernel
theorem dX0_timeBehind_111 : decode cX0_timeBehind 111 = .ok (.iload 8, 2) := by decide +kernel
theorem dX0_timeBehind_113 : decode cX0_timeBehind 113 = .ok (.ifCond .eq 8, 3) := by decide +kernel
theorem dX0_timeBehind_116 : decode cX0_timeBehind 116 = .ok (.iload 7, 2) := by decide +kernel
theorem dX0_timeBehind_118 : decode cX0_timeBehind 118 = .ok (.goto 6, 3) := by decide +kernel
theorem dX0_timeBehind_121 : decode cX0_timeBehind 121 = .ok (.iload 6, 2) := by decide +kernel
theorem dX0_timeBehind_123 : decode cX0_timeBehind 123 = .ok (.ineg, 1) := by decide +kernel
theorem dX0_timeBehind_124 : decode cX0_timeBehind 124 = .ok (.iadd, 1) := by decide +kernel
theorem dX0_timeBehind_125 : decode cX0_timeBehind 125 = .ok (.istore 11, 2) := by decide +kernel
theorem dX0_timeBehind_127 : decode cX0_timeBehind 127 = .ok (.aload_n 1, 1) := by decide +kernel
theorem dX0_timeBehind_128 : decode cX0_timeBehind 128 = .ok (.iload 9, 2) := by decide +kernel
theorem dX0_timeBehind_130 : decode cX0_timeBehind 130 = .ok (.iload 10, 2) := by decide +kernel
theorem dX0_timeBehind_132 : decode cX0_timeBehind 132 = .ok (.iload 11, 2) := by decide +kernel
theorem dX0_timeBehind_134 : decode cX0_timeBehind 134 = .ok (.iload_n 2, 1) := by decide +kernel
theorem dX0_timeBehind_135 : decode cX0_timeBehind 135 = .ok (.aload_n 0, 1) := by decide +kernel
theorem dX0_timeBehind_136 : decode cX0_timeBehind 136 = .ok (.getfield 9, 3) := by decide +kernel
theorem dX0_timeBehind_139 : decode cX0_timeBehind 139 = .ok (.getfield 15, 3) := by decide +kernel
theorem dX0_timeBehind_142 : decode cX0_timeBehind 142 = .ok (.if_icmp .eq 7, 3) := by decide +kernel
theorem dX0_timeBehind_145 : decode cX0_timeBehind 145 = .ok (.iconst 1, 1) := by decide +kernel
theorem dX0_timeBehind_146 : decode cX0_timeBehind 146 = .ok (.goto 4, 3) := by decide +kernel
theorem dX0_timeBehind_149 : decode cX0_timeBehind 149 = .ok (.iconst 0, 1) := by decide +kernel
theorem dX0_timeBehind_150 : decode cX0_timeBehind 150 = .ok (.invokevirtual 58, 3) := by decide +kernel
theorem dX0_timeBehind_153 : decode cX0_timeBehind 153 = .ok (.istore 12, 2) := by decide +kernel
theorem dX0_timeBehind_155 : decode cX0_timeBehind 155 = .ok (.iload 12, 2) := by decide +kernel
theorem dX0_timeBehind_157 : decode cX0_timeBehind 157 = .ok (.bipush 8, 2) := by decide +kernel
theorem dX0_timeBehind_159 : decode cX0_timeBehind 159 = .ok (.if_icmp .ge 8, 3) := by decide +kernel
theorem dX0_timeBehind_162 : decode cX0_timeBehind 162 = .ok (.iload 12, 2) := by decide +kernel
theorem dX0_timeBehind_164 : decode cX0_timeBehind 164 = .ok (.goto 5, 3) := by decide +kernel
theorem dX0_timeBehind_167 : decode cX0_timeBehind 167 = .ok (.bipush 9, 2) := by decide +kernel
theorem dX0_timeBehind_169 : decode cX0_timeBehind 169 = .ok (.ireturn, 1) := by decide +kernel
theorem dX1_init_0 : decode cX1_init 0 = .ok (.aload_n 0, 1) := by decide +kernel
theorem dX1_init_1 : decode cX1_init 1 = .ok (.invokespecial 3, 3) := by decide +kernel
theorem dX1_init_4 : decode cX1_init 4 = .ok (.aload_n 0, 1) := by decide +kernel
theorem dX1_init_5 : decode cX1_init 5 = .ok (.aload_n 1, 1) := by decide +kernel
theorem dX1_init_6 : decode cX1_init 6 = .ok (.putfield 9, 3) := by decide +kernel
theorem dX1_init_9 : decode cX1_init 9 = .ok (.return_, 1) := by decide +kernel
theorem dX1_seesWinOf_0 : decode cX1_seesWinOf 0 = .ok (.aload_n 0, 1) := by decide +kernel
theorem dX1_seesWinOf_1 : decode cX1_seesWinOf 1 = .ok (.getfield 9, 3) := by decide +kernel
theorem dX1_seesWinOf_4 : decode cX1_seesWinOf 4 = .ok (.iload_n 1, 1) := by decide +kernel
theorem dX1_seesWinOf_5 : decode cX1_seesWinOf 5 = .ok (.invokevirtual 15, 3) := by decide +kernel
theorem dX1_seesWinOf_8 : decode cX1_seesWinOf 8 = .ok (.istore_n 3, 1) := by decide +kernel
theorem dX1_seesWinOf_9 : decode cX1_seesWinOf 9 = .ok (.aload_n 0, 1) := by decide +kernel
theorem dX1_seesWinOf_10 : decode cX1_seesWinOf 10 = .ok (.getfield 9, 3) := by decide +kernel
theorem dX1_seesWinOf_13 : decode cX1_seesWinOf 13 = .ok (.iconst 1, 1) := by decide +kernel
theorem dX1_seesWinOf_14 : decode cX1_seesWinOf 14 = .ok (.iload_n 1, 1) := by decide +kernel
theorem dX1_seesWinOf_15 : decode cX1_seesWinOf 15 = .ok (.isub, 1) := by decide +kernel
theorem dX1_seesWinOf_16 : decode cX1_seesWinOf 16 = .ok (.invokevirtual 15, 3) := by decide +kernel
theorem dX1_seesWinOf_19 : decode cX1_seesWinOf 19 = .ok (.istore 4, 2) := by decide +kernel
theorem dX1_seesWinOf_21 : decode cX1_seesWinOf 21 = .ok (.aload_n 0, 1) := by decide +kernel
theorem dX1_seesWinOf_22 : decode cX1_seesWinOf 22 = .ok (.iload_n 2, 1) := by decide +kernel
theorem dX1_seesWinOf_23 : decode cX1_seesWinOf 23 = .ok (.iconst 3, 1) := by decide +kernel
theorem dX1_seesWinOf_24 : decode cX1_seesWinOf 24 = .ok (.invokestatic 21, 3) := by decide +kernel
theorem dX1_seesWinOf_27 : decode cX1_seesWinOf 27 = .ok (.aload_n 0, 1) := by decide +kernel
theorem dX1_seesWinOf_28 : decode cX1_seesWinOf 28 = .ok (.getfield 9, 3) := by decide +kernel
theorem dX1_seesWinOf_31 : decode cX1_seesWinOf 31 = .ok (.iload_n 1, 1) := by decide +kernel
theorem dX1_seesWinOf_32 : decode cX1_seesWinOf 32 = .ok (.invokevirtual 27, 3) := by decide +kernel
theorem dX1_seesWinOf_35 : decode cX1_seesWinOf 35 = .ok (.iload_n 3, 1) := by decide +kernel
theorem dX1_seesWinOf_36 : decode cX1_seesWinOf 36 = .ok (.iload 4, 2) := by decide +kernel
theorem dX1_seesWinOf_38 : decode cX1_seesWinOf 38 = .ok (.iload_n 1, 1) := by decide +kernel
theorem dX1_seesWinOf_39 : decode cX1_seesWinOf 39 = .ok (.aload_n 0, 1) := by decide +kernel
theorem dX1_seesWinOf_40 : decode cX1_seesWinOf 40 = .ok (.getfield 9, 3) := by decide +kernel
theorem dX1_seesWinOf_43 : decode cX1_seesWinOf 43 = .ok (.getfield 30, 3) := by decide +kernel
theorem dX1_seesWinOf_46 : decode cX1_seesWinOf 46 = .ok (.if_icmp .ne 7, 3) := by decide +kernel
theorem dX1_seesWinOf_49 : decode cX1_seesWinOf 49 = .ok (.iconst 1, 1) := by decide +kernel
theorem dX1_seesWinOf_50 : decode cX1_seesWinOf 50 = .ok (.goto 4, 3) := by decide +kernel
theorem dX1_seesWinOf_53 : decode cX1_seesWinOf 53 = .ok (.iconst 0, 1) := by decide +kernel
theorem dX1_seesWinOf_54 : decode cX1_seesWinOf 54 = .ok (.invokevirtual 34, 3) := by decide +kernel
theorem dX1_seesWinOf_57 : decode cX1_seesWinOf 57 = .ok (.ireturn, 1) := by decide +kernel
theorem dX1_seesWin_0 : decode cX1_seesWin 0 = .ok (.iload_n 2, 1) := by decide +kernel
theorem dX1_seesWin_1 : decode cX1_seesWin 1 = .ok (.ifCond .gt 5, 3) := by decide +kernel
theorem dX1_seesWin_4 : decode cX1_seesWin 4 = .ok (.iconst 1, 1) := by decide +kernel
theorem dX1_seesWin_5 : decode cX1_seesWin 5 = .ok (.ireturn, 1) := by decide +kernel
theorem dX1_seesWin_6 : decode cX1_seesWin 6 = .ok (.iload_n 1, 1) := by decide +kernel
theorem dX1_seesWin_7 : decode cX1_seesWin 7 = .ok (.ifCond .le 21, 3) := by decide +kernel
theorem dX1_seesWin_10 : decode cX1_seesWin 10 = .ok (.iload_n 1, 1) := by decide +kernel
theorem dX1_seesWin_11 : decode cX1_seesWin 11 = .ok (.iload_n 2, 1) := by decide +kernel
theorem dX1_seesWin_12 : decode cX1_seesWin 12 = .ok (.if_icmp .lt 16, 3) := by decide +kernel
theorem dX1_seesWin_15 : decode cX1_seesWin 15 = .ok (.iload_n 2, 1) := by decide +kernel
theorem dX1_seesWin_16 : decode cX1_seesWin 16 = .ok (.iconst 2, 1) := by decide +kernel
theorem dX1_seesWin_17 : decode cX1_seesWin 17 = .ok (.aload_n 0, 1) := by decide +kernel
theorem dX1_seesWin_18 : decode cX1_seesWin 18 = .ok (.getfield 9, 3) := by decide +kernel
theorem dX1_seesWin_21 : decode cX1_seesWin 21 = .ok (.getfield 38, 3) := by decide +kernel
theorem dX1_seesWin_24 : decode cX1_seesWin 24 = .ok (.imul, 1) := by decide +kernel
theorem dX1_seesWin_25 : decode cX1_seesWin 25 = .ok (.if_icmp .lt 5, 3) := by decide +kernel
theorem dX1_seesWin_28 : decode cX1_seesWin 28 = .ok (.iconst 0, 1) := by decide +kernel
theorem dX1_seesWin_29 : decode cX1_seesWin 29 = .ok (.ireturn, 1) := by decide +kernel
theorem dX1_seesWin_30 : decode cX1_seesWin 30 = .ok (.iload 5, 2) := by decide +kernel
theorem dX1_seesWin_32 : decode cX1_seesWin 32 = .ok (.ifCond .eq 15, 3) := by decide +kernel
theorem dX1_seesWin_35 : decode cX1_seesWin 35 = .ok (.aload_n 0, 1) := by decide +kernel
theorem dX1_seesWin_36 : decode cX1_seesWin 36 = .ok (.iload_n 1, 1) := by decide +kernel
theorem dX1_seesWin_37 : decode cX1_seesWin 37 = .ok (.iload_n 2, 1) := by decide +kernel
theorem dX1_seesWin_38 : decode cX1_seesWin 38 = .ok (.iload_n 3, 1) := by decide +kernel
theorem dX1_seesWin_39 : decode cX1_seesWin 39 = .ok (.iload 4, 2) := by decide +kernel
theorem dX1_seesWin_41 : decode cX1_seesWin 41 = .ok (.invokevirtual 41, 3) := by decide +kernel
theorem dX1_seesWin_44 : decode cX1_seesWin 44 = .ok (.goto 12, 3) := by decide +kernel
theorem dX1_seesWin_47 : decode cX1_seesWin 47 = .ok (.aload_n 0, 1) := by decide +kernel
theorem dX1_seesWin_48 : decode cX1_seesWin 48 = .ok (.iload_n 1, 1) := by decide +kernel
theorem dX1_seesWin_49 : decode cX1_seesWin 49 = .ok (.iload_n 2, 1) := by decide +kernel
theorem dX1_seesWin_50 : decode cX1_seesWin 50 = .ok (.iload_n 3, 1) := by decide +kernel
theorem dX1_seesWin_51 : decode cX1_seesWin 51 = .ok (.iload 4, 2) := by decide +kernel
theorem dX1_seesWin_53 : decode cX1_seesWin 53 = .ok (.invokevirtual 45, 3) := by decide +kernel
theorem dX1_seesWin_56 : decode cX1_seesWin 56 = .ok (.ireturn, 1) := by decide +kernel
theorem dX1_seesBid_0 : decode cX1_seesBid 0 = .ok (.iconst 0, 1) := by decide +kernel
theorem dX1_seesBid_1 : decode cX1_seesBid 1 = .ok (.istore 5, 2) := by decide +kernel
theorem dX1_seesBid_3 : decode cX1_seesBid 3 = .ok (.iload 5, 2) := by decide +kernel
theorem dX1_seesBid_5 : decode cX1_seesBid 5 = .ok (.iload_n 3, 1) := by decide +kernel
theorem dX1_seesBid_6 : decode cX1_seesBid 6 = .ok (.if_icmp .gt 25, 3) := by decide +kernel
theorem dX1_seesBid_9 : decode cX1_seesBid 9 = .ok (.aload_n 0, 1) := by decide +kernel
theorem dX1_seesBid_10 : decode cX1_seesBid 10 = .ok (.iload_n 1, 1) := by decide +kernel
theorem dX1_seesBid_11 : decode cX1_seesBid 11 = .ok (.iload_n 2, 1) := by decide +kernel
theorem dX1_seesBid_12 : decode cX1_seesBid 12 = .ok (.iload_n 3, 1) := by decide +kernel
theorem dX1_seesBid_13 : decode cX1_seesBid 13 = .ok (.iload 4, 2) := by decide +kernel
theorem dX1_seesBid_15 : decode cX1_seesBid 15 = .ok (.iload 5, 2) := by decide +kernel
theorem dX1_seesBid_17 : decode cX1_seesBid 17 = .ok (.invokevirtual 48, 3) := by decide +kernel
theorem dX1_seesBid_20 : decode cX1_seesBid 20 = .ok (.ifCond .eq 5, 3) := by decide +kernel
theorem dX1_seesBid_23 : decode cX1_seesBid 23 = .ok (.iconst 1, 1) := by decide +kernel
theorem dX1_seesBid_24 : decode cX1_seesBid 24 = .ok (.ireturn, 1) := by decide +kernel
theorem dX1_seesBid_25 : decode cX1_seesBid 25 = .ok (.iinc 5 1, 3) := by decide +kernel
theorem dX1_seesBid_28 : decode cX1_seesBid 28 = .ok (.goto (-25), 3) := by decide +kernel
theorem dX1_seesBid_31 : decode cX1_seesBid 31 = .ok (.iconst 0, 1) := by decide +kernel
theorem dX1_seesBid_32 : decode cX1_seesBid 32 = .ok (.ireturn, 1) := by decide +kernel
theorem dX1_standsAllAnswers_0 : decode cX1_standsAllAnswers 0 = .ok (.aload_n 0, 1) := by decide +kernel
theorem dX1_standsAllAnswers_1 : decode cX1_standsAllAnswers 1 = .ok (.iload 5, 2) := by decide +kernel
theorem dX1_standsAllAnswers_3 : decode cX1_standsAllAnswers 3 = .ok (.invokevirtual 52, 3) := by decide +kernel
theorem dX1_standsAllAnswers_6 : decode cX1_standsAllAnswers 6 = .ok (.ifCond .eq 20, 3) := by decide +kernel
theorem dX1_standsAllAnswers_9 : decode cX1_standsAllAnswers 9 = .ok (.aload_n 0, 1) := by decide +kernel
theorem dX1_standsAllAnswers_10 : decode cX1_standsAllAnswers 10 = .ok (.iload_n 1, 1) := by decide +kernel
theorem dX1_standsAllAnswers_11 : decode cX1_standsAllAnswers 11 = .ok (.iload_n 2, 1) := by decide +kernel
theorem dX1_standsAllAnswers_12 : decode cX1_standsAllAnswers 12 = .ok (.iload_n 3, 1) := by decide +kernel
theorem dX1_standsAllAnswers_13 : decode cX1_standsAllAnswers 13 = .ok (.iload 4, 2) := by decide +kernel
theorem dX1_standsAllAnswers_15 : decode cX1_standsAllAnswers 15 = .ok (.iload 5, 2) := by decide +kernel
theorem dX1_standsAllAnswers_17 : decode cX1_standsAllAnswers 17 = .ok (.iconst 0, 1) := by decide +kernel
theorem dX1_standsAllAnswers_18 : decode cX1_standsAllAnswers 18 = .ok (.invokevirtual 56, 3) := by decide +kernel
theorem dX1_standsAllAnswers_21 : decode cX1_standsAllAnswers 21 = .ok (.ifCond .ne 5, 3) := by decide +kernel
theorem dX1_standsAllAnswers_24 : decode cX1_standsAllAnswers 24 = .ok (.iconst 0, 1) := by decide +kernel
theorem dX1_standsAllAnswers_25 : decode cX1_standsAllAnswers 25 = .ok (.ireturn, 1) := by decide +kernel
theorem dX1_standsAllAnswers_26 : decode cX1_standsAllAnswers 26 = .ok (.aload_n 0, 1) := by decide +kernel
theorem dX1_standsAllAnswers_27 : decode cX1_standsAllAnswers 27 = .ok (.iload 5, 2) := by decide +kernel
theorem dX1_standsAllAnswers_29 : decode cX1_standsAllAnswers 29 = .ok (.invokevirtual 60, 3) := by decide +kernel
theorem dX1_standsAllAnswers_32 : decode cX1_standsAllAnswers 32 = .ok (.istore 6, 2) := by decide +kernel
theorem dX1_standsAllAnswers_34 : decode cX1_standsAllAnswers 34 = .ok (.iload 6, 2) := by decide +kernel
theorem dX1_standsAllAnswers_36 : decode cX1_standsAllAnswers 36 = .ok (.iload 4, 2) := by decide +kernel
theorem dX1_standsAllAnswers_38 : decode cX1_standsAllAnswers 38 = .ok (.if_icmp .gt 26, 3) := by decide +kernel
theorem dX1_standsAllAnswers_41 : decode cX1_standsAllAnswers 41 = .ok (.aload_n 0, 1) := by decide +kernel
theorem dX1_standsAllAnswers_42 : decode cX1_standsAllAnswers 42 = .ok (.iload_n 1, 1) := by decide +kernel
theorem dX1_standsAllAnswers_43 : decode cX1_standsAllAnswers 43 = .ok (.iload_n 2, 1) := by decide +kernel
theorem dX1_standsAllAnswers_44 : decode cX1_standsAllAnswers 44 = .ok (.iload_n 3, 1) := by decide +kernel
theorem dX1_standsAllAnswers_45 : decode cX1_standsAllAnswers 45 = .ok (.iload 4, 2) := by decide +kernel
theorem dX1_standsAllAnswers_47 : decode cX1_standsAllAnswers 47 = .ok (.iload 6, 2) := by decide +kernel
theorem dX1_standsAllAnswers_49 : decode cX1_standsAllAnswers 49 = .ok (.iconst 0, 1) := by decide +kernel
theorem dX1_standsAllAnswers_50 : decode cX1_standsAllAnswers 50 = .ok (.invokevirtual 63, 3) := by decide +kernel
theorem dX1_standsAllAnswers_53 : decode cX1_standsAllAnswers 53 = .ok (.ifCond .ne 5, 3) := by decide +kernel
theorem dX1_standsAllAnswers_56 : decode cX1_standsAllAnswers 56 = .ok (.iconst 0, 1) := by decide +kernel
theorem dX1_standsAllAnswers_57 : decode cX1_standsAllAnswers 57 = .ok (.ireturn, 1) := by decide +kernel
theorem dX1_standsAllAnswers_58 : decode cX1_standsAllAnswers 58 = .ok (.iinc 6 1, 3) := by decide +kernel
theorem dX1_standsAllAnswers_61 : decode cX1_standsAllAnswers 61 = .ok (.goto (-27), 3) := by decide +kernel
theorem dX1_standsAllAnswers_64 : decode cX1_standsAllAnswers 64 = .ok (.iconst 1, 1) := by decide +kernel
theorem dX1_standsAllAnswers_65 : decode cX1_standsAllAnswers 65 = .ok (.ireturn, 1) := by decide +kernel
theorem dX1_seesAnswers_0 : decode cX1_seesAnswers 0 = .ok (.iconst 0, 1) := by decide +kernel
theorem dX1_seesAnswers_1 : decode cX1_seesAnswers 1 = .ok (.istore 5, 2) := by decide +kernel
theorem dX1_seesAnswers_3 : decode cX1_seesAnswers 3 = .ok (.iload 5, 2) := by decide +kernel
theorem dX1_seesAnswers_5 : decode cX1_seesAnswers 5 = .ok (.iload 4, 2) := by decide +kernel
theorem dX1_seesAnswers_7 : decode cX1_seesAnswers 7 = .ok (.if_icmp .gt 25, 3) := by decide +kernel
theorem dX1_seesAnswers_10 : decode cX1_seesAnswers 10 = .ok (.aload_n 0, 1) := by decide +kernel
theorem dX1_seesAnswers_11 : decode cX1_seesAnswers 11 = .ok (.iload_n 1, 1) := by decide +kernel
theorem dX1_seesAnswers_12 : decode cX1_seesAnswers 12 = .ok (.iload_n 2, 1) := by decide +kernel
theorem dX1_seesAnswers_13 : decode cX1_seesAnswers 13 = .ok (.iload_n 3, 1) := by decide +kernel
theorem dX1_seesAnswers_14 : decode cX1_seesAnswers 14 = .ok (.iload 4, 2) := by decide +kernel
theorem dX1_seesAnswers_16 : decode cX1_seesAnswers 16 = .ok (.iload 5, 2) := by decide +kernel
theorem dX1_seesAnswers_18 : decode cX1_seesAnswers 18 = .ok (.invokevirtual 66, 3) := by decide +kernel
theorem dX1_seesAnswers_21 : decode cX1_seesAnswers 21 = .ok (.ifCond .ne 5, 3) := by decide +kernel
theorem dX1_seesAnswers_24 : decode cX1_seesAnswers 24 = .ok (.iconst 0, 1) := by decide +kernel
theorem dX1_seesAnswers_25 : decode cX1_seesAnswers 25 = .ok (.ireturn, 1) := by decide +kernel
theorem dX1_seesAnswers_26 : decode cX1_seesAnswers 26 = .ok (.iinc 5 1, 3) := by decide +kernel
theorem dX1_seesAnswers_29 : decode cX1_seesAnswers 29 = .ok (.goto (-26), 3) := by decide +kernel
theorem dX1_seesAnswers_32 : decode cX1_seesAnswers 32 = .ok (.iconst 1, 1) := by decide +kernel
theorem dX1_seesAnswers_33 : decode cX1_seesAnswers 33 = .ok (.ireturn, 1) := by decide +kernel
theorem dX1_hasAnswer_0 : decode cX1_hasAnswer 0 = .ok (.aload_n 0, 1) := by decide +kernel
theorem dX1_hasAnswer_1 : decode cX1_hasAnswer 1 = .ok (.iload 5, 2) := by decide +kernel
theorem dX1_hasAnswer_3 : decode cX1_hasAnswer 3 = .ok (.invokevirtual 52, 3) := by decide +kernel
theorem dX1_hasAnswer_6 : decode cX1_hasAnswer 6 = .ok (.ifCond .eq 20, 3) := by decide +kernel
theorem dX1_hasAnswer_9 : decode cX1_hasAnswer 9 = .ok (.aload_n 0, 1) := by decide +kernel
theorem dX1_hasAnswer_10 : decode cX1_hasAnswer 10 = .ok (.iload_n 1, 1) := by decide +kernel
theorem dX1_hasAnswer_11 : decode cX1_hasAnswer 11 = .ok (.iload_n 2, 1) := by decide +kernel
theorem dX1_hasAnswer_12 : decode cX1_hasAnswer 12 = .ok (.iload_n 3, 1) := by decide +kernel
theorem dX1_hasAnswer_13 : decode cX1_hasAnswer 13 = .ok (.iload 4, 2) := by decide +kernel
theorem dX1_hasAnswer_15 : decode cX1_hasAnswer 15 = .ok (.iload 5, 2) := by decide +kernel
theorem dX1_hasAnswer_17 : decode cX1_hasAnswer 17 = .ok (.iconst 1, 1) := by decide +kernel
theorem dX1_hasAnswer_18 : decode cX1_hasAnswer 18 = .ok (.invokevirtual 63, 3) := by decide +kernel
theorem dX1_hasAnswer_21 : decode cX1_hasAnswer 21 = .ok (.ifCond .eq 5, 3) := by decide +kernel
theorem dX1_hasAnswer_24 : decode cX1_hasAnswer 24 = .ok (.iconst 1, 1) := by decide +kernel
theorem dX1_hasAnswer_25 : decode cX1_hasAnswer 25 = .ok (.ireturn, 1) := by decide +kernel
theorem dX1_hasAnswer_26 : decode cX1_hasAnswer 26 = .ok (.aload_n 0, 1) := by decide +kernel
theorem dX1_hasAnswer_27 : decode cX1_hasAnswer 27 = .ok (.iload 5, 2) := by decide +kernel
theorem dX1_hasAnswer_29 : decode cX1_hasAnswer 29 = .ok (.invokevirtual 60, 3) := by decide +kernel
theorem dX1_hasAnswer_32 : decode cX1_hasAnswer 32 = .ok (.istore 6, 2) := by decide +kernel
theorem dX1_hasAnswer_34 : decode cX1_hasAnswer 34 = .ok (.iload 6, 2) := by decide +kernel
theorem dX1_hasAnswer_36 : decode cX1_hasAnswer 36 = .ok (.iload_n 3, 1) := by decide +kernel
theorem dX1_hasAnswer_37 : decode cX1_hasAnswer 37 = .ok (.if_icmp .gt 26, 3) := by decide +kernel
theorem dX1_hasAnswer_40 : decode cX1_hasAnswer 40 = .ok (.aload_n 0, 1) := by decide +kernel
theorem dX1_hasAnswer_41 : decode cX1_hasAnswer 41 = .ok (.iload_n 1, 1) := by decide +kernel
theorem dX1_hasAnswer_42 : decode cX1_hasAnswer 42 = .ok (.iload_n 2, 1) := by decide +kernel
theorem dX1_hasAnswer_43 : decode cX1_hasAnswer 43 = .ok (.iload_n 3, 1) := by decide +kernel
theorem dX1_hasAnswer_44 : decode cX1_hasAnswer 44 = .ok (.iload 4, 2) := by decide +kernel
theorem dX1_hasAnswer_46 : decode cX1_hasAnswer 46 = .ok (.iload 6, 2) := by decide +kernel
theorem dX1_hasAnswer_48 : decode cX1_hasAnswer 48 = .ok (.iconst 1, 1) := by decide +kernel
theorem dX1_hasAnswer_49 : decode cX1_hasAnswer 49 = .ok (.invokevirtual 56, 3) := by decide +kernel
theorem dX1_hasAnswer_52 : decode cX1_hasAnswer 52 = .ok (.ifCond .eq 5, 3) := by decide +kernel
theorem dX1_hasAnswer_55 : decode cX1_hasAnswer 55 = .ok (.iconst 1, 1) := by decide +kernel
theorem dX1_hasAnswer_56 : decode cX1_hasAnswer 56 = .ok (.ireturn, 1) := by decide +kernel
theorem dX1_hasAnswer_57 : decode cX1_hasAnswer 57 = .ok (.iinc 6 1, 3) := by decide +kernel
theorem dX1_hasAnswer_60 : decode cX1_hasAnswer 60 = .ok (.goto (-26), 3) := by decide +kernel
theorem dX1_hasAnswer_63 : decode cX1_hasAnswer 63 = .ok (.iconst 0, 1) := by decide +kernel
theorem dX1_hasAnswer_64 : decode cX1_hasAnswer 64 = .ok (.ireturn, 1) := by decide +kernel
theorem dX1_canTake_0 : decode cX1_canTake 0 = .ok (.iload_n 1, 1) := by decide +kernel
theorem dX1_canTake_1 : decode cX1_canTake 1 = .ok (.ifCond .gt 13, 3) := by decide +kernel
theorem dX1_canTake_4 : decode cX1_canTake 4 = .ok (.aload_n 0, 1) := by decide +kernel
theorem dX1_canTake_5 : decode cX1_canTake 5 = .ok (.getfield 9, 3) := by decide +kernel
theorem dX1_canTake_8 : decode cX1_canTake 8 = .ok (.getfield 69, 3) := by decide +kernel
theorem dX1_canTake_11 : decode cX1_canTake 11 = .ok (.ifCond .ne 7, 3) := by decide +kernel
theorem dX1_canTake_14 : decode cX1_canTake 14 = .ok (.iconst 1, 1) := by decide +kernel
theorem dX1_canTake_15 : decode cX1_canTake 15 = .ok (.goto 4, 3) := by decide +kernel
theorem dX1_canTake_18 : decode cX1_canTake 18 = .ok (.iconst 0, 1) := by decide +kernel
theorem dX1_canTake_19 : decode cX1_canTake 19 = .ok (.ireturn, 1) := by decide +kernel
theorem dX1_leastTaking_0 : decode cX1_leastTaking 0 = .ok (.aload_n 0, 1) := by decide +kernel
theorem dX1_leastTaking_1 : decode cX1_leastTaking 1 = .ok (.getfield 9, 3) := by decide +kernel
theorem dX1_leastTaking_4 : decode cX1_leastTaking 4 = .ok (.getfield 69, 3) := by decide +kernel
theorem dX1_leastTaking_7 : decode cX1_leastTaking 7 = .ok (.ifCond .ne 9, 3) := by decide +kernel
theorem dX1_leastTaking_10 : decode cX1_leastTaking 10 = .ok (.iload_n 1, 1) := by decide +kernel
theorem dX1_leastTaking_11 : decode cX1_leastTaking 11 = .ok (.iconst 1, 1) := by decide +kernel
theorem dX1_leastTaking_12 : decode cX1_leastTaking 12 = .ok (.iadd, 1) := by decide +kernel
theorem dX1_leastTaking_13 : decode cX1_leastTaking 13 = .ok (.goto 4, 3) := by decide +kernel
theorem dX1_leastTaking_16 : decode cX1_leastTaking 16 = .ok (.iload_n 1, 1) := by decide +kernel
theorem dX1_leastTaking_17 : decode cX1_leastTaking 17 = .ok (.ireturn, 1) := by decide +kernel
theorem dX1_seesTaken_0 : decode cX1_seesTaken 0 = .ok (.aload_n 0, 1) := by decide +kernel
theorem dX1_seesTaken_1 : decode cX1_seesTaken 1 = .ok (.iload_n 1, 1) := by decide +kernel
theorem dX1_seesTaken_2 : decode cX1_seesTaken 2 = .ok (.iconst 1, 1) := by decide +kernel
theorem dX1_seesTaken_3 : decode cX1_seesTaken 3 = .ok (.isub, 1) := by decide +kernel
theorem dX1_seesTaken_4 : decode cX1_seesTaken 4 = .ok (.iload_n 2, 1) := by decide +kernel
theorem dX1_seesTaken_5 : decode cX1_seesTaken 5 = .ok (.iconst 1, 1) := by decide +kernel
theorem dX1_seesTaken_6 : decode cX1_seesTaken 6 = .ok (.isub, 1) := by decide +kernel
theorem dX1_seesTaken_7 : decode cX1_seesTaken 7 = .ok (.iload_n 3, 1) := by decide +kernel
theorem dX1_seesTaken_8 : decode cX1_seesTaken 8 = .ok (.iload 5, 2) := by decide +kernel
theorem dX1_seesTaken_10 : decode cX1_seesTaken 10 = .ok (.isub, 1) := by decide +kernel
theorem dX1_seesTaken_11 : decode cX1_seesTaken 11 = .ok (.iload 4, 2) := by decide +kernel
theorem dX1_seesTaken_13 : decode cX1_seesTaken 13 = .ok (.aload_n 0, 1) := by decide +kernel
theorem dX1_seesTaken_14 : decode cX1_seesTaken 14 = .ok (.getfield 9, 3) := by decide +kernel
theorem dX1_seesTaken_17 : decode cX1_seesTaken 17 = .ok (.iload 5, 2) := by decide +kernel
theorem dX1_seesTaken_19 : decode cX1_seesTaken 19 = .ok (.invokevirtual 72, 3) := by decide +kernel
theorem dX1_seesTaken_22 : decode cX1_seesTaken 22 = .ok (.iadd, 1) := by decide +kernel
theorem dX1_seesTaken_23 : decode cX1_seesTaken 23 = .ok (.iload 6, 2) := by decide +kernel
theorem dX1_seesTaken_25 : decode cX1_seesTaken 25 = .ok (.invokevirtual 34, 3) := by decide +kernel
theorem dX1_seesTaken_28 : decode cX1_seesTaken 28 = .ok (.ireturn, 1) := by decide +kernel
theorem dX1_seesLost_0 : decode cX1_seesLost 0 = .ok (.aload_n 0, 1) := by decide +kernel
theorem dX1_seesLost_1 : decode cX1_seesLost 1 = .ok (.iload_n 1, 1) := by decide +kernel
theorem dX1_seesLost_2 : decode cX1_seesLost 2 = .ok (.iconst 1, 1) := by decide +kernel
theorem dX1_seesLost_3 : decode cX1_seesLost 3 = .ok (.isub, 1) := by decide +kernel
theorem dX1_seesLost_4 : decode cX1_seesLost 4 = .ok (.iload_n 2, 1) := by decide +kernel
theorem dX1_seesLost_5 : decode cX1_seesLost 5 = .ok (.iconst 1, 1) := by decide +kernel
theorem dX1_seesLost_6 : decode cX1_seesLost 6 = .ok (.iadd, 1) := by decide +kernel
theorem dX1_seesLost_7 : decode cX1_seesLost 7 = .ok (.iload_n 3, 1) := by decide +kernel
theorem dX1_seesLost_8 : decode cX1_seesLost 8 = .ok (.aload_n 0, 1) := by decide +kernel
theorem dX1_seesLost_9 : decode cX1_seesLost 9 = .ok (.getfield 9, 3) := by decide +kernel
theorem dX1_seesLost_12 : decode cX1_seesLost 12 = .ok (.iload 5, 2) := by decide +kernel
theorem dX1_seesLost_14 : decode cX1_seesLost 14 = .ok (.invokevirtual 72, 3) := by decide +kernel
theorem dX1_seesLost_17 : decode cX1_seesLost 17 = .ok (.iadd, 1) := by decide +kernel
theorem dX1_seesLost_18 : decode cX1_seesLost 18 = .ok (.iload 4, 2) := by decide +kernel
theorem dX1_seesLost_20 : decode cX1_seesLost 20 = .ok (.iload 5, 2) := by decide +kernel
theorem dX1_seesLost_22 : decode cX1_seesLost 22 = .ok (.isub, 1) := by decide +kernel
theorem dX1_seesLost_23 : decode cX1_seesLost 23 = .ok (.iload 6, 2) := by decide +kernel
theorem dX1_seesLost_25 : decode cX1_seesLost 25 = .ok (.invokevirtual 34, 3) := by decide +kernel
theorem dX1_seesLost_28 : decode cX1_seesLost 28 = .ok (.ireturn, 1) := by decide +kernel
theorem dX2_init_0 : decode cX2_init 0 = .ok (.aload_n 0, 1) := by decide +kernel
theorem dX2_init_1 : decode cX2_init 1 = .ok (.invokespecial 3, 3) := by decide +kernel
theorem dX2_init_4 : decode cX2_init 4 = .ok (.aload_n 0, 1) := by decide +kernel
theorem dX2_init_5 : decode cX2_init 5 = .ok (.iconst 2, 1) := by decide +kernel
theorem dX2_init_6 : decode cX2_init 6 = .ok (.putfield 9, 3) := by decide +kernel
theorem dX2_init_9 : decode cX2_init 9 = .ok (.aload_n 0, 1) := by decide +kernel
theorem dX2_init_10 : decode cX2_init 10 = .ok (.new 15, 3) := by decide +kernel
theorem dX2_init_13 : decode cX2_init 13 = .ok (.dup, 1) := by decide +kernel
theorem dX2_init_14 : decode cX2_init 14 = .ok (.invokespecial 17, 3) := by decide +kernel
theorem dX2_init_17 : decode cX2_init 17 = .ok (.putfield 18, 3) := by decide +kernel
theorem dX2_init_20 : decode cX2_init 20 = .ok (.aload_n 0, 1) := by decide +kernel
theorem dX2_init_21 : decode cX2_init 21 = .ok (.new 15, 3) := by decide +kernel
theorem dX2_init_24 : decode cX2_init 24 = .ok (.dup, 1) := by decide +kernel
theorem dX2_init_25 : decode cX2_init 25 = .ok (.invokespecial 17, 3) := by decide +kernel
theorem dX2_init_28 : decode cX2_init 28 = .ok (.putfield 22, 3) := by decide +kernel
theorem dX2_init_31 : decode cX2_init 31 = .ok (.return_, 1) := by decide +kernel
theorem dX2_copyFrom_0 : decode cX2_copyFrom 0 = .ok (.aload_n 0, 1) := by decide +kernel
theorem dX2_copyFrom_1 : decode cX2_copyFrom 1 = .ok (.aload_n 1, 1) := by decide +kernel
theorem dX2_copyFrom_2 : decode cX2_copyFrom 2 = .ok (.getfield 9, 3) := by decide +kernel
theorem dX2_copyFrom_5 : decode cX2_copyFrom 5 = .ok (.putfield 9, 3) := by decide +kernel
theorem dX2_copyFrom_8 : decode cX2_copyFrom 8 = .ok (.aload_n 0, 1) := by decide +kernel
theorem dX2_copyFrom_9 : decode cX2_copyFrom 9 = .ok (.aload_n 1, 1) := by decide +kernel
theorem dX2_copyFrom_10 : decode cX2_copyFrom 10 = .ok (.getfield 25, 3) := by decide +kernel
theorem dX2_copyFrom_13 : decode cX2_copyFrom 13 = .ok (.putfield 25, 3) := by decide +kernel
theorem dX2_copyFrom_16 : decode cX2_copyFrom 16 = .ok (.aload_n 0, 1) := by decide +kernel
theorem dX2_copyFrom_17 : decode cX2_copyFrom 17 = .ok (.aload_n 1, 1) := by decide +kernel
theorem dX2_copyFrom_18 : decode cX2_copyFrom 18 = .ok (.getfield 28, 3) := by decide +kernel
theorem dX2_copyFrom_21 : decode cX2_copyFrom 21 = .ok (.putfield 28, 3) := by decide +kernel
theorem dX2_copyFrom_24 : decode cX2_copyFrom 24 = .ok (.aload_n 0, 1) := by decide +kernel
theorem dX2_copyFrom_25 : decode cX2_copyFrom 25 = .ok (.aload_n 1, 1) := by decide +kernel
theorem dX2_copyFrom_26 : decode cX2_copyFrom 26 = .ok (.getfield 31, 3) := by decide +kernel
theorem dX2_copyFrom_29 : decode cX2_copyFrom 29 = .ok (.putfield 31, 3) := by decide +kernel
theorem dX2_copyFrom_32 : decode cX2_copyFrom 32 = .ok (.aload_n 0, 1) := by decide +kernel
theorem dX2_copyFrom_33 : decode cX2_copyFrom 33 = .ok (.aload_n 1, 1) := by decide +kernel
theorem dX2_copyFrom_34 : decode cX2_copyFrom 34 = .ok (.getfield 34, 3) := by decide +kernel
theorem dX2_copyFrom_37 : decode cX2_copyFrom 37 = .ok (.putfield 34, 3) := by decide +kernel
theorem dX2_copyFrom_40 : decode cX2_copyFrom 40 = .ok (.aload_n 0, 1) := by decide +kernel
theorem dX2_copyFrom_41 : decode cX2_copyFrom 41 = .ok (.aload_n 1, 1) := by decide +kernel
theorem dX2_copyFrom_42 : decode cX2_copyFrom 42 = .ok (.getfield 37, 3) := by decide +kernel
theorem dX2_copyFrom_45 : decode cX2_copyFrom 45 = .ok (.putfield 37, 3) := by decide +kernel
theorem dX2_copyFrom_48 : decode cX2_copyFrom 48 = .ok (.aload_n 0, 1) := by decide +kernel
theorem dX2_copyFrom_49 : decode cX2_copyFrom 49 = .ok (.aload_n 1, 1) := by decide +kernel
theorem dX2_copyFrom_50 : decode cX2_copyFrom 50 = .ok (.getfield 40, 3) := by decide +kernel
theorem dX2_copyFrom_53 : decode cX2_copyFrom 53 = .ok (.putfield 40, 3) := by decide +kernel
theorem dX2_copyFrom_56 : decode cX2_copyFrom 56 = .ok (.aload_n 0, 1) := by decide +kernel
theorem dX2_copyFrom_57 : decode cX2_copyFrom 57 = .ok (.aload_n 1, 1) := by decide +kernel
theorem dX2_copyFrom_58 : decode cX2_copyFrom 58 = .ok (.getfield 43, 3) := by decide +kernel
theorem dX2_copyFrom_61 : decode cX2_copyFrom 61 = .ok (.putfield 43, 3) := by decide +kernel
theorem dX2_copyFrom_64 : decode cX2_copyFrom 64 = .ok (.aload_n 0, 1) := by decide +kernel
theorem dX2_copyFrom_65 : decode cX2_copyFrom 65 = .ok (.getfield 18, 3) := by decide +kernel
theorem dX2_copyFrom_68 : decode cX2_copyFrom 68 = .ok (.aload_n 1, 1) := by decide +kernel
theorem dX2_copyFrom_69 : decode cX2_copyFrom 69 = .ok (.getfield 18, 3) := by decide +kernel
theorem dX2_copyFrom_72 : decode cX2_copyFrom 72 = .ok (.invokevirtual 46, 3) := by decide +kernel
theorem dX2_copyFrom_75 : decode cX2_copyFrom 75 = .ok (.aload_n 0, 1) := by decide +kernel
theorem dX2_copyFrom_76 : decode cX2_copyFrom 76 = .ok (.getfield 22, 3) := by decide +kernel
theorem dX2_copyFrom_79 : decode cX2_copyFrom 79 = .ok (.aload_n 1, 1) := by decide +kernel
theorem dX2_copyFrom_80 : decode cX2_copyFrom 80 = .ok (.getfield 22, 3) := by decide +kernel
theorem dX2_copyFrom_83 : decode cX2_copyFrom 83 = .ok (.invokevirtual 46, 3) := by decide +kernel
theorem dX2_copyFrom_86 : decode cX2_copyFrom 86 = .ok (.return_, 1) := by decide +kernel
theorem dX2_settingOf_0 : decode cX2_settingOf 0 = .ok (.iload_n 1, 1) := by decide +kernel
theorem dX2_settingOf_1 : decode cX2_settingOf 1 = .ok (.tableswitch 42 0 2 #[27, 32, 37], 27) := by decide +kernel
theorem dX2_settingOf_28 : decode cX2_settingOf 28 = .ok (.aload_n 0, 1) := by decide +kernel
theorem dX2_settingOf_29 : decode cX2_settingOf 29 = .ok (.getfield 9, 3) := by decide +kernel
theorem dX2_settingOf_32 : decode cX2_settingOf 32 = .ok (.ireturn, 1) := by decide +kernel
theorem dX2_settingOf_33 : decode cX2_settingOf 33 = .ok (.aload_n 0, 1) := by decide +kernel
theorem dX2_settingOf_34 : decode cX2_settingOf 34 = .ok (.getfield 25, 3) := by decide +kernel
theorem dX2_settingOf_37 : decode cX2_settingOf 37 = .ok (.ireturn, 1) := by decide +kernel
theorem dX2_settingOf_38 : decode cX2_settingOf 38 = .ok (.aload_n 0, 1) := by decide +kernel
theorem dX2_settingOf_39 : decode cX2_settingOf 39 = .ok (.getfield 28, 3) := by decide +kernel
theorem dX2_settingOf_42 : decode cX2_settingOf 42 = .ok (.ireturn, 1) := by decide +kernel
theorem dX2_settingOf_43 : decode cX2_settingOf 43 = .ok (.aload_n 0, 1) := by decide +kernel
theorem dX2_settingOf_44 : decode cX2_settingOf 44 = .ok (.getfield 31, 3) := by decide +kernel
theorem dX2_settingOf_47 : decode cX2_settingOf 47 = .ok (.ireturn, 1) := by decide +kernel
theorem dX2_changeSetting_0 : decode cX2_changeSetting 0 = .ok (.iload_n 1, 1) := by decide +kernel
theorem dX2_changeSetting_1 : decode cX2_changeSetting 1 = .ok (.tableswitch 51 0 2 #[27, 35, 43], 27) := by decide +kernel
theorem dX2_changeSetting_28 : decode cX2_changeSetting 28 = .ok (.aload_n 0, 1) := by decide +kernel
theorem dX2_changeSetting_29 : decode cX2_changeSetting 29 = .ok (.iload_n 2, 1) := by decide +kernel
theorem dX2_changeSetting_30 : decode cX2_changeSetting 30 = .ok (.putfield 9, 3) := by decide +kernel
theorem dX2_changeSetting_33 : decode cX2_changeSetting 33 = .ok (.goto 24, 3) := by decide +kernel
theorem dX2_changeSetting_36 : decode cX2_changeSetting 36 = .ok (.aload_n 0, 1) := by decide +kernel
theorem dX2_changeSetting_37 : decode cX2_changeSetting 37 = .ok (.iload_n 2, 1) := by decide +kernel
theorem dX2_changeSetting_38 : decode cX2_changeSetting 38 = .ok (.putfield 25, 3) := by decide +kernel
theorem dX2_changeSetting_41 : decode cX2_changeSetting 41 = .ok (.goto 16, 3) := by decide +kernel
theorem dX2_changeSetting_44 : decode cX2_changeSetting 44 = .ok (.aload_n 0, 1) := by decide +kernel
theorem dX2_changeSetting_45 : decode cX2_changeSetting 45 = .ok (.iload_n 2, 1) := by decide +kernel
theorem dX2_changeSetting_46 : decode cX2_changeSetting 46 = .ok (.putfield 28, 3) := by decide +kernel
theorem dX2_changeSetting_49 : decode cX2_changeSetting 49 = .ok (.goto 8, 3) := by decide +kernel
theorem dX2_changeSetting_52 : decode cX2_changeSetting 52 = .ok (.aload_n 0, 1) := by decide +kernel
theorem dX2_changeSetting_53 : decode cX2_changeSetting 53 = .ok (.iload_n 2, 1) := by decide +kernel
theorem dX2_changeSetting_54 : decode cX2_changeSetting 54 = .ok (.putfield 31, 3) := by decide +kernel
theorem dX2_changeSetting_57 : decode cX2_changeSetting 57 = .ok (.return_, 1) := by decide +kernel
theorem dX2_startAnew_0 : decode cX2_startAnew 0 = .ok (.aload_n 0, 1) := by decide +kernel
theorem dX2_startAnew_1 : decode cX2_startAnew 1 = .ok (.iconst 0, 1) := by decide +kernel
theorem dX2_startAnew_2 : decode cX2_startAnew 2 = .ok (.putfield 34, 3) := by decide +kernel
theorem dX2_startAnew_5 : decode cX2_startAnew 5 = .ok (.aload_n 0, 1) := by decide +kernel
theorem dX2_startAnew_6 : decode cX2_startAnew 6 = .ok (.iconst 0, 1) := by decide +kernel
theorem dX2_startAnew_7 : decode cX2_startAnew 7 = .ok (.putfield 37, 3) := by decide +kernel
theorem dX2_startAnew_10 : decode cX2_startAnew 10 = .ok (.aload_n 0, 1) := by decide +kernel
theorem dX2_startAnew_11 : decode cX2_startAnew 11 = .ok (.iconst 0, 1) := by decide +kernel
theorem dX2_startAnew_12 : decode cX2_startAnew 12 = .ok (.putfield 40, 3) := by decide +kernel
theorem dX2_startAnew_15 : decode cX2_startAnew 15 = .ok (.aload_n 0, 1) := by decide +kernel
theorem dX2_startAnew_16 : decode cX2_startAnew 16 = .ok (.iconst 0, 1) := by decide +kernel
theorem dX2_startAnew_17 : decode cX2_startAnew 17 = .ok (.putfield 43, 3) := by decide +kernel
theorem dX2_startAnew_20 : decode cX2_startAnew 20 = .ok (.aload_n 0, 1) := by decide +kernel
theorem dX2_startAnew_21 : decode cX2_startAnew 21 = .ok (.getfield 18, 3) := by decide +kernel
theorem dX2_startAnew_24 : decode cX2_startAnew 24 = .ok (.invokevirtual 50, 3) := by decide +kernel
theorem dX2_startAnew_27 : decode cX2_startAnew 27 = .ok (.aload_n 0, 1) := by decide +kernel
theorem dX2_startAnew_28 : decode cX2_startAnew 28 = .ok (.getfield 22, 3) := by decide +kernel
theorem dX2_startAnew_31 : decode cX2_startAnew 31 = .ok (.invokevirtual 50, 3) := by decide +kernel
theorem dX2_startAnew_34 : decode cX2_startAnew 34 = .ok (.return_, 1) := by decide +kernel
theorem dX2_sideOf_0 : decode cX2_sideOf 0 = .ok (.iload_n 1, 1) := by decide +kernel
theorem dX2_sideOf_1 : decode cX2_sideOf 1 = .ok (.ifCond .ne 10, 3) := by decide +kernel
theorem dX2_sideOf_4 : decode cX2_sideOf 4 = .ok (.aload_n 0, 1) := by decide +kernel
theorem dX2_sideOf_5 : decode cX2_sideOf 5 = .ok (.getfield 18, 3) := by decide +kernel
theorem dX2_sideOf_8 : decode cX2_sideOf 8 = .ok (.goto 7, 3) := by decide +kernel
theorem dX2_sideOf_11 : decode cX2_sideOf 11 = .ok (.aload_n 0, 1) := by decide +kernel
theorem dX2_sideOf_12 : decode cX2_sideOf 12 = .ok (.getfield 22, 3) := by decide +kernel
theorem dX2_sideOf_15 : decode cX2_sideOf 15 = .ok (.areturn, 1) := by decide +kernel
theorem dX2_winner_0 : decode cX2_winner 0 = .ok (.aload_n 0, 1) := by decide +kernel
theorem dX2_winner_1 : decode cX2_winner 1 = .ok (.getfield 34, 3) := by decide +kernel
theorem dX2_winner_4 : decode cX2_winner 4 = .ok (.aload_n 0, 1) := by decide +kernel
theorem dX2_winner_5 : decode cX2_winner 5 = .ok (.getfield 9, 3) := by decide +kernel
theorem dX2_winner_8 : decode cX2_winner 8 = .ok (.if_icmp .lt 5, 3) := by decide +kernel
theorem dX2_winner_11 : decode cX2_winner 11 = .ok (.iconst 0, 1) := by decide +kernel
theorem dX2_winner_12 : decode cX2_winner 12 = .ok (.ireturn, 1) := by decide +kernel
theorem dX2_winner_13 : decode cX2_winner 13 = .ok (.aload_n 0, 1) := by decide +kernel
theorem dX2_winner_14 : decode cX2_winner 14 = .ok (.getfield 34, 3) := by decide +kernel
theorem dX2_winner_17 : decode cX2_winner 17 = .ok (.aload_n 0, 1) := by decide +kernel
theorem dX2_winner_18 : decode cX2_winner 18 = .ok (.getfield 9, 3) := by decide +kernel
theorem dX2_winner_21 : decode cX2_winner 21 = .ok (.ineg, 1) := by decide +kernel
theorem dX2_winner_22 : decode cX2_winner 22 = .ok (.if_icmp .gt 7, 3) := by decide +kernel
theorem dX2_winner_25 : decode cX2_winner 25 = .ok (.iconst 1, 1) := by decide +kernel
theorem dX2_winner_26 : decode cX2_winner 26 = .ok (.goto 6, 3) := by decide +kernel
theorem dX2_winner_29 : decode cX2_winner 29 = .ok (.sipush (-1006), 3) := by decide +kernel
theorem dX2_winner_32 : decode cX2_winner 32 = .ok (.ireturn, 1) := by decide +kernel
theorem dX2_isOver_0 : decode cX2_isOver 0 = .ok (.aload_n 0, 1) := by decide +kernel
theorem dX2_isOver_1 : decode cX2_isOver 1 = .ok (.invokevirtual 53, 3) := by decide +kernel
theorem dX2_isOver_4 : decode cX2_isOver 4 = .ok (.sipush (-1006), 3) := by decide +kernel
theorem dX2_isOver_7 : decode cX2_isOver 7 = .ok (.if_icmp .eq 7, 3) := by decide +kernel
theorem dX2_isOver_10 : decode cX2_isOver 10 = .ok (.iconst 1, 1) := by decide +kernel
theorem dX2_isOver_11 : decode cX2_isOver 11 = .ok (.goto 4, 3) := by decide +kernel
theorem dX2_isOver_14 : decode cX2_isOver 14 = .ok (.iconst 0, 1) := by decide +kernel
theorem dX2_isOver_15 : decode cX2_isOver 15 = .ok (.ireturn, 1) := by decide +kernel
theorem dX2_mostOf_0 : decode cX2_mostOf 0 = .ok (.aload_n 0, 1) := by decide +kernel
theorem dX2_mostOf_1 : decode cX2_mostOf 1 = .ok (.iload_n 1, 1) := by decide +kernel
theorem dX2_mostOf_2 : decode cX2_mostOf 2 = .ok (.invokevirtual 57, 3) := by decide +kernel
theorem dX2_mostOf_5 : decode cX2_mostOf 5 = .ok (.getfield 61, 3) := by decide +kernel
theorem dX2_mostOf_8 : decode cX2_mostOf 8 = .ok (.aload_n 0, 1) := by decide +kernel
theorem dX2_mostOf_9 : decode cX2_mostOf 9 = .ok (.getfield 25, 3) := by decide +kernel
theorem dX2_mostOf_12 : decode cX2_mostOf 12 = .ok (.iadd, 1) := by decide +kernel
theorem dX2_mostOf_13 : decode cX2_mostOf 13 = .ok (.ireturn, 1) := by decide +kernel
theorem dX2_toWin_0 : decode cX2_toWin 0 = .ok (.iload_n 1, 1) := by decide +kernel
theorem dX2_toWin_1 : decode cX2_toWin 1 = .ok (.ifCond .ne 15, 3) := by decide +kernel
theorem dX2_toWin_4 : decode cX2_toWin 4 = .ok (.aload_n 0, 1) := by decide +kernel
theorem dX2_toWin_5 : decode cX2_toWin 5 = .ok (.getfield 9, 3) := by decide +kernel
theorem dX2_toWin_8 : decode cX2_toWin 8 = .ok (.aload_n 0, 1) := by decide +kernel
theorem dX2_toWin_9 : decode cX2_toWin 9 = .ok (.getfield 34, 3) := by decide +kernel
theorem dX2_toWin_12 : decode cX2_toWin 12 = .ok (.isub, 1) := by decide +kernel
theorem dX2_toWin_13 : decode cX2_toWin 13 = .ok (.goto 12, 3) := by decide +kernel
theorem dX2_toWin_16 : decode cX2_toWin 16 = .ok (.aload_n 0, 1) := by decide +kernel
theorem dX2_toWin_17 : decode cX2_toWin 17 = .ok (.getfield 9, 3) := by decide +kernel
theorem dX2_toWin_20 : decode cX2_toWin 20 = .ok (.aload_n 0, 1) := by decide +kernel
theorem dX2_toWin_21 : decode cX2_toWin 21 = .ok (.getfield 34, 3) := by decide +kernel
theorem dX2_toWin_24 : decode cX2_toWin 24 = .ok (.iadd, 1) := by decide +kernel
theorem dX2_toWin_25 : decode cX2_toWin 25 = .ok (.ireturn, 1) := by decide +kernel
theorem dX2_gainOf_0 : decode cX2_gainOf 0 = .ok (.aload_n 0, 1) := by decide +kernel
theorem dX2_gainOf_1 : decode cX2_gainOf 1 = .ok (.getfield 28, 3) := by decide +kernel
theorem dX2_gainOf_4 : decode cX2_gainOf 4 = .ok (.ifCond .ne 7, 3) := by decide +kernel
theorem dX2_gainOf_7 : decode cX2_gainOf 7 = .ok (.iload_n 1, 1) := by decide +kernel
theorem dX2_gainOf_8 : decode cX2_gainOf 8 = .ok (.goto 4, 3) := by decide +kernel
theorem dX2_gainOf_11 : decode cX2_gainOf 11 = .ok (.iconst 0, 1) := by decide +kernel
theorem dX2_gainOf_12 : decode cX2_gainOf 12 = .ok (.ireturn, 1) := by decide +kernel
theorem dX2_takerOf_0 : decode cX2_takerOf 0 = .ok (.iload_n 1, 1) := by decide +kernel
theorem dX2_takerOf_1 : decode cX2_takerOf 1 = .ok (.iload_n 2, 1) := by decide +kernel
theorem dX2_takerOf_2 : decode cX2_takerOf 2 = .ok (.if_icmp .gt 15, 3) := by decide +kernel
theorem dX2_takerOf_5 : decode cX2_takerOf 5 = .ok (.iload_n 1, 1) := by decide +kernel
theorem dX2_takerOf_6 : decode cX2_takerOf 6 = .ok (.iload_n 2, 1) := by decide +kernel
theorem dX2_takerOf_7 : decode cX2_takerOf 7 = .ok (.if_icmp .ne 14, 3) := by decide +kernel
theorem dX2_takerOf_10 : decode cX2_takerOf 10 = .ok (.aload_n 0, 1) := by decide +kernel
theorem dX2_takerOf_11 : decode cX2_takerOf 11 = .ok (.getfield 31, 3) := by decide +kernel
theorem dX2_takerOf_14 : decode cX2_takerOf 14 = .ok (.ifCond .ne 7, 3) := by decide +kernel
theorem dX2_takerOf_17 : decode cX2_takerOf 17 = .ok (.iconst 1, 1) := by decide +kernel
theorem dX2_takerOf_18 : decode cX2_takerOf 18 = .ok (.goto 4, 3) := by decide +kernel
theorem dX2_takerOf_21 : decode cX2_takerOf 21 = .ok (.iconst 0, 1) := by decide +kernel
theorem dX2_takerOf_22 : decode cX2_takerOf 22 = .ok (.istore_n 3, 1) := by decide +kernel
theorem dX2_takerOf_23 : decode cX2_takerOf 23 = .ok (.iload_n 3, 1) := by decide +kernel
theorem dX2_takerOf_24 : decode cX2_takerOf 24 = .ok (.ifCond .eq 10, 3) := by decide +kernel
theorem dX2_takerOf_27 : decode cX2_takerOf 27 = .ok (.aload_n 0, 1) := by decide +kernel
theorem dX2_takerOf_28 : decode cX2_takerOf 28 = .ok (.getfield 37, 3) := by decide +kernel
theorem dX2_takerOf_31 : decode cX2_takerOf 31 = .ok (.goto 9, 3) := by decide +kernel
theorem dX2_takerOf_34 : decode cX2_takerOf 34 = .ok (.iconst 1, 1) := by decide +kernel
theorem dX2_takerOf_35 : decode cX2_takerOf 35 = .ok (.aload_n 0, 1) := by decide +kernel
theorem dX2_takerOf_36 : decode cX2_takerOf 36 = .ok (.getfield 37, 3) := by decide +kernel
theorem dX2_takerOf_39 : decode cX2_takerOf 39 = .ok (.isub, 1) := by decide +kernel
theorem dX2_takerOf_40 : decode cX2_takerOf 40 = .ok (.ireturn, 1) := by decide +kernel
theorem dX2_allows_0 : decode cX2_allows 0 = .ok (.aload_n 0, 1) := by decide +kernel
theorem dX2_allows_1 : decode cX2_allows 1 = .ok (.invokevirtual 64, 3) := by decide +kernel
theorem dX2_allows_4 : decode cX2_allows 4 = .ok (.ifCond .ne 33, 3) := by decide +kernel
theorem dX2_allows_7 : decode cX2_allows 7 = .ok (.iload_n 1, 1) := by decide +kernel
theorem dX2_allows_8 : decode cX2_allows 8 = .ok (.aload_n 0, 1) := by decide +kernel
theorem dX2_allows_9 : decode cX2_allows 9 = .ok (.aload_n 0, 1) := by decide +kernel
theorem dX2_allows_10 : decode cX2_allows 10 = .ok (.getfield 37, 3) := by decide +kernel
theorem dX2_allows_13 : decode cX2_allows 13 = .ok (.invokevirtual 68, 3) := by decide +kernel
theorem dX2_allows_16 : decode cX2_allows 16 = .ok (.if_icmp .gt 21, 3) := by decide +kernel
theorem dX2_allows_19 : decode cX2_allows 19 = .ok (.iload_n 2, 1) := by decide +kernel
theorem dX2_allows_20 : decode cX2_allows 20 = .ok (.aload_n 0, 1) := by decide +kernel
theorem dX2_allows_21 : decode cX2_allows 21 = .ok (.iconst 1, 1) := by decide +kernel
theorem dX2_allows_22 : decode cX2_allows 22 = .ok (.aload_n 0, 1) := by decide +kernel
theorem dX2_allows_23 : decode cX2_allows 23 = .ok (.getfield 37, 3) := by decide +kernel
theorem dX2_allows_26 : decode cX2_allows 26 = .ok (.isub, 1) := by decide +kernel
theorem dX2_allows_27 : decode cX2_allows 27 = .ok (.invokevirtual 68, 3) := by decide +kernel
theorem dX2_allows_30 : decode cX2_allows 30 = .ok (.if_icmp .gt 7, 3) := by decide +kernel
theorem dX2_allows_33 : decode cX2_allows 33 = .ok (.iconst 1, 1) := by decide +kernel
theorem dX2_allows_34 : decode cX2_allows 34 = .ok (.goto 4, 3) := by decide +kernel
theorem dX2_allows_37 : decode cX2_allows 37 = .ok (.iconst 0, 1) := by decide +kernel
theorem dX2_allows_38 : decode cX2_allows 38 = .ok (.ireturn, 1) := by decide +kernel
theorem dX2_playRound_0 : decode cX2_playRound 0 = .ok (.aload_n 0, 1) := by decide +kernel
theorem dX2_playRound_1 : decode cX2_playRound 1 = .ok (.iload_n 1, 1) := by decide +kernel
theorem dX2_playRound_2 : decode cX2_playRound 2 = .ok (.iload_n 2, 1) := by decide +kernel
theorem dX2_playRound_3 : decode cX2_playRound 3 = .ok (.invokevirtual 72, 3) := by decide +kernel
theorem dX2_playRound_6 : decode cX2_playRound 6 = .ok (.istore_n 3, 1) := by decide +kernel
theorem dX2_playRound_7 : decode cX2_playRound 7 = .ok (.iload_n 3, 1) := by decide +kernel
theorem dX2_playRound_8 : decode cX2_playRound 8 = .ok (.aload_n 0, 1) := by decide +kernel
theorem dX2_playRound_9 : decode cX2_playRound 9 = .ok (.getfield 37, 3) := by decide +kernel
theorem dX2_playRound_12 : decode cX2_playRound 12 = .ok (.if_icmp .ne 7, 3) := by decide +kernel
theorem dX2_playRound_15 : decode cX2_playRound 15 = .ok (.iload_n 1, 1) := by decide +kernel
theorem dX2_playRound_16 : decode cX2_playRound 16 = .ok (.goto 4, 3) := by decide +kernel
theorem dX2_playRound_19 : decode cX2_playRound 19 = .ok (.iload_n 2, 1) := by decide +kernel
theorem dX2_playRound_20 : decode cX2_playRound 20 = .ok (.istore 4, 2) := by decide +kernel
theorem dX2_playRound_22 : decode cX2_playRound 22 = .ok (.aload_n 0, 1) := by decide +kernel
theorem dX2_playRound_23 : decode cX2_playRound 23 = .ok (.iload_n 3, 1) := by decide +kernel
theorem dX2_playRound_24 : decode cX2_playRound 24 = .ok (.invokevirtual 57, 3) := by decide +kernel
theorem dX2_playRound_27 : decode cX2_playRound 27 = .ok (.astore 5, 2) := by decide +kernel
theorem dX2_playRound_29 : decode cX2_playRound 29 = .ok (.aload 5, 2) := by decide +kernel
theorem dX2_playRound_31 : decode cX2_playRound 31 = .ok (.dup, 1) := by decide +kernel
theorem dX2_playRound_32 : decode cX2_playRound 32 = .ok (.getfield 61, 3) := by decide +kernel
theorem dX2_playRound_35 : decode cX2_playRound 35 = .ok (.iload 4, 2) := by decide +kernel
theorem dX2_playRound_37 : decode cX2_playRound 37 = .ok (.isub, 1) := by decide +kernel
theorem dX2_playRound_38 : decode cX2_playRound 38 = .ok (.putfield 61, 3) := by decide +kernel
theorem dX2_playRound_41 : decode cX2_playRound 41 = .ok (.aload 5, 2) := by decide +kernel
theorem dX2_playRound_43 : decode cX2_playRound 43 = .ok (.dup, 1) := by decide +kernel
theorem dX2_playRound_44 : decode cX2_playRound 44 = .ok (.getfield 76, 3) := by decide +kernel
theorem dX2_playRound_47 : decode cX2_playRound 47 = .ok (.iload 4, 2) := by decide +kernel
theorem dX2_playRound_49 : decode cX2_playRound 49 = .ok (.iadd, 1) := by decide +kernel
theorem dX2_playRound_50 : decode cX2_playRound 50 = .ok (.putfield 76, 3) := by decide +kernel
theorem dX2_playRound_53 : decode cX2_playRound 53 = .ok (.aload 5, 2) := by decide +kernel
theorem dX2_playRound_55 : decode cX2_playRound 55 = .ok (.dup, 1) := by decide +kernel
theorem dX2_playRound_56 : decode cX2_playRound 56 = .ok (.getfield 79, 3) := by decide +kernel
theorem dX2_playRound_59 : decode cX2_playRound 59 = .ok (.iconst 1, 1) := by decide +kernel
theorem dX2_playRound_60 : decode cX2_playRound 60 = .ok (.iadd, 1) := by decide +kernel
theorem dX2_playRound_61 : decode cX2_playRound 61 = .ok (.putfield 79, 3) := by decide +kernel
theorem dX2_playRound_64 : decode cX2_playRound 64 = .ok (.aload_n 0, 1) := by decide +kernel
theorem dX2_playRound_65 : decode cX2_playRound 65 = .ok (.iload 4, 2) := by decide +kernel
theorem dX2_playRound_67 : decode cX2_playRound 67 = .ok (.invokevirtual 82, 3) := by decide +kernel
theorem dX2_playRound_70 : decode cX2_playRound 70 = .ok (.istore 6, 2) := by decide +kernel
theorem dX2_playRound_72 : decode cX2_playRound 72 = .ok (.aload_n 0, 1) := by decide +kernel
theorem dX2_playRound_73 : decode cX2_playRound 73 = .ok (.iconst 1, 1) := by decide +kernel
theorem dX2_playRound_74 : decode cX2_playRound 74 = .ok (.iload_n 3, 1) := by decide +kernel
theorem dX2_playRound_75 : decode cX2_playRound 75 = .ok (.isub, 1) := by decide +kernel
theorem dX2_playRound_76 : decode cX2_playRound 76 = .ok (.invokevirtual 57, 3) := by decide +kernel
theorem dX2_playRound_79 : decode cX2_playRound 79 = .ok (.dup, 1) := by decide +kernel
theorem dX2_playRound_80 : decode cX2_playRound 80 = .ok (.getfield 61, 3) := by decide +kernel
theorem dX2_playRound_83 : decode cX2_playRound 83 = .ok (.iload 6, 2) := by decide +kernel
theorem dX2_playRound_85 : decode cX2_playRound 85 = .ok (.iadd, 1) := by decide +kernel
theorem dX2_playRound_86 : decode cX2_playRound 86 = .ok (.putfield 61, 3) := by decide +kernel
theorem dX2_playRound_89 : decode cX2_playRound 89 = .ok (.aload_n 0, 1) := by decide +kernel
theorem dX2_playRound_90 : decode cX2_playRound 90 = .ok (.dup, 1) := by decide +kernel
theorem dX2_playRound_91 : decode cX2_playRound 91 = .ok (.getfield 43, 3) := by decide +kernel
theorem dX2_playRound_94 : decode cX2_playRound 94 = .ok (.iload 4, 2) := by decide +kernel
theorem dX2_playRound_96 : decode cX2_playRound 96 = .ok (.iload 6, 2) := by decide +kernel
theorem dX2_playRound_98 : decode cX2_playRound 98 = .ok (.isub, 1) := by decide +kernel
theorem dX2_playRound_99 : decode cX2_playRound 99 = .ok (.iadd, 1) := by decide +kernel
theorem dX2_playRound_100 : decode cX2_playRound 100 = .ok (.putfield 43, 3) := by decide +kernel
theorem dX2_playRound_103 : decode cX2_playRound 103 = .ok (.aload_n 0, 1) := by decide +kernel
theorem dX2_playRound_104 : decode cX2_playRound 104 = .ok (.dup, 1) := by decide +kernel
theorem dX2_playRound_105 : decode cX2_playRound 105 = .ok (.getfield 34, 3) := by decide +kernel
theorem dX2_playRound_108 : decode cX2_playRound 108 = .ok (.iload_n 3, 1) := by decide +kernel
theorem dX2_playRound_109 : decode cX2_playRound 109 = .ok (.ifCond .ne 7, 3) := by decide +kernel
theorem dX2_playRound_112 : decode cX2_playRound 112 = .ok (.iconst 1, 1) := by decide +kernel
theorem dX2_playRound_113 : decode cX2_playRound 113 = .ok (.goto 4, 3) := by decide +kernel
theorem dX2_playRound_116 : decode cX2_playRound 116 = .ok (.iconst (-1), 1) := by decide +kernel
theorem dX2_playRound_117 : decode cX2_playRound 117 = .ok (.iadd, 1) := by decide +kernel
theorem dX2_playRound_118 : decode cX2_playRound 118 = .ok (.putfield 34, 3) := by decide +kernel
theorem dX2_playRound_121 : decode cX2_playRound 121 = .ok (.aload_n 0, 1) := by decide +kernel
theorem dX2_playRound_122 : decode cX2_playRound 122 = .ok (.iconst 1, 1) := by decide +kernel
theorem dX2_playRound_123 : decode cX2_playRound 123 = .ok (.aload_n 0, 1) := by decide +kernel
theorem dX2_playRound_124 : decode cX2_playRound 124 = .ok (.getfield 37, 3) := by decide +kernel
theorem dX2_playRound_127 : decode cX2_playRound 127 = .ok (.isub, 1) := by decide +kernel
theorem dX2_playRound_128 : decode cX2_playRound 128 = .ok (.putfield 37, 3) := by decide +kernel
theorem dX2_playRound_131 : decode cX2_playRound 131 = .ok (.aload_n 0, 1) := by decide +kernel
theorem dX2_playRound_132 : decode cX2_playRound 132 = .ok (.dup, 1) := by decide +kernel
theorem dX2_playRound_133 : decode cX2_playRound 133 = .ok (.getfield 40, 3) := by decide +kernel
theorem dX2_playRound_136 : decode cX2_playRound 136 = .ok (.iconst 1, 1) := by decide +kernel
theorem dX2_playRound_137 : decode cX2_playRound 137 = .ok (.iadd, 1) := by decide +kernel
theorem dX2_playRound_138 : decode cX2_playRound 138 = .ok (.putfield 40, 3) := by decide +kernel
theorem dX2_playRound_141 : decode cX2_playRound 141 = .ok (.aload_n 0, 1) := by decide +kernel
theorem dX2_playRound_142 : decode cX2_playRound 142 = .ok (.invokevirtual 64, 3) := by decide +kernel
theorem dX2_playRound_145 : decode cX2_playRound 145 = .ok (.ifCond .eq 14, 3) := by decide +kernel
theorem dX2_playRound_148 : decode cX2_playRound 148 = .ok (.aload 5, 2) := by decide +kernel
theorem dX2_playRound_150 : decode cX2_playRound 150 = .ok (.dup, 1) := by decide +kernel
theorem dX2_playRound_151 : decode cX2_playRound 151 = .ok (.getfield 85, 3) := by decide +kernel
theorem dX2_playRound_154 : decode cX2_playRound 154 = .ok (.iconst 1, 1) := by decide +kernel
theorem dX2_playRound_155 : decode cX2_playRound 155 = .ok (.iadd, 1) := by decide +kernel
theorem dX2_playRound_156 : decode cX2_playRound 156 = .ok (.putfield 85, 3) := by decide +kernel
theorem dX2_playRound_159 : decode cX2_playRound 159 = .ok (.iload_n 3, 1) := by decide +kernel
theorem dX2_playRound_160 : decode cX2_playRound 160 = .ok (.ireturn, 1) := by decide +kernel
theorem dX3_init_0 : decode cX3_init 0 = .ok (.aload_n 0, 1) := by decide +kernel
theorem dX3_init_1 : decode cX3_init 1 = .ok (.invokespecial 3, 3) := by decide +kernel
theorem dX3_init_4 : decode cX3_init 4 = .ok (.aload_n 0, 1) := by decide +kernel
theorem dX3_init_5 : decode cX3_init 5 = .ok (.bipush 6, 2) := by decide +kernel
theorem dX3_init_7 : decode cX3_init 7 = .ok (.anewarray 9, 3) := by decide +kernel
theorem dX3_init_10 : decode cX3_init 10 = .ok (.putfield 11, 3) := by decide +kernel
theorem dX3_init_13 : decode cX3_init 13 = .ok (.return_, 1) := by decide +kernel
theorem dX3_keepState_0 : decode cX3_keepState 0 = .ok (.aload_n 0, 1) := by decide +kernel
theorem dX3_keepState_1 : decode cX3_keepState 1 = .ok (.getfield 17, 3) := by decide +kernel
theorem dX3_keepState_4 : decode cX3_keepState 4 = .ok (.aload_n 0, 1) := by decide +kernel
theorem dX3_keepState_5 : decode cX3_keepState 5 = .ok (.getfield 11, 3) := by decide +kernel
theorem dX3_keepState_8 : decode cX3_keepState 8 = .ok (.arraylength, 1) := by decide +kernel
theorem dX3_keepState_9 : decode cX3_keepState 9 = .ok (.if_icmp .lt 7, 3) := by decide +kernel
theorem dX3_keepState_12 : decode cX3_keepState 12 = .ok (.aload_n 0, 1) := by decide +kernel
theorem dX3_keepState_13 : decode cX3_keepState 13 = .ok (.invokevirtual 21, 3) := by decide +kernel
theorem dX3_keepState_16 : decode cX3_keepState 16 = .ok (.aload_n 0, 1) := by decide +kernel
theorem dX3_keepState_17 : decode cX3_keepState 17 = .ok (.getfield 17, 3) := by decide +kernel
theorem dX3_keepState_20 : decode cX3_keepState 20 = .ok (.ifCond .lt 66, 3) := by decide +kernel
theorem dX3_keepState_23 : decode cX3_keepState 23 = .ok (.aload_n 0, 1) := by decide +kernel
theorem dX3_keepState_24 : decode cX3_keepState 24 = .ok (.getfield 17, 3) := by decide +kernel
theorem dX3_keepState_27 : decode cX3_keepState 27 = .ok (.aload_n 0, 1) := by decide +kernel
theorem dX3_keepState_28 : decode cX3_keepState 28 = .ok (.getfield 11, 3) := by decide +kernel
theorem dX3_keepState_31 : decode cX3_keepState 31 = .ok (.arraylength, 1) := by decide +kernel
theorem dX3_keepState_32 : decode cX3_keepState 32 = .ok (.if_icmp .ge 54, 3) := by decide +kernel
theorem dX3_keepState_35 : decode cX3_keepState 35 = .ok (.aload_n 0, 1) := by decide +kernel
theorem dX3_keepState_36 : decode cX3_keepState 36 = .ok (.getfield 11, 3) := by decide +kernel
theorem dX3_keepState_39 : decode cX3_keepState 39 = .ok (.aload_n 0, 1) := by decide +kernel
theorem dX3_keepState_40 : decode cX3_keepState 40 = .ok (.getfield 17, 3) := by decide +kernel
theorem dX3_keepState_43 : decode cX3_keepState 43 = .ok (.aaload, 1) := by decide +kernel
theorem dX3_keepState_44 : decode cX3_keepState 44 = .ok (.ifnonnull 19, 3) := by decide +kernel
theorem dX3_keepState_47 : decode cX3_keepState 47 = .ok (.aload_n 0, 1) := by decide +kernel
theorem dX3_keepState_48 : decode cX3_keepState 48 = .ok (.getfield 11, 3) := by decide +kernel
theorem dX3_keepState_51 : decode cX3_keepState 51 = .ok (.aload_n 0, 1) := by decide +kernel
theorem dX3_keepState_52 : decode cX3_keepState 52 = .ok (.getfield 17, 3) := by decide +kernel
theorem dX3_keepState_55 : decode cX3_keepState 55 = .ok (.new 9, 3) := by decide +kernel
theorem dX3_keepState_58 : decode cX3_keepState 58 = .ok (.dup, 1) := by decide +kernel
theorem dX3_keepState_59 : decode cX3_keepState 59 = .ok (.invokespecial 24, 3) := by decide +kernel
theorem dX3_keepState_62 : decode cX3_keepState 62 = .ok (.aastore, 1) := by decide +kernel
theorem dX3_keepState_63 : decode cX3_keepState 63 = .ok (.aload_n 0, 1) := by decide +kernel
theorem dX3_keepState_64 : decode cX3_keepState 64 = .ok (.getfield 11, 3) := by decide +kernel
theorem dX3_keepState_67 : decode cX3_keepState 67 = .ok (.aload_n 0, 1) := by decide +kernel
theorem dX3_keepState_68 : decode cX3_keepState 68 = .ok (.getfield 17, 3) := by decide +kernel
theorem dX3_keepState_71 : decode cX3_keepState 71 = .ok (.aaload, 1) := by decide +kernel
theorem dX3_keepState_72 : decode cX3_keepState 72 = .ok (.aload_n 1, 1) := by decide +kernel
theorem dX3_keepState_73 : decode cX3_keepState 73 = .ok (.invokevirtual 25, 3) := by decide +kernel
theorem dX3_keepState_76 : decode cX3_keepState 76 = .ok (.aload_n 0, 1) := by decide +kernel
theorem dX3_keepState_77 : decode cX3_keepState 77 = .ok (.dup, 1) := by decide +kernel
theorem dX3_keepState_78 : decode cX3_keepState 78 = .ok (.getfield 17, 3) := by decide +kernel
theorem dX3_keepState_81 : decode cX3_keepState 81 = .ok (.iconst 1, 1) := by decide +kernel
theorem dX3_keepState_82 : decode cX3_keepState 82 = .ok (.iadd, 1) := by decide +kernel
theorem dX3_keepState_83 : decode cX3_keepState 83 = .ok (.putfield 17, 3) := by decide +kernel
theorem dX3_keepState_86 : decode cX3_keepState 86 = .ok (.return_, 1) := by decide +kernel
theorem dX3_dropOldest_0 : decode cX3_dropOldest 0 = .ok (.aload_n 0, 1) := by decide +kernel
theorem dX3_dropOldest_1 : decode cX3_dropOldest 1 = .ok (.getfield 11, 3) := by decide +kernel
theorem dX3_dropOldest_4 : decode cX3_dropOldest 4 = .ok (.arraylength, 1) := by decide +kernel
theorem dX3_dropOldest_5 : decode cX3_dropOldest 5 = .ok (.ifCond .ne 4, 3) := by decide +kernel
theorem dX3_dropOldest_8 : decode cX3_dropOldest 8 = .ok (.return_, 1) := by decide +kernel
theorem dX3_dropOldest_9 : decode cX3_dropOldest 9 = .ok (.aload_n 0, 1) := by decide +kernel
theorem dX3_dropOldest_10 : decode cX3_dropOldest 10 = .ok (.getfield 11, 3) := by decide +kernel
theorem dX3_dropOldest_13 : decode cX3_dropOldest 13 = .ok (.iconst 0, 1) := by decide +kernel
theorem dX3_dropOldest_14 : decode cX3_dropOldest 14 = .ok (.aaload, 1) := by decide +kernel
theorem dX3_dropOldest_15 : decode cX3_dropOldest 15 = .ok (.astore_n 1, 1) := by decide +kernel
theorem dX3_dropOldest_16 : decode cX3_dropOldest 16 = .ok (.iconst 1, 1) := by decide +kernel
theorem dX3_dropOldest_17 : decode cX3_dropOldest 17 = .ok (.istore_n 2, 1) := by decide +kernel
theorem dX3_dropOldest_18 : decode cX3_dropOldest 18 = .ok (.iload_n 2, 1) := by decide +kernel
theorem dX3_dropOldest_19 : decode cX3_dropOldest 19 = .ok (.aload_n 0, 1) := by decide +kernel
theorem dX3_dropOldest_20 : decode cX3_dropOldest 20 = .ok (.getfield 11, 3) := by decide +kernel
theorem dX3_dropOldest_23 : decode cX3_dropOldest 23 = .ok (.arraylength, 1) := by decide +kernel
theorem dX3_dropOldest_24 : decode cX3_dropOldest 24 = .ok (.if_icmp .ge 23, 3) := by decide +kernel
theorem dX3_dropOldest_27 : decode cX3_dropOldest 27 = .ok (.aload_n 0, 1) := by decide +kernel
theorem dX3_dropOldest_28 : decode cX3_dropOldest 28 = .ok (.getfield 11, 3) := by decide +kernel
theorem dX3_dropOldest_31 : decode cX3_dropOldest 31 = .ok (.iload_n 2, 1) := by decide +kernel
theorem dX3_dropOldest_32 : decode cX3_dropOldest 32 = .ok (.iconst 1, 1) := by decide +kernel
theorem dX3_dropOldest_33 : decode cX3_dropOldest 33 = .ok (.isub, 1) := by decide +kernel
theorem dX3_dropOldest_34 : decode cX3_dropOldest 34 = .ok (.aload_n 0, 1) := by decide +kernel
theorem dX3_dropOldest_35 : decode cX3_dropOldest 35 = .ok (.getfield 11, 3) := by decide +kernel
theorem dX3_dropOldest_38 : decode cX3_dropOldest 38 = .ok (.iload_n 2, 1) := by decide +kernel
theorem dX3_dropOldest_39 : decode cX3_dropOldest 39 = .ok (.aaload, 1) := by decide +kernel
theorem dX3_dropOldest_40 : decode cX3_dropOldest 40 = .ok (.aastore, 1) := by decide +kernel
theorem dX3_dropOldest_41 : decode cX3_dropOldest 41 = .ok (.iinc 2 1, 3) := by decide +kernel
theorem dX3_dropOldest_44 : decode cX3_dropOldest 44 = .ok (.goto (-26), 3) := by decide +kernel
theorem dX3_dropOldest_47 : decode cX3_dropOldest 47 = .ok (.aload_n 0, 1) := by decide +kernel
theorem dX3_dropOldest_48 : decode cX3_dropOldest 48 = .ok (.aload_n 0, 1) := by decide +kernel
theorem dX3_dropOldest_49 : decode cX3_dropOldest 49 = .ok (.getfield 11, 3) := by decide +kernel
theorem dX3_dropOldest_52 : decode cX3_dropOldest 52 = .ok (.arraylength, 1) := by decide +kernel
theorem dX3_dropOldest_53 : decode cX3_dropOldest 53 = .ok (.iconst 1, 1) := by decide +kernel
theorem dX3_dropOldest_54 : decode cX3_dropOldest 54 = .ok (.isub, 1) := by decide +kernel
theorem dX3_dropOldest_55 : decode cX3_dropOldest 55 = .ok (.putfield 17, 3) := by decide +kernel
theorem dX3_dropOldest_58 : decode cX3_dropOldest 58 = .ok (.aload_n 0, 1) := by decide +kernel
theorem dX3_dropOldest_59 : decode cX3_dropOldest 59 = .ok (.getfield 11, 3) := by decide +kernel
theorem dX3_dropOldest_62 : decode cX3_dropOldest 62 = .ok (.aload_n 0, 1) := by decide +kernel
theorem dX3_dropOldest_63 : decode cX3_dropOldest 63 = .ok (.getfield 17, 3) := by decide +kernel
theorem dX3_dropOldest_66 : decode cX3_dropOldest 66 = .ok (.aload_n 1, 1) := by decide +kernel
theorem dX3_dropOldest_67 : decode cX3_dropOldest 67 = .ok (.aastore, 1) := by decide +kernel
theorem dX3_dropOldest_68 : decode cX3_dropOldest 68 = .ok (.return_, 1) := by decide +kernel
theorem dX3_takeBack_0 : decode cX3_takeBack 0 = .ok (.aload_n 0, 1) := by decide +kernel
theorem dX3_takeBack_1 : decode cX3_takeBack 1 = .ok (.getfield 17, 3) := by decide +kernel
theorem dX3_takeBack_4 : decode cX3_takeBack 4 = .ok (.ifCond .le 44, 3) := by decide +kernel
theorem dX3_takeBack_7 : decode cX3_takeBack 7 = .ok (.aload_n 0, 1) := by decide +kernel
theorem dX3_takeBack_8 : decode cX3_takeBack 8 = .ok (.getfield 17, 3) := by decide +kernel
theorem dX3_takeBack_11 : decode cX3_takeBack 11 = .ok (.aload_n 0, 1) := by decide +kernel
theorem dX3_takeBack_12 : decode cX3_takeBack 12 = .ok (.getfield 11, 3) := by decide +kernel
theorem dX3_takeBack_15 : decode cX3_takeBack 15 = .ok (.arraylength, 1) := by decide +kernel
theorem dX3_takeBack_16 : decode cX3_takeBack 16 = .ok (.if_icmp .gt 32, 3) := by decide +kernel
theorem dX3_takeBack_19 : decode cX3_takeBack 19 = .ok (.aload_n 0, 1) := by decide +kernel
theorem dX3_takeBack_20 : decode cX3_takeBack 20 = .ok (.dup, 1) := by decide +kernel
theorem dX3_takeBack_21 : decode cX3_takeBack 21 = .ok (.getfield 17, 3) := by decide +kernel
theorem dX3_takeBack_24 : decode cX3_takeBack 24 = .ok (.iconst 1, 1) := by decide +kernel
theorem dX3_takeBack_25 : decode cX3_takeBack 25 = .ok (.isub, 1) := by decide +kernel
theorem dX3_takeBack_26 : decode cX3_takeBack 26 = .ok (.putfield 17, 3) := by decide +kernel
theorem dX3_takeBack_29 : decode cX3_takeBack 29 = .ok (.aload_n 0, 1) := by decide +kernel
theorem dX3_takeBack_30 : decode cX3_takeBack 30 = .ok (.getfield 11, 3) := by decide +kernel
theorem dX3_takeBack_33 : decode cX3_takeBack 33 = .ok (.aload_n 0, 1) := by decide +kernel
theorem dX3_takeBack_34 : decode cX3_takeBack 34 = .ok (.getfield 17, 3) := by decide +kernel
theorem dX3_takeBack_37 : decode cX3_takeBack 37 = .ok (.aaload, 1) := by decide +kernel
theorem dX3_takeBack_38 : decode cX3_takeBack 38 = .ok (.astore_n 2, 1) := by decide +kernel
theorem dX3_takeBack_39 : decode cX3_takeBack 39 = .ok (.aload_n 2, 1) := by decide +kernel
theorem dX3_takeBack_40 : decode cX3_takeBack 40 = .ok (.ifnull 8, 3) := by decide +kernel
theorem dX3_takeBack_43 : decode cX3_takeBack 43 = .ok (.aload_n 1, 1) := by decide +kernel
theorem dX3_takeBack_44 : decode cX3_takeBack 44 = .ok (.aload_n 2, 1) := by decide +kernel
theorem dX3_takeBack_45 : decode cX3_takeBack 45 = .ok (.invokevirtual 25, 3) := by decide +kernel
theorem dX3_takeBack_48 : decode cX3_takeBack 48 = .ok (.return_, 1) := by decide +kernel
theorem dX4_init_0 : decode cX4_init 0 = .ok (.aload_n 0, 1) := by decide +kernel
theorem dX4_init_1 : decode cX4_init 1 = .ok (.invokespecial 5, 3) := by decide +kernel
theorem dX4_init_4 : decode cX4_init 4 = .ok (.aload_n 0, 1) := by decide +kernel
theorem dX4_init_5 : decode cX4_init 5 = .ok (.sipush 156, 3) := by decide +kernel
theorem dX4_init_8 : decode cX4_init 8 = .ok (.anewarray 11, 3) := by decide +kernel
theorem dX4_init_11 : decode cX4_init 11 = .ok (.putfield 13, 3) := by decide +kernel
theorem dX4_init_14 : decode cX4_init 14 = .ok (.return_, 1) := by decide +kernel
theorem dX4_tableFor_0 : decode cX4_tableFor 0 = .ok (.aload_n 1, 1) := by decide +kernel
theorem dX4_tableFor_1 : decode cX4_tableFor 1 = .ok (.getfield 17, 3) := by decide +kernel
theorem dX4_tableFor_4 : decode cX4_tableFor 4 = .ok (.ifCond .ne 7, 3) := by decide +kernel
theorem dX4_tableFor_7 : decode cX4_tableFor 7 = .ok (.iconst 1, 1) := by decide +kernel
theorem dX4_tableFor_8 : decode cX4_tableFor 8 = .ok (.goto 4, 3) := by decide +kernel
theorem dX4_tableFor_11 : decode cX4_tableFor 11 = .ok (.iconst 0, 1) := by decide +kernel
theorem dX4_tableFor_12 : decode cX4_tableFor 12 = .ok (.istore_n 3, 1) := by decide +kernel
