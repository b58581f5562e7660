theorem dX4_tableFor_13 : decode cX4_tableFor 13 = .ok (.iload_n 3, 1) := by decide +kernel
theorem dX4_tableFor_14 : decode cX4_tableFor 14 = .ok (.ifCond .eq 16, 3) := by decide +kernel
theorem dX4_tableFor_17 : decode cX4_tableFor 17 = .ok (.iconst 0, 1) := by decide +kernel
theorem dX4_tableFor_18 : decode cX4_tableFor 18 = .ok (.iload_n 2, 1) := by decide +kernel
theorem dX4_tableFor_19 : decode cX4_tableFor 19 = .ok (.bipush 24, 2) := by decide +kernel
theorem dX4_tableFor_21 : decode cX4_tableFor 21 = .ok (.invokestatic 23, 3) := by decide +kernel
theorem dX4_tableFor_24 : decode cX4_tableFor 24 = .ok (.invokestatic 29, 3) := by decide +kernel
theorem dX4_tableFor_27 : decode cX4_tableFor 27 = .ok (.goto 5, 3) := by decide +kernel
theorem dX4_tableFor_30 : decode cX4_tableFor 30 = .ok (.bipush 8, 2) := by decide +kernel
theorem dX4_tableFor_32 : decode cX4_tableFor 32 = .ok (.istore 4, 2) := by decide +kernel
theorem dX4_tableFor_34 : decode cX4_tableFor 34 = .ok (.iload_n 3, 1) := by decide +kernel
theorem dX4_tableFor_35 : decode cX4_tableFor 35 = .ok (.ifCond .eq 8, 3) := by decide +kernel
theorem dX4_tableFor_38 : decode cX4_tableFor 38 = .ok (.iload 4, 2) := by decide +kernel
theorem dX4_tableFor_40 : decode cX4_tableFor 40 = .ok (.goto 5, 3) := by decide +kernel
theorem dX4_tableFor_43 : decode cX4_tableFor 43 = .ok (.bipush 25, 2) := by decide +kernel
theorem dX4_tableFor_45 : decode cX4_tableFor 45 = .ok (.istore 5, 2) := by decide +kernel
theorem dX4_tableFor_47 : decode cX4_tableFor 47 = .ok (.aload_n 1, 1) := by decide +kernel
theorem dX4_tableFor_48 : decode cX4_tableFor 48 = .ok (.getfield 32, 3) := by decide +kernel
theorem dX4_tableFor_51 : decode cX4_tableFor 51 = .ok (.iconst 1, 1) := by decide +kernel
theorem dX4_tableFor_52 : decode cX4_tableFor 52 = .ok (.isub, 1) := by decide +kernel
theorem dX4_tableFor_53 : decode cX4_tableFor 53 = .ok (.iconst 2, 1) := by decide +kernel
theorem dX4_tableFor_54 : decode cX4_tableFor 54 = .ok (.imul, 1) := by decide +kernel
theorem dX4_tableFor_55 : decode cX4_tableFor 55 = .ok (.aload_n 1, 1) := by decide +kernel
theorem dX4_tableFor_56 : decode cX4_tableFor 56 = .ok (.getfield 35, 3) := by decide +kernel
theorem dX4_tableFor_59 : decode cX4_tableFor 59 = .ok (.iadd, 1) := by decide +kernel
theorem dX4_tableFor_60 : decode cX4_tableFor 60 = .ok (.bipush 26, 2) := by decide +kernel
theorem dX4_tableFor_62 : decode cX4_tableFor 62 = .ok (.imul, 1) := by decide +kernel
theorem dX4_tableFor_63 : decode cX4_tableFor 63 = .ok (.iload 5, 2) := by decide +kernel
theorem dX4_tableFor_65 : decode cX4_tableFor 65 = .ok (.iadd, 1) := by decide +kernel
theorem dX4_tableFor_66 : decode cX4_tableFor 66 = .ok (.istore 6, 2) := by decide +kernel
theorem dX4_tableFor_68 : decode cX4_tableFor 68 = .ok (.iload 6, 2) := by decide +kernel
theorem dX4_tableFor_70 : decode cX4_tableFor 70 = .ok (.ifCond .lt 17, 3) := by decide +kernel
theorem dX4_tableFor_73 : decode cX4_tableFor 73 = .ok (.iload 6, 2) := by decide +kernel
theorem dX4_tableFor_75 : decode cX4_tableFor 75 = .ok (.aload_n 0, 1) := by decide +kernel
theorem dX4_tableFor_76 : decode cX4_tableFor 76 = .ok (.getfield 13, 3) := by decide +kernel
theorem dX4_tableFor_79 : decode cX4_tableFor 79 = .ok (.arraylength, 1) := by decide +kernel
theorem dX4_tableFor_80 : decode cX4_tableFor 80 = .ok (.if_icmp .ge 7, 3) := by decide +kernel
theorem dX4_tableFor_83 : decode cX4_tableFor 83 = .ok (.iconst 1, 1) := by decide +kernel
theorem dX4_tableFor_84 : decode cX4_tableFor 84 = .ok (.goto 4, 3) := by decide +kernel
theorem dX4_tableFor_87 : decode cX4_tableFor 87 = .ok (.iconst 0, 1) := by decide +kernel
theorem dX4_tableFor_88 : decode cX4_tableFor 88 = .ok (.istore 7, 2) := by decide +kernel
theorem dX4_tableFor_90 : decode cX4_tableFor 90 = .ok (.iload 7, 2) := by decide +kernel
theorem dX4_tableFor_92 : decode cX4_tableFor 92 = .ok (.ifCond .eq 13, 3) := by decide +kernel
theorem dX4_tableFor_95 : decode cX4_tableFor 95 = .ok (.aload_n 0, 1) := by decide +kernel
theorem dX4_tableFor_96 : decode cX4_tableFor 96 = .ok (.getfield 13, 3) := by decide +kernel
theorem dX4_tableFor_99 : decode cX4_tableFor 99 = .ok (.iload 6, 2) := by decide +kernel
theorem dX4_tableFor_101 : decode cX4_tableFor 101 = .ok (.aaload, 1) := by decide +kernel
theorem dX4_tableFor_102 : decode cX4_tableFor 102 = .ok (.goto 4, 3) := by decide +kernel
theorem dX4_tableFor_105 : decode cX4_tableFor 105 = .ok (.aconst_null, 1) := by decide +kernel
theorem dX4_tableFor_106 : decode cX4_tableFor 106 = .ok (.astore 8, 2) := by decide +kernel
theorem dX4_tableFor_108 : decode cX4_tableFor 108 = .ok (.aload 8, 2) := by decide +kernel
theorem dX4_tableFor_110 : decode cX4_tableFor 110 = .ok (.ifnull 6, 3) := by decide +kernel
theorem dX4_tableFor_113 : decode cX4_tableFor 113 = .ok (.aload 8, 2) := by decide +kernel
theorem dX4_tableFor_115 : decode cX4_tableFor 115 = .ok (.areturn, 1) := by decide +kernel
theorem dX4_tableFor_116 : decode cX4_tableFor 116 = .ok (.new 11, 3) := by decide +kernel
theorem dX4_tableFor_119 : decode cX4_tableFor 119 = .ok (.dup, 1) := by decide +kernel
theorem dX4_tableFor_120 : decode cX4_tableFor 120 = .ok (.aload_n 1, 1) := by decide +kernel
theorem dX4_tableFor_121 : decode cX4_tableFor 121 = .ok (.getfield 32, 3) := by decide +kernel
theorem dX4_tableFor_124 : decode cX4_tableFor 124 = .ok (.aload_n 1, 1) := by decide +kernel
theorem dX4_tableFor_125 : decode cX4_tableFor 125 = .ok (.getfield 35, 3) := by decide +kernel
theorem dX4_tableFor_128 : decode cX4_tableFor 128 = .ok (.iload_n 3, 1) := by decide +kernel
theorem dX4_tableFor_129 : decode cX4_tableFor 129 = .ok (.iload 4, 2) := by decide +kernel
theorem dX4_tableFor_131 : decode cX4_tableFor 131 = .ok (.invokespecial 38, 3) := by decide +kernel
theorem dX4_tableFor_134 : decode cX4_tableFor 134 = .ok (.astore 9, 2) := by decide +kernel
theorem dX4_tableFor_136 : decode cX4_tableFor 136 = .ok (.aload 9, 2) := by decide +kernel
theorem dX4_tableFor_138 : decode cX4_tableFor 138 = .ok (.invokevirtual 41, 3) := by decide +kernel
theorem dX4_tableFor_141 : decode cX4_tableFor 141 = .ok (.iload 7, 2) := by decide +kernel
theorem dX4_tableFor_143 : decode cX4_tableFor 143 = .ok (.ifCond .eq 12, 3) := by decide +kernel
theorem dX4_tableFor_146 : decode cX4_tableFor 146 = .ok (.aload_n 0, 1) := by decide +kernel
theorem dX4_tableFor_147 : decode cX4_tableFor 147 = .ok (.getfield 13, 3) := by decide +kernel
theorem dX4_tableFor_150 : decode cX4_tableFor 150 = .ok (.iload 6, 2) := by decide +kernel
theorem dX4_tableFor_152 : decode cX4_tableFor 152 = .ok (.aload 9, 2) := by decide +kernel
theorem dX4_tableFor_154 : decode cX4_tableFor 154 = .ok (.aastore, 1) := by decide +kernel
theorem dX4_tableFor_155 : decode cX4_tableFor 155 = .ok (.aload 9, 2) := by decide +kernel
theorem dX4_tableFor_157 : decode cX4_tableFor 157 = .ok (.areturn, 1) := by decide +kernel
theorem dX5_init_0 : decode cX5_init 0 = .ok (.aload_n 0, 1) := by decide +kernel
theorem dX5_init_1 : decode cX5_init 1 = .ok (.invokespecial 3, 3) := by decide +kernel
theorem dX5_init_4 : decode cX5_init 4 = .ok (.aload_n 0, 1) := by decide +kernel
theorem dX5_init_5 : decode cX5_init 5 = .ok (.bipush 60, 2) := by decide +kernel
theorem dX5_init_7 : decode cX5_init 7 = .ok (.newarray .int, 2) := by decide +kernel
theorem dX5_init_9 : decode cX5_init 9 = .ok (.putfield 9, 3) := by decide +kernel
theorem dX5_init_12 : decode cX5_init 12 = .ok (.return_, 1) := by decide +kernel
theorem dX5_countSigns_0 : decode cX5_countSigns 0 = .ok (.iconst 0, 1) := by decide +kernel
theorem dX5_countSigns_1 : decode cX5_countSigns 1 = .ok (.istore_n 2, 1) := by decide +kernel
theorem dX5_countSigns_2 : decode cX5_countSigns 2 = .ok (.lload_n 0, 1) := by decide +kernel
theorem dX5_countSigns_3 : decode cX5_countSigns 3 = .ok (.lstore_n 3, 1) := by decide +kernel
theorem dX5_countSigns_4 : decode cX5_countSigns 4 = .ok (.iload_n 2, 1) := by decide +kernel
theorem dX5_countSigns_5 : decode cX5_countSigns 5 = .ok (.bipush 8, 2) := by decide +kernel
theorem dX5_countSigns_7 : decode cX5_countSigns 7 = .ok (.if_icmp .ge 44, 3) := by decide +kernel
theorem dX5_countSigns_10 : decode cX5_countSigns 10 = .ok (.lload_n 3, 1) := by decide +kernel
theorem dX5_countSigns_11 : decode cX5_countSigns 11 = .ok (.lconst 0, 1) := by decide +kernel
theorem dX5_countSigns_12 : decode cX5_countSigns 12 = .ok (.lcmp, 1) := by decide +kernel
theorem dX5_countSigns_13 : decode cX5_countSigns 13 = .ok (.ifCond .eq 38, 3) := by decide +kernel
theorem dX5_countSigns_16 : decode cX5_countSigns 16 = .ok (.lload_n 3, 1) := by decide +kernel
theorem dX5_countSigns_17 : decode cX5_countSigns 17 = .ok (.ldc2_w 15, 3) := by decide +kernel
theorem dX5_countSigns_20 : decode cX5_countSigns 20 = .ok (.land, 1) := by decide +kernel
theorem dX5_countSigns_21 : decode cX5_countSigns 21 = .ok (.l2i, 1) := by decide +kernel
theorem dX5_countSigns_22 : decode cX5_countSigns 22 = .ok (.istore 5, 2) := by decide +kernel
theorem dX5_countSigns_24 : decode cX5_countSigns 24 = .ok (.iload 5, 2) := by decide +kernel
theorem dX5_countSigns_26 : decode cX5_countSigns 26 = .ok (.bipush 33, 2) := by decide +kernel
theorem dX5_countSigns_28 : decode cX5_countSigns 28 = .ok (.if_icmp .lt 10, 3) := by decide +kernel
theorem dX5_countSigns_31 : decode cX5_countSigns 31 = .ok (.iload 5, 2) := by decide +kernel
theorem dX5_countSigns_33 : decode cX5_countSigns 33 = .ok (.bipush 126, 2) := by decide +kernel
theorem dX5_countSigns_35 : decode cX5_countSigns 35 = .ok (.if_icmp .le 5, 3) := by decide +kernel
theorem dX5_countSigns_38 : decode cX5_countSigns 38 = .ok (.iconst 0, 1) := by decide +kernel
theorem dX5_countSigns_39 : decode cX5_countSigns 39 = .ok (.ireturn, 1) := by decide +kernel
theorem dX5_countSigns_40 : decode cX5_countSigns 40 = .ok (.lload_n 3, 1) := by decide +kernel
theorem dX5_countSigns_41 : decode cX5_countSigns 41 = .ok (.bipush 8, 2) := by decide +kernel
theorem dX5_countSigns_43 : decode cX5_countSigns 43 = .ok (.lushr, 1) := by decide +kernel
theorem dX5_countSigns_44 : decode cX5_countSigns 44 = .ok (.lstore_n 3, 1) := by decide +kernel
theorem dX5_countSigns_45 : decode cX5_countSigns 45 = .ok (.iinc 2 1, 3) := by decide +kernel
theorem dX5_countSigns_48 : decode cX5_countSigns 48 = .ok (.goto (-44), 3) := by decide +kernel
theorem dX5_countSigns_51 : decode cX5_countSigns 51 = .ok (.iload_n 2, 1) := by decide +kernel
theorem dX5_countSigns_52 : decode cX5_countSigns 52 = .ok (.ireturn, 1) := by decide +kernel
theorem dX5_append_0 : decode cX5_append 0 = .ok (.iload_n 3, 1) := by decide +kernel
theorem dX5_append_1 : decode cX5_append 1 = .ok (.iconst 1, 1) := by decide +kernel
theorem dX5_append_2 : decode cX5_append 2 = .ok (.isub, 1) := by decide +kernel
theorem dX5_append_3 : decode cX5_append 3 = .ok (.istore 4, 2) := by decide +kernel
theorem dX5_append_5 : decode cX5_append 5 = .ok (.iload 4, 2) := by decide +kernel
theorem dX5_append_7 : decode cX5_append 7 = .ok (.ifCond .lt 59, 3) := by decide +kernel
theorem dX5_append_10 : decode cX5_append 10 = .ok (.aload_n 0, 1) := by decide +kernel
theorem dX5_append_11 : decode cX5_append 11 = .ok (.getfield 17, 3) := by decide +kernel
theorem dX5_append_14 : decode cX5_append 14 = .ok (.ifCond .lt 46, 3) := by decide +kernel
theorem dX5_append_17 : decode cX5_append 17 = .ok (.aload_n 0, 1) := by decide +kernel
theorem dX5_append_18 : decode cX5_append 18 = .ok (.getfield 17, 3) := by decide +kernel
theorem dX5_append_21 : decode cX5_append 21 = .ok (.aload_n 0, 1) := by decide +kernel
theorem dX5_append_22 : decode cX5_append 22 = .ok (.getfield 9, 3) := by decide +kernel
theorem dX5_append_25 : decode cX5_append 25 = .ok (.arraylength, 1) := by decide +kernel
theorem dX5_append_26 : decode cX5_append 26 = .ok (.if_icmp .ge 34, 3) := by decide +kernel
theorem dX5_append_29 : decode cX5_append 29 = .ok (.aload_n 0, 1) := by decide +kernel
theorem dX5_append_30 : decode cX5_append 30 = .ok (.getfield 9, 3) := by decide +kernel
theorem dX5_append_33 : decode cX5_append 33 = .ok (.aload_n 0, 1) := by decide +kernel
theorem dX5_append_34 : decode cX5_append 34 = .ok (.getfield 17, 3) := by decide +kernel
theorem dX5_append_37 : decode cX5_append 37 = .ok (.lload_n 1, 1) := by decide +kernel
theorem dX5_append_38 : decode cX5_append 38 = .ok (.bipush 8, 2) := by decide +kernel
theorem dX5_append_40 : decode cX5_append 40 = .ok (.iload 4, 2) := by decide +kernel
theorem dX5_append_42 : decode cX5_append 42 = .ok (.imul, 1) := by decide +kernel
theorem dX5_append_43 : decode cX5_append 43 = .ok (.lushr, 1) := by decide +kernel
theorem dX5_append_44 : decode cX5_append 44 = .ok (.ldc2_w 15, 3) := by decide +kernel
theorem dX5_append_47 : decode cX5_append 47 = .ok (.land, 1) := by decide +kernel
theorem dX5_append_48 : decode cX5_append 48 = .ok (.l2i, 1) := by decide +kernel
theorem dX5_append_49 : decode cX5_append 49 = .ok (.iastore, 1) := by decide +kernel
theorem dX5_append_50 : decode cX5_append 50 = .ok (.aload_n 0, 1) := by decide +kernel
theorem dX5_append_51 : decode cX5_append 51 = .ok (.dup, 1) := by decide +kernel
theorem dX5_append_52 : decode cX5_append 52 = .ok (.getfield 17, 3) := by decide +kernel
theorem dX5_append_55 : decode cX5_append 55 = .ok (.iconst 1, 1) := by decide +kernel
theorem dX5_append_56 : decode cX5_append 56 = .ok (.iadd, 1) := by decide +kernel
theorem dX5_append_57 : decode cX5_append 57 = .ok (.putfield 17, 3) := by decide +kernel
theorem dX5_append_60 : decode cX5_append 60 = .ok (.iinc 4 (-1), 3) := by decide +kernel
theorem dX5_append_63 : decode cX5_append 63 = .ok (.goto (-58), 3) := by decide +kernel
theorem dX5_append_66 : decode cX5_append 66 = .ok (.return_, 1) := by decide +kernel
theorem dX5_clear_0 : decode cX5_clear 0 = .ok (.aload_n 0, 1) := by decide +kernel
theorem dX5_clear_1 : decode cX5_clear 1 = .ok (.iconst 0, 1) := by decide +kernel
theorem dX5_clear_2 : decode cX5_clear 2 = .ok (.putfield 17, 3) := by decide +kernel
theorem dX5_clear_5 : decode cX5_clear 5 = .ok (.return_, 1) := by decide +kernel
theorem dX5_signAt_0 : decode cX5_signAt 0 = .ok (.iload_n 1, 1) := by decide +kernel
theorem dX5_signAt_1 : decode cX5_signAt 1 = .ok (.ifCond .lt 21, 3) := by decide +kernel
theorem dX5_signAt_4 : decode cX5_signAt 4 = .ok (.iload_n 1, 1) := by decide +kernel
theorem dX5_signAt_5 : decode cX5_signAt 5 = .ok (.aload_n 0, 1) := by decide +kernel
theorem dX5_signAt_6 : decode cX5_signAt 6 = .ok (.getfield 9, 3) := by decide +kernel
theorem dX5_signAt_9 : decode cX5_signAt 9 = .ok (.arraylength, 1) := by decide +kernel
theorem dX5_signAt_10 : decode cX5_signAt 10 = .ok (.if_icmp .ge 12, 3) := by decide +kernel
theorem dX5_signAt_13 : decode cX5_signAt 13 = .ok (.aload_n 0, 1) := by decide +kernel
theorem dX5_signAt_14 : decode cX5_signAt 14 = .ok (.getfield 9, 3) := by decide +kernel
theorem dX5_signAt_17 : decode cX5_signAt 17 = .ok (.iload_n 1, 1) := by decide +kernel
theorem dX5_signAt_18 : decode cX5_signAt 18 = .ok (.iaload, 1) := by decide +kernel
theorem dX5_signAt_19 : decode cX5_signAt 19 = .ok (.goto 4, 3) := by decide +kernel
theorem dX5_signAt_22 : decode cX5_signAt 22 = .ok (.iconst 0, 1) := by decide +kernel
theorem dX5_signAt_23 : decode cX5_signAt 23 = .ok (.ireturn, 1) := by decide +kernel
theorem dX5_firstFault_0 : decode cX5_firstFault 0 = .ok (.iconst 0, 1) := by decide +kernel
theorem dX5_firstFault_1 : decode cX5_firstFault 1 = .ok (.istore_n 1, 1) := by decide +kernel
theorem dX5_firstFault_2 : decode cX5_firstFault 2 = .ok (.iconst 0, 1) := by decide +kernel
theorem dX5_firstFault_3 : decode cX5_firstFault 3 = .ok (.istore_n 2, 1) := by decide +kernel
theorem dX5_firstFault_4 : decode cX5_firstFault 4 = .ok (.iconst 0, 1) := by decide +kernel
theorem dX5_firstFault_5 : decode cX5_firstFault 5 = .ok (.istore_n 3, 1) := by decide +kernel
theorem dX5_firstFault_6 : decode cX5_firstFault 6 = .ok (.iload_n 3, 1) := by decide +kernel
theorem dX5_firstFault_7 : decode cX5_firstFault 7 = .ok (.aload_n 0, 1) := by decide +kernel
theorem dX5_firstFault_8 : decode cX5_firstFault 8 = .ok (.getfield 17, 3) := by decide +kernel
theorem dX5_firstFault_11 : decode cX5_firstFault 11 = .ok (.if_icmp .ge 82, 3) := by decide +kernel
theorem dX5_firstFault_14 : decode cX5_firstFault 14 = .ok (.aload_n 0, 1) := by decide +kernel
theorem dX5_firstFault_15 : decode cX5_firstFault 15 = .ok (.iload_n 3, 1) := by decide +kernel
theorem dX5_firstFault_16 : decode cX5_firstFault 16 = .ok (.invokevirtual 21, 3) := by decide +kernel
theorem dX5_firstFault_19 : decode cX5_firstFault 19 = .ok (.istore 4, 2) := by decide +kernel
theorem dX5_firstFault_21 : decode cX5_firstFault 21 = .ok (.iload 4, 2) := by decide +kernel
theorem dX5_firstFault_23 : decode cX5_firstFault 23 = .ok (.iload_n 2, 1) := by decide +kernel
theorem dX5_firstFault_24 : decode cX5_firstFault 24 = .ok (.invokestatic 25, 3) := by decide +kernel
theorem dX5_firstFault_27 : decode cX5_firstFault 27 = .ok (.ifCond .eq 23, 3) := by decide +kernel
theorem dX5_firstFault_30 : decode cX5_firstFault 30 = .ok (.iload 4, 2) := by decide +kernel
theorem dX5_firstFault_32 : decode cX5_firstFault 32 = .ok (.bipush 49, 2) := by decide +kernel
theorem dX5_firstFault_34 : decode cX5_firstFault 34 = .ok (.if_icmp .ne 11, 3) := by decide +kernel
theorem dX5_firstFault_37 : decode cX5_firstFault 37 = .ok (.iload_n 2, 1) := by decide +kernel
theorem dX5_firstFault_38 : decode cX5_firstFault 38 = .ok (.ifCond .ne 7, 3) := by decide +kernel
theorem dX5_firstFault_41 : decode cX5_firstFault 41 = .ok (.iconst 1, 1) := by decide +kernel
theorem dX5_firstFault_42 : decode cX5_firstFault 42 = .ok (.goto 4, 3) := by decide +kernel
theorem dX5_firstFault_45 : decode cX5_firstFault 45 = .ok (.iconst 2, 1) := by decide +kernel
theorem dX5_firstFault_46 : decode cX5_firstFault 46 = .ok (.istore_n 2, 1) := by decide +kernel
theorem dX5_firstFault_47 : decode cX5_firstFault 47 = .ok (.goto 40, 3) := by decide +kernel
theorem dX5_firstFault_50 : decode cX5_firstFault 50 = .ok (.iload_n 2, 1) := by decide +kernel
theorem dX5_firstFault_51 : decode cX5_firstFault 51 = .ok (.ifCond .eq 34, 3) := by decide +kernel
theorem dX5_firstFault_54 : decode cX5_firstFault 54 = .ok (.iload 4, 2) := by decide +kernel
theorem dX5_firstFault_56 : decode cX5_firstFault 56 = .ok (.iload_n 1, 1) := by decide +kernel
theorem dX5_firstFault_57 : decode cX5_firstFault 57 = .ok (.ifCond .eq 8, 3) := by decide +kernel
theorem dX5_firstFault_60 : decode cX5_firstFault 60 = .ok (.bipush 44, 2) := by decide +kernel
theorem dX5_firstFault_62 : decode cX5_firstFault 62 = .ok (.goto 5, 3) := by decide +kernel
theorem dX5_firstFault_65 : decode cX5_firstFault 65 = .ok (.bipush 58, 2) := by decide +kernel
theorem dX5_firstFault_67 : decode cX5_firstFault 67 = .ok (.if_icmp .ne 18, 3) := by decide +kernel
theorem dX5_firstFault_70 : decode cX5_firstFault 70 = .ok (.iload_n 1, 1) := by decide +kernel
theorem dX5_firstFault_71 : decode cX5_firstFault 71 = .ok (.ifCond .ne 7, 3) := by decide +kernel
theorem dX5_firstFault_74 : decode cX5_firstFault 74 = .ok (.iconst 1, 1) := by decide +kernel
theorem dX5_firstFault_75 : decode cX5_firstFault 75 = .ok (.goto 4, 3) := by decide +kernel
theorem dX5_firstFault_78 : decode cX5_firstFault 78 = .ok (.iconst 0, 1) := by decide +kernel
theorem dX5_firstFault_79 : decode cX5_firstFault 79 = .ok (.istore_n 1, 1) := by decide +kernel
theorem dX5_firstFault_80 : decode cX5_firstFault 80 = .ok (.iconst 0, 1) := by decide +kernel
theorem dX5_firstFault_81 : decode cX5_firstFault 81 = .ok (.istore_n 2, 1) := by decide +kernel
theorem dX5_firstFault_82 : decode cX5_firstFault 82 = .ok (.goto 5, 3) := by decide +kernel
theorem dX5_firstFault_85 : decode cX5_firstFault 85 = .ok (.iload_n 3, 1) := by decide +kernel
theorem dX5_firstFault_86 : decode cX5_firstFault 86 = .ok (.ireturn, 1) := by decide +kernel
theorem dX5_firstFault_87 : decode cX5_firstFault 87 = .ok (.iinc 3 1, 3) := by decide +kernel
theorem dX5_firstFault_90 : decode cX5_firstFault 90 = .ok (.goto (-84), 3) := by decide +kernel
theorem dX5_firstFault_93 : decode cX5_firstFault 93 = .ok (.iload_n 1, 1) := by decide +kernel
theorem dX5_firstFault_94 : decode cX5_firstFault 94 = .ok (.ifCond .eq 13, 3) := by decide +kernel
theorem dX5_firstFault_97 : decode cX5_firstFault 97 = .ok (.iload_n 2, 1) := by decide +kernel
theorem dX5_firstFault_98 : decode cX5_firstFault 98 = .ok (.ifCond .eq 9, 3) := by decide +kernel
theorem dX5_firstFault_101 : decode cX5_firstFault 101 = .ok (.sipush (-1006), 3) := by decide +kernel
theorem dX5_firstFault_104 : decode cX5_firstFault 104 = .ok (.goto 7, 3) := by decide +kernel
theorem dX5_firstFault_107 : decode cX5_firstFault 107 = .ok (.aload_n 0, 1) := by decide +kernel
theorem dX5_firstFault_108 : decode cX5_firstFault 108 = .ok (.getfield 17, 3) := by decide +kernel
theorem dX5_firstFault_111 : decode cX5_firstFault 111 = .ok (.ireturn, 1) := by decide +kernel
theorem dX5_canStandAsDigit_0 : decode cX5_canStandAsDigit 0 = .ok (.iload_n 1, 1) := by decide +kernel
theorem dX5_canStandAsDigit_1 : decode cX5_canStandAsDigit 1 = .ok (.ifCond .ne 21, 3) := by decide +kernel
theorem dX5_canStandAsDigit_4 : decode cX5_canStandAsDigit 4 = .ok (.iload_n 0, 1) := by decide +kernel
theorem dX5_canStandAsDigit_5 : decode cX5_canStandAsDigit 5 = .ok (.bipush 48, 2) := by decide +kernel
theorem dX5_canStandAsDigit_7 : decode cX5_canStandAsDigit 7 = .ok (.if_icmp .lt 13, 3) := by decide +kernel
theorem dX5_canStandAsDigit_10 : decode cX5_canStandAsDigit 10 = .ok (.iload_n 0, 1) := by decide +kernel
theorem dX5_canStandAsDigit_11 : decode cX5_canStandAsDigit 11 = .ok (.bipush 57, 2) := by decide +kernel
theorem dX5_canStandAsDigit_13 : decode cX5_canStandAsDigit 13 = .ok (.if_icmp .gt 7, 3) := by decide +kernel
theorem dX5_canStandAsDigit_16 : decode cX5_canStandAsDigit 16 = .ok (.iconst 1, 1) := by decide +kernel
theorem dX5_canStandAsDigit_17 : decode cX5_canStandAsDigit 17 = .ok (.goto 4, 3) := by decide +kernel
theorem dX5_canStandAsDigit_20 : decode cX5_canStandAsDigit 20 = .ok (.iconst 0, 1) := by decide +kernel
theorem dX5_canStandAsDigit_21 : decode cX5_canStandAsDigit 21 = .ok (.ireturn, 1) := by decide +kernel
theorem dX5_canStandAsDigit_22 : decode cX5_canStandAsDigit 22 = .ok (.iload_n 1, 1) := by decide +kernel
theorem dX5_canStandAsDigit_23 : decode cX5_canStandAsDigit 23 = .ok (.iconst 1, 1) := by decide +kernel
theorem dX5_canStandAsDigit_24 : decode cX5_canStandAsDigit 24 = .ok (.if_icmp .ne 19, 3) := by decide +kernel
theorem dX5_canStandAsDigit_27 : decode cX5_canStandAsDigit 27 = .ok (.iload_n 0, 1) := by decide +kernel
theorem dX5_canStandAsDigit_28 : decode cX5_canStandAsDigit 28 = .ok (.bipush 48, 2) := by decide +kernel
theorem dX5_canStandAsDigit_30 : decode cX5_canStandAsDigit 30 = .ok (.if_icmp .lt 13, 3) := by decide +kernel
theorem dX5_canStandAsDigit_33 : decode cX5_canStandAsDigit 33 = .ok (.iload_n 0, 1) := by decide +kernel
theorem dX5_canStandAsDigit_34 : decode cX5_canStandAsDigit 34 = .ok (.bipush 52, 2) := by decide +kernel
theorem dX5_canStandAsDigit_36 : decode cX5_canStandAsDigit 36 = .ok (.if_icmp .gt 7, 3) := by decide +kernel
theorem dX5_canStandAsDigit_39 : decode cX5_canStandAsDigit 39 = .ok (.iconst 1, 1) := by decide +kernel
theorem dX5_canStandAsDigit_40 : decode cX5_canStandAsDigit 40 = .ok (.goto 4, 3) := by decide +kernel
theorem dX5_canStandAsDigit_43 : decode cX5_canStandAsDigit 43 = .ok (.iconst 0, 1) := by decide +kernel
theorem dX5_canStandAsDigit_44 : decode cX5_canStandAsDigit 44 = .ok (.ireturn, 1) := by decide +kernel
theorem dX6_init_0 : decode cX6_init 0 = .ok (.aload_n 0, 1) := by decide +kernel
theorem dX6_init_1 : decode cX6_init 1 = .ok (.invokespecial 3, 3) := by decide +kernel
theorem dX6_init_4 : decode cX6_init 4 = .ok (.aload_n 0, 1) := by decide +kernel
theorem dX6_init_5 : decode cX6_init 5 = .ok (.iconst 4, 1) := by decide +kernel
theorem dX6_init_6 : decode cX6_init 6 = .ok (.putfield 9, 3) := by decide +kernel
theorem dX6_init_9 : decode cX6_init 9 = .ok (.aload_n 0, 1) := by decide +kernel
theorem dX6_init_10 : decode cX6_init 10 = .ok (.iconst 4, 1) := by decide +kernel
theorem dX6_init_11 : decode cX6_init 11 = .ok (.putfield 15, 3) := by decide +kernel
theorem dX6_init_14 : decode cX6_init 14 = .ok (.return_, 1) := by decide +kernel
theorem dX6_copyFrom_0 : decode cX6_copyFrom 0 = .ok (.aload_n 0, 1) := by decide +kernel
theorem dX6_copyFrom_1 : decode cX6_copyFrom 1 = .ok (.aload_n 1, 1) := by decide +kernel
theorem dX6_copyFrom_2 : decode cX6_copyFrom 2 = .ok (.getfield 9, 3) := by decide +kernel
theorem dX6_copyFrom_5 : decode cX6_copyFrom 5 = .ok (.putfield 9, 3) := by decide +kernel
theorem dX6_copyFrom_8 : decode cX6_copyFrom 8 = .ok (.aload_n 0, 1) := by decide +kernel
theorem dX6_copyFrom_9 : decode cX6_copyFrom 9 = .ok (.aload_n 1, 1) := by decide +kernel
theorem dX6_copyFrom_10 : decode cX6_copyFrom 10 = .ok (.getfield 15, 3) := by decide +kernel
theorem dX6_copyFrom_13 : decode cX6_copyFrom 13 = .ok (.putfield 15, 3) := by decide +kernel
theorem dX6_copyFrom_16 : decode cX6_copyFrom 16 = .ok (.aload_n 0, 1) := by decide +kernel
theorem dX6_copyFrom_17 : decode cX6_copyFrom 17 = .ok (.aload_n 1, 1) := by decide +kernel
theorem dX6_copyFrom_18 : decode cX6_copyFrom 18 = .ok (.getfield 18, 3) := by decide +kernel
theorem dX6_copyFrom_21 : decode cX6_copyFrom 21 = .ok (.putfield 18, 3) := by decide +kernel
theorem dX6_copyFrom_24 : decode cX6_copyFrom 24 = .ok (.aload_n 0, 1) := by decide +kernel
theorem dX6_copyFrom_25 : decode cX6_copyFrom 25 = .ok (.aload_n 1, 1) := by decide +kernel
theorem dX6_copyFrom_26 : decode cX6_copyFrom 26 = .ok (.getfield 21, 3) := by decide +kernel
theorem dX6_copyFrom_29 : decode cX6_copyFrom 29 = .ok (.putfield 21, 3) := by decide +kernel
theorem dX6_copyFrom_32 : decode cX6_copyFrom 32 = .ok (.aload_n 0, 1) := by decide +kernel
theorem dX6_copyFrom_33 : decode cX6_copyFrom 33 = .ok (.aload_n 1, 1) := by decide +kernel
theorem dX6_copyFrom_34 : decode cX6_copyFrom 34 = .ok (.getfield 24, 3) := by decide +kernel
theorem dX6_copyFrom_37 : decode cX6_copyFrom 37 = .ok (.putfield 24, 3) := by decide +kernel
theorem dX6_copyFrom_40 : decode cX6_copyFrom 40 = .ok (.return_, 1) := by decide +kernel
theorem dX6_startAnew_0 : decode cX6_startAnew 0 = .ok (.aload_n 0, 1) := by decide +kernel
theorem dX6_startAnew_1 : decode cX6_startAnew 1 = .ok (.aload_n 0, 1) := by decide +kernel
theorem dX6_startAnew_2 : decode cX6_startAnew 2 = .ok (.getfield 9, 3) := by decide +kernel
theorem dX6_startAnew_5 : decode cX6_startAnew 5 = .ok (.putfield 15, 3) := by decide +kernel
theorem dX6_startAnew_8 : decode cX6_startAnew 8 = .ok (.aload_n 0, 1) := by decide +kernel
theorem dX6_startAnew_9 : decode cX6_startAnew 9 = .ok (.iconst 0, 1) := by decide +kernel
theorem dX6_startAnew_10 : decode cX6_startAnew 10 = .ok (.putfield 18, 3) := by decide +kernel
theorem dX6_startAnew_13 : decode cX6_startAnew 13 = .ok (.aload_n 0, 1) := by decide +kernel
theorem dX6_startAnew_14 : decode cX6_startAnew 14 = .ok (.iconst 0, 1) := by decide +kernel
theorem dX6_startAnew_15 : decode cX6_startAnew 15 = .ok (.putfield 21, 3) := by decide +kernel
theorem dX6_startAnew_18 : decode cX6_startAnew 18 = .ok (.return_, 1) := by decide +kernel
theorem dX7_init_0 : decode cX7_init 0 = .ok (.aload_n 0, 1) := by decide +kernel
theorem dX7_init_1 : decode cX7_init 1 = .ok (.invokespecial 1, 3) := by decide +kernel
theorem dX7_init_4 : decode cX7_init 4 = .ok (.aload_n 0, 1) := by decide +kernel
theorem dX7_init_5 : decode cX7_init 5 = .ok (.new 7, 3) := by decide +kernel
theorem dX7_init_8 : decode cX7_init 8 = .ok (.dup, 1) := by decide +kernel
theorem dX7_init_9 : decode cX7_init 9 = .ok (.invokespecial 9, 3) := by decide +kernel
theorem dX7_init_12 : decode cX7_init 12 = .ok (.putfield 10, 3) := by decide +kernel
theorem dX7_init_15 : decode cX7_init 15 = .ok (.return_, 1) := by decide +kernel
theorem dX8_init_0 : decode cX8_init 0 = .ok (.aload_n 0, 1) := by decide +kernel
theorem dX8_init_1 : decode cX8_init 1 = .ok (.invokespecial 3, 3) := by decide +kernel
theorem dX8_init_4 : decode cX8_init 4 = .ok (.aload_n 0, 1) := by decide +kernel
theorem dX8_init_5 : decode cX8_init 5 = .ok (.iload_n 1, 1) := by decide +kernel
theorem dX8_init_6 : decode cX8_init 6 = .ok (.putfield 9, 3) := by decide +kernel
theorem dX8_init_9 : decode cX8_init 9 = .ok (.aload_n 0, 1) := by decide +kernel
theorem dX8_init_10 : decode cX8_init 10 = .ok (.iload_n 2, 1) := by decide +kernel
theorem dX8_init_11 : decode cX8_init 11 = .ok (.putfield 15, 3) := by decide +kernel
theorem dX8_init_14 : decode cX8_init 14 = .ok (.aload_n 0, 1) := by decide +kernel
theorem dX8_init_15 : decode cX8_init 15 = .ok (.iload_n 3, 1) := by decide +kernel
theorem dX8_init_16 : decode cX8_init 16 = .ok (.putfield 18, 3) := by decide +kernel
theorem dX8_init_19 : decode cX8_init 19 = .ok (.aload_n 0, 1) := by decide +kernel
theorem dX8_init_20 : decode cX8_init 20 = .ok (.iload 4, 2) := by decide +kernel
theorem dX8_init_22 : decode cX8_init 22 = .ok (.putfield 22, 3) := by decide +kernel
theorem dX8_init_25 : decode cX8_init 25 = .ok (.iconst 0, 1) := by decide +kernel
theorem dX8_init_26 : decode cX8_init 26 = .ok (.iload_n 3, 1) := by decide +kernel
theorem dX8_init_27 : decode cX8_init 27 = .ok (.ifCond .eq 10, 3) := by decide +kernel
theorem dX8_init_30 : decode cX8_init 30 = .ok (.iload 4, 2) := by decide +kernel
theorem dX8_init_32 : decode cX8_init 32 = .ok (.iconst 1, 1) := by decide +kernel
theorem dX8_init_33 : decode cX8_init 33 = .ok (.iadd, 1) := by decide +kernel
theorem dX8_init_34 : decode cX8_init 34 = .ok (.goto 12, 3) := by decide +kernel
theorem dX8_init_37 : decode cX8_init 37 = .ok (.iload 4, 2) := by decide +kernel
theorem dX8_init_39 : decode cX8_init 39 = .ok (.iconst 1, 1) := by decide +kernel
theorem dX8_init_40 : decode cX8_init 40 = .ok (.iadd, 1) := by decide +kernel
theorem dX8_init_41 : decode cX8_init 41 = .ok (.iload 4, 2) := by decide +kernel
theorem dX8_init_43 : decode cX8_init 43 = .ok (.iconst 1, 1) := by decide +kernel
theorem dX8_init_44 : decode cX8_init 44 = .ok (.iadd, 1) := by decide +kernel
theorem dX8_init_45 : decode cX8_init 45 = .ok (.imul, 1) := by decide +kernel
theorem dX8_init_46 : decode cX8_init 46 = .ok (.invokestatic 25, 3) := by decide +kernel
theorem dX8_init_49 : decode cX8_init 49 = .ok (.istore 5, 2) := by decide +kernel
theorem dX8_init_51 : decode cX8_init 51 = .ok (.aload_n 0, 1) := by decide +kernel
theorem dX8_init_52 : decode cX8_init 52 = .ok (.iload 5, 2) := by decide +kernel
theorem dX8_init_54 : decode cX8_init 54 = .ok (.newarray .int, 2) := by decide +kernel
theorem dX8_init_56 : decode cX8_init 56 = .ok (.putfield 31, 3) := by decide +kernel
theorem dX8_init_59 : decode cX8_init 59 = .ok (.aload_n 0, 1) := by decide +kernel
theorem dX8_init_60 : decode cX8_init 60 = .ok (.iload 5, 2) := by decide +kernel
theorem dX8_init_62 : decode cX8_init 62 = .ok (.newarray .int, 2) := by decide +kernel
theorem dX8_init_64 : decode cX8_init 64 = .ok (.putfield 35, 3) := by decide +kernel
theorem dX8_init_67 : decode cX8_init 67 = .ok (.iconst 0, 1) := by decide +kernel
theorem dX8_init_68 : decode cX8_init 68 = .ok (.istore 6, 2) := by decide +kernel
theorem dX8_init_70 : decode cX8_init 70 = .ok (.iconst 0, 1) := by decide +kernel
theorem dX8_init_71 : decode cX8_init 71 = .ok (.istore 7, 2) := by decide +kernel
theorem dX8_init_73 : decode cX8_init 73 = .ok (.iload 7, 2) := by decide +kernel
theorem dX8_init_75 : decode cX8_init 75 = .ok (.iload 4, 2) := by decide +kernel
theorem dX8_init_77 : decode cX8_init 77 = .ok (.if_icmp .gt 78, 3) := by decide +kernel
theorem dX8_init_80 : decode cX8_init 80 = .ok (.iload_n 3, 1) := by decide +kernel
theorem dX8_init_81 : decode cX8_init 81 = .ok (.ifCond .eq 11, 3) := by decide +kernel
theorem dX8_init_84 : decode cX8_init 84 = .ok (.iload 4, 2) := by decide +kernel
theorem dX8_init_86 : decode cX8_init 86 = .ok (.iload 7, 2) := by decide +kernel
theorem dX8_init_88 : decode cX8_init 88 = .ok (.isub, 1) := by decide +kernel
theorem dX8_init_89 : decode cX8_init 89 = .ok (.goto 5, 3) := by decide +kernel
theorem dX8_init_92 : decode cX8_init 92 = .ok (.iload 4, 2) := by decide +kernel
theorem dX8_init_94 : decode cX8_init 94 = .ok (.istore 8, 2) := by decide +kernel
theorem dX8_init_96 : decode cX8_init 96 = .ok (.iload_n 3, 1) := by decide +kernel
theorem dX8_init_97 : decode cX8_init 97 = .ok (.ifCond .eq 8, 3) := by decide +kernel
theorem dX8_init_100 : decode cX8_init 100 = .ok (.iload 8, 2) := by decide +kernel
theorem dX8_init_102 : decode cX8_init 102 = .ok (.goto 4, 3) := by decide +kernel
theorem dX8_init_105 : decode cX8_init 105 = .ok (.iconst 0, 1) := by decide +kernel
theorem dX8_init_106 : decode cX8_init 106 = .ok (.istore 9, 2) := by decide +kernel
theorem dX8_init_108 : decode cX8_init 108 = .ok (.iload 9, 2) := by decide +kernel
theorem dX8_init_110 : decode cX8_init 110 = .ok (.iload 8, 2) := by decide +kernel
theorem dX8_init_112 : decode cX8_init 112 = .ok (.if_icmp .gt 37, 3) := by decide +kernel
theorem dX8_init_115 : decode cX8_init 115 = .ok (.iload 6, 2) := by decide +kernel
theorem dX8_init_117 : decode cX8_init 117 = .ok (.iload 5, 2) := by decide +kernel
theorem dX8_init_119 : decode cX8_init 119 = .ok (.if_icmp .ge 30, 3) := by decide +kernel
theorem dX8_init_122 : decode cX8_init 122 = .ok (.aload_n 0, 1) := by decide +kernel
theorem dX8_init_123 : decode cX8_init 123 = .ok (.getfield 31, 3) := by decide +kernel
theorem dX8_init_126 : decode cX8_init 126 = .ok (.iload 6, 2) := by decide +kernel
theorem dX8_init_128 : decode cX8_init 128 = .ok (.iload 7, 2) := by decide +kernel
theorem dX8_init_130 : decode cX8_init 130 = .ok (.iastore, 1) := by decide +kernel
theorem dX8_init_131 : decode cX8_init 131 = .ok (.aload_n 0, 1) := by decide +kernel
theorem dX8_init_132 : decode cX8_init 132 = .ok (.getfield 35, 3) := by decide +kernel
theorem dX8_init_135 : decode cX8_init 135 = .ok (.iload 6, 2) := by decide +kernel
theorem dX8_init_137 : decode cX8_init 137 = .ok (.iload 9, 2) := by decide +kernel
theorem dX8_init_139 : decode cX8_init 139 = .ok (.iastore, 1) := by decide +kernel
theorem dX8_init_140 : decode cX8_init 140 = .ok (.iinc 6 1, 3) := by decide +kernel
theorem dX8_init_143 : decode cX8_init 143 = .ok (.iinc 9 1, 3) := by decide +kernel
theorem dX8_init_146 : decode cX8_init 146 = .ok (.goto (-38), 3) := by decide +kernel
theorem dX8_init_149 : decode cX8_init 149 = .ok (.iinc 7 1, 3) := by decide +kernel
theorem dX8_init_152 : decode cX8_init 152 = .ok (.goto (-79), 3) := by decide +kernel
theorem dX8_init_155 : decode cX8_init 155 = .ok (.aload_n 0, 1) := by decide +kernel
theorem dX8_init_156 : decode cX8_init 156 = .ok (.iconst 0, 1) := by decide +kernel
theorem dX8_init_157 : decode cX8_init 157 = .ok (.iconst 4, 1) := by decide +kernel
theorem dX8_init_158 : decode cX8_init 158 = .ok (.iload_n 1, 1) := by decide +kernel
theorem dX8_init_159 : decode cX8_init 159 = .ok (.imul, 1) := by decide +kernel
theorem dX8_init_160 : decode cX8_init 160 = .ok (.iconst 2, 1) := by decide +kernel
theorem dX8_init_161 : decode cX8_init 161 = .ok (.iadd, 1) := by decide +kernel
theorem dX8_init_162 : decode cX8_init 162 = .ok (.iload 5, 2) := by decide +kernel
theorem dX8_init_164 : decode cX8_init 164 = .ok (.imul, 1) := by decide +kernel
theorem dX8_init_165 : decode cX8_init 165 = .ok (.invokestatic 25, 3) := by decide +kernel
theorem dX8_init_168 : decode cX8_init 168 = .ok (.newarray .int, 2) := by decide +kernel
theorem dX8_init_170 : decode cX8_init 170 = .ok (.putfield 38, 3) := by decide +kernel
theorem dX8_init_173 : decode cX8_init 173 = .ok (.iconst 0, 1) := by decide +kernel
theorem dX8_init_174 : decode cX8_init 174 = .ok (.istore 7, 2) := by decide +kernel
theorem dX8_init_176 : decode cX8_init 176 = .ok (.iload 7, 2) := by decide +kernel
theorem dX8_init_178 : decode cX8_init 178 = .ok (.aload_n 0, 1) := by decide +kernel
theorem dX8_init_179 : decode cX8_init 179 = .ok (.getfield 38, 3) := by decide +kernel
theorem dX8_init_182 : decode cX8_init 182 = .ok (.arraylength, 1) := by decide +kernel
theorem dX8_init_183 : decode cX8_init 183 = .ok (.if_icmp .ge 31, 3) := by decide +kernel
theorem dX8_init_186 : decode cX8_init 186 = .ok (.aload_n 0, 1) := by decide +kernel
theorem dX8_init_187 : decode cX8_init 187 = .ok (.getfield 38, 3) := by decide +kernel
theorem dX8_init_190 : decode cX8_init 190 = .ok (.iload 7, 2) := by decide +kernel
theorem dX8_init_192 : decode cX8_init 192 = .ok (.iload 7, 2) := by decide +kernel
theorem dX8_init_194 : decode cX8_init 194 = .ok (.iconst 2, 1) := by decide +kernel
theorem dX8_init_195 : decode cX8_init 195 = .ok (.iload 5, 2) := by decide +kernel
theorem dX8_init_197 : decode cX8_init 197 = .ok (.imul, 1) := by decide +kernel
theorem dX8_init_198 : decode cX8_init 198 = .ok (.if_icmp .ge 7, 3) := by decide +kernel
theorem dX8_init_201 : decode cX8_init 201 = .ok (.iconst 0, 1) := by decide +kernel
theorem dX8_init_202 : decode cX8_init 202 = .ok (.goto 5, 3) := by decide +kernel
theorem dX8_init_205 : decode cX8_init 205 = .ok (.bipush 9, 2) := by decide +kernel
theorem dX8_init_207 : decode cX8_init 207 = .ok (.iastore, 1) := by decide +kernel
theorem dX8_init_208 : decode cX8_init 208 = .ok (.iinc 7 1, 3) := by decide +kernel
theorem dX8_init_211 : decode cX8_init 211 = .ok (.goto (-35), 3) := by decide +kernel
theorem dX8_init_214 : decode cX8_init 214 = .ok (.return_, 1) := by decide +kernel
theorem dX8_timeAt_0 : decode cX8_timeAt 0 = .ok (.iload_n 2, 1) := by decide +kernel
theorem dX8_timeAt_1 : decode cX8_timeAt 1 = .ok (.ifCond .lt 23, 3) := by decide +kernel
theorem dX8_timeAt_4 : decode cX8_timeAt 4 = .ok (.iload_n 2, 1) := by decide +kernel
theorem dX8_timeAt_5 : decode cX8_timeAt 5 = .ok (.aload_n 0, 1) := by decide +kernel
theorem dX8_timeAt_6 : decode cX8_timeAt 6 = .ok (.getfield 22, 3) := by decide +kernel
theorem dX8_timeAt_9 : decode cX8_timeAt 9 = .ok (.if_icmp .gt 15, 3) := by decide +kernel
theorem dX8_timeAt_12 : decode cX8_timeAt 12 = .ok (.iload_n 3, 1) := by decide +kernel
theorem dX8_timeAt_13 : decode cX8_timeAt 13 = .ok (.ifCond .lt 11, 3) := by decide +kernel
theorem dX8_timeAt_16 : decode cX8_timeAt 16 = .ok (.iload_n 3, 1) := by decide +kernel
theorem dX8_timeAt_17 : decode cX8_timeAt 17 = .ok (.aload_n 0, 1) := by decide +kernel
theorem dX8_timeAt_18 : decode cX8_timeAt 18 = .ok (.getfield 22, 3) := by decide +kernel
theorem dX8_timeAt_21 : decode cX8_timeAt 21 = .ok (.if_icmp .le 6, 3) := by decide +kernel
theorem dX8_timeAt_24 : decode cX8_timeAt 24 = .ok (.bipush 9, 2) := by decide +kernel
theorem dX8_timeAt_26 : decode cX8_timeAt 26 = .ok (.ireturn, 1) := by decide +kernel
theorem dX8_timeAt_27 : decode cX8_timeAt 27 = .ok (.iconst 2, 1) := by decide +kernel
theorem dX8_timeAt_28 : decode cX8_timeAt 28 = .ok (.iload_n 1, 1) := by decide +kernel
theorem dX8_timeAt_29 : decode cX8_timeAt 29 = .ok (.imul, 1) := by decide +kernel
theorem dX8_timeAt_30 : decode cX8_timeAt 30 = .ok (.iload 4, 2) := by decide +kernel
theorem dX8_timeAt_32 : decode cX8_timeAt 32 = .ok (.ifCond .eq 7, 3) := by decide +kernel
theorem dX8_timeAt_35 : decode cX8_timeAt 35 = .ok (.iconst 1, 1) := by decide +kernel
theorem dX8_timeAt_36 : decode cX8_timeAt 36 = .ok (.goto 4, 3) := by decide +kernel
theorem dX8_timeAt_39 : decode cX8_timeAt 39 = .ok (.iconst 0, 1) := by decide +kernel
theorem dX8_timeAt_40 : decode cX8_timeAt 40 = .ok (.iadd, 1) := by decide +kernel
theorem dX8_timeAt_41 : decode cX8_timeAt 41 = .ok (.istore 5, 2) := by decide +kernel
theorem dX8_timeAt_43 : decode cX8_timeAt 43 = .ok (.iload 5, 2) := by decide +kernel
theorem dX8_timeAt_45 : decode cX8_timeAt 45 = .ok (.aload_n 0, 1) := by decide +kernel
theorem dX8_timeAt_46 : decode cX8_timeAt 46 = .ok (.getfield 31, 3) := by decide +kernel
theorem dX8_timeAt_49 : decode cX8_timeAt 49 = .ok (.arraylength, 1) := by decide +kernel
theorem dX8_timeAt_50 : decode cX8_timeAt 50 = .ok (.imul, 1) := by decide +kernel
theorem dX8_timeAt_51 : decode cX8_timeAt 51 = .ok (.aload_n 0, 1) := by decide +kernel
theorem dX8_timeAt_52 : decode cX8_timeAt 52 = .ok (.getfield 18, 3) := by decide +kernel
theorem dX8_timeAt_55 : decode cX8_timeAt 55 = .ok (.ifCond .eq 7, 3) := by decide +kernel
theorem dX8_timeAt_58 : decode cX8_timeAt 58 = .ok (.iload_n 2, 1) := by decide +kernel
theorem dX8_timeAt_59 : decode cX8_timeAt 59 = .ok (.goto 13, 3) := by decide +kernel
theorem dX8_timeAt_62 : decode cX8_timeAt 62 = .ok (.iload_n 2, 1) := by decide +kernel
theorem dX8_timeAt_63 : decode cX8_timeAt 63 = .ok (.aload_n 0, 1) := by decide +kernel
theorem dX8_timeAt_64 : decode cX8_timeAt 64 = .ok (.getfield 22, 3) := by decide +kernel
theorem dX8_timeAt_67 : decode cX8_timeAt 67 = .ok (.iconst 1, 1) := by decide +kernel
theorem dX8_timeAt_68 : decode cX8_timeAt 68 = .ok (.iadd, 1) := by decide +kernel
theorem dX8_timeAt_69 : decode cX8_timeAt 69 = .ok (.imul, 1) := by decide +kernel
theorem dX8_timeAt_70 : decode cX8_timeAt 70 = .ok (.iload_n 3, 1) := by decide +kernel
theorem dX8_timeAt_71 : decode cX8_timeAt 71 = .ok (.iadd, 1) := by decide +kernel
theorem dX8_timeAt_72 : decode cX8_timeAt 72 = .ok (.iadd, 1) := by decide +kernel
theorem dX8_timeAt_73 : decode cX8_timeAt 73 = .ok (.istore 6, 2) := by decide +kernel
theorem dX8_timeAt_75 : decode cX8_timeAt 75 = .ok (.iload 6, 2) := by decide +kernel
theorem dX8_timeAt_77 : decode cX8_timeAt 77 = .ok (.ifCond .lt 23, 3) := by decide +kernel
theorem dX8_timeAt_80 : decode cX8_timeAt 80 = .ok (.iload 6, 2) := by decide +kernel
theorem dX8_timeAt_82 : decode cX8_timeAt 82 = .ok (.aload_n 0, 1) := by decide +kernel
theorem dX8_timeAt_83 : decode cX8_timeAt 83 = .ok (.getfield 38, 3) := by decide +kernel
theorem dX8_timeAt_86 : decode cX8_timeAt 86 = .ok (.arraylength, 1) := by decide +kernel
theorem dX8_timeAt_87 : decode cX8_timeAt 87 = .ok (.if_icmp .ge 13, 3) := by decide +kernel
theorem dX8_timeAt_90 : decode cX8_timeAt 90 = .ok (.aload_n 0, 1) := by decide +kernel
theorem dX8_timeAt_91 : decode cX8_timeAt 91 = .ok (.getfield 38, 3) := by decide +kernel
theorem dX8_timeAt_94 : decode cX8_timeAt 94 = .ok (.iload 6, 2) := by decide +kernel
theorem dX8_timeAt_96 : decode cX8_timeAt 96 = .ok (.iaload, 1) := by decide +kernel
theorem dX8_timeAt_97 : decode cX8_timeAt 97 = .ok (.goto 5, 3) := by decide +kernel
theorem dX8_timeAt_100 : decode cX8_timeAt 100 = .ok (.bipush 9, 2) := by decide +kernel
theorem dX8_timeAt_102 : decode cX8_timeAt 102 = .ok (.ireturn, 1) := by decide +kernel
theorem dX8_learnAll_0 : decode cX8_learnAll 0 = .ok (.iconst 1, 1) := by decide +kernel
theorem dX8_learnAll_1 : decode cX8_learnAll 1 = .ok (.istore_n 1, 1) := by decide +kernel
theorem dX8_learnAll_2 : decode cX8_learnAll 2 = .ok (.iconst 1, 1) := by decide +kernel
theorem dX8_learnAll_3 : decode cX8_learnAll 3 = .ok (.istore_n 2, 1) := by decide +kernel
theorem dX8_learnAll_4 : decode cX8_learnAll 4 = .ok (.iload_n 2, 1) := by decide +kernel
theorem dX8_learnAll_5 : decode cX8_learnAll 5 = .ok (.bipush 8, 2) := by decide +kernel
theorem dX8_learnAll_7 : decode cX8_learnAll 7 = .ok (.if_icmp .gt 19, 3) := by decide +kernel
theorem dX8_learnAll_10 : decode cX8_learnAll 10 = .ok (.iload_n 1, 1) := by decide +kernel
theorem dX8_learnAll_11 : decode cX8_learnAll 11 = .ok (.ifCond .eq 15, 3) := by decide +kernel
theorem dX8_learnAll_14 : decode cX8_learnAll 14 = .ok (.aload_n 0, 1) := by decide +kernel
theorem dX8_learnAll_15 : decode cX8_learnAll 15 = .ok (.iload_n 2, 1) := by decide +kernel
theorem dX8_learnAll_16 : decode cX8_learnAll 16 = .ok (.invokevirtual 41, 3) := by decide +kernel
theorem dX8_learnAll_19 : decode cX8_learnAll 19 = .ok (.istore_n 1, 1) := by decide +kernel
theorem dX8_learnAll_20 : decode cX8_learnAll 20 = .ok (.iinc 2 1, 3) := by decide +kernel
theorem dX8_learnAll_23 : decode cX8_learnAll 23 = .ok (.goto (-19), 3) := by decide +kernel
theorem dX8_learnAll_26 : decode cX8_learnAll 26 = .ok (.return_, 1) := by decide +kernel
theorem dX8_learnRounds_0 : decode cX8_learnRounds 0 = .ok (.iconst 0, 1) := by decide +kernel
theorem dX8_learnRounds_1 : decode cX8_learnRounds 1 = .ok (.istore_n 2, 1) := by decide +kernel
theorem dX8_learnRounds_2 : decode cX8_learnRounds 2 = .ok (.iconst 2, 1) := by decide +kernel
theorem dX8_learnRounds_3 : decode cX8_learnRounds 3 = .ok (.istore_n 3, 1) := by decide +kernel
theorem dX8_learnRounds_4 : decode cX8_learnRounds 4 = .ok (.iload_n 3, 1) := by decide +kernel
theorem dX8_learnRounds_5 : decode cX8_learnRounds 5 = .ok (.iconst 4, 1) := by decide +kernel
theorem dX8_learnRounds_6 : decode cX8_learnRounds 6 = .ok (.aload_n 0, 1) := by decide +kernel
theorem dX8_learnRounds_7 : decode cX8_learnRounds 7 = .ok (.getfield 9, 3) := by decide +kernel
theorem dX8_learnRounds_10 : decode cX8_learnRounds 10 = .ok (.imul, 1) := by decide +kernel
theorem dX8_learnRounds_11 : decode cX8_learnRounds 11 = .ok (.if_icmp .ge 165, 3) := by decide +kernel
theorem dX8_learnRounds_14 : decode cX8_learnRounds 14 = .ok (.iconst 0, 1) := by decide +kernel
theorem dX8_learnRounds_15 : decode cX8_learnRounds 15 = .ok (.istore 4, 2) := by decide +kernel
theorem dX8_learnRounds_17 : decode cX8_learnRounds 17 = .ok (.iload 4, 2) := by decide +kernel
theorem dX8_learnRounds_19 : decode cX8_learnRounds 19 = .ok (.aload_n 0, 1) := by decide +kernel
theorem dX8_learnRounds_20 : decode cX8_learnRounds 20 = .ok (.getfield 31, 3) := by decide +kernel
theorem dX8_learnRounds_23 : decode cX8_learnRounds 23 = .ok (.arraylength, 1) := by decide +kernel
theorem dX8_learnRounds_24 : decode cX8_learnRounds 24 = .ok (.if_icmp .ge 146, 3) := by decide +kernel
theorem dX8_learnRounds_27 : decode cX8_learnRounds 27 = .ok (.iload 4, 2) := by decide +kernel
theorem dX8_learnRounds_29 : decode cX8_learnRounds 29 = .ok (.aload_n 0, 1) := by decide +kernel
theorem dX8_learnRounds_30 : decode cX8_learnRounds 30 = .ok (.getfield 35, 3) := by decide +kernel
theorem dX8_learnRounds_33 : decode cX8_learnRounds 33 = .ok (.arraylength, 1) := by decide +kernel
theorem dX8_learnRounds_34 : decode cX8_learnRounds 34 = .ok (.if_icmp .ge 136, 3) := by decide +kernel
theorem dX8_learnRounds_37 : decode cX8_learnRounds 37 = .ok (.iload_n 3, 1) := by decide +kernel
theorem dX8_learnRounds_38 : decode cX8_learnRounds 38 = .ok (.aload_n 0, 1) := by decide +kernel
theorem dX8_learnRounds_39 : decode cX8_learnRounds 39 = .ok (.getfield 31, 3) := by decide +kernel
theorem dX8_learnRounds_42 : decode cX8_learnRounds 42 = .ok (.arraylength, 1) := by decide +kernel
theorem dX8_learnRounds_43 : decode cX8_learnRounds 43 = .ok (.imul, 1) := by decide +kernel
theorem dX8_learnRounds_44 : decode cX8_learnRounds 44 = .ok (.iload 4, 2) := by decide +kernel
theorem dX8_learnRounds_46 : decode cX8_learnRounds 46 = .ok (.iadd, 1) := by decide +kernel
theorem dX8_learnRounds_47 : decode cX8_learnRounds 47 = .ok (.istore 5, 2) := by decide +kernel
theorem dX8_learnRounds_49 : decode cX8_learnRounds 49 = .ok (.iload 5, 2) := by decide +kernel
theorem dX8_learnRounds_51 : decode cX8_learnRounds 51 = .ok (.aload_n 0, 1) := by decide +kernel
theorem dX8_learnRounds_52 : decode cX8_learnRounds 52 = .ok (.getfield 38, 3) := by decide +kernel
theorem dX8_learnRounds_55 : decode cX8_learnRounds 55 = .ok (.arraylength, 1) := by decide +kernel
theorem dX8_learnRounds_56 : decode cX8_learnRounds 56 = .ok (.if_icmp .ge 108, 3) := by decide +kernel
theorem dX8_learnRounds_59 : decode cX8_learnRounds 59 = .ok (.aload_n 0, 1) := by decide +kernel
theorem dX8_learnRounds_60 : decode cX8_learnRounds 60 = .ok (.getfield 38, 3) := by decide +kernel
theorem dX8_learnRounds_63 : decode cX8_learnRounds 63 = .ok (.iload 5, 2) := by decide +kernel
theorem dX8_learnRounds_65 : decode cX8_learnRounds 65 = .ok (.iaload, 1) := by decide +kernel
theorem dX8_learnRounds_66 : decode cX8_learnRounds 66 = .ok (.bipush 9, 2) := by decide +kernel
theorem dX8_learnRounds_68 : decode cX8_learnRounds 68 = .ok (.if_icmp .ne 96, 3) := by decide +kernel
theorem dX8_learnRounds_71 : decode cX8_learnRounds 71 = .ok (.iload_n 3, 1) := by decide +kernel
theorem dX8_learnRounds_72 : decode cX8_learnRounds 72 = .ok (.iconst 2, 1) := by decide +kernel
theorem dX8_learnRounds_73 : decode cX8_learnRounds 73 = .ok (.irem, 1) := by decide +kernel
theorem dX8_learnRounds_74 : decode cX8_learnRounds 74 = .ok (.iconst 1, 1) := by decide +kernel
theorem dX8_learnRounds_75 : decode cX8_learnRounds 75 = .ok (.if_icmp .ne 30, 3) := by decide +kernel
theorem dX8_learnRounds_78 : decode cX8_learnRounds 78 = .ok (.aload_n 0, 1) := by decide +kernel
theorem dX8_learnRounds_79 : decode cX8_learnRounds 79 = .ok (.iload_n 1, 1) := by decide +kernel
theorem dX8_learnRounds_80 : decode cX8_learnRounds 80 = .ok (.iconst 1, 1) := by decide +kernel
theorem dX8_learnRounds_81 : decode cX8_learnRounds 81 = .ok (.isub, 1) := by decide +kernel
theorem dX8_learnRounds_82 : decode cX8_learnRounds 82 = .ok (.iload_n 3, 1) := by decide +kernel
theorem dX8_learnRounds_83 : decode cX8_learnRounds 83 = .ok (.iconst 2, 1) := by decide +kernel
theorem dX8_learnRounds_84 : decode cX8_learnRounds 84 = .ok (.idiv, 1) := by decide +kernel
theorem dX8_learnRounds_85 : decode cX8_learnRounds 85 = .ok (.aload_n 0, 1) := by decide +kernel
theorem dX8_learnRounds_86 : decode cX8_learnRounds 86 = .ok (.getfield 31, 3) := by decide +kernel
theorem dX8_learnRounds_89 : decode cX8_learnRounds 89 = .ok (.iload 4, 2) := by decide +kernel
theorem dX8_learnRounds_91 : decode cX8_learnRounds 91 = .ok (.iaload, 1) := by decide +kernel
theorem dX8_learnRounds_92 : decode cX8_learnRounds 92 = .ok (.aload_n 0, 1) := by decide +kernel
theorem dX8_learnRounds_93 : decode cX8_learnRounds 93 = .ok (.getfield 35, 3) := by decide +kernel
theorem dX8_learnRounds_96 : decode cX8_learnRounds 96 = .ok (.iload 4, 2) := by decide +kernel
theorem dX8_learnRounds_98 : decode cX8_learnRounds 98 = .ok (.iaload, 1) := by decide +kernel
theorem dX8_learnRounds_99 : decode cX8_learnRounds 99 = .ok (.invokevirtual 45, 3) := by decide +kernel
theorem dX8_learnRounds_102 : decode cX8_learnRounds 102 = .ok (.goto 27, 3) := by decide +kernel
theorem dX8_learnRounds_105 : decode cX8_learnRounds 105 = .ok (.aload_n 0, 1) := by decide +kernel
theorem dX8_learnRounds_106 : decode cX8_learnRounds 106 = .ok (.iload_n 1, 1) := by decide +kernel
theorem dX8_learnRounds_107 : decode cX8_learnRounds 107 = .ok (.iconst 1, 1) := by decide +kernel
theorem dX8_learnRounds_108 : decode cX8_learnRounds 108 = .ok (.isub, 1) := by decide +kernel
theorem dX8_learnRounds_109 : decode cX8_learnRounds 109 = .ok (.iload_n 3, 1) := by decide +kernel
theorem dX8_learnRounds_110 : decode cX8_learnRounds 110 = .ok (.iconst 2, 1) := by decide +kernel
theorem dX8_learnRounds_111 : decode cX8_learnRounds 111 = .ok (.idiv, 1) := by decide +kernel
theorem dX8_learnRounds_112 : decode cX8_learnRounds 112 = .ok (.aload_n 0, 1) := by decide +kernel
theorem dX8_learnRounds_113 : decode cX8_learnRounds 113 = .ok (.getfield 31, 3) := by decide +kernel
theorem dX8_learnRounds_116 : decode cX8_learnRounds 116 = .ok (.iload 4, 2) := by decide +kernel
theorem dX8_learnRounds_118 : decode cX8_learnRounds 118 = .ok (.iaload, 1) := by decide +kernel
theorem dX8_learnRounds_119 : decode cX8_learnRounds 119 = .ok (.aload_n 0, 1) := by decide +kernel
theorem dX8_learnRounds_120 : decode cX8_learnRounds 120 = .ok (.getfield 35, 3) := by decide +kernel
theorem dX8_learnRounds_123 : decode cX8_learnRounds 123 = .ok (.iload 4, 2) := by decide +kernel
theorem dX8_learnRounds_125 : decode cX8_learnRounds 125 = .ok (.iaload, 1) := by decide +kernel
theorem dX8_learnRounds_126 : decode cX8_learnRounds 126 = .ok (.invokevirtual 49, 3) := by decide +kernel
theorem dX8_learnRounds_129 : decode cX8_learnRounds 129 = .ok (.istore 6, 2) := by decide +kernel
theorem dX8_learnRounds_131 : decode cX8_learnRounds 131 = .ok (.aload_n 0, 1) := by decide +kernel
theorem dX8_learnRounds_132 : decode cX8_learnRounds 132 = .ok (.getfield 38, 3) := by decide +kernel
theorem dX8_learnRounds_135 : decode cX8_learnRounds 135 = .ok (.iload 5, 2) := by decide +kernel
theorem dX8_learnRounds_137 : decode cX8_learnRounds 137 = .ok (.iload 6, 2) := by decide +kernel
theorem dX8_learnRounds_139 : decode cX8_learnRounds 139 = .ok (.ifCond .eq 7, 3) := by decide +kernel
theorem dX8_learnRounds_142 : decode cX8_learnRounds 142 = .ok (.iload_n 1, 1) := by decide +kernel
theorem dX8_learnRounds_143 : decode cX8_learnRounds 143 = .ok (.goto 5, 3) := by decide +kernel
theorem dX8_learnRounds_146 : decode cX8_learnRounds 146 = .ok (.bipush 9, 2) := by decide +kernel
theorem dX8_learnRounds_148 : decode cX8_learnRounds 148 = .ok (.iastore, 1) := by decide +kernel
theorem dX8_learnRounds_149 : decode cX8_learnRounds 149 = .ok (.iload_n 2, 1) := by decide +kernel
theorem dX8_learnRounds_150 : decode cX8_learnRounds 150 = .ok (.ifCond .ne 8, 3) := by decide +kernel
theorem dX8_learnRounds_153 : decode cX8_learnRounds 153 = .ok (.iload 6, 2) := by decide +kernel
theorem dX8_learnRounds_155 : decode cX8_learnRounds 155 = .ok (.ifCond .eq 7, 3) := by decide +kernel
theorem dX8_learnRounds_158 : decode cX8_learnRounds 158 = .ok (.iconst 1, 1) := by decide +kernel
theorem dX8_learnRounds_159 : decode cX8_learnRounds 159 = .ok (.goto 4, 3) := by decide +kernel
theorem dX8_learnRounds_162 : decode cX8_learnRounds 162 = .ok (.iconst 0, 1) := by decide +kernel
theorem dX8_learnRounds_163 : decode cX8_learnRounds 163 = .ok (.istore_n 2, 1) := by decide +kernel
theorem dX8_learnRounds_164 : decode cX8_learnRounds 164 = .ok (.iinc 4 1, 3) := by decide +kernel
theorem dX8_learnRounds_167 : decode cX8_learnRounds 167 = .ok (.goto (-150), 3) := by decide +kernel
theorem dX8_learnRounds_170 : decode cX8_learnRounds 170 = .ok (.iinc 3 1, 3) := by decide +kernel
theorem dX8_learnRounds_173 : decode cX8_learnRounds 173 = .ok (.goto (-169), 3) := by decide +kernel
theorem dX8_learnRounds_176 : decode cX8_learnRounds 176 = .ok (.iload_n 2, 1) := by decide +kernel
theorem dX8_learnRounds_177 : decode cX8_learnRounds 177 = .ok (.ireturn, 1) := by decide +kernel
theorem dX8_bidForces_0 : decode cX8_bidForces 0 = .ok (.iload 4, 2) := by decide +kernel
theorem dX8_bidForces_2 : decode cX8_bidForces 2 = .ok (.istore 5, 2) := by decide +kernel
theorem dX8_bidForces_4 : decode cX8_bidForces 4 = .ok (.iload 5, 2) := by decide +kernel
theorem dX8_bidForces_6 : decode cX8_bidForces 6 = .ok (.ifCond .lt 24, 3) := by decide +kernel
theorem dX8_bidForces_9 : decode cX8_bidForces 9 = .ok (.aload_n 0, 1) := by decide +kernel
theorem dX8_bidForces_10 : decode cX8_bidForces 10 = .ok (.iload_n 1, 1) := by decide +kernel
theorem dX8_bidForces_11 : decode cX8_bidForces 11 = .ok (.iload_n 2, 1) := by decide +kernel
theorem dX8_bidForces_12 : decode cX8_bidForces 12 = .ok (.iload_n 3, 1) := by decide +kernel
theorem dX8_bidForces_13 : decode cX8_bidForces 13 = .ok (.iload 4, 2) := by decide +kernel
theorem dX8_bidForces_15 : decode cX8_bidForces 15 = .ok (.iload 5, 2) := by decide +kernel
theorem dX8_bidForces_17 : decode cX8_bidForces 17 = .ok (.iconst 0, 1) := by decide +kernel
theorem dX8_bidForces_18 : decode cX8_bidForces 18 = .ok (.invokevirtual 52, 3) := by decide +kernel
theorem dX8_bidForces_21 : decode cX8_bidForces 21 = .ok (.ifCond .eq 9, 3) := by decide +kernel
theorem dX8_bidForces_24 : decode cX8_bidForces 24 = .ok (.iinc 5 (-1), 3) := by decide +kernel
theorem dX8_bidForces_27 : decode cX8_bidForces 27 = .ok (.goto (-23), 3) := by decide +kernel
theorem dX8_bidForces_30 : decode cX8_bidForces 30 = .ok (.iconst 0, 1) := by decide +kernel
theorem dX8_bidForces_31 : decode cX8_bidForces 31 = .ok (.iload 5, 2) := by decide +kernel
theorem dX8_bidForces_33 : decode cX8_bidForces 33 = .ok (.aload_n 0, 1) := by decide +kernel
theorem dX8_bidForces_34 : decode cX8_bidForces 34 = .ok (.getfield 15, 3) := by decide +kernel
theorem dX8_bidForces_37 : decode cX8_bidForces 37 = .ok (.iadd, 1) := by decide +kernel
theorem dX8_bidForces_38 : decode cX8_bidForces 38 = .ok (.invokestatic 25, 3) := by decide +kernel
theorem dX8_bidForces_41 : decode cX8_bidForces 41 = .ok (.istore 6, 2) := by decide +kernel
theorem dX8_bidForces_43 : decode cX8_bidForces 43 = .ok (.iload 6, 2) := by decide +kernel
theorem dX8_bidForces_45 : decode cX8_bidForces 45 = .ok (.iload_n 3, 1) := by decide +kernel
theorem dX8_bidForces_46 : decode cX8_bidForces 46 = .ok (.if_icmp .gt 35, 3) := by decide +kernel
theorem dX8_bidForces_49 : decode cX8_bidForces 49 = .ok (.aload_n 0, 1) := by decide +kernel
theorem dX8_bidForces_50 : decode cX8_bidForces 50 = .ok (.iload 6, 2) := by decide +kernel
theorem dX8_bidForces_52 : decode cX8_bidForces 52 = .ok (.invokevirtual 56, 3) := by decide +kernel
theorem dX8_bidForces_55 : decode cX8_bidForces 55 = .ok (.ifCond .ne 18, 3) := by decide +kernel
theorem dX8_bidForces_58 : decode cX8_bidForces 58 = .ok (.aload_n 0, 1) := by decide +kernel
theorem dX8_bidForces_59 : decode cX8_bidForces 59 = .ok (.iload_n 1, 1) := by decide +kernel
theorem dX8_bidForces_60 : decode cX8_bidForces 60 = .ok (.iload_n 2, 1) := by decide +kernel
theorem dX8_bidForces_61 : decode cX8_bidForces 61 = .ok (.iload_n 3, 1) := by decide +kernel
theorem dX8_bidForces_62 : decode cX8_bidForces 62 = .ok (.iload 4, 2) := by decide +kernel
theorem dX8_bidForces_64 : decode cX8_bidForces 64 = .ok (.iload 6, 2) := by decide +kernel
theorem dX8_bidForces_66 : decode cX8_bidForces 66 = .ok (.iconst 0, 1) := by decide +kernel
theorem dX8_bidForces_67 : decode cX8_bidForces 67 = .ok (.invokevirtual 59, 3) := by decide +kernel
theorem dX8_bidForces_70 : decode cX8_bidForces 70 = .ok (.ifCond .eq 5, 3) := by decide +kernel
theorem dX8_bidForces_73 : decode cX8_bidForces 73 = .ok (.iconst 1, 1) := by decide +kernel
theorem dX8_bidForces_74 : decode cX8_bidForces 74 = .ok (.ireturn, 1) := by decide +kernel
theorem dX8_bidForces_75 : decode cX8_bidForces 75 = .ok (.iinc 6 1, 3) := by decide +kernel
theorem dX8_bidForces_78 : decode cX8_bidForces 78 = .ok (.goto (-35), 3) := by decide +kernel
theorem dX8_bidForces_81 : decode cX8_bidForces 81 = .ok (.iconst 0, 1) := by decide +kernel
theorem dX8_bidForces_82 : decode cX8_bidForces 82 = .ok (.ireturn, 1) := by decide +kernel
theorem dX8_answerForces_0 : decode cX8_answerForces 0 = .ok (.iload_n 3, 1) := by decide +kernel
theorem dX8_answerForces_1 : decode cX8_answerForces 1 = .ok (.istore 5, 2) := by decide +kernel
theorem dX8_answerForces_3 : decode cX8_answerForces 3 = .ok (.iload 5, 2) := by decide +kernel
theorem dX8_answerForces_5 : decode cX8_answerForces 5 = .ok (.ifCond .lt 24, 3) := by decide +kernel
theorem dX8_answerForces_8 : decode cX8_answerForces 8 = .ok (.aload_n 0, 1) := by decide +kernel
theorem dX8_answerForces_9 : decode cX8_answerForces 9 = .ok (.iload_n 1, 1) := by decide +kernel
theorem dX8_answerForces_10 : decode cX8_answerForces 10 = .ok (.iload_n 2, 1) := by decide +kernel
theorem dX8_answerForces_11 : decode cX8_answerForces 11 = .ok (.iload_n 3, 1) := by decide +kernel
theorem dX8_answerForces_12 : decode cX8_answerForces 12 = .ok (.iload 4, 2) := by decide +kernel
theorem dX8_answerForces_14 : decode cX8_answerForces 14 = .ok (.iload 5, 2) := by decide +kernel
theorem dX8_answerForces_16 : decode cX8_answerForces 16 = .ok (.iconst 1, 1) := by decide +kernel
theorem dX8_answerForces_17 : decode cX8_answerForces 17 = .ok (.invokevirtual 59, 3) := by decide +kernel
theorem dX8_answerForces_20 : decode cX8_answerForces 20 = .ok (.ifCond .ne 9, 3) := by decide +kernel
theorem dX8_answerForces_23 : decode cX8_answerForces 23 = .ok (.iinc 5 (-1), 3) := by decide +kernel
theorem dX8_answerForces_26 : decode cX8_answerForces 26 = .ok (.goto (-23), 3) := by decide +kernel
theorem dX8_answerForces_29 : decode cX8_answerForces 29 = .ok (.iconst 0, 1) := by decide +kernel
theorem dX8_answerForces_30 : decode cX8_answerForces 30 = .ok (.iload 5, 2) := by decide +kernel
theorem dX8_answerForces_32 : decode cX8_answerForces 32 = .ok (.aload_n 0, 1) := by decide +kernel
theorem dX8_answerForces_33 : decode cX8_answerForces 33 = .ok (.getfield 15, 3) := by decide +kernel
theorem dX8_answerForces_36 : decode cX8_answerForces 36 = .ok (.iadd, 1) := by decide +kernel
theorem dX8_answerForces_37 : decode cX8_answerForces 37 = .ok (.invokestatic 25, 3) := by decide +kernel
theorem dX8_answerForces_40 : decode cX8_answerForces 40 = .ok (.istore 6, 2) := by decide +kernel
theorem dX8_answerForces_42 : decode cX8_answerForces 42 = .ok (.iload 6, 2) := by decide +kernel
theorem dX8_answerForces_44 : decode cX8_answerForces 44 = .ok (.iload 4, 2) := by decide +kernel
theorem dX8_answerForces_46 : decode cX8_answerForces 46 = .ok (.if_icmp .gt 35, 3) := by decide +kernel
theorem dX8_answerForces_49 : decode cX8_answerForces 49 = .ok (.aload_n 0, 1) := by decide +kernel
theorem dX8_answerForces_50 : decode cX8_answerForces 50 = .ok (.iload 6, 2) := by decide +kernel
theorem dX8_answerForces_52 : decode cX8_answerForces 52 = .ok (.invokevirtual 56, 3) := by decide +kernel
theorem dX8_answerForces_55 : decode cX8_answerForces 55 = .ok (.ifCond .ne 18, 3) := by decide +kernel
theorem dX8_answerForces_58 : decode cX8_answerForces 58 = .ok (.aload_n 0, 1) := by decide +kernel
theorem dX8_answerForces_59 : decode cX8_answerForces 59 = .ok (.iload_n 1, 1) := by decide +kernel
theorem dX8_answerForces_60 : decode cX8_answerForces 60 = .ok (.iload_n 2, 1) := by decide +kernel
theorem dX8_answerForces_61 : decode cX8_answerForces 61 = .ok (.iload_n 3, 1) := by decide +kernel
theorem dX8_answerForces_62 : decode cX8_answerForces 62 = .ok (.iload 4, 2) := by decide +kernel
theorem dX8_answerForces_64 : decode cX8_answerForces 64 = .ok (.iload 6, 2) := by decide +kernel
theorem dX8_answerForces_66 : decode cX8_answerForces 66 = .ok (.iconst 1, 1) := by decide +kernel
theorem dX8_answerForces_67 : decode cX8_answerForces 67 = .ok (.invokevirtual 52, 3) := by decide +kernel
theorem dX8_answerForces_70 : decode cX8_answerForces 70 = .ok (.ifCond .ne 5, 3) := by decide +kernel
theorem dX8_answerForces_73 : decode cX8_answerForces 73 = .ok (.iconst 0, 1) := by decide +kernel
theorem dX8_answerForces_74 : decode cX8_answerForces 74 = .ok (.ireturn, 1) := by decide +kernel
theorem dX8_answerForces_75 : decode cX8_answerForces 75 = .ok (.iinc 6 1, 3) := by decide +kernel
theorem dX8_answerForces_78 : decode cX8_answerForces 78 = .ok (.goto (-36), 3) := by decide +kernel
theorem dX8_answerForces_81 : decode cX8_answerForces 81 = .ok (.iconst 1, 1) := by decide +kernel
theorem dX8_answerForces_82 : decode cX8_answerForces 82 = .ok (.ireturn, 1) := by decide +kernel
theorem dX8_neverTakes_0 : decode cX8_neverTakes 0 = .ok (.iload_n 1, 1) := by decide +kernel
theorem dX8_neverTakes_1 : decode cX8_neverTakes 1 = .ok (.ifCond .ne 15, 3) := by decide +kernel
theorem dX8_neverTakes_4 : decode cX8_neverTakes 4 = .ok (.aload_n 0, 1) := by decide +kernel
theorem dX8_neverTakes_5 : decode cX8_neverTakes 5 = .ok (.getfield 15, 3) := by decide +kernel
theorem dX8_neverTakes_8 : decode cX8_neverTakes 8 = .ok (.iconst 1, 1) := by decide +kernel
theorem dX8_neverTakes_9 : decode cX8_neverTakes 9 = .ok (.if_icmp .ne 7, 3) := by decide +kernel
theorem dX8_neverTakes_12 : decode cX8_neverTakes 12 = .ok (.iconst 1, 1) := by decide +kernel
theorem dX8_neverTakes_13 : decode cX8_neverTakes 13 = .ok (.goto 4, 3) := by decide +kernel
theorem dX8_neverTakes_16 : decode cX8_neverTakes 16 = .ok (.iconst 0, 1) := by decide +kernel
theorem dX8_neverTakes_17 : decode cX8_neverTakes 17 = .ok (.ireturn, 1) := by decide +kernel
theorem dX8_taken_0 : decode cX8_taken 0 = .ok (.aload_n 0, 1) := by decide +kernel
theorem dX8_taken_1 : decode cX8_taken 1 = .ok (.getfield 18, 3) := by decide +kernel
theorem dX8_taken_4 : decode cX8_taken 4 = .ok (.ifCond .eq 8, 3) := by decide +kernel
theorem dX8_taken_7 : decode cX8_taken 7 = .ok (.iload 5, 2) := by decide +kernel
theorem dX8_taken_9 : decode cX8_taken 9 = .ok (.goto 4, 3) := by decide +kernel
theorem dX8_taken_12 : decode cX8_taken 12 = .ok (.iconst 0, 1) := by decide +kernel
theorem dX8_taken_13 : decode cX8_taken 13 = .ok (.istore 7, 2) := by decide +kernel
theorem dX8_taken_15 : decode cX8_taken 15 = .ok (.aload_n 0, 1) := by decide +kernel
theorem dX8_taken_16 : decode cX8_taken 16 = .ok (.iload_n 2, 1) := by decide +kernel
theorem dX8_taken_17 : decode cX8_taken 17 = .ok (.iconst 1, 1) := by decide +kernel
theorem dX8_taken_18 : decode cX8_taken 18 = .ok (.isub, 1) := by decide +kernel
theorem dX8_taken_19 : decode cX8_taken 19 = .ok (.iload_n 3, 1) := by decide +kernel
theorem dX8_taken_20 : decode cX8_taken 20 = .ok (.iload 5, 2) := by decide +kernel
theorem dX8_taken_22 : decode cX8_taken 22 = .ok (.isub, 1) := by decide +kernel
theorem dX8_taken_23 : decode cX8_taken 23 = .ok (.iload 4, 2) := by decide +kernel
theorem dX8_taken_25 : decode cX8_taken 25 = .ok (.iload 7, 2) := by decide +kernel
theorem dX8_taken_27 : decode cX8_taken 27 = .ok (.iadd, 1) := by decide +kernel
theorem dX8_taken_28 : decode cX8_taken 28 = .ok (.iload 6, 2) := by decide +kernel
theorem dX8_taken_30 : decode cX8_taken 30 = .ok (.invokevirtual 62, 3) := by decide +kernel
theorem dX8_taken_33 : decode cX8_taken 33 = .ok (.iload_n 1, 1) := by decide +kernel
theorem dX8_taken_34 : decode cX8_taken 34 = .ok (.if_icmp .gt 7, 3) := by decide +kernel
theorem dX8_taken_37 : decode cX8_taken 37 = .ok (.iconst 1, 1) := by decide +kernel
theorem dX8_taken_38 : decode cX8_taken 38 = .ok (.goto 4, 3) := by decide +kernel
theorem dX8_taken_41 : decode cX8_taken 41 = .ok (.iconst 0, 1) := by decide +kernel
theorem dX8_taken_42 : decode cX8_taken 42 = .ok (.ireturn, 1) := by decide +kernel
theorem dX8_lost_0 : decode cX8_lost 0 = .ok (.aload_n 0, 1) := by decide +kernel
theorem dX8_lost_1 : decode cX8_lost 1 = .ok (.getfield 18, 3) := by decide +kernel
theorem dX8_lost_4 : decode cX8_lost 4 = .ok (.ifCond .eq 8, 3) := by decide +kernel
theorem dX8_lost_7 : decode cX8_lost 7 = .ok (.iload 5, 2) := by decide +kernel
theorem dX8_lost_9 : decode cX8_lost 9 = .ok (.goto 4, 3) := by decide +kernel
theorem dX8_lost_12 : decode cX8_lost 12 = .ok (.iconst 0, 1) := by decide +kernel
theorem dX8_lost_13 : decode cX8_lost 13 = .ok (.istore 7, 2) := by decide +kernel
theorem dX8_lost_15 : decode cX8_lost 15 = .ok (.aload_n 0, 1) := by decide +kernel
theorem dX8_lost_16 : decode cX8_lost 16 = .ok (.iload_n 2, 1) := by decide +kernel
theorem dX8_lost_17 : decode cX8_lost 17 = .ok (.iconst 1, 1) := by decide +kernel
theorem dX8_lost_18 : decode cX8_lost 18 = .ok (.iadd, 1) := by decide +kernel
theorem dX8_lost_19 : decode cX8_lost 19 = .ok (.iload_n 3, 1) := by decide +kernel
theorem dX8_lost_20 : decode cX8_lost 20 = .ok (.iload 7, 2) := by decide +kernel
theorem dX8_lost_22 : decode cX8_lost 22 = .ok (.iadd, 1) := by decide +kernel
theorem dX8_lost_23 : decode cX8_lost 23 = .ok (.iload 4, 2) := by decide +kernel
theorem dX8_lost_25 : decode cX8_lost 25 = .ok (.iload 5, 2) := by decide +kernel
theorem dX8_lost_27 : decode cX8_lost 27 = .ok (.isub, 1) := by decide +kernel
theorem dX8_lost_28 : decode cX8_lost 28 = .ok (.iload 6, 2) := by decide +kernel
theorem dX8_lost_30 : decode cX8_lost 30 = .ok (.invokevirtual 62, 3) := by decide +kernel
theorem dX8_lost_33 : decode cX8_lost 33 = .ok (.iload_n 1, 1) := by decide +kernel
theorem dX8_lost_34 : decode cX8_lost 34 = .ok (.if_icmp .gt 7, 3) := by decide +kernel
theorem dX8_lost_37 : decode cX8_lost 37 = .ok (.iconst 1, 1) := by decide +kernel
theorem dX8_lost_38 : decode cX8_lost 38 = .ok (.goto 4, 3) := by decide +kernel
theorem dX8_lost_41 : decode cX8_lost 41 = .ok (.iconst 0, 1) := by decide +kernel
theorem dX8_lost_42 : decode cX8_lost 42 = .ok (.ireturn, 1) := by decide +kernel
theorem dX9_init_0 : decode cX9_init 0 = .ok (.aload_n 0, 1) := by decide +kernel
theorem dX9_init_1 : decode cX9_init 1 = .ok (.invokespecial 3, 3) := by decide +kernel
theorem dX9_init_4 : decode cX9_init 4 = .ok (.aload_n 0, 1) := by decide +kernel
theorem dX9_init_5 : decode cX9_init 5 = .ok (.new 9, 3) := by decide +kernel
theorem dX9_init_8 : decode cX9_init 8 = .ok (.dup, 1) := by decide +kernel
theorem dX9_init_9 : decode cX9_init 9 = .ok (.invokespecial 11, 3) := by decide +kernel
theorem dX9_init_12 : decode cX9_init 12 = .ok (.putfield 12, 3) := by decide +kernel
theorem dX9_init_15 : decode cX9_init 15 = .ok (.aload_n 0, 1) := by decide +kernel
theorem dX9_init_16 : decode cX9_init 16 = .ok (.new 16, 3) := by decide +kernel
theorem dX9_init_19 : decode cX9_init 19 = .ok (.dup, 1) := by decide +kernel
theorem dX9_init_20 : decode cX9_init 20 = .ok (.invokespecial 18, 3) := by decide +kernel
theorem dX9_init_23 : decode cX9_init 23 = .ok (.putfield 19, 3) := by decide +kernel
theorem dX9_init_26 : decode cX9_init 26 = .ok (.aload_n 0, 1) := by decide +kernel
theorem dX9_init_27 : decode cX9_init 27 = .ok (.new 23, 3) := by decide +kernel
theorem dX9_init_30 : decode cX9_init 30 = .ok (.dup, 1) := by decide +kernel
theorem dX9_init_31 : decode cX9_init 31 = .ok (.invokespecial 25, 3) := by decide +kernel
theorem dX9_init_34 : decode cX9_init 34 = .ok (.putfield 26, 3) := by decide +kernel
theorem dX9_init_37 : decode cX9_init 37 = .ok (.aload_n 0, 1) := by decide +kernel
theorem dX9_init_38 : decode cX9_init 38 = .ok (.new 23, 3) := by decide +kernel
theorem dX9_init_41 : decode cX9_init 41 = .ok (.dup, 1) := by decide +kernel
theorem dX9_init_42 : decode cX9_init 42 = .ok (.invokespecial 25, 3) := by decide +kernel
theorem dX9_init_45 : decode cX9_init 45 = .ok (.putfield 30, 3) := by decide +kernel
theorem dX9_init_48 : decode cX9_init 48 = .ok (.aload_n 0, 1) := by decide +kernel
theorem dX9_init_49 : decode cX9_init 49 = .ok (.new 33, 3) := by decide +kernel
theorem dX9_init_52 : decode cX9_init 52 = .ok (.dup, 1) := by decide +kernel
theorem dX9_init_53 : decode cX9_init 53 = .ok (.invokespecial 35, 3) := by decide +kernel
theorem dX9_init_56 : decode cX9_init 56 = .ok (.putfield 36, 3) := by decide +kernel
theorem dX9_init_59 : decode cX9_init 59 = .ok (.aload_n 0, 1) := by decide +kernel
theorem dX9_init_60 : decode cX9_init 60 = .ok (.new 40, 3) := by decide +kernel
theorem dX9_init_63 : decode cX9_init 63 = .ok (.dup, 1) := by decide +kernel
theorem dX9_init_64 : decode cX9_init 64 = .ok (.invokespecial 42, 3) := by decide +kernel
theorem dX9_init_67 : decode cX9_init 67 = .ok (.putfield 43, 3) := by decide +kernel
theorem dX9_init_70 : decode cX9_init 70 = .ok (.aload_n 0, 1) := by decide +kernel
theorem dX9_init_71 : decode cX9_init 71 = .ok (.new 47, 3) := by decide +kernel
theorem dX9_init_74 : decode cX9_init 74 = .ok (.dup, 1) := by decide +kernel
theorem dX9_init_75 : decode cX9_init 75 = .ok (.aload_n 0, 1) := by decide +kernel
theorem dX9_init_76 : decode cX9_init 76 = .ok (.getfield 12, 3) := by decide +kernel
theorem dX9_init_79 : decode cX9_init 79 = .ok (.invokespecial 49, 3) := by decide +kernel
theorem dX9_init_82 : decode cX9_init 82 = .ok (.putfield 52, 3) := by decide +kernel
theorem dX9_init_85 : decode cX9_init 85 = .ok (.aload_n 0, 1) := by decide +kernel
theorem dX9_init_86 : decode cX9_init 86 = .ok (.new 56, 3) := by decide +kernel
theorem dX9_init_89 : decode cX9_init 89 = .ok (.dup, 1) := by decide +kernel
theorem dX9_init_90 : decode cX9_init 90 = .ok (.aload_n 0, 1) := by decide +kernel
theorem dX9_init_91 : decode cX9_init 91 = .ok (.getfield 12, 3) := by decide +kernel
theorem dX9_init_94 : decode cX9_init 94 = .ok (.invokespecial 58, 3) := by decide +kernel
theorem dX9_init_97 : decode cX9_init 97 = .ok (.putfield 59, 3) := by decide +kernel
theorem dX9_init_100 : decode cX9_init 100 = .ok (.return_, 1) := by decide +kernel
theorem dX9_set_0 : decode cX9_set 0 = .ok (.iload_n 1, 1) := by decide +kernel
theorem dX9_set_1 : decode cX9_set 1 = .ok (.invokestatic 63, 3) := by decide +kernel
theorem dX9_set_4 : decode cX9_set 4 = .ok (.ifCond .eq 19, 3) := by decide +kernel
theorem dX9_set_7 : decode cX9_set 7 = .ok (.iload_n 2, 1) := by decide +kernel
theorem dX9_set_8 : decode cX9_set 8 = .ok (.iload_n 1, 1) := by decide +kernel
theorem dX9_set_9 : decode cX9_set 9 = .ok (.invokestatic 67, 3) := by decide +kernel
theorem dX9_set_12 : decode cX9_set 12 = .ok (.if_icmp .lt 11, 3) := by decide +kernel
theorem dX9_set_15 : decode cX9_set 15 = .ok (.iload_n 2, 1) := by decide +kernel
theorem dX9_set_16 : decode cX9_set 16 = .ok (.iload_n 1, 1) := by decide +kernel
theorem dX9_set_17 : decode cX9_set 17 = .ok (.invokestatic 71, 3) := by decide +kernel
theorem dX9_set_20 : decode cX9_set 20 = .ok (.if_icmp .le 7, 3) := by decide +kernel
theorem dX9_set_23 : decode cX9_set 23 = .ok (.sipush (-1002), 3) := by decide +kernel
theorem dX9_set_26 : decode cX9_set 26 = .ok (.ireturn, 1) := by decide +kernel
theorem dX9_set_27 : decode cX9_set 27 = .ok (.aload_n 0, 1) := by decide +kernel
theorem dX9_set_28 : decode cX9_set 28 = .ok (.getfield 12, 3) := by decide +kernel
theorem dX9_set_31 : decode cX9_set 31 = .ok (.iload_n 1, 1) := by decide +kernel
theorem dX9_set_32 : decode cX9_set 32 = .ok (.invokevirtual 74, 3) := by decide +kernel
theorem dX9_set_35 : decode cX9_set 35 = .ok (.istore_n 3, 1) := by decide +kernel
theorem dX9_set_36 : decode cX9_set 36 = .ok (.aload_n 0, 1) := by decide +kernel
theorem dX9_set_37 : decode cX9_set 37 = .ok (.getfield 19, 3) := by decide +kernel
theorem dX9_set_40 : decode cX9_set 40 = .ok (.aload_n 0, 1) := by decide +kernel
theorem dX9_set_41 : decode cX9_set 41 = .ok (.getfield 12, 3) := by decide +kernel
theorem dX9_set_44 : decode cX9_set 44 = .ok (.invokevirtual 77, 3) := by decide +kernel
theorem dX9_set_47 : decode cX9_set 47 = .ok (.aload_n 0, 1) := by decide +kernel
theorem dX9_set_48 : decode cX9_set 48 = .ok (.getfield 12, 3) := by decide +kernel
theorem dX9_set_51 : decode cX9_set 51 = .ok (.iload_n 1, 1) := by decide +kernel
theorem dX9_set_52 : decode cX9_set 52 = .ok (.iload_n 2, 1) := by decide +kernel
theorem dX9_set_53 : decode cX9_set 53 = .ok (.invokevirtual 80, 3) := by decide +kernel
theorem dX9_set_56 : decode cX9_set 56 = .ok (.aload_n 0, 1) := by decide +kernel
theorem dX9_set_57 : decode cX9_set 57 = .ok (.getfield 12, 3) := by decide +kernel
theorem dX9_set_60 : decode cX9_set 60 = .ok (.invokevirtual 84, 3) := by decide +kernel
theorem dX9_set_63 : decode cX9_set 63 = .ok (.iload_n 3, 1) := by decide +kernel
theorem dX9_set_64 : decode cX9_set 64 = .ok (.ireturn, 1) := by decide +kernel
theorem dX9_begin_0 : decode cX9_begin 0 = .ok (.iload_n 1, 1) := by decide +kernel
theorem dX9_begin_1 : decode cX9_begin 1 = .ok (.iconst 0, 1) := by decide +kernel
theorem dX9_begin_2 : decode cX9_begin 2 = .ok (.bipush 6, 2) := by decide +kernel
theorem dX9_begin_4 : decode cX9_begin 4 = .ok (.invokestatic 87, 3) := by decide +kernel
theorem dX9_begin_7 : decode cX9_begin 7 = .ok (.ifCond .eq 13, 3) := by decide +kernel
theorem dX9_begin_10 : decode cX9_begin 10 = .ok (.iload_n 2, 1) := by decide +kernel
theorem dX9_begin_11 : decode cX9_begin 11 = .ok (.iconst 0, 1) := by decide +kernel
theorem dX9_begin_12 : decode cX9_begin 12 = .ok (.bipush 6, 2) := by decide +kernel
theorem dX9_begin_14 : decode cX9_begin 14 = .ok (.invokestatic 87, 3) := by decide +kernel
theorem dX9_begin_17 : decode cX9_begin 17 = .ok (.ifCond .ne 7, 3) := by decide +kernel
theorem dX9_begin_20 : decode cX9_begin 20 = .ok (.sipush (-1002), 3) := by decide +kernel
theorem dX9_begin_23 : decode cX9_begin 23 = .ok (.ireturn, 1) := by decide +kernel
theorem dX9_begin_24 : decode cX9_begin 24 = .ok (.aload_n 0, 1) := by decide +kernel
theorem dX9_begin_25 : decode cX9_begin 25 = .ok (.getfield 12, 3) := by decide +kernel
theorem dX9_begin_28 : decode cX9_begin 28 = .ok (.getfield 91, 3) := by decide +kernel
theorem dX9_begin_31 : decode cX9_begin 31 = .ok (.istore_n 3, 1) := by decide +kernel
theorem dX9_begin_32 : decode cX9_begin 32 = .ok (.aload_n 0, 1) := by decide +kernel
theorem dX9_begin_33 : decode cX9_begin 33 = .ok (.getfield 19, 3) := by decide +kernel
theorem dX9_begin_36 : decode cX9_begin 36 = .ok (.aload_n 0, 1) := by decide +kernel
theorem dX9_begin_37 : decode cX9_begin 37 = .ok (.getfield 12, 3) := by decide +kernel
theorem dX9_begin_40 : decode cX9_begin 40 = .ok (.invokevirtual 77, 3) := by decide +kernel
theorem dX9_begin_43 : decode cX9_begin 43 = .ok (.aload_n 0, 1) := by decide +kernel
theorem dX9_begin_44 : decode cX9_begin 44 = .ok (.getfield 12, 3) := by decide +kernel
theorem dX9_begin_47 : decode cX9_begin 47 = .ok (.getfield 95, 3) := by decide +kernel
theorem dX9_begin_50 : decode cX9_begin 50 = .ok (.iload_n 1, 1) := by decide +kernel
theorem dX9_begin_51 : decode cX9_begin 51 = .ok (.putfield 99, 3) := by decide +kernel
theorem dX9_begin_54 : decode cX9_begin 54 = .ok (.aload_n 0, 1) := by decide +kernel
theorem dX9_begin_55 : decode cX9_begin 55 = .ok (.getfield 12, 3) := by decide +kernel
theorem dX9_begin_58 : decode cX9_begin 58 = .ok (.getfield 104, 3) := by decide +kernel
theorem dX9_begin_61 : decode cX9_begin 61 = .ok (.iload_n 2, 1) := by decide +kernel
theorem dX9_begin_62 : decode cX9_begin 62 = .ok (.putfield 99, 3) := by decide +kernel
theorem dX9_begin_65 : decode cX9_begin 65 = .ok (.aload_n 0, 1) := by decide +kernel
theorem dX9_begin_66 : decode cX9_begin 66 = .ok (.getfield 12, 3) := by decide +kernel
theorem dX9_begin_69 : decode cX9_begin 69 = .ok (.invokevirtual 84, 3) := by decide +kernel
theorem dX9_begin_72 : decode cX9_begin 72 = .ok (.iload_n 3, 1) := by decide +kernel
theorem dX9_begin_73 : decode cX9_begin 73 = .ok (.ireturn, 1) := by decide +kernel
theorem dX9_round_0 : decode cX9_round 0 = .ok (.iload_n 1, 1) := by decide +kernel
theorem dX9_round_1 : decode cX9_round 1 = .ok (.iconst 0, 1) := by decide +kernel
theorem dX9_round_2 : decode cX9_round 2 = .ok (.bipush 14, 2) := by decide +kernel
theorem dX9_round_4 : decode cX9_round 4 = .ok (.invokestatic 87, 3) := by decide +kernel
theorem dX9_round_7 : decode cX9_round 7 = .ok (.ifCond .eq 13, 3) := by decide +kernel
theorem dX9_round_10 : decode cX9_round 10 = .ok (.iload_n 2, 1) := by decide +kernel
theorem dX9_round_11 : decode cX9_round 11 = .ok (.iconst 0, 1) := by decide +kernel
theorem dX9_round_12 : decode cX9_round 12 = .ok (.bipush 14, 2) := by decide +kernel
theorem dX9_round_14 : decode cX9_round 14 = .ok (.invokestatic 87, 3) := by decide +kernel
theorem dX9_round_17 : decode cX9_round 17 = .ok (.ifCond .ne 7, 3) := by decide +kernel
theorem dX9_round_20 : decode cX9_round 20 = .ok (.sipush (-1002), 3) := by decide +kernel
theorem dX9_round_23 : decode cX9_round 23 = .ok (.ireturn, 1) := by decide +kernel
theorem dX9_round_24 : decode cX9_round 24 = .ok (.aload_n 0, 1) := by decide +kernel
theorem dX9_round_25 : decode cX9_round 25 = .ok (.getfield 12, 3) := by decide +kernel
theorem dX9_round_28 : decode cX9_round 28 = .ok (.iload_n 1, 1) := by decide +kernel
theorem dX9_round_29 : decode cX9_round 29 = .ok (.iload_n 2, 1) := by decide +kernel
theorem dX9_round_30 : decode cX9_round 30 = .ok (.invokevirtual 107, 3) := by decide +kernel
theorem dX9_round_33 : decode cX9_round 33 = .ok (.ifCond .ne 7, 3) := by decide +kernel
theorem dX9_round_36 : decode cX9_round 36 = .ok (.sipush (-1005), 3) := by decide +kernel
theorem dX9_round_39 : decode cX9_round 39 = .ok (.ireturn, 1) := by decide +kernel
theorem dX9_round_40 : decode cX9_round 40 = .ok (.aload_n 0, 1) := by decide +kernel
theorem dX9_round_41 : decode cX9_round 41 = .ok (.getfield 19, 3) := by decide +kernel
theorem dX9_round_44 : decode cX9_round 44 = .ok (.aload_n 0, 1) := by decide +kernel
theorem dX9_round_45 : decode cX9_round 45 = .ok (.getfield 12, 3) := by decide +kernel
theorem dX9_round_48 : decode cX9_round 48 = .ok (.invokevirtual 77, 3) := by decide +kernel
theorem dX9_round_51 : decode cX9_round 51 = .ok (.aload_n 0, 1) := by decide +kernel
theorem dX9_round_52 : decode cX9_round 52 = .ok (.getfield 12, 3) := by decide +kernel
theorem dX9_round_55 : decode cX9_round 55 = .ok (.iload_n 1, 1) := by decide +kernel
theorem dX9_round_56 : decode cX9_round 56 = .ok (.iload_n 2, 1) := by decide +kernel
theorem dX9_round_57 : decode cX9_round 57 = .ok (.invokevirtual 111, 3) := by decide +kernel
theorem dX9_round_60 : decode cX9_round 60 = .ok (.ireturn, 1) := by decide +kernel
theorem dX9_play_0 : decode cX9_play 0 = .ok (.aload_n 0, 1) := by decide +kernel
theorem dX9_play_1 : decode cX9_play 1 = .ok (.getfield 12, 3) := by decide +kernel
theorem dX9_play_4 : decode cX9_play 4 = .ok (.invokevirtual 115, 3) := by decide +kernel
theorem dX9_play_7 : decode cX9_play 7 = .ok (.ifCond .eq 7, 3) := by decide +kernel
theorem dX9_play_10 : decode cX9_play 10 = .ok (.sipush (-1005), 3) := by decide +kernel
theorem dX9_play_13 : decode cX9_play 13 = .ok (.ireturn, 1) := by decide +kernel
theorem dX9_play_14 : decode cX9_play 14 = .ok (.aload_n 0, 1) := by decide +kernel
theorem dX9_play_15 : decode cX9_play 15 = .ok (.invokevirtual 119, 3) := by decide +kernel
theorem dX9_play_18 : decode cX9_play 18 = .ok (.astore_n 1, 1) := by decide +kernel
theorem dX9_play_19 : decode cX9_play 19 = .ok (.aload_n 0, 1) := by decide +kernel
theorem dX9_play_20 : decode cX9_play 20 = .ok (.getfield 52, 3) := by decide +kernel
theorem dX9_play_23 : decode cX9_play 23 = .ok (.aload_n 1, 1) := by decide +kernel
theorem dX9_play_24 : decode cX9_play 24 = .ok (.invokevirtual 123, 3) := by decide +kernel
theorem dX9_play_27 : decode cX9_play 27 = .ok (.istore_n 2, 1) := by decide +kernel
theorem dX9_play_28 : decode cX9_play 28 = .ok (.aload_n 0, 1) := by decide +kernel
theorem dX9_play_29 : decode cX9_play 29 = .ok (.getfield 52, 3) := by decide +kernel
theorem dX9_play_32 : decode cX9_play 32 = .ok (.aload_n 1, 1) := by decide +kernel
theorem dX9_play_33 : decode cX9_play 33 = .ok (.iload_n 2, 1) := by decide +kernel
theorem dX9_play_34 : decode cX9_play 34 = .ok (.invokevirtual 127, 3) := by decide +kernel
theorem dX9_play_37 : decode cX9_play 37 = .ok (.istore_n 3, 1) := by decide +kernel
theorem dX9_play_38 : decode cX9_play 38 = .ok (.aload_n 0, 1) := by decide +kernel
theorem dX9_play_39 : decode cX9_play 39 = .ok (.getfield 19, 3) := by decide +kernel
theorem dX9_play_42 : decode cX9_play 42 = .ok (.aload_n 0, 1) := by decide +kernel
theorem dX9_play_43 : decode cX9_play 43 = .ok (.getfield 12, 3) := by decide +kernel
theorem dX9_play_46 : decode cX9_play 46 = .ok (.invokevirtual 77, 3) := by decide +kernel
theorem dX9_play_49 : decode cX9_play 49 = .ok (.aload_n 0, 1) := by decide +kernel
theorem dX9_play_50 : decode cX9_play 50 = .ok (.getfield 12, 3) := by decide +kernel
theorem dX9_play_53 : decode cX9_play 53 = .ok (.iload_n 2, 1) := by decide +kernel
theorem dX9_play_54 : decode cX9_play 54 = .ok (.iload_n 3, 1) := by decide +kernel
theorem dX9_play_55 : decode cX9_play 55 = .ok (.invokevirtual 111, 3) := by decide +kernel
theorem dX9_play_58 : decode cX9_play 58 = .ok (.ireturn, 1) := by decide +kernel
theorem dX9_run_0 : decode cX9_run 0 = .ok (.aload_n 0, 1) := by decide +kernel
theorem dX9_run_1 : decode cX9_run 1 = .ok (.getfield 36, 3) := by decide +kernel
theorem dX9_run_4 : decode cX9_run 4 = .ok (.invokevirtual 131, 3) := by decide +kernel
theorem dX9_run_7 : decode cX9_run 7 = .ok (.sipush (-1006), 3) := by decide +kernel
theorem dX9_run_10 : decode cX9_run 10 = .ok (.if_icmp .eq 7, 3) := by decide +kernel
theorem dX9_run_13 : decode cX9_run 13 = .ok (.sipush (-1003), 3) := by decide +kernel
theorem dX9_run_16 : decode cX9_run 16 = .ok (.ireturn, 1) := by decide +kernel
theorem dX9_run_17 : decode cX9_run 17 = .ok (.aload_n 0, 1) := by decide +kernel
theorem dX9_run_18 : decode cX9_run 18 = .ok (.getfield 19, 3) := by decide +kernel
theorem dX9_run_21 : decode cX9_run 21 = .ok (.aload_n 0, 1) := by decide +kernel
theorem dX9_run_22 : decode cX9_run 22 = .ok (.getfield 12, 3) := by decide +kernel
theorem dX9_run_25 : decode cX9_run 25 = .ok (.invokevirtual 77, 3) := by decide +kernel
theorem dX9_run_28 : decode cX9_run 28 = .ok (.aload_n 0, 1) := by decide +kernel
theorem dX9_run_29 : decode cX9_run 29 = .ok (.invokevirtual 135, 3) := by decide +kernel
theorem dX9_run_32 : decode cX9_run 32 = .ok (.istore_n 1, 1) := by decide +kernel
theorem dX9_run_33 : decode cX9_run 33 = .ok (.aload_n 0, 1) := by decide +kernel
theorem dX9_run_34 : decode cX9_run 34 = .ok (.getfield 36, 3) := by decide +kernel
theorem dX9_run_37 : decode cX9_run 37 = .ok (.invokevirtual 138, 3) := by decide +kernel
theorem dX9_run_40 : decode cX9_run 40 = .ok (.iload_n 1, 1) := by decide +kernel
theorem dX9_run_41 : decode cX9_run 41 = .ok (.ireturn, 1) := by decide +kernel
theorem dX9_player_0 : decode cX9_player 0 = .ok (.iload_n 1, 1) := by decide +kernel
theorem dX9_player_1 : decode cX9_player 1 = .ok (.invokestatic 141, 3) := by decide +kernel
theorem dX9_player_4 : decode cX9_player 4 = .ok (.ifCond .ne 7, 3) := by decide +kernel
theorem dX9_player_7 : decode cX9_player 7 = .ok (.sipush (-1001), 3) := by decide +kernel
theorem dX9_player_10 : decode cX9_player 10 = .ok (.ireturn, 1) := by decide +kernel
theorem dX9_player_11 : decode cX9_player 11 = .ok (.aload_n 0, 1) := by decide +kernel
theorem dX9_player_12 : decode cX9_player 12 = .ok (.getfield 12, 3) := by decide +kernel
theorem dX9_player_15 : decode cX9_player 15 = .ok (.iload_n 1, 1) := by decide +kernel
theorem dX9_player_16 : decode cX9_player 16 = .ok (.invokevirtual 144, 3) := by decide +kernel
theorem dX9_player_19 : decode cX9_player 19 = .ok (.astore_n 3, 1) := by decide +kernel
theorem dX9_player_20 : decode cX9_player 20 = .ok (.iload_n 2, 1) := by decide +kernel
theorem dX9_player_21 : decode cX9_player 21 = .ok (.tableswitch 108 0 6 #[43, 48, 57, 62, 67, 72, 77], 43) := by decide +kernel
theorem dX9_player_64 : decode cX9_player 64 = .ok (.aload_n 3, 1) := by decide +kernel
theorem dX9_player_65 : decode cX9_player 65 = .ok (.getfield 148, 3) := by decide +kernel
theorem dX9_player_68 : decode cX9_player 68 = .ok (.ireturn, 1) := by decide +kernel
theorem dX9_player_69 : decode cX9_player 69 = .ok (.aload_n 0, 1) := by decide +kernel
theorem dX9_player_70 : decode cX9_player 70 = .ok (.getfield 12, 3) := by decide +kernel
theorem dX9_player_73 : decode cX9_player 73 = .ok (.iload_n 1, 1) := by decide +kernel
theorem dX9_player_74 : decode cX9_player 74 = .ok (.invokevirtual 151, 3) := by decide +kernel
theorem dX9_player_77 : decode cX9_player 77 = .ok (.ireturn, 1) := by decide +kernel
theorem dX9_player_78 : decode cX9_player 78 = .ok (.aload_n 3, 1) := by decide +kernel
theorem dX9_player_79 : decode cX9_player 79 = .ok (.getfield 99, 3) := by decide +kernel
theorem dX9_player_82 : decode cX9_player 82 = .ok (.ireturn, 1) := by decide +kernel
theorem dX9_player_83 : decode cX9_player 83 = .ok (.aload_n 3, 1) := by decide +kernel
theorem dX9_player_84 : decode cX9_player 84 = .ok (.getfield 154, 3) := by decide +kernel
theorem dX9_player_87 : decode cX9_player 87 = .ok (.ireturn, 1) := by decide +kernel
theorem dX9_player_88 : decode cX9_player 88 = .ok (.aload_n 3, 1) := by decide +kernel
theorem dX9_player_89 : decode cX9_player 89 = .ok (.getfield 157, 3) := by decide +kernel
theorem dX9_player_92 : decode cX9_player 92 = .ok (.ireturn, 1) := by decide +kernel
theorem dX9_player_93 : decode cX9_player 93 = .ok (.aload_n 3, 1) := by decide +kernel
theorem dX9_player_94 : decode cX9_player 94 = .ok (.getfield 160, 3) := by decide +kernel
theorem dX9_player_97 : decode cX9_player 97 = .ok (.ireturn, 1) := by decide +kernel
theorem dX9_player_98 : decode cX9_player 98 = .ok (.aload_n 0, 1) := by decide +kernel
theorem dX9_player_99 : decode cX9_player 99 = .ok (.iload_n 1, 1) := by decide +kernel
theorem dX9_player_100 : decode cX9_player 100 = .ok (.aload_n 0, 1) := by decide +kernel
theorem dX9_player_101 : decode cX9_player 101 = .ok (.getfield 12, 3) := by decide +kernel
theorem dX9_player_104 : decode cX9_player 104 = .ok (.iload_n 1, 1) := by decide +kernel
theorem dX9_player_105 : decode cX9_player 105 = .ok (.invokevirtual 151, 3) := by decide +kernel
theorem dX9_player_108 : decode cX9_player 108 = .ok (.invokevirtual 163, 3) := by decide +kernel
theorem dX9_player_111 : decode cX9_player 111 = .ok (.istore 4, 2) := by decide +kernel
theorem dX9_player_113 : decode cX9_player 113 = .ok (.iload 4, 2) := by decide +kernel
theorem dX9_player_115 : decode cX9_player 115 = .ok (.bipush 9, 2) := by decide +kernel
theorem dX9_player_117 : decode cX9_player 117 = .ok (.if_icmp .ge 8, 3) := by decide +kernel
theorem dX9_player_120 : decode cX9_player 120 = .ok (.iload 4, 2) := by decide +kernel
theorem dX9_player_122 : decode cX9_player 122 = .ok (.goto 6, 3) := by decide +kernel
theorem dX9_player_125 : decode cX9_player 125 = .ok (.sipush (-1006), 3) := by decide +kernel
theorem dX9_player_128 : decode cX9_player 128 = .ok (.ireturn, 1) := by decide +kernel
theorem dX9_player_129 : decode cX9_player 129 = .ok (.sipush (-1002), 3) := by decide +kernel
theorem dX9_player_132 : decode cX9_player 132 = .ok (.ireturn, 1) := by decide +kernel
theorem dX9_count_0 : decode cX9_count 0 = .ok (.iload_n 1, 1) := by decide +kernel
theorem dX9_count_1 : decode cX9_count 1 = .ok (.invokestatic 63, 3) := by decide +kernel
theorem dX9_count_4 : decode cX9_count 4 = .ok (.ifCond .eq 12, 3) := by decide +kernel
theorem dX9_count_7 : decode cX9_count 7 = .ok (.aload_n 0, 1) := by decide +kernel
theorem dX9_count_8 : decode cX9_count 8 = .ok (.getfield 12, 3) := by decide +kernel
theorem dX9_count_11 : decode cX9_count 11 = .ok (.iload_n 1, 1) := by decide +kernel
theorem dX9_count_12 : decode cX9_count 12 = .ok (.invokevirtual 74, 3) := by decide +kernel
theorem dX9_count_15 : decode cX9_count 15 = .ok (.ireturn, 1) := by decide +kernel
theorem dX9_count_16 : decode cX9_count 16 = .ok (.iload_n 1, 1) := by decide +kernel
theorem dX9_count_17 : decode cX9_count 17 = .ok (.tableswitch 141 4 11 #[47, 55, 79, 87, 95, 103, 125, 133], 47) := by decide +kernel
theorem dX9_count_64 : decode cX9_count 64 = .ok (.aload_n 0, 1) := by decide +kernel
theorem dX9_count_65 : decode cX9_count 65 = .ok (.getfield 12, 3) := by decide +kernel
