theorem dX10_canForce_128 : decode cX10_canForce 128 = .ok (.ifCond .eq 7, 3) := by decide +kernel
theorem dX10_canForce_131 : decode cX10_canForce 131 = .ok (.iconst 1, 1) := by decide +kernel
theorem dX10_canForce_132 : decode cX10_canForce 132 = .ok (.goto 4, 3) := by decide +kernel
theorem dX10_canForce_135 : decode cX10_canForce 135 = .ok (.iconst 0, 1) := by decide +kernel
theorem dX10_canForce_136 : decode cX10_canForce 136 = .ok (.istore 13, 2) := by decide +kernel
theorem dX10_canForce_138 : decode cX10_canForce 138 = .ok (.iinc 14 1, 3) := by decide +kernel
theorem dX10_canForce_141 : decode cX10_canForce 141 = .ok (.goto (-76), 3) := by decide +kernel
theorem dX10_canForce_144 : decode cX10_canForce 144 = .ok (.iload 9, 2) := by decide +kernel
theorem dX10_canForce_146 : decode cX10_canForce 146 = .ok (.ifCond .ne 8, 3) := by decide +kernel
theorem dX10_canForce_149 : decode cX10_canForce 149 = .ok (.iload 13, 2) := by decide +kernel
theorem dX10_canForce_151 : decode cX10_canForce 151 = .ok (.ifCond .eq 7, 3) := by decide +kernel
theorem dX10_canForce_154 : decode cX10_canForce 154 = .ok (.iconst 1, 1) := by decide +kernel
theorem dX10_canForce_155 : decode cX10_canForce 155 = .ok (.goto 4, 3) := by decide +kernel
theorem dX10_canForce_158 : decode cX10_canForce 158 = .ok (.iconst 0, 1) := by decide +kernel
theorem dX10_canForce_159 : decode cX10_canForce 159 = .ok (.istore 9, 2) := by decide +kernel
theorem dX10_canForce_161 : decode cX10_canForce 161 = .ok (.iload 10, 2) := by decide +kernel
theorem dX10_canForce_163 : decode cX10_canForce 163 = .ok (.ifCond .eq 12, 3) := by decide +kernel
theorem dX10_canForce_166 : decode cX10_canForce 166 = .ok (.iload 12, 2) := by decide +kernel
theorem dX10_canForce_168 : decode cX10_canForce 168 = .ok (.ifCond .eq 7, 3) := by decide +kernel
theorem dX10_canForce_171 : decode cX10_canForce 171 = .ok (.iconst 1, 1) := by decide +kernel
theorem dX10_canForce_172 : decode cX10_canForce 172 = .ok (.goto 4, 3) := by decide +kernel
theorem dX10_canForce_175 : decode cX10_canForce 175 = .ok (.iconst 0, 1) := by decide +kernel
theorem dX10_canForce_176 : decode cX10_canForce 176 = .ok (.istore 10, 2) := by decide +kernel
theorem dX10_canForce_178 : decode cX10_canForce 178 = .ok (.iinc 11 1, 3) := by decide +kernel
theorem dX10_canForce_181 : decode cX10_canForce 181 = .ok (.goto (-132), 3) := by decide +kernel
theorem dX10_canForce_184 : decode cX10_canForce 184 = .ok (.iload_n 1, 1) := by decide +kernel
theorem dX10_canForce_185 : decode cX10_canForce 185 = .ok (.iload 5, 2) := by decide +kernel
theorem dX10_canForce_187 : decode cX10_canForce 187 = .ok (.if_icmp .ne 8, 3) := by decide +kernel
theorem dX10_canForce_190 : decode cX10_canForce 190 = .ok (.iload 9, 2) := by decide +kernel
theorem dX10_canForce_192 : decode cX10_canForce 192 = .ok (.goto 5, 3) := by decide +kernel
theorem dX10_canForce_195 : decode cX10_canForce 195 = .ok (.iload 10, 2) := by decide +kernel
theorem dX10_canForce_197 : decode cX10_canForce 197 = .ok (.ireturn, 1) := by decide +kernel
theorem dX10_lowest_0 : decode cX10_lowest 0 = .ok (.aload_n 0, 1) := by decide +kernel
theorem dX10_lowest_1 : decode cX10_lowest 1 = .ok (.getfield 7, 3) := by decide +kernel
theorem dX10_lowest_4 : decode cX10_lowest 4 = .ok (.iconst 1, 1) := by decide +kernel
theorem dX10_lowest_5 : decode cX10_lowest 5 = .ok (.iaload, 1) := by decide +kernel
theorem dX10_lowest_6 : decode cX10_lowest 6 = .ok (.ineg, 1) := by decide +kernel
theorem dX10_lowest_7 : decode cX10_lowest 7 = .ok (.ireturn, 1) := by decide +kernel
theorem dX10_worksOut_0 : decode cX10_worksOut 0 = .ok (.iconst 0, 1) := by decide +kernel
theorem dX10_worksOut_1 : decode cX10_worksOut 1 = .ok (.istore 4, 2) := by decide +kernel
theorem dX10_worksOut_3 : decode cX10_worksOut 3 = .ok (.iload 4, 2) := by decide +kernel
theorem dX10_worksOut_5 : decode cX10_worksOut 5 = .ok (.iconst 4, 1) := by decide +kernel
theorem dX10_worksOut_6 : decode cX10_worksOut 6 = .ok (.iconst 2, 1) := by decide +kernel
theorem dX10_worksOut_7 : decode cX10_worksOut 7 = .ok (.aload_n 0, 1) := by decide +kernel
theorem dX10_worksOut_8 : decode cX10_worksOut 8 = .ok (.getfield 7, 3) := by decide +kernel
theorem dX10_worksOut_11 : decode cX10_worksOut 11 = .ok (.iconst 0, 1) := by decide +kernel
theorem dX10_worksOut_12 : decode cX10_worksOut 12 = .ok (.iaload, 1) := by decide +kernel
theorem dX10_worksOut_13 : decode cX10_worksOut 13 = .ok (.imul, 1) := by decide +kernel
theorem dX10_worksOut_14 : decode cX10_worksOut 14 = .ok (.iconst 1, 1) := by decide +kernel
theorem dX10_worksOut_15 : decode cX10_worksOut 15 = .ok (.isub, 1) := by decide +kernel
theorem dX10_worksOut_16 : decode cX10_worksOut 16 = .ok (.imul, 1) := by decide +kernel
theorem dX10_worksOut_17 : decode cX10_worksOut 17 = .ok (.if_icmp .ge 86, 3) := by decide +kernel
theorem dX10_worksOut_20 : decode cX10_worksOut 20 = .ok (.iload 4, 2) := by decide +kernel
theorem dX10_worksOut_22 : decode cX10_worksOut 22 = .ok (.iconst 4, 1) := by decide +kernel
theorem dX10_worksOut_23 : decode cX10_worksOut 23 = .ok (.idiv, 1) := by decide +kernel
theorem dX10_worksOut_24 : decode cX10_worksOut 24 = .ok (.aload_n 0, 1) := by decide +kernel
theorem dX10_worksOut_25 : decode cX10_worksOut 25 = .ok (.getfield 7, 3) := by decide +kernel
theorem dX10_worksOut_28 : decode cX10_worksOut 28 = .ok (.iconst 0, 1) := by decide +kernel
theorem dX10_worksOut_29 : decode cX10_worksOut 29 = .ok (.iaload, 1) := by decide +kernel
theorem dX10_worksOut_30 : decode cX10_worksOut 30 = .ok (.isub, 1) := by decide +kernel
theorem dX10_worksOut_31 : decode cX10_worksOut 31 = .ok (.iconst 1, 1) := by decide +kernel
theorem dX10_worksOut_32 : decode cX10_worksOut 32 = .ok (.iadd, 1) := by decide +kernel
theorem dX10_worksOut_33 : decode cX10_worksOut 33 = .ok (.istore 5, 2) := by decide +kernel
theorem dX10_worksOut_35 : decode cX10_worksOut 35 = .ok (.iload 4, 2) := by decide +kernel
theorem dX10_worksOut_37 : decode cX10_worksOut 37 = .ok (.iconst 2, 1) := by decide +kernel
theorem dX10_worksOut_38 : decode cX10_worksOut 38 = .ok (.idiv, 1) := by decide +kernel
theorem dX10_worksOut_39 : decode cX10_worksOut 39 = .ok (.iconst 2, 1) := by decide +kernel
theorem dX10_worksOut_40 : decode cX10_worksOut 40 = .ok (.irem, 1) := by decide +kernel
theorem dX10_worksOut_41 : decode cX10_worksOut 41 = .ok (.istore 6, 2) := by decide +kernel
theorem dX10_worksOut_43 : decode cX10_worksOut 43 = .ok (.iload 4, 2) := by decide +kernel
theorem dX10_worksOut_45 : decode cX10_worksOut 45 = .ok (.iconst 2, 1) := by decide +kernel
theorem dX10_worksOut_46 : decode cX10_worksOut 46 = .ok (.irem, 1) := by decide +kernel
theorem dX10_worksOut_47 : decode cX10_worksOut 47 = .ok (.istore 7, 2) := by decide +kernel
theorem dX10_worksOut_49 : decode cX10_worksOut 49 = .ok (.iload 6, 2) := by decide +kernel
theorem dX10_worksOut_51 : decode cX10_worksOut 51 = .ok (.iload 5, 2) := by decide +kernel
theorem dX10_worksOut_53 : decode cX10_worksOut 53 = .ok (.iload_n 1, 1) := by decide +kernel
theorem dX10_worksOut_54 : decode cX10_worksOut 54 = .ok (.iload_n 2, 1) := by decide +kernel
theorem dX10_worksOut_55 : decode cX10_worksOut 55 = .ok (.iload 7, 2) := by decide +kernel
theorem dX10_worksOut_57 : decode cX10_worksOut 57 = .ok (.invokestatic 53, 3) := by decide +kernel
theorem dX10_worksOut_60 : decode cX10_worksOut 60 = .ok (.istore 8, 2) := by decide +kernel
theorem dX10_worksOut_62 : decode cX10_worksOut 62 = .ok (.aload_n 0, 1) := by decide +kernel
theorem dX10_worksOut_63 : decode cX10_worksOut 63 = .ok (.getfield 22, 3) := by decide +kernel
theorem dX10_worksOut_66 : decode cX10_worksOut 66 = .ok (.iload 8, 2) := by decide +kernel
theorem dX10_worksOut_68 : decode cX10_worksOut 68 = .ok (.iaload, 1) := by decide +kernel
theorem dX10_worksOut_69 : decode cX10_worksOut 69 = .ok (.iload_n 3, 1) := by decide +kernel
theorem dX10_worksOut_70 : decode cX10_worksOut 70 = .ok (.if_icmp .le 27, 3) := by decide +kernel
theorem dX10_worksOut_73 : decode cX10_worksOut 73 = .ok (.aload_n 0, 1) := by decide +kernel
theorem dX10_worksOut_74 : decode cX10_worksOut 74 = .ok (.iload 6, 2) := by decide +kernel
theorem dX10_worksOut_76 : decode cX10_worksOut 76 = .ok (.iload 5, 2) := by decide +kernel
theorem dX10_worksOut_78 : decode cX10_worksOut 78 = .ok (.iload_n 1, 1) := by decide +kernel
theorem dX10_worksOut_79 : decode cX10_worksOut 79 = .ok (.iload_n 2, 1) := by decide +kernel
theorem dX10_worksOut_80 : decode cX10_worksOut 80 = .ok (.iload 7, 2) := by decide +kernel
theorem dX10_worksOut_82 : decode cX10_worksOut 82 = .ok (.iload_n 3, 1) := by decide +kernel
theorem dX10_worksOut_83 : decode cX10_worksOut 83 = .ok (.invokevirtual 61, 3) := by decide +kernel
theorem dX10_worksOut_86 : decode cX10_worksOut 86 = .ok (.ifCond .eq 11, 3) := by decide +kernel
theorem dX10_worksOut_89 : decode cX10_worksOut 89 = .ok (.aload_n 0, 1) := by decide +kernel
theorem dX10_worksOut_90 : decode cX10_worksOut 90 = .ok (.getfield 22, 3) := by decide +kernel
theorem dX10_worksOut_93 : decode cX10_worksOut 93 = .ok (.iload 8, 2) := by decide +kernel
theorem dX10_worksOut_95 : decode cX10_worksOut 95 = .ok (.iload_n 3, 1) := by decide +kernel
theorem dX10_worksOut_96 : decode cX10_worksOut 96 = .ok (.iastore, 1) := by decide +kernel
theorem dX10_worksOut_97 : decode cX10_worksOut 97 = .ok (.iinc 4 1, 3) := by decide +kernel
theorem dX10_worksOut_100 : decode cX10_worksOut 100 = .ok (.goto (-97), 3) := by decide +kernel
theorem dX10_worksOut_103 : decode cX10_worksOut 103 = .ok (.return_, 1) := by decide +kernel
theorem dX10_worksOutAll_0 : decode cX10_worksOutAll 0 = .ok (.aload_n 0, 1) := by decide +kernel
theorem dX10_worksOutAll_1 : decode cX10_worksOutAll 1 = .ok (.invokevirtual 65, 3) := by decide +kernel
theorem dX10_worksOutAll_4 : decode cX10_worksOutAll 4 = .ok (.istore_n 3, 1) := by decide +kernel
theorem dX10_worksOutAll_5 : decode cX10_worksOutAll 5 = .ok (.iload_n 3, 1) := by decide +kernel
theorem dX10_worksOutAll_6 : decode cX10_worksOutAll 6 = .ok (.aload_n 0, 1) := by decide +kernel
theorem dX10_worksOutAll_7 : decode cX10_worksOutAll 7 = .ok (.getfield 7, 3) := by decide +kernel
theorem dX10_worksOutAll_10 : decode cX10_worksOutAll 10 = .ok (.iconst 2, 1) := by decide +kernel
theorem dX10_worksOutAll_11 : decode cX10_worksOutAll 11 = .ok (.iaload, 1) := by decide +kernel
theorem dX10_worksOutAll_12 : decode cX10_worksOutAll 12 = .ok (.ifCond .ne 14, 3) := by decide +kernel
theorem dX10_worksOutAll_15 : decode cX10_worksOutAll 15 = .ok (.iload_n 1, 1) := by decide +kernel
theorem dX10_worksOutAll_16 : decode cX10_worksOutAll 16 = .ok (.aload_n 0, 1) := by decide +kernel
theorem dX10_worksOutAll_17 : decode cX10_worksOutAll 17 = .ok (.getfield 7, 3) := by decide +kernel
theorem dX10_worksOutAll_20 : decode cX10_worksOutAll 20 = .ok (.iconst 1, 1) := by decide +kernel
theorem dX10_worksOutAll_21 : decode cX10_worksOutAll 21 = .ok (.iaload, 1) := by decide +kernel
theorem dX10_worksOutAll_22 : decode cX10_worksOutAll 22 = .ok (.iadd, 1) := by decide +kernel
theorem dX10_worksOutAll_23 : decode cX10_worksOutAll 23 = .ok (.goto 5, 3) := by decide +kernel
theorem dX10_worksOutAll_26 : decode cX10_worksOutAll 26 = .ok (.bipush 6, 2) := by decide +kernel
theorem dX10_worksOutAll_28 : decode cX10_worksOutAll 28 = .ok (.if_icmp .gt 57, 3) := by decide +kernel
theorem dX10_worksOutAll_31 : decode cX10_worksOutAll 31 = .ok (.aload_n 0, 1) := by decide +kernel
theorem dX10_worksOutAll_32 : decode cX10_worksOutAll 32 = .ok (.getfield 7, 3) := by decide +kernel
theorem dX10_worksOutAll_35 : decode cX10_worksOutAll 35 = .ok (.iconst 2, 1) := by decide +kernel
theorem dX10_worksOutAll_36 : decode cX10_worksOutAll 36 = .ok (.iaload, 1) := by decide +kernel
theorem dX10_worksOutAll_37 : decode cX10_worksOutAll 37 = .ok (.ifCond .ne 15, 3) := by decide +kernel
theorem dX10_worksOutAll_40 : decode cX10_worksOutAll 40 = .ok (.aload_n 0, 1) := by decide +kernel
theorem dX10_worksOutAll_41 : decode cX10_worksOutAll 41 = .ok (.iload_n 3, 1) := by decide +kernel
theorem dX10_worksOutAll_42 : decode cX10_worksOutAll 42 = .ok (.iload_n 1, 1) := by decide +kernel
theorem dX10_worksOutAll_43 : decode cX10_worksOutAll 43 = .ok (.iload_n 3, 1) := by decide +kernel
theorem dX10_worksOutAll_44 : decode cX10_worksOutAll 44 = .ok (.isub, 1) := by decide +kernel
theorem dX10_worksOutAll_45 : decode cX10_worksOutAll 45 = .ok (.iload_n 2, 1) := by decide +kernel
theorem dX10_worksOutAll_46 : decode cX10_worksOutAll 46 = .ok (.invokevirtual 69, 3) := by decide +kernel
theorem dX10_worksOutAll_49 : decode cX10_worksOutAll 49 = .ok (.goto 30, 3) := by decide +kernel
theorem dX10_worksOutAll_52 : decode cX10_worksOutAll 52 = .ok (.aload_n 0, 1) := by decide +kernel
theorem dX10_worksOutAll_53 : decode cX10_worksOutAll 53 = .ok (.invokevirtual 65, 3) := by decide +kernel
theorem dX10_worksOutAll_56 : decode cX10_worksOutAll 56 = .ok (.istore 4, 2) := by decide +kernel
theorem dX10_worksOutAll_58 : decode cX10_worksOutAll 58 = .ok (.iload 4, 2) := by decide +kernel
theorem dX10_worksOutAll_60 : decode cX10_worksOutAll 60 = .ok (.bipush 6, 2) := by decide +kernel
theorem dX10_worksOutAll_62 : decode cX10_worksOutAll 62 = .ok (.if_icmp .gt 17, 3) := by decide +kernel
theorem dX10_worksOutAll_65 : decode cX10_worksOutAll 65 = .ok (.aload_n 0, 1) := by decide +kernel
theorem dX10_worksOutAll_66 : decode cX10_worksOutAll 66 = .ok (.iload_n 3, 1) := by decide +kernel
theorem dX10_worksOutAll_67 : decode cX10_worksOutAll 67 = .ok (.iload 4, 2) := by decide +kernel
theorem dX10_worksOutAll_69 : decode cX10_worksOutAll 69 = .ok (.iload_n 2, 1) := by decide +kernel
theorem dX10_worksOutAll_70 : decode cX10_worksOutAll 70 = .ok (.invokevirtual 69, 3) := by decide +kernel
theorem dX10_worksOutAll_73 : decode cX10_worksOutAll 73 = .ok (.iinc 4 1, 3) := by decide +kernel
theorem dX10_worksOutAll_76 : decode cX10_worksOutAll 76 = .ok (.goto (-18), 3) := by decide +kernel
theorem dX10_worksOutAll_79 : decode cX10_worksOutAll 79 = .ok (.iinc 3 1, 3) := by decide +kernel
theorem dX10_worksOutAll_82 : decode cX10_worksOutAll 82 = .ok (.goto (-77), 3) := by decide +kernel
theorem dX10_worksOutAll_85 : decode cX10_worksOutAll 85 = .ok (.return_, 1) := by decide +kernel
theorem dX10_knows_0 : decode cX10_knows 0 = .ok (.sipush 1000, 3) := by decide +kernel
theorem dX10_knows_3 : decode cX10_knows 3 = .ok (.aload_n 0, 1) := by decide +kernel
theorem dX10_knows_4 : decode cX10_knows 4 = .ok (.getfield 7, 3) := by decide +kernel
theorem dX10_knows_7 : decode cX10_knows 7 = .ok (.iconst 0, 1) := by decide +kernel
theorem dX10_knows_8 : decode cX10_knows 8 = .ok (.iaload, 1) := by decide +kernel
theorem dX10_knows_9 : decode cX10_knows 9 = .ok (.imul, 1) := by decide +kernel
theorem dX10_knows_10 : decode cX10_knows 10 = .ok (.bipush 100, 2) := by decide +kernel
theorem dX10_knows_12 : decode cX10_knows 12 = .ok (.aload_n 0, 1) := by decide +kernel
theorem dX10_knows_13 : decode cX10_knows 13 = .ok (.getfield 7, 3) := by decide +kernel
theorem dX10_knows_16 : decode cX10_knows 16 = .ok (.iconst 1, 1) := by decide +kernel
theorem dX10_knows_17 : decode cX10_knows 17 = .ok (.iaload, 1) := by decide +kernel
theorem dX10_knows_18 : decode cX10_knows 18 = .ok (.imul, 1) := by decide +kernel
theorem dX10_knows_19 : decode cX10_knows 19 = .ok (.iadd, 1) := by decide +kernel
theorem dX10_knows_20 : decode cX10_knows 20 = .ok (.bipush 10, 2) := by decide +kernel
theorem dX10_knows_22 : decode cX10_knows 22 = .ok (.aload_n 0, 1) := by decide +kernel
theorem dX10_knows_23 : decode cX10_knows 23 = .ok (.getfield 7, 3) := by decide +kernel
theorem dX10_knows_26 : decode cX10_knows 26 = .ok (.iconst 2, 1) := by decide +kernel
theorem dX10_knows_27 : decode cX10_knows 27 = .ok (.iaload, 1) := by decide +kernel
theorem dX10_knows_28 : decode cX10_knows 28 = .ok (.imul, 1) := by decide +kernel
theorem dX10_knows_29 : decode cX10_knows 29 = .ok (.iadd, 1) := by decide +kernel
theorem dX10_knows_30 : decode cX10_knows 30 = .ok (.aload_n 0, 1) := by decide +kernel
theorem dX10_knows_31 : decode cX10_knows 31 = .ok (.getfield 7, 3) := by decide +kernel
theorem dX10_knows_34 : decode cX10_knows 34 = .ok (.iconst 3, 1) := by decide +kernel
theorem dX10_knows_35 : decode cX10_knows 35 = .ok (.iaload, 1) := by decide +kernel
theorem dX10_knows_36 : decode cX10_knows 36 = .ok (.iadd, 1) := by decide +kernel
theorem dX10_knows_37 : decode cX10_knows 37 = .ok (.istore_n 2, 1) := by decide +kernel
theorem dX10_knows_38 : decode cX10_knows 38 = .ok (.aload_n 0, 1) := by decide +kernel
theorem dX10_knows_39 : decode cX10_knows 39 = .ok (.getfield 73, 3) := by decide +kernel
theorem dX10_knows_42 : decode cX10_knows 42 = .ok (.iconst 1, 1) := by decide +kernel
theorem dX10_knows_43 : decode cX10_knows 43 = .ok (.if_icmp .ne 30, 3) := by decide +kernel
theorem dX10_knows_46 : decode cX10_knows 46 = .ok (.aload_n 0, 1) := by decide +kernel
theorem dX10_knows_47 : decode cX10_knows 47 = .ok (.getfield 76, 3) := by decide +kernel
theorem dX10_knows_50 : decode cX10_knows 50 = .ok (.iload_n 2, 1) := by decide +kernel
theorem dX10_knows_51 : decode cX10_knows 51 = .ok (.if_icmp .ne 22, 3) := by decide +kernel
theorem dX10_knows_54 : decode cX10_knows 54 = .ok (.aload_n 0, 1) := by decide +kernel
theorem dX10_knows_55 : decode cX10_knows 55 = .ok (.getfield 7, 3) := by decide +kernel
theorem dX10_knows_58 : decode cX10_knows 58 = .ok (.iconst 2, 1) := by decide +kernel
theorem dX10_knows_59 : decode cX10_knows 59 = .ok (.iaload, 1) := by decide +kernel
theorem dX10_knows_60 : decode cX10_knows 60 = .ok (.iconst 1, 1) := by decide +kernel
theorem dX10_knows_61 : decode cX10_knows 61 = .ok (.if_icmp .eq 11, 3) := by decide +kernel
theorem dX10_knows_64 : decode cX10_knows 64 = .ok (.aload_n 0, 1) := by decide +kernel
theorem dX10_knows_65 : decode cX10_knows 65 = .ok (.getfield 79, 3) := by decide +kernel
theorem dX10_knows_68 : decode cX10_knows 68 = .ok (.iload_n 1, 1) := by decide +kernel
theorem dX10_knows_69 : decode cX10_knows 69 = .ok (.if_icmp .ne 4, 3) := by decide +kernel
theorem dX10_knows_72 : decode cX10_knows 72 = .ok (.return_, 1) := by decide +kernel
theorem dX10_knows_73 : decode cX10_knows 73 = .ok (.iconst 0, 1) := by decide +kernel
theorem dX10_knows_74 : decode cX10_knows 74 = .ok (.istore_n 3, 1) := by decide +kernel
theorem dX10_knows_75 : decode cX10_knows 75 = .ok (.iload_n 3, 1) := by decide +kernel
theorem dX10_knows_76 : decode cX10_knows 76 = .ok (.sipush 20412, 3) := by decide +kernel
theorem dX10_knows_79 : decode cX10_knows 79 = .ok (.if_icmp .ge 51, 3) := by decide +kernel
theorem dX10_knows_82 : decode cX10_knows 82 = .ok (.iload_n 3, 1) := by decide +kernel
theorem dX10_knows_83 : decode cX10_knows 83 = .ok (.sipush 10206, 3) := by decide +kernel
theorem dX10_knows_86 : decode cX10_knows 86 = .ok (.idiv, 1) := by decide +kernel
theorem dX10_knows_87 : decode cX10_knows 87 = .ok (.istore 4, 2) := by decide +kernel
theorem dX10_knows_89 : decode cX10_knows 89 = .ok (.iload_n 3, 1) := by decide +kernel
theorem dX10_knows_90 : decode cX10_knows 90 = .ok (.sipush 1458, 3) := by decide +kernel
theorem dX10_knows_93 : decode cX10_knows 93 = .ok (.idiv, 1) := by decide +kernel
theorem dX10_knows_94 : decode cX10_knows 94 = .ok (.bipush 7, 2) := by decide +kernel
theorem dX10_knows_96 : decode cX10_knows 96 = .ok (.irem, 1) := by decide +kernel
theorem dX10_knows_97 : decode cX10_knows 97 = .ok (.iconst 3, 1) := by decide +kernel
theorem dX10_knows_98 : decode cX10_knows 98 = .ok (.isub, 1) := by decide +kernel
theorem dX10_knows_99 : decode cX10_knows 99 = .ok (.istore 5, 2) := by decide +kernel
theorem dX10_knows_101 : decode cX10_knows 101 = .ok (.aload_n 0, 1) := by decide +kernel
theorem dX10_knows_102 : decode cX10_knows 102 = .ok (.getfield 22, 3) := by decide +kernel
theorem dX10_knows_105 : decode cX10_knows 105 = .ok (.iload_n 3, 1) := by decide +kernel
theorem dX10_knows_106 : decode cX10_knows 106 = .ok (.aload_n 0, 1) := by decide +kernel
theorem dX10_knows_107 : decode cX10_knows 107 = .ok (.iload 5, 2) := by decide +kernel
theorem dX10_knows_109 : decode cX10_knows 109 = .ok (.invokevirtual 38, 3) := by decide +kernel
theorem dX10_knows_112 : decode cX10_knows 112 = .ok (.iload 4, 2) := by decide +kernel
theorem dX10_knows_114 : decode cX10_knows 114 = .ok (.if_icmp .ne 7, 3) := by decide +kernel
theorem dX10_knows_117 : decode cX10_knows 117 = .ok (.iconst 0, 1) := by decide +kernel
theorem dX10_knows_118 : decode cX10_knows 118 = .ok (.goto 5, 3) := by decide +kernel
theorem dX10_knows_121 : decode cX10_knows 121 = .ok (.bipush 99, 2) := by decide +kernel
theorem dX10_knows_123 : decode cX10_knows 123 = .ok (.iastore, 1) := by decide +kernel
theorem dX10_knows_124 : decode cX10_knows 124 = .ok (.iinc 3 1, 3) := by decide +kernel
theorem dX10_knows_127 : decode cX10_knows 127 = .ok (.goto (-52), 3) := by decide +kernel
theorem dX10_knows_130 : decode cX10_knows 130 = .ok (.iconst 1, 1) := by decide +kernel
theorem dX10_knows_131 : decode cX10_knows 131 = .ok (.istore_n 3, 1) := by decide +kernel
theorem dX10_knows_132 : decode cX10_knows 132 = .ok (.iload_n 3, 1) := by decide +kernel
theorem dX10_knows_133 : decode cX10_knows 133 = .ok (.bipush 8, 2) := by decide +kernel
theorem dX10_knows_135 : decode cX10_knows 135 = .ok (.if_icmp .gt 15, 3) := by decide +kernel
theorem dX10_knows_138 : decode cX10_knows 138 = .ok (.aload_n 0, 1) := by decide +kernel
theorem dX10_knows_139 : decode cX10_knows 139 = .ok (.iload_n 1, 1) := by decide +kernel
theorem dX10_knows_140 : decode cX10_knows 140 = .ok (.iload_n 3, 1) := by decide +kernel
theorem dX10_knows_141 : decode cX10_knows 141 = .ok (.invokevirtual 82, 3) := by decide +kernel
theorem dX10_knows_144 : decode cX10_knows 144 = .ok (.iinc 3 1, 3) := by decide +kernel
theorem dX10_knows_147 : decode cX10_knows 147 = .ok (.goto (-15), 3) := by decide +kernel
theorem dX10_knows_150 : decode cX10_knows 150 = .ok (.aload_n 0, 1) := by decide +kernel
theorem dX10_knows_151 : decode cX10_knows 151 = .ok (.iconst 1, 1) := by decide +kernel
theorem dX10_knows_152 : decode cX10_knows 152 = .ok (.putfield 73, 3) := by decide +kernel
theorem dX10_knows_155 : decode cX10_knows 155 = .ok (.aload_n 0, 1) := by decide +kernel
theorem dX10_knows_156 : decode cX10_knows 156 = .ok (.iload_n 2, 1) := by decide +kernel
theorem dX10_knows_157 : decode cX10_knows 157 = .ok (.putfield 76, 3) := by decide +kernel
theorem dX10_knows_160 : decode cX10_knows 160 = .ok (.aload_n 0, 1) := by decide +kernel
theorem dX10_knows_161 : decode cX10_knows 161 = .ok (.iload_n 1, 1) := by decide +kernel
theorem dX10_knows_162 : decode cX10_knows 162 = .ok (.putfield 79, 3) := by decide +kernel
theorem dX10_knows_165 : decode cX10_knows 165 = .ok (.return_, 1) := by decide +kernel
theorem dX10_timeWith_0 : decode cX10_timeWith 0 = .ok (.aload_n 0, 1) := by decide +kernel
theorem dX10_timeWith_1 : decode cX10_timeWith 1 = .ok (.iload_n 2, 1) := by decide +kernel
theorem dX10_timeWith_2 : decode cX10_timeWith 2 = .ok (.iload_n 3, 1) := by decide +kernel
theorem dX10_timeWith_3 : decode cX10_timeWith 3 = .ok (.iadd, 1) := by decide +kernel
theorem dX10_timeWith_4 : decode cX10_timeWith 4 = .ok (.invokevirtual 86, 3) := by decide +kernel
theorem dX10_timeWith_7 : decode cX10_timeWith 7 = .ok (.aload_n 0, 1) := by decide +kernel
theorem dX10_timeWith_8 : decode cX10_timeWith 8 = .ok (.getfield 22, 3) := by decide +kernel
theorem dX10_timeWith_11 : decode cX10_timeWith 11 = .ok (.iload_n 1, 1) := by decide +kernel
theorem dX10_timeWith_12 : decode cX10_timeWith 12 = .ok (.aload_n 0, 1) := by decide +kernel
theorem dX10_timeWith_13 : decode cX10_timeWith 13 = .ok (.getfield 7, 3) := by decide +kernel
theorem dX10_timeWith_16 : decode cX10_timeWith 16 = .ok (.iconst 4, 1) := by decide +kernel
theorem dX10_timeWith_17 : decode cX10_timeWith 17 = .ok (.iaload, 1) := by decide +kernel
theorem dX10_timeWith_18 : decode cX10_timeWith 18 = .ok (.iload_n 2, 1) := by decide +kernel
theorem dX10_timeWith_19 : decode cX10_timeWith 19 = .ok (.iload_n 3, 1) := by decide +kernel
theorem dX10_timeWith_20 : decode cX10_timeWith 20 = .ok (.aload_n 0, 1) := by decide +kernel
theorem dX10_timeWith_21 : decode cX10_timeWith 21 = .ok (.getfield 7, 3) := by decide +kernel
theorem dX10_timeWith_24 : decode cX10_timeWith 24 = .ok (.iconst 5, 1) := by decide +kernel
theorem dX10_timeWith_25 : decode cX10_timeWith 25 = .ok (.iaload, 1) := by decide +kernel
theorem dX10_timeWith_26 : decode cX10_timeWith 26 = .ok (.invokestatic 53, 3) := by decide +kernel
theorem dX10_timeWith_29 : decode cX10_timeWith 29 = .ok (.iaload, 1) := by decide +kernel
theorem dX10_timeWith_30 : decode cX10_timeWith 30 = .ok (.ireturn, 1) := by decide +kernel
theorem dX10_timeOf_0 : decode cX10_timeOf 0 = .ok (.aload_n 0, 1) := by decide +kernel
theorem dX10_timeOf_1 : decode cX10_timeOf 1 = .ok (.iload_n 1, 1) := by decide +kernel
theorem dX10_timeOf_2 : decode cX10_timeOf 2 = .ok (.aload_n 0, 1) := by decide +kernel
theorem dX10_timeOf_3 : decode cX10_timeOf 3 = .ok (.getfield 7, 3) := by decide +kernel
theorem dX10_timeOf_6 : decode cX10_timeOf 6 = .ok (.bipush 7, 2) := by decide +kernel
theorem dX10_timeOf_8 : decode cX10_timeOf 8 = .ok (.iaload, 1) := by decide +kernel
theorem dX10_timeOf_9 : decode cX10_timeOf 9 = .ok (.aload_n 0, 1) := by decide +kernel
theorem dX10_timeOf_10 : decode cX10_timeOf 10 = .ok (.getfield 7, 3) := by decide +kernel
theorem dX10_timeOf_13 : decode cX10_timeOf 13 = .ok (.bipush 8, 2) := by decide +kernel
theorem dX10_timeOf_15 : decode cX10_timeOf 15 = .ok (.iaload, 1) := by decide +kernel
theorem dX10_timeOf_16 : decode cX10_timeOf 16 = .ok (.invokevirtual 90, 3) := by decide +kernel
theorem dX10_timeOf_19 : decode cX10_timeOf 19 = .ok (.ireturn, 1) := by decide +kernel
theorem dX10_timeBehind_0 : decode cX10_timeBehind 0 = .ok (.aload_n 0, 1) := by decide +kernel
theorem dX10_timeBehind_1 : decode cX10_timeBehind 1 = .ok (.getfield 22, 3) := by decide +kernel
theorem dX10_timeBehind_4 : decode cX10_timeBehind 4 = .ok (.aload_n 0, 1) := by decide +kernel
theorem dX10_timeBehind_5 : decode cX10_timeBehind 5 = .ok (.iload_n 1, 1) := by decide +kernel
theorem dX10_timeBehind_6 : decode cX10_timeBehind 6 = .ok (.aload_n 0, 1) := by decide +kernel
theorem dX10_timeBehind_7 : decode cX10_timeBehind 7 = .ok (.getfield 7, 3) := by decide +kernel
theorem dX10_timeBehind_10 : decode cX10_timeBehind 10 = .ok (.iconst 4, 1) := by decide +kernel
theorem dX10_timeBehind_11 : decode cX10_timeBehind 11 = .ok (.iaload, 1) := by decide +kernel
theorem dX10_timeBehind_12 : decode cX10_timeBehind 12 = .ok (.aload_n 0, 1) := by decide +kernel
theorem dX10_timeBehind_13 : decode cX10_timeBehind 13 = .ok (.getfield 7, 3) := by decide +kernel
theorem dX10_timeBehind_16 : decode cX10_timeBehind 16 = .ok (.bipush 7, 2) := by decide +kernel
theorem dX10_timeBehind_18 : decode cX10_timeBehind 18 = .ok (.iaload, 1) := by decide +kernel
theorem dX10_timeBehind_19 : decode cX10_timeBehind 19 = .ok (.aload_n 0, 1) := by decide +kernel
theorem dX10_timeBehind_20 : decode cX10_timeBehind 20 = .ok (.getfield 7, 3) := by decide +kernel
theorem dX10_timeBehind_23 : decode cX10_timeBehind 23 = .ok (.bipush 8, 2) := by decide +kernel
theorem dX10_timeBehind_25 : decode cX10_timeBehind 25 = .ok (.iaload, 1) := by decide +kernel
theorem dX10_timeBehind_26 : decode cX10_timeBehind 26 = .ok (.aload_n 0, 1) := by decide +kernel
theorem dX10_timeBehind_27 : decode cX10_timeBehind 27 = .ok (.getfield 7, 3) := by decide +kernel
theorem dX10_timeBehind_30 : decode cX10_timeBehind 30 = .ok (.iconst 5, 1) := by decide +kernel
theorem dX10_timeBehind_31 : decode cX10_timeBehind 31 = .ok (.iaload, 1) := by decide +kernel
theorem dX10_timeBehind_32 : decode cX10_timeBehind 32 = .ok (.iload_n 2, 1) := by decide +kernel
theorem dX10_timeBehind_33 : decode cX10_timeBehind 33 = .ok (.iload_n 3, 1) := by decide +kernel
theorem dX10_timeBehind_34 : decode cX10_timeBehind 34 = .ok (.invokevirtual 57, 3) := by decide +kernel
theorem dX10_timeBehind_37 : decode cX10_timeBehind 37 = .ok (.iaload, 1) := by decide +kernel
theorem dX10_timeBehind_38 : decode cX10_timeBehind 38 = .ok (.istore 4, 2) := by decide +kernel
theorem dX10_timeBehind_40 : decode cX10_timeBehind 40 = .ok (.iload 4, 2) := by decide +kernel
theorem dX10_timeBehind_42 : decode cX10_timeBehind 42 = .ok (.bipush 8, 2) := by decide +kernel
theorem dX10_timeBehind_44 : decode cX10_timeBehind 44 = .ok (.if_icmp .lt 8, 3) := by decide +kernel
theorem dX10_timeBehind_47 : decode cX10_timeBehind 47 = .ok (.bipush 99, 2) := by decide +kernel
theorem dX10_timeBehind_49 : decode cX10_timeBehind 49 = .ok (.goto 5, 3) := by decide +kernel
theorem dX10_timeBehind_52 : decode cX10_timeBehind 52 = .ok (.iload 4, 2) := by decide +kernel
theorem dX10_timeBehind_54 : decode cX10_timeBehind 54 = .ok (.ireturn, 1) := by decide +kernel
theorem dX10_isSetting_0 : decode cX10_isSetting 0 = .ok (.iload_n 0, 1) := by decide +kernel
theorem dX10_isSetting_1 : decode cX10_isSetting 1 = .ok (.tableswitch 59 0 3 #[31, 41, 51, 51], 31) := by decide +kernel
theorem dX10_isSetting_32 : decode cX10_isSetting 32 = .ok (.iload_n 1, 1) := by decide +kernel
theorem dX10_isSetting_33 : decode cX10_isSetting 33 = .ok (.i2l, 1) := by decide +kernel
theorem dX10_isSetting_34 : decode cX10_isSetting 34 = .ok (.lconst 1, 1) := by decide +kernel
theorem dX10_isSetting_35 : decode cX10_isSetting 35 = .ok (.ldc2_w 93, 3) := by decide +kernel
theorem dX10_isSetting_38 : decode cX10_isSetting 38 = .ok (.invokestatic 95, 3) := by decide +kernel
theorem dX10_isSetting_41 : decode cX10_isSetting 41 = .ok (.ireturn, 1) := by decide +kernel
theorem dX10_isSetting_42 : decode cX10_isSetting 42 = .ok (.iload_n 1, 1) := by decide +kernel
theorem dX10_isSetting_43 : decode cX10_isSetting 43 = .ok (.i2l, 1) := by decide +kernel
theorem dX10_isSetting_44 : decode cX10_isSetting 44 = .ok (.lconst 0, 1) := by decide +kernel
theorem dX10_isSetting_45 : decode cX10_isSetting 45 = .ok (.ldc2_w 99, 3) := by decide +kernel
theorem dX10_isSetting_48 : decode cX10_isSetting 48 = .ok (.invokestatic 95, 3) := by decide +kernel
theorem dX10_isSetting_51 : decode cX10_isSetting 51 = .ok (.ireturn, 1) := by decide +kernel
theorem dX10_isSetting_52 : decode cX10_isSetting 52 = .ok (.iload_n 1, 1) := by decide +kernel
theorem dX10_isSetting_53 : decode cX10_isSetting 53 = .ok (.i2l, 1) := by decide +kernel
theorem dX10_isSetting_54 : decode cX10_isSetting 54 = .ok (.lconst 0, 1) := by decide +kernel
theorem dX10_isSetting_55 : decode cX10_isSetting 55 = .ok (.lconst 1, 1) := by decide +kernel
theorem dX10_isSetting_56 : decode cX10_isSetting 56 = .ok (.invokestatic 95, 3) := by decide +kernel
theorem dX10_isSetting_59 : decode cX10_isSetting 59 = .ok (.ireturn, 1) := by decide +kernel
theorem dX10_isSetting_60 : decode cX10_isSetting 60 = .ok (.iconst 0, 1) := by decide +kernel
theorem dX10_isSetting_61 : decode cX10_isSetting 61 = .ok (.ireturn, 1) := by decide +kernel
theorem dX10_set_0 : decode cX10_set 0 = .ok (.iload_n 1, 1) := by decide +kernel
theorem dX10_set_1 : decode cX10_set 1 = .ok (.iload_n 2, 1) := by decide +kernel
theorem dX10_set_2 : decode cX10_set 2 = .ok (.invokestatic 101, 3) := by decide +kernel
theorem dX10_set_5 : decode cX10_set 5 = .ok (.ifCond .ne 7, 3) := by decide +kernel
theorem dX10_set_8 : decode cX10_set 8 = .ok (.sipush (-1002), 3) := by decide +kernel
theorem dX10_set_11 : decode cX10_set 11 = .ok (.ireturn, 1) := by decide +kernel
theorem dX10_set_12 : decode cX10_set 12 = .ok (.aload_n 0, 1) := by decide +kernel
theorem dX10_set_13 : decode cX10_set 13 = .ok (.invokevirtual 105, 3) := by decide +kernel
theorem dX10_set_16 : decode cX10_set 16 = .ok (.aload_n 0, 1) := by decide +kernel
theorem dX10_set_17 : decode cX10_set 17 = .ok (.getfield 7, 3) := by decide +kernel
theorem dX10_set_20 : decode cX10_set 20 = .ok (.iload_n 1, 1) := by decide +kernel
theorem dX10_set_21 : decode cX10_set 21 = .ok (.iaload, 1) := by decide +kernel
theorem dX10_set_22 : decode cX10_set 22 = .ok (.istore_n 3, 1) := by decide +kernel
theorem dX10_set_23 : decode cX10_set 23 = .ok (.aload_n 0, 1) := by decide +kernel
theorem dX10_set_24 : decode cX10_set 24 = .ok (.getfield 7, 3) := by decide +kernel
theorem dX10_set_27 : decode cX10_set 27 = .ok (.iload_n 1, 1) := by decide +kernel
theorem dX10_set_28 : decode cX10_set 28 = .ok (.iload_n 2, 1) := by decide +kernel
theorem dX10_set_29 : decode cX10_set 29 = .ok (.iastore, 1) := by decide +kernel
theorem dX10_set_30 : decode cX10_set 30 = .ok (.aload_n 0, 1) := by decide +kernel
theorem dX10_set_31 : decode cX10_set 31 = .ok (.invokevirtual 31, 3) := by decide +kernel
theorem dX10_set_34 : decode cX10_set 34 = .ok (.iload_n 3, 1) := by decide +kernel
theorem dX10_set_35 : decode cX10_set 35 = .ok (.ireturn, 1) := by decide +kernel
theorem dX10_begin_0 : decode cX10_begin 0 = .ok (.iload_n 1, 1) := by decide +kernel
theorem dX10_begin_1 : decode cX10_begin 1 = .ok (.i2l, 1) := by decide +kernel
theorem dX10_begin_2 : decode cX10_begin 2 = .ok (.lconst 0, 1) := by decide +kernel
theorem dX10_begin_3 : decode cX10_begin 3 = .ok (.ldc2_w 108, 3) := by decide +kernel
theorem dX10_begin_6 : decode cX10_begin 6 = .ok (.invokestatic 95, 3) := by decide +kernel
theorem dX10_begin_9 : decode cX10_begin 9 = .ok (.ifCond .eq 15, 3) := by decide +kernel
theorem dX10_begin_12 : decode cX10_begin 12 = .ok (.iload_n 2, 1) := by decide +kernel
theorem dX10_begin_13 : decode cX10_begin 13 = .ok (.i2l, 1) := by decide +kernel
theorem dX10_begin_14 : decode cX10_begin 14 = .ok (.lconst 0, 1) := by decide +kernel
theorem dX10_begin_15 : decode cX10_begin 15 = .ok (.ldc2_w 108, 3) := by decide +kernel
theorem dX10_begin_18 : decode cX10_begin 18 = .ok (.invokestatic 95, 3) := by decide +kernel
theorem dX10_begin_21 : decode cX10_begin 21 = .ok (.ifCond .ne 7, 3) := by decide +kernel
theorem dX10_begin_24 : decode cX10_begin 24 = .ok (.sipush (-1002), 3) := by decide +kernel
theorem dX10_begin_27 : decode cX10_begin 27 = .ok (.ireturn, 1) := by decide +kernel
theorem dX10_begin_28 : decode cX10_begin 28 = .ok (.aload_n 0, 1) := by decide +kernel
theorem dX10_begin_29 : decode cX10_begin 29 = .ok (.invokevirtual 105, 3) := by decide +kernel
theorem dX10_begin_32 : decode cX10_begin 32 = .ok (.aload_n 0, 1) := by decide +kernel
theorem dX10_begin_33 : decode cX10_begin 33 = .ok (.getfield 7, 3) := by decide +kernel
theorem dX10_begin_36 : decode cX10_begin 36 = .ok (.bipush 6, 2) := by decide +kernel
theorem dX10_begin_38 : decode cX10_begin 38 = .ok (.iaload, 1) := by decide +kernel
theorem dX10_begin_39 : decode cX10_begin 39 = .ok (.istore_n 3, 1) := by decide +kernel
theorem dX10_begin_40 : decode cX10_begin 40 = .ok (.aload_n 0, 1) := by decide +kernel
theorem dX10_begin_41 : decode cX10_begin 41 = .ok (.getfield 7, 3) := by decide +kernel
theorem dX10_begin_44 : decode cX10_begin 44 = .ok (.bipush 9, 2) := by decide +kernel
theorem dX10_begin_46 : decode cX10_begin 46 = .ok (.iload_n 1, 1) := by decide +kernel
theorem dX10_begin_47 : decode cX10_begin 47 = .ok (.iastore, 1) := by decide +kernel
theorem dX10_begin_48 : decode cX10_begin 48 = .ok (.aload_n 0, 1) := by decide +kernel
theorem dX10_begin_49 : decode cX10_begin 49 = .ok (.getfield 7, 3) := by decide +kernel
theorem dX10_begin_52 : decode cX10_begin 52 = .ok (.bipush 10, 2) := by decide +kernel
theorem dX10_begin_54 : decode cX10_begin 54 = .ok (.iload_n 2, 1) := by decide +kernel
theorem dX10_begin_55 : decode cX10_begin 55 = .ok (.iastore, 1) := by decide +kernel
theorem dX10_begin_56 : decode cX10_begin 56 = .ok (.aload_n 0, 1) := by decide +kernel
theorem dX10_begin_57 : decode cX10_begin 57 = .ok (.invokevirtual 31, 3) := by decide +kernel
theorem dX10_begin_60 : decode cX10_begin 60 = .ok (.iload_n 3, 1) := by decide +kernel
theorem dX10_begin_61 : decode cX10_begin 61 = .ok (.ireturn, 1) := by decide +kernel
theorem dX10_round_0 : decode cX10_round 0 = .ok (.iload_n 1, 1) := by decide +kernel
theorem dX10_round_1 : decode cX10_round 1 = .ok (.i2l, 1) := by decide +kernel
theorem dX10_round_2 : decode cX10_round 2 = .ok (.lconst 0, 1) := by decide +kernel
theorem dX10_round_3 : decode cX10_round 3 = .ok (.ldc2_w 110, 3) := by decide +kernel
theorem dX10_round_6 : decode cX10_round 6 = .ok (.invokestatic 95, 3) := by decide +kernel
theorem dX10_round_9 : decode cX10_round 9 = .ok (.ifCond .eq 15, 3) := by decide +kernel
theorem dX10_round_12 : decode cX10_round 12 = .ok (.iload_n 2, 1) := by decide +kernel
theorem dX10_round_13 : decode cX10_round 13 = .ok (.i2l, 1) := by decide +kernel
theorem dX10_round_14 : decode cX10_round 14 = .ok (.lconst 0, 1) := by decide +kernel
theorem dX10_round_15 : decode cX10_round 15 = .ok (.ldc2_w 110, 3) := by decide +kernel
theorem dX10_round_18 : decode cX10_round 18 = .ok (.invokestatic 95, 3) := by decide +kernel
theorem dX10_round_21 : decode cX10_round 21 = .ok (.ifCond .ne 7, 3) := by decide +kernel
theorem dX10_round_24 : decode cX10_round 24 = .ok (.sipush (-1002), 3) := by decide +kernel
theorem dX10_round_27 : decode cX10_round 27 = .ok (.ireturn, 1) := by decide +kernel
theorem dX10_round_28 : decode cX10_round 28 = .ok (.aload_n 0, 1) := by decide +kernel
theorem dX10_round_29 : decode cX10_round 29 = .ok (.iload_n 1, 1) := by decide +kernel
theorem dX10_round_30 : decode cX10_round 30 = .ok (.iload_n 2, 1) := by decide +kernel
theorem dX10_round_31 : decode cX10_round 31 = .ok (.invokevirtual 112, 3) := by decide +kernel
theorem dX10_round_34 : decode cX10_round 34 = .ok (.ifCond .ne 7, 3) := by decide +kernel
theorem dX10_round_37 : decode cX10_round 37 = .ok (.sipush (-1005), 3) := by decide +kernel
theorem dX10_round_40 : decode cX10_round 40 = .ok (.ireturn, 1) := by decide +kernel
theorem dX10_round_41 : decode cX10_round 41 = .ok (.aload_n 0, 1) := by decide +kernel
theorem dX10_round_42 : decode cX10_round 42 = .ok (.invokevirtual 105, 3) := by decide +kernel
theorem dX10_round_45 : decode cX10_round 45 = .ok (.aload_n 0, 1) := by decide +kernel
theorem dX10_round_46 : decode cX10_round 46 = .ok (.iload_n 1, 1) := by decide +kernel
theorem dX10_round_47 : decode cX10_round 47 = .ok (.iload_n 2, 1) := by decide +kernel
theorem dX10_round_48 : decode cX10_round 48 = .ok (.invokevirtual 115, 3) := by decide +kernel
theorem dX10_round_51 : decode cX10_round 51 = .ok (.ireturn, 1) := by decide +kernel
theorem dX10_play_0 : decode cX10_play 0 = .ok (.aload_n 0, 1) := by decide +kernel
theorem dX10_play_1 : decode cX10_play 1 = .ok (.invokevirtual 46, 3) := by decide +kernel
theorem dX10_play_4 : decode cX10_play 4 = .ok (.ifCond .eq 7, 3) := by decide +kernel
theorem dX10_play_7 : decode cX10_play 7 = .ok (.sipush (-1005), 3) := by decide +kernel
theorem dX10_play_10 : decode cX10_play 10 = .ok (.ireturn, 1) := by decide +kernel
theorem dX10_play_11 : decode cX10_play 11 = .ok (.aload_n 0, 1) := by decide +kernel
theorem dX10_play_12 : decode cX10_play 12 = .ok (.invokevirtual 119, 3) := by decide +kernel
theorem dX10_play_15 : decode cX10_play 15 = .ok (.istore_n 1, 1) := by decide +kernel
theorem dX10_play_16 : decode cX10_play 16 = .ok (.aload_n 0, 1) := by decide +kernel
theorem dX10_play_17 : decode cX10_play 17 = .ok (.iload_n 1, 1) := by decide +kernel
theorem dX10_play_18 : decode cX10_play 18 = .ok (.invokevirtual 122, 3) := by decide +kernel
theorem dX10_play_21 : decode cX10_play 21 = .ok (.istore_n 2, 1) := by decide +kernel
theorem dX10_play_22 : decode cX10_play 22 = .ok (.aload_n 0, 1) := by decide +kernel
theorem dX10_play_23 : decode cX10_play 23 = .ok (.invokevirtual 105, 3) := by decide +kernel
theorem dX10_play_26 : decode cX10_play 26 = .ok (.aload_n 0, 1) := by decide +kernel
theorem dX10_play_27 : decode cX10_play 27 = .ok (.iload_n 1, 1) := by decide +kernel
theorem dX10_play_28 : decode cX10_play 28 = .ok (.iload_n 2, 1) := by decide +kernel
theorem dX10_play_29 : decode cX10_play 29 = .ok (.invokevirtual 115, 3) := by decide +kernel
theorem dX10_play_32 : decode cX10_play 32 = .ok (.ireturn, 1) := by decide +kernel
theorem dX10_player_0 : decode cX10_player 0 = .ok (.iload_n 1, 1) := by decide +kernel
theorem dX10_player_1 : decode cX10_player 1 = .ok (.invokestatic 125, 3) := by decide +kernel
theorem dX10_player_4 : decode cX10_player 4 = .ok (.ifCond .ne 7, 3) := by decide +kernel
theorem dX10_player_7 : decode cX10_player 7 = .ok (.sipush (-1001), 3) := by decide +kernel
theorem dX10_player_10 : decode cX10_player 10 = .ok (.ireturn, 1) := by decide +kernel
theorem dX10_player_11 : decode cX10_player 11 = .ok (.iload_n 2, 1) := by decide +kernel
theorem dX10_player_12 : decode cX10_player 12 = .ok (.tableswitch 122 0 6 #[44, 54, 60, 70, 80, 90, 100], 44) := by decide +kernel
theorem dX10_player_56 : decode cX10_player 56 = .ok (.aload_n 0, 1) := by decide +kernel
theorem dX10_player_57 : decode cX10_player 57 = .ok (.getfield 7, 3) := by decide +kernel
theorem dX10_player_60 : decode cX10_player 60 = .ok (.bipush 7, 2) := by decide +kernel
theorem dX10_player_62 : decode cX10_player 62 = .ok (.iload_n 1, 1) := by decide +kernel
theorem dX10_player_63 : decode cX10_player 63 = .ok (.iadd, 1) := by decide +kernel
theorem dX10_player_64 : decode cX10_player 64 = .ok (.iaload, 1) := by decide +kernel
theorem dX10_player_65 : decode cX10_player 65 = .ok (.ireturn, 1) := by decide +kernel
theorem dX10_player_66 : decode cX10_player 66 = .ok (.aload_n 0, 1) := by decide +kernel
theorem dX10_player_67 : decode cX10_player 67 = .ok (.iload_n 1, 1) := by decide +kernel
theorem dX10_player_68 : decode cX10_player 68 = .ok (.invokevirtual 50, 3) := by decide +kernel
theorem dX10_player_71 : decode cX10_player 71 = .ok (.ireturn, 1) := by decide +kernel
theorem dX10_player_72 : decode cX10_player 72 = .ok (.aload_n 0, 1) := by decide +kernel
theorem dX10_player_73 : decode cX10_player 73 = .ok (.getfield 7, 3) := by decide +kernel
theorem dX10_player_76 : decode cX10_player 76 = .ok (.bipush 9, 2) := by decide +kernel
theorem dX10_player_78 : decode cX10_player 78 = .ok (.iload_n 1, 1) := by decide +kernel
theorem dX10_player_79 : decode cX10_player 79 = .ok (.iadd, 1) := by decide +kernel
theorem dX10_player_80 : decode cX10_player 80 = .ok (.iaload, 1) := by decide +kernel
theorem dX10_player_81 : decode cX10_player 81 = .ok (.ireturn, 1) := by decide +kernel
theorem dX10_player_82 : decode cX10_player 82 = .ok (.aload_n 0, 1) := by decide +kernel
theorem dX10_player_83 : decode cX10_player 83 = .ok (.getfield 7, 3) := by decide +kernel
theorem dX10_player_86 : decode cX10_player 86 = .ok (.bipush 11, 2) := by decide +kernel
theorem dX10_player_88 : decode cX10_player 88 = .ok (.iload_n 1, 1) := by decide +kernel
theorem dX10_player_89 : decode cX10_player 89 = .ok (.iadd, 1) := by decide +kernel
theorem dX10_player_90 : decode cX10_player 90 = .ok (.iaload, 1) := by decide +kernel
theorem dX10_player_91 : decode cX10_player 91 = .ok (.ireturn, 1) := by decide +kernel
theorem dX10_player_92 : decode cX10_player 92 = .ok (.aload_n 0, 1) := by decide +kernel
theorem dX10_player_93 : decode cX10_player 93 = .ok (.getfield 7, 3) := by decide +kernel
theorem dX10_player_96 : decode cX10_player 96 = .ok (.bipush 13, 2) := by decide +kernel
theorem dX10_player_98 : decode cX10_player 98 = .ok (.iload_n 1, 1) := by decide +kernel
theorem dX10_player_99 : decode cX10_player 99 = .ok (.iadd, 1) := by decide +kernel
theorem dX10_player_100 : decode cX10_player 100 = .ok (.iaload, 1) := by decide +kernel
theorem dX10_player_101 : decode cX10_player 101 = .ok (.ireturn, 1) := by decide +kernel
theorem dX10_player_102 : decode cX10_player 102 = .ok (.aload_n 0, 1) := by decide +kernel
theorem dX10_player_103 : decode cX10_player 103 = .ok (.getfield 7, 3) := by decide +kernel
theorem dX10_player_106 : decode cX10_player 106 = .ok (.bipush 15, 2) := by decide +kernel
theorem dX10_player_108 : decode cX10_player 108 = .ok (.iload_n 1, 1) := by decide +kernel
theorem dX10_player_109 : decode cX10_player 109 = .ok (.iadd, 1) := by decide +kernel
theorem dX10_player_110 : decode cX10_player 110 = .ok (.iaload, 1) := by decide +kernel
theorem dX10_player_111 : decode cX10_player 111 = .ok (.ireturn, 1) := by decide +kernel
theorem dX10_player_112 : decode cX10_player 112 = .ok (.aload_n 0, 1) := by decide +kernel
theorem dX10_player_113 : decode cX10_player 113 = .ok (.iload_n 1, 1) := by decide +kernel
theorem dX10_player_114 : decode cX10_player 114 = .ok (.invokevirtual 129, 3) := by decide +kernel
theorem dX10_player_117 : decode cX10_player 117 = .ok (.bipush 99, 2) := by decide +kernel
theorem dX10_player_119 : decode cX10_player 119 = .ok (.if_icmp .ne 9, 3) := by decide +kernel
theorem dX10_player_122 : decode cX10_player 122 = .ok (.sipush (-1006), 3) := by decide +kernel
theorem dX10_player_125 : decode cX10_player 125 = .ok (.goto 8, 3) := by decide +kernel
theorem dX10_player_128 : decode cX10_player 128 = .ok (.aload_n 0, 1) := by decide +kernel
theorem dX10_player_129 : decode cX10_player 129 = .ok (.iload_n 1, 1) := by decide +kernel
theorem dX10_player_130 : decode cX10_player 130 = .ok (.invokevirtual 129, 3) := by decide +kernel
theorem dX10_player_133 : decode cX10_player 133 = .ok (.ireturn, 1) := by decide +kernel
theorem dX10_player_134 : decode cX10_player 134 = .ok (.sipush (-1002), 3) := by decide +kernel
theorem dX10_player_137 : decode cX10_player 137 = .ok (.ireturn, 1) := by decide +kernel
theorem dX10_count_0 : decode cX10_count 0 = .ok (.iload_n 1, 1) := by decide +kernel
theorem dX10_count_1 : decode cX10_count 1 = .ok (.tableswitch 119 4 11 #[47, 54, 74, 82, 93, 101, 109, 114], 47) := by decide +kernel
theorem dX10_count_48 : decode cX10_count 48 = .ok (.aload_n 0, 1) := by decide +kernel
theorem dX10_count_49 : decode cX10_count 49 = .ok (.getfield 7, 3) := by decide +kernel
theorem dX10_count_52 : decode cX10_count 52 = .ok (.iconst 4, 1) := by decide +kernel
theorem dX10_count_53 : decode cX10_count 53 = .ok (.iaload, 1) := by decide +kernel
theorem dX10_count_54 : decode cX10_count 54 = .ok (.ireturn, 1) := by decide +kernel
theorem dX10_count_55 : decode cX10_count 55 = .ok (.aload_n 0, 1) := by decide +kernel
theorem dX10_count_56 : decode cX10_count 56 = .ok (.invokevirtual 46, 3) := by decide +kernel
theorem dX10_count_59 : decode cX10_count 59 = .ok (.ifCond .eq 9, 3) := by decide +kernel
theorem dX10_count_62 : decode cX10_count 62 = .ok (.sipush (-1006), 3) := by decide +kernel
theorem dX10_count_65 : decode cX10_count 65 = .ok (.goto 9, 3) := by decide +kernel
theorem dX10_count_68 : decode cX10_count 68 = .ok (.aload_n 0, 1) := by decide +kernel
theorem dX10_count_69 : decode cX10_count 69 = .ok (.getfield 7, 3) := by decide +kernel
theorem dX10_count_72 : decode cX10_count 72 = .ok (.iconst 5, 1) := by decide +kernel
theorem dX10_count_73 : decode cX10_count 73 = .ok (.iaload, 1) := by decide +kernel
theorem dX10_count_74 : decode cX10_count 74 = .ok (.ireturn, 1) := by decide +kernel
theorem dX10_count_75 : decode cX10_count 75 = .ok (.aload_n 0, 1) := by decide +kernel
theorem dX10_count_76 : decode cX10_count 76 = .ok (.getfield 7, 3) := by decide +kernel
theorem dX10_count_79 : decode cX10_count 79 = .ok (.bipush 6, 2) := by decide +kernel
theorem dX10_count_81 : decode cX10_count 81 = .ok (.iaload, 1) := by decide +kernel
theorem dX10_count_82 : decode cX10_count 82 = .ok (.ireturn, 1) := by decide +kernel
theorem dX10_count_83 : decode cX10_count 83 = .ok (.aload_n 0, 1) := by decide +kernel
theorem dX10_count_84 : decode cX10_count 84 = .ok (.aload_n 0, 1) := by decide +kernel
theorem dX10_count_85 : decode cX10_count 85 = .ok (.getfield 7, 3) := by decide +kernel
theorem dX10_count_88 : decode cX10_count 88 = .ok (.iconst 4, 1) := by decide +kernel
theorem dX10_count_89 : decode cX10_count 89 = .ok (.iaload, 1) := by decide +kernel
theorem dX10_count_90 : decode cX10_count 90 = .ok (.invokevirtual 38, 3) := by decide +kernel
theorem dX10_count_93 : decode cX10_count 93 = .ok (.ireturn, 1) := by decide +kernel
theorem dX10_count_94 : decode cX10_count 94 = .ok (.aload_n 0, 1) := by decide +kernel
theorem dX10_count_95 : decode cX10_count 95 = .ok (.getfield 7, 3) := by decide +kernel
theorem dX10_count_98 : decode cX10_count 98 = .ok (.bipush 17, 2) := by decide +kernel
theorem dX10_count_100 : decode cX10_count 100 = .ok (.iaload, 1) := by decide +kernel
theorem dX10_count_101 : decode cX10_count 101 = .ok (.ireturn, 1) := by decide +kernel
theorem dX10_count_102 : decode cX10_count 102 = .ok (.aload_n 0, 1) := by decide +kernel
theorem dX10_count_103 : decode cX10_count 103 = .ok (.getfield 7, 3) := by decide +kernel
theorem dX10_count_106 : decode cX10_count 106 = .ok (.bipush 18, 2) := by decide +kernel
theorem dX10_count_108 : decode cX10_count 108 = .ok (.iaload, 1) := by decide +kernel
theorem dX10_count_109 : decode cX10_count 109 = .ok (.ireturn, 1) := by decide +kernel
theorem dX10_count_110 : decode cX10_count 110 = .ok (.aload_n 0, 1) := by decide +kernel
theorem dX10_count_111 : decode cX10_count 111 = .ok (.getfield 132, 3) := by decide +kernel
theorem dX10_count_114 : decode cX10_count 114 = .ok (.ireturn, 1) := by decide +kernel
theorem dX10_count_115 : decode cX10_count 115 = .ok (.aload_n 0, 1) := by decide +kernel
theorem dX10_count_116 : decode cX10_count 116 = .ok (.getfield 34, 3) := by decide +kernel
theorem dX10_count_119 : decode cX10_count 119 = .ok (.ireturn, 1) := by decide +kernel
theorem dX10_count_120 : decode cX10_count 120 = .ok (.iload_n 1, 1) := by decide +kernel
theorem dX10_count_121 : decode cX10_count 121 = .ok (.i2l, 1) := by decide +kernel
theorem dX10_count_122 : decode cX10_count 122 = .ok (.lconst 0, 1) := by decide +kernel
theorem dX10_count_123 : decode cX10_count 123 = .ok (.ldc2_w 93, 3) := by decide +kernel
theorem dX10_count_126 : decode cX10_count 126 = .ok (.invokestatic 95, 3) := by decide +kernel
theorem dX10_count_129 : decode cX10_count 129 = .ok (.ifCond .eq 12, 3) := by decide +kernel
theorem dX10_count_132 : decode cX10_count 132 = .ok (.aload_n 0, 1) := by decide +kernel
theorem dX10_count_133 : decode cX10_count 133 = .ok (.getfield 7, 3) := by decide +kernel
theorem dX10_count_136 : decode cX10_count 136 = .ok (.iload_n 1, 1) := by decide +kernel
theorem dX10_count_137 : decode cX10_count 137 = .ok (.iaload, 1) := by decide +kernel
theorem dX10_count_138 : decode cX10_count 138 = .ok (.goto 6, 3) := by decide +kernel
theorem dX10_count_141 : decode cX10_count 141 = .ok (.sipush (-1002), 3) := by decide +kernel
theorem dX10_count_144 : decode cX10_count 144 = .ok (.ireturn, 1) := by decide +kernel
theorem dX10_forced_0 : decode cX10_forced 0 = .ok (.iload_n 1, 1) := by decide +kernel
theorem dX10_forced_1 : decode cX10_forced 1 = .ok (.invokestatic 125, 3) := by decide +kernel
theorem dX10_forced_4 : decode cX10_forced 4 = .ok (.ifCond .ne 7, 3) := by decide +kernel
theorem dX10_forced_7 : decode cX10_forced 7 = .ok (.sipush (-1001), 3) := by decide +kernel
theorem dX10_forced_10 : decode cX10_forced 10 = .ok (.ireturn, 1) := by decide +kernel
theorem dX10_forced_11 : decode cX10_forced 11 = .ok (.iload_n 2, 1) := by decide +kernel
theorem dX10_forced_12 : decode cX10_forced 12 = .ok (.i2l, 1) := by decide +kernel
theorem dX10_forced_13 : decode cX10_forced 13 = .ok (.lconst 0, 1) := by decide +kernel
theorem dX10_forced_14 : decode cX10_forced 14 = .ok (.ldc2_w 135, 3) := by decide +kernel
theorem dX10_forced_17 : decode cX10_forced 17 = .ok (.invokestatic 95, 3) := by decide +kernel
theorem dX10_forced_20 : decode cX10_forced 20 = .ok (.ifCond .ne 7, 3) := by decide +kernel
theorem dX10_forced_23 : decode cX10_forced 23 = .ok (.sipush (-1002), 3) := by decide +kernel
theorem dX10_forced_26 : decode cX10_forced 26 = .ok (.ireturn, 1) := by decide +kernel
theorem dX10_forced_27 : decode cX10_forced 27 = .ok (.aload_n 0, 1) := by decide +kernel
theorem dX10_forced_28 : decode cX10_forced 28 = .ok (.iload_n 1, 1) := by decide +kernel
theorem dX10_forced_29 : decode cX10_forced 29 = .ok (.invokevirtual 129, 3) := by decide +kernel
theorem dX10_forced_32 : decode cX10_forced 32 = .ok (.iload_n 2, 1) := by decide +kernel
theorem dX10_forced_33 : decode cX10_forced 33 = .ok (.if_icmp .gt 7, 3) := by decide +kernel
theorem dX10_forced_36 : decode cX10_forced 36 = .ok (.iconst 1, 1) := by decide +kernel
theorem dX10_forced_37 : decode cX10_forced 37 = .ok (.goto 4, 3) := by decide +kernel
theorem dX10_forced_40 : decode cX10_forced 40 = .ok (.iconst 0, 1) := by decide +kernel
theorem dX10_forced_41 : decode cX10_forced 41 = .ok (.ireturn, 1) := by decide +kernel
theorem dX10_ahead_0 : decode cX10_ahead 0 = .ok (.iload_n 1, 1) := by decide +kernel
theorem dX10_ahead_1 : decode cX10_ahead 1 = .ok (.invokestatic 125, 3) := by decide +kernel
theorem dX10_ahead_4 : decode cX10_ahead 4 = .ok (.ifCond .ne 7, 3) := by decide +kernel
theorem dX10_ahead_7 : decode cX10_ahead 7 = .ok (.sipush (-1001), 3) := by decide +kernel
theorem dX10_ahead_10 : decode cX10_ahead 10 = .ok (.ireturn, 1) := by decide +kernel
theorem dX10_ahead_11 : decode cX10_ahead 11 = .ok (.iload_n 2, 1) := by decide +kernel
theorem dX10_ahead_12 : decode cX10_ahead 12 = .ok (.i2l, 1) := by decide +kernel
theorem dX10_ahead_13 : decode cX10_ahead 13 = .ok (.lconst 0, 1) := by decide +kernel
theorem dX10_ahead_14 : decode cX10_ahead 14 = .ok (.ldc2_w 93, 3) := by decide +kernel
theorem dX10_ahead_17 : decode cX10_ahead 17 = .ok (.invokestatic 95, 3) := by decide +kernel
theorem dX10_ahead_20 : decode cX10_ahead 20 = .ok (.ifCond .eq 12, 3) := by decide +kernel
theorem dX10_ahead_23 : decode cX10_ahead 23 = .ok (.aload_n 0, 1) := by decide +kernel
theorem dX10_ahead_24 : decode cX10_ahead 24 = .ok (.iload_n 1, 1) := by decide +kernel
theorem dX10_ahead_25 : decode cX10_ahead 25 = .ok (.iload_n 2, 1) := by decide +kernel
theorem dX10_ahead_26 : decode cX10_ahead 26 = .ok (.invokevirtual 137, 3) := by decide +kernel
theorem dX10_ahead_29 : decode cX10_ahead 29 = .ok (.goto 6, 3) := by decide +kernel
theorem dX10_ahead_32 : decode cX10_ahead 32 = .ok (.sipush (-1002), 3) := by decide +kernel
theorem dX10_ahead_35 : decode cX10_ahead 35 = .ok (.ireturn, 1) := by decide +kernel
theorem dX10_worstBehind_0 : decode cX10_worstBehind 0 = .ok (.iconst 0, 1) := by decide +kernel
theorem dX10_worstBehind_1 : decode cX10_worstBehind 1 = .ok (.istore_n 2, 1) := by decide +kernel
theorem dX10_worstBehind_2 : decode cX10_worstBehind 2 = .ok (.iconst 0, 1) := by decide +kernel
theorem dX10_worstBehind_3 : decode cX10_worstBehind 3 = .ok (.istore_n 3, 1) := by decide +kernel
theorem dX10_worstBehind_4 : decode cX10_worstBehind 4 = .ok (.iload_n 3, 1) := by decide +kernel
theorem dX10_worstBehind_5 : decode cX10_worstBehind 5 = .ok (.aload_n 0, 1) := by decide +kernel
theorem dX10_worstBehind_6 : decode cX10_worstBehind 6 = .ok (.iconst 1, 1) := by decide +kernel
theorem dX10_worstBehind_7 : decode cX10_worstBehind 7 = .ok (.aload_n 0, 1) := by decide +kernel
theorem dX10_worstBehind_8 : decode cX10_worstBehind 8 = .ok (.getfield 7, 3) := by decide +kernel
theorem dX10_worstBehind_11 : decode cX10_worstBehind 11 = .ok (.iconst 5, 1) := by decide +kernel
theorem dX10_worstBehind_12 : decode cX10_worstBehind 12 = .ok (.iaload, 1) := by decide +kernel
theorem dX10_worstBehind_13 : decode cX10_worstBehind 13 = .ok (.isub, 1) := by decide +kernel
theorem dX10_worstBehind_14 : decode cX10_worstBehind 14 = .ok (.invokevirtual 50, 3) := by decide +kernel
theorem dX10_worstBehind_17 : decode cX10_worstBehind 17 = .ok (.if_icmp .gt 36, 3) := by decide +kernel
theorem dX10_worstBehind_20 : decode cX10_worstBehind 20 = .ok (.aload_n 0, 1) := by decide +kernel
theorem dX10_worstBehind_21 : decode cX10_worstBehind 21 = .ok (.aload_n 0, 1) := by decide +kernel
theorem dX10_worstBehind_22 : decode cX10_worstBehind 22 = .ok (.getfield 7, 3) := by decide +kernel
theorem dX10_worstBehind_25 : decode cX10_worstBehind 25 = .ok (.iconst 5, 1) := by decide +kernel
theorem dX10_worstBehind_26 : decode cX10_worstBehind 26 = .ok (.iaload, 1) := by decide +kernel
theorem dX10_worstBehind_27 : decode cX10_worstBehind 27 = .ok (.iload_n 1, 1) := by decide +kernel
theorem dX10_worstBehind_28 : decode cX10_worstBehind 28 = .ok (.iload_n 3, 1) := by decide +kernel
theorem dX10_worstBehind_29 : decode cX10_worstBehind 29 = .ok (.invokevirtual 140, 3) := by decide +kernel
theorem dX10_worstBehind_32 : decode cX10_worstBehind 32 = .ok (.istore 4, 2) := by decide +kernel
theorem dX10_worstBehind_34 : decode cX10_worstBehind 34 = .ok (.iload 4, 2) := by decide +kernel
theorem dX10_worstBehind_36 : decode cX10_worstBehind 36 = .ok (.iload_n 2, 1) := by decide +kernel
theorem dX10_worstBehind_37 : decode cX10_worstBehind 37 = .ok (.if_icmp .le 8, 3) := by decide +kernel
theorem dX10_worstBehind_40 : decode cX10_worstBehind 40 = .ok (.iload 4, 2) := by decide +kernel
theorem dX10_worstBehind_42 : decode cX10_worstBehind 42 = .ok (.goto 4, 3) := by decide +kernel
theorem dX10_worstBehind_45 : decode cX10_worstBehind 45 = .ok (.iload_n 2, 1) := by decide +kernel
theorem dX10_worstBehind_46 : decode cX10_worstBehind 46 = .ok (.istore_n 2, 1) := by decide +kernel
theorem dX10_worstBehind_47 : decode cX10_worstBehind 47 = .ok (.iinc 3 1, 3) := by decide +kernel
theorem dX10_worstBehind_50 : decode cX10_worstBehind 50 = .ok (.goto (-46), 3) := by decide +kernel
theorem dX10_worstBehind_53 : decode cX10_worstBehind 53 = .ok (.iload_n 2, 1) := by decide +kernel
theorem dX10_worstBehind_54 : decode cX10_worstBehind 54 = .ok (.ireturn, 1) := by decide +kernel
theorem dX10_othersBehind_0 : decode cX10_othersBehind 0 = .ok (.bipush 99, 2) := by decide +kernel
theorem dX10_othersBehind_2 : decode cX10_othersBehind 2 = .ok (.istore_n 2, 1) := by decide +kernel
theorem dX10_othersBehind_3 : decode cX10_othersBehind 3 = .ok (.iconst 0, 1) := by decide +kernel
theorem dX10_othersBehind_4 : decode cX10_othersBehind 4 = .ok (.istore_n 3, 1) := by decide +kernel
theorem dX10_othersBehind_5 : decode cX10_othersBehind 5 = .ok (.iload_n 3, 1) := by decide +kernel
theorem dX10_othersBehind_6 : decode cX10_othersBehind 6 = .ok (.aload_n 0, 1) := by decide +kernel
theorem dX10_othersBehind_7 : decode cX10_othersBehind 7 = .ok (.iconst 1, 1) := by decide +kernel
theorem dX10_othersBehind_8 : decode cX10_othersBehind 8 = .ok (.aload_n 0, 1) := by decide +kernel
theorem dX10_othersBehind_9 : decode cX10_othersBehind 9 = .ok (.getfield 7, 3) := by decide +kernel
theorem dX10_othersBehind_12 : decode cX10_othersBehind 12 = .ok (.iconst 5, 1) := by decide +kernel
theorem dX10_othersBehind_13 : decode cX10_othersBehind 13 = .ok (.iaload, 1) := by decide +kernel
theorem dX10_othersBehind_14 : decode cX10_othersBehind 14 = .ok (.isub, 1) := by decide +kernel
theorem dX10_othersBehind_15 : decode cX10_othersBehind 15 = .ok (.invokevirtual 50, 3) := by decide +kernel
theorem dX10_othersBehind_18 : decode cX10_othersBehind 18 = .ok (.if_icmp .gt 38, 3) := by decide +kernel
theorem dX10_othersBehind_21 : decode cX10_othersBehind 21 = .ok (.aload_n 0, 1) := by decide +kernel
theorem dX10_othersBehind_22 : decode cX10_othersBehind 22 = .ok (.iconst 1, 1) := by decide +kernel
theorem dX10_othersBehind_23 : decode cX10_othersBehind 23 = .ok (.aload_n 0, 1) := by decide +kernel
theorem dX10_othersBehind_24 : decode cX10_othersBehind 24 = .ok (.getfield 7, 3) := by decide +kernel
theorem dX10_othersBehind_27 : decode cX10_othersBehind 27 = .ok (.iconst 5, 1) := by decide +kernel
theorem dX10_othersBehind_28 : decode cX10_othersBehind 28 = .ok (.iaload, 1) := by decide +kernel
theorem dX10_othersBehind_29 : decode cX10_othersBehind 29 = .ok (.isub, 1) := by decide +kernel
theorem dX10_othersBehind_30 : decode cX10_othersBehind 30 = .ok (.iload_n 1, 1) := by decide +kernel
theorem dX10_othersBehind_31 : decode cX10_othersBehind 31 = .ok (.iload_n 3, 1) := by decide +kernel
theorem dX10_othersBehind_32 : decode cX10_othersBehind 32 = .ok (.invokevirtual 140, 3) := by decide +kernel
theorem dX10_othersBehind_35 : decode cX10_othersBehind 35 = .ok (.istore 4, 2) := by decide +kernel
theorem dX10_othersBehind_37 : decode cX10_othersBehind 37 = .ok (.iload 4, 2) := by decide +kernel
theorem dX10_othersBehind_39 : decode cX10_othersBehind 39 = .ok (.iload_n 2, 1) := by decide +kernel
theorem dX10_othersBehind_40 : decode cX10_othersBehind 40 = .ok (.if_icmp .ge 8, 3) := by decide +kernel
theorem dX10_othersBehind_43 : decode cX10_othersBehind 43 = .ok (.iload 4, 2) := by decide +kernel
theorem dX10_othersBehind_45 : decode cX10_othersBehind 45 = .ok (.goto 4, 3) := by decide +kernel
theorem dX10_othersBehind_48 : decode cX10_othersBehind 48 = .ok (.iload_n 2, 1) := by decide +kernel
theorem dX10_othersBehind_49 : decode cX10_othersBehind 49 = .ok (.istore_n 2, 1) := by decide +kernel
theorem dX10_othersBehind_50 : decode cX10_othersBehind 50 = .ok (.iinc 3 1, 3) := by decide +kernel
theorem dX10_othersBehind_53 : decode cX10_othersBehind 53 = .ok (.goto (-48), 3) := by decide +kernel
theorem dX10_othersBehind_56 : decode cX10_othersBehind 56 = .ok (.iload_n 2, 1) := by decide +kernel
theorem dX10_othersBehind_57 : decode cX10_othersBehind 57 = .ok (.ireturn, 1) := by decide +kernel
theorem dX10_bestBid_0 : decode cX10_bestBid 0 = .ok (.aload_n 0, 1) := by decide +kernel
theorem dX10_bestBid_1 : decode cX10_bestBid 1 = .ok (.invokevirtual 46, 3) := by decide +kernel
theorem dX10_bestBid_4 : decode cX10_bestBid 4 = .ok (.ifCond .eq 7, 3) := by decide +kernel
theorem dX10_bestBid_7 : decode cX10_bestBid 7 = .ok (.sipush (-1005), 3) := by decide +kernel
theorem dX10_bestBid_10 : decode cX10_bestBid 10 = .ok (.ireturn, 1) := by decide +kernel
theorem dX10_bestBid_11 : decode cX10_bestBid 11 = .ok (.aload_n 0, 1) := by decide +kernel
theorem dX10_bestBid_12 : decode cX10_bestBid 12 = .ok (.aload_n 0, 1) := by decide +kernel
theorem dX10_bestBid_13 : decode cX10_bestBid 13 = .ok (.getfield 7, 3) := by decide +kernel
theorem dX10_bestBid_16 : decode cX10_bestBid 16 = .ok (.bipush 7, 2) := by decide +kernel
theorem dX10_bestBid_18 : decode cX10_bestBid 18 = .ok (.iaload, 1) := by decide +kernel
theorem dX10_bestBid_19 : decode cX10_bestBid 19 = .ok (.aload_n 0, 1) := by decide +kernel
theorem dX10_bestBid_20 : decode cX10_bestBid 20 = .ok (.getfield 7, 3) := by decide +kernel
theorem dX10_bestBid_23 : decode cX10_bestBid 23 = .ok (.bipush 8, 2) := by decide +kernel
theorem dX10_bestBid_25 : decode cX10_bestBid 25 = .ok (.iaload, 1) := by decide +kernel
theorem dX10_bestBid_26 : decode cX10_bestBid 26 = .ok (.iadd, 1) := by decide +kernel
theorem dX10_bestBid_27 : decode cX10_bestBid 27 = .ok (.invokevirtual 86, 3) := by decide +kernel
theorem dX10_bestBid_30 : decode cX10_bestBid 30 = .ok (.iconst 0, 1) := by decide +kernel
theorem dX10_bestBid_31 : decode cX10_bestBid 31 = .ok (.istore_n 1, 1) := by decide +kernel
theorem dX10_bestBid_32 : decode cX10_bestBid 32 = .ok (.aload_n 0, 1) := by decide +kernel
theorem dX10_bestBid_33 : decode cX10_bestBid 33 = .ok (.iconst 0, 1) := by decide +kernel
theorem dX10_bestBid_34 : decode cX10_bestBid 34 = .ok (.invokevirtual 143, 3) := by decide +kernel
theorem dX10_bestBid_37 : decode cX10_bestBid 37 = .ok (.istore_n 2, 1) := by decide +kernel
theorem dX10_bestBid_38 : decode cX10_bestBid 38 = .ok (.iconst 0, 1) := by decide +kernel
theorem dX10_bestBid_39 : decode cX10_bestBid 39 = .ok (.istore_n 3, 1) := by decide +kernel
theorem dX10_bestBid_40 : decode cX10_bestBid 40 = .ok (.aload_n 0, 1) := by decide +kernel
theorem dX10_bestBid_41 : decode cX10_bestBid 41 = .ok (.iconst 0, 1) := by decide +kernel
theorem dX10_bestBid_42 : decode cX10_bestBid 42 = .ok (.invokevirtual 146, 3) := by decide +kernel
theorem dX10_bestBid_45 : decode cX10_bestBid 45 = .ok (.istore 4, 2) := by decide +kernel
theorem dX10_bestBid_47 : decode cX10_bestBid 47 = .ok (.iconst 1, 1) := by decide +kernel
theorem dX10_bestBid_48 : decode cX10_bestBid 48 = .ok (.istore 5, 2) := by decide +kernel
theorem dX10_bestBid_50 : decode cX10_bestBid 50 = .ok (.iload 5, 2) := by decide +kernel
theorem dX10_bestBid_52 : decode cX10_bestBid 52 = .ok (.aload_n 0, 1) := by decide +kernel
theorem dX10_bestBid_53 : decode cX10_bestBid 53 = .ok (.aload_n 0, 1) := by decide +kernel
theorem dX10_bestBid_54 : decode cX10_bestBid 54 = .ok (.getfield 7, 3) := by decide +kernel
theorem dX10_bestBid_57 : decode cX10_bestBid 57 = .ok (.iconst 5, 1) := by decide +kernel
theorem dX10_bestBid_58 : decode cX10_bestBid 58 = .ok (.iaload, 1) := by decide +kernel
theorem dX10_bestBid_59 : decode cX10_bestBid 59 = .ok (.invokevirtual 50, 3) := by decide +kernel
theorem dX10_bestBid_62 : decode cX10_bestBid 62 = .ok (.if_icmp .gt 81, 3) := by decide +kernel
theorem dX10_bestBid_65 : decode cX10_bestBid 65 = .ok (.aload_n 0, 1) := by decide +kernel
theorem dX10_bestBid_66 : decode cX10_bestBid 66 = .ok (.iload 5, 2) := by decide +kernel
theorem dX10_bestBid_68 : decode cX10_bestBid 68 = .ok (.invokevirtual 143, 3) := by decide +kernel
theorem dX10_bestBid_71 : decode cX10_bestBid 71 = .ok (.istore 6, 2) := by decide +kernel
theorem dX10_bestBid_73 : decode cX10_bestBid 73 = .ok (.aload_n 0, 1) := by decide +kernel
theorem dX10_bestBid_74 : decode cX10_bestBid 74 = .ok (.iload 5, 2) := by decide +kernel
theorem dX10_bestBid_76 : decode cX10_bestBid 76 = .ok (.invokevirtual 146, 3) := by decide +kernel
theorem dX10_bestBid_79 : decode cX10_bestBid 79 = .ok (.istore 7, 2) := by decide +kernel
theorem dX10_bestBid_81 : decode cX10_bestBid 81 = .ok (.iload 6, 2) := by decide +kernel
theorem dX10_bestBid_83 : decode cX10_bestBid 83 = .ok (.iload_n 2, 1) := by decide +kernel
theorem dX10_bestBid_84 : decode cX10_bestBid 84 = .ok (.if_icmp .ge 8, 3) := by decide +kernel
theorem dX10_bestBid_87 : decode cX10_bestBid 87 = .ok (.iload 5, 2) := by decide +kernel
theorem dX10_bestBid_89 : decode cX10_bestBid 89 = .ok (.goto 4, 3) := by decide +kernel
theorem dX10_bestBid_92 : decode cX10_bestBid 92 = .ok (.iload_n 1, 1) := by decide +kernel
theorem dX10_bestBid_93 : decode cX10_bestBid 93 = .ok (.istore_n 1, 1) := by decide +kernel
theorem dX10_bestBid_94 : decode cX10_bestBid 94 = .ok (.iload 6, 2) := by decide +kernel
theorem dX10_bestBid_96 : decode cX10_bestBid 96 = .ok (.iload_n 2, 1) := by decide +kernel
theorem dX10_bestBid_97 : decode cX10_bestBid 97 = .ok (.if_icmp .ge 8, 3) := by decide +kernel
theorem dX10_bestBid_100 : decode cX10_bestBid 100 = .ok (.iload 6, 2) := by decide +kernel
theorem dX10_bestBid_102 : decode cX10_bestBid 102 = .ok (.goto 4, 3) := by decide +kernel
theorem dX10_bestBid_105 : decode cX10_bestBid 105 = .ok (.iload_n 2, 1) := by decide +kernel
theorem dX10_bestBid_106 : decode cX10_bestBid 106 = .ok (.istore_n 2, 1) := by decide +kernel
theorem dX10_bestBid_107 : decode cX10_bestBid 107 = .ok (.iload 7, 2) := by decide +kernel
theorem dX10_bestBid_109 : decode cX10_bestBid 109 = .ok (.iload 4, 2) := by decide +kernel
theorem dX10_bestBid_111 : decode cX10_bestBid 111 = .ok (.if_icmp .le 8, 3) := by decide +kernel
theorem dX10_bestBid_114 : decode cX10_bestBid 114 = .ok (.iload 5, 2) := by decide +kernel
theorem dX10_bestBid_116 : decode cX10_bestBid 116 = .ok (.goto 4, 3) := by decide +kernel
theorem dX10_bestBid_119 : decode cX10_bestBid 119 = .ok (.iload_n 3, 1) := by decide +kernel
theorem dX10_bestBid_120 : decode cX10_bestBid 120 = .ok (.istore_n 3, 1) := by decide +kernel
theorem dX10_bestBid_121 : decode cX10_bestBid 121 = .ok (.iload 7, 2) := by decide +kernel
theorem dX10_bestBid_123 : decode cX10_bestBid 123 = .ok (.iload 4, 2) := by decide +kernel
theorem dX10_bestBid_125 : decode cX10_bestBid 125 = .ok (.if_icmp .le 8, 3) := by decide +kernel
theorem dX10_bestBid_128 : decode cX10_bestBid 128 = .ok (.iload 7, 2) := by decide +kernel
theorem dX10_bestBid_130 : decode cX10_bestBid 130 = .ok (.goto 5, 3) := by decide +kernel
theorem dX10_bestBid_133 : decode cX10_bestBid 133 = .ok (.iload 4, 2) := by decide +kernel
theorem dX10_bestBid_135 : decode cX10_bestBid 135 = .ok (.istore 4, 2) := by decide +kernel
theorem dX10_bestBid_137 : decode cX10_bestBid 137 = .ok (.iinc 5 1, 3) := by decide +kernel
theorem dX10_bestBid_140 : decode cX10_bestBid 140 = .ok (.goto (-90), 3) := by decide +kernel
theorem dX10_bestBid_143 : decode cX10_bestBid 143 = .ok (.iload_n 2, 1) := by decide +kernel
theorem dX10_bestBid_144 : decode cX10_bestBid 144 = .ok (.bipush 99, 2) := by decide +kernel
theorem dX10_bestBid_146 : decode cX10_bestBid 146 = .ok (.if_icmp .ne 7, 3) := by decide +kernel
theorem dX10_bestBid_149 : decode cX10_bestBid 149 = .ok (.iload_n 3, 1) := by decide +kernel
theorem dX10_bestBid_150 : decode cX10_bestBid 150 = .ok (.goto 4, 3) := by decide +kernel
theorem dX10_bestBid_153 : decode cX10_bestBid 153 = .ok (.iload_n 1, 1) := by decide +kernel
theorem dX10_bestBid_154 : decode cX10_bestBid 154 = .ok (.ireturn, 1) := by decide +kernel
theorem dX10_bestAnswer_0 : decode cX10_bestAnswer 0 = .ok (.iload_n 1, 1) := by decide +kernel
theorem dX10_bestAnswer_1 : decode cX10_bestAnswer 1 = .ok (.i2l, 1) := by decide +kernel
theorem dX10_bestAnswer_2 : decode cX10_bestAnswer 2 = .ok (.lconst 0, 1) := by decide +kernel
theorem dX10_bestAnswer_3 : decode cX10_bestAnswer 3 = .ok (.ldc2_w 110, 3) := by decide +kernel
theorem dX10_bestAnswer_6 : decode cX10_bestAnswer 6 = .ok (.invokestatic 95, 3) := by decide +kernel
theorem dX10_bestAnswer_9 : decode cX10_bestAnswer 9 = .ok (.ifCond .ne 7, 3) := by decide +kernel
theorem dX10_bestAnswer_12 : decode cX10_bestAnswer 12 = .ok (.sipush (-1002), 3) := by decide +kernel
theorem dX10_bestAnswer_15 : decode cX10_bestAnswer 15 = .ok (.ireturn, 1) := by decide +kernel
theorem dX10_bestAnswer_16 : decode cX10_bestAnswer 16 = .ok (.aload_n 0, 1) := by decide +kernel
theorem dX10_bestAnswer_17 : decode cX10_bestAnswer 17 = .ok (.iload_n 1, 1) := by decide +kernel
theorem dX10_bestAnswer_18 : decode cX10_bestAnswer 18 = .ok (.iconst 0, 1) := by decide +kernel
theorem dX10_bestAnswer_19 : decode cX10_bestAnswer 19 = .ok (.invokevirtual 112, 3) := by decide +kernel
theorem dX10_bestAnswer_22 : decode cX10_bestAnswer 22 = .ok (.ifCond .eq 11, 3) := by decide +kernel
theorem dX10_bestAnswer_25 : decode cX10_bestAnswer 25 = .ok (.aload_n 0, 1) := by decide +kernel
theorem dX10_bestAnswer_26 : decode cX10_bestAnswer 26 = .ok (.iload_n 1, 1) := by decide +kernel
theorem dX10_bestAnswer_27 : decode cX10_bestAnswer 27 = .ok (.invokevirtual 122, 3) := by decide +kernel
theorem dX10_bestAnswer_30 : decode cX10_bestAnswer 30 = .ok (.goto 6, 3) := by decide +kernel
theorem dX10_bestAnswer_33 : decode cX10_bestAnswer 33 = .ok (.sipush (-1005), 3) := by decide +kernel
theorem dX10_bestAnswer_36 : decode cX10_bestAnswer 36 = .ok (.ireturn, 1) := by decide +kernel
theorem dX10_answerTo_0 : decode cX10_answerTo 0 = .ok (.aload_n 0, 1) := by decide +kernel
theorem dX10_answerTo_1 : decode cX10_answerTo 1 = .ok (.aload_n 0, 1) := by decide +kernel
theorem dX10_answerTo_2 : decode cX10_answerTo 2 = .ok (.getfield 7, 3) := by decide +kernel
theorem dX10_answerTo_5 : decode cX10_answerTo 5 = .ok (.bipush 7, 2) := by decide +kernel
theorem dX10_answerTo_7 : decode cX10_answerTo 7 = .ok (.iaload, 1) := by decide +kernel
theorem dX10_answerTo_8 : decode cX10_answerTo 8 = .ok (.aload_n 0, 1) := by decide +kernel
theorem dX10_answerTo_9 : decode cX10_answerTo 9 = .ok (.getfield 7, 3) := by decide +kernel
theorem dX10_answerTo_12 : decode cX10_answerTo 12 = .ok (.bipush 8, 2) := by decide +kernel
theorem dX10_answerTo_14 : decode cX10_answerTo 14 = .ok (.iaload, 1) := by decide +kernel
theorem dX10_answerTo_15 : decode cX10_answerTo 15 = .ok (.iadd, 1) := by decide +kernel
theorem dX10_answerTo_16 : decode cX10_answerTo 16 = .ok (.invokevirtual 86, 3) := by decide +kernel
theorem dX10_answerTo_19 : decode cX10_answerTo 19 = .ok (.iconst 0, 1) := by decide +kernel
theorem dX10_answerTo_20 : decode cX10_answerTo 20 = .ok (.istore_n 2, 1) := by decide +kernel
theorem dX10_answerTo_21 : decode cX10_answerTo 21 = .ok (.aload_n 0, 1) := by decide +kernel
theorem dX10_answerTo_22 : decode cX10_answerTo 22 = .ok (.iconst 1, 1) := by decide +kernel
theorem dX10_answerTo_23 : decode cX10_answerTo 23 = .ok (.aload_n 0, 1) := by decide +kernel
theorem dX10_answerTo_24 : decode cX10_answerTo 24 = .ok (.getfield 7, 3) := by decide +kernel
theorem dX10_answerTo_27 : decode cX10_answerTo 27 = .ok (.iconst 5, 1) := by decide +kernel
theorem dX10_answerTo_28 : decode cX10_answerTo 28 = .ok (.iaload, 1) := by decide +kernel
theorem dX10_answerTo_29 : decode cX10_answerTo 29 = .ok (.isub, 1) := by decide +kernel
theorem dX10_answerTo_30 : decode cX10_answerTo 30 = .ok (.iload_n 1, 1) := by decide +kernel
theorem dX10_answerTo_31 : decode cX10_answerTo 31 = .ok (.iconst 0, 1) := by decide +kernel
theorem dX10_answerTo_32 : decode cX10_answerTo 32 = .ok (.invokevirtual 140, 3) := by decide +kernel
theorem dX10_answerTo_35 : decode cX10_answerTo 35 = .ok (.istore_n 3, 1) := by decide +kernel
theorem dX10_answerTo_36 : decode cX10_answerTo 36 = .ok (.iconst 0, 1) := by decide +kernel
theorem dX10_answerTo_37 : decode cX10_answerTo 37 = .ok (.istore 4, 2) := by decide +kernel
theorem dX10_answerTo_39 : decode cX10_answerTo 39 = .ok (.aload_n 0, 1) := by decide +kernel
theorem dX10_answerTo_40 : decode cX10_answerTo 40 = .ok (.aload_n 0, 1) := by decide +kernel
theorem dX10_answerTo_41 : decode cX10_answerTo 41 = .ok (.getfield 7, 3) := by decide +kernel
theorem dX10_answerTo_44 : decode cX10_answerTo 44 = .ok (.iconst 5, 1) := by decide +kernel
theorem dX10_answerTo_45 : decode cX10_answerTo 45 = .ok (.iaload, 1) := by decide +kernel
theorem dX10_answerTo_46 : decode cX10_answerTo 46 = .ok (.iload_n 1, 1) := by decide +kernel
theorem dX10_answerTo_47 : decode cX10_answerTo 47 = .ok (.iconst 0, 1) := by decide +kernel
theorem dX10_answerTo_48 : decode cX10_answerTo 48 = .ok (.invokevirtual 140, 3) := by decide +kernel
theorem dX10_answerTo_51 : decode cX10_answerTo 51 = .ok (.istore 5, 2) := by decide +kernel
theorem dX10_answerTo_53 : decode cX10_answerTo 53 = .ok (.iconst 1, 1) := by decide +kernel
theorem dX10_answerTo_54 : decode cX10_answerTo 54 = .ok (.istore 6, 2) := by decide +kernel
theorem dX10_answerTo_56 : decode cX10_answerTo 56 = .ok (.iload 6, 2) := by decide +kernel
theorem dX10_answerTo_58 : decode cX10_answerTo 58 = .ok (.aload_n 0, 1) := by decide +kernel
theorem dX10_answerTo_59 : decode cX10_answerTo 59 = .ok (.iconst 1, 1) := by decide +kernel
theorem dX10_answerTo_60 : decode cX10_answerTo 60 = .ok (.aload_n 0, 1) := by decide +kernel
theorem dX10_answerTo_61 : decode cX10_answerTo 61 = .ok (.getfield 7, 3) := by decide +kernel
theorem dX10_answerTo_64 : decode cX10_answerTo 64 = .ok (.iconst 5, 1) := by decide +kernel
theorem dX10_answerTo_65 : decode cX10_answerTo 65 = .ok (.iaload, 1) := by decide +kernel
theorem dX10_answerTo_66 : decode cX10_answerTo 66 = .ok (.isub, 1) := by decide +kernel
theorem dX10_answerTo_67 : decode cX10_answerTo 67 = .ok (.invokevirtual 50, 3) := by decide +kernel
theorem dX10_answerTo_70 : decode cX10_answerTo 70 = .ok (.if_icmp .gt 99, 3) := by decide +kernel
theorem dX10_answerTo_73 : decode cX10_answerTo 73 = .ok (.aload_n 0, 1) := by decide +kernel
theorem dX10_answerTo_74 : decode cX10_answerTo 74 = .ok (.iconst 1, 1) := by decide +kernel
theorem dX10_answerTo_75 : decode cX10_answerTo 75 = .ok (.aload_n 0, 1) := by decide +kernel
theorem dX10_answerTo_76 : decode cX10_answerTo 76 = .ok (.getfield 7, 3) := by decide +kernel
theorem dX10_answerTo_79 : decode cX10_answerTo 79 = .ok (.iconst 5, 1) := by decide +kernel
theorem dX10_answerTo_80 : decode cX10_answerTo 80 = .ok (.iaload, 1) := by decide +kernel
theorem dX10_answerTo_81 : decode cX10_answerTo 81 = .ok (.isub, 1) := by decide +kernel
theorem dX10_answerTo_82 : decode cX10_answerTo 82 = .ok (.iload_n 1, 1) := by decide +kernel
theorem dX10_answerTo_83 : decode cX10_answerTo 83 = .ok (.iload 6, 2) := by decide +kernel
theorem dX10_answerTo_85 : decode cX10_answerTo 85 = .ok (.invokevirtual 140, 3) := by decide +kernel
theorem dX10_answerTo_88 : decode cX10_answerTo 88 = .ok (.istore 7, 2) := by decide +kernel
theorem dX10_answerTo_90 : decode cX10_answerTo 90 = .ok (.aload_n 0, 1) := by decide +kernel
theorem dX10_answerTo_91 : decode cX10_answerTo 91 = .ok (.aload_n 0, 1) := by decide +kernel
theorem dX10_answerTo_92 : decode cX10_answerTo 92 = .ok (.getfield 7, 3) := by decide +kernel
theorem dX10_answerTo_95 : decode cX10_answerTo 95 = .ok (.iconst 5, 1) := by decide +kernel
theorem dX10_answerTo_96 : decode cX10_answerTo 96 = .ok (.iaload, 1) := by decide +kernel
theorem dX10_answerTo_97 : decode cX10_answerTo 97 = .ok (.iload_n 1, 1) := by decide +kernel
theorem dX10_answerTo_98 : decode cX10_answerTo 98 = .ok (.iload 6, 2) := by decide +kernel
theorem dX10_answerTo_100 : decode cX10_answerTo 100 = .ok (.invokevirtual 140, 3) := by decide +kernel
theorem dX10_answerTo_103 : decode cX10_answerTo 103 = .ok (.istore 8, 2) := by decide +kernel
theorem dX10_answerTo_105 : decode cX10_answerTo 105 = .ok (.iload 7, 2) := by decide +kernel
theorem dX10_answerTo_107 : decode cX10_answerTo 107 = .ok (.iload_n 3, 1) := by decide +kernel
theorem dX10_answerTo_108 : decode cX10_answerTo 108 = .ok (.if_icmp .ge 8, 3) := by decide +kernel
theorem dX10_answerTo_111 : decode cX10_answerTo 111 = .ok (.iload 6, 2) := by decide +kernel
theorem dX10_answerTo_113 : decode cX10_answerTo 113 = .ok (.goto 4, 3) := by decide +kernel
theorem dX10_answerTo_116 : decode cX10_answerTo 116 = .ok (.iload_n 2, 1) := by decide +kernel
theorem dX10_answerTo_117 : decode cX10_answerTo 117 = .ok (.istore_n 2, 1) := by decide +kernel
theorem dX10_answerTo_118 : decode cX10_answerTo 118 = .ok (.iload 7, 2) := by decide +kernel
theorem dX10_answerTo_120 : decode cX10_answerTo 120 = .ok (.iload_n 3, 1) := by decide +kernel
theorem dX10_answerTo_121 : decode cX10_answerTo 121 = .ok (.if_icmp .ge 8, 3) := by decide +kernel
theorem dX10_answerTo_124 : decode cX10_answerTo 124 = .ok (.iload 7, 2) := by decide +kernel
theorem dX10_answerTo_126 : decode cX10_answerTo 126 = .ok (.goto 4, 3) := by decide +kernel
theorem dX10_answerTo_129 : decode cX10_answerTo 129 = .ok (.iload_n 3, 1) := by decide +kernel
theorem dX10_answerTo_130 : decode cX10_answerTo 130 = .ok (.istore_n 3, 1) := by decide +kernel
theorem dX10_answerTo_131 : decode cX10_answerTo 131 = .ok (.iload 8, 2) := by decide +kernel
theorem dX10_answerTo_133 : decode cX10_answerTo 133 = .ok (.iload 5, 2) := by decide +kernel
theorem dX10_answerTo_135 : decode cX10_answerTo 135 = .ok (.if_icmp .le 8, 3) := by decide +kernel
theorem dX10_answerTo_138 : decode cX10_answerTo 138 = .ok (.iload 6, 2) := by decide +kernel
theorem dX10_answerTo_140 : decode cX10_answerTo 140 = .ok (.goto 5, 3) := by decide +kernel
theorem dX10_answerTo_143 : decode cX10_answerTo 143 = .ok (.iload 4, 2) := by decide +kernel
theorem dX10_answerTo_145 : decode cX10_answerTo 145 = .ok (.istore 4, 2) := by decide +kernel
theorem dX10_answerTo_147 : decode cX10_answerTo 147 = .ok (.iload 8, 2) := by decide +kernel
theorem dX10_answerTo_149 : decode cX10_answerTo 149 = .ok (.iload 5, 2) := by decide +kernel
theorem dX10_answerTo_151 : decode cX10_answerTo 151 = .ok (.if_icmp .le 8, 3) := by decide +kernel
theorem dX10_answerTo_154 : decode cX10_answerTo 154 = .ok (.iload 8, 2) := by decide +kernel
theorem dX10_answerTo_156 : decode cX10_answerTo 156 = .ok (.goto 5, 3) := by decide +kernel
theorem dX10_answerTo_159 : decode cX10_answerTo 159 = .ok (.iload 5, 2) := by decide +kernel
theorem dX10_answerTo_161 : decode cX10_answerTo 161 = .ok (.istore 5, 2) := by decide +kernel
theorem dX10_answerTo_163 : decode cX10_answerTo 163 = .ok (.iinc 6 1, 3) := by decide +kernel
theorem dX10_answerTo_166 : decode cX10_answerTo 166 = .ok (.goto (-110), 3) := by decide +kernel
theorem dX10_answerTo_169 : decode cX10_answerTo 169 = .ok (.iload_n 3, 1) := by decide +kernel
theorem dX10_answerTo_170 : decode cX10_answerTo 170 = .ok (.bipush 99, 2) := by decide +kernel
theorem dX10_answerTo_172 : decode cX10_answerTo 172 = .ok (.if_icmp .ne 8, 3) := by decide +kernel
theorem dX10_answerTo_175 : decode cX10_answerTo 175 = .ok (.iload 4, 2) := by decide +kernel
theorem dX10_answerTo_177 : decode cX10_answerTo 177 = .ok (.goto 4, 3) := by decide +kernel
theorem dX10_answerTo_180 : decode cX10_answerTo 180 = .ok (.iload_n 2, 1) := by decide +kernel
theorem dX10_answerTo_181 : decode cX10_answerTo 181 = .ok (.ireturn, 1) := by decide +kernel
theorem dX10_keeps_0 : decode cX10_keeps 0 = .ok (.aload_n 0, 1) := by decide +kernel
theorem dX10_keeps_1 : decode cX10_keeps 1 = .ok (.invokevirtual 46, 3) := by decide +kernel
theorem dX10_keeps_4 : decode cX10_keeps 4 = .ok (.ifCond .eq 7, 3) := by decide +kernel
theorem dX10_keeps_7 : decode cX10_keeps 7 = .ok (.sipush (-1005), 3) := by decide +kernel
theorem dX10_keeps_10 : decode cX10_keeps 10 = .ok (.ireturn, 1) := by decide +kernel
theorem dX10_keeps_11 : decode cX10_keeps 11 = .ok (.aload_n 0, 1) := by decide +kernel
theorem dX10_keeps_12 : decode cX10_keeps 12 = .ok (.aload_n 0, 1) := by decide +kernel
theorem dX10_keeps_13 : decode cX10_keeps 13 = .ok (.getfield 7, 3) := by decide +kernel
theorem dX10_keeps_16 : decode cX10_keeps 16 = .ok (.bipush 7, 2) := by decide +kernel
theorem dX10_keeps_18 : decode cX10_keeps 18 = .ok (.iaload, 1) := by decide +kernel
theorem dX10_keeps_19 : decode cX10_keeps 19 = .ok (.aload_n 0, 1) := by decide +kernel
theorem dX10_keeps_20 : decode cX10_keeps 20 = .ok (.getfield 7, 3) := by decide +kernel
theorem dX10_keeps_23 : decode cX10_keeps 23 = .ok (.bipush 8, 2) := by decide +kernel
theorem dX10_keeps_25 : decode cX10_keeps 25 = .ok (.iaload, 1) := by decide +kernel
theorem dX10_keeps_26 : decode cX10_keeps 26 = .ok (.iadd, 1) := by decide +kernel
theorem dX10_keeps_27 : decode cX10_keeps 27 = .ok (.invokevirtual 86, 3) := by decide +kernel
theorem dX10_keeps_30 : decode cX10_keeps 30 = .ok (.iconst 0, 1) := by decide +kernel
theorem dX10_keeps_31 : decode cX10_keeps 31 = .ok (.istore_n 1, 1) := by decide +kernel
theorem dX10_keeps_32 : decode cX10_keeps 32 = .ok (.iconst 0, 1) := by decide +kernel
theorem dX10_keeps_33 : decode cX10_keeps 33 = .ok (.istore_n 2, 1) := by decide +kernel
theorem dX10_keeps_34 : decode cX10_keeps 34 = .ok (.iload_n 2, 1) := by decide +kernel
theorem dX10_keeps_35 : decode cX10_keeps 35 = .ok (.aload_n 0, 1) := by decide +kernel
theorem dX10_keeps_36 : decode cX10_keeps 36 = .ok (.aload_n 0, 1) := by decide +kernel
theorem dX10_keeps_37 : decode cX10_keeps 37 = .ok (.getfield 7, 3) := by decide +kernel
theorem dX10_keeps_40 : decode cX10_keeps 40 = .ok (.iconst 5, 1) := by decide +kernel
theorem dX10_keeps_41 : decode cX10_keeps 41 = .ok (.iaload, 1) := by decide +kernel
theorem dX10_keeps_42 : decode cX10_keeps 42 = .ok (.invokevirtual 50, 3) := by decide +kernel
theorem dX10_keeps_45 : decode cX10_keeps 45 = .ok (.if_icmp .gt 27, 3) := by decide +kernel
theorem dX10_keeps_48 : decode cX10_keeps 48 = .ok (.iload_n 1, 1) := by decide +kernel
theorem dX10_keeps_49 : decode cX10_keeps 49 = .ok (.aload_n 0, 1) := by decide +kernel
theorem dX10_keeps_50 : decode cX10_keeps 50 = .ok (.iload_n 2, 1) := by decide +kernel
theorem dX10_keeps_51 : decode cX10_keeps 51 = .ok (.invokevirtual 143, 3) := by decide +kernel
theorem dX10_keeps_54 : decode cX10_keeps 54 = .ok (.bipush 99, 2) := by decide +kernel
theorem dX10_keeps_56 : decode cX10_keeps 56 = .ok (.if_icmp .ne 7, 3) := by decide +kernel
theorem dX10_keeps_59 : decode cX10_keeps 59 = .ok (.iconst 0, 1) := by decide +kernel
theorem dX10_keeps_60 : decode cX10_keeps 60 = .ok (.goto 4, 3) := by decide +kernel
theorem dX10_keeps_63 : decode cX10_keeps 63 = .ok (.iconst 1, 1) := by decide +kernel
theorem dX10_keeps_64 : decode cX10_keeps 64 = .ok (.iadd, 1) := by decide +kernel
theorem dX10_keeps_65 : decode cX10_keeps 65 = .ok (.istore_n 1, 1) := by decide +kernel
theorem dX10_keeps_66 : decode cX10_keeps 66 = .ok (.iinc 2 1, 3) := by decide +kernel
theorem dX10_keeps_69 : decode cX10_keeps 69 = .ok (.goto (-35), 3) := by decide +kernel
theorem dX10_keeps_72 : decode cX10_keeps 72 = .ok (.iload_n 1, 1) := by decide +kernel
theorem dX10_keeps_73 : decode cX10_keeps 73 = .ok (.ireturn, 1) := by decide +kernel
theorem dX10_leastHours_0 : decode cX10_leastHours 0 = .ok (.iload_n 1, 1) := by decide +kernel
theorem dX10_leastHours_1 : decode cX10_leastHours 1 = .ok (.invokestatic 125, 3) := by decide +kernel
theorem dX10_leastHours_4 : decode cX10_leastHours 4 = .ok (.ifCond .ne 7, 3) := by decide +kernel
theorem dX10_leastHours_7 : decode cX10_leastHours 7 = .ok (.sipush (-1001), 3) := by decide +kernel
theorem dX10_leastHours_10 : decode cX10_leastHours 10 = .ok (.ireturn, 1) := by decide +kernel
theorem dX10_leastHours_11 : decode cX10_leastHours 11 = .ok (.aload_n 0, 1) := by decide +kernel
theorem dX10_leastHours_12 : decode cX10_leastHours 12 = .ok (.invokevirtual 46, 3) := by decide +kernel
theorem dX10_leastHours_15 : decode cX10_leastHours 15 = .ok (.ifCond .eq 7, 3) := by decide +kernel
theorem dX10_leastHours_18 : decode cX10_leastHours 18 = .ok (.sipush (-1005), 3) := by decide +kernel
theorem dX10_leastHours_21 : decode cX10_leastHours 21 = .ok (.ireturn, 1) := by decide +kernel
theorem dX10_leastHours_22 : decode cX10_leastHours 22 = .ok (.iconst 0, 1) := by decide +kernel
theorem dX10_leastHours_23 : decode cX10_leastHours 23 = .ok (.istore_n 2, 1) := by decide +kernel
theorem dX10_leastHours_24 : decode cX10_leastHours 24 = .ok (.iload_n 2, 1) := by decide +kernel
theorem dX10_leastHours_25 : decode cX10_leastHours 25 = .ok (.bipush 6, 2) := by decide +kernel
theorem dX10_leastHours_27 : decode cX10_leastHours 27 = .ok (.if_icmp .gt 58, 3) := by decide +kernel
theorem dX10_leastHours_30 : decode cX10_leastHours 30 = .ok (.iload_n 1, 1) := by decide +kernel
theorem dX10_leastHours_31 : decode cX10_leastHours 31 = .ok (.ifCond .ne 7, 3) := by decide +kernel
theorem dX10_leastHours_34 : decode cX10_leastHours 34 = .ok (.iload_n 2, 1) := by decide +kernel
theorem dX10_leastHours_35 : decode cX10_leastHours 35 = .ok (.goto 10, 3) := by decide +kernel
theorem dX10_leastHours_38 : decode cX10_leastHours 38 = .ok (.aload_n 0, 1) := by decide +kernel
theorem dX10_leastHours_39 : decode cX10_leastHours 39 = .ok (.getfield 7, 3) := by decide +kernel
theorem dX10_leastHours_42 : decode cX10_leastHours 42 = .ok (.bipush 7, 2) := by decide +kernel
theorem dX10_leastHours_44 : decode cX10_leastHours 44 = .ok (.iaload, 1) := by decide +kernel
theorem dX10_leastHours_45 : decode cX10_leastHours 45 = .ok (.istore_n 3, 1) := by decide +kernel
theorem dX10_leastHours_46 : decode cX10_leastHours 46 = .ok (.iload_n 1, 1) := by decide +kernel
theorem dX10_leastHours_47 : decode cX10_leastHours 47 = .ok (.iconst 1, 1) := by decide +kernel
theorem dX10_leastHours_48 : decode cX10_leastHours 48 = .ok (.if_icmp .ne 7, 3) := by decide +kernel
theorem dX10_leastHours_51 : decode cX10_leastHours 51 = .ok (.iload_n 2, 1) := by decide +kernel
theorem dX10_leastHours_52 : decode cX10_leastHours 52 = .ok (.goto 10, 3) := by decide +kernel
theorem dX10_leastHours_55 : decode cX10_leastHours 55 = .ok (.aload_n 0, 1) := by decide +kernel
theorem dX10_leastHours_56 : decode cX10_leastHours 56 = .ok (.getfield 7, 3) := by decide +kernel
theorem dX10_leastHours_59 : decode cX10_leastHours 59 = .ok (.bipush 8, 2) := by decide +kernel
theorem dX10_leastHours_61 : decode cX10_leastHours 61 = .ok (.iaload, 1) := by decide +kernel
theorem dX10_leastHours_62 : decode cX10_leastHours 62 = .ok (.istore 4, 2) := by decide +kernel
theorem dX10_leastHours_64 : decode cX10_leastHours 64 = .ok (.aload_n 0, 1) := by decide +kernel
theorem dX10_leastHours_65 : decode cX10_leastHours 65 = .ok (.iload_n 1, 1) := by decide +kernel
theorem dX10_leastHours_66 : decode cX10_leastHours 66 = .ok (.iload_n 3, 1) := by decide +kernel
theorem dX10_leastHours_67 : decode cX10_leastHours 67 = .ok (.iload 4, 2) := by decide +kernel
theorem dX10_leastHours_69 : decode cX10_leastHours 69 = .ok (.invokevirtual 90, 3) := by decide +kernel
theorem dX10_leastHours_72 : decode cX10_leastHours 72 = .ok (.bipush 99, 2) := by decide +kernel
theorem dX10_leastHours_74 : decode cX10_leastHours 74 = .ok (.if_icmp .eq 5, 3) := by decide +kernel
theorem dX10_leastHours_77 : decode cX10_leastHours 77 = .ok (.iload_n 2, 1) := by decide +kernel
theorem dX10_leastHours_78 : decode cX10_leastHours 78 = .ok (.ireturn, 1) := by decide +kernel
theorem dX10_leastHours_79 : decode cX10_leastHours 79 = .ok (.iinc 2 1, 3) := by decide +kernel
theorem dX10_leastHours_82 : decode cX10_leastHours 82 = .ok (.goto (-58), 3) := by decide +kernel
theorem dX10_leastHours_85 : decode cX10_leastHours 85 = .ok (.sipush (-1006), 3) := by decide +kernel
theorem dX10_leastHours_88 : decode cX10_leastHours 88 = .ok (.ireturn, 1) := by decide +kernel
theorem dX10_charactersOf_0 : decode cX10_charactersOf 0 = .ok (.lload_n 0, 1) := by decide +kernel
theorem dX10_charactersOf_1 : decode cX10_charactersOf 1 = .ok (.lstore_n 2, 1) := by decide +kernel
theorem dX10_charactersOf_2 : decode cX10_charactersOf 2 = .ok (.iconst 0, 1) := by decide +kernel
theorem dX10_charactersOf_3 : decode cX10_charactersOf 3 = .ok (.istore 4, 2) := by decide +kernel
theorem dX10_charactersOf_5 : decode cX10_charactersOf 5 = .ok (.iload 4, 2) := by decide +kernel
theorem dX10_charactersOf_7 : decode cX10_charactersOf 7 = .ok (.bipush 8, 2) := by decide +kernel
theorem dX10_charactersOf_9 : decode cX10_charactersOf 9 = .ok (.if_icmp .ge 31, 3) := by decide +kernel
theorem dX10_charactersOf_12 : decode cX10_charactersOf 12 = .ok (.lload_n 2, 1) := by decide +kernel
theorem dX10_charactersOf_13 : decode cX10_charactersOf 13 = .ok (.ldc2_w 149, 3) := by decide +kernel
theorem dX10_charactersOf_16 : decode cX10_charactersOf 16 = .ok (.land, 1) := by decide +kernel
theorem dX10_charactersOf_17 : decode cX10_charactersOf 17 = .ok (.ldc2_w 151, 3) := by decide +kernel
theorem dX10_charactersOf_20 : decode cX10_charactersOf 20 = .ok (.ldc2_w 153, 3) := by decide +kernel
theorem dX10_charactersOf_23 : decode cX10_charactersOf 23 = .ok (.invokestatic 95, 3) := by decide +kernel
theorem dX10_charactersOf_26 : decode cX10_charactersOf 26 = .ok (.ifCond .eq 14, 3) := by decide +kernel
theorem dX10_charactersOf_29 : decode cX10_charactersOf 29 = .ok (.lload_n 2, 1) := by decide +kernel
theorem dX10_charactersOf_30 : decode cX10_charactersOf 30 = .ok (.bipush 8, 2) := by decide +kernel
theorem dX10_charactersOf_32 : decode cX10_charactersOf 32 = .ok (.lushr, 1) := by decide +kernel
theorem dX10_charactersOf_33 : decode cX10_charactersOf 33 = .ok (.lstore_n 2, 1) := by decide +kernel
theorem dX10_charactersOf_34 : decode cX10_charactersOf 34 = .ok (.iinc 4 1, 3) := by decide +kernel
theorem dX10_charactersOf_37 : decode cX10_charactersOf 37 = .ok (.goto (-32), 3) := by decide +kernel
theorem dX10_charactersOf_40 : decode cX10_charactersOf 40 = .ok (.lload_n 2, 1) := by decide +kernel
theorem dX10_charactersOf_41 : decode cX10_charactersOf 41 = .ok (.lconst 0, 1) := by decide +kernel
theorem dX10_charactersOf_42 : decode cX10_charactersOf 42 = .ok (.lcmp, 1) := by decide +kernel
theorem dX10_charactersOf_43 : decode cX10_charactersOf 43 = .ok (.ifCond .ne 8, 3) := by decide +kernel
theorem dX10_charactersOf_46 : decode cX10_charactersOf 46 = .ok (.iload 4, 2) := by decide +kernel
theorem dX10_charactersOf_48 : decode cX10_charactersOf 48 = .ok (.goto 4, 3) := by decide +kernel
theorem dX10_charactersOf_51 : decode cX10_charactersOf 51 = .ok (.iconst 0, 1) := by decide +kernel
theorem dX10_charactersOf_52 : decode cX10_charactersOf 52 = .ok (.ireturn, 1) := by decide +kernel
theorem dX10_put_0 : decode cX10_put 0 = .ok (.lload_n 1, 1) := by decide +kernel
theorem dX10_put_1 : decode cX10_put 1 = .ok (.invokestatic 155, 3) := by decide +kernel
theorem dX10_put_4 : decode cX10_put 4 = .ok (.istore_n 3, 1) := by decide +kernel
theorem dX10_put_5 : decode cX10_put 5 = .ok (.iload_n 3, 1) := by decide +kernel
theorem dX10_put_6 : decode cX10_put 6 = .ok (.ifCond .ne 7, 3) := by decide +kernel
theorem dX10_put_9 : decode cX10_put 9 = .ok (.sipush (-1002), 3) := by decide +kernel
theorem dX10_put_12 : decode cX10_put 12 = .ok (.ireturn, 1) := by decide +kernel
theorem dX10_put_13 : decode cX10_put 13 = .ok (.aload_n 0, 1) := by decide +kernel
theorem dX10_put_14 : decode cX10_put 14 = .ok (.getfield 132, 3) := by decide +kernel
theorem dX10_put_17 : decode cX10_put 17 = .ok (.iload_n 3, 1) := by decide +kernel
theorem dX10_put_18 : decode cX10_put 18 = .ok (.iadd, 1) := by decide +kernel
