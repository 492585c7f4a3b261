/-! Decode rows by program. -/
theorem d_Ref_oldestMessage_35 : decode b_Ref_oldestMessage 35 = .ok (.iconst 4, 1) := by decide +kernel
theorem d_Ref_oldestMessage_36 : decode b_Ref_oldestMessage 36 = .ok (.ishr, 1) := by decide +kernel
theorem d_Ref_oldestMessage_37 : decode b_Ref_oldestMessage 37 = .ok (.bipush 15, 2) := by decide +kernel
theorem d_Ref_oldestMessage_39 : decode b_Ref_oldestMessage 39 = .ok (.iand, 1) := by decide +kernel
theorem d_Ref_oldestMessage_40 : decode b_Ref_oldestMessage 40 = .ok (.istore_n 2, 1) := by decide +kernel
theorem d_Ref_oldestMessage_41 : decode b_Ref_oldestMessage 41 = .ok (.iload_n 1, 1) := by decide +kernel
theorem d_Ref_oldestMessage_42 : decode b_Ref_oldestMessage 42 = .ok (.bipush 15, 2) := by decide +kernel
theorem d_Ref_oldestMessage_44 : decode b_Ref_oldestMessage 44 = .ok (.iand, 1) := by decide +kernel
theorem d_Ref_oldestMessage_45 : decode b_Ref_oldestMessage 45 = .ok (.istore_n 3, 1) := by decide +kernel
theorem d_Ref_oldestMessage_46 : decode b_Ref_oldestMessage 46 = .ok (.iload_n 1, 1) := by decide +kernel
theorem d_Ref_oldestMessage_47 : decode b_Ref_oldestMessage 47 = .ok (.bipush 8, 2) := by decide +kernel
theorem d_Ref_oldestMessage_49 : decode b_Ref_oldestMessage 49 = .ok (.ishr, 1) := by decide +kernel
theorem d_Ref_oldestMessage_50 : decode b_Ref_oldestMessage 50 = .ok (.istore 4, 2) := by decide +kernel
theorem d_Ref_oldestMessage_52 : decode b_Ref_oldestMessage 52 = .ok (.aload_n 0, 1) := by decide +kernel
theorem d_Ref_oldestMessage_53 : decode b_Ref_oldestMessage 53 = .ok (.getfield 13, 3) := by decide +kernel
theorem d_Ref_oldestMessage_56 : decode b_Ref_oldestMessage 56 = .ok (.bipush 12, 2) := by decide +kernel
theorem d_Ref_oldestMessage_58 : decode b_Ref_oldestMessage 58 = .ok (.iload_n 2, 1) := by decide +kernel
theorem d_Ref_oldestMessage_59 : decode b_Ref_oldestMessage 59 = .ok (.imul, 1) := by decide +kernel
theorem d_Ref_oldestMessage_60 : decode b_Ref_oldestMessage 60 = .ok (.iload_n 3, 1) := by decide +kernel
theorem d_Ref_oldestMessage_61 : decode b_Ref_oldestMessage 61 = .ok (.iadd, 1) := by decide +kernel
theorem d_Ref_oldestMessage_62 : decode b_Ref_oldestMessage 62 = .ok (.iaload, 1) := by decide +kernel
theorem d_Ref_oldestMessage_63 : decode b_Ref_oldestMessage 63 = .ok (.iconst 1, 1) := by decide +kernel
theorem d_Ref_oldestMessage_64 : decode b_Ref_oldestMessage 64 = .ok (.if_icmp .eq 14, 3) := by decide +kernel
theorem d_Ref_oldestMessage_67 : decode b_Ref_oldestMessage 67 = .ok (.aload_n 0, 1) := by decide +kernel
theorem d_Ref_oldestMessage_68 : decode b_Ref_oldestMessage 68 = .ok (.dup, 1) := by decide +kernel
theorem d_Ref_oldestMessage_69 : decode b_Ref_oldestMessage 69 = .ok (.getfield 126, 3) := by decide +kernel
theorem d_Ref_oldestMessage_72 : decode b_Ref_oldestMessage 72 = .ok (.iconst 1, 1) := by decide +kernel
theorem d_Ref_oldestMessage_73 : decode b_Ref_oldestMessage 73 = .ok (.iadd, 1) := by decide +kernel
theorem d_Ref_oldestMessage_74 : decode b_Ref_oldestMessage 74 = .ok (.putfield 126, 3) := by decide +kernel
theorem d_Ref_oldestMessage_77 : decode b_Ref_oldestMessage 77 = .ok (.return_, 1) := by decide +kernel
theorem d_Ref_oldestMessage_78 : decode b_Ref_oldestMessage 78 = .ok (.aload_n 0, 1) := by decide +kernel
theorem d_Ref_oldestMessage_79 : decode b_Ref_oldestMessage 79 = .ok (.iload_n 3, 1) := by decide +kernel
theorem d_Ref_oldestMessage_80 : decode b_Ref_oldestMessage 80 = .ok (.aload_n 0, 1) := by decide +kernel
theorem d_Ref_oldestMessage_81 : decode b_Ref_oldestMessage 81 = .ok (.getfield 23, 3) := by decide +kernel
theorem d_Ref_oldestMessage_84 : decode b_Ref_oldestMessage 84 = .ok (.iload 4, 2) := by decide +kernel
theorem d_Ref_oldestMessage_86 : decode b_Ref_oldestMessage 86 = .ok (.iaload, 1) := by decide +kernel
theorem d_Ref_oldestMessage_87 : decode b_Ref_oldestMessage 87 = .ok (.invokevirtual 105, 3) := by decide +kernel
theorem d_Ref_oldestMessage_90 : decode b_Ref_oldestMessage 90 = .ok (.istore 5, 2) := by decide +kernel
theorem d_Ref_oldestMessage_92 : decode b_Ref_oldestMessage 92 = .ok (.aload_n 0, 1) := by decide +kernel
theorem d_Ref_oldestMessage_93 : decode b_Ref_oldestMessage 93 = .ok (.getfield 26, 3) := by decide +kernel
theorem d_Ref_oldestMessage_96 : decode b_Ref_oldestMessage 96 = .ok (.iload 4, 2) := by decide +kernel
theorem d_Ref_oldestMessage_98 : decode b_Ref_oldestMessage 98 = .ok (.iaload, 1) := by decide +kernel
theorem d_Ref_oldestMessage_99 : decode b_Ref_oldestMessage 99 = .ok (.iload 5, 2) := by decide +kernel
theorem d_Ref_oldestMessage_101 : decode b_Ref_oldestMessage 101 = .ok (.if_icmp .le 33, 3) := by decide +kernel
theorem d_Ref_oldestMessage_104 : decode b_Ref_oldestMessage 104 = .ok (.aload_n 0, 1) := by decide +kernel
theorem d_Ref_oldestMessage_105 : decode b_Ref_oldestMessage 105 = .ok (.getfield 39, 3) := by decide +kernel
theorem d_Ref_oldestMessage_108 : decode b_Ref_oldestMessage 108 = .ok (.bipush 12, 2) := by decide +kernel
theorem d_Ref_oldestMessage_110 : decode b_Ref_oldestMessage 110 = .ok (.iload_n 3, 1) := by decide +kernel
theorem d_Ref_oldestMessage_111 : decode b_Ref_oldestMessage 111 = .ok (.imul, 1) := by decide +kernel
theorem d_Ref_oldestMessage_112 : decode b_Ref_oldestMessage 112 = .ok (.aload_n 0, 1) := by decide +kernel
theorem d_Ref_oldestMessage_113 : decode b_Ref_oldestMessage 113 = .ok (.getfield 23, 3) := by decide +kernel
theorem d_Ref_oldestMessage_116 : decode b_Ref_oldestMessage 116 = .ok (.iload 4, 2) := by decide +kernel
theorem d_Ref_oldestMessage_118 : decode b_Ref_oldestMessage 118 = .ok (.iaload, 1) := by decide +kernel
theorem d_Ref_oldestMessage_119 : decode b_Ref_oldestMessage 119 = .ok (.iadd, 1) := by decide +kernel
theorem d_Ref_oldestMessage_120 : decode b_Ref_oldestMessage 120 = .ok (.iload 4, 2) := by decide +kernel
theorem d_Ref_oldestMessage_122 : decode b_Ref_oldestMessage 122 = .ok (.iastore, 1) := by decide +kernel
theorem d_Ref_oldestMessage_123 : decode b_Ref_oldestMessage 123 = .ok (.aload_n 0, 1) := by decide +kernel
theorem d_Ref_oldestMessage_124 : decode b_Ref_oldestMessage 124 = .ok (.iload 4, 2) := by decide +kernel
theorem d_Ref_oldestMessage_126 : decode b_Ref_oldestMessage 126 = .ok (.iload_n 3, 1) := by decide +kernel
theorem d_Ref_oldestMessage_127 : decode b_Ref_oldestMessage 127 = .ok (.iload_n 2, 1) := by decide +kernel
theorem d_Ref_oldestMessage_128 : decode b_Ref_oldestMessage 128 = .ok (.invokevirtual 113, 3) := by decide +kernel
theorem d_Ref_oldestMessage_131 : decode b_Ref_oldestMessage 131 = .ok (.goto 38, 3) := by decide +kernel
theorem d_Ref_oldestMessage_134 : decode b_Ref_oldestMessage 134 = .ok (.aload_n 0, 1) := by decide +kernel
theorem d_Ref_oldestMessage_135 : decode b_Ref_oldestMessage 135 = .ok (.getfield 26, 3) := by decide +kernel
theorem d_Ref_oldestMessage_138 : decode b_Ref_oldestMessage 138 = .ok (.iload 4, 2) := by decide +kernel
theorem d_Ref_oldestMessage_140 : decode b_Ref_oldestMessage 140 = .ok (.iaload, 1) := by decide +kernel
theorem d_Ref_oldestMessage_141 : decode b_Ref_oldestMessage 141 = .ok (.iload 5, 2) := by decide +kernel
theorem d_Ref_oldestMessage_143 : decode b_Ref_oldestMessage 143 = .ok (.if_icmp .ge 26, 3) := by decide +kernel
theorem d_Ref_oldestMessage_146 : decode b_Ref_oldestMessage 146 = .ok (.aload_n 0, 1) := by decide +kernel
theorem d_Ref_oldestMessage_147 : decode b_Ref_oldestMessage 147 = .ok (.aload_n 0, 1) := by decide +kernel
theorem d_Ref_oldestMessage_148 : decode b_Ref_oldestMessage 148 = .ok (.getfield 39, 3) := by decide +kernel
theorem d_Ref_oldestMessage_151 : decode b_Ref_oldestMessage 151 = .ok (.bipush 12, 2) := by decide +kernel
theorem d_Ref_oldestMessage_153 : decode b_Ref_oldestMessage 153 = .ok (.iload_n 3, 1) := by decide +kernel
theorem d_Ref_oldestMessage_154 : decode b_Ref_oldestMessage 154 = .ok (.imul, 1) := by decide +kernel
theorem d_Ref_oldestMessage_155 : decode b_Ref_oldestMessage 155 = .ok (.aload_n 0, 1) := by decide +kernel
theorem d_Ref_oldestMessage_156 : decode b_Ref_oldestMessage 156 = .ok (.getfield 23, 3) := by decide +kernel
theorem d_Ref_oldestMessage_159 : decode b_Ref_oldestMessage 159 = .ok (.iload 4, 2) := by decide +kernel
theorem d_Ref_oldestMessage_161 : decode b_Ref_oldestMessage 161 = .ok (.iaload, 1) := by decide +kernel
theorem d_Ref_oldestMessage_162 : decode b_Ref_oldestMessage 162 = .ok (.iadd, 1) := by decide +kernel
theorem d_Ref_oldestMessage_163 : decode b_Ref_oldestMessage 163 = .ok (.iaload, 1) := by decide +kernel
theorem d_Ref_oldestMessage_164 : decode b_Ref_oldestMessage 164 = .ok (.iload_n 3, 1) := by decide +kernel
theorem d_Ref_oldestMessage_165 : decode b_Ref_oldestMessage 165 = .ok (.iload_n 2, 1) := by decide +kernel
theorem d_Ref_oldestMessage_166 : decode b_Ref_oldestMessage 166 = .ok (.invokevirtual 101, 3) := by decide +kernel
theorem d_Ref_oldestMessage_169 : decode b_Ref_oldestMessage 169 = .ok (.return_, 1) := by decide +kernel
theorem d_Ref_step_0 : decode b_Ref_step 0 = .ok (.aload_n 0, 1) := by decide +kernel
theorem d_Ref_step_1 : decode b_Ref_step 1 = .ok (.aload_n 0, 1) := by decide +kernel
theorem d_Ref_step_2 : decode b_Ref_step 2 = .ok (.getfield 92, 3) := by decide +kernel
theorem d_Ref_step_5 : decode b_Ref_step 5 = .ok (.sipush 3900, 3) := by decide +kernel
theorem d_Ref_step_8 : decode b_Ref_step 8 = .ok (.if_icmp .lt 7, 3) := by decide +kernel
theorem d_Ref_step_11 : decode b_Ref_step 11 = .ok (.iconst 1, 1) := by decide +kernel
theorem d_Ref_step_12 : decode b_Ref_step 12 = .ok (.goto 20, 3) := by decide +kernel
theorem d_Ref_step_15 : decode b_Ref_step 15 = .ok (.iload_n 1, 1) := by decide +kernel
theorem d_Ref_step_16 : decode b_Ref_step 16 = .ok (.i2l, 1) := by decide +kernel
theorem d_Ref_step_17 : decode b_Ref_step 17 = .ok (.lconst 1, 1) := by decide +kernel
theorem d_Ref_step_18 : decode b_Ref_step 18 = .ok (.ldc2_w 116, 3) := by decide +kernel
theorem d_Ref_step_21 : decode b_Ref_step 21 = .ok (.invokestatic 78, 3) := by decide +kernel
theorem d_Ref_step_24 : decode b_Ref_step 24 = .ok (.ifCond .eq 7, 3) := by decide +kernel
theorem d_Ref_step_27 : decode b_Ref_step 27 = .ok (.iconst 0, 1) := by decide +kernel
theorem d_Ref_step_28 : decode b_Ref_step 28 = .ok (.goto 4, 3) := by decide +kernel
theorem d_Ref_step_31 : decode b_Ref_step 31 = .ok (.iconst 2, 1) := by decide +kernel
theorem d_Ref_step_32 : decode b_Ref_step 32 = .ok (.putfield 72, 3) := by decide +kernel
theorem d_Ref_step_35 : decode b_Ref_step 35 = .ok (.aload_n 0, 1) := by decide +kernel
theorem d_Ref_step_36 : decode b_Ref_step 36 = .ok (.getfield 72, 3) := by decide +kernel
theorem d_Ref_step_39 : decode b_Ref_step 39 = .ok (.ifCond .le 5, 3) := by decide +kernel
theorem d_Ref_step_42 : decode b_Ref_step 42 = .ok (.iconst 0, 1) := by decide +kernel
theorem d_Ref_step_43 : decode b_Ref_step 43 = .ok (.ireturn, 1) := by decide +kernel
theorem d_Ref_step_44 : decode b_Ref_step 44 = .ok (.iconst 0, 1) := by decide +kernel
theorem d_Ref_step_45 : decode b_Ref_step 45 = .ok (.istore_n 2, 1) := by decide +kernel
theorem d_Ref_step_46 : decode b_Ref_step 46 = .ok (.iload_n 2, 1) := by decide +kernel
theorem d_Ref_step_47 : decode b_Ref_step 47 = .ok (.iload_n 1, 1) := by decide +kernel
theorem d_Ref_step_48 : decode b_Ref_step 48 = .ok (.if_icmp .ge 30, 3) := by decide +kernel
theorem d_Ref_step_51 : decode b_Ref_step 51 = .ok (.aload_n 0, 1) := by decide +kernel
theorem d_Ref_step_52 : decode b_Ref_step 52 = .ok (.getfield 92, 3) := by decide +kernel
theorem d_Ref_step_55 : decode b_Ref_step 55 = .ok (.ifCond .le 23, 3) := by decide +kernel
theorem d_Ref_step_58 : decode b_Ref_step 58 = .ok (.aload_n 0, 1) := by decide +kernel
theorem d_Ref_step_59 : decode b_Ref_step 59 = .ok (.getfield 92, 3) := by decide +kernel
theorem d_Ref_step_62 : decode b_Ref_step 62 = .ok (.sipush 3900, 3) := by decide +kernel
theorem d_Ref_step_65 : decode b_Ref_step 65 = .ok (.if_icmp .ge 13, 3) := by decide +kernel
theorem d_Ref_step_68 : decode b_Ref_step 68 = .ok (.aload_n 0, 1) := by decide +kernel
theorem d_Ref_step_69 : decode b_Ref_step 69 = .ok (.invokevirtual 129, 3) := by decide +kernel
theorem d_Ref_step_72 : decode b_Ref_step 72 = .ok (.iinc 2 1, 3) := by decide +kernel
theorem d_Ref_step_75 : decode b_Ref_step 75 = .ok (.goto (-29), 3) := by decide +kernel
theorem d_Ref_step_78 : decode b_Ref_step 78 = .ok (.iload_n 2, 1) := by decide +kernel
theorem d_Ref_step_79 : decode b_Ref_step 79 = .ok (.ireturn, 1) := by decide +kernel
theorem d_Ref_settled_0 : decode b_Ref_settled 0 = .ok (.aload_n 0, 1) := by decide +kernel
theorem d_Ref_settled_1 : decode b_Ref_settled 1 = .ok (.iconst 0, 1) := by decide +kernel
theorem d_Ref_settled_2 : decode b_Ref_settled 2 = .ok (.putfield 72, 3) := by decide +kernel
theorem d_Ref_settled_5 : decode b_Ref_settled 5 = .ok (.aload_n 0, 1) := by decide +kernel
theorem d_Ref_settled_6 : decode b_Ref_settled 6 = .ok (.getfield 92, 3) := by decide +kernel
theorem d_Ref_settled_9 : decode b_Ref_settled 9 = .ok (.ifCond .ne 7, 3) := by decide +kernel
theorem d_Ref_settled_12 : decode b_Ref_settled 12 = .ok (.iconst 1, 1) := by decide +kernel
theorem d_Ref_settled_13 : decode b_Ref_settled 13 = .ok (.goto 4, 3) := by decide +kernel
theorem d_Ref_settled_16 : decode b_Ref_settled 16 = .ok (.iconst 0, 1) := by decide +kernel
theorem d_Ref_settled_17 : decode b_Ref_settled 17 = .ok (.istore_n 1, 1) := by decide +kernel
theorem d_Ref_settled_18 : decode b_Ref_settled 18 = .ok (.iconst 0, 1) := by decide +kernel
theorem d_Ref_settled_19 : decode b_Ref_settled 19 = .ok (.istore_n 2, 1) := by decide +kernel
theorem d_Ref_settled_20 : decode b_Ref_settled 20 = .ok (.iload_n 2, 1) := by decide +kernel
theorem d_Ref_settled_21 : decode b_Ref_settled 21 = .ok (.bipush 12, 2) := by decide +kernel
theorem d_Ref_settled_23 : decode b_Ref_settled 23 = .ok (.if_icmp .ge 81, 3) := by decide +kernel
theorem d_Ref_settled_26 : decode b_Ref_settled 26 = .ok (.iconst 0, 1) := by decide +kernel
theorem d_Ref_settled_27 : decode b_Ref_settled 27 = .ok (.istore_n 3, 1) := by decide +kernel
theorem d_Ref_settled_28 : decode b_Ref_settled 28 = .ok (.iload_n 3, 1) := by decide +kernel
theorem d_Ref_settled_29 : decode b_Ref_settled 29 = .ok (.bipush 12, 2) := by decide +kernel
theorem d_Ref_settled_31 : decode b_Ref_settled 31 = .ok (.if_icmp .ge 67, 3) := by decide +kernel
theorem d_Ref_settled_34 : decode b_Ref_settled 34 = .ok (.iconst 0, 1) := by decide +kernel
theorem d_Ref_settled_35 : decode b_Ref_settled 35 = .ok (.istore 4, 2) := by decide +kernel
theorem d_Ref_settled_37 : decode b_Ref_settled 37 = .ok (.iload 4, 2) := by decide +kernel
theorem d_Ref_settled_39 : decode b_Ref_settled 39 = .ok (.bipush 12, 2) := by decide +kernel
theorem d_Ref_settled_41 : decode b_Ref_settled 41 = .ok (.if_icmp .ge 51, 3) := by decide +kernel
theorem d_Ref_settled_44 : decode b_Ref_settled 44 = .ok (.aload_n 0, 1) := by decide +kernel
theorem d_Ref_settled_45 : decode b_Ref_settled 45 = .ok (.getfield 13, 3) := by decide +kernel
theorem d_Ref_settled_48 : decode b_Ref_settled 48 = .ok (.bipush 12, 2) := by decide +kernel
theorem d_Ref_settled_50 : decode b_Ref_settled 50 = .ok (.iload_n 2, 1) := by decide +kernel
theorem d_Ref_settled_51 : decode b_Ref_settled 51 = .ok (.imul, 1) := by decide +kernel
theorem d_Ref_settled_52 : decode b_Ref_settled 52 = .ok (.iload_n 3, 1) := by decide +kernel
theorem d_Ref_settled_53 : decode b_Ref_settled 53 = .ok (.iadd, 1) := by decide +kernel
theorem d_Ref_settled_54 : decode b_Ref_settled 54 = .ok (.iaload, 1) := by decide +kernel
theorem d_Ref_settled_55 : decode b_Ref_settled 55 = .ok (.iconst 1, 1) := by decide +kernel
theorem d_Ref_settled_56 : decode b_Ref_settled 56 = .ok (.if_icmp .ne 36, 3) := by decide +kernel
theorem d_Ref_settled_59 : decode b_Ref_settled 59 = .ok (.iload_n 1, 1) := by decide +kernel
theorem d_Ref_settled_60 : decode b_Ref_settled 60 = .ok (.ifCond .eq 24, 3) := by decide +kernel
theorem d_Ref_settled_63 : decode b_Ref_settled 63 = .ok (.aload_n 0, 1) := by decide +kernel
theorem d_Ref_settled_64 : decode b_Ref_settled 64 = .ok (.iload_n 2, 1) := by decide +kernel
theorem d_Ref_settled_65 : decode b_Ref_settled 65 = .ok (.iload 4, 2) := by decide +kernel
theorem d_Ref_settled_67 : decode b_Ref_settled 67 = .ok (.invokevirtual 105, 3) := by decide +kernel
theorem d_Ref_settled_70 : decode b_Ref_settled 70 = .ok (.aload_n 0, 1) := by decide +kernel
theorem d_Ref_settled_71 : decode b_Ref_settled 71 = .ok (.iload_n 3, 1) := by decide +kernel
theorem d_Ref_settled_72 : decode b_Ref_settled 72 = .ok (.iload 4, 2) := by decide +kernel
theorem d_Ref_settled_74 : decode b_Ref_settled 74 = .ok (.invokevirtual 105, 3) := by decide +kernel
theorem d_Ref_settled_77 : decode b_Ref_settled 77 = .ok (.if_icmp .ne 7, 3) := by decide +kernel
theorem d_Ref_settled_80 : decode b_Ref_settled 80 = .ok (.iconst 1, 1) := by decide +kernel
theorem d_Ref_settled_81 : decode b_Ref_settled 81 = .ok (.goto 4, 3) := by decide +kernel
theorem d_Ref_settled_84 : decode b_Ref_settled 84 = .ok (.iconst 0, 1) := by decide +kernel
theorem d_Ref_settled_85 : decode b_Ref_settled 85 = .ok (.istore_n 1, 1) := by decide +kernel
theorem d_Ref_settled_86 : decode b_Ref_settled 86 = .ok (.iinc 4 1, 3) := by decide +kernel
theorem d_Ref_settled_89 : decode b_Ref_settled 89 = .ok (.goto (-52), 3) := by decide +kernel
theorem d_Ref_settled_92 : decode b_Ref_settled 92 = .ok (.iinc 3 1, 3) := by decide +kernel
theorem d_Ref_settled_95 : decode b_Ref_settled 95 = .ok (.goto (-67), 3) := by decide +kernel
theorem d_Ref_settled_98 : decode b_Ref_settled 98 = .ok (.iinc 2 1, 3) := by decide +kernel
theorem d_Ref_settled_101 : decode b_Ref_settled 101 = .ok (.goto (-81), 3) := by decide +kernel
theorem d_Ref_settled_104 : decode b_Ref_settled 104 = .ok (.iload_n 1, 1) := by decide +kernel
theorem d_Ref_settled_105 : decode b_Ref_settled 105 = .ok (.ireturn, 1) := by decide +kernel
theorem d_Ref_view_0 : decode b_Ref_view 0 = .ok (.iconst 0, 1) := by decide +kernel
theorem d_Ref_view_1 : decode b_Ref_view 1 = .ok (.istore_n 2, 1) := by decide +kernel
theorem d_Ref_view_2 : decode b_Ref_view 2 = .ok (.iload_n 2, 1) := by decide +kernel
theorem d_Ref_view_3 : decode b_Ref_view 3 = .ok (.bipush 12, 2) := by decide +kernel
theorem d_Ref_view_5 : decode b_Ref_view 5 = .ok (.if_icmp .ge 127, 3) := by decide +kernel
theorem d_Ref_view_8 : decode b_Ref_view 8 = .ok (.iconst 0, 1) := by decide +kernel
theorem d_Ref_view_9 : decode b_Ref_view 9 = .ok (.istore_n 3, 1) := by decide +kernel
theorem d_Ref_view_10 : decode b_Ref_view 10 = .ok (.iload_n 3, 1) := by decide +kernel
theorem d_Ref_view_11 : decode b_Ref_view 11 = .ok (.bipush 12, 2) := by decide +kernel
theorem d_Ref_view_13 : decode b_Ref_view 13 = .ok (.if_icmp .ge 113, 3) := by decide +kernel
theorem d_Ref_view_16 : decode b_Ref_view 16 = .ok (.aload_n 0, 1) := by decide +kernel
theorem d_Ref_view_17 : decode b_Ref_view 17 = .ok (.getfield 39, 3) := by decide +kernel
theorem d_Ref_view_20 : decode b_Ref_view 20 = .ok (.bipush 12, 2) := by decide +kernel
theorem d_Ref_view_22 : decode b_Ref_view 22 = .ok (.iload_n 1, 1) := by decide +kernel
theorem d_Ref_view_23 : decode b_Ref_view 23 = .ok (.imul, 1) := by decide +kernel
theorem d_Ref_view_24 : decode b_Ref_view 24 = .ok (.iload_n 2, 1) := by decide +kernel
theorem d_Ref_view_25 : decode b_Ref_view 25 = .ok (.iadd, 1) := by decide +kernel
theorem d_Ref_view_26 : decode b_Ref_view 26 = .ok (.iaload, 1) := by decide +kernel
theorem d_Ref_view_27 : decode b_Ref_view 27 = .ok (.istore 4, 2) := by decide +kernel
theorem d_Ref_view_29 : decode b_Ref_view 29 = .ok (.aload_n 0, 1) := by decide +kernel
theorem d_Ref_view_30 : decode b_Ref_view 30 = .ok (.getfield 39, 3) := by decide +kernel
theorem d_Ref_view_33 : decode b_Ref_view 33 = .ok (.bipush 12, 2) := by decide +kernel
theorem d_Ref_view_35 : decode b_Ref_view 35 = .ok (.iload_n 1, 1) := by decide +kernel
theorem d_Ref_view_36 : decode b_Ref_view 36 = .ok (.imul, 1) := by decide +kernel
theorem d_Ref_view_37 : decode b_Ref_view 37 = .ok (.iload_n 3, 1) := by decide +kernel
theorem d_Ref_view_38 : decode b_Ref_view 38 = .ok (.iadd, 1) := by decide +kernel
theorem d_Ref_view_39 : decode b_Ref_view 39 = .ok (.iaload, 1) := by decide +kernel
theorem d_Ref_view_40 : decode b_Ref_view 40 = .ok (.istore 5, 2) := by decide +kernel
theorem d_Ref_view_42 : decode b_Ref_view 42 = .ok (.iload 4, 2) := by decide +kernel
theorem d_Ref_view_44 : decode b_Ref_view 44 = .ok (.ifCond .lt 18, 3) := by decide +kernel
theorem d_Ref_view_47 : decode b_Ref_view 47 = .ok (.iload 5, 2) := by decide +kernel
theorem d_Ref_view_49 : decode b_Ref_view 49 = .ok (.ifCond .lt 13, 3) := by decide +kernel
theorem d_Ref_view_52 : decode b_Ref_view 52 = .ok (.aload_n 0, 1) := by decide +kernel
theorem d_Ref_view_53 : decode b_Ref_view 53 = .ok (.iload 5, 2) := by decide +kernel
theorem d_Ref_view_55 : decode b_Ref_view 55 = .ok (.iload_n 2, 1) := by decide +kernel
theorem d_Ref_view_56 : decode b_Ref_view 56 = .ok (.invokevirtual 132, 3) := by decide +kernel
theorem d_Ref_view_59 : decode b_Ref_view 59 = .ok (.ifCond .ne 7, 3) := by decide +kernel
theorem d_Ref_view_62 : decode b_Ref_view 62 = .ok (.iconst 0, 1) := by decide +kernel
theorem d_Ref_view_63 : decode b_Ref_view 63 = .ok (.goto 10, 3) := by decide +kernel
theorem d_Ref_view_66 : decode b_Ref_view 66 = .ok (.aload_n 0, 1) := by decide +kernel
theorem d_Ref_view_67 : decode b_Ref_view 67 = .ok (.iload 4, 2) := by decide +kernel
theorem d_Ref_view_69 : decode b_Ref_view 69 = .ok (.iload_n 3, 1) := by decide +kernel
theorem d_Ref_view_70 : decode b_Ref_view 70 = .ok (.invokevirtual 132, 3) := by decide +kernel
theorem d_Ref_view_73 : decode b_Ref_view 73 = .ok (.istore 6, 2) := by decide +kernel
theorem d_Ref_view_75 : decode b_Ref_view 75 = .ok (.aload_n 0, 1) := by decide +kernel
theorem d_Ref_view_76 : decode b_Ref_view 76 = .ok (.getfield 66, 3) := by decide +kernel
theorem d_Ref_view_79 : decode b_Ref_view 79 = .ok (.bipush 12, 2) := by decide +kernel
theorem d_Ref_view_81 : decode b_Ref_view 81 = .ok (.iload_n 2, 1) := by decide +kernel
theorem d_Ref_view_82 : decode b_Ref_view 82 = .ok (.imul, 1) := by decide +kernel
theorem d_Ref_view_83 : decode b_Ref_view 83 = .ok (.iload_n 3, 1) := by decide +kernel
theorem d_Ref_view_84 : decode b_Ref_view 84 = .ok (.iadd, 1) := by decide +kernel
theorem d_Ref_view_85 : decode b_Ref_view 85 = .ok (.iload 6, 2) := by decide +kernel
theorem d_Ref_view_87 : decode b_Ref_view 87 = .ok (.iastore, 1) := by decide +kernel
theorem d_Ref_view_88 : decode b_Ref_view 88 = .ok (.aload_n 0, 1) := by decide +kernel
theorem d_Ref_view_89 : decode b_Ref_view 89 = .ok (.getfield 69, 3) := by decide +kernel
theorem d_Ref_view_92 : decode b_Ref_view 92 = .ok (.bipush 12, 2) := by decide +kernel
theorem d_Ref_view_94 : decode b_Ref_view 94 = .ok (.iload_n 2, 1) := by decide +kernel
theorem d_Ref_view_95 : decode b_Ref_view 95 = .ok (.imul, 1) := by decide +kernel
theorem d_Ref_view_96 : decode b_Ref_view 96 = .ok (.iload_n 3, 1) := by decide +kernel
theorem d_Ref_view_97 : decode b_Ref_view 97 = .ok (.iadd, 1) := by decide +kernel
theorem d_Ref_view_98 : decode b_Ref_view 98 = .ok (.iload_n 2, 1) := by decide +kernel
theorem d_Ref_view_99 : decode b_Ref_view 99 = .ok (.iload_n 3, 1) := by decide +kernel
theorem d_Ref_view_100 : decode b_Ref_view 100 = .ok (.if_icmp .ne 7, 3) := by decide +kernel
theorem d_Ref_view_103 : decode b_Ref_view 103 = .ok (.iconst 0, 1) := by decide +kernel
theorem d_Ref_view_104 : decode b_Ref_view 104 = .ok (.goto 15, 3) := by decide +kernel
theorem d_Ref_view_107 : decode b_Ref_view 107 = .ok (.iload 6, 2) := by decide +kernel
theorem d_Ref_view_109 : decode b_Ref_view 109 = .ok (.ifCond .le 8, 3) := by decide +kernel
theorem d_Ref_view_112 : decode b_Ref_view 112 = .ok (.iload 6, 2) := by decide +kernel
theorem d_Ref_view_114 : decode b_Ref_view 114 = .ok (.goto 5, 3) := by decide +kernel
theorem d_Ref_view_117 : decode b_Ref_view 117 = .ok (.ldc 135, 2) := by decide +kernel
theorem d_Ref_view_119 : decode b_Ref_view 119 = .ok (.iastore, 1) := by decide +kernel
theorem d_Ref_view_120 : decode b_Ref_view 120 = .ok (.iinc 3 1, 3) := by decide +kernel
theorem d_Ref_view_123 : decode b_Ref_view 123 = .ok (.goto (-113), 3) := by decide +kernel
theorem d_Ref_view_126 : decode b_Ref_view 126 = .ok (.iinc 2 1, 3) := by decide +kernel
theorem d_Ref_view_129 : decode b_Ref_view 129 = .ok (.goto (-127), 3) := by decide +kernel
theorem d_Ref_view_132 : decode b_Ref_view 132 = .ok (.iconst 0, 1) := by decide +kernel
theorem d_Ref_view_133 : decode b_Ref_view 133 = .ok (.istore_n 2, 1) := by decide +kernel
theorem d_Ref_view_134 : decode b_Ref_view 134 = .ok (.iload_n 2, 1) := by decide +kernel
theorem d_Ref_view_135 : decode b_Ref_view 135 = .ok (.bipush 12, 2) := by decide +kernel
theorem d_Ref_view_137 : decode b_Ref_view 137 = .ok (.if_icmp .ge 96, 3) := by decide +kernel
theorem d_Ref_view_140 : decode b_Ref_view 140 = .ok (.iconst 0, 1) := by decide +kernel
theorem d_Ref_view_141 : decode b_Ref_view 141 = .ok (.istore_n 3, 1) := by decide +kernel
theorem d_Ref_view_142 : decode b_Ref_view 142 = .ok (.iload_n 3, 1) := by decide +kernel
theorem d_Ref_view_143 : decode b_Ref_view 143 = .ok (.bipush 12, 2) := by decide +kernel
theorem d_Ref_view_145 : decode b_Ref_view 145 = .ok (.if_icmp .ge 82, 3) := by decide +kernel
theorem d_Ref_view_148 : decode b_Ref_view 148 = .ok (.iconst 0, 1) := by decide +kernel
theorem d_Ref_view_149 : decode b_Ref_view 149 = .ok (.istore 4, 2) := by decide +kernel
theorem d_Ref_view_151 : decode b_Ref_view 151 = .ok (.iload 4, 2) := by decide +kernel
theorem d_Ref_view_153 : decode b_Ref_view 153 = .ok (.bipush 12, 2) := by decide +kernel
theorem d_Ref_view_155 : decode b_Ref_view 155 = .ok (.if_icmp .ge 66, 3) := by decide +kernel
theorem d_Ref_view_158 : decode b_Ref_view 158 = .ok (.aload_n 0, 1) := by decide +kernel
theorem d_Ref_view_159 : decode b_Ref_view 159 = .ok (.getfield 69, 3) := by decide +kernel
theorem d_Ref_view_162 : decode b_Ref_view 162 = .ok (.bipush 12, 2) := by decide +kernel
theorem d_Ref_view_164 : decode b_Ref_view 164 = .ok (.iload_n 3, 1) := by decide +kernel
theorem d_Ref_view_165 : decode b_Ref_view 165 = .ok (.imul, 1) := by decide +kernel
theorem d_Ref_view_166 : decode b_Ref_view 166 = .ok (.iload_n 2, 1) := by decide +kernel
theorem d_Ref_view_167 : decode b_Ref_view 167 = .ok (.iadd, 1) := by decide +kernel
theorem d_Ref_view_168 : decode b_Ref_view 168 = .ok (.iaload, 1) := by decide +kernel
theorem d_Ref_view_169 : decode b_Ref_view 169 = .ok (.aload_n 0, 1) := by decide +kernel
theorem d_Ref_view_170 : decode b_Ref_view 170 = .ok (.getfield 69, 3) := by decide +kernel
theorem d_Ref_view_173 : decode b_Ref_view 173 = .ok (.bipush 12, 2) := by decide +kernel
theorem d_Ref_view_175 : decode b_Ref_view 175 = .ok (.iload_n 2, 1) := by decide +kernel
theorem d_Ref_view_176 : decode b_Ref_view 176 = .ok (.imul, 1) := by decide +kernel
theorem d_Ref_view_177 : decode b_Ref_view 177 = .ok (.iload 4, 2) := by decide +kernel
theorem d_Ref_view_179 : decode b_Ref_view 179 = .ok (.iadd, 1) := by decide +kernel
theorem d_Ref_view_180 : decode b_Ref_view 180 = .ok (.iaload, 1) := by decide +kernel
theorem d_Ref_view_181 : decode b_Ref_view 181 = .ok (.iadd, 1) := by decide +kernel
theorem d_Ref_view_182 : decode b_Ref_view 182 = .ok (.istore 5, 2) := by decide +kernel
theorem d_Ref_view_184 : decode b_Ref_view 184 = .ok (.iload 5, 2) := by decide +kernel
theorem d_Ref_view_186 : decode b_Ref_view 186 = .ok (.aload_n 0, 1) := by decide +kernel
theorem d_Ref_view_187 : decode b_Ref_view 187 = .ok (.getfield 69, 3) := by decide +kernel
theorem d_Ref_view_190 : decode b_Ref_view 190 = .ok (.bipush 12, 2) := by decide +kernel
theorem d_Ref_view_192 : decode b_Ref_view 192 = .ok (.iload_n 3, 1) := by decide +kernel
theorem d_Ref_view_193 : decode b_Ref_view 193 = .ok (.imul, 1) := by decide +kernel
theorem d_Ref_view_194 : decode b_Ref_view 194 = .ok (.iload 4, 2) := by decide +kernel
theorem d_Ref_view_196 : decode b_Ref_view 196 = .ok (.iadd, 1) := by decide +kernel
theorem d_Ref_view_197 : decode b_Ref_view 197 = .ok (.iaload, 1) := by decide +kernel
theorem d_Ref_view_198 : decode b_Ref_view 198 = .ok (.if_icmp .ge 17, 3) := by decide +kernel
theorem d_Ref_view_201 : decode b_Ref_view 201 = .ok (.aload_n 0, 1) := by decide +kernel
theorem d_Ref_view_202 : decode b_Ref_view 202 = .ok (.getfield 69, 3) := by decide +kernel
theorem d_Ref_view_205 : decode b_Ref_view 205 = .ok (.bipush 12, 2) := by decide +kernel
theorem d_Ref_view_207 : decode b_Ref_view 207 = .ok (.iload_n 3, 1) := by decide +kernel
theorem d_Ref_view_208 : decode b_Ref_view 208 = .ok (.imul, 1) := by decide +kernel
theorem d_Ref_view_209 : decode b_Ref_view 209 = .ok (.iload 4, 2) := by decide +kernel
theorem d_Ref_view_211 : decode b_Ref_view 211 = .ok (.iadd, 1) := by decide +kernel
theorem d_Ref_view_212 : decode b_Ref_view 212 = .ok (.iload 5, 2) := by decide +kernel
theorem d_Ref_view_214 : decode b_Ref_view 214 = .ok (.iastore, 1) := by decide +kernel
theorem d_Ref_view_215 : decode b_Ref_view 215 = .ok (.iinc 4 1, 3) := by decide +kernel
theorem d_Ref_view_218 : decode b_Ref_view 218 = .ok (.goto (-67), 3) := by decide +kernel
theorem d_Ref_view_221 : decode b_Ref_view 221 = .ok (.iinc 3 1, 3) := by decide +kernel
theorem d_Ref_view_224 : decode b_Ref_view 224 = .ok (.goto (-82), 3) := by decide +kernel
theorem d_Ref_view_227 : decode b_Ref_view 227 = .ok (.iinc 2 1, 3) := by decide +kernel
theorem d_Ref_view_230 : decode b_Ref_view 230 = .ok (.goto (-96), 3) := by decide +kernel
theorem d_Ref_view_233 : decode b_Ref_view 233 = .ok (.return_, 1) := by decide +kernel
theorem d_Ref_nextHop_0 : decode b_Ref_nextHop 0 = .ok (.aload_n 0, 1) := by decide +kernel
theorem d_Ref_nextHop_1 : decode b_Ref_nextHop 1 = .ok (.getfield 69, 3) := by decide +kernel
theorem d_Ref_nextHop_4 : decode b_Ref_nextHop 4 = .ok (.bipush 12, 2) := by decide +kernel
theorem d_Ref_nextHop_6 : decode b_Ref_nextHop 6 = .ok (.iload_n 1, 1) := by decide +kernel
theorem d_Ref_nextHop_7 : decode b_Ref_nextHop 7 = .ok (.imul, 1) := by decide +kernel
theorem d_Ref_nextHop_8 : decode b_Ref_nextHop 8 = .ok (.iload_n 2, 1) := by decide +kernel
theorem d_Ref_nextHop_9 : decode b_Ref_nextHop 9 = .ok (.iadd, 1) := by decide +kernel
theorem d_Ref_nextHop_10 : decode b_Ref_nextHop 10 = .ok (.iaload, 1) := by decide +kernel
theorem d_Ref_nextHop_11 : decode b_Ref_nextHop 11 = .ok (.ldc 135, 2) := by decide +kernel
theorem d_Ref_nextHop_13 : decode b_Ref_nextHop 13 = .ok (.if_icmp .lt 5, 3) := by decide +kernel
theorem d_Ref_nextHop_16 : decode b_Ref_nextHop 16 = .ok (.iconst (-1), 1) := by decide +kernel
theorem d_Ref_nextHop_17 : decode b_Ref_nextHop 17 = .ok (.ireturn, 1) := by decide +kernel
theorem d_Ref_nextHop_18 : decode b_Ref_nextHop 18 = .ok (.iconst 0, 1) := by decide +kernel
theorem d_Ref_nextHop_19 : decode b_Ref_nextHop 19 = .ok (.istore_n 3, 1) := by decide +kernel
theorem d_Ref_nextHop_20 : decode b_Ref_nextHop 20 = .ok (.iload_n 3, 1) := by decide +kernel
theorem d_Ref_nextHop_21 : decode b_Ref_nextHop 21 = .ok (.bipush 12, 2) := by decide +kernel
theorem d_Ref_nextHop_23 : decode b_Ref_nextHop 23 = .ok (.if_icmp .ge 62, 3) := by decide +kernel
theorem d_Ref_nextHop_26 : decode b_Ref_nextHop 26 = .ok (.aload_n 0, 1) := by decide +kernel
theorem d_Ref_nextHop_27 : decode b_Ref_nextHop 27 = .ok (.getfield 66, 3) := by decide +kernel
theorem d_Ref_nextHop_30 : decode b_Ref_nextHop 30 = .ok (.bipush 12, 2) := by decide +kernel
theorem d_Ref_nextHop_32 : decode b_Ref_nextHop 32 = .ok (.iload_n 1, 1) := by decide +kernel
theorem d_Ref_nextHop_33 : decode b_Ref_nextHop 33 = .ok (.imul, 1) := by decide +kernel
theorem d_Ref_nextHop_34 : decode b_Ref_nextHop 34 = .ok (.iload_n 3, 1) := by decide +kernel
theorem d_Ref_nextHop_35 : decode b_Ref_nextHop 35 = .ok (.iadd, 1) := by decide +kernel
theorem d_Ref_nextHop_36 : decode b_Ref_nextHop 36 = .ok (.iaload, 1) := by decide +kernel
theorem d_Ref_nextHop_37 : decode b_Ref_nextHop 37 = .ok (.ifCond .le 42, 3) := by decide +kernel
theorem d_Ref_nextHop_40 : decode b_Ref_nextHop 40 = .ok (.aload_n 0, 1) := by decide +kernel
theorem d_Ref_nextHop_41 : decode b_Ref_nextHop 41 = .ok (.getfield 66, 3) := by decide +kernel
theorem d_Ref_nextHop_44 : decode b_Ref_nextHop 44 = .ok (.bipush 12, 2) := by decide +kernel
theorem d_Ref_nextHop_46 : decode b_Ref_nextHop 46 = .ok (.iload_n 1, 1) := by decide +kernel
theorem d_Ref_nextHop_47 : decode b_Ref_nextHop 47 = .ok (.imul, 1) := by decide +kernel
theorem d_Ref_nextHop_48 : decode b_Ref_nextHop 48 = .ok (.iload_n 3, 1) := by decide +kernel
theorem d_Ref_nextHop_49 : decode b_Ref_nextHop 49 = .ok (.iadd, 1) := by decide +kernel
theorem d_Ref_nextHop_50 : decode b_Ref_nextHop 50 = .ok (.iaload, 1) := by decide +kernel
theorem d_Ref_nextHop_51 : decode b_Ref_nextHop 51 = .ok (.aload_n 0, 1) := by decide +kernel
theorem d_Ref_nextHop_52 : decode b_Ref_nextHop 52 = .ok (.getfield 69, 3) := by decide +kernel
theorem d_Ref_nextHop_55 : decode b_Ref_nextHop 55 = .ok (.bipush 12, 2) := by decide +kernel
theorem d_Ref_nextHop_57 : decode b_Ref_nextHop 57 = .ok (.iload_n 3, 1) := by decide +kernel
theorem d_Ref_nextHop_58 : decode b_Ref_nextHop 58 = .ok (.imul, 1) := by decide +kernel
theorem d_Ref_nextHop_59 : decode b_Ref_nextHop 59 = .ok (.iload_n 2, 1) := by decide +kernel
theorem d_Ref_nextHop_60 : decode b_Ref_nextHop 60 = .ok (.iadd, 1) := by decide +kernel
theorem d_Ref_nextHop_61 : decode b_Ref_nextHop 61 = .ok (.iaload, 1) := by decide +kernel
theorem d_Ref_nextHop_62 : decode b_Ref_nextHop 62 = .ok (.iadd, 1) := by decide +kernel
theorem d_Ref_nextHop_63 : decode b_Ref_nextHop 63 = .ok (.aload_n 0, 1) := by decide +kernel
theorem d_Ref_nextHop_64 : decode b_Ref_nextHop 64 = .ok (.getfield 69, 3) := by decide +kernel
theorem d_Ref_nextHop_67 : decode b_Ref_nextHop 67 = .ok (.bipush 12, 2) := by decide +kernel
theorem d_Ref_nextHop_69 : decode b_Ref_nextHop 69 = .ok (.iload_n 1, 1) := by decide +kernel
theorem d_Ref_nextHop_70 : decode b_Ref_nextHop 70 = .ok (.imul, 1) := by decide +kernel
theorem d_Ref_nextHop_71 : decode b_Ref_nextHop 71 = .ok (.iload_n 2, 1) := by decide +kernel
theorem d_Ref_nextHop_72 : decode b_Ref_nextHop 72 = .ok (.iadd, 1) := by decide +kernel
theorem d_Ref_nextHop_73 : decode b_Ref_nextHop 73 = .ok (.iaload, 1) := by decide +kernel
theorem d_Ref_nextHop_74 : decode b_Ref_nextHop 74 = .ok (.if_icmp .ne 5, 3) := by decide +kernel
theorem d_Ref_nextHop_77 : decode b_Ref_nextHop 77 = .ok (.iload_n 3, 1) := by decide +kernel
theorem d_Ref_nextHop_78 : decode b_Ref_nextHop 78 = .ok (.ireturn, 1) := by decide +kernel
theorem d_Ref_nextHop_79 : decode b_Ref_nextHop 79 = .ok (.iinc 3 1, 3) := by decide +kernel
theorem d_Ref_nextHop_82 : decode b_Ref_nextHop 82 = .ok (.goto (-62), 3) := by decide +kernel
theorem d_Ref_nextHop_85 : decode b_Ref_nextHop 85 = .ok (.iconst (-1), 1) := by decide +kernel
theorem d_Ref_nextHop_86 : decode b_Ref_nextHop 86 = .ok (.ireturn, 1) := by decide +kernel
theorem d_Ref_maskOf_0 : decode b_Ref_maskOf 0 = .ok (.iconst 0, 1) := by decide +kernel
theorem d_Ref_maskOf_1 : decode b_Ref_maskOf 1 = .ok (.istore_n 3, 1) := by decide +kernel
theorem d_Ref_maskOf_2 : decode b_Ref_maskOf 2 = .ok (.iconst 0, 1) := by decide +kernel
theorem d_Ref_maskOf_3 : decode b_Ref_maskOf 3 = .ok (.istore 4, 2) := by decide +kernel
theorem d_Ref_maskOf_5 : decode b_Ref_maskOf 5 = .ok (.iload 4, 2) := by decide +kernel
theorem d_Ref_maskOf_7 : decode b_Ref_maskOf 7 = .ok (.bipush 12, 2) := by decide +kernel
theorem d_Ref_maskOf_9 : decode b_Ref_maskOf 9 = .ok (.if_icmp .ge 48, 3) := by decide +kernel
theorem d_Ref_maskOf_12 : decode b_Ref_maskOf 12 = .ok (.iload 4, 2) := by decide +kernel
theorem d_Ref_maskOf_14 : decode b_Ref_maskOf 14 = .ok (.iload_n 1, 1) := by decide +kernel
theorem d_Ref_maskOf_15 : decode b_Ref_maskOf 15 = .ok (.if_icmp .eq 36, 3) := by decide +kernel
theorem d_Ref_maskOf_18 : decode b_Ref_maskOf 18 = .ok (.aload_n 0, 1) := by decide +kernel
theorem d_Ref_maskOf_19 : decode b_Ref_maskOf 19 = .ok (.getfield 7, 3) := by decide +kernel
theorem d_Ref_maskOf_22 : decode b_Ref_maskOf 22 = .ok (.iload 4, 2) := by decide +kernel
theorem d_Ref_maskOf_24 : decode b_Ref_maskOf 24 = .ok (.iaload, 1) := by decide +kernel
theorem d_Ref_maskOf_25 : decode b_Ref_maskOf 25 = .ok (.ifCond .lt 26, 3) := by decide +kernel
theorem d_Ref_maskOf_28 : decode b_Ref_maskOf 28 = .ok (.aload_n 0, 1) := by decide +kernel
theorem d_Ref_maskOf_29 : decode b_Ref_maskOf 29 = .ok (.iload_n 1, 1) := by decide +kernel
theorem d_Ref_maskOf_30 : decode b_Ref_maskOf 30 = .ok (.iload 4, 2) := by decide +kernel
theorem d_Ref_maskOf_32 : decode b_Ref_maskOf 32 = .ok (.invokevirtual 136, 3) := by decide +kernel
theorem d_Ref_maskOf_35 : decode b_Ref_maskOf 35 = .ok (.iload_n 2, 1) := by decide +kernel
theorem d_Ref_maskOf_36 : decode b_Ref_maskOf 36 = .ok (.if_icmp .ne 15, 3) := by decide +kernel
theorem d_Ref_maskOf_39 : decode b_Ref_maskOf 39 = .ok (.iload_n 3, 1) := by decide +kernel
theorem d_Ref_maskOf_40 : decode b_Ref_maskOf 40 = .ok (.iconst 1, 1) := by decide +kernel
theorem d_Ref_maskOf_41 : decode b_Ref_maskOf 41 = .ok (.aload_n 0, 1) := by decide +kernel
theorem d_Ref_maskOf_42 : decode b_Ref_maskOf 42 = .ok (.getfield 7, 3) := by decide +kernel
theorem d_Ref_maskOf_45 : decode b_Ref_maskOf 45 = .ok (.iload 4, 2) := by decide +kernel
theorem d_Ref_maskOf_47 : decode b_Ref_maskOf 47 = .ok (.iaload, 1) := by decide +kernel
theorem d_Ref_maskOf_48 : decode b_Ref_maskOf 48 = .ok (.ishl, 1) := by decide +kernel
theorem d_Ref_maskOf_49 : decode b_Ref_maskOf 49 = .ok (.ior, 1) := by decide +kernel
theorem d_Ref_maskOf_50 : decode b_Ref_maskOf 50 = .ok (.istore_n 3, 1) := by decide +kernel
theorem d_Ref_maskOf_51 : decode b_Ref_maskOf 51 = .ok (.iinc 4 1, 3) := by decide +kernel
theorem d_Ref_maskOf_54 : decode b_Ref_maskOf 54 = .ok (.goto (-49), 3) := by decide +kernel
theorem d_Ref_maskOf_57 : decode b_Ref_maskOf 57 = .ok (.iload_n 3, 1) := by decide +kernel
theorem d_Ref_maskOf_58 : decode b_Ref_maskOf 58 = .ok (.ireturn, 1) := by decide +kernel
theorem d_Ref_mask_0 : decode b_Ref_mask 0 = .ok (.aload_n 0, 1) := by decide +kernel
theorem d_Ref_mask_1 : decode b_Ref_mask 1 = .ok (.iload_n 1, 1) := by decide +kernel
theorem d_Ref_mask_2 : decode b_Ref_mask 2 = .ok (.invokestatic 82, 3) := by decide +kernel
theorem d_Ref_mask_5 : decode b_Ref_mask 5 = .ok (.ifCond .eq 14, 3) := by decide +kernel
theorem d_Ref_mask_8 : decode b_Ref_mask 8 = .ok (.iload_n 2, 1) := by decide +kernel
theorem d_Ref_mask_9 : decode b_Ref_mask 9 = .ok (.invokestatic 82, 3) := by decide +kernel
theorem d_Ref_mask_12 : decode b_Ref_mask 12 = .ok (.ifCond .eq 7, 3) := by decide +kernel
theorem d_Ref_mask_15 : decode b_Ref_mask 15 = .ok (.iconst 0, 1) := by decide +kernel
theorem d_Ref_mask_16 : decode b_Ref_mask 16 = .ok (.goto 4, 3) := by decide +kernel
theorem d_Ref_mask_19 : decode b_Ref_mask 19 = .ok (.iconst 1, 1) := by decide +kernel
theorem d_Ref_mask_20 : decode b_Ref_mask 20 = .ok (.putfield 72, 3) := by decide +kernel
theorem d_Ref_mask_23 : decode b_Ref_mask 23 = .ok (.aload_n 0, 1) := by decide +kernel
theorem d_Ref_mask_24 : decode b_Ref_mask 24 = .ok (.getfield 72, 3) := by decide +kernel
theorem d_Ref_mask_27 : decode b_Ref_mask 27 = .ok (.ifCond .le 5, 3) := by decide +kernel
theorem d_Ref_mask_30 : decode b_Ref_mask 30 = .ok (.iconst 0, 1) := by decide +kernel
theorem d_Ref_mask_31 : decode b_Ref_mask 31 = .ok (.ireturn, 1) := by decide +kernel
theorem d_Ref_mask_32 : decode b_Ref_mask 32 = .ok (.aload_n 0, 1) := by decide +kernel
theorem d_Ref_mask_33 : decode b_Ref_mask 33 = .ok (.iload_n 1, 1) := by decide +kernel
theorem d_Ref_mask_34 : decode b_Ref_mask 34 = .ok (.invokevirtual 139, 3) := by decide +kernel
theorem d_Ref_mask_37 : decode b_Ref_mask 37 = .ok (.aload_n 0, 1) := by decide +kernel
theorem d_Ref_mask_38 : decode b_Ref_mask 38 = .ok (.iload_n 1, 1) := by decide +kernel
theorem d_Ref_mask_39 : decode b_Ref_mask 39 = .ok (.iload_n 2, 1) := by decide +kernel
theorem d_Ref_mask_40 : decode b_Ref_mask 40 = .ok (.invokevirtual 142, 3) := by decide +kernel
theorem d_Ref_mask_43 : decode b_Ref_mask 43 = .ok (.ireturn, 1) := by decide +kernel
theorem d_Ref_distance_0 : decode b_Ref_distance 0 = .ok (.aload_n 0, 1) := by decide +kernel
theorem d_Ref_distance_1 : decode b_Ref_distance 1 = .ok (.iload_n 1, 1) := by decide +kernel
theorem d_Ref_distance_2 : decode b_Ref_distance 2 = .ok (.invokestatic 82, 3) := by decide +kernel
theorem d_Ref_distance_5 : decode b_Ref_distance 5 = .ok (.ifCond .eq 14, 3) := by decide +kernel
theorem d_Ref_distance_8 : decode b_Ref_distance 8 = .ok (.iload_n 2, 1) := by decide +kernel
theorem d_Ref_distance_9 : decode b_Ref_distance 9 = .ok (.invokestatic 82, 3) := by decide +kernel
theorem d_Ref_distance_12 : decode b_Ref_distance 12 = .ok (.ifCond .eq 7, 3) := by decide +kernel
theorem d_Ref_distance_15 : decode b_Ref_distance 15 = .ok (.iconst 0, 1) := by decide +kernel
theorem d_Ref_distance_16 : decode b_Ref_distance 16 = .ok (.goto 4, 3) := by decide +kernel
theorem d_Ref_distance_19 : decode b_Ref_distance 19 = .ok (.iconst 1, 1) := by decide +kernel
theorem d_Ref_distance_20 : decode b_Ref_distance 20 = .ok (.putfield 72, 3) := by decide +kernel
theorem d_Ref_distance_23 : decode b_Ref_distance 23 = .ok (.aload_n 0, 1) := by decide +kernel
theorem d_Ref_distance_24 : decode b_Ref_distance 24 = .ok (.getfield 72, 3) := by decide +kernel
theorem d_Ref_distance_27 : decode b_Ref_distance 27 = .ok (.ifCond .le 5, 3) := by decide +kernel
theorem d_Ref_distance_30 : decode b_Ref_distance 30 = .ok (.iconst 0, 1) := by decide +kernel
theorem d_Ref_distance_31 : decode b_Ref_distance 31 = .ok (.ireturn, 1) := by decide +kernel
theorem d_Ref_distance_32 : decode b_Ref_distance 32 = .ok (.aload_n 0, 1) := by decide +kernel
theorem d_Ref_distance_33 : decode b_Ref_distance 33 = .ok (.iload_n 1, 1) := by decide +kernel
theorem d_Ref_distance_34 : decode b_Ref_distance 34 = .ok (.invokevirtual 139, 3) := by decide +kernel
theorem d_Ref_distance_37 : decode b_Ref_distance 37 = .ok (.aload_n 0, 1) := by decide +kernel
theorem d_Ref_distance_38 : decode b_Ref_distance 38 = .ok (.getfield 69, 3) := by decide +kernel
theorem d_Ref_distance_41 : decode b_Ref_distance 41 = .ok (.bipush 12, 2) := by decide +kernel
theorem d_Ref_distance_43 : decode b_Ref_distance 43 = .ok (.iload_n 1, 1) := by decide +kernel
theorem d_Ref_distance_44 : decode b_Ref_distance 44 = .ok (.imul, 1) := by decide +kernel
theorem d_Ref_distance_45 : decode b_Ref_distance 45 = .ok (.iload_n 2, 1) := by decide +kernel
theorem d_Ref_distance_46 : decode b_Ref_distance 46 = .ok (.iadd, 1) := by decide +kernel
theorem d_Ref_distance_47 : decode b_Ref_distance 47 = .ok (.iaload, 1) := by decide +kernel
theorem d_Ref_distance_48 : decode b_Ref_distance 48 = .ok (.ldc 135, 2) := by decide +kernel
theorem d_Ref_distance_50 : decode b_Ref_distance 50 = .ok (.if_icmp .lt 7, 3) := by decide +kernel
theorem d_Ref_distance_53 : decode b_Ref_distance 53 = .ok (.iconst (-1), 1) := by decide +kernel
theorem d_Ref_distance_54 : decode b_Ref_distance 54 = .ok (.goto 14, 3) := by decide +kernel
theorem d_Ref_distance_57 : decode b_Ref_distance 57 = .ok (.aload_n 0, 1) := by decide +kernel
theorem d_Ref_distance_58 : decode b_Ref_distance 58 = .ok (.getfield 69, 3) := by decide +kernel
theorem d_Ref_distance_61 : decode b_Ref_distance 61 = .ok (.bipush 12, 2) := by decide +kernel
theorem d_Ref_distance_63 : decode b_Ref_distance 63 = .ok (.iload_n 1, 1) := by decide +kernel
theorem d_Ref_distance_64 : decode b_Ref_distance 64 = .ok (.imul, 1) := by decide +kernel
theorem d_Ref_distance_65 : decode b_Ref_distance 65 = .ok (.iload_n 2, 1) := by decide +kernel
theorem d_Ref_distance_66 : decode b_Ref_distance 66 = .ok (.iadd, 1) := by decide +kernel
theorem d_Ref_distance_67 : decode b_Ref_distance 67 = .ok (.iaload, 1) := by decide +kernel
theorem d_Ref_distance_68 : decode b_Ref_distance 68 = .ok (.ireturn, 1) := by decide +kernel
theorem d_Ref_alternate_0 : decode b_Ref_alternate 0 = .ok (.aload_n 0, 1) := by decide +kernel
theorem d_Ref_alternate_1 : decode b_Ref_alternate 1 = .ok (.iload_n 1, 1) := by decide +kernel
theorem d_Ref_alternate_2 : decode b_Ref_alternate 2 = .ok (.invokestatic 82, 3) := by decide +kernel
theorem d_Ref_alternate_5 : decode b_Ref_alternate 5 = .ok (.ifCond .eq 14, 3) := by decide +kernel
theorem d_Ref_alternate_8 : decode b_Ref_alternate 8 = .ok (.iload_n 2, 1) := by decide +kernel
theorem d_Ref_alternate_9 : decode b_Ref_alternate 9 = .ok (.invokestatic 82, 3) := by decide +kernel
theorem d_Ref_alternate_12 : decode b_Ref_alternate 12 = .ok (.ifCond .eq 7, 3) := by decide +kernel
theorem d_Ref_alternate_15 : decode b_Ref_alternate 15 = .ok (.iconst 0, 1) := by decide +kernel
theorem d_Ref_alternate_16 : decode b_Ref_alternate 16 = .ok (.goto 4, 3) := by decide +kernel
theorem d_Ref_alternate_19 : decode b_Ref_alternate 19 = .ok (.iconst 1, 1) := by decide +kernel
theorem d_Ref_alternate_20 : decode b_Ref_alternate 20 = .ok (.putfield 72, 3) := by decide +kernel
theorem d_Ref_alternate_23 : decode b_Ref_alternate 23 = .ok (.aload_n 0, 1) := by decide +kernel
theorem d_Ref_alternate_24 : decode b_Ref_alternate 24 = .ok (.getfield 72, 3) := by decide +kernel
theorem d_Ref_alternate_27 : decode b_Ref_alternate 27 = .ok (.ifCond .gt 8, 3) := by decide +kernel
theorem d_Ref_alternate_30 : decode b_Ref_alternate 30 = .ok (.iload_n 1, 1) := by decide +kernel
theorem d_Ref_alternate_31 : decode b_Ref_alternate 31 = .ok (.iload_n 2, 1) := by decide +kernel
theorem d_Ref_alternate_32 : decode b_Ref_alternate 32 = .ok (.if_icmp .ne 16, 3) := by decide +kernel
theorem d_Ref_alternate_35 : decode b_Ref_alternate 35 = .ok (.aload_n 0, 1) := by decide +kernel
theorem d_Ref_alternate_36 : decode b_Ref_alternate 36 = .ok (.getfield 72, 3) := by decide +kernel
theorem d_Ref_alternate_39 : decode b_Ref_alternate 39 = .ok (.ifCond .le 7, 3) := by decide +kernel
theorem d_Ref_alternate_42 : decode b_Ref_alternate 42 = .ok (.iconst 0, 1) := by decide +kernel
theorem d_Ref_alternate_43 : decode b_Ref_alternate 43 = .ok (.goto 4, 3) := by decide +kernel
theorem d_Ref_alternate_46 : decode b_Ref_alternate 46 = .ok (.iconst (-1), 1) := by decide +kernel
theorem d_Ref_alternate_47 : decode b_Ref_alternate 47 = .ok (.ireturn, 1) := by decide +kernel
theorem d_Ref_alternate_48 : decode b_Ref_alternate 48 = .ok (.aload_n 0, 1) := by decide +kernel
theorem d_Ref_alternate_49 : decode b_Ref_alternate 49 = .ok (.iload_n 1, 1) := by decide +kernel
theorem d_Ref_alternate_50 : decode b_Ref_alternate 50 = .ok (.invokevirtual 139, 3) := by decide +kernel
theorem d_Ref_alternate_53 : decode b_Ref_alternate 53 = .ok (.aload_n 0, 1) := by decide +kernel
theorem d_Ref_alternate_54 : decode b_Ref_alternate 54 = .ok (.iload_n 1, 1) := by decide +kernel
theorem d_Ref_alternate_55 : decode b_Ref_alternate 55 = .ok (.iload_n 2, 1) := by decide +kernel
theorem d_Ref_alternate_56 : decode b_Ref_alternate 56 = .ok (.invokevirtual 136, 3) := by decide +kernel
theorem d_Ref_alternate_59 : decode b_Ref_alternate 59 = .ok (.istore_n 3, 1) := by decide +kernel
theorem d_Ref_alternate_60 : decode b_Ref_alternate 60 = .ok (.iload_n 3, 1) := by decide +kernel
theorem d_Ref_alternate_61 : decode b_Ref_alternate 61 = .ok (.ifCond .ge 5, 3) := by decide +kernel
theorem d_Ref_alternate_64 : decode b_Ref_alternate 64 = .ok (.iconst (-1), 1) := by decide +kernel
theorem d_Ref_alternate_65 : decode b_Ref_alternate 65 = .ok (.ireturn, 1) := by decide +kernel
theorem d_Ref_alternate_66 : decode b_Ref_alternate 66 = .ok (.iconst 0, 1) := by decide +kernel
theorem d_Ref_alternate_67 : decode b_Ref_alternate 67 = .ok (.istore 4, 2) := by decide +kernel
theorem d_Ref_alternate_69 : decode b_Ref_alternate 69 = .ok (.iload 4, 2) := by decide +kernel
theorem d_Ref_alternate_71 : decode b_Ref_alternate 71 = .ok (.bipush 12, 2) := by decide +kernel
theorem d_Ref_alternate_73 : decode b_Ref_alternate 73 = .ok (.if_icmp .ge 75, 3) := by decide +kernel
theorem d_Ref_alternate_76 : decode b_Ref_alternate 76 = .ok (.aload_n 0, 1) := by decide +kernel
theorem d_Ref_alternate_77 : decode b_Ref_alternate 77 = .ok (.getfield 66, 3) := by decide +kernel
theorem d_Ref_alternate_80 : decode b_Ref_alternate 80 = .ok (.bipush 12, 2) := by decide +kernel
theorem d_Ref_alternate_82 : decode b_Ref_alternate 82 = .ok (.iload_n 1, 1) := by decide +kernel
theorem d_Ref_alternate_83 : decode b_Ref_alternate 83 = .ok (.imul, 1) := by decide +kernel
theorem d_Ref_alternate_84 : decode b_Ref_alternate 84 = .ok (.iload 4, 2) := by decide +kernel
theorem d_Ref_alternate_86 : decode b_Ref_alternate 86 = .ok (.iadd, 1) := by decide +kernel
theorem d_Ref_alternate_87 : decode b_Ref_alternate 87 = .ok (.iaload, 1) := by decide +kernel
theorem d_Ref_alternate_88 : decode b_Ref_alternate 88 = .ok (.ifCond .eq 54, 3) := by decide +kernel
theorem d_Ref_alternate_91 : decode b_Ref_alternate 91 = .ok (.iload 4, 2) := by decide +kernel
theorem d_Ref_alternate_93 : decode b_Ref_alternate 93 = .ok (.iload_n 3, 1) := by decide +kernel
theorem d_Ref_alternate_94 : decode b_Ref_alternate 94 = .ok (.if_icmp .ne 6, 3) := by decide +kernel
theorem d_Ref_alternate_97 : decode b_Ref_alternate 97 = .ok (.goto 45, 3) := by decide +kernel
theorem d_Ref_alternate_100 : decode b_Ref_alternate 100 = .ok (.aload_n 0, 1) := by decide +kernel
theorem d_Ref_alternate_101 : decode b_Ref_alternate 101 = .ok (.getfield 69, 3) := by decide +kernel
theorem d_Ref_alternate_104 : decode b_Ref_alternate 104 = .ok (.bipush 12, 2) := by decide +kernel
theorem d_Ref_alternate_106 : decode b_Ref_alternate 106 = .ok (.iload 4, 2) := by decide +kernel
theorem d_Ref_alternate_108 : decode b_Ref_alternate 108 = .ok (.imul, 1) := by decide +kernel
theorem d_Ref_alternate_109 : decode b_Ref_alternate 109 = .ok (.iload_n 2, 1) := by decide +kernel
theorem d_Ref_alternate_110 : decode b_Ref_alternate 110 = .ok (.iadd, 1) := by decide +kernel
theorem d_Ref_alternate_111 : decode b_Ref_alternate 111 = .ok (.iaload, 1) := by decide +kernel
theorem d_Ref_alternate_112 : decode b_Ref_alternate 112 = .ok (.aload_n 0, 1) := by decide +kernel
theorem d_Ref_alternate_113 : decode b_Ref_alternate 113 = .ok (.getfield 69, 3) := by decide +kernel
theorem d_Ref_alternate_116 : decode b_Ref_alternate 116 = .ok (.bipush 12, 2) := by decide +kernel
theorem d_Ref_alternate_118 : decode b_Ref_alternate 118 = .ok (.iload 4, 2) := by decide +kernel
theorem d_Ref_alternate_120 : decode b_Ref_alternate 120 = .ok (.imul, 1) := by decide +kernel
theorem d_Ref_alternate_121 : decode b_Ref_alternate 121 = .ok (.iload_n 1, 1) := by decide +kernel
theorem d_Ref_alternate_122 : decode b_Ref_alternate 122 = .ok (.iadd, 1) := by decide +kernel
theorem d_Ref_alternate_123 : decode b_Ref_alternate 123 = .ok (.iaload, 1) := by decide +kernel
theorem d_Ref_alternate_124 : decode b_Ref_alternate 124 = .ok (.aload_n 0, 1) := by decide +kernel
theorem d_Ref_alternate_125 : decode b_Ref_alternate 125 = .ok (.getfield 69, 3) := by decide +kernel
theorem d_Ref_alternate_128 : decode b_Ref_alternate 128 = .ok (.bipush 12, 2) := by decide +kernel
theorem d_Ref_alternate_130 : decode b_Ref_alternate 130 = .ok (.iload_n 1, 1) := by decide +kernel
theorem d_Ref_alternate_131 : decode b_Ref_alternate 131 = .ok (.imul, 1) := by decide +kernel
theorem d_Ref_alternate_132 : decode b_Ref_alternate 132 = .ok (.iload_n 2, 1) := by decide +kernel
theorem d_Ref_alternate_133 : decode b_Ref_alternate 133 = .ok (.iadd, 1) := by decide +kernel
theorem d_Ref_alternate_134 : decode b_Ref_alternate 134 = .ok (.iaload, 1) := by decide +kernel
theorem d_Ref_alternate_135 : decode b_Ref_alternate 135 = .ok (.iadd, 1) := by decide +kernel
theorem d_Ref_alternate_136 : decode b_Ref_alternate 136 = .ok (.if_icmp .ge 6, 3) := by decide +kernel
theorem d_Ref_alternate_139 : decode b_Ref_alternate 139 = .ok (.iload 4, 2) := by decide +kernel
theorem d_Ref_alternate_141 : decode b_Ref_alternate 141 = .ok (.ireturn, 1) := by decide +kernel
theorem d_Ref_alternate_142 : decode b_Ref_alternate 142 = .ok (.iinc 4 1, 3) := by decide +kernel
theorem d_Ref_alternate_145 : decode b_Ref_alternate 145 = .ok (.goto (-76), 3) := by decide +kernel
theorem d_Ref_alternate_148 : decode b_Ref_alternate 148 = .ok (.iconst (-1), 1) := by decide +kernel
theorem d_Ref_alternate_149 : decode b_Ref_alternate 149 = .ok (.ireturn, 1) := by decide +kernel
theorem d_Ref_stored_0 : decode b_Ref_stored 0 = .ok (.aload_n 0, 1) := by decide +kernel
theorem d_Ref_stored_1 : decode b_Ref_stored 1 = .ok (.iload_n 1, 1) := by decide +kernel
theorem d_Ref_stored_2 : decode b_Ref_stored 2 = .ok (.invokestatic 82, 3) := by decide +kernel
theorem d_Ref_stored_5 : decode b_Ref_stored 5 = .ok (.ifCond .eq 14, 3) := by decide +kernel
theorem d_Ref_stored_8 : decode b_Ref_stored 8 = .ok (.iload_n 2, 1) := by decide +kernel
theorem d_Ref_stored_9 : decode b_Ref_stored 9 = .ok (.invokestatic 82, 3) := by decide +kernel
theorem d_Ref_stored_12 : decode b_Ref_stored 12 = .ok (.ifCond .eq 7, 3) := by decide +kernel
theorem d_Ref_stored_15 : decode b_Ref_stored 15 = .ok (.iconst 0, 1) := by decide +kernel
theorem d_Ref_stored_16 : decode b_Ref_stored 16 = .ok (.goto 4, 3) := by decide +kernel
theorem d_Ref_stored_19 : decode b_Ref_stored 19 = .ok (.iconst 1, 1) := by decide +kernel
theorem d_Ref_stored_20 : decode b_Ref_stored 20 = .ok (.putfield 72, 3) := by decide +kernel
theorem d_Ref_stored_23 : decode b_Ref_stored 23 = .ok (.aload_n 0, 1) := by decide +kernel
theorem d_Ref_stored_24 : decode b_Ref_stored 24 = .ok (.getfield 72, 3) := by decide +kernel
theorem d_Ref_stored_27 : decode b_Ref_stored 27 = .ok (.ifCond .le 7, 3) := by decide +kernel
theorem d_Ref_stored_30 : decode b_Ref_stored 30 = .ok (.iconst 0, 1) := by decide +kernel
theorem d_Ref_stored_31 : decode b_Ref_stored 31 = .ok (.goto 9, 3) := by decide +kernel
theorem d_Ref_stored_34 : decode b_Ref_stored 34 = .ok (.aload_n 0, 1) := by decide +kernel
theorem d_Ref_stored_35 : decode b_Ref_stored 35 = .ok (.iload_n 1, 1) := by decide +kernel
theorem d_Ref_stored_36 : decode b_Ref_stored 36 = .ok (.iload_n 2, 1) := by decide +kernel
theorem d_Ref_stored_37 : decode b_Ref_stored 37 = .ok (.invokevirtual 105, 3) := by decide +kernel
theorem d_Ref_stored_40 : decode b_Ref_stored 40 = .ok (.ireturn, 1) := by decide +kernel
theorem d_Ref_ingress_0 : decode b_Ref_ingress 0 = .ok (.aload_n 0, 1) := by decide +kernel
theorem d_Ref_ingress_1 : decode b_Ref_ingress 1 = .ok (.iload_n 1, 1) := by decide +kernel
theorem d_Ref_ingress_2 : decode b_Ref_ingress 2 = .ok (.invokestatic 145, 3) := by decide +kernel
theorem d_Ref_ingress_5 : decode b_Ref_ingress 5 = .ok (.ifCond .eq 15, 3) := by decide +kernel
theorem d_Ref_ingress_8 : decode b_Ref_ingress 8 = .ok (.aload_n 0, 1) := by decide +kernel
theorem d_Ref_ingress_9 : decode b_Ref_ingress 9 = .ok (.iload_n 2, 1) := by decide +kernel
theorem d_Ref_ingress_10 : decode b_Ref_ingress 10 = .ok (.invokevirtual 148, 3) := by decide +kernel
theorem d_Ref_ingress_13 : decode b_Ref_ingress 13 = .ok (.ifCond .eq 7, 3) := by decide +kernel
theorem d_Ref_ingress_16 : decode b_Ref_ingress 16 = .ok (.iconst 0, 1) := by decide +kernel
theorem d_Ref_ingress_17 : decode b_Ref_ingress 17 = .ok (.goto 4, 3) := by decide +kernel
theorem d_Ref_ingress_20 : decode b_Ref_ingress 20 = .ok (.iconst 1, 1) := by decide +kernel
theorem d_Ref_ingress_21 : decode b_Ref_ingress 21 = .ok (.putfield 72, 3) := by decide +kernel
theorem d_Ref_ingress_24 : decode b_Ref_ingress 24 = .ok (.iconst 0, 1) := by decide +kernel
theorem d_Ref_ingress_25 : decode b_Ref_ingress 25 = .ok (.istore_n 3, 1) := by decide +kernel
theorem d_Ref_ingress_26 : decode b_Ref_ingress 26 = .ok (.iload_n 3, 1) := by decide +kernel
theorem d_Ref_ingress_27 : decode b_Ref_ingress 27 = .ok (.bipush 12, 2) := by decide +kernel
theorem d_Ref_ingress_29 : decode b_Ref_ingress 29 = .ok (.if_icmp .ge 35, 3) := by decide +kernel
theorem d_Ref_ingress_32 : decode b_Ref_ingress 32 = .ok (.aload_n 0, 1) := by decide +kernel
theorem d_Ref_ingress_33 : decode b_Ref_ingress 33 = .ok (.getfield 72, 3) := by decide +kernel
theorem d_Ref_ingress_36 : decode b_Ref_ingress 36 = .ok (.ifCond .ne 28, 3) := by decide +kernel
theorem d_Ref_ingress_39 : decode b_Ref_ingress 39 = .ok (.aload_n 0, 1) := by decide +kernel
theorem d_Ref_ingress_40 : decode b_Ref_ingress 40 = .ok (.getfield 57, 3) := by decide +kernel
theorem d_Ref_ingress_43 : decode b_Ref_ingress 43 = .ok (.bipush 12, 2) := by decide +kernel
theorem d_Ref_ingress_45 : decode b_Ref_ingress 45 = .ok (.iload_n 1, 1) := by decide +kernel
theorem d_Ref_ingress_46 : decode b_Ref_ingress 46 = .ok (.imul, 1) := by decide +kernel
theorem d_Ref_ingress_47 : decode b_Ref_ingress 47 = .ok (.iload_n 3, 1) := by decide +kernel
theorem d_Ref_ingress_48 : decode b_Ref_ingress 48 = .ok (.iadd, 1) := by decide +kernel
theorem d_Ref_ingress_49 : decode b_Ref_ingress 49 = .ok (.iaload, 1) := by decide +kernel
theorem d_Ref_ingress_50 : decode b_Ref_ingress 50 = .ok (.ifCond .le 8, 3) := by decide +kernel
theorem d_Ref_ingress_53 : decode b_Ref_ingress 53 = .ok (.aload_n 0, 1) := by decide +kernel
theorem d_Ref_ingress_54 : decode b_Ref_ingress 54 = .ok (.iconst 1, 1) := by decide +kernel
theorem d_Ref_ingress_55 : decode b_Ref_ingress 55 = .ok (.putfield 72, 3) := by decide +kernel
theorem d_Ref_ingress_58 : decode b_Ref_ingress 58 = .ok (.iinc 3 1, 3) := by decide +kernel
theorem d_Ref_ingress_61 : decode b_Ref_ingress 61 = .ok (.goto (-35), 3) := by decide +kernel
theorem d_Ref_ingress_64 : decode b_Ref_ingress 64 = .ok (.iconst 0, 1) := by decide +kernel
theorem d_Ref_ingress_65 : decode b_Ref_ingress 65 = .ok (.istore_n 3, 1) := by decide +kernel
theorem d_Ref_ingress_66 : decode b_Ref_ingress 66 = .ok (.iload_n 3, 1) := by decide +kernel
theorem d_Ref_ingress_67 : decode b_Ref_ingress 67 = .ok (.aload_n 0, 1) := by decide +kernel
theorem d_Ref_ingress_68 : decode b_Ref_ingress 68 = .ok (.getfield 151, 3) := by decide +kernel
theorem d_Ref_ingress_71 : decode b_Ref_ingress 71 = .ok (.if_icmp .ge 43, 3) := by decide +kernel
theorem d_Ref_ingress_74 : decode b_Ref_ingress 74 = .ok (.aload_n 0, 1) := by decide +kernel
theorem d_Ref_ingress_75 : decode b_Ref_ingress 75 = .ok (.getfield 72, 3) := by decide +kernel
theorem d_Ref_ingress_78 : decode b_Ref_ingress 78 = .ok (.ifCond .ne 36, 3) := by decide +kernel
theorem d_Ref_ingress_81 : decode b_Ref_ingress 81 = .ok (.aload_n 0, 1) := by decide +kernel
theorem d_Ref_ingress_82 : decode b_Ref_ingress 82 = .ok (.getfield 48, 3) := by decide +kernel
theorem d_Ref_ingress_85 : decode b_Ref_ingress 85 = .ok (.aload_n 0, 1) := by decide +kernel
theorem d_Ref_ingress_86 : decode b_Ref_ingress 86 = .ok (.getfield 154, 3) := by decide +kernel
theorem d_Ref_ingress_89 : decode b_Ref_ingress 89 = .ok (.iload_n 3, 1) := by decide +kernel
theorem d_Ref_ingress_90 : decode b_Ref_ingress 90 = .ok (.iadd, 1) := by decide +kernel
theorem d_Ref_ingress_91 : decode b_Ref_ingress 91 = .ok (.sipush 4000, 3) := by decide +kernel
theorem d_Ref_ingress_94 : decode b_Ref_ingress 94 = .ok (.irem, 1) := by decide +kernel
theorem d_Ref_ingress_95 : decode b_Ref_ingress 95 = .ok (.iaload, 1) := by decide +kernel
theorem d_Ref_ingress_96 : decode b_Ref_ingress 96 = .ok (.bipush 6, 2) := by decide +kernel
theorem d_Ref_ingress_98 : decode b_Ref_ingress 98 = .ok (.ishr, 1) := by decide +kernel
theorem d_Ref_ingress_99 : decode b_Ref_ingress 99 = .ok (.iload_n 1, 1) := by decide +kernel
theorem d_Ref_ingress_100 : decode b_Ref_ingress 100 = .ok (.if_icmp .ne 8, 3) := by decide +kernel
theorem d_Ref_ingress_103 : decode b_Ref_ingress 103 = .ok (.aload_n 0, 1) := by decide +kernel
theorem d_Ref_ingress_104 : decode b_Ref_ingress 104 = .ok (.iconst 1, 1) := by decide +kernel
theorem d_Ref_ingress_105 : decode b_Ref_ingress 105 = .ok (.putfield 72, 3) := by decide +kernel
theorem d_Ref_ingress_108 : decode b_Ref_ingress 108 = .ok (.iinc 3 1, 3) := by decide +kernel
theorem d_Ref_ingress_111 : decode b_Ref_ingress 111 = .ok (.goto (-45), 3) := by decide +kernel
theorem d_Ref_ingress_114 : decode b_Ref_ingress 114 = .ok (.aload_n 0, 1) := by decide +kernel
theorem d_Ref_ingress_115 : decode b_Ref_ingress 115 = .ok (.getfield 72, 3) := by decide +kernel
theorem d_Ref_ingress_118 : decode b_Ref_ingress 118 = .ok (.ifCond .le 4, 3) := by decide +kernel
theorem d_Ref_ingress_121 : decode b_Ref_ingress 121 = .ok (.return_, 1) := by decide +kernel
theorem d_Ref_ingress_122 : decode b_Ref_ingress 122 = .ok (.aload_n 0, 1) := by decide +kernel
theorem d_Ref_ingress_123 : decode b_Ref_ingress 123 = .ok (.getfield 51, 3) := by decide +kernel
theorem d_Ref_ingress_126 : decode b_Ref_ingress 126 = .ok (.iload_n 1, 1) := by decide +kernel
theorem d_Ref_ingress_127 : decode b_Ref_ingress 127 = .ok (.iload_n 2, 1) := by decide +kernel
theorem d_Ref_ingress_128 : decode b_Ref_ingress 128 = .ok (.iastore, 1) := by decide +kernel
theorem d_Ref_ingress_129 : decode b_Ref_ingress 129 = .ok (.aload_n 0, 1) := by decide +kernel
theorem d_Ref_ingress_130 : decode b_Ref_ingress 130 = .ok (.getfield 54, 3) := by decide +kernel
theorem d_Ref_ingress_133 : decode b_Ref_ingress 133 = .ok (.iload_n 1, 1) := by decide +kernel
theorem d_Ref_ingress_134 : decode b_Ref_ingress 134 = .ok (.iconst 0, 1) := by decide +kernel
theorem d_Ref_ingress_135 : decode b_Ref_ingress 135 = .ok (.iastore, 1) := by decide +kernel
theorem d_Ref_ingress_136 : decode b_Ref_ingress 136 = .ok (.return_, 1) := by decide +kernel
theorem d_Ref_tell_0 : decode b_Ref_tell 0 = .ok (.aload_n 0, 1) := by decide +kernel
theorem d_Ref_tell_1 : decode b_Ref_tell 1 = .ok (.getfield 48, 3) := by decide +kernel
theorem d_Ref_tell_4 : decode b_Ref_tell 4 = .ok (.aload_n 0, 1) := by decide +kernel
theorem d_Ref_tell_5 : decode b_Ref_tell 5 = .ok (.getfield 154, 3) := by decide +kernel
theorem d_Ref_tell_8 : decode b_Ref_tell 8 = .ok (.aload_n 0, 1) := by decide +kernel
theorem d_Ref_tell_9 : decode b_Ref_tell 9 = .ok (.getfield 151, 3) := by decide +kernel
theorem d_Ref_tell_12 : decode b_Ref_tell 12 = .ok (.iadd, 1) := by decide +kernel
theorem d_Ref_tell_13 : decode b_Ref_tell 13 = .ok (.sipush 4000, 3) := by decide +kernel
theorem d_Ref_tell_16 : decode b_Ref_tell 16 = .ok (.irem, 1) := by decide +kernel
theorem d_Ref_tell_17 : decode b_Ref_tell 17 = .ok (.iload_n 1, 1) := by decide +kernel
theorem d_Ref_tell_18 : decode b_Ref_tell 18 = .ok (.bipush 6, 2) := by decide +kernel
theorem d_Ref_tell_20 : decode b_Ref_tell 20 = .ok (.ishl, 1) := by decide +kernel
theorem d_Ref_tell_21 : decode b_Ref_tell 21 = .ok (.aload_n 0, 1) := by decide +kernel
theorem d_Ref_tell_22 : decode b_Ref_tell 22 = .ok (.getfield 7, 3) := by decide +kernel
theorem d_Ref_tell_25 : decode b_Ref_tell 25 = .ok (.iload_n 2, 1) := by decide +kernel
theorem d_Ref_tell_26 : decode b_Ref_tell 26 = .ok (.iaload, 1) := by decide +kernel
theorem d_Ref_tell_27 : decode b_Ref_tell 27 = .ok (.iconst 1, 1) := by decide +kernel
theorem d_Ref_tell_28 : decode b_Ref_tell 28 = .ok (.ishl, 1) := by decide +kernel
theorem d_Ref_tell_29 : decode b_Ref_tell 29 = .ok (.ior, 1) := by decide +kernel
theorem d_Ref_tell_30 : decode b_Ref_tell 30 = .ok (.aload_n 0, 1) := by decide +kernel
theorem d_Ref_tell_31 : decode b_Ref_tell 31 = .ok (.getfield 57, 3) := by decide +kernel
theorem d_Ref_tell_34 : decode b_Ref_tell 34 = .ok (.bipush 12, 2) := by decide +kernel
theorem d_Ref_tell_36 : decode b_Ref_tell 36 = .ok (.iload_n 1, 1) := by decide +kernel
theorem d_Ref_tell_37 : decode b_Ref_tell 37 = .ok (.imul, 1) := by decide +kernel
theorem d_Ref_tell_38 : decode b_Ref_tell 38 = .ok (.iload_n 2, 1) := by decide +kernel
theorem d_Ref_tell_39 : decode b_Ref_tell 39 = .ok (.iadd, 1) := by decide +kernel
theorem d_Ref_tell_40 : decode b_Ref_tell 40 = .ok (.iaload, 1) := by decide +kernel
theorem d_Ref_tell_41 : decode b_Ref_tell 41 = .ok (.ifCond .le 7, 3) := by decide +kernel
theorem d_Ref_tell_44 : decode b_Ref_tell 44 = .ok (.iconst 1, 1) := by decide +kernel
theorem d_Ref_tell_45 : decode b_Ref_tell 45 = .ok (.goto 4, 3) := by decide +kernel
theorem d_Ref_tell_48 : decode b_Ref_tell 48 = .ok (.iconst 0, 1) := by decide +kernel
theorem d_Ref_tell_49 : decode b_Ref_tell 49 = .ok (.ior, 1) := by decide +kernel
theorem d_Ref_tell_50 : decode b_Ref_tell 50 = .ok (.iastore, 1) := by decide +kernel
theorem d_Ref_tell_51 : decode b_Ref_tell 51 = .ok (.aload_n 0, 1) := by decide +kernel
theorem d_Ref_tell_52 : decode b_Ref_tell 52 = .ok (.dup, 1) := by decide +kernel
theorem d_Ref_tell_53 : decode b_Ref_tell 53 = .ok (.getfield 151, 3) := by decide +kernel
theorem d_Ref_tell_56 : decode b_Ref_tell 56 = .ok (.iconst 1, 1) := by decide +kernel
theorem d_Ref_tell_57 : decode b_Ref_tell 57 = .ok (.iadd, 1) := by decide +kernel
theorem d_Ref_tell_58 : decode b_Ref_tell 58 = .ok (.putfield 151, 3) := by decide +kernel
theorem d_Ref_tell_61 : decode b_Ref_tell 61 = .ok (.return_, 1) := by decide +kernel
theorem d_Ref_join_0 : decode b_Ref_join 0 = .ok (.aload_n 0, 1) := by decide +kernel
theorem d_Ref_join_1 : decode b_Ref_join 1 = .ok (.iload_n 1, 1) := by decide +kernel
theorem d_Ref_join_2 : decode b_Ref_join 2 = .ok (.invokevirtual 148, 3) := by decide +kernel
theorem d_Ref_join_5 : decode b_Ref_join 5 = .ok (.ifCond .eq 24, 3) := by decide +kernel
theorem d_Ref_join_8 : decode b_Ref_join 8 = .ok (.iload_n 2, 1) := by decide +kernel
theorem d_Ref_join_9 : decode b_Ref_join 9 = .ok (.invokestatic 145, 3) := by decide +kernel
theorem d_Ref_join_12 : decode b_Ref_join 12 = .ok (.ifCond .eq 17, 3) := by decide +kernel
theorem d_Ref_join_15 : decode b_Ref_join 15 = .ok (.iload_n 3, 1) := by decide +kernel
theorem d_Ref_join_16 : decode b_Ref_join 16 = .ok (.iconst 1, 1) := by decide +kernel
theorem d_Ref_join_17 : decode b_Ref_join 17 = .ok (.if_icmp .eq 8, 3) := by decide +kernel
theorem d_Ref_join_20 : decode b_Ref_join 20 = .ok (.iload_n 3, 1) := by decide +kernel
theorem d_Ref_join_21 : decode b_Ref_join 21 = .ok (.iconst (-1), 1) := by decide +kernel
theorem d_Ref_join_22 : decode b_Ref_join 22 = .ok (.if_icmp .ne 7, 3) := by decide +kernel
theorem d_Ref_join_25 : decode b_Ref_join 25 = .ok (.iconst 1, 1) := by decide +kernel
theorem d_Ref_join_26 : decode b_Ref_join 26 = .ok (.goto 4, 3) := by decide +kernel
theorem d_Ref_join_29 : decode b_Ref_join 29 = .ok (.iconst 0, 1) := by decide +kernel
theorem d_Ref_join_30 : decode b_Ref_join 30 = .ok (.istore 4, 2) := by decide +kernel
theorem d_Ref_join_32 : decode b_Ref_join 32 = .ok (.iload 4, 2) := by decide +kernel
theorem d_Ref_join_34 : decode b_Ref_join 34 = .ok (.ifCond .eq 17, 3) := by decide +kernel
theorem d_Ref_join_37 : decode b_Ref_join 37 = .ok (.aload_n 0, 1) := by decide +kernel
theorem d_Ref_join_38 : decode b_Ref_join 38 = .ok (.getfield 57, 3) := by decide +kernel
theorem d_Ref_join_41 : decode b_Ref_join 41 = .ok (.bipush 12, 2) := by decide +kernel
theorem d_Ref_join_43 : decode b_Ref_join 43 = .ok (.iload_n 2, 1) := by decide +kernel
theorem d_Ref_join_44 : decode b_Ref_join 44 = .ok (.imul, 1) := by decide +kernel
theorem d_Ref_join_45 : decode b_Ref_join 45 = .ok (.iload_n 1, 1) := by decide +kernel
theorem d_Ref_join_46 : decode b_Ref_join 46 = .ok (.iadd, 1) := by decide +kernel
theorem d_Ref_join_47 : decode b_Ref_join 47 = .ok (.iaload, 1) := by decide +kernel
theorem d_Ref_join_48 : decode b_Ref_join 48 = .ok (.goto 4, 3) := by decide +kernel
theorem d_Ref_join_51 : decode b_Ref_join 51 = .ok (.iconst 0, 1) := by decide +kernel
theorem d_Ref_join_52 : decode b_Ref_join 52 = .ok (.istore 5, 2) := by decide +kernel
theorem d_Ref_join_54 : decode b_Ref_join 54 = .ok (.iload 5, 2) := by decide +kernel
theorem d_Ref_join_56 : decode b_Ref_join 56 = .ok (.iload_n 3, 1) := by decide +kernel
theorem d_Ref_join_57 : decode b_Ref_join 57 = .ok (.iadd, 1) := by decide +kernel
theorem d_Ref_join_58 : decode b_Ref_join 58 = .ok (.istore 6, 2) := by decide +kernel
theorem d_Ref_join_60 : decode b_Ref_join 60 = .ok (.iload 4, 2) := by decide +kernel
theorem d_Ref_join_62 : decode b_Ref_join 62 = .ok (.ifCond .eq 20, 3) := by decide +kernel
theorem d_Ref_join_65 : decode b_Ref_join 65 = .ok (.iload 6, 2) := by decide +kernel
theorem d_Ref_join_67 : decode b_Ref_join 67 = .ok (.i2l, 1) := by decide +kernel
theorem d_Ref_join_68 : decode b_Ref_join 68 = .ok (.lconst 0, 1) := by decide +kernel
theorem d_Ref_join_69 : decode b_Ref_join 69 = .ok (.ldc2_w 157, 3) := by decide +kernel
theorem d_Ref_join_72 : decode b_Ref_join 72 = .ok (.invokestatic 78, 3) := by decide +kernel
theorem d_Ref_join_75 : decode b_Ref_join 75 = .ok (.ifCond .eq 7, 3) := by decide +kernel
theorem d_Ref_join_78 : decode b_Ref_join 78 = .ok (.iconst 1, 1) := by decide +kernel
theorem d_Ref_join_79 : decode b_Ref_join 79 = .ok (.goto 4, 3) := by decide +kernel
theorem d_Ref_join_82 : decode b_Ref_join 82 = .ok (.iconst 0, 1) := by decide +kernel
theorem d_Ref_join_83 : decode b_Ref_join 83 = .ok (.istore 4, 2) := by decide +kernel
theorem d_Ref_join_85 : decode b_Ref_join 85 = .ok (.aload_n 0, 1) := by decide +kernel
theorem d_Ref_join_86 : decode b_Ref_join 86 = .ok (.iload 4, 2) := by decide +kernel
theorem d_Ref_join_88 : decode b_Ref_join 88 = .ok (.ifCond .eq 7, 3) := by decide +kernel
theorem d_Ref_join_91 : decode b_Ref_join 91 = .ok (.iconst 0, 1) := by decide +kernel
theorem d_Ref_join_92 : decode b_Ref_join 92 = .ok (.goto 4, 3) := by decide +kernel
theorem d_Ref_join_95 : decode b_Ref_join 95 = .ok (.iconst 2, 1) := by decide +kernel
theorem d_Ref_join_96 : decode b_Ref_join 96 = .ok (.putfield 72, 3) := by decide +kernel
theorem d_Ref_join_99 : decode b_Ref_join 99 = .ok (.iload 4, 2) := by decide +kernel
theorem d_Ref_join_101 : decode b_Ref_join 101 = .ok (.ifCond .ne 5, 3) := by decide +kernel
theorem d_Ref_join_104 : decode b_Ref_join 104 = .ok (.iconst 0, 1) := by decide +kernel
theorem d_Ref_join_105 : decode b_Ref_join 105 = .ok (.ireturn, 1) := by decide +kernel
theorem d_Ref_join_106 : decode b_Ref_join 106 = .ok (.aload_n 0, 1) := by decide +kernel
theorem d_Ref_join_107 : decode b_Ref_join 107 = .ok (.getfield 51, 3) := by decide +kernel
theorem d_Ref_join_110 : decode b_Ref_join 110 = .ok (.iload_n 2, 1) := by decide +kernel
theorem d_Ref_join_111 : decode b_Ref_join 111 = .ok (.iaload, 1) := by decide +kernel
theorem d_Ref_join_112 : decode b_Ref_join 112 = .ok (.ifCond .lt 30, 3) := by decide +kernel
theorem d_Ref_join_115 : decode b_Ref_join 115 = .ok (.iload 5, 2) := by decide +kernel
theorem d_Ref_join_117 : decode b_Ref_join 117 = .ok (.ifCond .le 7, 3) := by decide +kernel
theorem d_Ref_join_120 : decode b_Ref_join 120 = .ok (.iconst 1, 1) := by decide +kernel
theorem d_Ref_join_121 : decode b_Ref_join 121 = .ok (.goto 4, 3) := by decide +kernel
theorem d_Ref_join_124 : decode b_Ref_join 124 = .ok (.iconst 0, 1) := by decide +kernel
theorem d_Ref_join_125 : decode b_Ref_join 125 = .ok (.iload 6, 2) := by decide +kernel
theorem d_Ref_join_127 : decode b_Ref_join 127 = .ok (.ifCond .le 7, 3) := by decide +kernel
theorem d_Ref_join_130 : decode b_Ref_join 130 = .ok (.iconst 1, 1) := by decide +kernel
theorem d_Ref_join_131 : decode b_Ref_join 131 = .ok (.goto 4, 3) := by decide +kernel
theorem d_Ref_join_134 : decode b_Ref_join 134 = .ok (.iconst 0, 1) := by decide +kernel
theorem d_Ref_join_135 : decode b_Ref_join 135 = .ok (.if_icmp .eq 7, 3) := by decide +kernel
theorem d_Ref_join_138 : decode b_Ref_join 138 = .ok (.iconst 1, 1) := by decide +kernel
theorem d_Ref_join_139 : decode b_Ref_join 139 = .ok (.goto 4, 3) := by decide +kernel
theorem d_Ref_join_142 : decode b_Ref_join 142 = .ok (.iconst 0, 1) := by decide +kernel
theorem d_Ref_join_143 : decode b_Ref_join 143 = .ok (.istore 7, 2) := by decide +kernel
theorem d_Ref_join_145 : decode b_Ref_join 145 = .ok (.iload 7, 2) := by decide +kernel
theorem d_Ref_join_147 : decode b_Ref_join 147 = .ok (.ifCond .eq 19, 3) := by decide +kernel
theorem d_Ref_join_150 : decode b_Ref_join 150 = .ok (.aload_n 0, 1) := by decide +kernel
theorem d_Ref_join_151 : decode b_Ref_join 151 = .ok (.getfield 151, 3) := by decide +kernel
theorem d_Ref_join_154 : decode b_Ref_join 154 = .ok (.sipush 4000, 3) := by decide +kernel
theorem d_Ref_join_157 : decode b_Ref_join 157 = .ok (.if_icmp .ne 9, 3) := by decide +kernel
theorem d_Ref_join_160 : decode b_Ref_join 160 = .ok (.aload_n 0, 1) := by decide +kernel
theorem d_Ref_join_161 : decode b_Ref_join 161 = .ok (.iconst 1, 1) := by decide +kernel
theorem d_Ref_join_162 : decode b_Ref_join 162 = .ok (.invokevirtual 159, 3) := by decide +kernel
theorem d_Ref_join_165 : decode b_Ref_join 165 = .ok (.ireturn, 1) := by decide +kernel
theorem d_Ref_join_166 : decode b_Ref_join 166 = .ok (.aload_n 0, 1) := by decide +kernel
theorem d_Ref_join_167 : decode b_Ref_join 167 = .ok (.getfield 57, 3) := by decide +kernel
theorem d_Ref_join_170 : decode b_Ref_join 170 = .ok (.bipush 12, 2) := by decide +kernel
theorem d_Ref_join_172 : decode b_Ref_join 172 = .ok (.iload_n 2, 1) := by decide +kernel
theorem d_Ref_join_173 : decode b_Ref_join 173 = .ok (.imul, 1) := by decide +kernel
theorem d_Ref_join_174 : decode b_Ref_join 174 = .ok (.iload_n 1, 1) := by decide +kernel
theorem d_Ref_join_175 : decode b_Ref_join 175 = .ok (.iadd, 1) := by decide +kernel
theorem d_Ref_join_176 : decode b_Ref_join 176 = .ok (.iload 6, 2) := by decide +kernel
theorem d_Ref_join_178 : decode b_Ref_join 178 = .ok (.iastore, 1) := by decide +kernel
theorem d_Ref_join_179 : decode b_Ref_join 179 = .ok (.iload 7, 2) := by decide +kernel
theorem d_Ref_join_181 : decode b_Ref_join 181 = .ok (.ifCond .eq 9, 3) := by decide +kernel
theorem d_Ref_join_184 : decode b_Ref_join 184 = .ok (.aload_n 0, 1) := by decide +kernel
theorem d_Ref_join_185 : decode b_Ref_join 185 = .ok (.iload_n 2, 1) := by decide +kernel
theorem d_Ref_join_186 : decode b_Ref_join 186 = .ok (.iload_n 1, 1) := by decide +kernel
theorem d_Ref_join_187 : decode b_Ref_join 187 = .ok (.invokevirtual 163, 3) := by decide +kernel
theorem d_Ref_join_190 : decode b_Ref_join 190 = .ok (.iload 6, 2) := by decide +kernel
theorem d_Ref_join_192 : decode b_Ref_join 192 = .ok (.ireturn, 1) := by decide +kernel
theorem d_Ref_report_0 : decode b_Ref_report 0 = .ok (.aload_n 0, 1) := by decide +kernel
