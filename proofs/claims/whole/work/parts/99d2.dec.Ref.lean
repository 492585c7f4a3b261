/-! Decode rows by program. -/
theorem d_Ref_report_1 : decode b_Ref_report 1 = .ok (.aload_n 0, 1) := by decide +kernel
theorem d_Ref_report_2 : decode b_Ref_report 2 = .ok (.getfield 151, 3) := by decide +kernel
theorem d_Ref_report_5 : decode b_Ref_report 5 = .ok (.sipush 3900, 3) := by decide +kernel
theorem d_Ref_report_8 : decode b_Ref_report 8 = .ok (.if_icmp .lt 7, 3) := by decide +kernel
theorem d_Ref_report_11 : decode b_Ref_report 11 = .ok (.iconst 1, 1) := by decide +kernel
theorem d_Ref_report_12 : decode b_Ref_report 12 = .ok (.goto 16, 3) := by decide +kernel
theorem d_Ref_report_15 : decode b_Ref_report 15 = .ok (.aload_n 0, 1) := by decide +kernel
theorem d_Ref_report_16 : decode b_Ref_report 16 = .ok (.iload_n 1, 1) := by decide +kernel
theorem d_Ref_report_17 : decode b_Ref_report 17 = .ok (.invokevirtual 148, 3) := by decide +kernel
theorem d_Ref_report_20 : decode b_Ref_report 20 = .ok (.ifCond .eq 7, 3) := by decide +kernel
theorem d_Ref_report_23 : decode b_Ref_report 23 = .ok (.iconst 0, 1) := by decide +kernel
theorem d_Ref_report_24 : decode b_Ref_report 24 = .ok (.goto 4, 3) := by decide +kernel
theorem d_Ref_report_27 : decode b_Ref_report 27 = .ok (.iconst 2, 1) := by decide +kernel
theorem d_Ref_report_28 : decode b_Ref_report 28 = .ok (.putfield 72, 3) := by decide +kernel
theorem d_Ref_report_31 : decode b_Ref_report 31 = .ok (.aload_n 0, 1) := by decide +kernel
theorem d_Ref_report_32 : decode b_Ref_report 32 = .ok (.getfield 72, 3) := by decide +kernel
theorem d_Ref_report_35 : decode b_Ref_report 35 = .ok (.ifCond .le 4, 3) := by decide +kernel
theorem d_Ref_report_38 : decode b_Ref_report 38 = .ok (.return_, 1) := by decide +kernel
theorem d_Ref_report_39 : decode b_Ref_report 39 = .ok (.iconst 0, 1) := by decide +kernel
theorem d_Ref_report_40 : decode b_Ref_report 40 = .ok (.istore_n 2, 1) := by decide +kernel
theorem d_Ref_report_41 : decode b_Ref_report 41 = .ok (.iload_n 2, 1) := by decide +kernel
theorem d_Ref_report_42 : decode b_Ref_report 42 = .ok (.bipush 8, 2) := by decide +kernel
theorem d_Ref_report_44 : decode b_Ref_report 44 = .ok (.if_icmp .ge 24, 3) := by decide +kernel
theorem d_Ref_report_47 : decode b_Ref_report 47 = .ok (.aload_n 0, 1) := by decide +kernel
theorem d_Ref_report_48 : decode b_Ref_report 48 = .ok (.getfield 51, 3) := by decide +kernel
theorem d_Ref_report_51 : decode b_Ref_report 51 = .ok (.iload_n 2, 1) := by decide +kernel
theorem d_Ref_report_52 : decode b_Ref_report 52 = .ok (.iaload, 1) := by decide +kernel
theorem d_Ref_report_53 : decode b_Ref_report 53 = .ok (.ifCond .lt 9, 3) := by decide +kernel
theorem d_Ref_report_56 : decode b_Ref_report 56 = .ok (.aload_n 0, 1) := by decide +kernel
theorem d_Ref_report_57 : decode b_Ref_report 57 = .ok (.iload_n 2, 1) := by decide +kernel
theorem d_Ref_report_58 : decode b_Ref_report 58 = .ok (.iload_n 1, 1) := by decide +kernel
theorem d_Ref_report_59 : decode b_Ref_report 59 = .ok (.invokevirtual 163, 3) := by decide +kernel
theorem d_Ref_report_62 : decode b_Ref_report 62 = .ok (.iinc 2 1, 3) := by decide +kernel
theorem d_Ref_report_65 : decode b_Ref_report 65 = .ok (.goto (-24), 3) := by decide +kernel
theorem d_Ref_report_68 : decode b_Ref_report 68 = .ok (.return_, 1) := by decide +kernel
theorem d_Ref_carry_0 : decode b_Ref_carry 0 = .ok (.aload_n 0, 1) := by decide +kernel
theorem d_Ref_carry_1 : decode b_Ref_carry 1 = .ok (.iload_n 1, 1) := by decide +kernel
theorem d_Ref_carry_2 : decode b_Ref_carry 2 = .ok (.iconst (-1), 1) := by decide +kernel
theorem d_Ref_carry_3 : decode b_Ref_carry 3 = .ok (.if_icmp .eq 15, 3) := by decide +kernel
theorem d_Ref_carry_6 : decode b_Ref_carry 6 = .ok (.iload_n 1, 1) := by decide +kernel
theorem d_Ref_carry_7 : decode b_Ref_carry 7 = .ok (.i2l, 1) := by decide +kernel
theorem d_Ref_carry_8 : decode b_Ref_carry 8 = .ok (.lconst 1, 1) := by decide +kernel
theorem d_Ref_carry_9 : decode b_Ref_carry 9 = .ok (.ldc2_w 116, 3) := by decide +kernel
theorem d_Ref_carry_12 : decode b_Ref_carry 12 = .ok (.invokestatic 78, 3) := by decide +kernel
theorem d_Ref_carry_15 : decode b_Ref_carry 15 = .ok (.ifCond .eq 7, 3) := by decide +kernel
theorem d_Ref_carry_18 : decode b_Ref_carry 18 = .ok (.iconst 0, 1) := by decide +kernel
theorem d_Ref_carry_19 : decode b_Ref_carry 19 = .ok (.goto 4, 3) := by decide +kernel
theorem d_Ref_carry_22 : decode b_Ref_carry 22 = .ok (.iconst 1, 1) := by decide +kernel
theorem d_Ref_carry_23 : decode b_Ref_carry 23 = .ok (.putfield 72, 3) := by decide +kernel
theorem d_Ref_carry_26 : decode b_Ref_carry 26 = .ok (.aload_n 0, 1) := by decide +kernel
theorem d_Ref_carry_27 : decode b_Ref_carry 27 = .ok (.getfield 72, 3) := by decide +kernel
theorem d_Ref_carry_30 : decode b_Ref_carry 30 = .ok (.ifCond .le 5, 3) := by decide +kernel
theorem d_Ref_carry_33 : decode b_Ref_carry 33 = .ok (.iconst 0, 1) := by decide +kernel
theorem d_Ref_carry_34 : decode b_Ref_carry 34 = .ok (.ireturn, 1) := by decide +kernel
theorem d_Ref_carry_35 : decode b_Ref_carry 35 = .ok (.iload_n 1, 1) := by decide +kernel
theorem d_Ref_carry_36 : decode b_Ref_carry 36 = .ok (.ifCond .ge 7, 3) := by decide +kernel
theorem d_Ref_carry_39 : decode b_Ref_carry 39 = .ok (.iconst 1, 1) := by decide +kernel
theorem d_Ref_carry_40 : decode b_Ref_carry 40 = .ok (.goto 4, 3) := by decide +kernel
theorem d_Ref_carry_43 : decode b_Ref_carry 43 = .ok (.iload_n 1, 1) := by decide +kernel
theorem d_Ref_carry_44 : decode b_Ref_carry 44 = .ok (.istore_n 2, 1) := by decide +kernel
theorem d_Ref_carry_45 : decode b_Ref_carry 45 = .ok (.iconst 0, 1) := by decide +kernel
theorem d_Ref_carry_46 : decode b_Ref_carry 46 = .ok (.istore_n 3, 1) := by decide +kernel
theorem d_Ref_carry_47 : decode b_Ref_carry 47 = .ok (.iload_n 3, 1) := by decide +kernel
theorem d_Ref_carry_48 : decode b_Ref_carry 48 = .ok (.iload_n 2, 1) := by decide +kernel
theorem d_Ref_carry_49 : decode b_Ref_carry 49 = .ok (.if_icmp .ge 112, 3) := by decide +kernel
theorem d_Ref_carry_52 : decode b_Ref_carry 52 = .ok (.aload_n 0, 1) := by decide +kernel
theorem d_Ref_carry_53 : decode b_Ref_carry 53 = .ok (.getfield 151, 3) := by decide +kernel
theorem d_Ref_carry_56 : decode b_Ref_carry 56 = .ok (.ifCond .le 105, 3) := by decide +kernel
theorem d_Ref_carry_59 : decode b_Ref_carry 59 = .ok (.aload_n 0, 1) := by decide +kernel
theorem d_Ref_carry_60 : decode b_Ref_carry 60 = .ok (.getfield 48, 3) := by decide +kernel
theorem d_Ref_carry_63 : decode b_Ref_carry 63 = .ok (.aload_n 0, 1) := by decide +kernel
theorem d_Ref_carry_64 : decode b_Ref_carry 64 = .ok (.getfield 154, 3) := by decide +kernel
theorem d_Ref_carry_67 : decode b_Ref_carry 67 = .ok (.iaload, 1) := by decide +kernel
theorem d_Ref_carry_68 : decode b_Ref_carry 68 = .ok (.istore 4, 2) := by decide +kernel
theorem d_Ref_carry_70 : decode b_Ref_carry 70 = .ok (.aload_n 0, 1) := by decide +kernel
theorem d_Ref_carry_71 : decode b_Ref_carry 71 = .ok (.aload_n 0, 1) := by decide +kernel
theorem d_Ref_carry_72 : decode b_Ref_carry 72 = .ok (.getfield 154, 3) := by decide +kernel
theorem d_Ref_carry_75 : decode b_Ref_carry 75 = .ok (.iconst 1, 1) := by decide +kernel
theorem d_Ref_carry_76 : decode b_Ref_carry 76 = .ok (.iadd, 1) := by decide +kernel
theorem d_Ref_carry_77 : decode b_Ref_carry 77 = .ok (.sipush 4000, 3) := by decide +kernel
theorem d_Ref_carry_80 : decode b_Ref_carry 80 = .ok (.irem, 1) := by decide +kernel
theorem d_Ref_carry_81 : decode b_Ref_carry 81 = .ok (.putfield 154, 3) := by decide +kernel
theorem d_Ref_carry_84 : decode b_Ref_carry 84 = .ok (.aload_n 0, 1) := by decide +kernel
theorem d_Ref_carry_85 : decode b_Ref_carry 85 = .ok (.dup, 1) := by decide +kernel
theorem d_Ref_carry_86 : decode b_Ref_carry 86 = .ok (.getfield 151, 3) := by decide +kernel
theorem d_Ref_carry_89 : decode b_Ref_carry 89 = .ok (.iconst 1, 1) := by decide +kernel
theorem d_Ref_carry_90 : decode b_Ref_carry 90 = .ok (.isub, 1) := by decide +kernel
theorem d_Ref_carry_91 : decode b_Ref_carry 91 = .ok (.putfield 151, 3) := by decide +kernel
theorem d_Ref_carry_94 : decode b_Ref_carry 94 = .ok (.iinc 3 1, 3) := by decide +kernel
theorem d_Ref_carry_97 : decode b_Ref_carry 97 = .ok (.iconst 1, 1) := by decide +kernel
theorem d_Ref_carry_98 : decode b_Ref_carry 98 = .ok (.iload 4, 2) := by decide +kernel
theorem d_Ref_carry_100 : decode b_Ref_carry 100 = .ok (.iconst 1, 1) := by decide +kernel
theorem d_Ref_carry_101 : decode b_Ref_carry 101 = .ok (.ishr, 1) := by decide +kernel
theorem d_Ref_carry_102 : decode b_Ref_carry 102 = .ok (.bipush 31, 2) := by decide +kernel
theorem d_Ref_carry_104 : decode b_Ref_carry 104 = .ok (.iand, 1) := by decide +kernel
theorem d_Ref_carry_105 : decode b_Ref_carry 105 = .ok (.ishl, 1) := by decide +kernel
theorem d_Ref_carry_106 : decode b_Ref_carry 106 = .ok (.istore 5, 2) := by decide +kernel
theorem d_Ref_carry_108 : decode b_Ref_carry 108 = .ok (.iload_n 1, 1) := by decide +kernel
theorem d_Ref_carry_109 : decode b_Ref_carry 109 = .ok (.ifCond .ge 6, 3) := by decide +kernel
theorem d_Ref_carry_112 : decode b_Ref_carry 112 = .ok (.goto (-65), 3) := by decide +kernel
theorem d_Ref_carry_115 : decode b_Ref_carry 115 = .ok (.iload 4, 2) := by decide +kernel
theorem d_Ref_carry_117 : decode b_Ref_carry 117 = .ok (.iconst 1, 1) := by decide +kernel
theorem d_Ref_carry_118 : decode b_Ref_carry 118 = .ok (.iand, 1) := by decide +kernel
theorem d_Ref_carry_119 : decode b_Ref_carry 119 = .ok (.iconst 1, 1) := by decide +kernel
theorem d_Ref_carry_120 : decode b_Ref_carry 120 = .ok (.if_icmp .ne 21, 3) := by decide +kernel
theorem d_Ref_carry_123 : decode b_Ref_carry 123 = .ok (.aload_n 0, 1) := by decide +kernel
theorem d_Ref_carry_124 : decode b_Ref_carry 124 = .ok (.getfield 54, 3) := by decide +kernel
theorem d_Ref_carry_127 : decode b_Ref_carry 127 = .ok (.iload 4, 2) := by decide +kernel
theorem d_Ref_carry_129 : decode b_Ref_carry 129 = .ok (.bipush 6, 2) := by decide +kernel
theorem d_Ref_carry_131 : decode b_Ref_carry 131 = .ok (.ishr, 1) := by decide +kernel
theorem d_Ref_carry_132 : decode b_Ref_carry 132 = .ok (.dup2, 1) := by decide +kernel
theorem d_Ref_carry_133 : decode b_Ref_carry 133 = .ok (.iaload, 1) := by decide +kernel
theorem d_Ref_carry_134 : decode b_Ref_carry 134 = .ok (.iload 5, 2) := by decide +kernel
theorem d_Ref_carry_136 : decode b_Ref_carry 136 = .ok (.ior, 1) := by decide +kernel
theorem d_Ref_carry_137 : decode b_Ref_carry 137 = .ok (.iastore, 1) := by decide +kernel
theorem d_Ref_carry_138 : decode b_Ref_carry 138 = .ok (.goto 20, 3) := by decide +kernel
theorem d_Ref_carry_141 : decode b_Ref_carry 141 = .ok (.aload_n 0, 1) := by decide +kernel
theorem d_Ref_carry_142 : decode b_Ref_carry 142 = .ok (.getfield 54, 3) := by decide +kernel
theorem d_Ref_carry_145 : decode b_Ref_carry 145 = .ok (.iload 4, 2) := by decide +kernel
theorem d_Ref_carry_147 : decode b_Ref_carry 147 = .ok (.bipush 6, 2) := by decide +kernel
theorem d_Ref_carry_149 : decode b_Ref_carry 149 = .ok (.ishr, 1) := by decide +kernel
theorem d_Ref_carry_150 : decode b_Ref_carry 150 = .ok (.dup2, 1) := by decide +kernel
theorem d_Ref_carry_151 : decode b_Ref_carry 151 = .ok (.iaload, 1) := by decide +kernel
theorem d_Ref_carry_152 : decode b_Ref_carry 152 = .ok (.iload 5, 2) := by decide +kernel
theorem d_Ref_carry_154 : decode b_Ref_carry 154 = .ok (.iconst (-1), 1) := by decide +kernel
theorem d_Ref_carry_155 : decode b_Ref_carry 155 = .ok (.ixor, 1) := by decide +kernel
theorem d_Ref_carry_156 : decode b_Ref_carry 156 = .ok (.iand, 1) := by decide +kernel
theorem d_Ref_carry_157 : decode b_Ref_carry 157 = .ok (.iastore, 1) := by decide +kernel
theorem d_Ref_carry_158 : decode b_Ref_carry 158 = .ok (.goto (-111), 3) := by decide +kernel
theorem d_Ref_carry_161 : decode b_Ref_carry 161 = .ok (.iload_n 3, 1) := by decide +kernel
theorem d_Ref_carry_162 : decode b_Ref_carry 162 = .ok (.ireturn, 1) := by decide +kernel
theorem d_Ref_bits_0 : decode b_Ref_bits 0 = .ok (.aload_n 0, 1) := by decide +kernel
theorem d_Ref_bits_1 : decode b_Ref_bits 1 = .ok (.iload_n 1, 1) := by decide +kernel
theorem d_Ref_bits_2 : decode b_Ref_bits 2 = .ok (.invokestatic 145, 3) := by decide +kernel
theorem d_Ref_bits_5 : decode b_Ref_bits 5 = .ok (.ifCond .eq 7, 3) := by decide +kernel
theorem d_Ref_bits_8 : decode b_Ref_bits 8 = .ok (.iconst 0, 1) := by decide +kernel
theorem d_Ref_bits_9 : decode b_Ref_bits 9 = .ok (.goto 4, 3) := by decide +kernel
theorem d_Ref_bits_12 : decode b_Ref_bits 12 = .ok (.iconst 1, 1) := by decide +kernel
theorem d_Ref_bits_13 : decode b_Ref_bits 13 = .ok (.putfield 72, 3) := by decide +kernel
theorem d_Ref_bits_16 : decode b_Ref_bits 16 = .ok (.aload_n 0, 1) := by decide +kernel
theorem d_Ref_bits_17 : decode b_Ref_bits 17 = .ok (.getfield 72, 3) := by decide +kernel
theorem d_Ref_bits_20 : decode b_Ref_bits 20 = .ok (.ifCond .gt 12, 3) := by decide +kernel
theorem d_Ref_bits_23 : decode b_Ref_bits 23 = .ok (.aload_n 0, 1) := by decide +kernel
theorem d_Ref_bits_24 : decode b_Ref_bits 24 = .ok (.getfield 51, 3) := by decide +kernel
theorem d_Ref_bits_27 : decode b_Ref_bits 27 = .ok (.iload_n 1, 1) := by decide +kernel
theorem d_Ref_bits_28 : decode b_Ref_bits 28 = .ok (.iaload, 1) := by decide +kernel
theorem d_Ref_bits_29 : decode b_Ref_bits 29 = .ok (.ifCond .ge 7, 3) := by decide +kernel
theorem d_Ref_bits_32 : decode b_Ref_bits 32 = .ok (.iconst 0, 1) := by decide +kernel
theorem d_Ref_bits_33 : decode b_Ref_bits 33 = .ok (.goto 9, 3) := by decide +kernel
theorem d_Ref_bits_36 : decode b_Ref_bits 36 = .ok (.aload_n 0, 1) := by decide +kernel
theorem d_Ref_bits_37 : decode b_Ref_bits 37 = .ok (.getfield 54, 3) := by decide +kernel
theorem d_Ref_bits_40 : decode b_Ref_bits 40 = .ok (.iload_n 1, 1) := by decide +kernel
theorem d_Ref_bits_41 : decode b_Ref_bits 41 = .ok (.iaload, 1) := by decide +kernel
theorem d_Ref_bits_42 : decode b_Ref_bits 42 = .ok (.ireturn, 1) := by decide +kernel
theorem d_Ref_ones_0 : decode b_Ref_ones 0 = .ok (.iconst 0, 1) := by decide +kernel
theorem d_Ref_ones_1 : decode b_Ref_ones 1 = .ok (.istore_n 1, 1) := by decide +kernel
theorem d_Ref_ones_2 : decode b_Ref_ones 2 = .ok (.iconst 0, 1) := by decide +kernel
theorem d_Ref_ones_3 : decode b_Ref_ones 3 = .ok (.istore_n 2, 1) := by decide +kernel
theorem d_Ref_ones_4 : decode b_Ref_ones 4 = .ok (.iload_n 2, 1) := by decide +kernel
theorem d_Ref_ones_5 : decode b_Ref_ones 5 = .ok (.bipush 32, 2) := by decide +kernel
theorem d_Ref_ones_7 : decode b_Ref_ones 7 = .ok (.if_icmp .ge 17, 3) := by decide +kernel
theorem d_Ref_ones_10 : decode b_Ref_ones 10 = .ok (.iload_n 1, 1) := by decide +kernel
theorem d_Ref_ones_11 : decode b_Ref_ones 11 = .ok (.iload_n 0, 1) := by decide +kernel
theorem d_Ref_ones_12 : decode b_Ref_ones 12 = .ok (.iload_n 2, 1) := by decide +kernel
theorem d_Ref_ones_13 : decode b_Ref_ones 13 = .ok (.ishr, 1) := by decide +kernel
theorem d_Ref_ones_14 : decode b_Ref_ones 14 = .ok (.iconst 1, 1) := by decide +kernel
theorem d_Ref_ones_15 : decode b_Ref_ones 15 = .ok (.iand, 1) := by decide +kernel
theorem d_Ref_ones_16 : decode b_Ref_ones 16 = .ok (.iadd, 1) := by decide +kernel
theorem d_Ref_ones_17 : decode b_Ref_ones 17 = .ok (.istore_n 1, 1) := by decide +kernel
theorem d_Ref_ones_18 : decode b_Ref_ones 18 = .ok (.iinc 2 1, 3) := by decide +kernel
theorem d_Ref_ones_21 : decode b_Ref_ones 21 = .ok (.goto (-17), 3) := by decide +kernel
theorem d_Ref_ones_24 : decode b_Ref_ones 24 = .ok (.iload_n 1, 1) := by decide +kernel
theorem d_Ref_ones_25 : decode b_Ref_ones 25 = .ok (.ireturn, 1) := by decide +kernel
theorem d_Ref_arrive_0 : decode b_Ref_arrive 0 = .ok (.iload_n 3, 1) := by decide +kernel
theorem d_Ref_arrive_1 : decode b_Ref_arrive 1 = .ok (.istore 5, 2) := by decide +kernel
theorem d_Ref_arrive_3 : decode b_Ref_arrive 3 = .ok (.aload_n 0, 1) := by decide +kernel
theorem d_Ref_arrive_4 : decode b_Ref_arrive 4 = .ok (.getfield 7, 3) := by decide +kernel
theorem d_Ref_arrive_7 : decode b_Ref_arrive 7 = .ok (.iload_n 1, 1) := by decide +kernel
theorem d_Ref_arrive_8 : decode b_Ref_arrive 8 = .ok (.iaload, 1) := by decide +kernel
theorem d_Ref_arrive_9 : decode b_Ref_arrive 9 = .ok (.ifCond .lt 60, 3) := by decide +kernel
theorem d_Ref_arrive_12 : decode b_Ref_arrive 12 = .ok (.iload 5, 2) := by decide +kernel
theorem d_Ref_arrive_14 : decode b_Ref_arrive 14 = .ok (.aload_n 0, 1) := by decide +kernel
theorem d_Ref_arrive_15 : decode b_Ref_arrive 15 = .ok (.getfield 7, 3) := by decide +kernel
theorem d_Ref_arrive_18 : decode b_Ref_arrive 18 = .ok (.iload_n 1, 1) := by decide +kernel
theorem d_Ref_arrive_19 : decode b_Ref_arrive 19 = .ok (.iaload, 1) := by decide +kernel
theorem d_Ref_arrive_20 : decode b_Ref_arrive 20 = .ok (.ishr, 1) := by decide +kernel
theorem d_Ref_arrive_21 : decode b_Ref_arrive 21 = .ok (.iconst 1, 1) := by decide +kernel
theorem d_Ref_arrive_22 : decode b_Ref_arrive 22 = .ok (.iand, 1) := by decide +kernel
theorem d_Ref_arrive_23 : decode b_Ref_arrive 23 = .ok (.iconst 1, 1) := by decide +kernel
theorem d_Ref_arrive_24 : decode b_Ref_arrive 24 = .ok (.if_icmp .ne 45, 3) := by decide +kernel
theorem d_Ref_arrive_27 : decode b_Ref_arrive 27 = .ok (.aload_n 0, 1) := by decide +kernel
theorem d_Ref_arrive_28 : decode b_Ref_arrive 28 = .ok (.getfield 60, 3) := by decide +kernel
theorem d_Ref_arrive_31 : decode b_Ref_arrive 31 = .ok (.iload_n 2, 1) := by decide +kernel
theorem d_Ref_arrive_32 : decode b_Ref_arrive 32 = .ok (.dup2, 1) := by decide +kernel
theorem d_Ref_arrive_33 : decode b_Ref_arrive 33 = .ok (.iaload, 1) := by decide +kernel
theorem d_Ref_arrive_34 : decode b_Ref_arrive 34 = .ok (.iconst 1, 1) := by decide +kernel
theorem d_Ref_arrive_35 : decode b_Ref_arrive 35 = .ok (.aload_n 0, 1) := by decide +kernel
theorem d_Ref_arrive_36 : decode b_Ref_arrive 36 = .ok (.getfield 7, 3) := by decide +kernel
theorem d_Ref_arrive_39 : decode b_Ref_arrive 39 = .ok (.iload_n 1, 1) := by decide +kernel
theorem d_Ref_arrive_40 : decode b_Ref_arrive 40 = .ok (.iaload, 1) := by decide +kernel
theorem d_Ref_arrive_41 : decode b_Ref_arrive 41 = .ok (.ishl, 1) := by decide +kernel
theorem d_Ref_arrive_42 : decode b_Ref_arrive 42 = .ok (.ior, 1) := by decide +kernel
theorem d_Ref_arrive_43 : decode b_Ref_arrive 43 = .ok (.iastore, 1) := by decide +kernel
theorem d_Ref_arrive_44 : decode b_Ref_arrive 44 = .ok (.aload_n 0, 1) := by decide +kernel
theorem d_Ref_arrive_45 : decode b_Ref_arrive 45 = .ok (.dup, 1) := by decide +kernel
theorem d_Ref_arrive_46 : decode b_Ref_arrive 46 = .ok (.getfield 166, 3) := by decide +kernel
theorem d_Ref_arrive_49 : decode b_Ref_arrive 49 = .ok (.iconst 1, 1) := by decide +kernel
theorem d_Ref_arrive_50 : decode b_Ref_arrive 50 = .ok (.iadd, 1) := by decide +kernel
theorem d_Ref_arrive_51 : decode b_Ref_arrive 51 = .ok (.putfield 166, 3) := by decide +kernel
theorem d_Ref_arrive_54 : decode b_Ref_arrive 54 = .ok (.iload 5, 2) := by decide +kernel
theorem d_Ref_arrive_56 : decode b_Ref_arrive 56 = .ok (.iconst 1, 1) := by decide +kernel
theorem d_Ref_arrive_57 : decode b_Ref_arrive 57 = .ok (.aload_n 0, 1) := by decide +kernel
theorem d_Ref_arrive_58 : decode b_Ref_arrive 58 = .ok (.getfield 7, 3) := by decide +kernel
theorem d_Ref_arrive_61 : decode b_Ref_arrive 61 = .ok (.iload_n 1, 1) := by decide +kernel
theorem d_Ref_arrive_62 : decode b_Ref_arrive 62 = .ok (.iaload, 1) := by decide +kernel
theorem d_Ref_arrive_63 : decode b_Ref_arrive 63 = .ok (.ishl, 1) := by decide +kernel
theorem d_Ref_arrive_64 : decode b_Ref_arrive 64 = .ok (.iconst (-1), 1) := by decide +kernel
theorem d_Ref_arrive_65 : decode b_Ref_arrive 65 = .ok (.ixor, 1) := by decide +kernel
theorem d_Ref_arrive_66 : decode b_Ref_arrive 66 = .ok (.iand, 1) := by decide +kernel
theorem d_Ref_arrive_67 : decode b_Ref_arrive 67 = .ok (.istore 5, 2) := by decide +kernel
theorem d_Ref_arrive_69 : decode b_Ref_arrive 69 = .ok (.iload 5, 2) := by decide +kernel
theorem d_Ref_arrive_71 : decode b_Ref_arrive 71 = .ok (.ifCond .ne 4, 3) := by decide +kernel
theorem d_Ref_arrive_74 : decode b_Ref_arrive 74 = .ok (.return_, 1) := by decide +kernel
theorem d_Ref_arrive_75 : decode b_Ref_arrive 75 = .ok (.aload_n 0, 1) := by decide +kernel
theorem d_Ref_arrive_76 : decode b_Ref_arrive 76 = .ok (.iload_n 1, 1) := by decide +kernel
theorem d_Ref_arrive_77 : decode b_Ref_arrive 77 = .ok (.invokevirtual 139, 3) := by decide +kernel
theorem d_Ref_arrive_80 : decode b_Ref_arrive 80 = .ok (.iconst 0, 1) := by decide +kernel
theorem d_Ref_arrive_81 : decode b_Ref_arrive 81 = .ok (.istore 6, 2) := by decide +kernel
theorem d_Ref_arrive_83 : decode b_Ref_arrive 83 = .ok (.iload 6, 2) := by decide +kernel
theorem d_Ref_arrive_85 : decode b_Ref_arrive 85 = .ok (.bipush 12, 2) := by decide +kernel
theorem d_Ref_arrive_87 : decode b_Ref_arrive 87 = .ok (.if_icmp .ge 151, 3) := by decide +kernel
theorem d_Ref_arrive_90 : decode b_Ref_arrive 90 = .ok (.aload_n 0, 1) := by decide +kernel
theorem d_Ref_arrive_91 : decode b_Ref_arrive 91 = .ok (.getfield 66, 3) := by decide +kernel
theorem d_Ref_arrive_94 : decode b_Ref_arrive 94 = .ok (.bipush 12, 2) := by decide +kernel
theorem d_Ref_arrive_96 : decode b_Ref_arrive 96 = .ok (.iload_n 1, 1) := by decide +kernel
theorem d_Ref_arrive_97 : decode b_Ref_arrive 97 = .ok (.imul, 1) := by decide +kernel
theorem d_Ref_arrive_98 : decode b_Ref_arrive 98 = .ok (.iload 6, 2) := by decide +kernel
theorem d_Ref_arrive_100 : decode b_Ref_arrive 100 = .ok (.iadd, 1) := by decide +kernel
theorem d_Ref_arrive_101 : decode b_Ref_arrive 101 = .ok (.iaload, 1) := by decide +kernel
theorem d_Ref_arrive_102 : decode b_Ref_arrive 102 = .ok (.ifCond .le 16, 3) := by decide +kernel
theorem d_Ref_arrive_105 : decode b_Ref_arrive 105 = .ok (.iload 5, 2) := by decide +kernel
theorem d_Ref_arrive_107 : decode b_Ref_arrive 107 = .ok (.aload_n 0, 1) := by decide +kernel
theorem d_Ref_arrive_108 : decode b_Ref_arrive 108 = .ok (.iload_n 1, 1) := by decide +kernel
theorem d_Ref_arrive_109 : decode b_Ref_arrive 109 = .ok (.iload 6, 2) := by decide +kernel
theorem d_Ref_arrive_111 : decode b_Ref_arrive 111 = .ok (.invokevirtual 142, 3) := by decide +kernel
theorem d_Ref_arrive_114 : decode b_Ref_arrive 114 = .ok (.iand, 1) := by decide +kernel
theorem d_Ref_arrive_115 : decode b_Ref_arrive 115 = .ok (.goto 4, 3) := by decide +kernel
theorem d_Ref_arrive_118 : decode b_Ref_arrive 118 = .ok (.iconst 0, 1) := by decide +kernel
theorem d_Ref_arrive_119 : decode b_Ref_arrive 119 = .ok (.istore 7, 2) := by decide +kernel
theorem d_Ref_arrive_121 : decode b_Ref_arrive 121 = .ok (.iload 7, 2) := by decide +kernel
theorem d_Ref_arrive_123 : decode b_Ref_arrive 123 = .ok (.ifCond .ne 6, 3) := by decide +kernel
theorem d_Ref_arrive_126 : decode b_Ref_arrive 126 = .ok (.goto 106, 3) := by decide +kernel
theorem d_Ref_arrive_129 : decode b_Ref_arrive 129 = .ok (.iload 5, 2) := by decide +kernel
theorem d_Ref_arrive_131 : decode b_Ref_arrive 131 = .ok (.iload 7, 2) := by decide +kernel
theorem d_Ref_arrive_133 : decode b_Ref_arrive 133 = .ok (.iconst (-1), 1) := by decide +kernel
theorem d_Ref_arrive_134 : decode b_Ref_arrive 134 = .ok (.ixor, 1) := by decide +kernel
theorem d_Ref_arrive_135 : decode b_Ref_arrive 135 = .ok (.iand, 1) := by decide +kernel
theorem d_Ref_arrive_136 : decode b_Ref_arrive 136 = .ok (.istore 5, 2) := by decide +kernel
theorem d_Ref_arrive_138 : decode b_Ref_arrive 138 = .ok (.iload 4, 2) := by decide +kernel
theorem d_Ref_arrive_140 : decode b_Ref_arrive 140 = .ok (.sipush 255, 3) := by decide +kernel
theorem d_Ref_arrive_143 : decode b_Ref_arrive 143 = .ok (.if_icmp .ne 16, 3) := by decide +kernel
theorem d_Ref_arrive_146 : decode b_Ref_arrive 146 = .ok (.aload_n 0, 1) := by decide +kernel
theorem d_Ref_arrive_147 : decode b_Ref_arrive 147 = .ok (.dup, 1) := by decide +kernel
theorem d_Ref_arrive_148 : decode b_Ref_arrive 148 = .ok (.getfield 169, 3) := by decide +kernel
theorem d_Ref_arrive_151 : decode b_Ref_arrive 151 = .ok (.iconst 1, 1) := by decide +kernel
theorem d_Ref_arrive_152 : decode b_Ref_arrive 152 = .ok (.iadd, 1) := by decide +kernel
theorem d_Ref_arrive_153 : decode b_Ref_arrive 153 = .ok (.putfield 169, 3) := by decide +kernel
theorem d_Ref_arrive_156 : decode b_Ref_arrive 156 = .ok (.goto 76, 3) := by decide +kernel
theorem d_Ref_arrive_159 : decode b_Ref_arrive 159 = .ok (.aload_n 0, 1) := by decide +kernel
theorem d_Ref_arrive_160 : decode b_Ref_arrive 160 = .ok (.getfield 45, 3) := by decide +kernel
theorem d_Ref_arrive_163 : decode b_Ref_arrive 163 = .ok (.aload_n 0, 1) := by decide +kernel
theorem d_Ref_arrive_164 : decode b_Ref_arrive 164 = .ok (.getfield 172, 3) := by decide +kernel
theorem d_Ref_arrive_167 : decode b_Ref_arrive 167 = .ok (.aload_n 0, 1) := by decide +kernel
theorem d_Ref_arrive_168 : decode b_Ref_arrive 168 = .ok (.getfield 175, 3) := by decide +kernel
theorem d_Ref_arrive_171 : decode b_Ref_arrive 171 = .ok (.iadd, 1) := by decide +kernel
theorem d_Ref_arrive_172 : decode b_Ref_arrive 172 = .ok (.sipush 4000, 3) := by decide +kernel
theorem d_Ref_arrive_175 : decode b_Ref_arrive 175 = .ok (.irem, 1) := by decide +kernel
theorem d_Ref_arrive_176 : decode b_Ref_arrive 176 = .ok (.iload_n 2, 1) := by decide +kernel
theorem d_Ref_arrive_177 : decode b_Ref_arrive 177 = .ok (.i2l, 1) := by decide +kernel
theorem d_Ref_arrive_178 : decode b_Ref_arrive 178 = .ok (.bipush 48, 2) := by decide +kernel
theorem d_Ref_arrive_180 : decode b_Ref_arrive 180 = .ok (.lshl, 1) := by decide +kernel
theorem d_Ref_arrive_181 : decode b_Ref_arrive 181 = .ok (.iload_n 1, 1) := by decide +kernel
theorem d_Ref_arrive_182 : decode b_Ref_arrive 182 = .ok (.i2l, 1) := by decide +kernel
theorem d_Ref_arrive_183 : decode b_Ref_arrive 183 = .ok (.bipush 44, 2) := by decide +kernel
theorem d_Ref_arrive_185 : decode b_Ref_arrive 185 = .ok (.lshl, 1) := by decide +kernel
theorem d_Ref_arrive_186 : decode b_Ref_arrive 186 = .ok (.lor, 1) := by decide +kernel
theorem d_Ref_arrive_187 : decode b_Ref_arrive 187 = .ok (.iload 6, 2) := by decide +kernel
theorem d_Ref_arrive_189 : decode b_Ref_arrive 189 = .ok (.i2l, 1) := by decide +kernel
theorem d_Ref_arrive_190 : decode b_Ref_arrive 190 = .ok (.bipush 40, 2) := by decide +kernel
theorem d_Ref_arrive_192 : decode b_Ref_arrive 192 = .ok (.lshl, 1) := by decide +kernel
theorem d_Ref_arrive_193 : decode b_Ref_arrive 193 = .ok (.lor, 1) := by decide +kernel
theorem d_Ref_arrive_194 : decode b_Ref_arrive 194 = .ok (.iload 4, 2) := by decide +kernel
theorem d_Ref_arrive_196 : decode b_Ref_arrive 196 = .ok (.iconst 1, 1) := by decide +kernel
theorem d_Ref_arrive_197 : decode b_Ref_arrive 197 = .ok (.iadd, 1) := by decide +kernel
theorem d_Ref_arrive_198 : decode b_Ref_arrive 198 = .ok (.i2l, 1) := by decide +kernel
theorem d_Ref_arrive_199 : decode b_Ref_arrive 199 = .ok (.bipush 32, 2) := by decide +kernel
theorem d_Ref_arrive_201 : decode b_Ref_arrive 201 = .ok (.lshl, 1) := by decide +kernel
theorem d_Ref_arrive_202 : decode b_Ref_arrive 202 = .ok (.lor, 1) := by decide +kernel
theorem d_Ref_arrive_203 : decode b_Ref_arrive 203 = .ok (.iload 7, 2) := by decide +kernel
theorem d_Ref_arrive_205 : decode b_Ref_arrive 205 = .ok (.i2l, 1) := by decide +kernel
theorem d_Ref_arrive_206 : decode b_Ref_arrive 206 = .ok (.ldc2_w 178, 3) := by decide +kernel
theorem d_Ref_arrive_209 : decode b_Ref_arrive 209 = .ok (.land, 1) := by decide +kernel
theorem d_Ref_arrive_210 : decode b_Ref_arrive 210 = .ok (.lor, 1) := by decide +kernel
theorem d_Ref_arrive_211 : decode b_Ref_arrive 211 = .ok (.lastore, 1) := by decide +kernel
theorem d_Ref_arrive_212 : decode b_Ref_arrive 212 = .ok (.aload_n 0, 1) := by decide +kernel
theorem d_Ref_arrive_213 : decode b_Ref_arrive 213 = .ok (.dup, 1) := by decide +kernel
theorem d_Ref_arrive_214 : decode b_Ref_arrive 214 = .ok (.getfield 175, 3) := by decide +kernel
theorem d_Ref_arrive_217 : decode b_Ref_arrive 217 = .ok (.iconst 1, 1) := by decide +kernel
theorem d_Ref_arrive_218 : decode b_Ref_arrive 218 = .ok (.iadd, 1) := by decide +kernel
theorem d_Ref_arrive_219 : decode b_Ref_arrive 219 = .ok (.putfield 175, 3) := by decide +kernel
theorem d_Ref_arrive_222 : decode b_Ref_arrive 222 = .ok (.aload_n 0, 1) := by decide +kernel
theorem d_Ref_arrive_223 : decode b_Ref_arrive 223 = .ok (.getfield 63, 3) := by decide +kernel
theorem d_Ref_arrive_226 : decode b_Ref_arrive 226 = .ok (.iload_n 2, 1) := by decide +kernel
theorem d_Ref_arrive_227 : decode b_Ref_arrive 227 = .ok (.dup2, 1) := by decide +kernel
theorem d_Ref_arrive_228 : decode b_Ref_arrive 228 = .ok (.iaload, 1) := by decide +kernel
theorem d_Ref_arrive_229 : decode b_Ref_arrive 229 = .ok (.iconst 1, 1) := by decide +kernel
theorem d_Ref_arrive_230 : decode b_Ref_arrive 230 = .ok (.iadd, 1) := by decide +kernel
theorem d_Ref_arrive_231 : decode b_Ref_arrive 231 = .ok (.iastore, 1) := by decide +kernel
theorem d_Ref_arrive_232 : decode b_Ref_arrive 232 = .ok (.iinc 6 1, 3) := by decide +kernel
theorem d_Ref_arrive_235 : decode b_Ref_arrive 235 = .ok (.goto (-152), 3) := by decide +kernel
theorem d_Ref_arrive_238 : decode b_Ref_arrive 238 = .ok (.aload_n 0, 1) := by decide +kernel
theorem d_Ref_arrive_239 : decode b_Ref_arrive 239 = .ok (.dup, 1) := by decide +kernel
theorem d_Ref_arrive_240 : decode b_Ref_arrive 240 = .ok (.getfield 180, 3) := by decide +kernel
theorem d_Ref_arrive_243 : decode b_Ref_arrive 243 = .ok (.iload 5, 2) := by decide +kernel
theorem d_Ref_arrive_245 : decode b_Ref_arrive 245 = .ok (.invokestatic 183, 3) := by decide +kernel
theorem d_Ref_arrive_248 : decode b_Ref_arrive 248 = .ok (.iadd, 1) := by decide +kernel
theorem d_Ref_arrive_249 : decode b_Ref_arrive 249 = .ok (.putfield 180, 3) := by decide +kernel
theorem d_Ref_arrive_252 : decode b_Ref_arrive 252 = .ok (.return_, 1) := by decide +kernel
theorem d_Ref_wouldSend_0 : decode b_Ref_wouldSend 0 = .ok (.aload_n 0, 1) := by decide +kernel
theorem d_Ref_wouldSend_1 : decode b_Ref_wouldSend 1 = .ok (.getfield 7, 3) := by decide +kernel
theorem d_Ref_wouldSend_4 : decode b_Ref_wouldSend 4 = .ok (.iload_n 1, 1) := by decide +kernel
theorem d_Ref_wouldSend_5 : decode b_Ref_wouldSend 5 = .ok (.iaload, 1) := by decide +kernel
theorem d_Ref_wouldSend_6 : decode b_Ref_wouldSend 6 = .ok (.ifCond .lt 18, 3) := by decide +kernel
theorem d_Ref_wouldSend_9 : decode b_Ref_wouldSend 9 = .ok (.iload_n 2, 1) := by decide +kernel
theorem d_Ref_wouldSend_10 : decode b_Ref_wouldSend 10 = .ok (.iconst 1, 1) := by decide +kernel
theorem d_Ref_wouldSend_11 : decode b_Ref_wouldSend 11 = .ok (.aload_n 0, 1) := by decide +kernel
theorem d_Ref_wouldSend_12 : decode b_Ref_wouldSend 12 = .ok (.getfield 7, 3) := by decide +kernel
theorem d_Ref_wouldSend_15 : decode b_Ref_wouldSend 15 = .ok (.iload_n 1, 1) := by decide +kernel
theorem d_Ref_wouldSend_16 : decode b_Ref_wouldSend 16 = .ok (.iaload, 1) := by decide +kernel
theorem d_Ref_wouldSend_17 : decode b_Ref_wouldSend 17 = .ok (.ishl, 1) := by decide +kernel
theorem d_Ref_wouldSend_18 : decode b_Ref_wouldSend 18 = .ok (.iconst (-1), 1) := by decide +kernel
theorem d_Ref_wouldSend_19 : decode b_Ref_wouldSend 19 = .ok (.ixor, 1) := by decide +kernel
theorem d_Ref_wouldSend_20 : decode b_Ref_wouldSend 20 = .ok (.iand, 1) := by decide +kernel
theorem d_Ref_wouldSend_21 : decode b_Ref_wouldSend 21 = .ok (.goto 4, 3) := by decide +kernel
theorem d_Ref_wouldSend_24 : decode b_Ref_wouldSend 24 = .ok (.iload_n 2, 1) := by decide +kernel
theorem d_Ref_wouldSend_25 : decode b_Ref_wouldSend 25 = .ok (.istore_n 3, 1) := by decide +kernel
theorem d_Ref_wouldSend_26 : decode b_Ref_wouldSend 26 = .ok (.iconst 0, 1) := by decide +kernel
theorem d_Ref_wouldSend_27 : decode b_Ref_wouldSend 27 = .ok (.istore 4, 2) := by decide +kernel
theorem d_Ref_wouldSend_29 : decode b_Ref_wouldSend 29 = .ok (.aload_n 0, 1) := by decide +kernel
theorem d_Ref_wouldSend_30 : decode b_Ref_wouldSend 30 = .ok (.iload_n 1, 1) := by decide +kernel
theorem d_Ref_wouldSend_31 : decode b_Ref_wouldSend 31 = .ok (.invokevirtual 139, 3) := by decide +kernel
theorem d_Ref_wouldSend_34 : decode b_Ref_wouldSend 34 = .ok (.iconst 0, 1) := by decide +kernel
theorem d_Ref_wouldSend_35 : decode b_Ref_wouldSend 35 = .ok (.istore 5, 2) := by decide +kernel
theorem d_Ref_wouldSend_37 : decode b_Ref_wouldSend 37 = .ok (.iload 5, 2) := by decide +kernel
theorem d_Ref_wouldSend_39 : decode b_Ref_wouldSend 39 = .ok (.bipush 12, 2) := by decide +kernel
theorem d_Ref_wouldSend_41 : decode b_Ref_wouldSend 41 = .ok (.if_icmp .ge 39, 3) := by decide +kernel
theorem d_Ref_wouldSend_44 : decode b_Ref_wouldSend 44 = .ok (.aload_n 0, 1) := by decide +kernel
theorem d_Ref_wouldSend_45 : decode b_Ref_wouldSend 45 = .ok (.getfield 66, 3) := by decide +kernel
theorem d_Ref_wouldSend_48 : decode b_Ref_wouldSend 48 = .ok (.bipush 12, 2) := by decide +kernel
theorem d_Ref_wouldSend_50 : decode b_Ref_wouldSend 50 = .ok (.iload_n 1, 1) := by decide +kernel
theorem d_Ref_wouldSend_51 : decode b_Ref_wouldSend 51 = .ok (.imul, 1) := by decide +kernel
theorem d_Ref_wouldSend_52 : decode b_Ref_wouldSend 52 = .ok (.iload 5, 2) := by decide +kernel
theorem d_Ref_wouldSend_54 : decode b_Ref_wouldSend 54 = .ok (.iadd, 1) := by decide +kernel
theorem d_Ref_wouldSend_55 : decode b_Ref_wouldSend 55 = .ok (.iaload, 1) := by decide +kernel
theorem d_Ref_wouldSend_56 : decode b_Ref_wouldSend 56 = .ok (.ifCond .le 18, 3) := by decide +kernel
theorem d_Ref_wouldSend_59 : decode b_Ref_wouldSend 59 = .ok (.iload_n 3, 1) := by decide +kernel
theorem d_Ref_wouldSend_60 : decode b_Ref_wouldSend 60 = .ok (.aload_n 0, 1) := by decide +kernel
theorem d_Ref_wouldSend_61 : decode b_Ref_wouldSend 61 = .ok (.iload_n 1, 1) := by decide +kernel
theorem d_Ref_wouldSend_62 : decode b_Ref_wouldSend 62 = .ok (.iload 5, 2) := by decide +kernel
theorem d_Ref_wouldSend_64 : decode b_Ref_wouldSend 64 = .ok (.invokevirtual 142, 3) := by decide +kernel
theorem d_Ref_wouldSend_67 : decode b_Ref_wouldSend 67 = .ok (.iand, 1) := by decide +kernel
theorem d_Ref_wouldSend_68 : decode b_Ref_wouldSend 68 = .ok (.ifCond .eq 6, 3) := by decide +kernel
theorem d_Ref_wouldSend_71 : decode b_Ref_wouldSend 71 = .ok (.iinc 4 1, 3) := by decide +kernel
theorem d_Ref_wouldSend_74 : decode b_Ref_wouldSend 74 = .ok (.iinc 5 1, 3) := by decide +kernel
theorem d_Ref_wouldSend_77 : decode b_Ref_wouldSend 77 = .ok (.goto (-40), 3) := by decide +kernel
theorem d_Ref_wouldSend_80 : decode b_Ref_wouldSend 80 = .ok (.iload 4, 2) := by decide +kernel
theorem d_Ref_wouldSend_82 : decode b_Ref_wouldSend 82 = .ok (.ireturn, 1) := by decide +kernel
theorem d_Ref_start_0 : decode b_Ref_start 0 = .ok (.aload_n 0, 1) := by decide +kernel
theorem d_Ref_start_1 : decode b_Ref_start 1 = .ok (.getfield 186, 3) := by decide +kernel
theorem d_Ref_start_4 : decode b_Ref_start 4 = .ok (.sipush 900, 3) := by decide +kernel
theorem d_Ref_start_7 : decode b_Ref_start 7 = .ok (.if_icmp .eq 20, 3) := by decide +kernel
theorem d_Ref_start_10 : decode b_Ref_start 10 = .ok (.aload_n 0, 1) := by decide +kernel
theorem d_Ref_start_11 : decode b_Ref_start 11 = .ok (.getfield 175, 3) := by decide +kernel
theorem d_Ref_start_14 : decode b_Ref_start 14 = .ok (.aload_n 0, 1) := by decide +kernel
theorem d_Ref_start_15 : decode b_Ref_start 15 = .ok (.iload_n 1, 1) := by decide +kernel
theorem d_Ref_start_16 : decode b_Ref_start 16 = .ok (.iload_n 2, 1) := by decide +kernel
theorem d_Ref_start_17 : decode b_Ref_start 17 = .ok (.invokevirtual 189, 3) := by decide +kernel
theorem d_Ref_start_20 : decode b_Ref_start 20 = .ok (.iadd, 1) := by decide +kernel
theorem d_Ref_start_21 : decode b_Ref_start 21 = .ok (.sipush 4000, 3) := by decide +kernel
theorem d_Ref_start_24 : decode b_Ref_start 24 = .ok (.if_icmp .le 9, 3) := by decide +kernel
theorem d_Ref_start_27 : decode b_Ref_start 27 = .ok (.aload_n 0, 1) := by decide +kernel
theorem d_Ref_start_28 : decode b_Ref_start 28 = .ok (.iconst 1, 1) := by decide +kernel
theorem d_Ref_start_29 : decode b_Ref_start 29 = .ok (.invokevirtual 159, 3) := by decide +kernel
theorem d_Ref_start_32 : decode b_Ref_start 32 = .ok (.ireturn, 1) := by decide +kernel
theorem d_Ref_start_33 : decode b_Ref_start 33 = .ok (.aload_n 0, 1) := by decide +kernel
theorem d_Ref_start_34 : decode b_Ref_start 34 = .ok (.dup, 1) := by decide +kernel
theorem d_Ref_start_35 : decode b_Ref_start 35 = .ok (.getfield 186, 3) := by decide +kernel
theorem d_Ref_start_38 : decode b_Ref_start 38 = .ok (.iconst 1, 1) := by decide +kernel
theorem d_Ref_start_39 : decode b_Ref_start 39 = .ok (.iadd, 1) := by decide +kernel
theorem d_Ref_start_40 : decode b_Ref_start 40 = .ok (.putfield 186, 3) := by decide +kernel
theorem d_Ref_start_43 : decode b_Ref_start 43 = .ok (.aload_n 0, 1) := by decide +kernel
theorem d_Ref_start_44 : decode b_Ref_start 44 = .ok (.iload_n 1, 1) := by decide +kernel
theorem d_Ref_start_45 : decode b_Ref_start 45 = .ok (.aload_n 0, 1) := by decide +kernel
theorem d_Ref_start_46 : decode b_Ref_start 46 = .ok (.getfield 186, 3) := by decide +kernel
theorem d_Ref_start_49 : decode b_Ref_start 49 = .ok (.iload_n 2, 1) := by decide +kernel
theorem d_Ref_start_50 : decode b_Ref_start 50 = .ok (.iconst 0, 1) := by decide +kernel
theorem d_Ref_start_51 : decode b_Ref_start 51 = .ok (.invokevirtual 192, 3) := by decide +kernel
theorem d_Ref_start_54 : decode b_Ref_start 54 = .ok (.aload_n 0, 1) := by decide +kernel
theorem d_Ref_start_55 : decode b_Ref_start 55 = .ok (.getfield 186, 3) := by decide +kernel
theorem d_Ref_start_58 : decode b_Ref_start 58 = .ok (.ireturn, 1) := by decide +kernel
theorem d_Ref_send_0 : decode b_Ref_send 0 = .ok (.aload_n 0, 1) := by decide +kernel
theorem d_Ref_send_1 : decode b_Ref_send 1 = .ok (.aload_n 0, 1) := by decide +kernel
theorem d_Ref_send_2 : decode b_Ref_send 2 = .ok (.iload_n 1, 1) := by decide +kernel
theorem d_Ref_send_3 : decode b_Ref_send 3 = .ok (.invokevirtual 148, 3) := by decide +kernel
theorem d_Ref_send_6 : decode b_Ref_send 6 = .ok (.ifCond .eq 24, 3) := by decide +kernel
theorem d_Ref_send_9 : decode b_Ref_send 9 = .ok (.iload_n 2, 1) := by decide +kernel
theorem d_Ref_send_10 : decode b_Ref_send 10 = .ok (.invokestatic 145, 3) := by decide +kernel
theorem d_Ref_send_13 : decode b_Ref_send 13 = .ok (.ifCond .eq 17, 3) := by decide +kernel
theorem d_Ref_send_16 : decode b_Ref_send 16 = .ok (.aload_n 0, 1) := by decide +kernel
theorem d_Ref_send_17 : decode b_Ref_send 17 = .ok (.getfield 51, 3) := by decide +kernel
theorem d_Ref_send_20 : decode b_Ref_send 20 = .ok (.iload_n 2, 1) := by decide +kernel
theorem d_Ref_send_21 : decode b_Ref_send 21 = .ok (.iaload, 1) := by decide +kernel
theorem d_Ref_send_22 : decode b_Ref_send 22 = .ok (.iload_n 1, 1) := by decide +kernel
theorem d_Ref_send_23 : decode b_Ref_send 23 = .ok (.if_icmp .ne 7, 3) := by decide +kernel
theorem d_Ref_send_26 : decode b_Ref_send 26 = .ok (.iconst 0, 1) := by decide +kernel
theorem d_Ref_send_27 : decode b_Ref_send 27 = .ok (.goto 4, 3) := by decide +kernel
theorem d_Ref_send_30 : decode b_Ref_send 30 = .ok (.iconst 2, 1) := by decide +kernel
theorem d_Ref_send_31 : decode b_Ref_send 31 = .ok (.putfield 72, 3) := by decide +kernel
theorem d_Ref_send_34 : decode b_Ref_send 34 = .ok (.aload_n 0, 1) := by decide +kernel
theorem d_Ref_send_35 : decode b_Ref_send 35 = .ok (.getfield 186, 3) := by decide +kernel
theorem d_Ref_send_38 : decode b_Ref_send 38 = .ok (.sipush 900, 3) := by decide +kernel
theorem d_Ref_send_41 : decode b_Ref_send 41 = .ok (.if_icmp .ne 8, 3) := by decide +kernel
theorem d_Ref_send_44 : decode b_Ref_send 44 = .ok (.aload_n 0, 1) := by decide +kernel
theorem d_Ref_send_45 : decode b_Ref_send 45 = .ok (.iconst 1, 1) := by decide +kernel
theorem d_Ref_send_46 : decode b_Ref_send 46 = .ok (.putfield 72, 3) := by decide +kernel
theorem d_Ref_send_49 : decode b_Ref_send 49 = .ok (.aload_n 0, 1) := by decide +kernel
theorem d_Ref_send_50 : decode b_Ref_send 50 = .ok (.getfield 72, 3) := by decide +kernel
theorem d_Ref_send_53 : decode b_Ref_send 53 = .ok (.ifCond .le 7, 3) := by decide +kernel
theorem d_Ref_send_56 : decode b_Ref_send 56 = .ok (.iconst 0, 1) := by decide +kernel
theorem d_Ref_send_57 : decode b_Ref_send 57 = .ok (.goto 14, 3) := by decide +kernel
theorem d_Ref_send_60 : decode b_Ref_send 60 = .ok (.aload_n 0, 1) := by decide +kernel
theorem d_Ref_send_61 : decode b_Ref_send 61 = .ok (.iload_n 1, 1) := by decide +kernel
theorem d_Ref_send_62 : decode b_Ref_send 62 = .ok (.aload_n 0, 1) := by decide +kernel
theorem d_Ref_send_63 : decode b_Ref_send 63 = .ok (.getfield 54, 3) := by decide +kernel
theorem d_Ref_send_66 : decode b_Ref_send 66 = .ok (.iload_n 2, 1) := by decide +kernel
theorem d_Ref_send_67 : decode b_Ref_send 67 = .ok (.iaload, 1) := by decide +kernel
theorem d_Ref_send_68 : decode b_Ref_send 68 = .ok (.invokevirtual 196, 3) := by decide +kernel
theorem d_Ref_send_71 : decode b_Ref_send 71 = .ok (.ireturn, 1) := by decide +kernel
theorem d_Ref_sendBits_0 : decode b_Ref_sendBits 0 = .ok (.aload_n 0, 1) := by decide +kernel
theorem d_Ref_sendBits_1 : decode b_Ref_sendBits 1 = .ok (.aload_n 0, 1) := by decide +kernel
theorem d_Ref_sendBits_2 : decode b_Ref_sendBits 2 = .ok (.getfield 186, 3) := by decide +kernel
theorem d_Ref_sendBits_5 : decode b_Ref_sendBits 5 = .ok (.sipush 900, 3) := by decide +kernel
theorem d_Ref_sendBits_8 : decode b_Ref_sendBits 8 = .ok (.if_icmp .ne 7, 3) := by decide +kernel
theorem d_Ref_sendBits_11 : decode b_Ref_sendBits 11 = .ok (.iconst 1, 1) := by decide +kernel
theorem d_Ref_sendBits_12 : decode b_Ref_sendBits 12 = .ok (.goto 15, 3) := by decide +kernel
theorem d_Ref_sendBits_15 : decode b_Ref_sendBits 15 = .ok (.iload_n 1, 1) := by decide +kernel
theorem d_Ref_sendBits_16 : decode b_Ref_sendBits 16 = .ok (.invokestatic 82, 3) := by decide +kernel
theorem d_Ref_sendBits_19 : decode b_Ref_sendBits 19 = .ok (.ifCond .eq 7, 3) := by decide +kernel
theorem d_Ref_sendBits_22 : decode b_Ref_sendBits 22 = .ok (.iconst 0, 1) := by decide +kernel
theorem d_Ref_sendBits_23 : decode b_Ref_sendBits 23 = .ok (.goto 4, 3) := by decide +kernel
theorem d_Ref_sendBits_26 : decode b_Ref_sendBits 26 = .ok (.iconst 2, 1) := by decide +kernel
theorem d_Ref_sendBits_27 : decode b_Ref_sendBits 27 = .ok (.putfield 72, 3) := by decide +kernel
theorem d_Ref_sendBits_30 : decode b_Ref_sendBits 30 = .ok (.aload_n 0, 1) := by decide +kernel
theorem d_Ref_sendBits_31 : decode b_Ref_sendBits 31 = .ok (.getfield 72, 3) := by decide +kernel
theorem d_Ref_sendBits_34 : decode b_Ref_sendBits 34 = .ok (.ifCond .le 7, 3) := by decide +kernel
theorem d_Ref_sendBits_37 : decode b_Ref_sendBits 37 = .ok (.iconst 0, 1) := by decide +kernel
theorem d_Ref_sendBits_38 : decode b_Ref_sendBits 38 = .ok (.goto 9, 3) := by decide +kernel
theorem d_Ref_sendBits_41 : decode b_Ref_sendBits 41 = .ok (.aload_n 0, 1) := by decide +kernel
theorem d_Ref_sendBits_42 : decode b_Ref_sendBits 42 = .ok (.iload_n 1, 1) := by decide +kernel
theorem d_Ref_sendBits_43 : decode b_Ref_sendBits 43 = .ok (.iload_n 2, 1) := by decide +kernel
theorem d_Ref_sendBits_44 : decode b_Ref_sendBits 44 = .ok (.invokevirtual 196, 3) := by decide +kernel
theorem d_Ref_sendBits_47 : decode b_Ref_sendBits 47 = .ok (.ireturn, 1) := by decide +kernel
theorem d_Ref_move_0 : decode b_Ref_move 0 = .ok (.aload_n 0, 1) := by decide +kernel
theorem d_Ref_move_1 : decode b_Ref_move 1 = .ok (.iload_n 1, 1) := by decide +kernel
theorem d_Ref_move_2 : decode b_Ref_move 2 = .ok (.iconst (-1), 1) := by decide +kernel
theorem d_Ref_move_3 : decode b_Ref_move 3 = .ok (.if_icmp .eq 17, 3) := by decide +kernel
theorem d_Ref_move_6 : decode b_Ref_move 6 = .ok (.aload_n 0, 1) := by decide +kernel
theorem d_Ref_move_7 : decode b_Ref_move 7 = .ok (.getfield 175, 3) := by decide +kernel
theorem d_Ref_move_10 : decode b_Ref_move 10 = .ok (.sipush 3900, 3) := by decide +kernel
theorem d_Ref_move_13 : decode b_Ref_move 13 = .ok (.if_icmp .lt 7, 3) := by decide +kernel
theorem d_Ref_move_16 : decode b_Ref_move 16 = .ok (.iconst 1, 1) := by decide +kernel
theorem d_Ref_move_17 : decode b_Ref_move 17 = .ok (.goto 25, 3) := by decide +kernel
theorem d_Ref_move_20 : decode b_Ref_move 20 = .ok (.iload_n 1, 1) := by decide +kernel
theorem d_Ref_move_21 : decode b_Ref_move 21 = .ok (.iconst (-1), 1) := by decide +kernel
theorem d_Ref_move_22 : decode b_Ref_move 22 = .ok (.if_icmp .eq 15, 3) := by decide +kernel
theorem d_Ref_move_25 : decode b_Ref_move 25 = .ok (.iload_n 1, 1) := by decide +kernel
theorem d_Ref_move_26 : decode b_Ref_move 26 = .ok (.i2l, 1) := by decide +kernel
theorem d_Ref_move_27 : decode b_Ref_move 27 = .ok (.lconst 1, 1) := by decide +kernel
theorem d_Ref_move_28 : decode b_Ref_move 28 = .ok (.ldc2_w 116, 3) := by decide +kernel
theorem d_Ref_move_31 : decode b_Ref_move 31 = .ok (.invokestatic 78, 3) := by decide +kernel
theorem d_Ref_move_34 : decode b_Ref_move 34 = .ok (.ifCond .eq 7, 3) := by decide +kernel
theorem d_Ref_move_37 : decode b_Ref_move 37 = .ok (.iconst 0, 1) := by decide +kernel
theorem d_Ref_move_38 : decode b_Ref_move 38 = .ok (.goto 4, 3) := by decide +kernel
theorem d_Ref_move_41 : decode b_Ref_move 41 = .ok (.iconst 2, 1) := by decide +kernel
theorem d_Ref_move_42 : decode b_Ref_move 42 = .ok (.putfield 72, 3) := by decide +kernel
theorem d_Ref_move_45 : decode b_Ref_move 45 = .ok (.aload_n 0, 1) := by decide +kernel
theorem d_Ref_move_46 : decode b_Ref_move 46 = .ok (.getfield 72, 3) := by decide +kernel
theorem d_Ref_move_49 : decode b_Ref_move 49 = .ok (.ifCond .le 5, 3) := by decide +kernel
theorem d_Ref_move_52 : decode b_Ref_move 52 = .ok (.iconst 0, 1) := by decide +kernel
theorem d_Ref_move_53 : decode b_Ref_move 53 = .ok (.ireturn, 1) := by decide +kernel
theorem d_Ref_move_54 : decode b_Ref_move 54 = .ok (.iload_n 1, 1) := by decide +kernel
theorem d_Ref_move_55 : decode b_Ref_move 55 = .ok (.ifCond .ge 7, 3) := by decide +kernel
theorem d_Ref_move_58 : decode b_Ref_move 58 = .ok (.iconst 1, 1) := by decide +kernel
theorem d_Ref_move_59 : decode b_Ref_move 59 = .ok (.goto 4, 3) := by decide +kernel
theorem d_Ref_move_62 : decode b_Ref_move 62 = .ok (.iload_n 1, 1) := by decide +kernel
theorem d_Ref_move_63 : decode b_Ref_move 63 = .ok (.istore_n 2, 1) := by decide +kernel
theorem d_Ref_move_64 : decode b_Ref_move 64 = .ok (.iconst 0, 1) := by decide +kernel
theorem d_Ref_move_65 : decode b_Ref_move 65 = .ok (.istore_n 3, 1) := by decide +kernel
theorem d_Ref_move_66 : decode b_Ref_move 66 = .ok (.iload_n 3, 1) := by decide +kernel
theorem d_Ref_move_67 : decode b_Ref_move 67 = .ok (.iload_n 2, 1) := by decide +kernel
theorem d_Ref_move_68 : decode b_Ref_move 68 = .ok (.if_icmp .ge 153, 3) := by decide +kernel
theorem d_Ref_move_71 : decode b_Ref_move 71 = .ok (.aload_n 0, 1) := by decide +kernel
theorem d_Ref_move_72 : decode b_Ref_move 72 = .ok (.getfield 175, 3) := by decide +kernel
theorem d_Ref_move_75 : decode b_Ref_move 75 = .ok (.ifCond .le 146, 3) := by decide +kernel
theorem d_Ref_move_78 : decode b_Ref_move 78 = .ok (.iload_n 1, 1) := by decide +kernel
theorem d_Ref_move_79 : decode b_Ref_move 79 = .ok (.ifCond .lt 13, 3) := by decide +kernel
theorem d_Ref_move_82 : decode b_Ref_move 82 = .ok (.aload_n 0, 1) := by decide +kernel
theorem d_Ref_move_83 : decode b_Ref_move 83 = .ok (.getfield 175, 3) := by decide +kernel
theorem d_Ref_move_86 : decode b_Ref_move 86 = .ok (.sipush 3900, 3) := by decide +kernel
theorem d_Ref_move_89 : decode b_Ref_move 89 = .ok (.if_icmp .ge 132, 3) := by decide +kernel
theorem d_Ref_move_92 : decode b_Ref_move 92 = .ok (.aload_n 0, 1) := by decide +kernel
theorem d_Ref_move_93 : decode b_Ref_move 93 = .ok (.getfield 45, 3) := by decide +kernel
theorem d_Ref_move_96 : decode b_Ref_move 96 = .ok (.aload_n 0, 1) := by decide +kernel
theorem d_Ref_move_97 : decode b_Ref_move 97 = .ok (.getfield 172, 3) := by decide +kernel
theorem d_Ref_move_100 : decode b_Ref_move 100 = .ok (.laload, 1) := by decide +kernel
theorem d_Ref_move_101 : decode b_Ref_move 101 = .ok (.lstore 4, 2) := by decide +kernel
theorem d_Ref_move_103 : decode b_Ref_move 103 = .ok (.aload_n 0, 1) := by decide +kernel
theorem d_Ref_move_104 : decode b_Ref_move 104 = .ok (.aload_n 0, 1) := by decide +kernel
theorem d_Ref_move_105 : decode b_Ref_move 105 = .ok (.getfield 172, 3) := by decide +kernel
theorem d_Ref_move_108 : decode b_Ref_move 108 = .ok (.iconst 1, 1) := by decide +kernel
theorem d_Ref_move_109 : decode b_Ref_move 109 = .ok (.iadd, 1) := by decide +kernel
theorem d_Ref_move_110 : decode b_Ref_move 110 = .ok (.sipush 4000, 3) := by decide +kernel
theorem d_Ref_move_113 : decode b_Ref_move 113 = .ok (.irem, 1) := by decide +kernel
theorem d_Ref_move_114 : decode b_Ref_move 114 = .ok (.putfield 172, 3) := by decide +kernel
theorem d_Ref_move_117 : decode b_Ref_move 117 = .ok (.aload_n 0, 1) := by decide +kernel
theorem d_Ref_move_118 : decode b_Ref_move 118 = .ok (.dup, 1) := by decide +kernel
theorem d_Ref_move_119 : decode b_Ref_move 119 = .ok (.getfield 175, 3) := by decide +kernel
theorem d_Ref_move_122 : decode b_Ref_move 122 = .ok (.iconst 1, 1) := by decide +kernel
theorem d_Ref_move_123 : decode b_Ref_move 123 = .ok (.isub, 1) := by decide +kernel
theorem d_Ref_move_124 : decode b_Ref_move 124 = .ok (.putfield 175, 3) := by decide +kernel
theorem d_Ref_move_127 : decode b_Ref_move 127 = .ok (.iinc 3 1, 3) := by decide +kernel
theorem d_Ref_move_130 : decode b_Ref_move 130 = .ok (.lload 4, 2) := by decide +kernel
theorem d_Ref_move_132 : decode b_Ref_move 132 = .ok (.bipush 44, 2) := by decide +kernel
theorem d_Ref_move_134 : decode b_Ref_move 134 = .ok (.lshr, 1) := by decide +kernel
theorem d_Ref_move_135 : decode b_Ref_move 135 = .ok (.ldc2_w 199, 3) := by decide +kernel
theorem d_Ref_move_138 : decode b_Ref_move 138 = .ok (.land, 1) := by decide +kernel
theorem d_Ref_move_139 : decode b_Ref_move 139 = .ok (.l2i, 1) := by decide +kernel
theorem d_Ref_move_140 : decode b_Ref_move 140 = .ok (.istore 6, 2) := by decide +kernel
theorem d_Ref_move_142 : decode b_Ref_move 142 = .ok (.lload 4, 2) := by decide +kernel
theorem d_Ref_move_144 : decode b_Ref_move 144 = .ok (.bipush 40, 2) := by decide +kernel
theorem d_Ref_move_146 : decode b_Ref_move 146 = .ok (.lshr, 1) := by decide +kernel
theorem d_Ref_move_147 : decode b_Ref_move 147 = .ok (.ldc2_w 199, 3) := by decide +kernel
theorem d_Ref_move_150 : decode b_Ref_move 150 = .ok (.land, 1) := by decide +kernel
theorem d_Ref_move_151 : decode b_Ref_move 151 = .ok (.l2i, 1) := by decide +kernel
theorem d_Ref_move_152 : decode b_Ref_move 152 = .ok (.istore 7, 2) := by decide +kernel
theorem d_Ref_move_154 : decode b_Ref_move 154 = .ok (.iload_n 1, 1) := by decide +kernel
theorem d_Ref_move_155 : decode b_Ref_move 155 = .ok (.ifCond .lt 20, 3) := by decide +kernel
theorem d_Ref_move_158 : decode b_Ref_move 158 = .ok (.aload_n 0, 1) := by decide +kernel
theorem d_Ref_move_159 : decode b_Ref_move 159 = .ok (.getfield 13, 3) := by decide +kernel
theorem d_Ref_move_162 : decode b_Ref_move 162 = .ok (.bipush 12, 2) := by decide +kernel
theorem d_Ref_move_164 : decode b_Ref_move 164 = .ok (.iload 6, 2) := by decide +kernel
theorem d_Ref_move_166 : decode b_Ref_move 166 = .ok (.imul, 1) := by decide +kernel
theorem d_Ref_move_167 : decode b_Ref_move 167 = .ok (.iload 7, 2) := by decide +kernel
theorem d_Ref_move_169 : decode b_Ref_move 169 = .ok (.iadd, 1) := by decide +kernel
theorem d_Ref_move_170 : decode b_Ref_move 170 = .ok (.iaload, 1) := by decide +kernel
theorem d_Ref_move_171 : decode b_Ref_move 171 = .ok (.iconst 1, 1) := by decide +kernel
theorem d_Ref_move_172 : decode b_Ref_move 172 = .ok (.if_icmp .eq 21, 3) := by decide +kernel
theorem d_Ref_move_175 : decode b_Ref_move 175 = .ok (.aload_n 0, 1) := by decide +kernel
theorem d_Ref_move_176 : decode b_Ref_move 176 = .ok (.dup, 1) := by decide +kernel
theorem d_Ref_move_177 : decode b_Ref_move 177 = .ok (.getfield 180, 3) := by decide +kernel
theorem d_Ref_move_180 : decode b_Ref_move 180 = .ok (.lload 4, 2) := by decide +kernel
theorem d_Ref_move_182 : decode b_Ref_move 182 = .ok (.l2i, 1) := by decide +kernel
theorem d_Ref_move_183 : decode b_Ref_move 183 = .ok (.invokestatic 183, 3) := by decide +kernel
theorem d_Ref_move_186 : decode b_Ref_move 186 = .ok (.iadd, 1) := by decide +kernel
theorem d_Ref_move_187 : decode b_Ref_move 187 = .ok (.putfield 180, 3) := by decide +kernel
theorem d_Ref_move_190 : decode b_Ref_move 190 = .ok (.goto 28, 3) := by decide +kernel
theorem d_Ref_move_193 : decode b_Ref_move 193 = .ok (.aload_n 0, 1) := by decide +kernel
theorem d_Ref_move_194 : decode b_Ref_move 194 = .ok (.iload 7, 2) := by decide +kernel
theorem d_Ref_move_196 : decode b_Ref_move 196 = .ok (.lload 4, 2) := by decide +kernel
theorem d_Ref_move_198 : decode b_Ref_move 198 = .ok (.bipush 48, 2) := by decide +kernel
theorem d_Ref_move_200 : decode b_Ref_move 200 = .ok (.lshr, 1) := by decide +kernel
theorem d_Ref_move_201 : decode b_Ref_move 201 = .ok (.l2i, 1) := by decide +kernel
theorem d_Ref_move_202 : decode b_Ref_move 202 = .ok (.lload 4, 2) := by decide +kernel
theorem d_Ref_move_204 : decode b_Ref_move 204 = .ok (.l2i, 1) := by decide +kernel
theorem d_Ref_move_205 : decode b_Ref_move 205 = .ok (.lload 4, 2) := by decide +kernel
theorem d_Ref_move_207 : decode b_Ref_move 207 = .ok (.bipush 32, 2) := by decide +kernel
theorem d_Ref_move_209 : decode b_Ref_move 209 = .ok (.lshr, 1) := by decide +kernel
theorem d_Ref_move_210 : decode b_Ref_move 210 = .ok (.ldc2_w 201, 3) := by decide +kernel
theorem d_Ref_move_213 : decode b_Ref_move 213 = .ok (.land, 1) := by decide +kernel
theorem d_Ref_move_214 : decode b_Ref_move 214 = .ok (.l2i, 1) := by decide +kernel
theorem d_Ref_move_215 : decode b_Ref_move 215 = .ok (.invokevirtual 192, 3) := by decide +kernel
theorem d_Ref_move_218 : decode b_Ref_move 218 = .ok (.goto (-152), 3) := by decide +kernel
theorem d_Ref_move_221 : decode b_Ref_move 221 = .ok (.iload_n 3, 1) := by decide +kernel
theorem d_Ref_move_222 : decode b_Ref_move 222 = .ok (.ireturn, 1) := by decide +kernel
theorem d_Ref_isPacket_0 : decode b_Ref_isPacket 0 = .ok (.aload_n 0, 1) := by decide +kernel
theorem d_Ref_isPacket_1 : decode b_Ref_isPacket 1 = .ok (.iload_n 1, 1) := by decide +kernel
theorem d_Ref_isPacket_2 : decode b_Ref_isPacket 2 = .ok (.i2l, 1) := by decide +kernel
theorem d_Ref_isPacket_3 : decode b_Ref_isPacket 3 = .ok (.lconst 1, 1) := by decide +kernel
theorem d_Ref_isPacket_4 : decode b_Ref_isPacket 4 = .ok (.aload_n 0, 1) := by decide +kernel
theorem d_Ref_isPacket_5 : decode b_Ref_isPacket 5 = .ok (.getfield 186, 3) := by decide +kernel
theorem d_Ref_isPacket_8 : decode b_Ref_isPacket 8 = .ok (.i2l, 1) := by decide +kernel
theorem d_Ref_isPacket_9 : decode b_Ref_isPacket 9 = .ok (.invokestatic 78, 3) := by decide +kernel
theorem d_Ref_isPacket_12 : decode b_Ref_isPacket 12 = .ok (.ifCond .eq 7, 3) := by decide +kernel
theorem d_Ref_isPacket_15 : decode b_Ref_isPacket 15 = .ok (.iconst 0, 1) := by decide +kernel
theorem d_Ref_isPacket_16 : decode b_Ref_isPacket 16 = .ok (.goto 4, 3) := by decide +kernel
theorem d_Ref_isPacket_19 : decode b_Ref_isPacket 19 = .ok (.iconst 1, 1) := by decide +kernel
theorem d_Ref_isPacket_20 : decode b_Ref_isPacket 20 = .ok (.putfield 72, 3) := by decide +kernel
theorem d_Ref_isPacket_23 : decode b_Ref_isPacket 23 = .ok (.aload_n 0, 1) := by decide +kernel
theorem d_Ref_isPacket_24 : decode b_Ref_isPacket 24 = .ok (.getfield 72, 3) := by decide +kernel
theorem d_Ref_isPacket_27 : decode b_Ref_isPacket 27 = .ok (.ifCond .ne 7, 3) := by decide +kernel
theorem d_Ref_isPacket_30 : decode b_Ref_isPacket 30 = .ok (.iconst 1, 1) := by decide +kernel
theorem d_Ref_isPacket_31 : decode b_Ref_isPacket 31 = .ok (.goto 4, 3) := by decide +kernel
theorem d_Ref_isPacket_34 : decode b_Ref_isPacket 34 = .ok (.iconst 0, 1) := by decide +kernel
theorem d_Ref_isPacket_35 : decode b_Ref_isPacket 35 = .ok (.ireturn, 1) := by decide +kernel
theorem d_Ref_delivered_0 : decode b_Ref_delivered 0 = .ok (.aload_n 0, 1) := by decide +kernel
theorem d_Ref_delivered_1 : decode b_Ref_delivered 1 = .ok (.iload_n 1, 1) := by decide +kernel
theorem d_Ref_delivered_2 : decode b_Ref_delivered 2 = .ok (.invokevirtual 203, 3) := by decide +kernel
theorem d_Ref_delivered_5 : decode b_Ref_delivered 5 = .ok (.ifCond .eq 12, 3) := by decide +kernel
theorem d_Ref_delivered_8 : decode b_Ref_delivered 8 = .ok (.aload_n 0, 1) := by decide +kernel
theorem d_Ref_delivered_9 : decode b_Ref_delivered 9 = .ok (.getfield 60, 3) := by decide +kernel
theorem d_Ref_delivered_12 : decode b_Ref_delivered 12 = .ok (.iload_n 1, 1) := by decide +kernel
theorem d_Ref_delivered_13 : decode b_Ref_delivered 13 = .ok (.iaload, 1) := by decide +kernel
theorem d_Ref_delivered_14 : decode b_Ref_delivered 14 = .ok (.goto 4, 3) := by decide +kernel
theorem d_Ref_delivered_17 : decode b_Ref_delivered 17 = .ok (.iconst 0, 1) := by decide +kernel
theorem d_Ref_delivered_18 : decode b_Ref_delivered 18 = .ok (.ireturn, 1) := by decide +kernel
theorem d_Ref_crossings_0 : decode b_Ref_crossings 0 = .ok (.aload_n 0, 1) := by decide +kernel
theorem d_Ref_crossings_1 : decode b_Ref_crossings 1 = .ok (.iload_n 1, 1) := by decide +kernel
theorem d_Ref_crossings_2 : decode b_Ref_crossings 2 = .ok (.invokevirtual 203, 3) := by decide +kernel
theorem d_Ref_crossings_5 : decode b_Ref_crossings 5 = .ok (.ifCond .eq 12, 3) := by decide +kernel
theorem d_Ref_crossings_8 : decode b_Ref_crossings 8 = .ok (.aload_n 0, 1) := by decide +kernel
theorem d_Ref_crossings_9 : decode b_Ref_crossings 9 = .ok (.getfield 63, 3) := by decide +kernel
theorem d_Ref_crossings_12 : decode b_Ref_crossings 12 = .ok (.iload_n 1, 1) := by decide +kernel
theorem d_Ref_crossings_13 : decode b_Ref_crossings 13 = .ok (.iaload, 1) := by decide +kernel
theorem d_Ref_crossings_14 : decode b_Ref_crossings 14 = .ok (.goto 4, 3) := by decide +kernel
theorem d_Ref_crossings_17 : decode b_Ref_crossings 17 = .ok (.iconst 0, 1) := by decide +kernel
theorem d_Ref_crossings_18 : decode b_Ref_crossings 18 = .ok (.ireturn, 1) := by decide +kernel
theorem d_Ref_count_0 : decode b_Ref_count 0 = .ok (.aload_n 0, 1) := by decide +kernel
theorem d_Ref_count_1 : decode b_Ref_count 1 = .ok (.iconst 0, 1) := by decide +kernel
theorem d_Ref_count_2 : decode b_Ref_count 2 = .ok (.putfield 72, 3) := by decide +kernel
theorem d_Ref_count_5 : decode b_Ref_count 5 = .ok (.iload_n 1, 1) := by decide +kernel
theorem d_Ref_count_6 : decode b_Ref_count 6 = .ok (.tableswitch 86 0 7 #[46, 51, 56, 61, 66, 71, 76, 81], 46) := by decide +kernel
theorem d_Ref_count_52 : decode b_Ref_count 52 = .ok (.aload_n 0, 1) := by decide +kernel
theorem d_Ref_count_53 : decode b_Ref_count 53 = .ok (.getfield 92, 3) := by decide +kernel
theorem d_Ref_count_56 : decode b_Ref_count 56 = .ok (.ireturn, 1) := by decide +kernel
theorem d_Ref_count_57 : decode b_Ref_count 57 = .ok (.aload_n 0, 1) := by decide +kernel
theorem d_Ref_count_58 : decode b_Ref_count 58 = .ok (.getfield 175, 3) := by decide +kernel
theorem d_Ref_count_61 : decode b_Ref_count 61 = .ok (.ireturn, 1) := by decide +kernel
theorem d_Ref_count_62 : decode b_Ref_count 62 = .ok (.aload_n 0, 1) := by decide +kernel
theorem d_Ref_count_63 : decode b_Ref_count 63 = .ok (.getfield 151, 3) := by decide +kernel
theorem d_Ref_count_66 : decode b_Ref_count 66 = .ok (.ireturn, 1) := by decide +kernel
theorem d_Ref_count_67 : decode b_Ref_count 67 = .ok (.aload_n 0, 1) := by decide +kernel
theorem d_Ref_count_68 : decode b_Ref_count 68 = .ok (.getfield 186, 3) := by decide +kernel
theorem d_Ref_count_71 : decode b_Ref_count 71 = .ok (.ireturn, 1) := by decide +kernel
theorem d_Ref_count_72 : decode b_Ref_count 72 = .ok (.aload_n 0, 1) := by decide +kernel
theorem d_Ref_count_73 : decode b_Ref_count 73 = .ok (.getfield 166, 3) := by decide +kernel
theorem d_Ref_count_76 : decode b_Ref_count 76 = .ok (.ireturn, 1) := by decide +kernel
theorem d_Ref_count_77 : decode b_Ref_count 77 = .ok (.aload_n 0, 1) := by decide +kernel
theorem d_Ref_count_78 : decode b_Ref_count 78 = .ok (.getfield 169, 3) := by decide +kernel
theorem d_Ref_count_81 : decode b_Ref_count 81 = .ok (.ireturn, 1) := by decide +kernel
theorem d_Ref_count_82 : decode b_Ref_count 82 = .ok (.aload_n 0, 1) := by decide +kernel
theorem d_Ref_count_83 : decode b_Ref_count 83 = .ok (.getfield 180, 3) := by decide +kernel
theorem d_Ref_count_86 : decode b_Ref_count 86 = .ok (.ireturn, 1) := by decide +kernel
theorem d_Ref_count_87 : decode b_Ref_count 87 = .ok (.aload_n 0, 1) := by decide +kernel
theorem d_Ref_count_88 : decode b_Ref_count 88 = .ok (.getfield 126, 3) := by decide +kernel
theorem d_Ref_count_91 : decode b_Ref_count 91 = .ok (.ireturn, 1) := by decide +kernel
theorem d_Ref_count_92 : decode b_Ref_count 92 = .ok (.iconst (-1), 1) := by decide +kernel
theorem d_Ref_count_93 : decode b_Ref_count 93 = .ok (.ireturn, 1) := by decide +kernel
