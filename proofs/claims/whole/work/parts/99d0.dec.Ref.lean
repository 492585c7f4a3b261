/-! Decode rows by program. -/
theorem d_Ref_init_0 : decode b_Ref_init 0 = .ok (.aload_n 0, 1) := by decide +kernel
theorem d_Ref_init_1 : decode b_Ref_init 1 = .ok (.invokespecial 1, 3) := by decide +kernel
theorem d_Ref_init_4 : decode b_Ref_init 4 = .ok (.aload_n 0, 1) := by decide +kernel
theorem d_Ref_init_5 : decode b_Ref_init 5 = .ok (.bipush 12, 2) := by decide +kernel
theorem d_Ref_init_7 : decode b_Ref_init 7 = .ok (.newarray .int, 2) := by decide +kernel
theorem d_Ref_init_9 : decode b_Ref_init 9 = .ok (.putfield 7, 3) := by decide +kernel
theorem d_Ref_init_12 : decode b_Ref_init 12 = .ok (.aload_n 0, 1) := by decide +kernel
theorem d_Ref_init_13 : decode b_Ref_init 13 = .ok (.sipush 144, 3) := by decide +kernel
theorem d_Ref_init_16 : decode b_Ref_init 16 = .ok (.newarray .int, 2) := by decide +kernel
theorem d_Ref_init_18 : decode b_Ref_init 18 = .ok (.putfield 13, 3) := by decide +kernel
theorem d_Ref_init_21 : decode b_Ref_init 21 = .ok (.aload_n 0, 1) := by decide +kernel
theorem d_Ref_init_22 : decode b_Ref_init 22 = .ok (.sipush 144, 3) := by decide +kernel
theorem d_Ref_init_25 : decode b_Ref_init 25 = .ok (.newarray .int, 2) := by decide +kernel
theorem d_Ref_init_27 : decode b_Ref_init 27 = .ok (.putfield 16, 3) := by decide +kernel
theorem d_Ref_init_30 : decode b_Ref_init 30 = .ok (.aload_n 0, 1) := by decide +kernel
theorem d_Ref_init_31 : decode b_Ref_init 31 = .ok (.sipush 144, 3) := by decide +kernel
theorem d_Ref_init_34 : decode b_Ref_init 34 = .ok (.newarray .boolean, 2) := by decide +kernel
theorem d_Ref_init_36 : decode b_Ref_init 36 = .ok (.putfield 19, 3) := by decide +kernel
theorem d_Ref_init_39 : decode b_Ref_init 39 = .ok (.aload_n 0, 1) := by decide +kernel
theorem d_Ref_init_40 : decode b_Ref_init 40 = .ok (.sipush 1600, 3) := by decide +kernel
theorem d_Ref_init_43 : decode b_Ref_init 43 = .ok (.newarray .int, 2) := by decide +kernel
theorem d_Ref_init_45 : decode b_Ref_init 45 = .ok (.putfield 23, 3) := by decide +kernel
theorem d_Ref_init_48 : decode b_Ref_init 48 = .ok (.aload_n 0, 1) := by decide +kernel
theorem d_Ref_init_49 : decode b_Ref_init 49 = .ok (.sipush 1600, 3) := by decide +kernel
theorem d_Ref_init_52 : decode b_Ref_init 52 = .ok (.newarray .int, 2) := by decide +kernel
theorem d_Ref_init_54 : decode b_Ref_init 54 = .ok (.putfield 26, 3) := by decide +kernel
theorem d_Ref_init_57 : decode b_Ref_init 57 = .ok (.aload_n 0, 1) := by decide +kernel
theorem d_Ref_init_58 : decode b_Ref_init 58 = .ok (.sipush 1600, 3) := by decide +kernel
theorem d_Ref_init_61 : decode b_Ref_init 61 = .ok (.newarray .long, 2) := by decide +kernel
theorem d_Ref_init_63 : decode b_Ref_init 63 = .ok (.putfield 29, 3) := by decide +kernel
theorem d_Ref_init_66 : decode b_Ref_init 66 = .ok (.aload_n 0, 1) := by decide +kernel
theorem d_Ref_init_67 : decode b_Ref_init 67 = .ok (.sipush 1600, 3) := by decide +kernel
theorem d_Ref_init_70 : decode b_Ref_init 70 = .ok (.newarray .long, 2) := by decide +kernel
theorem d_Ref_init_72 : decode b_Ref_init 72 = .ok (.putfield 33, 3) := by decide +kernel
theorem d_Ref_init_75 : decode b_Ref_init 75 = .ok (.aload_n 0, 1) := by decide +kernel
theorem d_Ref_init_76 : decode b_Ref_init 76 = .ok (.sipush 1600, 3) := by decide +kernel
theorem d_Ref_init_79 : decode b_Ref_init 79 = .ok (.newarray .boolean, 2) := by decide +kernel
theorem d_Ref_init_81 : decode b_Ref_init 81 = .ok (.putfield 36, 3) := by decide +kernel
theorem d_Ref_init_84 : decode b_Ref_init 84 = .ok (.aload_n 0, 1) := by decide +kernel
theorem d_Ref_init_85 : decode b_Ref_init 85 = .ok (.sipush 144, 3) := by decide +kernel
theorem d_Ref_init_88 : decode b_Ref_init 88 = .ok (.newarray .int, 2) := by decide +kernel
theorem d_Ref_init_90 : decode b_Ref_init 90 = .ok (.putfield 39, 3) := by decide +kernel
theorem d_Ref_init_93 : decode b_Ref_init 93 = .ok (.aload_n 0, 1) := by decide +kernel
theorem d_Ref_init_94 : decode b_Ref_init 94 = .ok (.sipush 4000, 3) := by decide +kernel
theorem d_Ref_init_97 : decode b_Ref_init 97 = .ok (.newarray .int, 2) := by decide +kernel
theorem d_Ref_init_99 : decode b_Ref_init 99 = .ok (.putfield 42, 3) := by decide +kernel
theorem d_Ref_init_102 : decode b_Ref_init 102 = .ok (.aload_n 0, 1) := by decide +kernel
theorem d_Ref_init_103 : decode b_Ref_init 103 = .ok (.sipush 4000, 3) := by decide +kernel
theorem d_Ref_init_106 : decode b_Ref_init 106 = .ok (.newarray .long, 2) := by decide +kernel
theorem d_Ref_init_108 : decode b_Ref_init 108 = .ok (.putfield 45, 3) := by decide +kernel
theorem d_Ref_init_111 : decode b_Ref_init 111 = .ok (.aload_n 0, 1) := by decide +kernel
theorem d_Ref_init_112 : decode b_Ref_init 112 = .ok (.sipush 4000, 3) := by decide +kernel
theorem d_Ref_init_115 : decode b_Ref_init 115 = .ok (.newarray .int, 2) := by decide +kernel
theorem d_Ref_init_117 : decode b_Ref_init 117 = .ok (.putfield 48, 3) := by decide +kernel
theorem d_Ref_init_120 : decode b_Ref_init 120 = .ok (.aload_n 0, 1) := by decide +kernel
theorem d_Ref_init_121 : decode b_Ref_init 121 = .ok (.bipush 8, 2) := by decide +kernel
theorem d_Ref_init_123 : decode b_Ref_init 123 = .ok (.newarray .int, 2) := by decide +kernel
theorem d_Ref_init_125 : decode b_Ref_init 125 = .ok (.putfield 51, 3) := by decide +kernel
theorem d_Ref_init_128 : decode b_Ref_init 128 = .ok (.aload_n 0, 1) := by decide +kernel
theorem d_Ref_init_129 : decode b_Ref_init 129 = .ok (.bipush 8, 2) := by decide +kernel
theorem d_Ref_init_131 : decode b_Ref_init 131 = .ok (.newarray .int, 2) := by decide +kernel
theorem d_Ref_init_133 : decode b_Ref_init 133 = .ok (.putfield 54, 3) := by decide +kernel
theorem d_Ref_init_136 : decode b_Ref_init 136 = .ok (.aload_n 0, 1) := by decide +kernel
theorem d_Ref_init_137 : decode b_Ref_init 137 = .ok (.bipush 96, 2) := by decide +kernel
theorem d_Ref_init_139 : decode b_Ref_init 139 = .ok (.newarray .int, 2) := by decide +kernel
theorem d_Ref_init_141 : decode b_Ref_init 141 = .ok (.putfield 57, 3) := by decide +kernel
theorem d_Ref_init_144 : decode b_Ref_init 144 = .ok (.aload_n 0, 1) := by decide +kernel
theorem d_Ref_init_145 : decode b_Ref_init 145 = .ok (.sipush 901, 3) := by decide +kernel
theorem d_Ref_init_148 : decode b_Ref_init 148 = .ok (.newarray .int, 2) := by decide +kernel
theorem d_Ref_init_150 : decode b_Ref_init 150 = .ok (.putfield 60, 3) := by decide +kernel
theorem d_Ref_init_153 : decode b_Ref_init 153 = .ok (.aload_n 0, 1) := by decide +kernel
theorem d_Ref_init_154 : decode b_Ref_init 154 = .ok (.sipush 901, 3) := by decide +kernel
theorem d_Ref_init_157 : decode b_Ref_init 157 = .ok (.newarray .int, 2) := by decide +kernel
theorem d_Ref_init_159 : decode b_Ref_init 159 = .ok (.putfield 63, 3) := by decide +kernel
theorem d_Ref_init_162 : decode b_Ref_init 162 = .ok (.aload_n 0, 1) := by decide +kernel
theorem d_Ref_init_163 : decode b_Ref_init 163 = .ok (.sipush 144, 3) := by decide +kernel
theorem d_Ref_init_166 : decode b_Ref_init 166 = .ok (.newarray .int, 2) := by decide +kernel
theorem d_Ref_init_168 : decode b_Ref_init 168 = .ok (.putfield 66, 3) := by decide +kernel
theorem d_Ref_init_171 : decode b_Ref_init 171 = .ok (.aload_n 0, 1) := by decide +kernel
theorem d_Ref_init_172 : decode b_Ref_init 172 = .ok (.sipush 144, 3) := by decide +kernel
theorem d_Ref_init_175 : decode b_Ref_init 175 = .ok (.newarray .int, 2) := by decide +kernel
theorem d_Ref_init_177 : decode b_Ref_init 177 = .ok (.putfield 69, 3) := by decide +kernel
theorem d_Ref_init_180 : decode b_Ref_init 180 = .ok (.iconst 0, 1) := by decide +kernel
theorem d_Ref_init_181 : decode b_Ref_init 181 = .ok (.istore_n 1, 1) := by decide +kernel
theorem d_Ref_init_182 : decode b_Ref_init 182 = .ok (.iload_n 1, 1) := by decide +kernel
theorem d_Ref_init_183 : decode b_Ref_init 183 = .ok (.bipush 12, 2) := by decide +kernel
theorem d_Ref_init_185 : decode b_Ref_init 185 = .ok (.if_icmp .ge 16, 3) := by decide +kernel
theorem d_Ref_init_188 : decode b_Ref_init 188 = .ok (.aload_n 0, 1) := by decide +kernel
theorem d_Ref_init_189 : decode b_Ref_init 189 = .ok (.getfield 7, 3) := by decide +kernel
theorem d_Ref_init_192 : decode b_Ref_init 192 = .ok (.iload_n 1, 1) := by decide +kernel
theorem d_Ref_init_193 : decode b_Ref_init 193 = .ok (.iconst (-1), 1) := by decide +kernel
theorem d_Ref_init_194 : decode b_Ref_init 194 = .ok (.iastore, 1) := by decide +kernel
theorem d_Ref_init_195 : decode b_Ref_init 195 = .ok (.iinc 1 1, 3) := by decide +kernel
theorem d_Ref_init_198 : decode b_Ref_init 198 = .ok (.goto (-16), 3) := by decide +kernel
theorem d_Ref_init_201 : decode b_Ref_init 201 = .ok (.iconst 0, 1) := by decide +kernel
theorem d_Ref_init_202 : decode b_Ref_init 202 = .ok (.istore_n 1, 1) := by decide +kernel
theorem d_Ref_init_203 : decode b_Ref_init 203 = .ok (.iload_n 1, 1) := by decide +kernel
theorem d_Ref_init_204 : decode b_Ref_init 204 = .ok (.sipush 144, 3) := by decide +kernel
theorem d_Ref_init_207 : decode b_Ref_init 207 = .ok (.if_icmp .ge 16, 3) := by decide +kernel
theorem d_Ref_init_210 : decode b_Ref_init 210 = .ok (.aload_n 0, 1) := by decide +kernel
theorem d_Ref_init_211 : decode b_Ref_init 211 = .ok (.getfield 39, 3) := by decide +kernel
theorem d_Ref_init_214 : decode b_Ref_init 214 = .ok (.iload_n 1, 1) := by decide +kernel
theorem d_Ref_init_215 : decode b_Ref_init 215 = .ok (.iconst (-1), 1) := by decide +kernel
theorem d_Ref_init_216 : decode b_Ref_init 216 = .ok (.iastore, 1) := by decide +kernel
theorem d_Ref_init_217 : decode b_Ref_init 217 = .ok (.iinc 1 1, 3) := by decide +kernel
theorem d_Ref_init_220 : decode b_Ref_init 220 = .ok (.goto (-17), 3) := by decide +kernel
theorem d_Ref_init_223 : decode b_Ref_init 223 = .ok (.iconst 0, 1) := by decide +kernel
theorem d_Ref_init_224 : decode b_Ref_init 224 = .ok (.istore_n 1, 1) := by decide +kernel
theorem d_Ref_init_225 : decode b_Ref_init 225 = .ok (.iload_n 1, 1) := by decide +kernel
theorem d_Ref_init_226 : decode b_Ref_init 226 = .ok (.bipush 8, 2) := by decide +kernel
theorem d_Ref_init_228 : decode b_Ref_init 228 = .ok (.if_icmp .ge 16, 3) := by decide +kernel
theorem d_Ref_init_231 : decode b_Ref_init 231 = .ok (.aload_n 0, 1) := by decide +kernel
theorem d_Ref_init_232 : decode b_Ref_init 232 = .ok (.getfield 51, 3) := by decide +kernel
theorem d_Ref_init_235 : decode b_Ref_init 235 = .ok (.iload_n 1, 1) := by decide +kernel
theorem d_Ref_init_236 : decode b_Ref_init 236 = .ok (.iconst (-1), 1) := by decide +kernel
theorem d_Ref_init_237 : decode b_Ref_init 237 = .ok (.iastore, 1) := by decide +kernel
theorem d_Ref_init_238 : decode b_Ref_init 238 = .ok (.iinc 1 1, 3) := by decide +kernel
theorem d_Ref_init_241 : decode b_Ref_init 241 = .ok (.goto (-16), 3) := by decide +kernel
theorem d_Ref_init_244 : decode b_Ref_init 244 = .ok (.return_, 1) := by decide +kernel
theorem d_Ref_thrown_0 : decode b_Ref_thrown 0 = .ok (.aload_n 0, 1) := by decide +kernel
theorem d_Ref_thrown_1 : decode b_Ref_thrown 1 = .ok (.getfield 72, 3) := by decide +kernel
theorem d_Ref_thrown_4 : decode b_Ref_thrown 4 = .ok (.ireturn, 1) := by decide +kernel
theorem d_Ref_raise_0 : decode b_Ref_raise 0 = .ok (.aload_n 0, 1) := by decide +kernel
theorem d_Ref_raise_1 : decode b_Ref_raise 1 = .ok (.iload_n 1, 1) := by decide +kernel
theorem d_Ref_raise_2 : decode b_Ref_raise 2 = .ok (.putfield 72, 3) := by decide +kernel
theorem d_Ref_raise_5 : decode b_Ref_raise 5 = .ok (.iconst 0, 1) := by decide +kernel
theorem d_Ref_raise_6 : decode b_Ref_raise 6 = .ok (.ireturn, 1) := by decide +kernel
theorem d_Ref_in_0 : decode b_Ref_in 0 = .ok (.lload_n 0, 1) := by decide +kernel
theorem d_Ref_in_1 : decode b_Ref_in 1 = .ok (.lload_n 2, 1) := by decide +kernel
theorem d_Ref_in_2 : decode b_Ref_in 2 = .ok (.lcmp, 1) := by decide +kernel
theorem d_Ref_in_3 : decode b_Ref_in 3 = .ok (.ifCond .lt 14, 3) := by decide +kernel
theorem d_Ref_in_6 : decode b_Ref_in 6 = .ok (.lload_n 0, 1) := by decide +kernel
theorem d_Ref_in_7 : decode b_Ref_in 7 = .ok (.lload 4, 2) := by decide +kernel
theorem d_Ref_in_9 : decode b_Ref_in 9 = .ok (.lcmp, 1) := by decide +kernel
theorem d_Ref_in_10 : decode b_Ref_in 10 = .ok (.ifCond .gt 7, 3) := by decide +kernel
theorem d_Ref_in_13 : decode b_Ref_in 13 = .ok (.iconst 1, 1) := by decide +kernel
theorem d_Ref_in_14 : decode b_Ref_in 14 = .ok (.goto 4, 3) := by decide +kernel
theorem d_Ref_in_17 : decode b_Ref_in 17 = .ok (.iconst 0, 1) := by decide +kernel
theorem d_Ref_in_18 : decode b_Ref_in 18 = .ok (.ireturn, 1) := by decide +kernel
theorem d_Ref_isRouter_0 : decode b_Ref_isRouter 0 = .ok (.iload_n 0, 1) := by decide +kernel
theorem d_Ref_isRouter_1 : decode b_Ref_isRouter 1 = .ok (.i2l, 1) := by decide +kernel
theorem d_Ref_isRouter_2 : decode b_Ref_isRouter 2 = .ok (.lconst 0, 1) := by decide +kernel
theorem d_Ref_isRouter_3 : decode b_Ref_isRouter 3 = .ok (.ldc2_w 76, 3) := by decide +kernel
theorem d_Ref_isRouter_6 : decode b_Ref_isRouter 6 = .ok (.invokestatic 78, 3) := by decide +kernel
theorem d_Ref_isRouter_9 : decode b_Ref_isRouter 9 = .ok (.ireturn, 1) := by decide +kernel
theorem d_Ref_isEdge_0 : decode b_Ref_isEdge 0 = .ok (.iload_n 1, 1) := by decide +kernel
theorem d_Ref_isEdge_1 : decode b_Ref_isEdge 1 = .ok (.invokestatic 82, 3) := by decide +kernel
theorem d_Ref_isEdge_4 : decode b_Ref_isEdge 4 = .ok (.ifCond .eq 16, 3) := by decide +kernel
theorem d_Ref_isEdge_7 : decode b_Ref_isEdge 7 = .ok (.aload_n 0, 1) := by decide +kernel
theorem d_Ref_isEdge_8 : decode b_Ref_isEdge 8 = .ok (.getfield 7, 3) := by decide +kernel
theorem d_Ref_isEdge_11 : decode b_Ref_isEdge 11 = .ok (.iload_n 1, 1) := by decide +kernel
theorem d_Ref_isEdge_12 : decode b_Ref_isEdge 12 = .ok (.iaload, 1) := by decide +kernel
theorem d_Ref_isEdge_13 : decode b_Ref_isEdge 13 = .ok (.ifCond .lt 7, 3) := by decide +kernel
theorem d_Ref_isEdge_16 : decode b_Ref_isEdge 16 = .ok (.iconst 1, 1) := by decide +kernel
theorem d_Ref_isEdge_17 : decode b_Ref_isEdge 17 = .ok (.goto 4, 3) := by decide +kernel
theorem d_Ref_isEdge_20 : decode b_Ref_isEdge 20 = .ok (.iconst 0, 1) := by decide +kernel
theorem d_Ref_isEdge_21 : decode b_Ref_isEdge 21 = .ok (.ireturn, 1) := by decide +kernel
theorem d_Ref_isGroup_0 : decode b_Ref_isGroup 0 = .ok (.iload_n 0, 1) := by decide +kernel
theorem d_Ref_isGroup_1 : decode b_Ref_isGroup 1 = .ok (.i2l, 1) := by decide +kernel
theorem d_Ref_isGroup_2 : decode b_Ref_isGroup 2 = .ok (.lconst 0, 1) := by decide +kernel
theorem d_Ref_isGroup_3 : decode b_Ref_isGroup 3 = .ok (.ldc2_w 86, 3) := by decide +kernel
theorem d_Ref_isGroup_6 : decode b_Ref_isGroup 6 = .ok (.invokestatic 78, 3) := by decide +kernel
theorem d_Ref_isGroup_9 : decode b_Ref_isGroup 9 = .ok (.ireturn, 1) := by decide +kernel
theorem d_Ref_edge_0 : decode b_Ref_edge 0 = .ok (.aload_n 0, 1) := by decide +kernel
theorem d_Ref_edge_1 : decode b_Ref_edge 1 = .ok (.iload_n 1, 1) := by decide +kernel
theorem d_Ref_edge_2 : decode b_Ref_edge 2 = .ok (.invokestatic 82, 3) := by decide +kernel
theorem d_Ref_edge_5 : decode b_Ref_edge 5 = .ok (.ifCond .eq 28, 3) := by decide +kernel
theorem d_Ref_edge_8 : decode b_Ref_edge 8 = .ok (.iload_n 2, 1) := by decide +kernel
theorem d_Ref_edge_9 : decode b_Ref_edge 9 = .ok (.i2l, 1) := by decide +kernel
theorem d_Ref_edge_10 : decode b_Ref_edge 10 = .ok (.lconst 0, 1) := by decide +kernel
theorem d_Ref_edge_11 : decode b_Ref_edge 11 = .ok (.ldc2_w 88, 3) := by decide +kernel
theorem d_Ref_edge_14 : decode b_Ref_edge 14 = .ok (.invokestatic 78, 3) := by decide +kernel
theorem d_Ref_edge_17 : decode b_Ref_edge 17 = .ok (.ifCond .eq 16, 3) := by decide +kernel
theorem d_Ref_edge_20 : decode b_Ref_edge 20 = .ok (.aload_n 0, 1) := by decide +kernel
theorem d_Ref_edge_21 : decode b_Ref_edge 21 = .ok (.getfield 7, 3) := by decide +kernel
theorem d_Ref_edge_24 : decode b_Ref_edge 24 = .ok (.iload_n 1, 1) := by decide +kernel
theorem d_Ref_edge_25 : decode b_Ref_edge 25 = .ok (.iaload, 1) := by decide +kernel
theorem d_Ref_edge_26 : decode b_Ref_edge 26 = .ok (.ifCond .ge 7, 3) := by decide +kernel
theorem d_Ref_edge_29 : decode b_Ref_edge 29 = .ok (.iconst 0, 1) := by decide +kernel
theorem d_Ref_edge_30 : decode b_Ref_edge 30 = .ok (.goto 4, 3) := by decide +kernel
theorem d_Ref_edge_33 : decode b_Ref_edge 33 = .ok (.iconst 1, 1) := by decide +kernel
theorem d_Ref_edge_34 : decode b_Ref_edge 34 = .ok (.putfield 72, 3) := by decide +kernel
theorem d_Ref_edge_37 : decode b_Ref_edge 37 = .ok (.iconst 0, 1) := by decide +kernel
theorem d_Ref_edge_38 : decode b_Ref_edge 38 = .ok (.istore_n 3, 1) := by decide +kernel
theorem d_Ref_edge_39 : decode b_Ref_edge 39 = .ok (.iload_n 3, 1) := by decide +kernel
theorem d_Ref_edge_40 : decode b_Ref_edge 40 = .ok (.bipush 12, 2) := by decide +kernel
theorem d_Ref_edge_42 : decode b_Ref_edge 42 = .ok (.if_icmp .ge 31, 3) := by decide +kernel
theorem d_Ref_edge_45 : decode b_Ref_edge 45 = .ok (.aload_n 0, 1) := by decide +kernel
theorem d_Ref_edge_46 : decode b_Ref_edge 46 = .ok (.getfield 72, 3) := by decide +kernel
theorem d_Ref_edge_49 : decode b_Ref_edge 49 = .ok (.ifCond .ne 24, 3) := by decide +kernel
theorem d_Ref_edge_52 : decode b_Ref_edge 52 = .ok (.aload_n 0, 1) := by decide +kernel
theorem d_Ref_edge_53 : decode b_Ref_edge 53 = .ok (.getfield 7, 3) := by decide +kernel
theorem d_Ref_edge_56 : decode b_Ref_edge 56 = .ok (.iload_n 3, 1) := by decide +kernel
theorem d_Ref_edge_57 : decode b_Ref_edge 57 = .ok (.iaload, 1) := by decide +kernel
theorem d_Ref_edge_58 : decode b_Ref_edge 58 = .ok (.iload_n 2, 1) := by decide +kernel
theorem d_Ref_edge_59 : decode b_Ref_edge 59 = .ok (.if_icmp .ne 8, 3) := by decide +kernel
theorem d_Ref_edge_62 : decode b_Ref_edge 62 = .ok (.aload_n 0, 1) := by decide +kernel
theorem d_Ref_edge_63 : decode b_Ref_edge 63 = .ok (.iconst 1, 1) := by decide +kernel
theorem d_Ref_edge_64 : decode b_Ref_edge 64 = .ok (.putfield 72, 3) := by decide +kernel
theorem d_Ref_edge_67 : decode b_Ref_edge 67 = .ok (.iinc 3 1, 3) := by decide +kernel
theorem d_Ref_edge_70 : decode b_Ref_edge 70 = .ok (.goto (-31), 3) := by decide +kernel
theorem d_Ref_edge_73 : decode b_Ref_edge 73 = .ok (.aload_n 0, 1) := by decide +kernel
theorem d_Ref_edge_74 : decode b_Ref_edge 74 = .ok (.getfield 72, 3) := by decide +kernel
theorem d_Ref_edge_77 : decode b_Ref_edge 77 = .ok (.ifCond .ne 10, 3) := by decide +kernel
theorem d_Ref_edge_80 : decode b_Ref_edge 80 = .ok (.aload_n 0, 1) := by decide +kernel
theorem d_Ref_edge_81 : decode b_Ref_edge 81 = .ok (.getfield 7, 3) := by decide +kernel
theorem d_Ref_edge_84 : decode b_Ref_edge 84 = .ok (.iload_n 1, 1) := by decide +kernel
theorem d_Ref_edge_85 : decode b_Ref_edge 85 = .ok (.iload_n 2, 1) := by decide +kernel
theorem d_Ref_edge_86 : decode b_Ref_edge 86 = .ok (.iastore, 1) := by decide +kernel
theorem d_Ref_edge_87 : decode b_Ref_edge 87 = .ok (.return_, 1) := by decide +kernel
theorem d_Ref_told_0 : decode b_Ref_told 0 = .ok (.iload_n 2, 1) := by decide +kernel
theorem d_Ref_told_1 : decode b_Ref_told 1 = .ok (.bipush 6, 2) := by decide +kernel
theorem d_Ref_told_3 : decode b_Ref_told 3 = .ok (.if_icmp .ge 12, 3) := by decide +kernel
theorem d_Ref_told_6 : decode b_Ref_told 6 = .ok (.aload_n 0, 1) := by decide +kernel
theorem d_Ref_told_7 : decode b_Ref_told 7 = .ok (.getfield 29, 3) := by decide +kernel
theorem d_Ref_told_10 : decode b_Ref_told 10 = .ok (.iload_n 1, 1) := by decide +kernel
theorem d_Ref_told_11 : decode b_Ref_told 11 = .ok (.laload, 1) := by decide +kernel
theorem d_Ref_told_12 : decode b_Ref_told 12 = .ok (.goto 9, 3) := by decide +kernel
theorem d_Ref_told_15 : decode b_Ref_told 15 = .ok (.aload_n 0, 1) := by decide +kernel
theorem d_Ref_told_16 : decode b_Ref_told 16 = .ok (.getfield 33, 3) := by decide +kernel
theorem d_Ref_told_19 : decode b_Ref_told 19 = .ok (.iload_n 1, 1) := by decide +kernel
theorem d_Ref_told_20 : decode b_Ref_told 20 = .ok (.laload, 1) := by decide +kernel
theorem d_Ref_told_21 : decode b_Ref_told 21 = .ok (.lstore_n 3, 1) := by decide +kernel
theorem d_Ref_told_22 : decode b_Ref_told 22 = .ok (.lload_n 3, 1) := by decide +kernel
theorem d_Ref_told_23 : decode b_Ref_told 23 = .ok (.bipush 10, 2) := by decide +kernel
theorem d_Ref_told_25 : decode b_Ref_told 25 = .ok (.iload_n 2, 1) := by decide +kernel
theorem d_Ref_told_26 : decode b_Ref_told 26 = .ok (.bipush 6, 2) := by decide +kernel
theorem d_Ref_told_28 : decode b_Ref_told 28 = .ok (.irem, 1) := by decide +kernel
theorem d_Ref_told_29 : decode b_Ref_told 29 = .ok (.imul, 1) := by decide +kernel
theorem d_Ref_told_30 : decode b_Ref_told 30 = .ok (.lshr, 1) := by decide +kernel
theorem d_Ref_told_31 : decode b_Ref_told 31 = .ok (.ldc2_w 90, 3) := by decide +kernel
theorem d_Ref_told_34 : decode b_Ref_told 34 = .ok (.land, 1) := by decide +kernel
theorem d_Ref_told_35 : decode b_Ref_told 35 = .ok (.l2i, 1) := by decide +kernel
theorem d_Ref_told_36 : decode b_Ref_told 36 = .ok (.ireturn, 1) := by decide +kernel
theorem d_Ref_sweep_0 : decode b_Ref_sweep 0 = .ok (.iconst 0, 1) := by decide +kernel
theorem d_Ref_sweep_1 : decode b_Ref_sweep 1 = .ok (.istore_n 1, 1) := by decide +kernel
theorem d_Ref_sweep_2 : decode b_Ref_sweep 2 = .ok (.iload_n 1, 1) := by decide +kernel
theorem d_Ref_sweep_3 : decode b_Ref_sweep 3 = .ok (.sipush 1600, 3) := by decide +kernel
theorem d_Ref_sweep_6 : decode b_Ref_sweep 6 = .ok (.if_icmp .ge 16, 3) := by decide +kernel
theorem d_Ref_sweep_9 : decode b_Ref_sweep 9 = .ok (.aload_n 0, 1) := by decide +kernel
theorem d_Ref_sweep_10 : decode b_Ref_sweep 10 = .ok (.getfield 36, 3) := by decide +kernel
theorem d_Ref_sweep_13 : decode b_Ref_sweep 13 = .ok (.iload_n 1, 1) := by decide +kernel
theorem d_Ref_sweep_14 : decode b_Ref_sweep 14 = .ok (.iconst 0, 1) := by decide +kernel
theorem d_Ref_sweep_15 : decode b_Ref_sweep 15 = .ok (.bastore, 1) := by decide +kernel
theorem d_Ref_sweep_16 : decode b_Ref_sweep 16 = .ok (.iinc 1 1, 3) := by decide +kernel
theorem d_Ref_sweep_19 : decode b_Ref_sweep 19 = .ok (.goto (-17), 3) := by decide +kernel
theorem d_Ref_sweep_22 : decode b_Ref_sweep 22 = .ok (.iconst 0, 1) := by decide +kernel
theorem d_Ref_sweep_23 : decode b_Ref_sweep 23 = .ok (.istore_n 1, 1) := by decide +kernel
theorem d_Ref_sweep_24 : decode b_Ref_sweep 24 = .ok (.iload_n 1, 1) := by decide +kernel
theorem d_Ref_sweep_25 : decode b_Ref_sweep 25 = .ok (.sipush 144, 3) := by decide +kernel
theorem d_Ref_sweep_28 : decode b_Ref_sweep 28 = .ok (.if_icmp .ge 30, 3) := by decide +kernel
theorem d_Ref_sweep_31 : decode b_Ref_sweep 31 = .ok (.aload_n 0, 1) := by decide +kernel
theorem d_Ref_sweep_32 : decode b_Ref_sweep 32 = .ok (.getfield 39, 3) := by decide +kernel
theorem d_Ref_sweep_35 : decode b_Ref_sweep 35 = .ok (.iload_n 1, 1) := by decide +kernel
theorem d_Ref_sweep_36 : decode b_Ref_sweep 36 = .ok (.iaload, 1) := by decide +kernel
theorem d_Ref_sweep_37 : decode b_Ref_sweep 37 = .ok (.ifCond .lt 15, 3) := by decide +kernel
theorem d_Ref_sweep_40 : decode b_Ref_sweep 40 = .ok (.aload_n 0, 1) := by decide +kernel
theorem d_Ref_sweep_41 : decode b_Ref_sweep 41 = .ok (.getfield 36, 3) := by decide +kernel
theorem d_Ref_sweep_44 : decode b_Ref_sweep 44 = .ok (.aload_n 0, 1) := by decide +kernel
theorem d_Ref_sweep_45 : decode b_Ref_sweep 45 = .ok (.getfield 39, 3) := by decide +kernel
theorem d_Ref_sweep_48 : decode b_Ref_sweep 48 = .ok (.iload_n 1, 1) := by decide +kernel
theorem d_Ref_sweep_49 : decode b_Ref_sweep 49 = .ok (.iaload, 1) := by decide +kernel
theorem d_Ref_sweep_50 : decode b_Ref_sweep 50 = .ok (.iconst 1, 1) := by decide +kernel
theorem d_Ref_sweep_51 : decode b_Ref_sweep 51 = .ok (.bastore, 1) := by decide +kernel
theorem d_Ref_sweep_52 : decode b_Ref_sweep 52 = .ok (.iinc 1 1, 3) := by decide +kernel
theorem d_Ref_sweep_55 : decode b_Ref_sweep 55 = .ok (.goto (-31), 3) := by decide +kernel
theorem d_Ref_sweep_58 : decode b_Ref_sweep 58 = .ok (.iconst 0, 1) := by decide +kernel
theorem d_Ref_sweep_59 : decode b_Ref_sweep 59 = .ok (.istore_n 1, 1) := by decide +kernel
theorem d_Ref_sweep_60 : decode b_Ref_sweep 60 = .ok (.iload_n 1, 1) := by decide +kernel
theorem d_Ref_sweep_61 : decode b_Ref_sweep 61 = .ok (.aload_n 0, 1) := by decide +kernel
theorem d_Ref_sweep_62 : decode b_Ref_sweep 62 = .ok (.getfield 92, 3) := by decide +kernel
theorem d_Ref_sweep_65 : decode b_Ref_sweep 65 = .ok (.if_icmp .ge 33, 3) := by decide +kernel
theorem d_Ref_sweep_68 : decode b_Ref_sweep 68 = .ok (.aload_n 0, 1) := by decide +kernel
theorem d_Ref_sweep_69 : decode b_Ref_sweep 69 = .ok (.getfield 36, 3) := by decide +kernel
theorem d_Ref_sweep_72 : decode b_Ref_sweep 72 = .ok (.aload_n 0, 1) := by decide +kernel
theorem d_Ref_sweep_73 : decode b_Ref_sweep 73 = .ok (.getfield 42, 3) := by decide +kernel
theorem d_Ref_sweep_76 : decode b_Ref_sweep 76 = .ok (.aload_n 0, 1) := by decide +kernel
theorem d_Ref_sweep_77 : decode b_Ref_sweep 77 = .ok (.getfield 95, 3) := by decide +kernel
theorem d_Ref_sweep_80 : decode b_Ref_sweep 80 = .ok (.iload_n 1, 1) := by decide +kernel
theorem d_Ref_sweep_81 : decode b_Ref_sweep 81 = .ok (.iadd, 1) := by decide +kernel
theorem d_Ref_sweep_82 : decode b_Ref_sweep 82 = .ok (.sipush 4000, 3) := by decide +kernel
theorem d_Ref_sweep_85 : decode b_Ref_sweep 85 = .ok (.irem, 1) := by decide +kernel
theorem d_Ref_sweep_86 : decode b_Ref_sweep 86 = .ok (.iaload, 1) := by decide +kernel
theorem d_Ref_sweep_87 : decode b_Ref_sweep 87 = .ok (.bipush 8, 2) := by decide +kernel
theorem d_Ref_sweep_89 : decode b_Ref_sweep 89 = .ok (.ishr, 1) := by decide +kernel
theorem d_Ref_sweep_90 : decode b_Ref_sweep 90 = .ok (.iconst 1, 1) := by decide +kernel
theorem d_Ref_sweep_91 : decode b_Ref_sweep 91 = .ok (.bastore, 1) := by decide +kernel
theorem d_Ref_sweep_92 : decode b_Ref_sweep 92 = .ok (.iinc 1 1, 3) := by decide +kernel
theorem d_Ref_sweep_95 : decode b_Ref_sweep 95 = .ok (.goto (-35), 3) := by decide +kernel
theorem d_Ref_sweep_98 : decode b_Ref_sweep 98 = .ok (.return_, 1) := by decide +kernel
theorem d_Ref_newPlace_0 : decode b_Ref_newPlace 0 = .ok (.iconst 0, 1) := by decide +kernel
theorem d_Ref_newPlace_1 : decode b_Ref_newPlace 1 = .ok (.istore_n 1, 1) := by decide +kernel
theorem d_Ref_newPlace_2 : decode b_Ref_newPlace 2 = .ok (.iload_n 1, 1) := by decide +kernel
theorem d_Ref_newPlace_3 : decode b_Ref_newPlace 3 = .ok (.sipush 1600, 3) := by decide +kernel
theorem d_Ref_newPlace_6 : decode b_Ref_newPlace 6 = .ok (.if_icmp .ge 18, 3) := by decide +kernel
theorem d_Ref_newPlace_9 : decode b_Ref_newPlace 9 = .ok (.aload_n 0, 1) := by decide +kernel
theorem d_Ref_newPlace_10 : decode b_Ref_newPlace 10 = .ok (.getfield 36, 3) := by decide +kernel
theorem d_Ref_newPlace_13 : decode b_Ref_newPlace 13 = .ok (.iload_n 1, 1) := by decide +kernel
theorem d_Ref_newPlace_14 : decode b_Ref_newPlace 14 = .ok (.baload, 1) := by decide +kernel
theorem d_Ref_newPlace_15 : decode b_Ref_newPlace 15 = .ok (.ifCond .eq 9, 3) := by decide +kernel
theorem d_Ref_newPlace_18 : decode b_Ref_newPlace 18 = .ok (.iinc 1 1, 3) := by decide +kernel
theorem d_Ref_newPlace_21 : decode b_Ref_newPlace 21 = .ok (.goto (-19), 3) := by decide +kernel
theorem d_Ref_newPlace_24 : decode b_Ref_newPlace 24 = .ok (.iload_n 1, 1) := by decide +kernel
theorem d_Ref_newPlace_25 : decode b_Ref_newPlace 25 = .ok (.sipush 1600, 3) := by decide +kernel
theorem d_Ref_newPlace_28 : decode b_Ref_newPlace 28 = .ok (.if_icmp .ne 24, 3) := by decide +kernel
theorem d_Ref_newPlace_31 : decode b_Ref_newPlace 31 = .ok (.aload_n 0, 1) := by decide +kernel
theorem d_Ref_newPlace_32 : decode b_Ref_newPlace 32 = .ok (.invokevirtual 98, 3) := by decide +kernel
theorem d_Ref_newPlace_35 : decode b_Ref_newPlace 35 = .ok (.iconst 0, 1) := by decide +kernel
theorem d_Ref_newPlace_36 : decode b_Ref_newPlace 36 = .ok (.istore_n 1, 1) := by decide +kernel
theorem d_Ref_newPlace_37 : decode b_Ref_newPlace 37 = .ok (.aload_n 0, 1) := by decide +kernel
theorem d_Ref_newPlace_38 : decode b_Ref_newPlace 38 = .ok (.getfield 36, 3) := by decide +kernel
theorem d_Ref_newPlace_41 : decode b_Ref_newPlace 41 = .ok (.iload_n 1, 1) := by decide +kernel
theorem d_Ref_newPlace_42 : decode b_Ref_newPlace 42 = .ok (.baload, 1) := by decide +kernel
theorem d_Ref_newPlace_43 : decode b_Ref_newPlace 43 = .ok (.ifCond .eq 9, 3) := by decide +kernel
theorem d_Ref_newPlace_46 : decode b_Ref_newPlace 46 = .ok (.iinc 1 1, 3) := by decide +kernel
theorem d_Ref_newPlace_49 : decode b_Ref_newPlace 49 = .ok (.goto (-12), 3) := by decide +kernel
theorem d_Ref_newPlace_52 : decode b_Ref_newPlace 52 = .ok (.aload_n 0, 1) := by decide +kernel
theorem d_Ref_newPlace_53 : decode b_Ref_newPlace 53 = .ok (.getfield 36, 3) := by decide +kernel
theorem d_Ref_newPlace_56 : decode b_Ref_newPlace 56 = .ok (.iload_n 1, 1) := by decide +kernel
theorem d_Ref_newPlace_57 : decode b_Ref_newPlace 57 = .ok (.iconst 1, 1) := by decide +kernel
theorem d_Ref_newPlace_58 : decode b_Ref_newPlace 58 = .ok (.bastore, 1) := by decide +kernel
theorem d_Ref_newPlace_59 : decode b_Ref_newPlace 59 = .ok (.iload_n 1, 1) := by decide +kernel
theorem d_Ref_newPlace_60 : decode b_Ref_newPlace 60 = .ok (.ireturn, 1) := by decide +kernel
theorem d_Ref_post_0 : decode b_Ref_post 0 = .ok (.aload_n 0, 1) := by decide +kernel
theorem d_Ref_post_1 : decode b_Ref_post 1 = .ok (.getfield 42, 3) := by decide +kernel
theorem d_Ref_post_4 : decode b_Ref_post 4 = .ok (.aload_n 0, 1) := by decide +kernel
theorem d_Ref_post_5 : decode b_Ref_post 5 = .ok (.getfield 95, 3) := by decide +kernel
theorem d_Ref_post_8 : decode b_Ref_post 8 = .ok (.aload_n 0, 1) := by decide +kernel
theorem d_Ref_post_9 : decode b_Ref_post 9 = .ok (.getfield 92, 3) := by decide +kernel
theorem d_Ref_post_12 : decode b_Ref_post 12 = .ok (.iadd, 1) := by decide +kernel
theorem d_Ref_post_13 : decode b_Ref_post 13 = .ok (.sipush 4000, 3) := by decide +kernel
theorem d_Ref_post_16 : decode b_Ref_post 16 = .ok (.irem, 1) := by decide +kernel
theorem d_Ref_post_17 : decode b_Ref_post 17 = .ok (.iload_n 1, 1) := by decide +kernel
theorem d_Ref_post_18 : decode b_Ref_post 18 = .ok (.bipush 8, 2) := by decide +kernel
theorem d_Ref_post_20 : decode b_Ref_post 20 = .ok (.ishl, 1) := by decide +kernel
theorem d_Ref_post_21 : decode b_Ref_post 21 = .ok (.iload_n 2, 1) := by decide +kernel
theorem d_Ref_post_22 : decode b_Ref_post 22 = .ok (.iconst 4, 1) := by decide +kernel
theorem d_Ref_post_23 : decode b_Ref_post 23 = .ok (.ishl, 1) := by decide +kernel
theorem d_Ref_post_24 : decode b_Ref_post 24 = .ok (.ior, 1) := by decide +kernel
theorem d_Ref_post_25 : decode b_Ref_post 25 = .ok (.iload_n 3, 1) := by decide +kernel
theorem d_Ref_post_26 : decode b_Ref_post 26 = .ok (.ior, 1) := by decide +kernel
theorem d_Ref_post_27 : decode b_Ref_post 27 = .ok (.iastore, 1) := by decide +kernel
theorem d_Ref_post_28 : decode b_Ref_post 28 = .ok (.aload_n 0, 1) := by decide +kernel
theorem d_Ref_post_29 : decode b_Ref_post 29 = .ok (.dup, 1) := by decide +kernel
theorem d_Ref_post_30 : decode b_Ref_post 30 = .ok (.getfield 92, 3) := by decide +kernel
theorem d_Ref_post_33 : decode b_Ref_post 33 = .ok (.iconst 1, 1) := by decide +kernel
theorem d_Ref_post_34 : decode b_Ref_post 34 = .ok (.iadd, 1) := by decide +kernel
theorem d_Ref_post_35 : decode b_Ref_post 35 = .ok (.putfield 92, 3) := by decide +kernel
theorem d_Ref_post_38 : decode b_Ref_post 38 = .ok (.return_, 1) := by decide +kernel
theorem d_Ref_sendOn_0 : decode b_Ref_sendOn 0 = .ok (.iconst 0, 1) := by decide +kernel
theorem d_Ref_sendOn_1 : decode b_Ref_sendOn 1 = .ok (.istore 4, 2) := by decide +kernel
theorem d_Ref_sendOn_3 : decode b_Ref_sendOn 3 = .ok (.iload 4, 2) := by decide +kernel
theorem d_Ref_sendOn_5 : decode b_Ref_sendOn 5 = .ok (.bipush 12, 2) := by decide +kernel
theorem d_Ref_sendOn_7 : decode b_Ref_sendOn 7 = .ok (.if_icmp .ge 38, 3) := by decide +kernel
theorem d_Ref_sendOn_10 : decode b_Ref_sendOn 10 = .ok (.iload 4, 2) := by decide +kernel
theorem d_Ref_sendOn_12 : decode b_Ref_sendOn 12 = .ok (.iload_n 3, 1) := by decide +kernel
theorem d_Ref_sendOn_13 : decode b_Ref_sendOn 13 = .ok (.if_icmp .eq 26, 3) := by decide +kernel
theorem d_Ref_sendOn_16 : decode b_Ref_sendOn 16 = .ok (.aload_n 0, 1) := by decide +kernel
theorem d_Ref_sendOn_17 : decode b_Ref_sendOn 17 = .ok (.getfield 19, 3) := by decide +kernel
theorem d_Ref_sendOn_20 : decode b_Ref_sendOn 20 = .ok (.bipush 12, 2) := by decide +kernel
theorem d_Ref_sendOn_22 : decode b_Ref_sendOn 22 = .ok (.iload_n 2, 1) := by decide +kernel
theorem d_Ref_sendOn_23 : decode b_Ref_sendOn 23 = .ok (.imul, 1) := by decide +kernel
theorem d_Ref_sendOn_24 : decode b_Ref_sendOn 24 = .ok (.iload 4, 2) := by decide +kernel
theorem d_Ref_sendOn_26 : decode b_Ref_sendOn 26 = .ok (.iadd, 1) := by decide +kernel
theorem d_Ref_sendOn_27 : decode b_Ref_sendOn 27 = .ok (.baload, 1) := by decide +kernel
theorem d_Ref_sendOn_28 : decode b_Ref_sendOn 28 = .ok (.ifCond .eq 11, 3) := by decide +kernel
theorem d_Ref_sendOn_31 : decode b_Ref_sendOn 31 = .ok (.aload_n 0, 1) := by decide +kernel
theorem d_Ref_sendOn_32 : decode b_Ref_sendOn 32 = .ok (.iload_n 1, 1) := by decide +kernel
theorem d_Ref_sendOn_33 : decode b_Ref_sendOn 33 = .ok (.iload_n 2, 1) := by decide +kernel
theorem d_Ref_sendOn_34 : decode b_Ref_sendOn 34 = .ok (.iload 4, 2) := by decide +kernel
theorem d_Ref_sendOn_36 : decode b_Ref_sendOn 36 = .ok (.invokevirtual 101, 3) := by decide +kernel
theorem d_Ref_sendOn_39 : decode b_Ref_sendOn 39 = .ok (.iinc 4 1, 3) := by decide +kernel
theorem d_Ref_sendOn_42 : decode b_Ref_sendOn 42 = .ok (.goto (-39), 3) := by decide +kernel
theorem d_Ref_sendOn_45 : decode b_Ref_sendOn 45 = .ok (.return_, 1) := by decide +kernel
theorem d_Ref_numberOf_0 : decode b_Ref_numberOf 0 = .ok (.aload_n 0, 1) := by decide +kernel
theorem d_Ref_numberOf_1 : decode b_Ref_numberOf 1 = .ok (.getfield 39, 3) := by decide +kernel
theorem d_Ref_numberOf_4 : decode b_Ref_numberOf 4 = .ok (.bipush 12, 2) := by decide +kernel
theorem d_Ref_numberOf_6 : decode b_Ref_numberOf 6 = .ok (.iload_n 1, 1) := by decide +kernel
theorem d_Ref_numberOf_7 : decode b_Ref_numberOf 7 = .ok (.imul, 1) := by decide +kernel
theorem d_Ref_numberOf_8 : decode b_Ref_numberOf 8 = .ok (.iload_n 2, 1) := by decide +kernel
theorem d_Ref_numberOf_9 : decode b_Ref_numberOf 9 = .ok (.iadd, 1) := by decide +kernel
theorem d_Ref_numberOf_10 : decode b_Ref_numberOf 10 = .ok (.iaload, 1) := by decide +kernel
theorem d_Ref_numberOf_11 : decode b_Ref_numberOf 11 = .ok (.ifCond .ge 7, 3) := by decide +kernel
theorem d_Ref_numberOf_14 : decode b_Ref_numberOf 14 = .ok (.iconst 0, 1) := by decide +kernel
theorem d_Ref_numberOf_15 : decode b_Ref_numberOf 15 = .ok (.goto 19, 3) := by decide +kernel
theorem d_Ref_numberOf_18 : decode b_Ref_numberOf 18 = .ok (.aload_n 0, 1) := by decide +kernel
theorem d_Ref_numberOf_19 : decode b_Ref_numberOf 19 = .ok (.getfield 26, 3) := by decide +kernel
theorem d_Ref_numberOf_22 : decode b_Ref_numberOf 22 = .ok (.aload_n 0, 1) := by decide +kernel
theorem d_Ref_numberOf_23 : decode b_Ref_numberOf 23 = .ok (.getfield 39, 3) := by decide +kernel
theorem d_Ref_numberOf_26 : decode b_Ref_numberOf 26 = .ok (.bipush 12, 2) := by decide +kernel
theorem d_Ref_numberOf_28 : decode b_Ref_numberOf 28 = .ok (.iload_n 1, 1) := by decide +kernel
theorem d_Ref_numberOf_29 : decode b_Ref_numberOf 29 = .ok (.imul, 1) := by decide +kernel
theorem d_Ref_numberOf_30 : decode b_Ref_numberOf 30 = .ok (.iload_n 2, 1) := by decide +kernel
theorem d_Ref_numberOf_31 : decode b_Ref_numberOf 31 = .ok (.iadd, 1) := by decide +kernel
theorem d_Ref_numberOf_32 : decode b_Ref_numberOf 32 = .ok (.iaload, 1) := by decide +kernel
theorem d_Ref_numberOf_33 : decode b_Ref_numberOf 33 = .ok (.iaload, 1) := by decide +kernel
theorem d_Ref_numberOf_34 : decode b_Ref_numberOf 34 = .ok (.ireturn, 1) := by decide +kernel
theorem d_Ref_advertise_0 : decode b_Ref_advertise 0 = .ok (.aload_n 0, 1) := by decide +kernel
theorem d_Ref_advertise_1 : decode b_Ref_advertise 1 = .ok (.iload_n 1, 1) := by decide +kernel
theorem d_Ref_advertise_2 : decode b_Ref_advertise 2 = .ok (.iload_n 1, 1) := by decide +kernel
theorem d_Ref_advertise_3 : decode b_Ref_advertise 3 = .ok (.invokevirtual 105, 3) := by decide +kernel
theorem d_Ref_advertise_6 : decode b_Ref_advertise 6 = .ok (.iconst 1, 1) := by decide +kernel
theorem d_Ref_advertise_7 : decode b_Ref_advertise 7 = .ok (.iadd, 1) := by decide +kernel
theorem d_Ref_advertise_8 : decode b_Ref_advertise 8 = .ok (.istore_n 2, 1) := by decide +kernel
theorem d_Ref_advertise_9 : decode b_Ref_advertise 9 = .ok (.aload_n 0, 1) := by decide +kernel
theorem d_Ref_advertise_10 : decode b_Ref_advertise 10 = .ok (.invokevirtual 109, 3) := by decide +kernel
theorem d_Ref_advertise_13 : decode b_Ref_advertise 13 = .ok (.istore_n 3, 1) := by decide +kernel
theorem d_Ref_advertise_14 : decode b_Ref_advertise 14 = .ok (.aload_n 0, 1) := by decide +kernel
theorem d_Ref_advertise_15 : decode b_Ref_advertise 15 = .ok (.getfield 23, 3) := by decide +kernel
theorem d_Ref_advertise_18 : decode b_Ref_advertise 18 = .ok (.iload_n 3, 1) := by decide +kernel
theorem d_Ref_advertise_19 : decode b_Ref_advertise 19 = .ok (.iload_n 1, 1) := by decide +kernel
theorem d_Ref_advertise_20 : decode b_Ref_advertise 20 = .ok (.iastore, 1) := by decide +kernel
theorem d_Ref_advertise_21 : decode b_Ref_advertise 21 = .ok (.aload_n 0, 1) := by decide +kernel
theorem d_Ref_advertise_22 : decode b_Ref_advertise 22 = .ok (.getfield 26, 3) := by decide +kernel
theorem d_Ref_advertise_25 : decode b_Ref_advertise 25 = .ok (.iload_n 3, 1) := by decide +kernel
theorem d_Ref_advertise_26 : decode b_Ref_advertise 26 = .ok (.iload_n 2, 1) := by decide +kernel
theorem d_Ref_advertise_27 : decode b_Ref_advertise 27 = .ok (.iastore, 1) := by decide +kernel
theorem d_Ref_advertise_28 : decode b_Ref_advertise 28 = .ok (.aload_n 0, 1) := by decide +kernel
theorem d_Ref_advertise_29 : decode b_Ref_advertise 29 = .ok (.getfield 29, 3) := by decide +kernel
theorem d_Ref_advertise_32 : decode b_Ref_advertise 32 = .ok (.iload_n 3, 1) := by decide +kernel
theorem d_Ref_advertise_33 : decode b_Ref_advertise 33 = .ok (.lconst 0, 1) := by decide +kernel
theorem d_Ref_advertise_34 : decode b_Ref_advertise 34 = .ok (.lastore, 1) := by decide +kernel
theorem d_Ref_advertise_35 : decode b_Ref_advertise 35 = .ok (.aload_n 0, 1) := by decide +kernel
theorem d_Ref_advertise_36 : decode b_Ref_advertise 36 = .ok (.getfield 33, 3) := by decide +kernel
theorem d_Ref_advertise_39 : decode b_Ref_advertise 39 = .ok (.iload_n 3, 1) := by decide +kernel
theorem d_Ref_advertise_40 : decode b_Ref_advertise 40 = .ok (.lconst 0, 1) := by decide +kernel
theorem d_Ref_advertise_41 : decode b_Ref_advertise 41 = .ok (.lastore, 1) := by decide +kernel
theorem d_Ref_advertise_42 : decode b_Ref_advertise 42 = .ok (.iconst 0, 1) := by decide +kernel
theorem d_Ref_advertise_43 : decode b_Ref_advertise 43 = .ok (.istore 4, 2) := by decide +kernel
theorem d_Ref_advertise_45 : decode b_Ref_advertise 45 = .ok (.iload 4, 2) := by decide +kernel
theorem d_Ref_advertise_47 : decode b_Ref_advertise 47 = .ok (.bipush 12, 2) := by decide +kernel
theorem d_Ref_advertise_49 : decode b_Ref_advertise 49 = .ok (.if_icmp .ge 83, 3) := by decide +kernel
theorem d_Ref_advertise_52 : decode b_Ref_advertise 52 = .ok (.aload_n 0, 1) := by decide +kernel
theorem d_Ref_advertise_53 : decode b_Ref_advertise 53 = .ok (.getfield 19, 3) := by decide +kernel
theorem d_Ref_advertise_56 : decode b_Ref_advertise 56 = .ok (.bipush 12, 2) := by decide +kernel
theorem d_Ref_advertise_58 : decode b_Ref_advertise 58 = .ok (.iload_n 1, 1) := by decide +kernel
theorem d_Ref_advertise_59 : decode b_Ref_advertise 59 = .ok (.imul, 1) := by decide +kernel
theorem d_Ref_advertise_60 : decode b_Ref_advertise 60 = .ok (.iload 4, 2) := by decide +kernel
theorem d_Ref_advertise_62 : decode b_Ref_advertise 62 = .ok (.iadd, 1) := by decide +kernel
theorem d_Ref_advertise_63 : decode b_Ref_advertise 63 = .ok (.baload, 1) := by decide +kernel
theorem d_Ref_advertise_64 : decode b_Ref_advertise 64 = .ok (.ifCond .ne 6, 3) := by decide +kernel
theorem d_Ref_advertise_67 : decode b_Ref_advertise 67 = .ok (.goto 59, 3) := by decide +kernel
theorem d_Ref_advertise_70 : decode b_Ref_advertise 70 = .ok (.aload_n 0, 1) := by decide +kernel
theorem d_Ref_advertise_71 : decode b_Ref_advertise 71 = .ok (.getfield 16, 3) := by decide +kernel
theorem d_Ref_advertise_74 : decode b_Ref_advertise 74 = .ok (.bipush 12, 2) := by decide +kernel
theorem d_Ref_advertise_76 : decode b_Ref_advertise 76 = .ok (.iload_n 1, 1) := by decide +kernel
theorem d_Ref_advertise_77 : decode b_Ref_advertise 77 = .ok (.imul, 1) := by decide +kernel
theorem d_Ref_advertise_78 : decode b_Ref_advertise 78 = .ok (.iload 4, 2) := by decide +kernel
theorem d_Ref_advertise_80 : decode b_Ref_advertise 80 = .ok (.iadd, 1) := by decide +kernel
theorem d_Ref_advertise_81 : decode b_Ref_advertise 81 = .ok (.iaload, 1) := by decide +kernel
theorem d_Ref_advertise_82 : decode b_Ref_advertise 82 = .ok (.i2l, 1) := by decide +kernel
theorem d_Ref_advertise_83 : decode b_Ref_advertise 83 = .ok (.bipush 10, 2) := by decide +kernel
theorem d_Ref_advertise_85 : decode b_Ref_advertise 85 = .ok (.iload 4, 2) := by decide +kernel
theorem d_Ref_advertise_87 : decode b_Ref_advertise 87 = .ok (.bipush 6, 2) := by decide +kernel
theorem d_Ref_advertise_89 : decode b_Ref_advertise 89 = .ok (.irem, 1) := by decide +kernel
theorem d_Ref_advertise_90 : decode b_Ref_advertise 90 = .ok (.imul, 1) := by decide +kernel
theorem d_Ref_advertise_91 : decode b_Ref_advertise 91 = .ok (.lshl, 1) := by decide +kernel
theorem d_Ref_advertise_92 : decode b_Ref_advertise 92 = .ok (.lstore 5, 2) := by decide +kernel
theorem d_Ref_advertise_94 : decode b_Ref_advertise 94 = .ok (.iload 4, 2) := by decide +kernel
theorem d_Ref_advertise_96 : decode b_Ref_advertise 96 = .ok (.bipush 6, 2) := by decide +kernel
theorem d_Ref_advertise_98 : decode b_Ref_advertise 98 = .ok (.if_icmp .ge 17, 3) := by decide +kernel
theorem d_Ref_advertise_101 : decode b_Ref_advertise 101 = .ok (.aload_n 0, 1) := by decide +kernel
theorem d_Ref_advertise_102 : decode b_Ref_advertise 102 = .ok (.getfield 29, 3) := by decide +kernel
theorem d_Ref_advertise_105 : decode b_Ref_advertise 105 = .ok (.iload_n 3, 1) := by decide +kernel
theorem d_Ref_advertise_106 : decode b_Ref_advertise 106 = .ok (.dup2, 1) := by decide +kernel
theorem d_Ref_advertise_107 : decode b_Ref_advertise 107 = .ok (.laload, 1) := by decide +kernel
theorem d_Ref_advertise_108 : decode b_Ref_advertise 108 = .ok (.lload 5, 2) := by decide +kernel
theorem d_Ref_advertise_110 : decode b_Ref_advertise 110 = .ok (.lor, 1) := by decide +kernel
theorem d_Ref_advertise_111 : decode b_Ref_advertise 111 = .ok (.lastore, 1) := by decide +kernel
theorem d_Ref_advertise_112 : decode b_Ref_advertise 112 = .ok (.goto 14, 3) := by decide +kernel
theorem d_Ref_advertise_115 : decode b_Ref_advertise 115 = .ok (.aload_n 0, 1) := by decide +kernel
theorem d_Ref_advertise_116 : decode b_Ref_advertise 116 = .ok (.getfield 33, 3) := by decide +kernel
theorem d_Ref_advertise_119 : decode b_Ref_advertise 119 = .ok (.iload_n 3, 1) := by decide +kernel
theorem d_Ref_advertise_120 : decode b_Ref_advertise 120 = .ok (.dup2, 1) := by decide +kernel
theorem d_Ref_advertise_121 : decode b_Ref_advertise 121 = .ok (.laload, 1) := by decide +kernel
theorem d_Ref_advertise_122 : decode b_Ref_advertise 122 = .ok (.lload 5, 2) := by decide +kernel
theorem d_Ref_advertise_124 : decode b_Ref_advertise 124 = .ok (.lor, 1) := by decide +kernel
theorem d_Ref_advertise_125 : decode b_Ref_advertise 125 = .ok (.lastore, 1) := by decide +kernel
theorem d_Ref_advertise_126 : decode b_Ref_advertise 126 = .ok (.iinc 4 1, 3) := by decide +kernel
theorem d_Ref_advertise_129 : decode b_Ref_advertise 129 = .ok (.goto (-84), 3) := by decide +kernel
theorem d_Ref_advertise_132 : decode b_Ref_advertise 132 = .ok (.aload_n 0, 1) := by decide +kernel
theorem d_Ref_advertise_133 : decode b_Ref_advertise 133 = .ok (.getfield 39, 3) := by decide +kernel
theorem d_Ref_advertise_136 : decode b_Ref_advertise 136 = .ok (.bipush 12, 2) := by decide +kernel
theorem d_Ref_advertise_138 : decode b_Ref_advertise 138 = .ok (.iload_n 1, 1) := by decide +kernel
theorem d_Ref_advertise_139 : decode b_Ref_advertise 139 = .ok (.imul, 1) := by decide +kernel
theorem d_Ref_advertise_140 : decode b_Ref_advertise 140 = .ok (.iload_n 1, 1) := by decide +kernel
theorem d_Ref_advertise_141 : decode b_Ref_advertise 141 = .ok (.iadd, 1) := by decide +kernel
theorem d_Ref_advertise_142 : decode b_Ref_advertise 142 = .ok (.iload_n 3, 1) := by decide +kernel
theorem d_Ref_advertise_143 : decode b_Ref_advertise 143 = .ok (.iastore, 1) := by decide +kernel
theorem d_Ref_advertise_144 : decode b_Ref_advertise 144 = .ok (.aload_n 0, 1) := by decide +kernel
theorem d_Ref_advertise_145 : decode b_Ref_advertise 145 = .ok (.iload_n 3, 1) := by decide +kernel
theorem d_Ref_advertise_146 : decode b_Ref_advertise 146 = .ok (.iload_n 1, 1) := by decide +kernel
theorem d_Ref_advertise_147 : decode b_Ref_advertise 147 = .ok (.iconst (-1), 1) := by decide +kernel
theorem d_Ref_advertise_148 : decode b_Ref_advertise 148 = .ok (.invokevirtual 113, 3) := by decide +kernel
theorem d_Ref_advertise_151 : decode b_Ref_advertise 151 = .ok (.return_, 1) := by decide +kernel
theorem d_Ref_tellAll_0 : decode b_Ref_tellAll 0 = .ok (.iconst 0, 1) := by decide +kernel
theorem d_Ref_tellAll_1 : decode b_Ref_tellAll 1 = .ok (.istore_n 3, 1) := by decide +kernel
theorem d_Ref_tellAll_2 : decode b_Ref_tellAll 2 = .ok (.iload_n 3, 1) := by decide +kernel
theorem d_Ref_tellAll_3 : decode b_Ref_tellAll 3 = .ok (.bipush 12, 2) := by decide +kernel
theorem d_Ref_tellAll_5 : decode b_Ref_tellAll 5 = .ok (.if_icmp .ge 45, 3) := by decide +kernel
theorem d_Ref_tellAll_8 : decode b_Ref_tellAll 8 = .ok (.iload_n 3, 1) := by decide +kernel
theorem d_Ref_tellAll_9 : decode b_Ref_tellAll 9 = .ok (.iload_n 1, 1) := by decide +kernel
theorem d_Ref_tellAll_10 : decode b_Ref_tellAll 10 = .ok (.if_icmp .eq 34, 3) := by decide +kernel
theorem d_Ref_tellAll_13 : decode b_Ref_tellAll 13 = .ok (.aload_n 0, 1) := by decide +kernel
theorem d_Ref_tellAll_14 : decode b_Ref_tellAll 14 = .ok (.getfield 39, 3) := by decide +kernel
theorem d_Ref_tellAll_17 : decode b_Ref_tellAll 17 = .ok (.bipush 12, 2) := by decide +kernel
theorem d_Ref_tellAll_19 : decode b_Ref_tellAll 19 = .ok (.iload_n 1, 1) := by decide +kernel
theorem d_Ref_tellAll_20 : decode b_Ref_tellAll 20 = .ok (.imul, 1) := by decide +kernel
theorem d_Ref_tellAll_21 : decode b_Ref_tellAll 21 = .ok (.iload_n 3, 1) := by decide +kernel
theorem d_Ref_tellAll_22 : decode b_Ref_tellAll 22 = .ok (.iadd, 1) := by decide +kernel
theorem d_Ref_tellAll_23 : decode b_Ref_tellAll 23 = .ok (.iaload, 1) := by decide +kernel
theorem d_Ref_tellAll_24 : decode b_Ref_tellAll 24 = .ok (.ifCond .lt 20, 3) := by decide +kernel
theorem d_Ref_tellAll_27 : decode b_Ref_tellAll 27 = .ok (.aload_n 0, 1) := by decide +kernel
theorem d_Ref_tellAll_28 : decode b_Ref_tellAll 28 = .ok (.aload_n 0, 1) := by decide +kernel
theorem d_Ref_tellAll_29 : decode b_Ref_tellAll 29 = .ok (.getfield 39, 3) := by decide +kernel
theorem d_Ref_tellAll_32 : decode b_Ref_tellAll 32 = .ok (.bipush 12, 2) := by decide +kernel
theorem d_Ref_tellAll_34 : decode b_Ref_tellAll 34 = .ok (.iload_n 1, 1) := by decide +kernel
theorem d_Ref_tellAll_35 : decode b_Ref_tellAll 35 = .ok (.imul, 1) := by decide +kernel
theorem d_Ref_tellAll_36 : decode b_Ref_tellAll 36 = .ok (.iload_n 3, 1) := by decide +kernel
theorem d_Ref_tellAll_37 : decode b_Ref_tellAll 37 = .ok (.iadd, 1) := by decide +kernel
theorem d_Ref_tellAll_38 : decode b_Ref_tellAll 38 = .ok (.iaload, 1) := by decide +kernel
theorem d_Ref_tellAll_39 : decode b_Ref_tellAll 39 = .ok (.iload_n 1, 1) := by decide +kernel
theorem d_Ref_tellAll_40 : decode b_Ref_tellAll 40 = .ok (.iload_n 2, 1) := by decide +kernel
theorem d_Ref_tellAll_41 : decode b_Ref_tellAll 41 = .ok (.invokevirtual 101, 3) := by decide +kernel
theorem d_Ref_tellAll_44 : decode b_Ref_tellAll 44 = .ok (.iinc 3 1, 3) := by decide +kernel
theorem d_Ref_tellAll_47 : decode b_Ref_tellAll 47 = .ok (.goto (-45), 3) := by decide +kernel
theorem d_Ref_tellAll_50 : decode b_Ref_tellAll 50 = .ok (.return_, 1) := by decide +kernel
theorem d_Ref_link_0 : decode b_Ref_link 0 = .ok (.aload_n 0, 1) := by decide +kernel
theorem d_Ref_link_1 : decode b_Ref_link 1 = .ok (.aload_n 0, 1) := by decide +kernel
theorem d_Ref_link_2 : decode b_Ref_link 2 = .ok (.getfield 92, 3) := by decide +kernel
theorem d_Ref_link_5 : decode b_Ref_link 5 = .ok (.sipush 2000, 3) := by decide +kernel
theorem d_Ref_link_8 : decode b_Ref_link 8 = .ok (.if_icmp .lt 7, 3) := by decide +kernel
theorem d_Ref_link_11 : decode b_Ref_link 11 = .ok (.iconst 1, 1) := by decide +kernel
theorem d_Ref_link_12 : decode b_Ref_link 12 = .ok (.goto 39, 3) := by decide +kernel
theorem d_Ref_link_15 : decode b_Ref_link 15 = .ok (.iload_n 1, 1) := by decide +kernel
theorem d_Ref_link_16 : decode b_Ref_link 16 = .ok (.invokestatic 82, 3) := by decide +kernel
theorem d_Ref_link_19 : decode b_Ref_link 19 = .ok (.ifCond .eq 27, 3) := by decide +kernel
theorem d_Ref_link_22 : decode b_Ref_link 22 = .ok (.iload_n 2, 1) := by decide +kernel
theorem d_Ref_link_23 : decode b_Ref_link 23 = .ok (.invokestatic 82, 3) := by decide +kernel
theorem d_Ref_link_26 : decode b_Ref_link 26 = .ok (.ifCond .eq 20, 3) := by decide +kernel
theorem d_Ref_link_29 : decode b_Ref_link 29 = .ok (.iload_n 1, 1) := by decide +kernel
theorem d_Ref_link_30 : decode b_Ref_link 30 = .ok (.iload_n 2, 1) := by decide +kernel
theorem d_Ref_link_31 : decode b_Ref_link 31 = .ok (.if_icmp .eq 15, 3) := by decide +kernel
theorem d_Ref_link_34 : decode b_Ref_link 34 = .ok (.iload_n 3, 1) := by decide +kernel
theorem d_Ref_link_35 : decode b_Ref_link 35 = .ok (.i2l, 1) := by decide +kernel
theorem d_Ref_link_36 : decode b_Ref_link 36 = .ok (.lconst 1, 1) := by decide +kernel
theorem d_Ref_link_37 : decode b_Ref_link 37 = .ok (.ldc2_w 116, 3) := by decide +kernel
theorem d_Ref_link_40 : decode b_Ref_link 40 = .ok (.invokestatic 78, 3) := by decide +kernel
theorem d_Ref_link_43 : decode b_Ref_link 43 = .ok (.ifCond .ne 7, 3) := by decide +kernel
theorem d_Ref_link_46 : decode b_Ref_link 46 = .ok (.iconst 2, 1) := by decide +kernel
theorem d_Ref_link_47 : decode b_Ref_link 47 = .ok (.goto 4, 3) := by decide +kernel
theorem d_Ref_link_50 : decode b_Ref_link 50 = .ok (.iconst 0, 1) := by decide +kernel
theorem d_Ref_link_51 : decode b_Ref_link 51 = .ok (.putfield 72, 3) := by decide +kernel
theorem d_Ref_link_54 : decode b_Ref_link 54 = .ok (.aload_n 0, 1) := by decide +kernel
theorem d_Ref_link_55 : decode b_Ref_link 55 = .ok (.getfield 72, 3) := by decide +kernel
theorem d_Ref_link_58 : decode b_Ref_link 58 = .ok (.ifCond .ne 22, 3) := by decide +kernel
theorem d_Ref_link_61 : decode b_Ref_link 61 = .ok (.aload_n 0, 1) := by decide +kernel
theorem d_Ref_link_62 : decode b_Ref_link 62 = .ok (.getfield 13, 3) := by decide +kernel
theorem d_Ref_link_65 : decode b_Ref_link 65 = .ok (.bipush 12, 2) := by decide +kernel
theorem d_Ref_link_67 : decode b_Ref_link 67 = .ok (.iload_n 1, 1) := by decide +kernel
theorem d_Ref_link_68 : decode b_Ref_link 68 = .ok (.imul, 1) := by decide +kernel
theorem d_Ref_link_69 : decode b_Ref_link 69 = .ok (.iload_n 2, 1) := by decide +kernel
theorem d_Ref_link_70 : decode b_Ref_link 70 = .ok (.iadd, 1) := by decide +kernel
theorem d_Ref_link_71 : decode b_Ref_link 71 = .ok (.iaload, 1) := by decide +kernel
theorem d_Ref_link_72 : decode b_Ref_link 72 = .ok (.ifCond .eq 8, 3) := by decide +kernel
theorem d_Ref_link_75 : decode b_Ref_link 75 = .ok (.aload_n 0, 1) := by decide +kernel
theorem d_Ref_link_76 : decode b_Ref_link 76 = .ok (.iconst 2, 1) := by decide +kernel
theorem d_Ref_link_77 : decode b_Ref_link 77 = .ok (.putfield 72, 3) := by decide +kernel
theorem d_Ref_link_80 : decode b_Ref_link 80 = .ok (.aload_n 0, 1) := by decide +kernel
theorem d_Ref_link_81 : decode b_Ref_link 81 = .ok (.getfield 72, 3) := by decide +kernel
theorem d_Ref_link_84 : decode b_Ref_link 84 = .ok (.ifCond .le 4, 3) := by decide +kernel
theorem d_Ref_link_87 : decode b_Ref_link 87 = .ok (.return_, 1) := by decide +kernel
theorem d_Ref_link_88 : decode b_Ref_link 88 = .ok (.iload_n 1, 1) := by decide +kernel
theorem d_Ref_link_89 : decode b_Ref_link 89 = .ok (.iload_n 2, 1) := by decide +kernel
theorem d_Ref_link_90 : decode b_Ref_link 90 = .ok (.if_icmp .ge 7, 3) := by decide +kernel
theorem d_Ref_link_93 : decode b_Ref_link 93 = .ok (.iload_n 1, 1) := by decide +kernel
theorem d_Ref_link_94 : decode b_Ref_link 94 = .ok (.goto 4, 3) := by decide +kernel
theorem d_Ref_link_97 : decode b_Ref_link 97 = .ok (.iload_n 2, 1) := by decide +kernel
theorem d_Ref_link_98 : decode b_Ref_link 98 = .ok (.istore 4, 2) := by decide +kernel
theorem d_Ref_link_100 : decode b_Ref_link 100 = .ok (.iload_n 1, 1) := by decide +kernel
theorem d_Ref_link_101 : decode b_Ref_link 101 = .ok (.iload_n 2, 1) := by decide +kernel
theorem d_Ref_link_102 : decode b_Ref_link 102 = .ok (.if_icmp .ge 7, 3) := by decide +kernel
theorem d_Ref_link_105 : decode b_Ref_link 105 = .ok (.iload_n 2, 1) := by decide +kernel
theorem d_Ref_link_106 : decode b_Ref_link 106 = .ok (.goto 4, 3) := by decide +kernel
theorem d_Ref_link_109 : decode b_Ref_link 109 = .ok (.iload_n 1, 1) := by decide +kernel
theorem d_Ref_link_110 : decode b_Ref_link 110 = .ok (.istore 5, 2) := by decide +kernel
theorem d_Ref_link_112 : decode b_Ref_link 112 = .ok (.aload_n 0, 1) := by decide +kernel
theorem d_Ref_link_113 : decode b_Ref_link 113 = .ok (.getfield 13, 3) := by decide +kernel
theorem d_Ref_link_116 : decode b_Ref_link 116 = .ok (.bipush 12, 2) := by decide +kernel
theorem d_Ref_link_118 : decode b_Ref_link 118 = .ok (.iload_n 1, 1) := by decide +kernel
theorem d_Ref_link_119 : decode b_Ref_link 119 = .ok (.imul, 1) := by decide +kernel
theorem d_Ref_link_120 : decode b_Ref_link 120 = .ok (.iload_n 2, 1) := by decide +kernel
theorem d_Ref_link_121 : decode b_Ref_link 121 = .ok (.iadd, 1) := by decide +kernel
theorem d_Ref_link_122 : decode b_Ref_link 122 = .ok (.iconst 1, 1) := by decide +kernel
theorem d_Ref_link_123 : decode b_Ref_link 123 = .ok (.iastore, 1) := by decide +kernel
theorem d_Ref_link_124 : decode b_Ref_link 124 = .ok (.aload_n 0, 1) := by decide +kernel
theorem d_Ref_link_125 : decode b_Ref_link 125 = .ok (.getfield 13, 3) := by decide +kernel
theorem d_Ref_link_128 : decode b_Ref_link 128 = .ok (.bipush 12, 2) := by decide +kernel
theorem d_Ref_link_130 : decode b_Ref_link 130 = .ok (.iload_n 2, 1) := by decide +kernel
theorem d_Ref_link_131 : decode b_Ref_link 131 = .ok (.imul, 1) := by decide +kernel
theorem d_Ref_link_132 : decode b_Ref_link 132 = .ok (.iload_n 1, 1) := by decide +kernel
theorem d_Ref_link_133 : decode b_Ref_link 133 = .ok (.iadd, 1) := by decide +kernel
theorem d_Ref_link_134 : decode b_Ref_link 134 = .ok (.iconst 1, 1) := by decide +kernel
theorem d_Ref_link_135 : decode b_Ref_link 135 = .ok (.iastore, 1) := by decide +kernel
theorem d_Ref_link_136 : decode b_Ref_link 136 = .ok (.aload_n 0, 1) := by decide +kernel
theorem d_Ref_link_137 : decode b_Ref_link 137 = .ok (.getfield 16, 3) := by decide +kernel
theorem d_Ref_link_140 : decode b_Ref_link 140 = .ok (.bipush 12, 2) := by decide +kernel
theorem d_Ref_link_142 : decode b_Ref_link 142 = .ok (.iload_n 1, 1) := by decide +kernel
theorem d_Ref_link_143 : decode b_Ref_link 143 = .ok (.imul, 1) := by decide +kernel
theorem d_Ref_link_144 : decode b_Ref_link 144 = .ok (.iload_n 2, 1) := by decide +kernel
theorem d_Ref_link_145 : decode b_Ref_link 145 = .ok (.iadd, 1) := by decide +kernel
theorem d_Ref_link_146 : decode b_Ref_link 146 = .ok (.iload_n 3, 1) := by decide +kernel
theorem d_Ref_link_147 : decode b_Ref_link 147 = .ok (.iastore, 1) := by decide +kernel
theorem d_Ref_link_148 : decode b_Ref_link 148 = .ok (.aload_n 0, 1) := by decide +kernel
theorem d_Ref_link_149 : decode b_Ref_link 149 = .ok (.getfield 16, 3) := by decide +kernel
theorem d_Ref_link_152 : decode b_Ref_link 152 = .ok (.bipush 12, 2) := by decide +kernel
theorem d_Ref_link_154 : decode b_Ref_link 154 = .ok (.iload_n 2, 1) := by decide +kernel
theorem d_Ref_link_155 : decode b_Ref_link 155 = .ok (.imul, 1) := by decide +kernel
theorem d_Ref_link_156 : decode b_Ref_link 156 = .ok (.iload_n 1, 1) := by decide +kernel
theorem d_Ref_link_157 : decode b_Ref_link 157 = .ok (.iadd, 1) := by decide +kernel
theorem d_Ref_link_158 : decode b_Ref_link 158 = .ok (.iload_n 3, 1) := by decide +kernel
theorem d_Ref_link_159 : decode b_Ref_link 159 = .ok (.iastore, 1) := by decide +kernel
theorem d_Ref_link_160 : decode b_Ref_link 160 = .ok (.aload_n 0, 1) := by decide +kernel
theorem d_Ref_link_161 : decode b_Ref_link 161 = .ok (.getfield 19, 3) := by decide +kernel
theorem d_Ref_link_164 : decode b_Ref_link 164 = .ok (.bipush 12, 2) := by decide +kernel
theorem d_Ref_link_166 : decode b_Ref_link 166 = .ok (.iload_n 1, 1) := by decide +kernel
theorem d_Ref_link_167 : decode b_Ref_link 167 = .ok (.imul, 1) := by decide +kernel
theorem d_Ref_link_168 : decode b_Ref_link 168 = .ok (.iload_n 2, 1) := by decide +kernel
theorem d_Ref_link_169 : decode b_Ref_link 169 = .ok (.iadd, 1) := by decide +kernel
theorem d_Ref_link_170 : decode b_Ref_link 170 = .ok (.iconst 1, 1) := by decide +kernel
theorem d_Ref_link_171 : decode b_Ref_link 171 = .ok (.bastore, 1) := by decide +kernel
theorem d_Ref_link_172 : decode b_Ref_link 172 = .ok (.aload_n 0, 1) := by decide +kernel
theorem d_Ref_link_173 : decode b_Ref_link 173 = .ok (.getfield 19, 3) := by decide +kernel
theorem d_Ref_link_176 : decode b_Ref_link 176 = .ok (.bipush 12, 2) := by decide +kernel
theorem d_Ref_link_178 : decode b_Ref_link 178 = .ok (.iload_n 2, 1) := by decide +kernel
theorem d_Ref_link_179 : decode b_Ref_link 179 = .ok (.imul, 1) := by decide +kernel
theorem d_Ref_link_180 : decode b_Ref_link 180 = .ok (.iload_n 1, 1) := by decide +kernel
theorem d_Ref_link_181 : decode b_Ref_link 181 = .ok (.iadd, 1) := by decide +kernel
theorem d_Ref_link_182 : decode b_Ref_link 182 = .ok (.iconst 1, 1) := by decide +kernel
theorem d_Ref_link_183 : decode b_Ref_link 183 = .ok (.bastore, 1) := by decide +kernel
theorem d_Ref_link_184 : decode b_Ref_link 184 = .ok (.aload_n 0, 1) := by decide +kernel
theorem d_Ref_link_185 : decode b_Ref_link 185 = .ok (.iload 4, 2) := by decide +kernel
theorem d_Ref_link_187 : decode b_Ref_link 187 = .ok (.invokevirtual 118, 3) := by decide +kernel
theorem d_Ref_link_190 : decode b_Ref_link 190 = .ok (.aload_n 0, 1) := by decide +kernel
theorem d_Ref_link_191 : decode b_Ref_link 191 = .ok (.iload 5, 2) := by decide +kernel
theorem d_Ref_link_193 : decode b_Ref_link 193 = .ok (.invokevirtual 118, 3) := by decide +kernel
theorem d_Ref_link_196 : decode b_Ref_link 196 = .ok (.aload_n 0, 1) := by decide +kernel
theorem d_Ref_link_197 : decode b_Ref_link 197 = .ok (.iload 4, 2) := by decide +kernel
theorem d_Ref_link_199 : decode b_Ref_link 199 = .ok (.iload 5, 2) := by decide +kernel
theorem d_Ref_link_201 : decode b_Ref_link 201 = .ok (.invokevirtual 122, 3) := by decide +kernel
theorem d_Ref_link_204 : decode b_Ref_link 204 = .ok (.aload_n 0, 1) := by decide +kernel
theorem d_Ref_link_205 : decode b_Ref_link 205 = .ok (.iload 5, 2) := by decide +kernel
theorem d_Ref_link_207 : decode b_Ref_link 207 = .ok (.iload 4, 2) := by decide +kernel
theorem d_Ref_link_209 : decode b_Ref_link 209 = .ok (.invokevirtual 122, 3) := by decide +kernel
theorem d_Ref_link_212 : decode b_Ref_link 212 = .ok (.return_, 1) := by decide +kernel
theorem d_Ref_cut_0 : decode b_Ref_cut 0 = .ok (.aload_n 0, 1) := by decide +kernel
theorem d_Ref_cut_1 : decode b_Ref_cut 1 = .ok (.iload_n 1, 1) := by decide +kernel
theorem d_Ref_cut_2 : decode b_Ref_cut 2 = .ok (.invokestatic 82, 3) := by decide +kernel
theorem d_Ref_cut_5 : decode b_Ref_cut 5 = .ok (.ifCond .eq 29, 3) := by decide +kernel
theorem d_Ref_cut_8 : decode b_Ref_cut 8 = .ok (.iload_n 2, 1) := by decide +kernel
theorem d_Ref_cut_9 : decode b_Ref_cut 9 = .ok (.invokestatic 82, 3) := by decide +kernel
theorem d_Ref_cut_12 : decode b_Ref_cut 12 = .ok (.ifCond .eq 22, 3) := by decide +kernel
theorem d_Ref_cut_15 : decode b_Ref_cut 15 = .ok (.aload_n 0, 1) := by decide +kernel
theorem d_Ref_cut_16 : decode b_Ref_cut 16 = .ok (.getfield 13, 3) := by decide +kernel
theorem d_Ref_cut_19 : decode b_Ref_cut 19 = .ok (.bipush 12, 2) := by decide +kernel
theorem d_Ref_cut_21 : decode b_Ref_cut 21 = .ok (.iload_n 1, 1) := by decide +kernel
theorem d_Ref_cut_22 : decode b_Ref_cut 22 = .ok (.imul, 1) := by decide +kernel
theorem d_Ref_cut_23 : decode b_Ref_cut 23 = .ok (.iload_n 2, 1) := by decide +kernel
theorem d_Ref_cut_24 : decode b_Ref_cut 24 = .ok (.iadd, 1) := by decide +kernel
theorem d_Ref_cut_25 : decode b_Ref_cut 25 = .ok (.iaload, 1) := by decide +kernel
theorem d_Ref_cut_26 : decode b_Ref_cut 26 = .ok (.iconst 1, 1) := by decide +kernel
theorem d_Ref_cut_27 : decode b_Ref_cut 27 = .ok (.if_icmp .ne 7, 3) := by decide +kernel
theorem d_Ref_cut_30 : decode b_Ref_cut 30 = .ok (.iconst 0, 1) := by decide +kernel
theorem d_Ref_cut_31 : decode b_Ref_cut 31 = .ok (.goto 4, 3) := by decide +kernel
theorem d_Ref_cut_34 : decode b_Ref_cut 34 = .ok (.iconst 1, 1) := by decide +kernel
theorem d_Ref_cut_35 : decode b_Ref_cut 35 = .ok (.putfield 72, 3) := by decide +kernel
theorem d_Ref_cut_38 : decode b_Ref_cut 38 = .ok (.aload_n 0, 1) := by decide +kernel
theorem d_Ref_cut_39 : decode b_Ref_cut 39 = .ok (.getfield 72, 3) := by decide +kernel
theorem d_Ref_cut_42 : decode b_Ref_cut 42 = .ok (.ifCond .le 4, 3) := by decide +kernel
theorem d_Ref_cut_45 : decode b_Ref_cut 45 = .ok (.return_, 1) := by decide +kernel
theorem d_Ref_cut_46 : decode b_Ref_cut 46 = .ok (.aload_n 0, 1) := by decide +kernel
theorem d_Ref_cut_47 : decode b_Ref_cut 47 = .ok (.getfield 13, 3) := by decide +kernel
theorem d_Ref_cut_50 : decode b_Ref_cut 50 = .ok (.bipush 12, 2) := by decide +kernel
theorem d_Ref_cut_52 : decode b_Ref_cut 52 = .ok (.iload_n 1, 1) := by decide +kernel
theorem d_Ref_cut_53 : decode b_Ref_cut 53 = .ok (.imul, 1) := by decide +kernel
theorem d_Ref_cut_54 : decode b_Ref_cut 54 = .ok (.iload_n 2, 1) := by decide +kernel
theorem d_Ref_cut_55 : decode b_Ref_cut 55 = .ok (.iadd, 1) := by decide +kernel
theorem d_Ref_cut_56 : decode b_Ref_cut 56 = .ok (.iconst 2, 1) := by decide +kernel
theorem d_Ref_cut_57 : decode b_Ref_cut 57 = .ok (.iastore, 1) := by decide +kernel
theorem d_Ref_cut_58 : decode b_Ref_cut 58 = .ok (.aload_n 0, 1) := by decide +kernel
theorem d_Ref_cut_59 : decode b_Ref_cut 59 = .ok (.getfield 13, 3) := by decide +kernel
theorem d_Ref_cut_62 : decode b_Ref_cut 62 = .ok (.bipush 12, 2) := by decide +kernel
theorem d_Ref_cut_64 : decode b_Ref_cut 64 = .ok (.iload_n 2, 1) := by decide +kernel
theorem d_Ref_cut_65 : decode b_Ref_cut 65 = .ok (.imul, 1) := by decide +kernel
theorem d_Ref_cut_66 : decode b_Ref_cut 66 = .ok (.iload_n 1, 1) := by decide +kernel
theorem d_Ref_cut_67 : decode b_Ref_cut 67 = .ok (.iadd, 1) := by decide +kernel
theorem d_Ref_cut_68 : decode b_Ref_cut 68 = .ok (.iconst 2, 1) := by decide +kernel
theorem d_Ref_cut_69 : decode b_Ref_cut 69 = .ok (.iastore, 1) := by decide +kernel
theorem d_Ref_cut_70 : decode b_Ref_cut 70 = .ok (.return_, 1) := by decide +kernel
theorem d_Ref_notice_0 : decode b_Ref_notice 0 = .ok (.aload_n 0, 1) := by decide +kernel
theorem d_Ref_notice_1 : decode b_Ref_notice 1 = .ok (.aload_n 0, 1) := by decide +kernel
theorem d_Ref_notice_2 : decode b_Ref_notice 2 = .ok (.getfield 92, 3) := by decide +kernel
theorem d_Ref_notice_5 : decode b_Ref_notice 5 = .ok (.sipush 2000, 3) := by decide +kernel
theorem d_Ref_notice_8 : decode b_Ref_notice 8 = .ok (.if_icmp .lt 7, 3) := by decide +kernel
theorem d_Ref_notice_11 : decode b_Ref_notice 11 = .ok (.iconst 1, 1) := by decide +kernel
theorem d_Ref_notice_12 : decode b_Ref_notice 12 = .ok (.goto 51, 3) := by decide +kernel
theorem d_Ref_notice_15 : decode b_Ref_notice 15 = .ok (.iload_n 1, 1) := by decide +kernel
theorem d_Ref_notice_16 : decode b_Ref_notice 16 = .ok (.invokestatic 82, 3) := by decide +kernel
theorem d_Ref_notice_19 : decode b_Ref_notice 19 = .ok (.ifCond .eq 43, 3) := by decide +kernel
theorem d_Ref_notice_22 : decode b_Ref_notice 22 = .ok (.iload_n 2, 1) := by decide +kernel
theorem d_Ref_notice_23 : decode b_Ref_notice 23 = .ok (.invokestatic 82, 3) := by decide +kernel
theorem d_Ref_notice_26 : decode b_Ref_notice 26 = .ok (.ifCond .eq 36, 3) := by decide +kernel
theorem d_Ref_notice_29 : decode b_Ref_notice 29 = .ok (.aload_n 0, 1) := by decide +kernel
theorem d_Ref_notice_30 : decode b_Ref_notice 30 = .ok (.getfield 19, 3) := by decide +kernel
theorem d_Ref_notice_33 : decode b_Ref_notice 33 = .ok (.bipush 12, 2) := by decide +kernel
theorem d_Ref_notice_35 : decode b_Ref_notice 35 = .ok (.iload_n 1, 1) := by decide +kernel
theorem d_Ref_notice_36 : decode b_Ref_notice 36 = .ok (.imul, 1) := by decide +kernel
theorem d_Ref_notice_37 : decode b_Ref_notice 37 = .ok (.iload_n 2, 1) := by decide +kernel
theorem d_Ref_notice_38 : decode b_Ref_notice 38 = .ok (.iadd, 1) := by decide +kernel
theorem d_Ref_notice_39 : decode b_Ref_notice 39 = .ok (.baload, 1) := by decide +kernel
theorem d_Ref_notice_40 : decode b_Ref_notice 40 = .ok (.ifCond .eq 22, 3) := by decide +kernel
theorem d_Ref_notice_43 : decode b_Ref_notice 43 = .ok (.aload_n 0, 1) := by decide +kernel
theorem d_Ref_notice_44 : decode b_Ref_notice 44 = .ok (.getfield 13, 3) := by decide +kernel
theorem d_Ref_notice_47 : decode b_Ref_notice 47 = .ok (.bipush 12, 2) := by decide +kernel
theorem d_Ref_notice_49 : decode b_Ref_notice 49 = .ok (.iload_n 1, 1) := by decide +kernel
theorem d_Ref_notice_50 : decode b_Ref_notice 50 = .ok (.imul, 1) := by decide +kernel
theorem d_Ref_notice_51 : decode b_Ref_notice 51 = .ok (.iload_n 2, 1) := by decide +kernel
theorem d_Ref_notice_52 : decode b_Ref_notice 52 = .ok (.iadd, 1) := by decide +kernel
theorem d_Ref_notice_53 : decode b_Ref_notice 53 = .ok (.iaload, 1) := by decide +kernel
theorem d_Ref_notice_54 : decode b_Ref_notice 54 = .ok (.iconst 2, 1) := by decide +kernel
theorem d_Ref_notice_55 : decode b_Ref_notice 55 = .ok (.if_icmp .ne 7, 3) := by decide +kernel
theorem d_Ref_notice_58 : decode b_Ref_notice 58 = .ok (.iconst 0, 1) := by decide +kernel
theorem d_Ref_notice_59 : decode b_Ref_notice 59 = .ok (.goto 4, 3) := by decide +kernel
theorem d_Ref_notice_62 : decode b_Ref_notice 62 = .ok (.iconst 2, 1) := by decide +kernel
theorem d_Ref_notice_63 : decode b_Ref_notice 63 = .ok (.putfield 72, 3) := by decide +kernel
theorem d_Ref_notice_66 : decode b_Ref_notice 66 = .ok (.aload_n 0, 1) := by decide +kernel
theorem d_Ref_notice_67 : decode b_Ref_notice 67 = .ok (.getfield 72, 3) := by decide +kernel
theorem d_Ref_notice_70 : decode b_Ref_notice 70 = .ok (.ifCond .le 4, 3) := by decide +kernel
theorem d_Ref_notice_73 : decode b_Ref_notice 73 = .ok (.return_, 1) := by decide +kernel
theorem d_Ref_notice_74 : decode b_Ref_notice 74 = .ok (.aload_n 0, 1) := by decide +kernel
theorem d_Ref_notice_75 : decode b_Ref_notice 75 = .ok (.getfield 19, 3) := by decide +kernel
theorem d_Ref_notice_78 : decode b_Ref_notice 78 = .ok (.bipush 12, 2) := by decide +kernel
theorem d_Ref_notice_80 : decode b_Ref_notice 80 = .ok (.iload_n 1, 1) := by decide +kernel
theorem d_Ref_notice_81 : decode b_Ref_notice 81 = .ok (.imul, 1) := by decide +kernel
theorem d_Ref_notice_82 : decode b_Ref_notice 82 = .ok (.iload_n 2, 1) := by decide +kernel
theorem d_Ref_notice_83 : decode b_Ref_notice 83 = .ok (.iadd, 1) := by decide +kernel
theorem d_Ref_notice_84 : decode b_Ref_notice 84 = .ok (.iconst 0, 1) := by decide +kernel
theorem d_Ref_notice_85 : decode b_Ref_notice 85 = .ok (.bastore, 1) := by decide +kernel
theorem d_Ref_notice_86 : decode b_Ref_notice 86 = .ok (.aload_n 0, 1) := by decide +kernel
theorem d_Ref_notice_87 : decode b_Ref_notice 87 = .ok (.getfield 19, 3) := by decide +kernel
theorem d_Ref_notice_90 : decode b_Ref_notice 90 = .ok (.bipush 12, 2) := by decide +kernel
theorem d_Ref_notice_92 : decode b_Ref_notice 92 = .ok (.iload_n 2, 1) := by decide +kernel
theorem d_Ref_notice_93 : decode b_Ref_notice 93 = .ok (.imul, 1) := by decide +kernel
theorem d_Ref_notice_94 : decode b_Ref_notice 94 = .ok (.iload_n 1, 1) := by decide +kernel
theorem d_Ref_notice_95 : decode b_Ref_notice 95 = .ok (.iadd, 1) := by decide +kernel
theorem d_Ref_notice_96 : decode b_Ref_notice 96 = .ok (.baload, 1) := by decide +kernel
theorem d_Ref_notice_97 : decode b_Ref_notice 97 = .ok (.ifCond .ne 27, 3) := by decide +kernel
theorem d_Ref_notice_100 : decode b_Ref_notice 100 = .ok (.aload_n 0, 1) := by decide +kernel
theorem d_Ref_notice_101 : decode b_Ref_notice 101 = .ok (.getfield 13, 3) := by decide +kernel
theorem d_Ref_notice_104 : decode b_Ref_notice 104 = .ok (.bipush 12, 2) := by decide +kernel
theorem d_Ref_notice_106 : decode b_Ref_notice 106 = .ok (.iload_n 1, 1) := by decide +kernel
theorem d_Ref_notice_107 : decode b_Ref_notice 107 = .ok (.imul, 1) := by decide +kernel
theorem d_Ref_notice_108 : decode b_Ref_notice 108 = .ok (.iload_n 2, 1) := by decide +kernel
theorem d_Ref_notice_109 : decode b_Ref_notice 109 = .ok (.iadd, 1) := by decide +kernel
theorem d_Ref_notice_110 : decode b_Ref_notice 110 = .ok (.iconst 0, 1) := by decide +kernel
theorem d_Ref_notice_111 : decode b_Ref_notice 111 = .ok (.iastore, 1) := by decide +kernel
theorem d_Ref_notice_112 : decode b_Ref_notice 112 = .ok (.aload_n 0, 1) := by decide +kernel
theorem d_Ref_notice_113 : decode b_Ref_notice 113 = .ok (.getfield 13, 3) := by decide +kernel
theorem d_Ref_notice_116 : decode b_Ref_notice 116 = .ok (.bipush 12, 2) := by decide +kernel
theorem d_Ref_notice_118 : decode b_Ref_notice 118 = .ok (.iload_n 2, 1) := by decide +kernel
theorem d_Ref_notice_119 : decode b_Ref_notice 119 = .ok (.imul, 1) := by decide +kernel
theorem d_Ref_notice_120 : decode b_Ref_notice 120 = .ok (.iload_n 1, 1) := by decide +kernel
theorem d_Ref_notice_121 : decode b_Ref_notice 121 = .ok (.iadd, 1) := by decide +kernel
theorem d_Ref_notice_122 : decode b_Ref_notice 122 = .ok (.iconst 0, 1) := by decide +kernel
theorem d_Ref_notice_123 : decode b_Ref_notice 123 = .ok (.iastore, 1) := by decide +kernel
theorem d_Ref_notice_124 : decode b_Ref_notice 124 = .ok (.aload_n 0, 1) := by decide +kernel
theorem d_Ref_notice_125 : decode b_Ref_notice 125 = .ok (.iload_n 1, 1) := by decide +kernel
theorem d_Ref_notice_126 : decode b_Ref_notice 126 = .ok (.invokevirtual 118, 3) := by decide +kernel
theorem d_Ref_notice_129 : decode b_Ref_notice 129 = .ok (.return_, 1) := by decide +kernel
theorem d_Ref_oldestMessage_0 : decode b_Ref_oldestMessage 0 = .ok (.aload_n 0, 1) := by decide +kernel
theorem d_Ref_oldestMessage_1 : decode b_Ref_oldestMessage 1 = .ok (.getfield 42, 3) := by decide +kernel
theorem d_Ref_oldestMessage_4 : decode b_Ref_oldestMessage 4 = .ok (.aload_n 0, 1) := by decide +kernel
theorem d_Ref_oldestMessage_5 : decode b_Ref_oldestMessage 5 = .ok (.getfield 95, 3) := by decide +kernel
theorem d_Ref_oldestMessage_8 : decode b_Ref_oldestMessage 8 = .ok (.iaload, 1) := by decide +kernel
theorem d_Ref_oldestMessage_9 : decode b_Ref_oldestMessage 9 = .ok (.istore_n 1, 1) := by decide +kernel
theorem d_Ref_oldestMessage_10 : decode b_Ref_oldestMessage 10 = .ok (.aload_n 0, 1) := by decide +kernel
theorem d_Ref_oldestMessage_11 : decode b_Ref_oldestMessage 11 = .ok (.aload_n 0, 1) := by decide +kernel
theorem d_Ref_oldestMessage_12 : decode b_Ref_oldestMessage 12 = .ok (.getfield 95, 3) := by decide +kernel
theorem d_Ref_oldestMessage_15 : decode b_Ref_oldestMessage 15 = .ok (.iconst 1, 1) := by decide +kernel
theorem d_Ref_oldestMessage_16 : decode b_Ref_oldestMessage 16 = .ok (.iadd, 1) := by decide +kernel
theorem d_Ref_oldestMessage_17 : decode b_Ref_oldestMessage 17 = .ok (.sipush 4000, 3) := by decide +kernel
theorem d_Ref_oldestMessage_20 : decode b_Ref_oldestMessage 20 = .ok (.irem, 1) := by decide +kernel
theorem d_Ref_oldestMessage_21 : decode b_Ref_oldestMessage 21 = .ok (.putfield 95, 3) := by decide +kernel
theorem d_Ref_oldestMessage_24 : decode b_Ref_oldestMessage 24 = .ok (.aload_n 0, 1) := by decide +kernel
theorem d_Ref_oldestMessage_25 : decode b_Ref_oldestMessage 25 = .ok (.dup, 1) := by decide +kernel
theorem d_Ref_oldestMessage_26 : decode b_Ref_oldestMessage 26 = .ok (.getfield 92, 3) := by decide +kernel
theorem d_Ref_oldestMessage_29 : decode b_Ref_oldestMessage 29 = .ok (.iconst 1, 1) := by decide +kernel
theorem d_Ref_oldestMessage_30 : decode b_Ref_oldestMessage 30 = .ok (.isub, 1) := by decide +kernel
theorem d_Ref_oldestMessage_31 : decode b_Ref_oldestMessage 31 = .ok (.putfield 92, 3) := by decide +kernel
theorem d_Ref_oldestMessage_34 : decode b_Ref_oldestMessage 34 = .ok (.iload_n 1, 1) := by decide +kernel
