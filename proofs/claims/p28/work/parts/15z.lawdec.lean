theorem dL_cell_0 : decode cL_cell 0 = .ok (.iload_n 1, 1) := by decide +kernel
theorem dL_cell_1 : decode cL_cell 1 = .ok (.aload_n 0, 1) := by decide +kernel
theorem dL_cell_2 : decode cL_cell 2 = .ok (.arraylength, 1) := by decide +kernel
theorem dL_cell_3 : decode cL_cell 3 = .ok (.if_icmp .ge 9, 3) := by decide +kernel
theorem dL_cell_6 : decode cL_cell 6 = .ok (.aload_n 0, 1) := by decide +kernel
theorem dL_cell_7 : decode cL_cell 7 = .ok (.iload_n 1, 1) := by decide +kernel
theorem dL_cell_8 : decode cL_cell 8 = .ok (.iaload, 1) := by decide +kernel
theorem dL_cell_9 : decode cL_cell 9 = .ok (.goto 11, 3) := by decide +kernel
theorem dL_cell_12 : decode cL_cell 12 = .ok (.ldc 7, 2) := by decide +kernel
theorem dL_cell_14 : decode cL_cell 14 = .ok (.iload_n 1, 1) := by decide +kernel
theorem dL_cell_15 : decode cL_cell 15 = .ok (.sipush 1181, 3) := by decide +kernel
theorem dL_cell_18 : decode cL_cell 18 = .ok (.iadd, 1) := by decide +kernel
theorem dL_cell_19 : decode cL_cell 19 = .ok (.imul, 1) := by decide +kernel
theorem dL_cell_20 : decode cL_cell 20 = .ok (.ireturn, 1) := by decide +kernel
theorem dL_up_0 : decode cL_up 0 = .ok (.iload_n 0, 1) := by decide +kernel
theorem dL_up_1 : decode cL_up 1 = .ok (.ldc 8, 2) := by decide +kernel
theorem dL_up_3 : decode cL_up 3 = .ok (.iand, 1) := by decide +kernel
theorem dL_up_4 : decode cL_up 4 = .ok (.iload_n 1, 1) := by decide +kernel
theorem dL_up_5 : decode cL_up 5 = .ok (.irem, 1) := by decide +kernel
theorem dL_up_6 : decode cL_up 6 = .ok (.ireturn, 1) := by decide +kernel
theorem dL_law_0 : decode cL_law 0 = .ok (.new 9, 3) := by decide +kernel
theorem dL_law_3 : decode cL_law 3 = .ok (.dup, 1) := by decide +kernel
theorem dL_law_4 : decode cL_law 4 = .ok (.invokespecial 11, 3) := by decide +kernel
theorem dL_law_7 : decode cL_law 7 = .ok (.astore_n 1, 1) := by decide +kernel
theorem dL_law_8 : decode cL_law 8 = .ok (.iconst 0, 1) := by decide +kernel
theorem dL_law_9 : decode cL_law 9 = .ok (.istore_n 2, 1) := by decide +kernel
theorem dL_law_10 : decode cL_law 10 = .ok (.aload_n 1, 1) := by decide +kernel
theorem dL_law_11 : decode cL_law 11 = .ok (.aload_n 0, 1) := by decide +kernel
theorem dL_law_12 : decode cL_law 12 = .ok (.iload_n 2, 1) := by decide +kernel
theorem dL_law_13 : decode cL_law 13 = .ok (.iinc 2 1, 3) := by decide +kernel
theorem dL_law_16 : decode cL_law 16 = .ok (.invokestatic 12, 3) := by decide +kernel
theorem dL_law_19 : decode cL_law 19 = .ok (.invokestatic 18, 3) := by decide +kernel
theorem dL_law_22 : decode cL_law 22 = .ok (.ifCond .ne 5, 3) := by decide +kernel
theorem dL_law_25 : decode cL_law 25 = .ok (.iconst 0, 1) := by decide +kernel
theorem dL_law_26 : decode cL_law 26 = .ok (.ireturn, 1) := by decide +kernel
theorem dL_law_27 : decode cL_law 27 = .ok (.aload_n 1, 1) := by decide +kernel
theorem dL_law_28 : decode cL_law 28 = .ok (.iconst 0, 1) := by decide +kernel
theorem dL_law_29 : decode cL_law 29 = .ok (.iconst 4, 1) := by decide +kernel
theorem dL_law_30 : decode cL_law 30 = .ok (.aload_n 0, 1) := by decide +kernel
theorem dL_law_31 : decode cL_law 31 = .ok (.iload_n 2, 1) := by decide +kernel
theorem dL_law_32 : decode cL_law 32 = .ok (.iinc 2 1, 3) := by decide +kernel
theorem dL_law_35 : decode cL_law 35 = .ok (.invokestatic 12, 3) := by decide +kernel
theorem dL_law_38 : decode cL_law 38 = .ok (.bipush 120, 2) := by decide +kernel
theorem dL_law_40 : decode cL_law 40 = .ok (.invokestatic 22, 3) := by decide +kernel
theorem dL_law_43 : decode cL_law 43 = .ok (.iadd, 1) := by decide +kernel
theorem dL_law_44 : decode cL_law 44 = .ok (.invokevirtual 26, 3) := by decide +kernel
theorem dL_law_47 : decode cL_law 47 = .ok (.pop, 1) := by decide +kernel
theorem dL_law_48 : decode cL_law 48 = .ok (.iconst 0, 1) := by decide +kernel
theorem dL_law_49 : decode cL_law 49 = .ok (.istore_n 3, 1) := by decide +kernel
theorem dL_law_50 : decode cL_law 50 = .ok (.iload_n 3, 1) := by decide +kernel
theorem dL_law_51 : decode cL_law 51 = .ok (.bipush 12, 2) := by decide +kernel
theorem dL_law_53 : decode cL_law 53 = .ok (.if_icmp .ge 45, 3) := by decide +kernel
theorem dL_law_56 : decode cL_law 56 = .ok (.aload_n 0, 1) := by decide +kernel
theorem dL_law_57 : decode cL_law 57 = .ok (.iload_n 2, 1) := by decide +kernel
theorem dL_law_58 : decode cL_law 58 = .ok (.iinc 2 1, 3) := by decide +kernel
theorem dL_law_61 : decode cL_law 61 = .ok (.invokestatic 12, 3) := by decide +kernel
theorem dL_law_64 : decode cL_law 64 = .ok (.istore 4, 2) := by decide +kernel
theorem dL_law_66 : decode cL_law 66 = .ok (.aload_n 1, 1) := by decide +kernel
theorem dL_law_67 : decode cL_law 67 = .ok (.iload 4, 2) := by decide +kernel
theorem dL_law_69 : decode cL_law 69 = .ok (.aload_n 0, 1) := by decide +kernel
theorem dL_law_70 : decode cL_law 70 = .ok (.iload_n 2, 1) := by decide +kernel
theorem dL_law_71 : decode cL_law 71 = .ok (.iinc 2 1, 3) := by decide +kernel
theorem dL_law_74 : decode cL_law 74 = .ok (.invokestatic 12, 3) := by decide +kernel
theorem dL_law_77 : decode cL_law 77 = .ok (.invokestatic 29, 3) := by decide +kernel
theorem dL_law_80 : decode cL_law 80 = .ok (.ifCond .eq 10, 3) := by decide +kernel
theorem dL_law_83 : decode cL_law 83 = .ok (.aload_n 1, 1) := by decide +kernel
theorem dL_law_84 : decode cL_law 84 = .ok (.invokestatic 33, 3) := by decide +kernel
theorem dL_law_87 : decode cL_law 87 = .ok (.ifCond .ne 5, 3) := by decide +kernel
theorem dL_law_90 : decode cL_law 90 = .ok (.iconst 0, 1) := by decide +kernel
theorem dL_law_91 : decode cL_law 91 = .ok (.ireturn, 1) := by decide +kernel
theorem dL_law_92 : decode cL_law 92 = .ok (.iinc 3 1, 3) := by decide +kernel
theorem dL_law_95 : decode cL_law 95 = .ok (.goto (-45), 3) := by decide +kernel
theorem dL_law_98 : decode cL_law 98 = .ok (.aload_n 0, 1) := by decide +kernel
theorem dL_law_99 : decode cL_law 99 = .ok (.iload_n 2, 1) := by decide +kernel
theorem dL_law_100 : decode cL_law 100 = .ok (.iinc 2 1, 3) := by decide +kernel
theorem dL_law_103 : decode cL_law 103 = .ok (.invokestatic 12, 3) := by decide +kernel
theorem dL_law_106 : decode cL_law 106 = .ok (.istore_n 3, 1) := by decide +kernel
theorem dL_law_107 : decode cL_law 107 = .ok (.aload_n 1, 1) := by decide +kernel
theorem dL_law_108 : decode cL_law 108 = .ok (.invokestatic 37, 3) := by decide +kernel
theorem dL_law_111 : decode cL_law 111 = .ok (.ifCond .eq 80, 3) := by decide +kernel
theorem dL_law_114 : decode cL_law 114 = .ok (.aload_n 1, 1) := by decide +kernel
theorem dL_law_115 : decode cL_law 115 = .ok (.iload_n 3, 1) := by decide +kernel
theorem dL_law_116 : decode cL_law 116 = .ok (.invokestatic 40, 3) := by decide +kernel
theorem dL_law_119 : decode cL_law 119 = .ok (.ifCond .eq 72, 3) := by decide +kernel
theorem dL_law_122 : decode cL_law 122 = .ok (.aload_n 1, 1) := by decide +kernel
theorem dL_law_123 : decode cL_law 123 = .ok (.aload_n 0, 1) := by decide +kernel
theorem dL_law_124 : decode cL_law 124 = .ok (.iload_n 2, 1) := by decide +kernel
theorem dL_law_125 : decode cL_law 125 = .ok (.iinc 2 1, 3) := by decide +kernel
theorem dL_law_128 : decode cL_law 128 = .ok (.invokestatic 12, 3) := by decide +kernel
theorem dL_law_131 : decode cL_law 131 = .ok (.invokestatic 43, 3) := by decide +kernel
theorem dL_law_134 : decode cL_law 134 = .ok (.ifCond .eq 57, 3) := by decide +kernel
theorem dL_law_137 : decode cL_law 137 = .ok (.aload_n 1, 1) := by decide +kernel
theorem dL_law_138 : decode cL_law 138 = .ok (.iload_n 3, 1) := by decide +kernel
theorem dL_law_139 : decode cL_law 139 = .ok (.bipush 7, 2) := by decide +kernel
theorem dL_law_141 : decode cL_law 141 = .ok (.ishr, 1) := by decide +kernel
theorem dL_law_142 : decode cL_law 142 = .ok (.ldc 46, 2) := by decide +kernel
theorem dL_law_144 : decode cL_law 144 = .ok (.invokestatic 22, 3) := by decide +kernel
theorem dL_law_147 : decode cL_law 147 = .ok (.ldc 47, 2) := by decide +kernel
theorem dL_law_149 : decode cL_law 149 = .ok (.isub, 1) := by decide +kernel
theorem dL_law_150 : decode cL_law 150 = .ok (.invokestatic 48, 3) := by decide +kernel
theorem dL_law_153 : decode cL_law 153 = .ok (.ifCond .eq 38, 3) := by decide +kernel
theorem dL_law_156 : decode cL_law 156 = .ok (.aload_n 1, 1) := by decide +kernel
theorem dL_law_157 : decode cL_law 157 = .ok (.aload_n 0, 1) := by decide +kernel
theorem dL_law_158 : decode cL_law 158 = .ok (.iload_n 2, 1) := by decide +kernel
theorem dL_law_159 : decode cL_law 159 = .ok (.iinc 2 1, 3) := by decide +kernel
theorem dL_law_162 : decode cL_law 162 = .ok (.invokestatic 12, 3) := by decide +kernel
theorem dL_law_165 : decode cL_law 165 = .ok (.invokestatic 51, 3) := by decide +kernel
theorem dL_law_168 : decode cL_law 168 = .ok (.ifCond .eq 23, 3) := by decide +kernel
theorem dL_law_171 : decode cL_law 171 = .ok (.aload_n 1, 1) := by decide +kernel
theorem dL_law_172 : decode cL_law 172 = .ok (.iload_n 3, 1) := by decide +kernel
theorem dL_law_173 : decode cL_law 173 = .ok (.iconst 3, 1) := by decide +kernel
theorem dL_law_174 : decode cL_law 174 = .ok (.ishr, 1) := by decide +kernel
theorem dL_law_175 : decode cL_law 175 = .ok (.sipush 400, 3) := by decide +kernel
theorem dL_law_178 : decode cL_law 178 = .ok (.invokestatic 22, 3) := by decide +kernel
theorem dL_law_181 : decode cL_law 181 = .ok (.invokestatic 54, 3) := by decide +kernel
theorem dL_law_184 : decode cL_law 184 = .ok (.ifCond .eq 7, 3) := by decide +kernel
theorem dL_law_187 : decode cL_law 187 = .ok (.iconst 1, 1) := by decide +kernel
theorem dL_law_188 : decode cL_law 188 = .ok (.goto 4, 3) := by decide +kernel
theorem dL_law_191 : decode cL_law 191 = .ok (.iconst 0, 1) := by decide +kernel
theorem dL_law_192 : decode cL_law 192 = .ok (.ireturn, 1) := by decide +kernel
theorem dL_prepare_0 : decode cL_prepare 0 = .ok (.aload_n 0, 1) := by decide +kernel
theorem dL_prepare_1 : decode cL_prepare 1 = .ok (.iconst 0, 1) := by decide +kernel
theorem dL_prepare_2 : decode cL_prepare 2 = .ok (.invokevirtual 57, 3) := by decide +kernel
theorem dL_prepare_5 : decode cL_prepare 5 = .ok (.istore_n 3, 1) := by decide +kernel
theorem dL_prepare_6 : decode cL_prepare 6 = .ok (.iload_n 1, 1) := by decide +kernel
theorem dL_prepare_7 : decode cL_prepare 7 = .ok (.bipush 8, 2) := by decide +kernel
theorem dL_prepare_9 : decode cL_prepare 9 = .ok (.invokestatic 22, 3) := by decide +kernel
theorem dL_prepare_12 : decode cL_prepare 12 = .ok (.tableswitch 361 0 6 #[44, 75, 122, 165, 228, 262, 314], 44) := by decide +kernel
theorem dL_prepare_56 : decode cL_prepare 56 = .ok (.aload_n 0, 1) := by decide +kernel
theorem dL_prepare_57 : decode cL_prepare 57 = .ok (.iload_n 2, 1) := by decide +kernel
theorem dL_prepare_58 : decode cL_prepare 58 = .ok (.ldc 61, 2) := by decide +kernel
theorem dL_prepare_60 : decode cL_prepare 60 = .ok (.invokestatic 22, 3) := by decide +kernel
theorem dL_prepare_63 : decode cL_prepare 63 = .ok (.iconst 4, 1) := by decide +kernel
theorem dL_prepare_64 : decode cL_prepare 64 = .ok (.iconst 1, 1) := by decide +kernel
theorem dL_prepare_65 : decode cL_prepare 65 = .ok (.iload_n 2, 1) := by decide +kernel
theorem dL_prepare_66 : decode cL_prepare 66 = .ok (.iconst 5, 1) := by decide +kernel
theorem dL_prepare_67 : decode cL_prepare 67 = .ok (.ishr, 1) := by decide +kernel
theorem dL_prepare_68 : decode cL_prepare 68 = .ok (.bipush 50, 2) := by decide +kernel
theorem dL_prepare_70 : decode cL_prepare 70 = .ok (.invokestatic 22, 3) := by decide +kernel
theorem dL_prepare_73 : decode cL_prepare 73 = .ok (.iadd, 1) := by decide +kernel
theorem dL_prepare_74 : decode cL_prepare 74 = .ok (.imul, 1) := by decide +kernel
theorem dL_prepare_75 : decode cL_prepare 75 = .ok (.invokevirtual 62, 3) := by decide +kernel
theorem dL_prepare_78 : decode cL_prepare 78 = .ok (.ifCond .le 7, 3) := by decide +kernel
theorem dL_prepare_81 : decode cL_prepare 81 = .ok (.iconst 1, 1) := by decide +kernel
theorem dL_prepare_82 : decode cL_prepare 82 = .ok (.goto 4, 3) := by decide +kernel
theorem dL_prepare_85 : decode cL_prepare 85 = .ok (.iconst 0, 1) := by decide +kernel
theorem dL_prepare_86 : decode cL_prepare 86 = .ok (.ireturn, 1) := by decide +kernel
theorem dL_prepare_87 : decode cL_prepare 87 = .ok (.aload_n 0, 1) := by decide +kernel
theorem dL_prepare_88 : decode cL_prepare 88 = .ok (.iload_n 2, 1) := by decide +kernel
theorem dL_prepare_89 : decode cL_prepare 89 = .ok (.ldc 65, 2) := by decide +kernel
theorem dL_prepare_91 : decode cL_prepare 91 = .ok (.invokestatic 22, 3) := by decide +kernel
theorem dL_prepare_94 : decode cL_prepare 94 = .ok (.ldc 66, 2) := by decide +kernel
theorem dL_prepare_96 : decode cL_prepare 96 = .ok (.isub, 1) := by decide +kernel
theorem dL_prepare_97 : decode cL_prepare 97 = .ok (.iload_n 2, 1) := by decide +kernel
theorem dL_prepare_98 : decode cL_prepare 98 = .ok (.iconst 5, 1) := by decide +kernel
theorem dL_prepare_99 : decode cL_prepare 99 = .ok (.ishr, 1) := by decide +kernel
theorem dL_prepare_100 : decode cL_prepare 100 = .ok (.sipush 401, 3) := by decide +kernel
theorem dL_prepare_103 : decode cL_prepare 103 = .ok (.invokestatic 22, 3) := by decide +kernel
theorem dL_prepare_106 : decode cL_prepare 106 = .ok (.sipush 200, 3) := by decide +kernel
theorem dL_prepare_109 : decode cL_prepare 109 = .ok (.isub, 1) := by decide +kernel
theorem dL_prepare_110 : decode cL_prepare 110 = .ok (.invokevirtual 67, 3) := by decide +kernel
theorem dL_prepare_113 : decode cL_prepare 113 = .ok (.i2l, 1) := by decide +kernel
theorem dL_prepare_114 : decode cL_prepare 114 = .ok (.ldc2_w 70, 3) := by decide +kernel
theorem dL_prepare_117 : decode cL_prepare 117 = .ok (.aload_n 0, 1) := by decide +kernel
theorem dL_prepare_118 : decode cL_prepare 118 = .ok (.iconst 0, 1) := by decide +kernel
theorem dL_prepare_119 : decode cL_prepare 119 = .ok (.iconst 2, 1) := by decide +kernel
theorem dL_prepare_120 : decode cL_prepare 120 = .ok (.invokevirtual 72, 3) := by decide +kernel
theorem dL_prepare_123 : decode cL_prepare 123 = .ok (.ladd, 1) := by decide +kernel
theorem dL_prepare_124 : decode cL_prepare 124 = .ok (.lcmp, 1) := by decide +kernel
theorem dL_prepare_125 : decode cL_prepare 125 = .ok (.ifCond .ne 7, 3) := by decide +kernel
theorem dL_prepare_128 : decode cL_prepare 128 = .ok (.iconst 1, 1) := by decide +kernel
theorem dL_prepare_129 : decode cL_prepare 129 = .ok (.goto 4, 3) := by decide +kernel
theorem dL_prepare_132 : decode cL_prepare 132 = .ok (.iconst 0, 1) := by decide +kernel
theorem dL_prepare_133 : decode cL_prepare 133 = .ok (.ireturn, 1) := by decide +kernel
theorem dL_prepare_134 : decode cL_prepare 134 = .ok (.aload_n 0, 1) := by decide +kernel
theorem dL_prepare_135 : decode cL_prepare 135 = .ok (.iconst 0, 1) := by decide +kernel
theorem dL_prepare_136 : decode cL_prepare 136 = .ok (.iconst 4, 1) := by decide +kernel
theorem dL_prepare_137 : decode cL_prepare 137 = .ok (.iload_n 2, 1) := by decide +kernel
theorem dL_prepare_138 : decode cL_prepare 138 = .ok (.bipush 120, 2) := by decide +kernel
theorem dL_prepare_140 : decode cL_prepare 140 = .ok (.invokestatic 22, 3) := by decide +kernel
theorem dL_prepare_143 : decode cL_prepare 143 = .ok (.iadd, 1) := by decide +kernel
theorem dL_prepare_144 : decode cL_prepare 144 = .ok (.invokevirtual 26, 3) := by decide +kernel
theorem dL_prepare_147 : decode cL_prepare 147 = .ok (.iconst 4, 1) := by decide +kernel
theorem dL_prepare_148 : decode cL_prepare 148 = .ok (.if_icmp .lt 27, 3) := by decide +kernel
theorem dL_prepare_151 : decode cL_prepare 151 = .ok (.aload_n 0, 1) := by decide +kernel
theorem dL_prepare_152 : decode cL_prepare 152 = .ok (.iconst 1, 1) := by decide +kernel
theorem dL_prepare_153 : decode cL_prepare 153 = .ok (.iconst 1, 1) := by decide +kernel
theorem dL_prepare_154 : decode cL_prepare 154 = .ok (.iload_n 2, 1) := by decide +kernel
theorem dL_prepare_155 : decode cL_prepare 155 = .ok (.bipush 8, 2) := by decide +kernel
theorem dL_prepare_157 : decode cL_prepare 157 = .ok (.ishr, 1) := by decide +kernel
theorem dL_prepare_158 : decode cL_prepare 158 = .ok (.bipush 20, 2) := by decide +kernel
theorem dL_prepare_160 : decode cL_prepare 160 = .ok (.invokestatic 22, 3) := by decide +kernel
theorem dL_prepare_163 : decode cL_prepare 163 = .ok (.iadd, 1) := by decide +kernel
theorem dL_prepare_164 : decode cL_prepare 164 = .ok (.invokevirtual 26, 3) := by decide +kernel
theorem dL_prepare_167 : decode cL_prepare 167 = .ok (.iconst 1, 1) := by decide +kernel
theorem dL_prepare_168 : decode cL_prepare 168 = .ok (.if_icmp .lt 7, 3) := by decide +kernel
theorem dL_prepare_171 : decode cL_prepare 171 = .ok (.iconst 1, 1) := by decide +kernel
theorem dL_prepare_172 : decode cL_prepare 172 = .ok (.goto 4, 3) := by decide +kernel
theorem dL_prepare_175 : decode cL_prepare 175 = .ok (.iconst 0, 1) := by decide +kernel
theorem dL_prepare_176 : decode cL_prepare 176 = .ok (.ireturn, 1) := by decide +kernel
theorem dL_prepare_177 : decode cL_prepare 177 = .ok (.aload_n 0, 1) := by decide +kernel
theorem dL_prepare_178 : decode cL_prepare 178 = .ok (.iconst 2, 1) := by decide +kernel
theorem dL_prepare_179 : decode cL_prepare 179 = .ok (.iload_n 2, 1) := by decide +kernel
theorem dL_prepare_180 : decode cL_prepare 180 = .ok (.iconst 2, 1) := by decide +kernel
theorem dL_prepare_181 : decode cL_prepare 181 = .ok (.invokestatic 22, 3) := by decide +kernel
theorem dL_prepare_184 : decode cL_prepare 184 = .ok (.invokevirtual 26, 3) := by decide +kernel
theorem dL_prepare_187 : decode cL_prepare 187 = .ok (.ifCond .lt 51, 3) := by decide +kernel
theorem dL_prepare_190 : decode cL_prepare 190 = .ok (.aload_n 0, 1) := by decide +kernel
theorem dL_prepare_191 : decode cL_prepare 191 = .ok (.iconst 3, 1) := by decide +kernel
theorem dL_prepare_192 : decode cL_prepare 192 = .ok (.iload_n 2, 1) := by decide +kernel
theorem dL_prepare_193 : decode cL_prepare 193 = .ok (.iconst 3, 1) := by decide +kernel
theorem dL_prepare_194 : decode cL_prepare 194 = .ok (.ishr, 1) := by decide +kernel
theorem dL_prepare_195 : decode cL_prepare 195 = .ok (.iconst 4, 1) := by decide +kernel
theorem dL_prepare_196 : decode cL_prepare 196 = .ok (.invokestatic 22, 3) := by decide +kernel
theorem dL_prepare_199 : decode cL_prepare 199 = .ok (.invokevirtual 26, 3) := by decide +kernel
theorem dL_prepare_202 : decode cL_prepare 202 = .ok (.ifCond .lt 36, 3) := by decide +kernel
theorem dL_prepare_205 : decode cL_prepare 205 = .ok (.aload_n 0, 1) := by decide +kernel
theorem dL_prepare_206 : decode cL_prepare 206 = .ok (.iconst 3, 1) := by decide +kernel
theorem dL_prepare_207 : decode cL_prepare 207 = .ok (.invokevirtual 76, 3) := by decide +kernel
theorem dL_prepare_210 : decode cL_prepare 210 = .ok (.ifCond .ne 16, 3) := by decide +kernel
theorem dL_prepare_213 : decode cL_prepare 213 = .ok (.aload_n 0, 1) := by decide +kernel
theorem dL_prepare_214 : decode cL_prepare 214 = .ok (.iconst 4, 1) := by decide +kernel
theorem dL_prepare_215 : decode cL_prepare 215 = .ok (.invokevirtual 57, 3) := by decide +kernel
theorem dL_prepare_218 : decode cL_prepare 218 = .ok (.bipush (-6), 2) := by decide +kernel
theorem dL_prepare_220 : decode cL_prepare 220 = .ok (.if_icmp .ne 18, 3) := by decide +kernel
theorem dL_prepare_223 : decode cL_prepare 223 = .ok (.goto 11, 3) := by decide +kernel
theorem dL_prepare_226 : decode cL_prepare 226 = .ok (.aload_n 0, 1) := by decide +kernel
theorem dL_prepare_227 : decode cL_prepare 227 = .ok (.iconst 4, 1) := by decide +kernel
theorem dL_prepare_228 : decode cL_prepare 228 = .ok (.invokevirtual 57, 3) := by decide +kernel
theorem dL_prepare_231 : decode cL_prepare 231 = .ok (.ifCond .ne 7, 3) := by decide +kernel
theorem dL_prepare_234 : decode cL_prepare 234 = .ok (.iconst 1, 1) := by decide +kernel
theorem dL_prepare_235 : decode cL_prepare 235 = .ok (.goto 4, 3) := by decide +kernel
theorem dL_prepare_238 : decode cL_prepare 238 = .ok (.iconst 0, 1) := by decide +kernel
theorem dL_prepare_239 : decode cL_prepare 239 = .ok (.ireturn, 1) := by decide +kernel
theorem dL_prepare_240 : decode cL_prepare 240 = .ok (.aload_n 0, 1) := by decide +kernel
theorem dL_prepare_241 : decode cL_prepare 241 = .ok (.iconst 4, 1) := by decide +kernel
theorem dL_prepare_242 : decode cL_prepare 242 = .ok (.iload_n 2, 1) := by decide +kernel
theorem dL_prepare_243 : decode cL_prepare 243 = .ok (.iconst 2, 1) := by decide +kernel
theorem dL_prepare_244 : decode cL_prepare 244 = .ok (.invokestatic 22, 3) := by decide +kernel
theorem dL_prepare_247 : decode cL_prepare 247 = .ok (.invokevirtual 26, 3) := by decide +kernel
theorem dL_prepare_250 : decode cL_prepare 250 = .ok (.ifCond .lt 22, 3) := by decide +kernel
theorem dL_prepare_253 : decode cL_prepare 253 = .ok (.aload_n 0, 1) := by decide +kernel
theorem dL_prepare_254 : decode cL_prepare 254 = .ok (.iconst 5, 1) := by decide +kernel
theorem dL_prepare_255 : decode cL_prepare 255 = .ok (.iload_n 2, 1) := by decide +kernel
theorem dL_prepare_256 : decode cL_prepare 256 = .ok (.iconst 3, 1) := by decide +kernel
theorem dL_prepare_257 : decode cL_prepare 257 = .ok (.ishr, 1) := by decide +kernel
theorem dL_prepare_258 : decode cL_prepare 258 = .ok (.iconst 4, 1) := by decide +kernel
theorem dL_prepare_259 : decode cL_prepare 259 = .ok (.invokestatic 22, 3) := by decide +kernel
theorem dL_prepare_262 : decode cL_prepare 262 = .ok (.invokevirtual 26, 3) := by decide +kernel
theorem dL_prepare_265 : decode cL_prepare 265 = .ok (.ifCond .lt 7, 3) := by decide +kernel
theorem dL_prepare_268 : decode cL_prepare 268 = .ok (.iconst 1, 1) := by decide +kernel
theorem dL_prepare_269 : decode cL_prepare 269 = .ok (.goto 4, 3) := by decide +kernel
theorem dL_prepare_272 : decode cL_prepare 272 = .ok (.iconst 0, 1) := by decide +kernel
theorem dL_prepare_273 : decode cL_prepare 273 = .ok (.ireturn, 1) := by decide +kernel
theorem dL_prepare_274 : decode cL_prepare 274 = .ok (.aload_n 0, 1) := by decide +kernel
theorem dL_prepare_275 : decode cL_prepare 275 = .ok (.iconst 1, 1) := by decide +kernel
theorem dL_prepare_276 : decode cL_prepare 276 = .ok (.iload_n 2, 1) := by decide +kernel
theorem dL_prepare_277 : decode cL_prepare 277 = .ok (.sipush 999, 3) := by decide +kernel
theorem dL_prepare_280 : decode cL_prepare 280 = .ok (.invokestatic 22, 3) := by decide +kernel
theorem dL_prepare_283 : decode cL_prepare 283 = .ok (.iadd, 1) := by decide +kernel
theorem dL_prepare_284 : decode cL_prepare 284 = .ok (.invokevirtual 79, 3) := by decide +kernel
theorem dL_prepare_287 : decode cL_prepare 287 = .ok (.iload_n 3, 1) := by decide +kernel
theorem dL_prepare_288 : decode cL_prepare 288 = .ok (.iconst 1, 1) := by decide +kernel
theorem dL_prepare_289 : decode cL_prepare 289 = .ok (.iadd, 1) := by decide +kernel
theorem dL_prepare_290 : decode cL_prepare 290 = .ok (.iload_n 2, 1) := by decide +kernel
theorem dL_prepare_291 : decode cL_prepare 291 = .ok (.sipush 999, 3) := by decide +kernel
theorem dL_prepare_294 : decode cL_prepare 294 = .ok (.invokestatic 22, 3) := by decide +kernel
theorem dL_prepare_297 : decode cL_prepare 297 = .ok (.iadd, 1) := by decide +kernel
theorem dL_prepare_298 : decode cL_prepare 298 = .ok (.if_icmp .ne 26, 3) := by decide +kernel
theorem dL_prepare_301 : decode cL_prepare 301 = .ok (.aload_n 0, 1) := by decide +kernel
theorem dL_prepare_302 : decode cL_prepare 302 = .ok (.iconst 0, 1) := by decide +kernel
theorem dL_prepare_303 : decode cL_prepare 303 = .ok (.invokevirtual 57, 3) := by decide +kernel
theorem dL_prepare_306 : decode cL_prepare 306 = .ok (.iload_n 3, 1) := by decide +kernel
theorem dL_prepare_307 : decode cL_prepare 307 = .ok (.iconst 1, 1) := by decide +kernel
theorem dL_prepare_308 : decode cL_prepare 308 = .ok (.iadd, 1) := by decide +kernel
theorem dL_prepare_309 : decode cL_prepare 309 = .ok (.iload_n 2, 1) := by decide +kernel
theorem dL_prepare_310 : decode cL_prepare 310 = .ok (.sipush 999, 3) := by decide +kernel
theorem dL_prepare_313 : decode cL_prepare 313 = .ok (.invokestatic 22, 3) := by decide +kernel
theorem dL_prepare_316 : decode cL_prepare 316 = .ok (.iadd, 1) := by decide +kernel
theorem dL_prepare_317 : decode cL_prepare 317 = .ok (.if_icmp .ne 7, 3) := by decide +kernel
theorem dL_prepare_320 : decode cL_prepare 320 = .ok (.iconst 1, 1) := by decide +kernel
theorem dL_prepare_321 : decode cL_prepare 321 = .ok (.goto 4, 3) := by decide +kernel
theorem dL_prepare_324 : decode cL_prepare 324 = .ok (.iconst 0, 1) := by decide +kernel
theorem dL_prepare_325 : decode cL_prepare 325 = .ok (.ireturn, 1) := by decide +kernel
theorem dL_prepare_326 : decode cL_prepare 326 = .ok (.aload_n 0, 1) := by decide +kernel
theorem dL_prepare_327 : decode cL_prepare 327 = .ok (.invokevirtual 82, 3) := by decide +kernel
theorem dL_prepare_330 : decode cL_prepare 330 = .ok (.istore 4, 2) := by decide +kernel
theorem dL_prepare_332 : decode cL_prepare 332 = .ok (.aload_n 0, 1) := by decide +kernel
theorem dL_prepare_333 : decode cL_prepare 333 = .ok (.iconst 3, 1) := by decide +kernel
theorem dL_prepare_334 : decode cL_prepare 334 = .ok (.invokevirtual 57, 3) := by decide +kernel
theorem dL_prepare_337 : decode cL_prepare 337 = .ok (.iload 4, 2) := by decide +kernel
theorem dL_prepare_339 : decode cL_prepare 339 = .ok (.if_icmp .ne 32, 3) := by decide +kernel
theorem dL_prepare_342 : decode cL_prepare 342 = .ok (.aload_n 0, 1) := by decide +kernel
theorem dL_prepare_343 : decode cL_prepare 343 = .ok (.iconst 0, 1) := by decide +kernel
theorem dL_prepare_344 : decode cL_prepare 344 = .ok (.invokevirtual 86, 3) := by decide +kernel
theorem dL_prepare_347 : decode cL_prepare 347 = .ok (.iload 4, 2) := by decide +kernel
theorem dL_prepare_349 : decode cL_prepare 349 = .ok (.i2l, 1) := by decide +kernel
theorem dL_prepare_350 : decode cL_prepare 350 = .ok (.ldc2_w 90, 3) := by decide +kernel
theorem dL_prepare_353 : decode cL_prepare 353 = .ok (.lsub, 1) := by decide +kernel
theorem dL_prepare_354 : decode cL_prepare 354 = .ok (.lcmp, 1) := by decide +kernel
theorem dL_prepare_355 : decode cL_prepare 355 = .ok (.ifCond .ne 16, 3) := by decide +kernel
theorem dL_prepare_358 : decode cL_prepare 358 = .ok (.aload_n 0, 1) := by decide +kernel
theorem dL_prepare_359 : decode cL_prepare 359 = .ok (.iconst 0, 1) := by decide +kernel
theorem dL_prepare_360 : decode cL_prepare 360 = .ok (.invokevirtual 57, 3) := by decide +kernel
theorem dL_prepare_363 : decode cL_prepare 363 = .ok (.iload_n 3, 1) := by decide +kernel
theorem dL_prepare_364 : decode cL_prepare 364 = .ok (.if_icmp .le 7, 3) := by decide +kernel
theorem dL_prepare_367 : decode cL_prepare 367 = .ok (.iconst 1, 1) := by decide +kernel
theorem dL_prepare_368 : decode cL_prepare 368 = .ok (.goto 4, 3) := by decide +kernel
theorem dL_prepare_371 : decode cL_prepare 371 = .ok (.iconst 0, 1) := by decide +kernel
theorem dL_prepare_372 : decode cL_prepare 372 = .ok (.ireturn, 1) := by decide +kernel
theorem dL_prepare_373 : decode cL_prepare 373 = .ok (.aload_n 0, 1) := by decide +kernel
theorem dL_prepare_374 : decode cL_prepare 374 = .ok (.iload_n 2, 1) := by decide +kernel
theorem dL_prepare_375 : decode cL_prepare 375 = .ok (.iconst 3, 1) := by decide +kernel
theorem dL_prepare_376 : decode cL_prepare 376 = .ok (.invokestatic 22, 3) := by decide +kernel
theorem dL_prepare_379 : decode cL_prepare 379 = .ok (.ifCond .ne 17, 3) := by decide +kernel
theorem dL_prepare_382 : decode cL_prepare 382 = .ok (.iload_n 2, 1) := by decide +kernel
theorem dL_prepare_383 : decode cL_prepare 383 = .ok (.iconst 3, 1) := by decide +kernel
theorem dL_prepare_384 : decode cL_prepare 384 = .ok (.ishr, 1) := by decide +kernel
theorem dL_prepare_385 : decode cL_prepare 385 = .ok (.ldc 92, 2) := by decide +kernel
theorem dL_prepare_387 : decode cL_prepare 387 = .ok (.invokestatic 22, 3) := by decide +kernel
theorem dL_prepare_390 : decode cL_prepare 390 = .ok (.ldc 93, 2) := by decide +kernel
theorem dL_prepare_392 : decode cL_prepare 392 = .ok (.isub, 1) := by decide +kernel
theorem dL_prepare_393 : decode cL_prepare 393 = .ok (.goto 14, 3) := by decide +kernel
theorem dL_prepare_396 : decode cL_prepare 396 = .ok (.iload_n 2, 1) := by decide +kernel
theorem dL_prepare_397 : decode cL_prepare 397 = .ok (.iconst 3, 1) := by decide +kernel
theorem dL_prepare_398 : decode cL_prepare 398 = .ok (.ishr, 1) := by decide +kernel
theorem dL_prepare_399 : decode cL_prepare 399 = .ok (.ldc 94, 2) := by decide +kernel
theorem dL_prepare_401 : decode cL_prepare 401 = .ok (.invokestatic 22, 3) := by decide +kernel
theorem dL_prepare_404 : decode cL_prepare 404 = .ok (.ldc 95, 2) := by decide +kernel
theorem dL_prepare_406 : decode cL_prepare 406 = .ok (.isub, 1) := by decide +kernel
theorem dL_prepare_407 : decode cL_prepare 407 = .ok (.invokevirtual 96, 3) := by decide +kernel
theorem dL_prepare_410 : decode cL_prepare 410 = .ok (.aload_n 0, 1) := by decide +kernel
theorem dL_prepare_411 : decode cL_prepare 411 = .ok (.iconst 1, 1) := by decide +kernel
theorem dL_prepare_412 : decode cL_prepare 412 = .ok (.invokevirtual 57, 3) := by decide +kernel
theorem dL_prepare_415 : decode cL_prepare 415 = .ok (.if_icmp .ne 7, 3) := by decide +kernel
theorem dL_prepare_418 : decode cL_prepare 418 = .ok (.iconst 1, 1) := by decide +kernel
theorem dL_prepare_419 : decode cL_prepare 419 = .ok (.goto 4, 3) := by decide +kernel
theorem dL_prepare_422 : decode cL_prepare 422 = .ok (.iconst 0, 1) := by decide +kernel
theorem dL_prepare_423 : decode cL_prepare 423 = .ok (.ireturn, 1) := by decide +kernel
theorem dL_abs_0 : decode cL_abs 0 = .ok (.lload_n 0, 1) := by decide +kernel
theorem dL_abs_1 : decode cL_abs 1 = .ok (.lconst 0, 1) := by decide +kernel
theorem dL_abs_2 : decode cL_abs 2 = .ok (.lcmp, 1) := by decide +kernel
theorem dL_abs_3 : decode cL_abs 3 = .ok (.ifCond .ge 8, 3) := by decide +kernel
theorem dL_abs_6 : decode cL_abs 6 = .ok (.lload_n 0, 1) := by decide +kernel
theorem dL_abs_7 : decode cL_abs 7 = .ok (.lneg, 1) := by decide +kernel
theorem dL_abs_8 : decode cL_abs 8 = .ok (.goto 4, 3) := by decide +kernel
theorem dL_abs_11 : decode cL_abs 11 = .ok (.lload_n 0, 1) := by decide +kernel
theorem dL_abs_12 : decode cL_abs 12 = .ok (.lreturn, 1) := by decide +kernel
theorem dL_reads_0 : decode cL_reads 0 = .ok (.aload_n 0, 1) := by decide +kernel
theorem dL_reads_1 : decode cL_reads 1 = .ok (.iconst 1, 1) := by decide +kernel
theorem dL_reads_2 : decode cL_reads 2 = .ok (.invokevirtual 57, 3) := by decide +kernel
theorem dL_reads_5 : decode cL_reads 5 = .ok (.istore_n 1, 1) := by decide +kernel
theorem dL_reads_6 : decode cL_reads 6 = .ok (.aload_n 0, 1) := by decide +kernel
theorem dL_reads_7 : decode cL_reads 7 = .ok (.iconst 5, 1) := by decide +kernel
theorem dL_reads_8 : decode cL_reads 8 = .ok (.invokevirtual 76, 3) := by decide +kernel
theorem dL_reads_11 : decode cL_reads 11 = .ok (.istore_n 2, 1) := by decide +kernel
theorem dL_reads_12 : decode cL_reads 12 = .ok (.aload_n 0, 1) := by decide +kernel
theorem dL_reads_13 : decode cL_reads 13 = .ok (.iconst 0, 1) := by decide +kernel
theorem dL_reads_14 : decode cL_reads 14 = .ok (.invokevirtual 76, 3) := by decide +kernel
theorem dL_reads_17 : decode cL_reads 17 = .ok (.istore_n 3, 1) := by decide +kernel
theorem dL_reads_18 : decode cL_reads 18 = .ok (.aload_n 0, 1) := by decide +kernel
theorem dL_reads_19 : decode cL_reads 19 = .ok (.iconst 4, 1) := by decide +kernel
theorem dL_reads_20 : decode cL_reads 20 = .ok (.invokevirtual 57, 3) := by decide +kernel
theorem dL_reads_23 : decode cL_reads 23 = .ok (.istore 4, 2) := by decide +kernel
theorem dL_reads_25 : decode cL_reads 25 = .ok (.aload_n 0, 1) := by decide +kernel
theorem dL_reads_26 : decode cL_reads 26 = .ok (.aload_n 0, 1) := by decide +kernel
theorem dL_reads_27 : decode cL_reads 27 = .ok (.iconst 2, 1) := by decide +kernel
theorem dL_reads_28 : decode cL_reads 28 = .ok (.invokevirtual 57, 3) := by decide +kernel
theorem dL_reads_31 : decode cL_reads 31 = .ok (.ldc 99, 2) := by decide +kernel
theorem dL_reads_33 : decode cL_reads 33 = .ok (.isub, 1) := by decide +kernel
theorem dL_reads_34 : decode cL_reads 34 = .ok (.invokevirtual 100, 3) := by decide +kernel
theorem dL_reads_37 : decode cL_reads 37 = .ok (.lstore 5, 2) := by decide +kernel
theorem dL_reads_39 : decode cL_reads 39 = .ok (.lconst 0, 1) := by decide +kernel
theorem dL_reads_40 : decode cL_reads 40 = .ok (.lstore 7, 2) := by decide +kernel
theorem dL_reads_42 : decode cL_reads 42 = .ok (.iconst 0, 1) := by decide +kernel
theorem dL_reads_43 : decode cL_reads 43 = .ok (.istore 9, 2) := by decide +kernel
theorem dL_reads_45 : decode cL_reads 45 = .ok (.iload 9, 2) := by decide +kernel
theorem dL_reads_47 : decode cL_reads 47 = .ok (.iload_n 3, 1) := by decide +kernel
theorem dL_reads_48 : decode cL_reads 48 = .ok (.if_icmp .ge 34, 3) := by decide +kernel
theorem dL_reads_51 : decode cL_reads 51 = .ok (.iload 4, 2) := by decide +kernel
theorem dL_reads_53 : decode cL_reads 53 = .ok (.ifCond .eq 29, 3) := by decide +kernel
theorem dL_reads_56 : decode cL_reads 56 = .ok (.lload 7, 2) := by decide +kernel
theorem dL_reads_58 : decode cL_reads 58 = .ok (.aload_n 0, 1) := by decide +kernel
theorem dL_reads_59 : decode cL_reads 59 = .ok (.iload 9, 2) := by decide +kernel
theorem dL_reads_61 : decode cL_reads 61 = .ok (.iconst 1, 1) := by decide +kernel
theorem dL_reads_62 : decode cL_reads 62 = .ok (.invokevirtual 72, 3) := by decide +kernel
theorem dL_reads_65 : decode cL_reads 65 = .ok (.aload_n 0, 1) := by decide +kernel
theorem dL_reads_66 : decode cL_reads 66 = .ok (.iload 9, 2) := by decide +kernel
theorem dL_reads_68 : decode cL_reads 68 = .ok (.iconst 2, 1) := by decide +kernel
theorem dL_reads_69 : decode cL_reads 69 = .ok (.invokevirtual 72, 3) := by decide +kernel
theorem dL_reads_72 : decode cL_reads 72 = .ok (.ladd, 1) := by decide +kernel
theorem dL_reads_73 : decode cL_reads 73 = .ok (.ladd, 1) := by decide +kernel
theorem dL_reads_74 : decode cL_reads 74 = .ok (.lstore 7, 2) := by decide +kernel
theorem dL_reads_76 : decode cL_reads 76 = .ok (.iinc 9 1, 3) := by decide +kernel
theorem dL_reads_79 : decode cL_reads 79 = .ok (.goto (-34), 3) := by decide +kernel
theorem dL_reads_82 : decode cL_reads 82 = .ok (.aload_n 0, 1) := by decide +kernel
theorem dL_reads_83 : decode cL_reads 83 = .ok (.iconst 0, 1) := by decide +kernel
theorem dL_reads_84 : decode cL_reads 84 = .ok (.invokevirtual 57, 3) := by decide +kernel
theorem dL_reads_87 : decode cL_reads 87 = .ok (.istore 9, 2) := by decide +kernel
theorem dL_reads_89 : decode cL_reads 89 = .ok (.aload_n 0, 1) := by decide +kernel
theorem dL_reads_90 : decode cL_reads 90 = .ok (.invokevirtual 103, 3) := by decide +kernel
theorem dL_reads_93 : decode cL_reads 93 = .ok (.lstore 10, 2) := by decide +kernel
theorem dL_reads_95 : decode cL_reads 95 = .ok (.lload 5, 2) := by decide +kernel
theorem dL_reads_97 : decode cL_reads 97 = .ok (.lload 10, 2) := by decide +kernel
theorem dL_reads_99 : decode cL_reads 99 = .ok (.lcmp, 1) := by decide +kernel
theorem dL_reads_100 : decode cL_reads 100 = .ok (.ifCond .ne 54, 3) := by decide +kernel
theorem dL_reads_103 : decode cL_reads 103 = .ok (.aload_n 0, 1) := by decide +kernel
theorem dL_reads_104 : decode cL_reads 104 = .ok (.iconst 1, 1) := by decide +kernel
theorem dL_reads_105 : decode cL_reads 105 = .ok (.invokevirtual 57, 3) := by decide +kernel
theorem dL_reads_108 : decode cL_reads 108 = .ok (.iload_n 1, 1) := by decide +kernel
theorem dL_reads_109 : decode cL_reads 109 = .ok (.iconst 1, 1) := by decide +kernel
theorem dL_reads_110 : decode cL_reads 110 = .ok (.iadd, 1) := by decide +kernel
theorem dL_reads_111 : decode cL_reads 111 = .ok (.if_icmp .ne 43, 3) := by decide +kernel
theorem dL_reads_114 : decode cL_reads 114 = .ok (.aload_n 0, 1) := by decide +kernel
theorem dL_reads_115 : decode cL_reads 115 = .ok (.iload_n 1, 1) := by decide +kernel
theorem dL_reads_116 : decode cL_reads 116 = .ok (.iconst 0, 1) := by decide +kernel
theorem dL_reads_117 : decode cL_reads 117 = .ok (.invokevirtual 107, 3) := by decide +kernel
theorem dL_reads_120 : decode cL_reads 120 = .ok (.lload 10, 2) := by decide +kernel
theorem dL_reads_122 : decode cL_reads 122 = .ok (.lcmp, 1) := by decide +kernel
theorem dL_reads_123 : decode cL_reads 123 = .ok (.ifCond .ne 31, 3) := by decide +kernel
theorem dL_reads_126 : decode cL_reads 126 = .ok (.aload_n 0, 1) := by decide +kernel
theorem dL_reads_127 : decode cL_reads 127 = .ok (.iload_n 1, 1) := by decide +kernel
theorem dL_reads_128 : decode cL_reads 128 = .ok (.iconst 2, 1) := by decide +kernel
theorem dL_reads_129 : decode cL_reads 129 = .ok (.invokevirtual 107, 3) := by decide +kernel
theorem dL_reads_132 : decode cL_reads 132 = .ok (.iload_n 2, 1) := by decide +kernel
theorem dL_reads_133 : decode cL_reads 133 = .ok (.i2l, 1) := by decide +kernel
theorem dL_reads_134 : decode cL_reads 134 = .ok (.lcmp, 1) := by decide +kernel
theorem dL_reads_135 : decode cL_reads 135 = .ok (.ifCond .ne 19, 3) := by decide +kernel
theorem dL_reads_138 : decode cL_reads 138 = .ok (.aload_n 0, 1) := by decide +kernel
theorem dL_reads_139 : decode cL_reads 139 = .ok (.iload_n 1, 1) := by decide +kernel
theorem dL_reads_140 : decode cL_reads 140 = .ok (.iconst 5, 1) := by decide +kernel
theorem dL_reads_141 : decode cL_reads 141 = .ok (.invokevirtual 107, 3) := by decide +kernel
theorem dL_reads_144 : decode cL_reads 144 = .ok (.aload_n 0, 1) := by decide +kernel
theorem dL_reads_145 : decode cL_reads 145 = .ok (.iconst 0, 1) := by decide +kernel
theorem dL_reads_146 : decode cL_reads 146 = .ok (.invokevirtual 57, 3) := by decide +kernel
theorem dL_reads_149 : decode cL_reads 149 = .ok (.i2l, 1) := by decide +kernel
theorem dL_reads_150 : decode cL_reads 150 = .ok (.lcmp, 1) := by decide +kernel
theorem dL_reads_151 : decode cL_reads 151 = .ok (.ifCond .eq 5, 3) := by decide +kernel
theorem dL_reads_154 : decode cL_reads 154 = .ok (.iconst 0, 1) := by decide +kernel
theorem dL_reads_155 : decode cL_reads 155 = .ok (.ireturn, 1) := by decide +kernel
theorem dL_reads_156 : decode cL_reads 156 = .ok (.iload_n 2, 1) := by decide +kernel
theorem dL_reads_157 : decode cL_reads 157 = .ok (.ifCond .ne 7, 3) := by decide +kernel
theorem dL_reads_160 : decode cL_reads 160 = .ok (.lconst 1, 1) := by decide +kernel
theorem dL_reads_161 : decode cL_reads 161 = .ok (.goto 28, 3) := by decide +kernel
theorem dL_reads_164 : decode cL_reads 164 = .ok (.iload_n 2, 1) := by decide +kernel
theorem dL_reads_165 : decode cL_reads 165 = .ok (.iconst 1, 1) := by decide +kernel
theorem dL_reads_166 : decode cL_reads 166 = .ok (.if_icmp .ne 9, 3) := by decide +kernel
theorem dL_reads_169 : decode cL_reads 169 = .ok (.ldc2_w 110, 3) := by decide +kernel
theorem dL_reads_172 : decode cL_reads 172 = .ok (.goto 17, 3) := by decide +kernel
theorem dL_reads_175 : decode cL_reads 175 = .ok (.iload_n 2, 1) := by decide +kernel
theorem dL_reads_176 : decode cL_reads 176 = .ok (.iconst 2, 1) := by decide +kernel
theorem dL_reads_177 : decode cL_reads 177 = .ok (.if_icmp .ne 9, 3) := by decide +kernel
theorem dL_reads_180 : decode cL_reads 180 = .ok (.ldc2_w 112, 3) := by decide +kernel
theorem dL_reads_183 : decode cL_reads 183 = .ok (.goto 6, 3) := by decide +kernel
theorem dL_reads_186 : decode cL_reads 186 = .ok (.ldc2_w 114, 3) := by decide +kernel
theorem dL_reads_189 : decode cL_reads 189 = .ok (.lstore 12, 2) := by decide +kernel
theorem dL_reads_191 : decode cL_reads 191 = .ok (.aload_n 0, 1) := by decide +kernel
theorem dL_reads_192 : decode cL_reads 192 = .ok (.iload_n 1, 1) := by decide +kernel
theorem dL_reads_193 : decode cL_reads 193 = .ok (.iconst 1, 1) := by decide +kernel
theorem dL_reads_194 : decode cL_reads 194 = .ok (.invokevirtual 107, 3) := by decide +kernel
theorem dL_reads_197 : decode cL_reads 197 = .ok (.lstore 14, 2) := by decide +kernel
theorem dL_reads_199 : decode cL_reads 199 = .ok (.lload 14, 2) := by decide +kernel
theorem dL_reads_201 : decode cL_reads 201 = .ok (.aload_n 0, 1) := by decide +kernel
theorem dL_reads_202 : decode cL_reads 202 = .ok (.iconst 0, 1) := by decide +kernel
theorem dL_reads_203 : decode cL_reads 203 = .ok (.invokevirtual 86, 3) := by decide +kernel
theorem dL_reads_206 : decode cL_reads 206 = .ok (.aload_n 0, 1) := by decide +kernel
theorem dL_reads_207 : decode cL_reads 207 = .ok (.iload_n 1, 1) := by decide +kernel
theorem dL_reads_208 : decode cL_reads 208 = .ok (.bipush 6, 2) := by decide +kernel
theorem dL_reads_210 : decode cL_reads 210 = .ok (.invokevirtual 107, 3) := by decide +kernel
theorem dL_reads_213 : decode cL_reads 213 = .ok (.lsub, 1) := by decide +kernel
theorem dL_reads_214 : decode cL_reads 214 = .ok (.lcmp, 1) := by decide +kernel
theorem dL_reads_215 : decode cL_reads 215 = .ok (.ifCond .ne 42, 3) := by decide +kernel
theorem dL_reads_218 : decode cL_reads 218 = .ok (.aload_n 0, 1) := by decide +kernel
theorem dL_reads_219 : decode cL_reads 219 = .ok (.iload_n 1, 1) := by decide +kernel
theorem dL_reads_220 : decode cL_reads 220 = .ok (.bipush 6, 2) := by decide +kernel
theorem dL_reads_222 : decode cL_reads 222 = .ok (.invokevirtual 107, 3) := by decide +kernel
theorem dL_reads_225 : decode cL_reads 225 = .ok (.aload_n 0, 1) := by decide +kernel
theorem dL_reads_226 : decode cL_reads 226 = .ok (.iconst 3, 1) := by decide +kernel
theorem dL_reads_227 : decode cL_reads 227 = .ok (.invokevirtual 57, 3) := by decide +kernel
theorem dL_reads_230 : decode cL_reads 230 = .ok (.i2l, 1) := by decide +kernel
theorem dL_reads_231 : decode cL_reads 231 = .ok (.ldc2_w 90, 3) := by decide +kernel
theorem dL_reads_234 : decode cL_reads 234 = .ok (.lsub, 1) := by decide +kernel
theorem dL_reads_235 : decode cL_reads 235 = .ok (.lcmp, 1) := by decide +kernel
theorem dL_reads_236 : decode cL_reads 236 = .ok (.ifCond .ne 21, 3) := by decide +kernel
theorem dL_reads_239 : decode cL_reads 239 = .ok (.lload 10, 2) := by decide +kernel
theorem dL_reads_241 : decode cL_reads 241 = .ok (.lload 14, 2) := by decide +kernel
theorem dL_reads_243 : decode cL_reads 243 = .ok (.ldc2_w 116, 3) := by decide +kernel
theorem dL_reads_246 : decode cL_reads 246 = .ok (.lmul, 1) := by decide +kernel
theorem dL_reads_247 : decode cL_reads 247 = .ok (.iload_n 3, 1) := by decide +kernel
theorem dL_reads_248 : decode cL_reads 248 = .ok (.i2l, 1) := by decide +kernel
theorem dL_reads_249 : decode cL_reads 249 = .ok (.lload 12, 2) := by decide +kernel
theorem dL_reads_251 : decode cL_reads 251 = .ok (.lmul, 1) := by decide +kernel
theorem dL_reads_252 : decode cL_reads 252 = .ok (.ldiv, 1) := by decide +kernel
theorem dL_reads_253 : decode cL_reads 253 = .ok (.lcmp, 1) := by decide +kernel
theorem dL_reads_254 : decode cL_reads 254 = .ok (.ifCond .eq 5, 3) := by decide +kernel
theorem dL_reads_257 : decode cL_reads 257 = .ok (.iconst 0, 1) := by decide +kernel
theorem dL_reads_258 : decode cL_reads 258 = .ok (.ireturn, 1) := by decide +kernel
theorem dL_reads_259 : decode cL_reads 259 = .ok (.aload_n 0, 1) := by decide +kernel
theorem dL_reads_260 : decode cL_reads 260 = .ok (.iload_n 1, 1) := by decide +kernel
theorem dL_reads_261 : decode cL_reads 261 = .ok (.iconst 3, 1) := by decide +kernel
theorem dL_reads_262 : decode cL_reads 262 = .ok (.invokevirtual 107, 3) := by decide +kernel
theorem dL_reads_265 : decode cL_reads 265 = .ok (.lstore 16, 2) := by decide +kernel
theorem dL_reads_267 : decode cL_reads 267 = .ok (.aload_n 0, 1) := by decide +kernel
theorem dL_reads_268 : decode cL_reads 268 = .ok (.bipush 6, 2) := by decide +kernel
theorem dL_reads_270 : decode cL_reads 270 = .ok (.invokevirtual 86, 3) := by decide +kernel
theorem dL_reads_273 : decode cL_reads 273 = .ok (.lstore 18, 2) := by decide +kernel
theorem dL_reads_275 : decode cL_reads 275 = .ok (.lload 16, 2) := by decide +kernel
theorem dL_reads_277 : decode cL_reads 277 = .ok (.lconst 0, 1) := by decide +kernel
theorem dL_reads_278 : decode cL_reads 278 = .ok (.lcmp, 1) := by decide +kernel
theorem dL_reads_279 : decode cL_reads 279 = .ok (.ifCond .ne 15, 3) := by decide +kernel
theorem dL_reads_282 : decode cL_reads 282 = .ok (.lload 18, 2) := by decide +kernel
theorem dL_reads_284 : decode cL_reads 284 = .ok (.invokestatic 118, 3) := by decide +kernel
theorem dL_reads_287 : decode cL_reads 287 = .ok (.ldc2_w 122, 3) := by decide +kernel
theorem dL_reads_290 : decode cL_reads 290 = .ok (.lcmp, 1) := by decide +kernel
theorem dL_reads_291 : decode cL_reads 291 = .ok (.ifCond .gt 51, 3) := by decide +kernel
theorem dL_reads_294 : decode cL_reads 294 = .ok (.lload 16, 2) := by decide +kernel
theorem dL_reads_296 : decode cL_reads 296 = .ok (.lconst 1, 1) := by decide +kernel
theorem dL_reads_297 : decode cL_reads 297 = .ok (.lcmp, 1) := by decide +kernel
theorem dL_reads_298 : decode cL_reads 298 = .ok (.ifCond .ne 18, 3) := by decide +kernel
theorem dL_reads_301 : decode cL_reads 301 = .ok (.aload_n 0, 1) := by decide +kernel
theorem dL_reads_302 : decode cL_reads 302 = .ok (.iconst 1, 1) := by decide +kernel
theorem dL_reads_303 : decode cL_reads 303 = .ok (.invokevirtual 86, 3) := by decide +kernel
theorem dL_reads_306 : decode cL_reads 306 = .ok (.ldc2_w 124, 3) := by decide +kernel
theorem dL_reads_309 : decode cL_reads 309 = .ok (.iload_n 3, 1) := by decide +kernel
theorem dL_reads_310 : decode cL_reads 310 = .ok (.i2l, 1) := by decide +kernel
theorem dL_reads_311 : decode cL_reads 311 = .ok (.lmul, 1) := by decide +kernel
theorem dL_reads_312 : decode cL_reads 312 = .ok (.lcmp, 1) := by decide +kernel
theorem dL_reads_313 : decode cL_reads 313 = .ok (.ifCond .ne 29, 3) := by decide +kernel
theorem dL_reads_316 : decode cL_reads 316 = .ok (.aload_n 0, 1) := by decide +kernel
theorem dL_reads_317 : decode cL_reads 317 = .ok (.iconst 5, 1) := by decide +kernel
theorem dL_reads_318 : decode cL_reads 318 = .ok (.invokevirtual 86, 3) := by decide +kernel
theorem dL_reads_321 : decode cL_reads 321 = .ok (.lload 18, 2) := by decide +kernel
theorem dL_reads_323 : decode cL_reads 323 = .ok (.invokestatic 118, 3) := by decide +kernel
theorem dL_reads_326 : decode cL_reads 326 = .ok (.lcmp, 1) := by decide +kernel
theorem dL_reads_327 : decode cL_reads 327 = .ok (.ifCond .lt 15, 3) := by decide +kernel
theorem dL_reads_330 : decode cL_reads 330 = .ok (.aload_n 0, 1) := by decide +kernel
theorem dL_reads_331 : decode cL_reads 331 = .ok (.iconst 2, 1) := by decide +kernel
theorem dL_reads_332 : decode cL_reads 332 = .ok (.invokevirtual 86, 3) := by decide +kernel
theorem dL_reads_335 : decode cL_reads 335 = .ok (.ldc2_w 126, 3) := by decide +kernel
theorem dL_reads_338 : decode cL_reads 338 = .ok (.lcmp, 1) := by decide +kernel
theorem dL_reads_339 : decode cL_reads 339 = .ok (.ifCond .le 5, 3) := by decide +kernel
theorem dL_reads_342 : decode cL_reads 342 = .ok (.iconst 0, 1) := by decide +kernel
theorem dL_reads_343 : decode cL_reads 343 = .ok (.ireturn, 1) := by decide +kernel
theorem dL_reads_344 : decode cL_reads 344 = .ok (.iload 4, 2) := by decide +kernel
theorem dL_reads_346 : decode cL_reads 346 = .ok (.ifCond .eq 36, 3) := by decide +kernel
theorem dL_reads_349 : decode cL_reads 349 = .ok (.lload 18, 2) := by decide +kernel
theorem dL_reads_351 : decode cL_reads 351 = .ok (.lload 7, 2) := by decide +kernel
theorem dL_reads_353 : decode cL_reads 353 = .ok (.ldc2_w 116, 3) := by decide +kernel
theorem dL_reads_356 : decode cL_reads 356 = .ok (.aload_n 0, 1) := by decide +kernel
theorem dL_reads_357 : decode cL_reads 357 = .ok (.iconst 0, 1) := by decide +kernel
theorem dL_reads_358 : decode cL_reads 358 = .ok (.invokevirtual 86, 3) := by decide +kernel
theorem dL_reads_361 : decode cL_reads 361 = .ok (.lmul, 1) := by decide +kernel
theorem dL_reads_362 : decode cL_reads 362 = .ok (.lsub, 1) := by decide +kernel
theorem dL_reads_363 : decode cL_reads 363 = .ok (.lcmp, 1) := by decide +kernel
theorem dL_reads_364 : decode cL_reads 364 = .ok (.ifCond .ne 16, 3) := by decide +kernel
theorem dL_reads_367 : decode cL_reads 367 = .ok (.aload_n 0, 1) := by decide +kernel
theorem dL_reads_368 : decode cL_reads 368 = .ok (.iload_n 1, 1) := by decide +kernel
theorem dL_reads_369 : decode cL_reads 369 = .ok (.iconst 4, 1) := by decide +kernel
theorem dL_reads_370 : decode cL_reads 370 = .ok (.invokevirtual 107, 3) := by decide +kernel
theorem dL_reads_373 : decode cL_reads 373 = .ok (.iload 9, 2) := by decide +kernel
theorem dL_reads_375 : decode cL_reads 375 = .ok (.i2l, 1) := by decide +kernel
theorem dL_reads_376 : decode cL_reads 376 = .ok (.lcmp, 1) := by decide +kernel
theorem dL_reads_377 : decode cL_reads 377 = .ok (.ifCond .eq 5, 3) := by decide +kernel
theorem dL_reads_380 : decode cL_reads 380 = .ok (.iconst 0, 1) := by decide +kernel
theorem dL_reads_381 : decode cL_reads 381 = .ok (.ireturn, 1) := by decide +kernel
theorem dL_reads_382 : decode cL_reads 382 = .ok (.aload_n 0, 1) := by decide +kernel
theorem dL_reads_383 : decode cL_reads 383 = .ok (.iload_n 1, 1) := by decide +kernel
theorem dL_reads_384 : decode cL_reads 384 = .ok (.iconst 5, 1) := by decide +kernel
theorem dL_reads_385 : decode cL_reads 385 = .ok (.invokevirtual 107, 3) := by decide +kernel
theorem dL_reads_388 : decode cL_reads 388 = .ok (.aload_n 0, 1) := by decide +kernel
theorem dL_reads_389 : decode cL_reads 389 = .ok (.iload_n 1, 1) := by decide +kernel
theorem dL_reads_390 : decode cL_reads 390 = .ok (.iconst 4, 1) := by decide +kernel
theorem dL_reads_391 : decode cL_reads 391 = .ok (.invokevirtual 107, 3) := by decide +kernel
theorem dL_reads_394 : decode cL_reads 394 = .ok (.lsub, 1) := by decide +kernel
theorem dL_reads_395 : decode cL_reads 395 = .ok (.iload_n 3, 1) := by decide +kernel
theorem dL_reads_396 : decode cL_reads 396 = .ok (.i2l, 1) := by decide +kernel
theorem dL_reads_397 : decode cL_reads 397 = .ok (.aload_n 0, 1) := by decide +kernel
theorem dL_reads_398 : decode cL_reads 398 = .ok (.iconst 1, 1) := by decide +kernel
theorem dL_reads_399 : decode cL_reads 399 = .ok (.invokevirtual 86, 3) := by decide +kernel
theorem dL_reads_402 : decode cL_reads 402 = .ok (.ladd, 1) := by decide +kernel
theorem dL_reads_403 : decode cL_reads 403 = .ok (.aload_n 0, 1) := by decide +kernel
theorem dL_reads_404 : decode cL_reads 404 = .ok (.iconst 2, 1) := by decide +kernel
theorem dL_reads_405 : decode cL_reads 405 = .ok (.invokevirtual 86, 3) := by decide +kernel
theorem dL_reads_408 : decode cL_reads 408 = .ok (.ladd, 1) := by decide +kernel
theorem dL_reads_409 : decode cL_reads 409 = .ok (.lcmp, 1) := by decide +kernel
theorem dL_reads_410 : decode cL_reads 410 = .ok (.ifCond .ne 33, 3) := by decide +kernel
theorem dL_reads_413 : decode cL_reads 413 = .ok (.aload_n 0, 1) := by decide +kernel
theorem dL_reads_414 : decode cL_reads 414 = .ok (.iconst 3, 1) := by decide +kernel
theorem dL_reads_415 : decode cL_reads 415 = .ok (.invokevirtual 86, 3) := by decide +kernel
theorem dL_reads_418 : decode cL_reads 418 = .ok (.aload_n 0, 1) := by decide +kernel
theorem dL_reads_419 : decode cL_reads 419 = .ok (.iconst 4, 1) := by decide +kernel
theorem dL_reads_420 : decode cL_reads 420 = .ok (.invokevirtual 86, 3) := by decide +kernel
theorem dL_reads_423 : decode cL_reads 423 = .ok (.ladd, 1) := by decide +kernel
theorem dL_reads_424 : decode cL_reads 424 = .ok (.aload_n 0, 1) := by decide +kernel
theorem dL_reads_425 : decode cL_reads 425 = .ok (.iconst 2, 1) := by decide +kernel
theorem dL_reads_426 : decode cL_reads 426 = .ok (.invokevirtual 76, 3) := by decide +kernel
theorem dL_reads_429 : decode cL_reads 429 = .ok (.iconst 1, 1) := by decide +kernel
theorem dL_reads_430 : decode cL_reads 430 = .ok (.if_icmp .ne 7, 3) := by decide +kernel
theorem dL_reads_433 : decode cL_reads 433 = .ok (.iload_n 3, 1) := by decide +kernel
theorem dL_reads_434 : decode cL_reads 434 = .ok (.goto 4, 3) := by decide +kernel
theorem dL_reads_437 : decode cL_reads 437 = .ok (.iconst 0, 1) := by decide +kernel
theorem dL_reads_438 : decode cL_reads 438 = .ok (.i2l, 1) := by decide +kernel
theorem dL_reads_439 : decode cL_reads 439 = .ok (.lcmp, 1) := by decide +kernel
theorem dL_reads_440 : decode cL_reads 440 = .ok (.ifCond .eq 5, 3) := by decide +kernel
theorem dL_reads_443 : decode cL_reads 443 = .ok (.iconst 0, 1) := by decide +kernel
theorem dL_reads_444 : decode cL_reads 444 = .ok (.ireturn, 1) := by decide +kernel
theorem dL_reads_445 : decode cL_reads 445 = .ok (.aload_n 0, 1) := by decide +kernel
theorem dL_reads_446 : decode cL_reads 446 = .ok (.iload_n 2, 1) := by decide +kernel
theorem dL_reads_447 : decode cL_reads 447 = .ok (.iload_n 3, 1) := by decide +kernel
theorem dL_reads_448 : decode cL_reads 448 = .ok (.lload 14, 2) := by decide +kernel
theorem dL_reads_450 : decode cL_reads 450 = .ok (.lload 16, 2) := by decide +kernel
theorem dL_reads_452 : decode cL_reads 452 = .ok (.invokestatic 128, 3) := by decide +kernel
theorem dL_reads_455 : decode cL_reads 455 = .ok (.ifCond .eq 55, 3) := by decide +kernel
theorem dL_reads_458 : decode cL_reads 458 = .ok (.aload_n 0, 1) := by decide +kernel
theorem dL_reads_459 : decode cL_reads 459 = .ok (.iconst 3, 1) := by decide +kernel
theorem dL_reads_460 : decode cL_reads 460 = .ok (.invokevirtual 76, 3) := by decide +kernel
theorem dL_reads_463 : decode cL_reads 463 = .ok (.ifCond .ne 16, 3) := by decide +kernel
theorem dL_reads_466 : decode cL_reads 466 = .ok (.aload_n 0, 1) := by decide +kernel
theorem dL_reads_467 : decode cL_reads 467 = .ok (.iconst 4, 1) := by decide +kernel
theorem dL_reads_468 : decode cL_reads 468 = .ok (.invokevirtual 57, 3) := by decide +kernel
theorem dL_reads_471 : decode cL_reads 471 = .ok (.bipush (-6), 2) := by decide +kernel
theorem dL_reads_473 : decode cL_reads 473 = .ok (.if_icmp .ne 37, 3) := by decide +kernel
theorem dL_reads_476 : decode cL_reads 476 = .ok (.goto 30, 3) := by decide +kernel
theorem dL_reads_479 : decode cL_reads 479 = .ok (.aload_n 0, 1) := by decide +kernel
theorem dL_reads_480 : decode cL_reads 480 = .ok (.iconst 4, 1) := by decide +kernel
theorem dL_reads_481 : decode cL_reads 481 = .ok (.invokevirtual 57, 3) := by decide +kernel
theorem dL_reads_484 : decode cL_reads 484 = .ok (.iload 4, 2) := by decide +kernel
theorem dL_reads_486 : decode cL_reads 486 = .ok (.ifCond .ne 13, 3) := by decide +kernel
theorem dL_reads_489 : decode cL_reads 489 = .ok (.aload_n 0, 1) := by decide +kernel
theorem dL_reads_490 : decode cL_reads 490 = .ok (.iconst 3, 1) := by decide +kernel
theorem dL_reads_491 : decode cL_reads 491 = .ok (.invokevirtual 76, 3) := by decide +kernel
theorem dL_reads_494 : decode cL_reads 494 = .ok (.iconst 1, 1) := by decide +kernel
theorem dL_reads_495 : decode cL_reads 495 = .ok (.isub, 1) := by decide +kernel
theorem dL_reads_496 : decode cL_reads 496 = .ok (.goto 7, 3) := by decide +kernel
theorem dL_reads_499 : decode cL_reads 499 = .ok (.iload 4, 2) := by decide +kernel
theorem dL_reads_501 : decode cL_reads 501 = .ok (.iconst 1, 1) := by decide +kernel
theorem dL_reads_502 : decode cL_reads 502 = .ok (.isub, 1) := by decide +kernel
theorem dL_reads_503 : decode cL_reads 503 = .ok (.if_icmp .ne 7, 3) := by decide +kernel
theorem dL_reads_506 : decode cL_reads 506 = .ok (.iconst 1, 1) := by decide +kernel
theorem dL_reads_507 : decode cL_reads 507 = .ok (.goto 4, 3) := by decide +kernel
theorem dL_reads_510 : decode cL_reads 510 = .ok (.iconst 0, 1) := by decide +kernel
theorem dL_reads_511 : decode cL_reads 511 = .ok (.ireturn, 1) := by decide +kernel
theorem dL_ranged_0 : decode cL_ranged 0 = .ok (.aload_n 0, 1) := by decide +kernel
theorem dL_ranged_1 : decode cL_ranged 1 = .ok (.iconst 5, 1) := by decide +kernel
theorem dL_ranged_2 : decode cL_ranged 2 = .ok (.invokevirtual 76, 3) := by decide +kernel
theorem dL_ranged_5 : decode cL_ranged 5 = .ok (.istore 7, 2) := by decide +kernel
theorem dL_ranged_7 : decode cL_ranged 7 = .ok (.aload_n 0, 1) := by decide +kernel
theorem dL_ranged_8 : decode cL_ranged 8 = .ok (.iconst 4, 1) := by decide +kernel
theorem dL_ranged_9 : decode cL_ranged 9 = .ok (.invokevirtual 76, 3) := by decide +kernel
theorem dL_ranged_12 : decode cL_ranged 12 = .ok (.ifCond .ne 15, 3) := by decide +kernel
theorem dL_ranged_15 : decode cL_ranged 15 = .ok (.iload 7, 2) := by decide +kernel
theorem dL_ranged_17 : decode cL_ranged 17 = .ok (.iload_n 1, 1) := by decide +kernel
theorem dL_ranged_18 : decode cL_ranged 18 = .ok (.if_icmp .ne 7, 3) := by decide +kernel
theorem dL_ranged_21 : decode cL_ranged 21 = .ok (.iconst 1, 1) := by decide +kernel
theorem dL_ranged_22 : decode cL_ranged 22 = .ok (.goto 4, 3) := by decide +kernel
theorem dL_ranged_25 : decode cL_ranged 25 = .ok (.iconst 0, 1) := by decide +kernel
theorem dL_ranged_26 : decode cL_ranged 26 = .ok (.ireturn, 1) := by decide +kernel
theorem dL_ranged_27 : decode cL_ranged 27 = .ok (.lload 5, 2) := by decide +kernel
theorem dL_ranged_29 : decode cL_ranged 29 = .ok (.lconst 1, 1) := by decide +kernel
theorem dL_ranged_30 : decode cL_ranged 30 = .ok (.lcmp, 1) := by decide +kernel
theorem dL_ranged_31 : decode cL_ranged 31 = .ok (.ifCond .eq 17, 3) := by decide +kernel
theorem dL_ranged_34 : decode cL_ranged 34 = .ok (.lload_n 3, 1) := by decide +kernel
theorem dL_ranged_35 : decode cL_ranged 35 = .ok (.invokestatic 118, 3) := by decide +kernel
theorem dL_ranged_38 : decode cL_ranged 38 = .ok (.ldc2_w 126, 3) := by decide +kernel
theorem dL_ranged_41 : decode cL_ranged 41 = .ok (.iload_n 2, 1) := by decide +kernel
theorem dL_ranged_42 : decode cL_ranged 42 = .ok (.i2l, 1) := by decide +kernel
theorem dL_ranged_43 : decode cL_ranged 43 = .ok (.lmul, 1) := by decide +kernel
theorem dL_ranged_44 : decode cL_ranged 44 = .ok (.lcmp, 1) := by decide +kernel
theorem dL_ranged_45 : decode cL_ranged 45 = .ok (.ifCond .le 25, 3) := by decide +kernel
theorem dL_ranged_48 : decode cL_ranged 48 = .ok (.iload 7, 2) := by decide +kernel
theorem dL_ranged_50 : decode cL_ranged 50 = .ok (.iload_n 1, 1) := by decide +kernel
theorem dL_ranged_51 : decode cL_ranged 51 = .ok (.ifCond .ne 7, 3) := by decide +kernel
theorem dL_ranged_54 : decode cL_ranged 54 = .ok (.iconst 0, 1) := by decide +kernel
theorem dL_ranged_55 : decode cL_ranged 55 = .ok (.goto 6, 3) := by decide +kernel
theorem dL_ranged_58 : decode cL_ranged 58 = .ok (.iload_n 1, 1) := by decide +kernel
theorem dL_ranged_59 : decode cL_ranged 59 = .ok (.iconst 1, 1) := by decide +kernel
theorem dL_ranged_60 : decode cL_ranged 60 = .ok (.isub, 1) := by decide +kernel
theorem dL_ranged_61 : decode cL_ranged 61 = .ok (.if_icmp .ne 7, 3) := by decide +kernel
theorem dL_ranged_64 : decode cL_ranged 64 = .ok (.iconst 1, 1) := by decide +kernel
theorem dL_ranged_65 : decode cL_ranged 65 = .ok (.goto 4, 3) := by decide +kernel
theorem dL_ranged_68 : decode cL_ranged 68 = .ok (.iconst 0, 1) := by decide +kernel
theorem dL_ranged_69 : decode cL_ranged 69 = .ok (.ireturn, 1) := by decide +kernel
theorem dL_ranged_70 : decode cL_ranged 70 = .ok (.lload_n 3, 1) := by decide +kernel
theorem dL_ranged_71 : decode cL_ranged 71 = .ok (.invokestatic 118, 3) := by decide +kernel
theorem dL_ranged_74 : decode cL_ranged 74 = .ok (.ldc2_w 126, 3) := by decide +kernel
theorem dL_ranged_77 : decode cL_ranged 77 = .ok (.iload_n 2, 1) := by decide +kernel
theorem dL_ranged_78 : decode cL_ranged 78 = .ok (.i2l, 1) := by decide +kernel
theorem dL_ranged_79 : decode cL_ranged 79 = .ok (.lmul, 1) := by decide +kernel
theorem dL_ranged_80 : decode cL_ranged 80 = .ok (.ldc2_w 132, 3) := by decide +kernel
theorem dL_ranged_83 : decode cL_ranged 83 = .ok (.ldiv, 1) := by decide +kernel
theorem dL_ranged_84 : decode cL_ranged 84 = .ok (.lcmp, 1) := by decide +kernel
theorem dL_ranged_85 : decode cL_ranged 85 = .ok (.ifCond .ge 28, 3) := by decide +kernel
theorem dL_ranged_88 : decode cL_ranged 88 = .ok (.iload 7, 2) := by decide +kernel
theorem dL_ranged_90 : decode cL_ranged 90 = .ok (.iload_n 1, 1) := by decide +kernel
theorem dL_ranged_91 : decode cL_ranged 91 = .ok (.iconst 3, 1) := by decide +kernel
theorem dL_ranged_92 : decode cL_ranged 92 = .ok (.if_icmp .ne 7, 3) := by decide +kernel
theorem dL_ranged_95 : decode cL_ranged 95 = .ok (.iconst 3, 1) := by decide +kernel
theorem dL_ranged_96 : decode cL_ranged 96 = .ok (.goto 6, 3) := by decide +kernel
theorem dL_ranged_99 : decode cL_ranged 99 = .ok (.iload_n 1, 1) := by decide +kernel
theorem dL_ranged_100 : decode cL_ranged 100 = .ok (.iconst 1, 1) := by decide +kernel
theorem dL_ranged_101 : decode cL_ranged 101 = .ok (.iadd, 1) := by decide +kernel
theorem dL_ranged_102 : decode cL_ranged 102 = .ok (.if_icmp .ne 7, 3) := by decide +kernel
theorem dL_ranged_105 : decode cL_ranged 105 = .ok (.iconst 1, 1) := by decide +kernel
theorem dL_ranged_106 : decode cL_ranged 106 = .ok (.goto 18, 3) := by decide +kernel
theorem dL_ranged_109 : decode cL_ranged 109 = .ok (.iconst 0, 1) := by decide +kernel
theorem dL_ranged_110 : decode cL_ranged 110 = .ok (.goto 14, 3) := by decide +kernel
theorem dL_ranged_113 : decode cL_ranged 113 = .ok (.iload 7, 2) := by decide +kernel
theorem dL_ranged_115 : decode cL_ranged 115 = .ok (.iload_n 1, 1) := by decide +kernel
theorem dL_ranged_116 : decode cL_ranged 116 = .ok (.if_icmp .ne 7, 3) := by decide +kernel
theorem dL_ranged_119 : decode cL_ranged 119 = .ok (.iconst 1, 1) := by decide +kernel
theorem dL_ranged_120 : decode cL_ranged 120 = .ok (.goto 4, 3) := by decide +kernel
theorem dL_ranged_123 : decode cL_ranged 123 = .ok (.iconst 0, 1) := by decide +kernel
theorem dL_ranged_124 : decode cL_ranged 124 = .ok (.ireturn, 1) := by decide +kernel
theorem dL_kept_0 : decode cL_kept 0 = .ok (.aload_n 0, 1) := by decide +kernel
theorem dL_kept_1 : decode cL_kept 1 = .ok (.iconst 1, 1) := by decide +kernel
theorem dL_kept_2 : decode cL_kept 2 = .ok (.invokevirtual 57, 3) := by decide +kernel
theorem dL_kept_5 : decode cL_kept 5 = .ok (.istore_n 1, 1) := by decide +kernel
theorem dL_kept_6 : decode cL_kept 6 = .ok (.lconst 0, 1) := by decide +kernel
theorem dL_kept_7 : decode cL_kept 7 = .ok (.lstore_n 2, 1) := by decide +kernel
theorem dL_kept_8 : decode cL_kept 8 = .ok (.lconst 0, 1) := by decide +kernel
theorem dL_kept_9 : decode cL_kept 9 = .ok (.lstore 4, 2) := by decide +kernel
theorem dL_kept_11 : decode cL_kept 11 = .ok (.iconst 0, 1) := by decide +kernel
theorem dL_kept_12 : decode cL_kept 12 = .ok (.istore 6, 2) := by decide +kernel
theorem dL_kept_14 : decode cL_kept 14 = .ok (.iload 6, 2) := by decide +kernel
theorem dL_kept_16 : decode cL_kept 16 = .ok (.iload_n 1, 1) := by decide +kernel
theorem dL_kept_17 : decode cL_kept 17 = .ok (.if_icmp .ge 92, 3) := by decide +kernel
theorem dL_kept_20 : decode cL_kept 20 = .ok (.lload_n 2, 1) := by decide +kernel
theorem dL_kept_21 : decode cL_kept 21 = .ok (.aload_n 0, 1) := by decide +kernel
theorem dL_kept_22 : decode cL_kept 22 = .ok (.iload 6, 2) := by decide +kernel
theorem dL_kept_24 : decode cL_kept 24 = .ok (.iconst 0, 1) := by decide +kernel
theorem dL_kept_25 : decode cL_kept 25 = .ok (.invokevirtual 107, 3) := by decide +kernel
theorem dL_kept_28 : decode cL_kept 28 = .ok (.ladd, 1) := by decide +kernel
theorem dL_kept_29 : decode cL_kept 29 = .ok (.lstore_n 2, 1) := by decide +kernel
theorem dL_kept_30 : decode cL_kept 30 = .ok (.lload 4, 2) := by decide +kernel
theorem dL_kept_32 : decode cL_kept 32 = .ok (.aload_n 0, 1) := by decide +kernel
theorem dL_kept_33 : decode cL_kept 33 = .ok (.iload 6, 2) := by decide +kernel
theorem dL_kept_35 : decode cL_kept 35 = .ok (.iconst 3, 1) := by decide +kernel
theorem dL_kept_36 : decode cL_kept 36 = .ok (.invokevirtual 107, 3) := by decide +kernel
theorem dL_kept_39 : decode cL_kept 39 = .ok (.ladd, 1) := by decide +kernel
theorem dL_kept_40 : decode cL_kept 40 = .ok (.lstore 4, 2) := by decide +kernel
theorem dL_kept_42 : decode cL_kept 42 = .ok (.aload_n 0, 1) := by decide +kernel
theorem dL_kept_43 : decode cL_kept 43 = .ok (.iconst 0, 1) := by decide +kernel
theorem dL_kept_44 : decode cL_kept 44 = .ok (.iconst 1, 1) := by decide +kernel
theorem dL_kept_45 : decode cL_kept 45 = .ok (.invokevirtual 134, 3) := by decide +kernel
theorem dL_kept_48 : decode cL_kept 48 = .ok (.aload_n 0, 1) := by decide +kernel
theorem dL_kept_49 : decode cL_kept 49 = .ok (.iload 6, 2) := by decide +kernel
theorem dL_kept_51 : decode cL_kept 51 = .ok (.iconst 0, 1) := by decide +kernel
theorem dL_kept_52 : decode cL_kept 52 = .ok (.invokevirtual 107, 3) := by decide +kernel
theorem dL_kept_55 : decode cL_kept 55 = .ok (.lcmp, 1) := by decide +kernel
theorem dL_kept_56 : decode cL_kept 56 = .ok (.ifCond .gt 45, 3) := by decide +kernel
theorem dL_kept_59 : decode cL_kept 59 = .ok (.aload_n 0, 1) := by decide +kernel
theorem dL_kept_60 : decode cL_kept 60 = .ok (.iconst 0, 1) := by decide +kernel
theorem dL_kept_61 : decode cL_kept 61 = .ok (.iconst 2, 1) := by decide +kernel
theorem dL_kept_62 : decode cL_kept 62 = .ok (.invokevirtual 134, 3) := by decide +kernel
theorem dL_kept_65 : decode cL_kept 65 = .ok (.aload_n 0, 1) := by decide +kernel
theorem dL_kept_66 : decode cL_kept 66 = .ok (.iload 6, 2) := by decide +kernel
theorem dL_kept_68 : decode cL_kept 68 = .ok (.iconst 0, 1) := by decide +kernel
theorem dL_kept_69 : decode cL_kept 69 = .ok (.invokevirtual 107, 3) := by decide +kernel
theorem dL_kept_72 : decode cL_kept 72 = .ok (.lcmp, 1) := by decide +kernel
theorem dL_kept_73 : decode cL_kept 73 = .ok (.ifCond .lt 28, 3) := by decide +kernel
theorem dL_kept_76 : decode cL_kept 76 = .ok (.iload 6, 2) := by decide +kernel
theorem dL_kept_78 : decode cL_kept 78 = .ok (.ifCond .le 25, 3) := by decide +kernel
theorem dL_kept_81 : decode cL_kept 81 = .ok (.aload_n 0, 1) := by decide +kernel
theorem dL_kept_82 : decode cL_kept 82 = .ok (.iload 6, 2) := by decide +kernel
theorem dL_kept_84 : decode cL_kept 84 = .ok (.iconst 4, 1) := by decide +kernel
theorem dL_kept_85 : decode cL_kept 85 = .ok (.invokevirtual 107, 3) := by decide +kernel
theorem dL_kept_88 : decode cL_kept 88 = .ok (.aload_n 0, 1) := by decide +kernel
theorem dL_kept_89 : decode cL_kept 89 = .ok (.iload 6, 2) := by decide +kernel
theorem dL_kept_91 : decode cL_kept 91 = .ok (.iconst 1, 1) := by decide +kernel
theorem dL_kept_92 : decode cL_kept 92 = .ok (.isub, 1) := by decide +kernel
theorem dL_kept_93 : decode cL_kept 93 = .ok (.iconst 5, 1) := by decide +kernel
theorem dL_kept_94 : decode cL_kept 94 = .ok (.invokevirtual 107, 3) := by decide +kernel
theorem dL_kept_97 : decode cL_kept 97 = .ok (.lcmp, 1) := by decide +kernel
theorem dL_kept_98 : decode cL_kept 98 = .ok (.ifCond .ge 5, 3) := by decide +kernel
theorem dL_kept_101 : decode cL_kept 101 = .ok (.iconst 0, 1) := by decide +kernel
theorem dL_kept_102 : decode cL_kept 102 = .ok (.ireturn, 1) := by decide +kernel
theorem dL_kept_103 : decode cL_kept 103 = .ok (.iinc 6 1, 3) := by decide +kernel
theorem dL_kept_106 : decode cL_kept 106 = .ok (.goto (-92), 3) := by decide +kernel
theorem dL_kept_109 : decode cL_kept 109 = .ok (.aload_n 0, 1) := by decide +kernel
theorem dL_kept_110 : decode cL_kept 110 = .ok (.iconst 0, 1) := by decide +kernel
theorem dL_kept_111 : decode cL_kept 111 = .ok (.iconst 0, 1) := by decide +kernel
theorem dL_kept_112 : decode cL_kept 112 = .ok (.invokevirtual 134, 3) := by decide +kernel
theorem dL_kept_115 : decode cL_kept 115 = .ok (.iload_n 1, 1) := by decide +kernel
theorem dL_kept_116 : decode cL_kept 116 = .ok (.i2l, 1) := by decide +kernel
theorem dL_kept_117 : decode cL_kept 117 = .ok (.lcmp, 1) := by decide +kernel
theorem dL_kept_118 : decode cL_kept 118 = .ok (.ifCond .ne 70, 3) := by decide +kernel
theorem dL_kept_121 : decode cL_kept 121 = .ok (.aload_n 0, 1) := by decide +kernel
theorem dL_kept_122 : decode cL_kept 122 = .ok (.iconst 0, 1) := by decide +kernel
theorem dL_kept_123 : decode cL_kept 123 = .ok (.iconst 3, 1) := by decide +kernel
theorem dL_kept_124 : decode cL_kept 124 = .ok (.invokevirtual 134, 3) := by decide +kernel
theorem dL_kept_127 : decode cL_kept 127 = .ok (.lload_n 2, 1) := by decide +kernel
theorem dL_kept_128 : decode cL_kept 128 = .ok (.iload_n 1, 1) := by decide +kernel
theorem dL_kept_129 : decode cL_kept 129 = .ok (.i2l, 1) := by decide +kernel
theorem dL_kept_130 : decode cL_kept 130 = .ok (.ldiv, 1) := by decide +kernel
theorem dL_kept_131 : decode cL_kept 131 = .ok (.lcmp, 1) := by decide +kernel
theorem dL_kept_132 : decode cL_kept 132 = .ok (.ifCond .ne 56, 3) := by decide +kernel
theorem dL_kept_135 : decode cL_kept 135 = .ok (.aload_n 0, 1) := by decide +kernel
theorem dL_kept_136 : decode cL_kept 136 = .ok (.iconst 0, 1) := by decide +kernel
theorem dL_kept_137 : decode cL_kept 137 = .ok (.iconst 4, 1) := by decide +kernel
theorem dL_kept_138 : decode cL_kept 138 = .ok (.invokevirtual 134, 3) := by decide +kernel
theorem dL_kept_141 : decode cL_kept 141 = .ok (.lload 4, 2) := by decide +kernel
theorem dL_kept_143 : decode cL_kept 143 = .ok (.lcmp, 1) := by decide +kernel
theorem dL_kept_144 : decode cL_kept 144 = .ok (.ifCond .ne 44, 3) := by decide +kernel
theorem dL_kept_147 : decode cL_kept 147 = .ok (.aload_n 0, 1) := by decide +kernel
theorem dL_kept_148 : decode cL_kept 148 = .ok (.iload_n 1, 1) := by decide +kernel
theorem dL_kept_149 : decode cL_kept 149 = .ok (.iconst 0, 1) := by decide +kernel
theorem dL_kept_150 : decode cL_kept 150 = .ok (.invokevirtual 107, 3) := by decide +kernel
theorem dL_kept_153 : decode cL_kept 153 = .ok (.ldc2_w 137, 3) := by decide +kernel
theorem dL_kept_156 : decode cL_kept 156 = .ok (.lcmp, 1) := by decide +kernel
theorem dL_kept_157 : decode cL_kept 157 = .ok (.ifCond .ne 31, 3) := by decide +kernel
theorem dL_kept_160 : decode cL_kept 160 = .ok (.aload_n 0, 1) := by decide +kernel
theorem dL_kept_161 : decode cL_kept 161 = .ok (.iload_n 1, 1) := by decide +kernel
theorem dL_kept_162 : decode cL_kept 162 = .ok (.iconst 1, 1) := by decide +kernel
theorem dL_kept_163 : decode cL_kept 163 = .ok (.invokevirtual 134, 3) := by decide +kernel
theorem dL_kept_166 : decode cL_kept 166 = .ok (.ldc2_w 137, 3) := by decide +kernel
theorem dL_kept_169 : decode cL_kept 169 = .ok (.lcmp, 1) := by decide +kernel
theorem dL_kept_170 : decode cL_kept 170 = .ok (.ifCond .ne 18, 3) := by decide +kernel
theorem dL_kept_173 : decode cL_kept 173 = .ok (.aload_n 0, 1) := by decide +kernel
theorem dL_kept_174 : decode cL_kept 174 = .ok (.iload_n 1, 1) := by decide +kernel
theorem dL_kept_175 : decode cL_kept 175 = .ok (.iconst 0, 1) := by decide +kernel
theorem dL_kept_176 : decode cL_kept 176 = .ok (.invokevirtual 134, 3) := by decide +kernel
theorem dL_kept_179 : decode cL_kept 179 = .ok (.lconst 0, 1) := by decide +kernel
theorem dL_kept_180 : decode cL_kept 180 = .ok (.lcmp, 1) := by decide +kernel
theorem dL_kept_181 : decode cL_kept 181 = .ok (.ifCond .ne 7, 3) := by decide +kernel
theorem dL_kept_184 : decode cL_kept 184 = .ok (.iconst 1, 1) := by decide +kernel
theorem dL_kept_185 : decode cL_kept 185 = .ok (.goto 4, 3) := by decide +kernel
theorem dL_kept_188 : decode cL_kept 188 = .ok (.iconst 0, 1) := by decide +kernel
theorem dL_kept_189 : decode cL_kept 189 = .ok (.ireturn, 1) := by decide +kernel
theorem dL_raised_0 : decode cL_raised 0 = .ok (.aload_n 0, 1) := by decide +kernel
theorem dL_raised_1 : decode cL_raised 1 = .ok (.iconst 2, 1) := by decide +kernel
theorem dL_raised_2 : decode cL_raised 2 = .ok (.iconst 0, 1) := by decide +kernel
theorem dL_raised_3 : decode cL_raised 3 = .ok (.invokevirtual 26, 3) := by decide +kernel
theorem dL_raised_6 : decode cL_raised 6 = .ok (.istore_n 2, 1) := by decide +kernel
theorem dL_raised_7 : decode cL_raised 7 = .ok (.iload_n 1, 1) := by decide +kernel
theorem dL_raised_8 : decode cL_raised 8 = .ok (.ldc 139, 2) := by decide +kernel
theorem dL_raised_10 : decode cL_raised 10 = .ok (.invokestatic 22, 3) := by decide +kernel
theorem dL_raised_13 : decode cL_raised 13 = .ok (.ldc 140, 2) := by decide +kernel
theorem dL_raised_15 : decode cL_raised 15 = .ok (.isub, 1) := by decide +kernel
theorem dL_raised_16 : decode cL_raised 16 = .ok (.istore_n 3, 1) := by decide +kernel
theorem dL_raised_17 : decode cL_raised 17 = .ok (.iconst 1, 1) := by decide +kernel
theorem dL_raised_18 : decode cL_raised 18 = .ok (.iload_n 1, 1) := by decide +kernel
theorem dL_raised_19 : decode cL_raised 19 = .ok (.iconst 5, 1) := by decide +kernel
theorem dL_raised_20 : decode cL_raised 20 = .ok (.ishr, 1) := by decide +kernel
theorem dL_raised_21 : decode cL_raised 21 = .ok (.sipush 3000, 3) := by decide +kernel
theorem dL_raised_24 : decode cL_raised 24 = .ok (.invokestatic 22, 3) := by decide +kernel
theorem dL_raised_27 : decode cL_raised 27 = .ok (.iadd, 1) := by decide +kernel
theorem dL_raised_28 : decode cL_raised 28 = .ok (.istore 4, 2) := by decide +kernel
theorem dL_raised_30 : decode cL_raised 30 = .ok (.iconst 2, 1) := by decide +kernel
theorem dL_raised_31 : decode cL_raised 31 = .ok (.iload_n 1, 1) := by decide +kernel
theorem dL_raised_32 : decode cL_raised 32 = .ok (.bipush 9, 2) := by decide +kernel
theorem dL_raised_34 : decode cL_raised 34 = .ok (.ishr, 1) := by decide +kernel
theorem dL_raised_35 : decode cL_raised 35 = .ok (.bipush 20, 2) := by decide +kernel
theorem dL_raised_37 : decode cL_raised 37 = .ok (.invokestatic 22, 3) := by decide +kernel
theorem dL_raised_40 : decode cL_raised 40 = .ok (.iadd, 1) := by decide +kernel
theorem dL_raised_41 : decode cL_raised 41 = .ok (.istore 5, 2) := by decide +kernel
theorem dL_raised_43 : decode cL_raised 43 = .ok (.aload_n 0, 1) := by decide +kernel
theorem dL_raised_44 : decode cL_raised 44 = .ok (.iload_n 3, 1) := by decide +kernel
theorem dL_raised_45 : decode cL_raised 45 = .ok (.iload 4, 2) := by decide +kernel
theorem dL_raised_47 : decode cL_raised 47 = .ok (.iload 5, 2) := by decide +kernel
theorem dL_raised_49 : decode cL_raised 49 = .ok (.iconst 0, 1) := by decide +kernel
theorem dL_raised_50 : decode cL_raised 50 = .ok (.invokevirtual 141, 3) := by decide +kernel
theorem dL_raised_53 : decode cL_raised 53 = .ok (.ifCond .ne 7, 3) := by decide +kernel
theorem dL_raised_56 : decode cL_raised 56 = .ok (.iconst 1, 1) := by decide +kernel
theorem dL_raised_57 : decode cL_raised 57 = .ok (.goto 4, 3) := by decide +kernel
theorem dL_raised_60 : decode cL_raised 60 = .ok (.iconst 0, 1) := by decide +kernel
theorem dL_raised_61 : decode cL_raised 61 = .ok (.istore 6, 2) := by decide +kernel
theorem dL_raised_63 : decode cL_raised 63 = .ok (.aload_n 0, 1) := by decide +kernel
theorem dL_raised_64 : decode cL_raised 64 = .ok (.iload_n 3, 1) := by decide +kernel
theorem dL_raised_65 : decode cL_raised 65 = .ok (.iload 4, 2) := by decide +kernel
theorem dL_raised_67 : decode cL_raised 67 = .ok (.iload 5, 2) := by decide +kernel
theorem dL_raised_69 : decode cL_raised 69 = .ok (.iconst 1, 1) := by decide +kernel
theorem dL_raised_70 : decode cL_raised 70 = .ok (.invokevirtual 141, 3) := by decide +kernel
theorem dL_raised_73 : decode cL_raised 73 = .ok (.istore 7, 2) := by decide +kernel
theorem dL_raised_75 : decode cL_raised 75 = .ok (.iload 6, 2) := by decide +kernel
theorem dL_raised_77 : decode cL_raised 77 = .ok (.ifCond .eq 36, 3) := by decide +kernel
theorem dL_raised_80 : decode cL_raised 80 = .ok (.iload 7, 2) := by decide +kernel
theorem dL_raised_82 : decode cL_raised 82 = .ok (.ifCond .lt 31, 3) := by decide +kernel
theorem dL_raised_85 : decode cL_raised 85 = .ok (.iload 7, 2) := by decide +kernel
theorem dL_raised_87 : decode cL_raised 87 = .ok (.iload 5, 2) := by decide +kernel
theorem dL_raised_89 : decode cL_raised 89 = .ok (.if_icmp .ge 24, 3) := by decide +kernel
theorem dL_raised_92 : decode cL_raised 92 = .ok (.aload_n 0, 1) := by decide +kernel
theorem dL_raised_93 : decode cL_raised 93 = .ok (.iload_n 3, 1) := by decide +kernel
theorem dL_raised_94 : decode cL_raised 94 = .ok (.invokevirtual 100, 3) := by decide +kernel
theorem dL_raised_97 : decode cL_raised 97 = .ok (.aload_n 0, 1) := by decide +kernel
theorem dL_raised_98 : decode cL_raised 98 = .ok (.iload_n 3, 1) := by decide +kernel
theorem dL_raised_99 : decode cL_raised 99 = .ok (.iload 4, 2) := by decide +kernel
theorem dL_raised_101 : decode cL_raised 101 = .ok (.iadd, 1) := by decide +kernel
theorem dL_raised_102 : decode cL_raised 102 = .ok (.invokevirtual 100, 3) := by decide +kernel
theorem dL_raised_105 : decode cL_raised 105 = .ok (.lcmp, 1) := by decide +kernel
theorem dL_raised_106 : decode cL_raised 106 = .ok (.ifCond .gt 7, 3) := by decide +kernel
theorem dL_raised_109 : decode cL_raised 109 = .ok (.iconst 1, 1) := by decide +kernel
theorem dL_raised_110 : decode cL_raised 110 = .ok (.goto 4, 3) := by decide +kernel
theorem dL_raised_113 : decode cL_raised 113 = .ok (.iconst 0, 1) := by decide +kernel
theorem dL_raised_114 : decode cL_raised 114 = .ok (.istore 6, 2) := by decide +kernel
theorem dL_raised_116 : decode cL_raised 116 = .ok (.iload 6, 2) := by decide +kernel
theorem dL_raised_118 : decode cL_raised 118 = .ok (.ifCond .eq 16, 3) := by decide +kernel
theorem dL_raised_121 : decode cL_raised 121 = .ok (.aload_n 0, 1) := by decide +kernel
theorem dL_raised_122 : decode cL_raised 122 = .ok (.iconst 2, 1) := by decide +kernel
theorem dL_raised_123 : decode cL_raised 123 = .ok (.iload_n 2, 1) := by decide +kernel
theorem dL_raised_124 : decode cL_raised 124 = .ok (.invokevirtual 26, 3) := by decide +kernel
theorem dL_raised_127 : decode cL_raised 127 = .ok (.ifCond .ne 7, 3) := by decide +kernel
theorem dL_raised_130 : decode cL_raised 130 = .ok (.iconst 1, 1) := by decide +kernel
theorem dL_raised_131 : decode cL_raised 131 = .ok (.goto 4, 3) := by decide +kernel
theorem dL_raised_134 : decode cL_raised 134 = .ok (.iconst 0, 1) := by decide +kernel
theorem dL_raised_135 : decode cL_raised 135 = .ok (.ireturn, 1) := by decide +kernel
theorem dL_cancelled_0 : decode cL_cancelled 0 = .ok (.aload_n 0, 1) := by decide +kernel
theorem dL_cancelled_1 : decode cL_cancelled 1 = .ok (.iconst 0, 1) := by decide +kernel
theorem dL_cancelled_2 : decode cL_cancelled 2 = .ok (.invokevirtual 145, 3) := by decide +kernel
theorem dL_cancelled_5 : decode cL_cancelled 5 = .ok (.pop, 1) := by decide +kernel
theorem dL_cancelled_6 : decode cL_cancelled 6 = .ok (.aload_n 0, 1) := by decide +kernel
theorem dL_cancelled_7 : decode cL_cancelled 7 = .ok (.iconst 3, 1) := by decide +kernel
theorem dL_cancelled_8 : decode cL_cancelled 8 = .ok (.iconst 0, 1) := by decide +kernel
theorem dL_cancelled_9 : decode cL_cancelled 9 = .ok (.invokevirtual 26, 3) := by decide +kernel
theorem dL_cancelled_12 : decode cL_cancelled 12 = .ok (.pop, 1) := by decide +kernel
theorem dL_cancelled_13 : decode cL_cancelled 13 = .ok (.aload_n 0, 1) := by decide +kernel
theorem dL_cancelled_14 : decode cL_cancelled 14 = .ok (.iconst 5, 1) := by decide +kernel
theorem dL_cancelled_15 : decode cL_cancelled 15 = .ok (.iconst 0, 1) := by decide +kernel
theorem dL_cancelled_16 : decode cL_cancelled 16 = .ok (.invokevirtual 26, 3) := by decide +kernel
theorem dL_cancelled_19 : decode cL_cancelled 19 = .ok (.pop, 1) := by decide +kernel
theorem dL_cancelled_20 : decode cL_cancelled 20 = .ok (.aload_n 0, 1) := by decide +kernel
theorem dL_cancelled_21 : decode cL_cancelled 21 = .ok (.iconst 4, 1) := by decide +kernel
theorem dL_cancelled_22 : decode cL_cancelled 22 = .ok (.iconst 0, 1) := by decide +kernel
theorem dL_cancelled_23 : decode cL_cancelled 23 = .ok (.invokevirtual 26, 3) := by decide +kernel
theorem dL_cancelled_26 : decode cL_cancelled 26 = .ok (.pop, 1) := by decide +kernel
theorem dL_cancelled_27 : decode cL_cancelled 27 = .ok (.aload_n 0, 1) := by decide +kernel
theorem dL_cancelled_28 : decode cL_cancelled 28 = .ok (.iload_n 1, 1) := by decide +kernel
theorem dL_cancelled_29 : decode cL_cancelled 29 = .ok (.sipush 1000, 3) := by decide +kernel
theorem dL_cancelled_32 : decode cL_cancelled 32 = .ok (.invokestatic 22, 3) := by decide +kernel
theorem dL_cancelled_35 : decode cL_cancelled 35 = .ok (.iconst 0, 1) := by decide +kernel
theorem dL_cancelled_36 : decode cL_cancelled 36 = .ok (.invokevirtual 67, 3) := by decide +kernel
theorem dL_cancelled_39 : decode cL_cancelled 39 = .ok (.pop, 1) := by decide +kernel
theorem dL_cancelled_40 : decode cL_cancelled 40 = .ok (.aload_n 0, 1) := by decide +kernel
theorem dL_cancelled_41 : decode cL_cancelled 41 = .ok (.iload_n 1, 1) := by decide +kernel
theorem dL_cancelled_42 : decode cL_cancelled 42 = .ok (.iconst 4, 1) := by decide +kernel
theorem dL_cancelled_43 : decode cL_cancelled 43 = .ok (.ishr, 1) := by decide +kernel
theorem dL_cancelled_44 : decode cL_cancelled 44 = .ok (.ldc 46, 2) := by decide +kernel
theorem dL_cancelled_46 : decode cL_cancelled 46 = .ok (.invokestatic 22, 3) := by decide +kernel
theorem dL_cancelled_49 : decode cL_cancelled 49 = .ok (.ldc 47, 2) := by decide +kernel
theorem dL_cancelled_51 : decode cL_cancelled 51 = .ok (.isub, 1) := by decide +kernel
theorem dL_cancelled_52 : decode cL_cancelled 52 = .ok (.invokevirtual 96, 3) := by decide +kernel
theorem dL_cancelled_55 : decode cL_cancelled 55 = .ok (.pop, 1) := by decide +kernel
theorem dL_cancelled_56 : decode cL_cancelled 56 = .ok (.iconst 4, 1) := by decide +kernel
theorem dL_cancelled_57 : decode cL_cancelled 57 = .ok (.iconst 1, 1) := by decide +kernel
theorem dL_cancelled_58 : decode cL_cancelled 58 = .ok (.iload_n 1, 1) := by decide +kernel
theorem dL_cancelled_59 : decode cL_cancelled 59 = .ok (.bipush 9, 2) := by decide +kernel
theorem dL_cancelled_61 : decode cL_cancelled 61 = .ok (.ishr, 1) := by decide +kernel
theorem dL_cancelled_62 : decode cL_cancelled 62 = .ok (.bipush 20, 2) := by decide +kernel
theorem dL_cancelled_64 : decode cL_cancelled 64 = .ok (.invokestatic 22, 3) := by decide +kernel
theorem dL_cancelled_67 : decode cL_cancelled 67 = .ok (.iadd, 1) := by decide +kernel
theorem dL_cancelled_68 : decode cL_cancelled 68 = .ok (.imul, 1) := by decide +kernel
theorem dL_cancelled_69 : decode cL_cancelled 69 = .ok (.istore_n 2, 1) := by decide +kernel
theorem dL_cancelled_70 : decode cL_cancelled 70 = .ok (.aload_n 0, 1) := by decide +kernel
theorem dL_cancelled_71 : decode cL_cancelled 71 = .ok (.iload_n 1, 1) := by decide +kernel
theorem dL_cancelled_72 : decode cL_cancelled 72 = .ok (.iconst 3, 1) := by decide +kernel
theorem dL_cancelled_73 : decode cL_cancelled 73 = .ok (.ishr, 1) := by decide +kernel
theorem dL_cancelled_74 : decode cL_cancelled 74 = .ok (.ldc 148, 2) := by decide +kernel
theorem dL_cancelled_76 : decode cL_cancelled 76 = .ok (.invokestatic 22, 3) := by decide +kernel
theorem dL_cancelled_79 : decode cL_cancelled 79 = .ok (.iload_n 2, 1) := by decide +kernel
theorem dL_cancelled_80 : decode cL_cancelled 80 = .ok (.invokevirtual 62, 3) := by decide +kernel
theorem dL_cancelled_83 : decode cL_cancelled 83 = .ok (.pop, 1) := by decide +kernel
theorem dL_cancelled_84 : decode cL_cancelled 84 = .ok (.aload_n 0, 1) := by decide +kernel
theorem dL_cancelled_85 : decode cL_cancelled 85 = .ok (.iconst 0, 1) := by decide +kernel
theorem dL_cancelled_86 : decode cL_cancelled 86 = .ok (.iload_n 2, 1) := by decide +kernel
theorem dL_cancelled_87 : decode cL_cancelled 87 = .ok (.iconst 1, 1) := by decide +kernel
theorem dL_cancelled_88 : decode cL_cancelled 88 = .ok (.iload_n 1, 1) := by decide +kernel
theorem dL_cancelled_89 : decode cL_cancelled 89 = .ok (.bipush 14, 2) := by decide +kernel
theorem dL_cancelled_91 : decode cL_cancelled 91 = .ok (.ishr, 1) := by decide +kernel
theorem dL_cancelled_92 : decode cL_cancelled 92 = .ok (.iconst 3, 1) := by decide +kernel
theorem dL_cancelled_93 : decode cL_cancelled 93 = .ok (.invokestatic 22, 3) := by decide +kernel
theorem dL_cancelled_96 : decode cL_cancelled 96 = .ok (.iadd, 1) := by decide +kernel
theorem dL_cancelled_97 : decode cL_cancelled 97 = .ok (.imul, 1) := by decide +kernel
theorem dL_cancelled_98 : decode cL_cancelled 98 = .ok (.invokevirtual 26, 3) := by decide +kernel
theorem dL_cancelled_101 : decode cL_cancelled 101 = .ok (.pop, 1) := by decide +kernel
theorem dL_cancelled_102 : decode cL_cancelled 102 = .ok (.aload_n 0, 1) := by decide +kernel
theorem dL_cancelled_103 : decode cL_cancelled 103 = .ok (.iconst 2, 1) := by decide +kernel
theorem dL_cancelled_104 : decode cL_cancelled 104 = .ok (.iconst 0, 1) := by decide +kernel
theorem dL_cancelled_105 : decode cL_cancelled 105 = .ok (.invokevirtual 26, 3) := by decide +kernel
theorem dL_cancelled_108 : decode cL_cancelled 108 = .ok (.ifCond .lt 37, 3) := by decide +kernel
theorem dL_cancelled_111 : decode cL_cancelled 111 = .ok (.aload_n 0, 1) := by decide +kernel
theorem dL_cancelled_112 : decode cL_cancelled 112 = .ok (.iconst 1, 1) := by decide +kernel
theorem dL_cancelled_113 : decode cL_cancelled 113 = .ok (.iload_n 1, 1) := by decide +kernel
theorem dL_cancelled_114 : decode cL_cancelled 114 = .ok (.bipush 6, 2) := by decide +kernel
theorem dL_cancelled_116 : decode cL_cancelled 116 = .ok (.ishr, 1) := by decide +kernel
theorem dL_cancelled_117 : decode cL_cancelled 117 = .ok (.bipush 16, 2) := by decide +kernel
theorem dL_cancelled_119 : decode cL_cancelled 119 = .ok (.invokestatic 22, 3) := by decide +kernel
theorem dL_cancelled_122 : decode cL_cancelled 122 = .ok (.iadd, 1) := by decide +kernel
theorem dL_cancelled_123 : decode cL_cancelled 123 = .ok (.invokevirtual 149, 3) := by decide +kernel
theorem dL_cancelled_126 : decode cL_cancelled 126 = .ok (.lconst 0, 1) := by decide +kernel
theorem dL_cancelled_127 : decode cL_cancelled 127 = .ok (.lcmp, 1) := by decide +kernel
theorem dL_cancelled_128 : decode cL_cancelled 128 = .ok (.ifCond .ne 17, 3) := by decide +kernel
theorem dL_cancelled_131 : decode cL_cancelled 131 = .ok (.aload_n 0, 1) := by decide +kernel
theorem dL_cancelled_132 : decode cL_cancelled 132 = .ok (.iconst 1, 1) := by decide +kernel
theorem dL_cancelled_133 : decode cL_cancelled 133 = .ok (.invokevirtual 149, 3) := by decide +kernel
theorem dL_cancelled_136 : decode cL_cancelled 136 = .ok (.lconst 0, 1) := by decide +kernel
theorem dL_cancelled_137 : decode cL_cancelled 137 = .ok (.lcmp, 1) := by decide +kernel
theorem dL_cancelled_138 : decode cL_cancelled 138 = .ok (.ifCond .ne 7, 3) := by decide +kernel
theorem dL_cancelled_141 : decode cL_cancelled 141 = .ok (.iconst 1, 1) := by decide +kernel
theorem dL_cancelled_142 : decode cL_cancelled 142 = .ok (.goto 4, 3) := by decide +kernel
theorem dL_cancelled_145 : decode cL_cancelled 145 = .ok (.iconst 0, 1) := by decide +kernel
theorem dL_cancelled_146 : decode cL_cancelled 146 = .ok (.istore_n 3, 1) := by decide +kernel
theorem dL_cancelled_147 : decode cL_cancelled 147 = .ok (.aload_n 0, 1) := by decide +kernel
theorem dL_cancelled_148 : decode cL_cancelled 148 = .ok (.aload_n 0, 1) := by decide +kernel
theorem dL_cancelled_149 : decode cL_cancelled 149 = .ok (.iconst 2, 1) := by decide +kernel
theorem dL_cancelled_150 : decode cL_cancelled 150 = .ok (.invokevirtual 57, 3) := by decide +kernel
theorem dL_cancelled_153 : decode cL_cancelled 153 = .ok (.ldc 99, 2) := by decide +kernel
theorem dL_cancelled_155 : decode cL_cancelled 155 = .ok (.isub, 1) := by decide +kernel
theorem dL_cancelled_156 : decode cL_cancelled 156 = .ok (.invokevirtual 100, 3) := by decide +kernel
theorem dL_cancelled_159 : decode cL_cancelled 159 = .ok (.lstore 4, 2) := by decide +kernel
theorem dL_cancelled_161 : decode cL_cancelled 161 = .ok (.aload_n 0, 1) := by decide +kernel
theorem dL_cancelled_162 : decode cL_cancelled 162 = .ok (.iconst 0, 1) := by decide +kernel
theorem dL_cancelled_163 : decode cL_cancelled 163 = .ok (.iload_n 2, 1) := by decide +kernel
theorem dL_cancelled_164 : decode cL_cancelled 164 = .ok (.invokevirtual 62, 3) := by decide +kernel
theorem dL_cancelled_167 : decode cL_cancelled 167 = .ok (.pop, 1) := by decide +kernel
theorem dL_cancelled_168 : decode cL_cancelled 168 = .ok (.iload_n 3, 1) := by decide +kernel
theorem dL_cancelled_169 : decode cL_cancelled 169 = .ok (.ifCond .eq 49, 3) := by decide +kernel
theorem dL_cancelled_172 : decode cL_cancelled 172 = .ok (.aload_n 0, 1) := by decide +kernel
theorem dL_cancelled_173 : decode cL_cancelled 173 = .ok (.aload_n 0, 1) := by decide +kernel
theorem dL_cancelled_174 : decode cL_cancelled 174 = .ok (.iconst 2, 1) := by decide +kernel
theorem dL_cancelled_175 : decode cL_cancelled 175 = .ok (.invokevirtual 57, 3) := by decide +kernel
theorem dL_cancelled_178 : decode cL_cancelled 178 = .ok (.ldc 99, 2) := by decide +kernel
theorem dL_cancelled_180 : decode cL_cancelled 180 = .ok (.isub, 1) := by decide +kernel
theorem dL_cancelled_181 : decode cL_cancelled 181 = .ok (.invokevirtual 100, 3) := by decide +kernel
theorem dL_cancelled_184 : decode cL_cancelled 184 = .ok (.lload 4, 2) := by decide +kernel
theorem dL_cancelled_186 : decode cL_cancelled 186 = .ok (.lcmp, 1) := by decide +kernel
theorem dL_cancelled_187 : decode cL_cancelled 187 = .ok (.ifCond .ne 31, 3) := by decide +kernel
theorem dL_cancelled_190 : decode cL_cancelled 190 = .ok (.aload_n 0, 1) := by decide +kernel
theorem dL_cancelled_191 : decode cL_cancelled 191 = .ok (.iload_n 2, 1) := by decide +kernel
theorem dL_cancelled_192 : decode cL_cancelled 192 = .ok (.iload_n 2, 1) := by decide +kernel
theorem dL_cancelled_193 : decode cL_cancelled 193 = .ok (.iconst 2, 1) := by decide +kernel
theorem dL_cancelled_194 : decode cL_cancelled 194 = .ok (.invokevirtual 152, 3) := by decide +kernel
theorem dL_cancelled_197 : decode cL_cancelled 197 = .ok (.iload_n 2, 1) := by decide +kernel
theorem dL_cancelled_198 : decode cL_cancelled 198 = .ok (.if_icmp .ne 20, 3) := by decide +kernel
theorem dL_cancelled_201 : decode cL_cancelled 201 = .ok (.aload_n 0, 1) := by decide +kernel
theorem dL_cancelled_202 : decode cL_cancelled 202 = .ok (.iconst 0, 1) := by decide +kernel
theorem dL_cancelled_203 : decode cL_cancelled 203 = .ok (.invokevirtual 156, 3) := by decide +kernel
theorem dL_cancelled_206 : decode cL_cancelled 206 = .ok (.aload_n 0, 1) := by decide +kernel
theorem dL_cancelled_207 : decode cL_cancelled 207 = .ok (.iconst 1, 1) := by decide +kernel
theorem dL_cancelled_208 : decode cL_cancelled 208 = .ok (.invokevirtual 57, 3) := by decide +kernel
theorem dL_cancelled_211 : decode cL_cancelled 211 = .ok (.if_icmp .ne 7, 3) := by decide +kernel
theorem dL_cancelled_214 : decode cL_cancelled 214 = .ok (.iconst 1, 1) := by decide +kernel
theorem dL_cancelled_215 : decode cL_cancelled 215 = .ok (.goto 4, 3) := by decide +kernel
theorem dL_cancelled_218 : decode cL_cancelled 218 = .ok (.iconst 0, 1) := by decide +kernel
theorem dL_cancelled_219 : decode cL_cancelled 219 = .ok (.ireturn, 1) := by decide +kernel
theorem dL_levels_0 : decode cL_levels 0 = .ok (.aload_n 0, 1) := by decide +kernel
theorem dL_levels_1 : decode cL_levels 1 = .ok (.iconst 2, 1) := by decide +kernel
theorem dL_levels_2 : decode cL_levels 2 = .ok (.iconst 0, 1) := by decide +kernel
theorem dL_levels_3 : decode cL_levels 3 = .ok (.invokevirtual 26, 3) := by decide +kernel
theorem dL_levels_6 : decode cL_levels 6 = .ok (.istore_n 2, 1) := by decide +kernel
theorem dL_levels_7 : decode cL_levels 7 = .ok (.aload_n 0, 1) := by decide +kernel
theorem dL_levels_8 : decode cL_levels 8 = .ok (.iload_n 1, 1) := by decide +kernel
theorem dL_levels_9 : decode cL_levels 9 = .ok (.invokevirtual 159, 3) := by decide +kernel
theorem dL_levels_12 : decode cL_levels 12 = .ok (.lstore_n 3, 1) := by decide +kernel
theorem dL_levels_13 : decode cL_levels 13 = .ok (.lload_n 3, 1) := by decide +kernel
theorem dL_levels_14 : decode cL_levels 14 = .ok (.ldc2_w 137, 3) := by decide +kernel
theorem dL_levels_17 : decode cL_levels 17 = .ok (.lcmp, 1) := by decide +kernel
theorem dL_levels_18 : decode cL_levels 18 = .ok (.ifCond .ne 25, 3) := by decide +kernel
theorem dL_levels_21 : decode cL_levels 21 = .ok (.aload_n 0, 1) := by decide +kernel
theorem dL_levels_22 : decode cL_levels 22 = .ok (.ldc 93, 2) := by decide +kernel
theorem dL_levels_24 : decode cL_levels 24 = .ok (.invokevirtual 100, 3) := by decide +kernel
theorem dL_levels_27 : decode cL_levels 27 = .ok (.iload_n 1, 1) := by decide +kernel
theorem dL_levels_28 : decode cL_levels 28 = .ok (.i2l, 1) := by decide +kernel
theorem dL_levels_29 : decode cL_levels 29 = .ok (.lcmp, 1) := by decide +kernel
theorem dL_levels_30 : decode cL_levels 30 = .ok (.ifCond .ge 7, 3) := by decide +kernel
theorem dL_levels_33 : decode cL_levels 33 = .ok (.iconst 1, 1) := by decide +kernel
theorem dL_levels_34 : decode cL_levels 34 = .ok (.goto 4, 3) := by decide +kernel
theorem dL_levels_37 : decode cL_levels 37 = .ok (.iconst 0, 1) := by decide +kernel
theorem dL_levels_38 : decode cL_levels 38 = .ok (.istore 5, 2) := by decide +kernel
theorem dL_levels_40 : decode cL_levels 40 = .ok (.goto 44, 3) := by decide +kernel
theorem dL_levels_43 : decode cL_levels 43 = .ok (.aload_n 0, 1) := by decide +kernel
theorem dL_levels_44 : decode cL_levels 44 = .ok (.lload_n 3, 1) := by decide +kernel
theorem dL_levels_45 : decode cL_levels 45 = .ok (.l2i, 1) := by decide +kernel
theorem dL_levels_46 : decode cL_levels 46 = .ok (.invokevirtual 100, 3) := by decide +kernel
theorem dL_levels_49 : decode cL_levels 49 = .ok (.iload_n 1, 1) := by decide +kernel
theorem dL_levels_50 : decode cL_levels 50 = .ok (.i2l, 1) := by decide +kernel
theorem dL_levels_51 : decode cL_levels 51 = .ok (.lcmp, 1) := by decide +kernel
theorem dL_levels_52 : decode cL_levels 52 = .ok (.ifCond .lt 29, 3) := by decide +kernel
theorem dL_levels_55 : decode cL_levels 55 = .ok (.lload_n 3, 1) := by decide +kernel
theorem dL_levels_56 : decode cL_levels 56 = .ok (.ldc2_w 162, 3) := by decide +kernel
theorem dL_levels_59 : decode cL_levels 59 = .ok (.lcmp, 1) := by decide +kernel
theorem dL_levels_60 : decode cL_levels 60 = .ok (.ifCond .eq 17, 3) := by decide +kernel
theorem dL_levels_63 : decode cL_levels 63 = .ok (.aload_n 0, 1) := by decide +kernel
theorem dL_levels_64 : decode cL_levels 64 = .ok (.lload_n 3, 1) := by decide +kernel
theorem dL_levels_65 : decode cL_levels 65 = .ok (.l2i, 1) := by decide +kernel
theorem dL_levels_66 : decode cL_levels 66 = .ok (.iconst 1, 1) := by decide +kernel
theorem dL_levels_67 : decode cL_levels 67 = .ok (.isub, 1) := by decide +kernel
theorem dL_levels_68 : decode cL_levels 68 = .ok (.invokevirtual 100, 3) := by decide +kernel
theorem dL_levels_71 : decode cL_levels 71 = .ok (.iload_n 1, 1) := by decide +kernel
theorem dL_levels_72 : decode cL_levels 72 = .ok (.i2l, 1) := by decide +kernel
theorem dL_levels_73 : decode cL_levels 73 = .ok (.lcmp, 1) := by decide +kernel
theorem dL_levels_74 : decode cL_levels 74 = .ok (.ifCond .ge 7, 3) := by decide +kernel
theorem dL_levels_77 : decode cL_levels 77 = .ok (.iconst 1, 1) := by decide +kernel
theorem dL_levels_78 : decode cL_levels 78 = .ok (.goto 4, 3) := by decide +kernel
theorem dL_levels_81 : decode cL_levels 81 = .ok (.iconst 0, 1) := by decide +kernel
theorem dL_levels_82 : decode cL_levels 82 = .ok (.istore 5, 2) := by decide +kernel
theorem dL_levels_84 : decode cL_levels 84 = .ok (.iload 5, 2) := by decide +kernel
theorem dL_levels_86 : decode cL_levels 86 = .ok (.ifCond .eq 16, 3) := by decide +kernel
theorem dL_levels_89 : decode cL_levels 89 = .ok (.aload_n 0, 1) := by decide +kernel
theorem dL_levels_90 : decode cL_levels 90 = .ok (.iconst 2, 1) := by decide +kernel
theorem dL_levels_91 : decode cL_levels 91 = .ok (.iload_n 2, 1) := by decide +kernel
theorem dL_levels_92 : decode cL_levels 92 = .ok (.invokevirtual 26, 3) := by decide +kernel
theorem dL_levels_95 : decode cL_levels 95 = .ok (.ifCond .ne 7, 3) := by decide +kernel
theorem dL_levels_98 : decode cL_levels 98 = .ok (.iconst 1, 1) := by decide +kernel
theorem dL_levels_99 : decode cL_levels 99 = .ok (.goto 4, 3) := by decide +kernel
theorem dL_levels_102 : decode cL_levels 102 = .ok (.iconst 0, 1) := by decide +kernel
theorem dL_levels_103 : decode cL_levels 103 = .ok (.ireturn, 1) := by decide +kernel
theorem dL_programmed_0 : decode cL_programmed 0 = .ok (.iconst 1, 1) := by decide +kernel
theorem dL_programmed_1 : decode cL_programmed 1 = .ok (.iload_n 1, 1) := by decide +kernel
theorem dL_programmed_2 : decode cL_programmed 2 = .ok (.bipush 9, 2) := by decide +kernel
theorem dL_programmed_4 : decode cL_programmed 4 = .ok (.invokestatic 22, 3) := by decide +kernel
theorem dL_programmed_7 : decode cL_programmed 7 = .ok (.iadd, 1) := by decide +kernel
theorem dL_programmed_8 : decode cL_programmed 8 = .ok (.istore_n 2, 1) := by decide +kernel
theorem dL_programmed_9 : decode cL_programmed 9 = .ok (.iload_n 1, 1) := by decide +kernel
theorem dL_programmed_10 : decode cL_programmed 10 = .ok (.iconst 4, 1) := by decide +kernel
theorem dL_programmed_11 : decode cL_programmed 11 = .ok (.ishr, 1) := by decide +kernel
theorem dL_programmed_12 : decode cL_programmed 12 = .ok (.bipush 10, 2) := by decide +kernel
theorem dL_programmed_14 : decode cL_programmed 14 = .ok (.invokestatic 22, 3) := by decide +kernel
theorem dL_programmed_17 : decode cL_programmed 17 = .ok (.ldc 164, 2) := by decide +kernel
theorem dL_programmed_19 : decode cL_programmed 19 = .ok (.imul, 1) := by decide +kernel
theorem dL_programmed_20 : decode cL_programmed 20 = .ok (.istore_n 3, 1) := by decide +kernel
theorem dL_programmed_21 : decode cL_programmed 21 = .ok (.iconst 1, 1) := by decide +kernel
theorem dL_programmed_22 : decode cL_programmed 22 = .ok (.iload_n 1, 1) := by decide +kernel
theorem dL_programmed_23 : decode cL_programmed 23 = .ok (.bipush 9, 2) := by decide +kernel
theorem dL_programmed_25 : decode cL_programmed 25 = .ok (.ishr, 1) := by decide +kernel
theorem dL_programmed_26 : decode cL_programmed 26 = .ok (.bipush 9, 2) := by decide +kernel
theorem dL_programmed_28 : decode cL_programmed 28 = .ok (.invokestatic 22, 3) := by decide +kernel
theorem dL_programmed_31 : decode cL_programmed 31 = .ok (.iadd, 1) := by decide +kernel
theorem dL_programmed_32 : decode cL_programmed 32 = .ok (.istore 4, 2) := by decide +kernel
theorem dL_programmed_34 : decode cL_programmed 34 = .ok (.aload_n 0, 1) := by decide +kernel
theorem dL_programmed_35 : decode cL_programmed 35 = .ok (.invokevirtual 165, 3) := by decide +kernel
theorem dL_programmed_38 : decode cL_programmed 38 = .ok (.pop, 1) := by decide +kernel
theorem dL_programmed_39 : decode cL_programmed 39 = .ok (.aload_n 0, 1) := by decide +kernel
theorem dL_programmed_40 : decode cL_programmed 40 = .ok (.bipush 119, 2) := by decide +kernel
theorem dL_programmed_42 : decode cL_programmed 42 = .ok (.invokevirtual 168, 3) := by decide +kernel
theorem dL_programmed_45 : decode cL_programmed 45 = .ok (.pop, 1) := by decide +kernel
theorem dL_programmed_46 : decode cL_programmed 46 = .ok (.aload_n 0, 1) := by decide +kernel
theorem dL_programmed_47 : decode cL_programmed 47 = .ok (.bipush 48, 2) := by decide +kernel
theorem dL_programmed_49 : decode cL_programmed 49 = .ok (.iload_n 2, 1) := by decide +kernel
theorem dL_programmed_50 : decode cL_programmed 50 = .ok (.iadd, 1) := by decide +kernel
theorem dL_programmed_51 : decode cL_programmed 51 = .ok (.invokevirtual 168, 3) := by decide +kernel
theorem dL_programmed_54 : decode cL_programmed 54 = .ok (.pop, 1) := by decide +kernel
theorem dL_programmed_55 : decode cL_programmed 55 = .ok (.aload_n 0, 1) := by decide +kernel
theorem dL_programmed_56 : decode cL_programmed 56 = .ok (.bipush 44, 2) := by decide +kernel
theorem dL_programmed_58 : decode cL_programmed 58 = .ok (.invokevirtual 168, 3) := by decide +kernel
theorem dL_programmed_61 : decode cL_programmed 61 = .ok (.pop, 1) := by decide +kernel
theorem dL_programmed_62 : decode cL_programmed 62 = .ok (.aload_n 0, 1) := by decide +kernel
theorem dL_programmed_63 : decode cL_programmed 63 = .ok (.bipush 108, 2) := by decide +kernel
theorem dL_programmed_65 : decode cL_programmed 65 = .ok (.invokevirtual 168, 3) := by decide +kernel
theorem dL_programmed_68 : decode cL_programmed 68 = .ok (.pop, 1) := by decide +kernel
theorem dL_programmed_69 : decode cL_programmed 69 = .ok (.aload_n 0, 1) := by decide +kernel
theorem dL_programmed_70 : decode cL_programmed 70 = .ok (.bipush 45, 2) := by decide +kernel
theorem dL_programmed_72 : decode cL_programmed 72 = .ok (.invokevirtual 168, 3) := by decide +kernel
theorem dL_programmed_75 : decode cL_programmed 75 = .ok (.pop, 1) := by decide +kernel
theorem dL_programmed_76 : decode cL_programmed 76 = .ok (.aload_n 0, 1) := by decide +kernel
theorem dL_programmed_77 : decode cL_programmed 77 = .ok (.bipush 48, 2) := by decide +kernel
theorem dL_programmed_79 : decode cL_programmed 79 = .ok (.iload_n 3, 1) := by decide +kernel
theorem dL_programmed_80 : decode cL_programmed 80 = .ok (.ldc 164, 2) := by decide +kernel
theorem dL_programmed_82 : decode cL_programmed 82 = .ok (.idiv, 1) := by decide +kernel
theorem dL_programmed_83 : decode cL_programmed 83 = .ok (.iadd, 1) := by decide +kernel
theorem dL_programmed_84 : decode cL_programmed 84 = .ok (.invokevirtual 168, 3) := by decide +kernel
theorem dL_programmed_87 : decode cL_programmed 87 = .ok (.pop, 1) := by decide +kernel
theorem dL_programmed_88 : decode cL_programmed 88 = .ok (.iconst 0, 1) := by decide +kernel
theorem dL_programmed_89 : decode cL_programmed 89 = .ok (.istore 5, 2) := by decide +kernel
theorem dL_programmed_91 : decode cL_programmed 91 = .ok (.iload 5, 2) := by decide +kernel
theorem dL_programmed_93 : decode cL_programmed 93 = .ok (.iconst 5, 1) := by decide +kernel
theorem dL_programmed_94 : decode cL_programmed 94 = .ok (.if_icmp .ge 20, 3) := by decide +kernel
theorem dL_programmed_97 : decode cL_programmed 97 = .ok (.iload_n 3, 1) := by decide +kernel
theorem dL_programmed_98 : decode cL_programmed 98 = .ok (.ifCond .le 16, 3) := by decide +kernel
theorem dL_programmed_101 : decode cL_programmed 101 = .ok (.aload_n 0, 1) := by decide +kernel
theorem dL_programmed_102 : decode cL_programmed 102 = .ok (.bipush 48, 2) := by decide +kernel
theorem dL_programmed_104 : decode cL_programmed 104 = .ok (.invokevirtual 168, 3) := by decide +kernel
theorem dL_programmed_107 : decode cL_programmed 107 = .ok (.pop, 1) := by decide +kernel
theorem dL_programmed_108 : decode cL_programmed 108 = .ok (.iinc 5 1, 3) := by decide +kernel
theorem dL_programmed_111 : decode cL_programmed 111 = .ok (.goto (-20), 3) := by decide +kernel
theorem dL_programmed_114 : decode cL_programmed 114 = .ok (.aload_n 0, 1) := by decide +kernel
theorem dL_programmed_115 : decode cL_programmed 115 = .ok (.bipush 44, 2) := by decide +kernel
theorem dL_programmed_117 : decode cL_programmed 117 = .ok (.invokevirtual 168, 3) := by decide +kernel
theorem dL_programmed_120 : decode cL_programmed 120 = .ok (.pop, 1) := by decide +kernel
theorem dL_programmed_121 : decode cL_programmed 121 = .ok (.aload_n 0, 1) := by decide +kernel
theorem dL_programmed_122 : decode cL_programmed 122 = .ok (.bipush 122, 2) := by decide +kernel
theorem dL_programmed_124 : decode cL_programmed 124 = .ok (.invokevirtual 168, 3) := by decide +kernel
theorem dL_programmed_127 : decode cL_programmed 127 = .ok (.pop, 1) := by decide +kernel
theorem dL_programmed_128 : decode cL_programmed 128 = .ok (.aload_n 0, 1) := by decide +kernel
theorem dL_programmed_129 : decode cL_programmed 129 = .ok (.bipush 44, 2) := by decide +kernel
theorem dL_programmed_131 : decode cL_programmed 131 = .ok (.invokevirtual 168, 3) := by decide +kernel
theorem dL_programmed_134 : decode cL_programmed 134 = .ok (.pop, 1) := by decide +kernel
theorem dL_programmed_135 : decode cL_programmed 135 = .ok (.aload_n 0, 1) := by decide +kernel
theorem dL_programmed_136 : decode cL_programmed 136 = .ok (.bipush 114, 2) := by decide +kernel
theorem dL_programmed_138 : decode cL_programmed 138 = .ok (.invokevirtual 168, 3) := by decide +kernel
theorem dL_programmed_141 : decode cL_programmed 141 = .ok (.pop, 1) := by decide +kernel
theorem dL_programmed_142 : decode cL_programmed 142 = .ok (.aload_n 0, 1) := by decide +kernel
theorem dL_programmed_143 : decode cL_programmed 143 = .ok (.bipush 48, 2) := by decide +kernel
theorem dL_programmed_145 : decode cL_programmed 145 = .ok (.iload 4, 2) := by decide +kernel
theorem dL_programmed_147 : decode cL_programmed 147 = .ok (.iadd, 1) := by decide +kernel
theorem dL_programmed_148 : decode cL_programmed 148 = .ok (.invokevirtual 168, 3) := by decide +kernel
theorem dL_programmed_151 : decode cL_programmed 151 = .ok (.pop, 1) := by decide +kernel
theorem dL_programmed_152 : decode cL_programmed 152 = .ok (.aload_n 0, 1) := by decide +kernel
theorem dL_programmed_153 : decode cL_programmed 153 = .ok (.invokevirtual 171, 3) := by decide +kernel
theorem dL_programmed_156 : decode cL_programmed 156 = .ok (.bipush (-6), 2) := by decide +kernel
theorem dL_programmed_158 : decode cL_programmed 158 = .ok (.if_icmp .eq 5, 3) := by decide +kernel
theorem dL_programmed_161 : decode cL_programmed 161 = .ok (.iconst 0, 1) := by decide +kernel
theorem dL_programmed_162 : decode cL_programmed 162 = .ok (.ireturn, 1) := by decide +kernel
theorem dL_programmed_163 : decode cL_programmed 163 = .ok (.aload_n 0, 1) := by decide +kernel
theorem dL_programmed_164 : decode cL_programmed 164 = .ok (.iconst 0, 1) := by decide +kernel
theorem dL_programmed_165 : decode cL_programmed 165 = .ok (.invokevirtual 145, 3) := by decide +kernel
theorem dL_programmed_168 : decode cL_programmed 168 = .ok (.pop, 1) := by decide +kernel
theorem dL_programmed_169 : decode cL_programmed 169 = .ok (.aload_n 0, 1) := by decide +kernel
theorem dL_programmed_170 : decode cL_programmed 170 = .ok (.iconst 1, 1) := by decide +kernel
theorem dL_programmed_171 : decode cL_programmed 171 = .ok (.invokevirtual 57, 3) := by decide +kernel
theorem dL_programmed_174 : decode cL_programmed 174 = .ok (.istore 5, 2) := by decide +kernel
theorem dL_programmed_176 : decode cL_programmed 176 = .ok (.aload_n 0, 1) := by decide +kernel
theorem dL_programmed_177 : decode cL_programmed 177 = .ok (.iload_n 2, 1) := by decide +kernel
theorem dL_programmed_178 : decode cL_programmed 178 = .ok (.invokevirtual 79, 3) := by decide +kernel
theorem dL_programmed_181 : decode cL_programmed 181 = .ok (.pop, 1) := by decide +kernel
theorem dL_programmed_182 : decode cL_programmed 182 = .ok (.aload_n 0, 1) := by decide +kernel
theorem dL_programmed_183 : decode cL_programmed 183 = .ok (.iload_n 3, 1) := by decide +kernel
theorem dL_programmed_184 : decode cL_programmed 184 = .ok (.ineg, 1) := by decide +kernel
theorem dL_programmed_185 : decode cL_programmed 185 = .ok (.invokevirtual 96, 3) := by decide +kernel
theorem dL_programmed_188 : decode cL_programmed 188 = .ok (.pop, 1) := by decide +kernel
theorem dL_programmed_189 : decode cL_programmed 189 = .ok (.aload_n 0, 1) := by decide +kernel
theorem dL_programmed_190 : decode cL_programmed 190 = .ok (.invokevirtual 82, 3) := by decide +kernel
theorem dL_programmed_193 : decode cL_programmed 193 = .ok (.pop, 1) := by decide +kernel
theorem dL_programmed_194 : decode cL_programmed 194 = .ok (.lconst 0, 1) := by decide +kernel
theorem dL_programmed_195 : decode cL_programmed 195 = .ok (.lstore 6, 2) := by decide +kernel
theorem dL_programmed_197 : decode cL_programmed 197 = .ok (.iconst 0, 1) := by decide +kernel
theorem dL_programmed_198 : decode cL_programmed 198 = .ok (.istore 8, 2) := by decide +kernel
theorem dL_programmed_200 : decode cL_programmed 200 = .ok (.iload 8, 2) := by decide +kernel
theorem dL_programmed_202 : decode cL_programmed 202 = .ok (.iload 4, 2) := by decide +kernel
theorem dL_programmed_204 : decode cL_programmed 204 = .ok (.if_icmp .ge 15, 3) := by decide +kernel
theorem dL_programmed_207 : decode cL_programmed 207 = .ok (.aload_n 0, 1) := by decide +kernel
theorem dL_programmed_208 : decode cL_programmed 208 = .ok (.invokevirtual 103, 3) := by decide +kernel
theorem dL_programmed_211 : decode cL_programmed 211 = .ok (.lstore 6, 2) := by decide +kernel
theorem dL_programmed_213 : decode cL_programmed 213 = .ok (.iinc 8 1, 3) := by decide +kernel
theorem dL_programmed_216 : decode cL_programmed 216 = .ok (.goto (-16), 3) := by decide +kernel
theorem dL_programmed_219 : decode cL_programmed 219 = .ok (.aload_n 0, 1) := by decide +kernel
theorem dL_programmed_220 : decode cL_programmed 220 = .ok (.iconst 0, 1) := by decide +kernel
theorem dL_programmed_221 : decode cL_programmed 221 = .ok (.invokevirtual 57, 3) := by decide +kernel
theorem dL_programmed_224 : decode cL_programmed 224 = .ok (.istore 8, 2) := by decide +kernel
theorem dL_programmed_226 : decode cL_programmed 226 = .ok (.aload_n 0, 1) := by decide +kernel
theorem dL_programmed_227 : decode cL_programmed 227 = .ok (.iconst 3, 1) := by decide +kernel
theorem dL_programmed_228 : decode cL_programmed 228 = .ok (.invokevirtual 57, 3) := by decide +kernel
theorem dL_programmed_231 : decode cL_programmed 231 = .ok (.istore 9, 2) := by decide +kernel
theorem dL_programmed_233 : decode cL_programmed 233 = .ok (.aload_n 0, 1) := by decide +kernel
theorem dL_programmed_234 : decode cL_programmed 234 = .ok (.iconst 0, 1) := by decide +kernel
theorem dL_programmed_235 : decode cL_programmed 235 = .ok (.invokevirtual 156, 3) := by decide +kernel
theorem dL_programmed_238 : decode cL_programmed 238 = .ok (.pop, 1) := by decide +kernel
theorem dL_programmed_239 : decode cL_programmed 239 = .ok (.aload_n 0, 1) := by decide +kernel
theorem dL_programmed_240 : decode cL_programmed 240 = .ok (.invokevirtual 174, 3) := by decide +kernel
theorem dL_programmed_243 : decode cL_programmed 243 = .ok (.iload 4, 2) := by decide +kernel
theorem dL_programmed_245 : decode cL_programmed 245 = .ok (.if_icmp .ne 78, 3) := by decide +kernel
theorem dL_programmed_248 : decode cL_programmed 248 = .ok (.aload_n 0, 1) := by decide +kernel
theorem dL_programmed_249 : decode cL_programmed 249 = .ok (.iconst 1, 1) := by decide +kernel
theorem dL_programmed_250 : decode cL_programmed 250 = .ok (.invokevirtual 57, 3) := by decide +kernel
theorem dL_programmed_253 : decode cL_programmed 253 = .ok (.iload 5, 2) := by decide +kernel
theorem dL_programmed_255 : decode cL_programmed 255 = .ok (.iload 4, 2) := by decide +kernel
theorem dL_programmed_257 : decode cL_programmed 257 = .ok (.iadd, 1) := by decide +kernel
theorem dL_programmed_258 : decode cL_programmed 258 = .ok (.if_icmp .ne 65, 3) := by decide +kernel
theorem dL_programmed_261 : decode cL_programmed 261 = .ok (.aload_n 0, 1) := by decide +kernel
theorem dL_programmed_262 : decode cL_programmed 262 = .ok (.iconst 0, 1) := by decide +kernel
theorem dL_programmed_263 : decode cL_programmed 263 = .ok (.invokevirtual 57, 3) := by decide +kernel
theorem dL_programmed_266 : decode cL_programmed 266 = .ok (.iload 8, 2) := by decide +kernel
theorem dL_programmed_268 : decode cL_programmed 268 = .ok (.if_icmp .ne 55, 3) := by decide +kernel
theorem dL_programmed_271 : decode cL_programmed 271 = .ok (.aload_n 0, 1) := by decide +kernel
theorem dL_programmed_272 : decode cL_programmed 272 = .ok (.iconst 3, 1) := by decide +kernel
theorem dL_programmed_273 : decode cL_programmed 273 = .ok (.invokevirtual 57, 3) := by decide +kernel
theorem dL_programmed_276 : decode cL_programmed 276 = .ok (.iload 9, 2) := by decide +kernel
theorem dL_programmed_278 : decode cL_programmed 278 = .ok (.if_icmp .ne 45, 3) := by decide +kernel
theorem dL_programmed_281 : decode cL_programmed 281 = .ok (.aload_n 0, 1) := by decide +kernel
theorem dL_programmed_282 : decode cL_programmed 282 = .ok (.iload 5, 2) := by decide +kernel
theorem dL_programmed_284 : decode cL_programmed 284 = .ok (.iload 4, 2) := by decide +kernel
theorem dL_programmed_286 : decode cL_programmed 286 = .ok (.iadd, 1) := by decide +kernel
theorem dL_programmed_287 : decode cL_programmed 287 = .ok (.iconst 1, 1) := by decide +kernel
theorem dL_programmed_288 : decode cL_programmed 288 = .ok (.isub, 1) := by decide +kernel
theorem dL_programmed_289 : decode cL_programmed 289 = .ok (.iconst 0, 1) := by decide +kernel
theorem dL_programmed_290 : decode cL_programmed 290 = .ok (.invokevirtual 107, 3) := by decide +kernel
theorem dL_programmed_293 : decode cL_programmed 293 = .ok (.lload 6, 2) := by decide +kernel
theorem dL_programmed_295 : decode cL_programmed 295 = .ok (.lcmp, 1) := by decide +kernel
theorem dL_programmed_296 : decode cL_programmed 296 = .ok (.ifCond .ne 27, 3) := by decide +kernel
theorem dL_programmed_299 : decode cL_programmed 299 = .ok (.aload_n 0, 1) := by decide +kernel
theorem dL_programmed_300 : decode cL_programmed 300 = .ok (.iconst 2, 1) := by decide +kernel
theorem dL_programmed_301 : decode cL_programmed 301 = .ok (.invokevirtual 57, 3) := by decide +kernel
theorem dL_programmed_304 : decode cL_programmed 304 = .ok (.ldc 99, 2) := by decide +kernel
theorem dL_programmed_306 : decode cL_programmed 306 = .ok (.iload_n 3, 1) := by decide +kernel
theorem dL_programmed_307 : decode cL_programmed 307 = .ok (.isub, 1) := by decide +kernel
theorem dL_programmed_308 : decode cL_programmed 308 = .ok (.if_icmp .ne 15, 3) := by decide +kernel
theorem dL_programmed_311 : decode cL_programmed 311 = .ok (.aload_n 0, 1) := by decide +kernel
theorem dL_programmed_312 : decode cL_programmed 312 = .ok (.iconst 5, 1) := by decide +kernel
theorem dL_programmed_313 : decode cL_programmed 313 = .ok (.invokevirtual 57, 3) := by decide +kernel
theorem dL_programmed_316 : decode cL_programmed 316 = .ok (.ifCond .ne 7, 3) := by decide +kernel
theorem dL_programmed_319 : decode cL_programmed 319 = .ok (.iconst 1, 1) := by decide +kernel
theorem dL_programmed_320 : decode cL_programmed 320 = .ok (.goto 4, 3) := by decide +kernel
theorem dL_programmed_323 : decode cL_programmed 323 = .ok (.iconst 0, 1) := by decide +kernel
theorem dL_programmed_324 : decode cL_programmed 324 = .ok (.ireturn, 1) := by decide +kernel
theorem dL_saved_0 : decode cL_saved 0 = .ok (.aload_n 0, 1) := by decide +kernel
theorem dL_saved_1 : decode cL_saved 1 = .ok (.iconst 1, 1) := by decide +kernel
theorem dL_saved_2 : decode cL_saved 2 = .ok (.invokevirtual 145, 3) := by decide +kernel
theorem dL_saved_5 : decode cL_saved 5 = .ok (.istore_n 2, 1) := by decide +kernel
theorem dL_saved_6 : decode cL_saved 6 = .ok (.aload_n 0, 1) := by decide +kernel
theorem dL_saved_7 : decode cL_saved 7 = .ok (.iconst 0, 1) := by decide +kernel
theorem dL_saved_8 : decode cL_saved 8 = .ok (.invokevirtual 57, 3) := by decide +kernel
theorem dL_saved_11 : decode cL_saved 11 = .ok (.istore_n 3, 1) := by decide +kernel
theorem dL_saved_12 : decode cL_saved 12 = .ok (.aload_n 0, 1) := by decide +kernel
theorem dL_saved_13 : decode cL_saved 13 = .ok (.iconst 3, 1) := by decide +kernel
theorem dL_saved_14 : decode cL_saved 14 = .ok (.invokevirtual 57, 3) := by decide +kernel
theorem dL_saved_17 : decode cL_saved 17 = .ok (.istore 4, 2) := by decide +kernel
theorem dL_saved_19 : decode cL_saved 19 = .ok (.aload_n 0, 1) := by decide +kernel
theorem dL_saved_20 : decode cL_saved 20 = .ok (.iload_n 2, 1) := by decide +kernel
theorem dL_saved_21 : decode cL_saved 21 = .ok (.iconst 1, 1) := by decide +kernel
theorem dL_saved_22 : decode cL_saved 22 = .ok (.isub, 1) := by decide +kernel
theorem dL_saved_23 : decode cL_saved 23 = .ok (.iconst 0, 1) := by decide +kernel
theorem dL_saved_24 : decode cL_saved 24 = .ok (.invokevirtual 107, 3) := by decide +kernel
theorem dL_saved_27 : decode cL_saved 27 = .ok (.lstore 5, 2) := by decide +kernel
theorem dL_saved_29 : decode cL_saved 29 = .ok (.aload_n 0, 1) := by decide +kernel
theorem dL_saved_30 : decode cL_saved 30 = .ok (.invokevirtual 177, 3) := by decide +kernel
theorem dL_saved_33 : decode cL_saved 33 = .ok (.istore 7, 2) := by decide +kernel
theorem dL_saved_35 : decode cL_saved 35 = .ok (.aload_n 0, 1) := by decide +kernel
theorem dL_saved_36 : decode cL_saved 36 = .ok (.invokevirtual 103, 3) := by decide +kernel
theorem dL_saved_39 : decode cL_saved 39 = .ok (.lstore 8, 2) := by decide +kernel
theorem dL_saved_41 : decode cL_saved 41 = .ok (.aload_n 0, 1) := by decide +kernel
theorem dL_saved_42 : decode cL_saved 42 = .ok (.iconst 1, 1) := by decide +kernel
theorem dL_saved_43 : decode cL_saved 43 = .ok (.iload_n 1, 1) := by decide +kernel
theorem dL_saved_44 : decode cL_saved 44 = .ok (.iadd, 1) := by decide +kernel
theorem dL_saved_45 : decode cL_saved 45 = .ok (.invokevirtual 79, 3) := by decide +kernel
theorem dL_saved_48 : decode cL_saved 48 = .ok (.pop, 1) := by decide +kernel
theorem dL_saved_49 : decode cL_saved 49 = .ok (.aload_n 0, 1) := by decide +kernel
theorem dL_saved_50 : decode cL_saved 50 = .ok (.bipush 7, 2) := by decide +kernel
theorem dL_saved_52 : decode cL_saved 52 = .ok (.bipush 7, 2) := by decide +kernel
theorem dL_saved_54 : decode cL_saved 54 = .ok (.invokevirtual 67, 3) := by decide +kernel
theorem dL_saved_57 : decode cL_saved 57 = .ok (.pop, 1) := by decide +kernel
theorem dL_saved_58 : decode cL_saved 58 = .ok (.aload_n 0, 1) := by decide +kernel
theorem dL_saved_59 : decode cL_saved 59 = .ok (.invokevirtual 82, 3) := by decide +kernel
theorem dL_saved_62 : decode cL_saved 62 = .ok (.pop, 1) := by decide +kernel
theorem dL_saved_63 : decode cL_saved 63 = .ok (.aload_n 0, 1) := by decide +kernel
theorem dL_saved_64 : decode cL_saved 64 = .ok (.iconst 0, 1) := by decide +kernel
theorem dL_saved_65 : decode cL_saved 65 = .ok (.iconst 4, 1) := by decide +kernel
theorem dL_saved_66 : decode cL_saved 66 = .ok (.invokevirtual 26, 3) := by decide +kernel
theorem dL_saved_69 : decode cL_saved 69 = .ok (.pop, 1) := by decide +kernel
theorem dL_saved_70 : decode cL_saved 70 = .ok (.aload_n 0, 1) := by decide +kernel
theorem dL_saved_71 : decode cL_saved 71 = .ok (.iconst 5, 1) := by decide +kernel
theorem dL_saved_72 : decode cL_saved 72 = .ok (.iconst 4, 1) := by decide +kernel
theorem dL_saved_73 : decode cL_saved 73 = .ok (.invokevirtual 62, 3) := by decide +kernel
theorem dL_saved_76 : decode cL_saved 76 = .ok (.pop, 1) := by decide +kernel
theorem dL_saved_77 : decode cL_saved 77 = .ok (.aload_n 0, 1) := by decide +kernel
theorem dL_saved_78 : decode cL_saved 78 = .ok (.iconst 1, 1) := by decide +kernel
theorem dL_saved_79 : decode cL_saved 79 = .ok (.invokevirtual 156, 3) := by decide +kernel
theorem dL_saved_82 : decode cL_saved 82 = .ok (.iload_n 2, 1) := by decide +kernel
theorem dL_saved_83 : decode cL_saved 83 = .ok (.if_icmp .ne 88, 3) := by decide +kernel
theorem dL_saved_86 : decode cL_saved 86 = .ok (.aload_n 0, 1) := by decide +kernel
theorem dL_saved_87 : decode cL_saved 87 = .ok (.iconst 0, 1) := by decide +kernel
theorem dL_saved_88 : decode cL_saved 88 = .ok (.invokevirtual 57, 3) := by decide +kernel
theorem dL_saved_91 : decode cL_saved 91 = .ok (.iload_n 3, 1) := by decide +kernel
theorem dL_saved_92 : decode cL_saved 92 = .ok (.if_icmp .ne 79, 3) := by decide +kernel
theorem dL_saved_95 : decode cL_saved 95 = .ok (.aload_n 0, 1) := by decide +kernel
theorem dL_saved_96 : decode cL_saved 96 = .ok (.iconst 1, 1) := by decide +kernel
theorem dL_saved_97 : decode cL_saved 97 = .ok (.invokevirtual 57, 3) := by decide +kernel
theorem dL_saved_100 : decode cL_saved 100 = .ok (.iload_n 2, 1) := by decide +kernel
theorem dL_saved_101 : decode cL_saved 101 = .ok (.if_icmp .ne 70, 3) := by decide +kernel
theorem dL_saved_104 : decode cL_saved 104 = .ok (.aload_n 0, 1) := by decide +kernel
theorem dL_saved_105 : decode cL_saved 105 = .ok (.iconst 3, 1) := by decide +kernel
theorem dL_saved_106 : decode cL_saved 106 = .ok (.invokevirtual 57, 3) := by decide +kernel
theorem dL_saved_109 : decode cL_saved 109 = .ok (.iload 4, 2) := by decide +kernel
theorem dL_saved_111 : decode cL_saved 111 = .ok (.if_icmp .ne 60, 3) := by decide +kernel
theorem dL_saved_114 : decode cL_saved 114 = .ok (.aload_n 0, 1) := by decide +kernel
theorem dL_saved_115 : decode cL_saved 115 = .ok (.iload_n 2, 1) := by decide +kernel
theorem dL_saved_116 : decode cL_saved 116 = .ok (.iconst 1, 1) := by decide +kernel
theorem dL_saved_117 : decode cL_saved 117 = .ok (.isub, 1) := by decide +kernel
theorem dL_saved_118 : decode cL_saved 118 = .ok (.iconst 0, 1) := by decide +kernel
theorem dL_saved_119 : decode cL_saved 119 = .ok (.invokevirtual 107, 3) := by decide +kernel
theorem dL_saved_122 : decode cL_saved 122 = .ok (.lload 5, 2) := by decide +kernel
theorem dL_saved_124 : decode cL_saved 124 = .ok (.lcmp, 1) := by decide +kernel
theorem dL_saved_125 : decode cL_saved 125 = .ok (.ifCond .ne 46, 3) := by decide +kernel
theorem dL_saved_128 : decode cL_saved 128 = .ok (.aload_n 0, 1) := by decide +kernel
theorem dL_saved_129 : decode cL_saved 129 = .ok (.iload_n 2, 1) := by decide +kernel
theorem dL_saved_130 : decode cL_saved 130 = .ok (.iconst 0, 1) := by decide +kernel
theorem dL_saved_131 : decode cL_saved 131 = .ok (.invokevirtual 107, 3) := by decide +kernel
theorem dL_saved_134 : decode cL_saved 134 = .ok (.ldc2_w 137, 3) := by decide +kernel
theorem dL_saved_137 : decode cL_saved 137 = .ok (.lcmp, 1) := by decide +kernel
theorem dL_saved_138 : decode cL_saved 138 = .ok (.ifCond .ne 33, 3) := by decide +kernel
theorem dL_saved_141 : decode cL_saved 141 = .ok (.aload_n 0, 1) := by decide +kernel
theorem dL_saved_142 : decode cL_saved 142 = .ok (.invokevirtual 177, 3) := by decide +kernel
theorem dL_saved_145 : decode cL_saved 145 = .ok (.iload 7, 2) := by decide +kernel
theorem dL_saved_147 : decode cL_saved 147 = .ok (.if_icmp .ne 24, 3) := by decide +kernel
theorem dL_saved_150 : decode cL_saved 150 = .ok (.aload_n 0, 1) := by decide +kernel
theorem dL_saved_151 : decode cL_saved 151 = .ok (.invokevirtual 103, 3) := by decide +kernel
theorem dL_saved_154 : decode cL_saved 154 = .ok (.lload 8, 2) := by decide +kernel
theorem dL_saved_156 : decode cL_saved 156 = .ok (.lcmp, 1) := by decide +kernel
theorem dL_saved_157 : decode cL_saved 157 = .ok (.ifCond .ne 14, 3) := by decide +kernel
theorem dL_saved_160 : decode cL_saved 160 = .ok (.iload 7, 2) := by decide +kernel
theorem dL_saved_162 : decode cL_saved 162 = .ok (.bipush 20, 2) := by decide +kernel
theorem dL_saved_164 : decode cL_saved 164 = .ok (.if_icmp .gt 7, 3) := by decide +kernel
theorem dL_saved_167 : decode cL_saved 167 = .ok (.iconst 1, 1) := by decide +kernel
theorem dL_saved_168 : decode cL_saved 168 = .ok (.goto 4, 3) := by decide +kernel
theorem dL_saved_171 : decode cL_saved 171 = .ok (.iconst 0, 1) := by decide +kernel
theorem dL_saved_172 : decode cL_saved 172 = .ok (.ireturn, 1) := by decide +kernel
theorem dL_refused_0 : decode cL_refused 0 = .ok (.iload_n 1, 1) := by decide +kernel
theorem dL_refused_1 : decode cL_refused 1 = .ok (.ifCond .ge 15, 3) := by decide +kernel
theorem dL_refused_4 : decode cL_refused 4 = .ok (.ldc 180, 2) := by decide +kernel
theorem dL_refused_6 : decode cL_refused 6 = .ok (.iload_n 1, 1) := by decide +kernel
theorem dL_refused_7 : decode cL_refused 7 = .ok (.ldc 140, 2) := by decide +kernel
theorem dL_refused_9 : decode cL_refused 9 = .ok (.invokestatic 22, 3) := by decide +kernel
theorem dL_refused_12 : decode cL_refused 12 = .ok (.isub, 1) := by decide +kernel
theorem dL_refused_13 : decode cL_refused 13 = .ok (.goto 10, 3) := by decide +kernel
theorem dL_refused_16 : decode cL_refused 16 = .ok (.iload_n 1, 1) := by decide +kernel
theorem dL_refused_17 : decode cL_refused 17 = .ok (.ldc 140, 2) := by decide +kernel
theorem dL_refused_19 : decode cL_refused 19 = .ok (.irem, 1) := by decide +kernel
theorem dL_refused_20 : decode cL_refused 20 = .ok (.ldc 181, 2) := by decide +kernel
theorem dL_refused_22 : decode cL_refused 22 = .ok (.iadd, 1) := by decide +kernel
theorem dL_refused_23 : decode cL_refused 23 = .ok (.istore_n 2, 1) := by decide +kernel
theorem dL_refused_24 : decode cL_refused 24 = .ok (.aload_n 0, 1) := by decide +kernel
theorem dL_refused_25 : decode cL_refused 25 = .ok (.iload_n 2, 1) := by decide +kernel
theorem dL_refused_26 : decode cL_refused 26 = .ok (.invokevirtual 96, 3) := by decide +kernel
theorem dL_refused_29 : decode cL_refused 29 = .ok (.bipush (-2), 2) := by decide +kernel
theorem dL_refused_31 : decode cL_refused 31 = .ok (.if_icmp .ne 340, 3) := by decide +kernel
theorem dL_refused_34 : decode cL_refused 34 = .ok (.aload_n 0, 1) := by decide +kernel
theorem dL_refused_35 : decode cL_refused 35 = .ok (.iload_n 2, 1) := by decide +kernel
theorem dL_refused_36 : decode cL_refused 36 = .ok (.bipush 100, 2) := by decide +kernel
theorem dL_refused_38 : decode cL_refused 38 = .ok (.invokevirtual 62, 3) := by decide +kernel
theorem dL_refused_41 : decode cL_refused 41 = .ok (.bipush (-2), 2) := by decide +kernel
theorem dL_refused_43 : decode cL_refused 43 = .ok (.if_icmp .ne 328, 3) := by decide +kernel
theorem dL_refused_46 : decode cL_refused 46 = .ok (.aload_n 0, 1) := by decide +kernel
theorem dL_refused_47 : decode cL_refused 47 = .ok (.iconst 0, 1) := by decide +kernel
theorem dL_refused_48 : decode cL_refused 48 = .ok (.iload_n 2, 1) := by decide +kernel
theorem dL_refused_49 : decode cL_refused 49 = .ok (.invokevirtual 62, 3) := by decide +kernel
theorem dL_refused_52 : decode cL_refused 52 = .ok (.bipush (-2), 2) := by decide +kernel
theorem dL_refused_54 : decode cL_refused 54 = .ok (.if_icmp .ne 317, 3) := by decide +kernel
theorem dL_refused_57 : decode cL_refused 57 = .ok (.aload_n 0, 1) := by decide +kernel
theorem dL_refused_58 : decode cL_refused 58 = .ok (.iload_n 2, 1) := by decide +kernel
theorem dL_refused_59 : decode cL_refused 59 = .ok (.iconst 0, 1) := by decide +kernel
theorem dL_refused_60 : decode cL_refused 60 = .ok (.invokevirtual 67, 3) := by decide +kernel
theorem dL_refused_63 : decode cL_refused 63 = .ok (.bipush (-2), 2) := by decide +kernel
theorem dL_refused_65 : decode cL_refused 65 = .ok (.if_icmp .ne 306, 3) := by decide +kernel
theorem dL_refused_68 : decode cL_refused 68 = .ok (.aload_n 0, 1) := by decide +kernel
theorem dL_refused_69 : decode cL_refused 69 = .ok (.iconst 0, 1) := by decide +kernel
theorem dL_refused_70 : decode cL_refused 70 = .ok (.iload_n 2, 1) := by decide +kernel
theorem dL_refused_71 : decode cL_refused 71 = .ok (.invokevirtual 67, 3) := by decide +kernel
theorem dL_refused_74 : decode cL_refused 74 = .ok (.bipush (-2), 2) := by decide +kernel
theorem dL_refused_76 : decode cL_refused 76 = .ok (.if_icmp .ne 295, 3) := by decide +kernel
theorem dL_refused_79 : decode cL_refused 79 = .ok (.aload_n 0, 1) := by decide +kernel
theorem dL_refused_80 : decode cL_refused 80 = .ok (.iload_n 2, 1) := by decide +kernel
theorem dL_refused_81 : decode cL_refused 81 = .ok (.iconst 0, 1) := by decide +kernel
theorem dL_refused_82 : decode cL_refused 82 = .ok (.invokevirtual 26, 3) := by decide +kernel
theorem dL_refused_85 : decode cL_refused 85 = .ok (.bipush (-2), 2) := by decide +kernel
theorem dL_refused_87 : decode cL_refused 87 = .ok (.if_icmp .ne 284, 3) := by decide +kernel
theorem dL_refused_90 : decode cL_refused 90 = .ok (.aload_n 0, 1) := by decide +kernel
theorem dL_refused_91 : decode cL_refused 91 = .ok (.iconst 0, 1) := by decide +kernel
theorem dL_refused_92 : decode cL_refused 92 = .ok (.iload_n 2, 1) := by decide +kernel
theorem dL_refused_93 : decode cL_refused 93 = .ok (.invokevirtual 26, 3) := by decide +kernel
theorem dL_refused_96 : decode cL_refused 96 = .ok (.bipush (-2), 2) := by decide +kernel
theorem dL_refused_98 : decode cL_refused 98 = .ok (.if_icmp .ne 273, 3) := by decide +kernel
theorem dL_refused_101 : decode cL_refused 101 = .ok (.aload_n 0, 1) := by decide +kernel
theorem dL_refused_102 : decode cL_refused 102 = .ok (.iload_n 2, 1) := by decide +kernel
theorem dL_refused_103 : decode cL_refused 103 = .ok (.invokevirtual 76, 3) := by decide +kernel
theorem dL_refused_106 : decode cL_refused 106 = .ok (.bipush (-2), 2) := by decide +kernel
theorem dL_refused_108 : decode cL_refused 108 = .ok (.if_icmp .ne 263, 3) := by decide +kernel
theorem dL_refused_111 : decode cL_refused 111 = .ok (.aload_n 0, 1) := by decide +kernel
theorem dL_refused_112 : decode cL_refused 112 = .ok (.iload_n 2, 1) := by decide +kernel
theorem dL_refused_113 : decode cL_refused 113 = .ok (.iconst 0, 1) := by decide +kernel
theorem dL_refused_114 : decode cL_refused 114 = .ok (.invokevirtual 72, 3) := by decide +kernel
theorem dL_refused_117 : decode cL_refused 117 = .ok (.ldc2_w 182, 3) := by decide +kernel
theorem dL_refused_120 : decode cL_refused 120 = .ok (.lcmp, 1) := by decide +kernel
theorem dL_refused_121 : decode cL_refused 121 = .ok (.ifCond .ne 250, 3) := by decide +kernel
theorem dL_refused_124 : decode cL_refused 124 = .ok (.aload_n 0, 1) := by decide +kernel
theorem dL_refused_125 : decode cL_refused 125 = .ok (.iconst 0, 1) := by decide +kernel
theorem dL_refused_126 : decode cL_refused 126 = .ok (.iload_n 2, 1) := by decide +kernel
theorem dL_refused_127 : decode cL_refused 127 = .ok (.invokevirtual 72, 3) := by decide +kernel
theorem dL_refused_130 : decode cL_refused 130 = .ok (.ldc2_w 182, 3) := by decide +kernel
theorem dL_refused_133 : decode cL_refused 133 = .ok (.lcmp, 1) := by decide +kernel
theorem dL_refused_134 : decode cL_refused 134 = .ok (.ifCond .ne 237, 3) := by decide +kernel
theorem dL_refused_137 : decode cL_refused 137 = .ok (.aload_n 0, 1) := by decide +kernel
theorem dL_refused_138 : decode cL_refused 138 = .ok (.iload_n 2, 1) := by decide +kernel
theorem dL_refused_139 : decode cL_refused 139 = .ok (.invokevirtual 79, 3) := by decide +kernel
theorem dL_refused_142 : decode cL_refused 142 = .ok (.bipush (-2), 2) := by decide +kernel
theorem dL_refused_144 : decode cL_refused 144 = .ok (.if_icmp .ne 227, 3) := by decide +kernel
theorem dL_refused_147 : decode cL_refused 147 = .ok (.aload_n 0, 1) := by decide +kernel
theorem dL_refused_148 : decode cL_refused 148 = .ok (.iload_n 2, 1) := by decide +kernel
theorem dL_refused_149 : decode cL_refused 149 = .ok (.iconst 0, 1) := by decide +kernel
theorem dL_refused_150 : decode cL_refused 150 = .ok (.invokevirtual 107, 3) := by decide +kernel
theorem dL_refused_153 : decode cL_refused 153 = .ok (.ldc2_w 137, 3) := by decide +kernel
theorem dL_refused_156 : decode cL_refused 156 = .ok (.lcmp, 1) := by decide +kernel
theorem dL_refused_157 : decode cL_refused 157 = .ok (.ifCond .ne 214, 3) := by decide +kernel
theorem dL_refused_160 : decode cL_refused 160 = .ok (.aload_n 0, 1) := by decide +kernel
theorem dL_refused_161 : decode cL_refused 161 = .ok (.iconst 0, 1) := by decide +kernel
theorem dL_refused_162 : decode cL_refused 162 = .ok (.iload_n 2, 1) := by decide +kernel
theorem dL_refused_163 : decode cL_refused 163 = .ok (.invokevirtual 107, 3) := by decide +kernel
theorem dL_refused_166 : decode cL_refused 166 = .ok (.ldc2_w 182, 3) := by decide +kernel
theorem dL_refused_169 : decode cL_refused 169 = .ok (.lcmp, 1) := by decide +kernel
theorem dL_refused_170 : decode cL_refused 170 = .ok (.ifCond .ne 201, 3) := by decide +kernel
theorem dL_refused_173 : decode cL_refused 173 = .ok (.aload_n 0, 1) := by decide +kernel
theorem dL_refused_174 : decode cL_refused 174 = .ok (.iload_n 2, 1) := by decide +kernel
theorem dL_refused_175 : decode cL_refused 175 = .ok (.invokevirtual 86, 3) := by decide +kernel
theorem dL_refused_178 : decode cL_refused 178 = .ok (.ldc2_w 182, 3) := by decide +kernel
theorem dL_refused_181 : decode cL_refused 181 = .ok (.lcmp, 1) := by decide +kernel
theorem dL_refused_182 : decode cL_refused 182 = .ok (.ifCond .ne 189, 3) := by decide +kernel
theorem dL_refused_185 : decode cL_refused 185 = .ok (.aload_n 0, 1) := by decide +kernel
theorem dL_refused_186 : decode cL_refused 186 = .ok (.iconst 0, 1) := by decide +kernel
theorem dL_refused_187 : decode cL_refused 187 = .ok (.iload_n 2, 1) := by decide +kernel
theorem dL_refused_188 : decode cL_refused 188 = .ok (.invokevirtual 134, 3) := by decide +kernel
theorem dL_refused_191 : decode cL_refused 191 = .ok (.ldc2_w 182, 3) := by decide +kernel
theorem dL_refused_194 : decode cL_refused 194 = .ok (.lcmp, 1) := by decide +kernel
theorem dL_refused_195 : decode cL_refused 195 = .ok (.ifCond .ne 176, 3) := by decide +kernel
theorem dL_refused_198 : decode cL_refused 198 = .ok (.aload_n 0, 1) := by decide +kernel
theorem dL_refused_199 : decode cL_refused 199 = .ok (.iload_n 2, 1) := by decide +kernel
theorem dL_refused_200 : decode cL_refused 200 = .ok (.invokevirtual 100, 3) := by decide +kernel
theorem dL_refused_203 : decode cL_refused 203 = .ok (.ldc2_w 182, 3) := by decide +kernel
theorem dL_refused_206 : decode cL_refused 206 = .ok (.lcmp, 1) := by decide +kernel
theorem dL_refused_207 : decode cL_refused 207 = .ok (.ifCond .ne 164, 3) := by decide +kernel
theorem dL_refused_210 : decode cL_refused 210 = .ok (.aload_n 0, 1) := by decide +kernel
theorem dL_refused_211 : decode cL_refused 211 = .ok (.iload_n 2, 1) := by decide +kernel
theorem dL_refused_212 : decode cL_refused 212 = .ok (.invokevirtual 149, 3) := by decide +kernel
theorem dL_refused_215 : decode cL_refused 215 = .ok (.ldc2_w 182, 3) := by decide +kernel
theorem dL_refused_218 : decode cL_refused 218 = .ok (.lcmp, 1) := by decide +kernel
theorem dL_refused_219 : decode cL_refused 219 = .ok (.ifCond .ne 152, 3) := by decide +kernel
theorem dL_refused_222 : decode cL_refused 222 = .ok (.aload_n 0, 1) := by decide +kernel
theorem dL_refused_223 : decode cL_refused 223 = .ok (.iload_n 2, 1) := by decide +kernel
theorem dL_refused_224 : decode cL_refused 224 = .ok (.iconst 1, 1) := by decide +kernel
theorem dL_refused_225 : decode cL_refused 225 = .ok (.iconst 1, 1) := by decide +kernel
theorem dL_refused_226 : decode cL_refused 226 = .ok (.invokevirtual 152, 3) := by decide +kernel
theorem dL_refused_229 : decode cL_refused 229 = .ok (.bipush (-2), 2) := by decide +kernel
theorem dL_refused_231 : decode cL_refused 231 = .ok (.if_icmp .ne 140, 3) := by decide +kernel
theorem dL_refused_234 : decode cL_refused 234 = .ok (.aload_n 0, 1) := by decide +kernel
theorem dL_refused_235 : decode cL_refused 235 = .ok (.iconst 4, 1) := by decide +kernel
theorem dL_refused_236 : decode cL_refused 236 = .ok (.iload_n 2, 1) := by decide +kernel
theorem dL_refused_237 : decode cL_refused 237 = .ok (.iconst 1, 1) := by decide +kernel
theorem dL_refused_238 : decode cL_refused 238 = .ok (.invokevirtual 152, 3) := by decide +kernel
theorem dL_refused_241 : decode cL_refused 241 = .ok (.bipush (-2), 2) := by decide +kernel
theorem dL_refused_243 : decode cL_refused 243 = .ok (.if_icmp .ne 128, 3) := by decide +kernel
theorem dL_refused_246 : decode cL_refused 246 = .ok (.aload_n 0, 1) := by decide +kernel
theorem dL_refused_247 : decode cL_refused 247 = .ok (.iconst 4, 1) := by decide +kernel
theorem dL_refused_248 : decode cL_refused 248 = .ok (.iconst 1, 1) := by decide +kernel
theorem dL_refused_249 : decode cL_refused 249 = .ok (.iload_n 2, 1) := by decide +kernel
theorem dL_refused_250 : decode cL_refused 250 = .ok (.invokevirtual 152, 3) := by decide +kernel
theorem dL_refused_253 : decode cL_refused 253 = .ok (.bipush (-2), 2) := by decide +kernel
theorem dL_refused_255 : decode cL_refused 255 = .ok (.if_icmp .ne 116, 3) := by decide +kernel
theorem dL_refused_258 : decode cL_refused 258 = .ok (.aload_n 0, 1) := by decide +kernel
theorem dL_refused_259 : decode cL_refused 259 = .ok (.iload_n 2, 1) := by decide +kernel
theorem dL_refused_260 : decode cL_refused 260 = .ok (.iconst 1, 1) := by decide +kernel
theorem dL_refused_261 : decode cL_refused 261 = .ok (.iconst 2, 1) := by decide +kernel
theorem dL_refused_262 : decode cL_refused 262 = .ok (.iconst 0, 1) := by decide +kernel
theorem dL_refused_263 : decode cL_refused 263 = .ok (.invokevirtual 141, 3) := by decide +kernel
theorem dL_refused_266 : decode cL_refused 266 = .ok (.bipush (-2), 2) := by decide +kernel
theorem dL_refused_268 : decode cL_refused 268 = .ok (.if_icmp .ne 103, 3) := by decide +kernel
theorem dL_refused_271 : decode cL_refused 271 = .ok (.aload_n 0, 1) := by decide +kernel
theorem dL_refused_272 : decode cL_refused 272 = .ok (.iconst 0, 1) := by decide +kernel
theorem dL_refused_273 : decode cL_refused 273 = .ok (.iload_n 2, 1) := by decide +kernel
theorem dL_refused_274 : decode cL_refused 274 = .ok (.iconst 2, 1) := by decide +kernel
theorem dL_refused_275 : decode cL_refused 275 = .ok (.iconst 0, 1) := by decide +kernel
theorem dL_refused_276 : decode cL_refused 276 = .ok (.invokevirtual 141, 3) := by decide +kernel
theorem dL_refused_279 : decode cL_refused 279 = .ok (.bipush (-2), 2) := by decide +kernel
theorem dL_refused_281 : decode cL_refused 281 = .ok (.if_icmp .ne 90, 3) := by decide +kernel
theorem dL_refused_284 : decode cL_refused 284 = .ok (.aload_n 0, 1) := by decide +kernel
theorem dL_refused_285 : decode cL_refused 285 = .ok (.iconst 0, 1) := by decide +kernel
theorem dL_refused_286 : decode cL_refused 286 = .ok (.iconst 1, 1) := by decide +kernel
theorem dL_refused_287 : decode cL_refused 287 = .ok (.iload_n 2, 1) := by decide +kernel
theorem dL_refused_288 : decode cL_refused 288 = .ok (.iconst 0, 1) := by decide +kernel
theorem dL_refused_289 : decode cL_refused 289 = .ok (.invokevirtual 141, 3) := by decide +kernel
theorem dL_refused_292 : decode cL_refused 292 = .ok (.bipush (-2), 2) := by decide +kernel
theorem dL_refused_294 : decode cL_refused 294 = .ok (.if_icmp .ne 77, 3) := by decide +kernel
theorem dL_refused_297 : decode cL_refused 297 = .ok (.aload_n 0, 1) := by decide +kernel
theorem dL_refused_298 : decode cL_refused 298 = .ok (.iconst 0, 1) := by decide +kernel
theorem dL_refused_299 : decode cL_refused 299 = .ok (.iconst 1, 1) := by decide +kernel
theorem dL_refused_300 : decode cL_refused 300 = .ok (.iconst 2, 1) := by decide +kernel
theorem dL_refused_301 : decode cL_refused 301 = .ok (.iload_n 2, 1) := by decide +kernel
theorem dL_refused_302 : decode cL_refused 302 = .ok (.invokevirtual 141, 3) := by decide +kernel
theorem dL_refused_305 : decode cL_refused 305 = .ok (.bipush (-2), 2) := by decide +kernel
theorem dL_refused_307 : decode cL_refused 307 = .ok (.if_icmp .ne 64, 3) := by decide +kernel
theorem dL_refused_310 : decode cL_refused 310 = .ok (.aload_n 0, 1) := by decide +kernel
theorem dL_refused_311 : decode cL_refused 311 = .ok (.iload_n 2, 1) := by decide +kernel
theorem dL_refused_312 : decode cL_refused 312 = .ok (.invokevirtual 168, 3) := by decide +kernel
theorem dL_refused_315 : decode cL_refused 315 = .ok (.bipush (-2), 2) := by decide +kernel
theorem dL_refused_317 : decode cL_refused 317 = .ok (.if_icmp .ne 54, 3) := by decide +kernel
theorem dL_refused_320 : decode cL_refused 320 = .ok (.aload_n 0, 1) := by decide +kernel
theorem dL_refused_321 : decode cL_refused 321 = .ok (.iload_n 2, 1) := by decide +kernel
theorem dL_refused_322 : decode cL_refused 322 = .ok (.invokevirtual 57, 3) := by decide +kernel
theorem dL_refused_325 : decode cL_refused 325 = .ok (.bipush (-2), 2) := by decide +kernel
theorem dL_refused_327 : decode cL_refused 327 = .ok (.if_icmp .ne 44, 3) := by decide +kernel
theorem dL_refused_330 : decode cL_refused 330 = .ok (.aload_n 0, 1) := by decide +kernel
theorem dL_refused_331 : decode cL_refused 331 = .ok (.iload_n 2, 1) := by decide +kernel
theorem dL_refused_332 : decode cL_refused 332 = .ok (.invokevirtual 145, 3) := by decide +kernel
theorem dL_refused_335 : decode cL_refused 335 = .ok (.bipush (-2), 2) := by decide +kernel
theorem dL_refused_337 : decode cL_refused 337 = .ok (.if_icmp .ne 34, 3) := by decide +kernel
theorem dL_refused_340 : decode cL_refused 340 = .ok (.aload_n 0, 1) := by decide +kernel
theorem dL_refused_341 : decode cL_refused 341 = .ok (.iload_n 2, 1) := by decide +kernel
theorem dL_refused_342 : decode cL_refused 342 = .ok (.invokevirtual 156, 3) := by decide +kernel
theorem dL_refused_345 : decode cL_refused 345 = .ok (.bipush (-2), 2) := by decide +kernel
theorem dL_refused_347 : decode cL_refused 347 = .ok (.if_icmp .ne 24, 3) := by decide +kernel
theorem dL_refused_350 : decode cL_refused 350 = .ok (.aload_n 0, 1) := by decide +kernel
theorem dL_refused_351 : decode cL_refused 351 = .ok (.invokevirtual 174, 3) := by decide +kernel
theorem dL_refused_354 : decode cL_refused 354 = .ok (.bipush (-3), 2) := by decide +kernel
theorem dL_refused_356 : decode cL_refused 356 = .ok (.if_icmp .ne 15, 3) := by decide +kernel
theorem dL_refused_359 : decode cL_refused 359 = .ok (.aload_n 0, 1) := by decide +kernel
theorem dL_refused_360 : decode cL_refused 360 = .ok (.iconst 0, 1) := by decide +kernel
theorem dL_refused_361 : decode cL_refused 361 = .ok (.invokevirtual 57, 3) := by decide +kernel
theorem dL_refused_364 : decode cL_refused 364 = .ok (.ifCond .ne 7, 3) := by decide +kernel
theorem dL_refused_367 : decode cL_refused 367 = .ok (.iconst 1, 1) := by decide +kernel
theorem dL_refused_368 : decode cL_refused 368 = .ok (.goto 4, 3) := by decide +kernel
theorem dL_refused_371 : decode cL_refused 371 = .ok (.iconst 0, 1) := by decide +kernel
theorem dL_refused_372 : decode cL_refused 372 = .ok (.ireturn, 1) := by decide +kernel
/-! END decode -/
