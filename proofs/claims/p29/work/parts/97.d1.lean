theorem dL_hangs_0 : decode cL_hangs 0 = .ok (.aload_n 0, 1) := by decide +kernel
theorem dL_hangs_1 : decode cL_hangs 1 = .ok (.iconst 0, 1) := by decide +kernel
theorem dL_hangs_2 : decode cL_hangs 2 = .ok (.invokestatic 102, 3) := by decide +kernel
theorem dL_hangs_5 : decode cL_hangs 5 = .ok (.istore_n 1, 1) := by decide +kernel
theorem dL_hangs_6 : decode cL_hangs 6 = .ok (.aload_n 0, 1) := by decide +kernel
theorem dL_hangs_7 : decode cL_hangs 7 = .ok (.iconst 3, 1) := by decide +kernel
theorem dL_hangs_8 : decode cL_hangs 8 = .ok (.invokestatic 102, 3) := by decide +kernel
theorem dL_hangs_11 : decode cL_hangs 11 = .ok (.istore_n 2, 1) := by decide +kernel
theorem dL_hangs_12 : decode cL_hangs 12 = .ok (.aload_n 0, 1) := by decide +kernel
theorem dL_hangs_13 : decode cL_hangs 13 = .ok (.iconst 4, 1) := by decide +kernel
theorem dL_hangs_14 : decode cL_hangs 14 = .ok (.invokestatic 102, 3) := by decide +kernel
theorem dL_hangs_17 : decode cL_hangs 17 = .ok (.istore_n 3, 1) := by decide +kernel
theorem dL_hangs_18 : decode cL_hangs 18 = .ok (.iconst 0, 1) := by decide +kernel
theorem dL_hangs_19 : decode cL_hangs 19 = .ok (.istore 4, 2) := by decide +kernel
theorem dL_hangs_21 : decode cL_hangs 21 = .ok (.iconst 0, 1) := by decide +kernel
theorem dL_hangs_22 : decode cL_hangs 22 = .ok (.istore 5, 2) := by decide +kernel
theorem dL_hangs_24 : decode cL_hangs 24 = .ok (.iconst 0, 1) := by decide +kernel
theorem dL_hangs_25 : decode cL_hangs 25 = .ok (.istore 6, 2) := by decide +kernel
theorem dL_hangs_27 : decode cL_hangs 27 = .ok (.aload_n 0, 1) := by decide +kernel
theorem dL_hangs_28 : decode cL_hangs 28 = .ok (.iload_n 1, 1) := by decide +kernel
theorem dL_hangs_29 : decode cL_hangs 29 = .ok (.iconst 0, 1) := by decide +kernel
theorem dL_hangs_30 : decode cL_hangs 30 = .ok (.invokestatic 106, 3) := by decide +kernel
theorem dL_hangs_33 : decode cL_hangs 33 = .ok (.ldc 17, 2) := by decide +kernel
theorem dL_hangs_35 : decode cL_hangs 35 = .ok (.if_icmp .ne 55, 3) := by decide +kernel
theorem dL_hangs_38 : decode cL_hangs 38 = .ok (.iload_n 2, 1) := by decide +kernel
theorem dL_hangs_39 : decode cL_hangs 39 = .ok (.ifCond .ne 7, 3) := by decide +kernel
theorem dL_hangs_42 : decode cL_hangs 42 = .ok (.iconst 1, 1) := by decide +kernel
theorem dL_hangs_43 : decode cL_hangs 43 = .ok (.goto 4, 3) := by decide +kernel
theorem dL_hangs_46 : decode cL_hangs 46 = .ok (.iconst 0, 1) := by decide +kernel
theorem dL_hangs_47 : decode cL_hangs 47 = .ok (.iload_n 3, 1) := by decide +kernel
theorem dL_hangs_48 : decode cL_hangs 48 = .ok (.iconst (-1), 1) := by decide +kernel
theorem dL_hangs_49 : decode cL_hangs 49 = .ok (.if_icmp .ne 7, 3) := by decide +kernel
theorem dL_hangs_52 : decode cL_hangs 52 = .ok (.iconst 1, 1) := by decide +kernel
theorem dL_hangs_53 : decode cL_hangs 53 = .ok (.goto 4, 3) := by decide +kernel
theorem dL_hangs_56 : decode cL_hangs 56 = .ok (.iconst 0, 1) := by decide +kernel
theorem dL_hangs_57 : decode cL_hangs 57 = .ok (.if_icmp .ne 33, 3) := by decide +kernel
theorem dL_hangs_60 : decode cL_hangs 60 = .ok (.iload_n 2, 1) := by decide +kernel
theorem dL_hangs_61 : decode cL_hangs 61 = .ok (.ifCond .ne 7, 3) := by decide +kernel
theorem dL_hangs_64 : decode cL_hangs 64 = .ok (.iconst 1, 1) := by decide +kernel
theorem dL_hangs_65 : decode cL_hangs 65 = .ok (.goto 4, 3) := by decide +kernel
theorem dL_hangs_68 : decode cL_hangs 68 = .ok (.iconst 0, 1) := by decide +kernel
theorem dL_hangs_69 : decode cL_hangs 69 = .ok (.aload_n 0, 1) := by decide +kernel
theorem dL_hangs_70 : decode cL_hangs 70 = .ok (.iconst 5, 1) := by decide +kernel
theorem dL_hangs_71 : decode cL_hangs 71 = .ok (.invokestatic 102, 3) := by decide +kernel
theorem dL_hangs_74 : decode cL_hangs 74 = .ok (.iconst (-1), 1) := by decide +kernel
theorem dL_hangs_75 : decode cL_hangs 75 = .ok (.if_icmp .ne 7, 3) := by decide +kernel
theorem dL_hangs_78 : decode cL_hangs 78 = .ok (.iconst 1, 1) := by decide +kernel
theorem dL_hangs_79 : decode cL_hangs 79 = .ok (.goto 4, 3) := by decide +kernel
theorem dL_hangs_82 : decode cL_hangs 82 = .ok (.iconst 0, 1) := by decide +kernel
theorem dL_hangs_83 : decode cL_hangs 83 = .ok (.if_icmp .ne 7, 3) := by decide +kernel
theorem dL_hangs_86 : decode cL_hangs 86 = .ok (.iconst 1, 1) := by decide +kernel
theorem dL_hangs_87 : decode cL_hangs 87 = .ok (.goto 4, 3) := by decide +kernel
theorem dL_hangs_90 : decode cL_hangs 90 = .ok (.iconst 0, 1) := by decide +kernel
theorem dL_hangs_91 : decode cL_hangs 91 = .ok (.istore 7, 2) := by decide +kernel
theorem dL_hangs_93 : decode cL_hangs 93 = .ok (.iconst 0, 1) := by decide +kernel
theorem dL_hangs_94 : decode cL_hangs 94 = .ok (.istore 8, 2) := by decide +kernel
theorem dL_hangs_96 : decode cL_hangs 96 = .ok (.iload 8, 2) := by decide +kernel
theorem dL_hangs_98 : decode cL_hangs 98 = .ok (.iload_n 1, 1) := by decide +kernel
theorem dL_hangs_99 : decode cL_hangs 99 = .ok (.if_icmp .ge 263, 3) := by decide +kernel
theorem dL_hangs_102 : decode cL_hangs 102 = .ok (.iload 7, 2) := by decide +kernel
theorem dL_hangs_104 : decode cL_hangs 104 = .ok (.ifCond .eq 258, 3) := by decide +kernel
theorem dL_hangs_107 : decode cL_hangs 107 = .ok (.aload_n 0, 1) := by decide +kernel
theorem dL_hangs_108 : decode cL_hangs 108 = .ok (.iload 8, 2) := by decide +kernel
theorem dL_hangs_110 : decode cL_hangs 110 = .ok (.iconst 2, 1) := by decide +kernel
theorem dL_hangs_111 : decode cL_hangs 111 = .ok (.invokestatic 106, 3) := by decide +kernel
theorem dL_hangs_114 : decode cL_hangs 114 = .ok (.istore 9, 2) := by decide +kernel
theorem dL_hangs_116 : decode cL_hangs 116 = .ok (.aload_n 0, 1) := by decide +kernel
theorem dL_hangs_117 : decode cL_hangs 117 = .ok (.iload 8, 2) := by decide +kernel
theorem dL_hangs_119 : decode cL_hangs 119 = .ok (.iconst 0, 1) := by decide +kernel
theorem dL_hangs_120 : decode cL_hangs 120 = .ok (.invokestatic 106, 3) := by decide +kernel
theorem dL_hangs_123 : decode cL_hangs 123 = .ok (.istore 10, 2) := by decide +kernel
theorem dL_hangs_125 : decode cL_hangs 125 = .ok (.aload_n 0, 1) := by decide +kernel
theorem dL_hangs_126 : decode cL_hangs 126 = .ok (.iload 8, 2) := by decide +kernel
theorem dL_hangs_128 : decode cL_hangs 128 = .ok (.iconst 1, 1) := by decide +kernel
theorem dL_hangs_129 : decode cL_hangs 129 = .ok (.invokestatic 106, 3) := by decide +kernel
theorem dL_hangs_132 : decode cL_hangs 132 = .ok (.istore 11, 2) := by decide +kernel
theorem dL_hangs_134 : decode cL_hangs 134 = .ok (.iload 10, 2) := by decide +kernel
theorem dL_hangs_136 : decode cL_hangs 136 = .ok (.iconst 1, 1) := by decide +kernel
theorem dL_hangs_137 : decode cL_hangs 137 = .ok (.if_icmp .eq 8, 3) := by decide +kernel
theorem dL_hangs_140 : decode cL_hangs 140 = .ok (.iload 9, 2) := by decide +kernel
theorem dL_hangs_142 : decode cL_hangs 142 = .ok (.ifCond .ne 34, 3) := by decide +kernel
theorem dL_hangs_145 : decode cL_hangs 145 = .ok (.iload 5, 2) := by decide +kernel
theorem dL_hangs_147 : decode cL_hangs 147 = .ok (.iload 9, 2) := by decide +kernel
theorem dL_hangs_149 : decode cL_hangs 149 = .ok (.iand, 1) := by decide +kernel
theorem dL_hangs_150 : decode cL_hangs 150 = .ok (.ifCond .ne 26, 3) := by decide +kernel
theorem dL_hangs_153 : decode cL_hangs 153 = .ok (.iload 11, 2) := by decide +kernel
theorem dL_hangs_155 : decode cL_hangs 155 = .ok (.iload 8, 2) := by decide +kernel
theorem dL_hangs_157 : decode cL_hangs 157 = .ok (.if_icmp .eq 19, 3) := by decide +kernel
theorem dL_hangs_160 : decode cL_hangs 160 = .ok (.iload 11, 2) := by decide +kernel
theorem dL_hangs_162 : decode cL_hangs 162 = .ok (.iload_n 1, 1) := by decide +kernel
theorem dL_hangs_163 : decode cL_hangs 163 = .ok (.if_icmp .ge 13, 3) := by decide +kernel
theorem dL_hangs_166 : decode cL_hangs 166 = .ok (.iload 11, 2) := by decide +kernel
theorem dL_hangs_168 : decode cL_hangs 168 = .ok (.iconst (-1), 1) := by decide +kernel
theorem dL_hangs_169 : decode cL_hangs 169 = .ok (.if_icmp .lt 7, 3) := by decide +kernel
theorem dL_hangs_172 : decode cL_hangs 172 = .ok (.iconst 1, 1) := by decide +kernel
theorem dL_hangs_173 : decode cL_hangs 173 = .ok (.goto 4, 3) := by decide +kernel
theorem dL_hangs_176 : decode cL_hangs 176 = .ok (.iconst 0, 1) := by decide +kernel
theorem dL_hangs_177 : decode cL_hangs 177 = .ok (.istore 7, 2) := by decide +kernel
theorem dL_hangs_179 : decode cL_hangs 179 = .ok (.iconst 0, 1) := by decide +kernel
theorem dL_hangs_180 : decode cL_hangs 180 = .ok (.istore 12, 2) := by decide +kernel
theorem dL_hangs_182 : decode cL_hangs 182 = .ok (.iload 12, 2) := by decide +kernel
theorem dL_hangs_184 : decode cL_hangs 184 = .ok (.bipush 8, 2) := by decide +kernel
theorem dL_hangs_186 : decode cL_hangs 186 = .ok (.if_icmp .ge 57, 3) := by decide +kernel
theorem dL_hangs_189 : decode cL_hangs 189 = .ok (.iload 7, 2) := by decide +kernel
theorem dL_hangs_191 : decode cL_hangs 191 = .ok (.ifCond .eq 52, 3) := by decide +kernel
theorem dL_hangs_194 : decode cL_hangs 194 = .ok (.aload_n 0, 1) := by decide +kernel
theorem dL_hangs_195 : decode cL_hangs 195 = .ok (.iload 12, 2) := by decide +kernel
theorem dL_hangs_197 : decode cL_hangs 197 = .ok (.iconst 1, 1) := by decide +kernel
theorem dL_hangs_198 : decode cL_hangs 198 = .ok (.invokestatic 108, 3) := by decide +kernel
theorem dL_hangs_201 : decode cL_hangs 201 = .ok (.iload 8, 2) := by decide +kernel
theorem dL_hangs_203 : decode cL_hangs 203 = .ok (.if_icmp .ne 7, 3) := by decide +kernel
theorem dL_hangs_206 : decode cL_hangs 206 = .ok (.iconst 1, 1) := by decide +kernel
theorem dL_hangs_207 : decode cL_hangs 207 = .ok (.goto 4, 3) := by decide +kernel
theorem dL_hangs_210 : decode cL_hangs 210 = .ok (.iconst 0, 1) := by decide +kernel
theorem dL_hangs_211 : decode cL_hangs 211 = .ok (.iload 9, 2) := by decide +kernel
theorem dL_hangs_213 : decode cL_hangs 213 = .ok (.iload 12, 2) := by decide +kernel
theorem dL_hangs_215 : decode cL_hangs 215 = .ok (.ishr, 1) := by decide +kernel
theorem dL_hangs_216 : decode cL_hangs 216 = .ok (.iconst 1, 1) := by decide +kernel
theorem dL_hangs_217 : decode cL_hangs 217 = .ok (.iand, 1) := by decide +kernel
theorem dL_hangs_218 : decode cL_hangs 218 = .ok (.iconst 1, 1) := by decide +kernel
theorem dL_hangs_219 : decode cL_hangs 219 = .ok (.if_icmp .ne 7, 3) := by decide +kernel
theorem dL_hangs_222 : decode cL_hangs 222 = .ok (.iconst 1, 1) := by decide +kernel
theorem dL_hangs_223 : decode cL_hangs 223 = .ok (.goto 4, 3) := by decide +kernel
theorem dL_hangs_226 : decode cL_hangs 226 = .ok (.iconst 0, 1) := by decide +kernel
theorem dL_hangs_227 : decode cL_hangs 227 = .ok (.if_icmp .ne 7, 3) := by decide +kernel
theorem dL_hangs_230 : decode cL_hangs 230 = .ok (.iconst 1, 1) := by decide +kernel
theorem dL_hangs_231 : decode cL_hangs 231 = .ok (.goto 4, 3) := by decide +kernel
theorem dL_hangs_234 : decode cL_hangs 234 = .ok (.iconst 0, 1) := by decide +kernel
