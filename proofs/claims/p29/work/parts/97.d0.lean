theorem dL_bits_0 : decode cL_bits 0 = .ok (.iconst 0, 1) := by decide +kernel
theorem dL_bits_1 : decode cL_bits 1 = .ok (.istore_n 1, 1) := by decide +kernel
theorem dL_bits_2 : decode cL_bits 2 = .ok (.iconst 0, 1) := by decide +kernel
theorem dL_bits_3 : decode cL_bits 3 = .ok (.istore_n 2, 1) := by decide +kernel
theorem dL_bits_4 : decode cL_bits 4 = .ok (.iload_n 2, 1) := by decide +kernel
theorem dL_bits_5 : decode cL_bits 5 = .ok (.bipush 8, 2) := by decide +kernel
theorem dL_bits_7 : decode cL_bits 7 = .ok (.if_icmp .ge 17, 3) := by decide +kernel
theorem dL_bits_10 : decode cL_bits 10 = .ok (.iload_n 1, 1) := by decide +kernel
theorem dL_bits_11 : decode cL_bits 11 = .ok (.iload_n 0, 1) := by decide +kernel
theorem dL_bits_12 : decode cL_bits 12 = .ok (.iload_n 2, 1) := by decide +kernel
theorem dL_bits_13 : decode cL_bits 13 = .ok (.ishr, 1) := by decide +kernel
theorem dL_bits_14 : decode cL_bits 14 = .ok (.iconst 1, 1) := by decide +kernel
theorem dL_bits_15 : decode cL_bits 15 = .ok (.iand, 1) := by decide +kernel
theorem dL_bits_16 : decode cL_bits 16 = .ok (.iadd, 1) := by decide +kernel
theorem dL_bits_17 : decode cL_bits 17 = .ok (.istore_n 1, 1) := by decide +kernel
theorem dL_bits_18 : decode cL_bits 18 = .ok (.iinc 2 1, 3) := by decide +kernel
theorem dL_bits_21 : decode cL_bits 21 = .ok (.goto (-17), 3) := by decide +kernel
theorem dL_bits_24 : decode cL_bits 24 = .ok (.iload_n 1, 1) := by decide +kernel
theorem dL_bits_25 : decode cL_bits 25 = .ok (.ireturn, 1) := by decide +kernel
theorem dL_cell_0 : decode cL_cell 0 = .ok (.iload_n 1, 1) := by decide +kernel
theorem dL_cell_1 : decode cL_cell 1 = .ok (.aload_n 0, 1) := by decide +kernel
theorem dL_cell_2 : decode cL_cell 2 = .ok (.arraylength, 1) := by decide +kernel
theorem dL_cell_3 : decode cL_cell 3 = .ok (.if_icmp .ge 9, 3) := by decide +kernel
theorem dL_cell_6 : decode cL_cell 6 = .ok (.aload_n 0, 1) := by decide +kernel
theorem dL_cell_7 : decode cL_cell 7 = .ok (.iload_n 1, 1) := by decide +kernel
theorem dL_cell_8 : decode cL_cell 8 = .ok (.iaload, 1) := by decide +kernel
theorem dL_cell_9 : decode cL_cell 9 = .ok (.goto 15, 3) := by decide +kernel
theorem dL_cell_12 : decode cL_cell 12 = .ok (.ldc 7, 2) := by decide +kernel
theorem dL_cell_14 : decode cL_cell 14 = .ok (.iload_n 1, 1) := by decide +kernel
theorem dL_cell_15 : decode cL_cell 15 = .ok (.sipush 4096, 3) := by decide +kernel
theorem dL_cell_18 : decode cL_cell 18 = .ok (.irem, 1) := by decide +kernel
theorem dL_cell_19 : decode cL_cell 19 = .ok (.imul, 1) := by decide +kernel
theorem dL_cell_20 : decode cL_cell 20 = .ok (.sipush 211, 3) := by decide +kernel
theorem dL_cell_23 : decode cL_cell 23 = .ok (.iadd, 1) := by decide +kernel
theorem dL_cell_24 : decode cL_cell 24 = .ok (.ldc 8, 2) := by decide +kernel
theorem dL_cell_26 : decode cL_cell 26 = .ok (.iand, 1) := by decide +kernel
theorem dL_cell_27 : decode cL_cell 27 = .ok (.ireturn, 1) := by decide +kernel
theorem dL_lowest_0 : decode cL_lowest 0 = .ok (.iconst 0, 1) := by decide +kernel
theorem dL_lowest_1 : decode cL_lowest 1 = .ok (.istore_n 1, 1) := by decide +kernel
theorem dL_lowest_2 : decode cL_lowest 2 = .ok (.iload_n 0, 1) := by decide +kernel
theorem dL_lowest_3 : decode cL_lowest 3 = .ok (.iload_n 1, 1) := by decide +kernel
theorem dL_lowest_4 : decode cL_lowest 4 = .ok (.ishr, 1) := by decide +kernel
theorem dL_lowest_5 : decode cL_lowest 5 = .ok (.iconst 1, 1) := by decide +kernel
theorem dL_lowest_6 : decode cL_lowest 6 = .ok (.iand, 1) := by decide +kernel
theorem dL_lowest_7 : decode cL_lowest 7 = .ok (.ifCond .ne 9, 3) := by decide +kernel
theorem dL_lowest_10 : decode cL_lowest 10 = .ok (.iinc 1 1, 3) := by decide +kernel
theorem dL_lowest_13 : decode cL_lowest 13 = .ok (.goto (-11), 3) := by decide +kernel
theorem dL_lowest_16 : decode cL_lowest 16 = .ok (.iload_n 1, 1) := by decide +kernel
theorem dL_lowest_17 : decode cL_lowest 17 = .ok (.ireturn, 1) := by decide +kernel
theorem dL_acts_0 : decode cL_acts 0 = .ok (.iload_n 1, 1) := by decide +kernel
theorem dL_acts_1 : decode cL_acts 1 = .ok (.bipush 16, 2) := by decide +kernel
theorem dL_acts_3 : decode cL_acts 3 = .ok (.idiv, 1) := by decide +kernel
theorem dL_acts_4 : decode cL_acts 4 = .ok (.istore_n 2, 1) := by decide +kernel
theorem dL_acts_5 : decode cL_acts 5 = .ok (.iload_n 1, 1) := by decide +kernel
theorem dL_acts_6 : decode cL_acts 6 = .ok (.bipush 16, 2) := by decide +kernel
theorem dL_acts_8 : decode cL_acts 8 = .ok (.irem, 1) := by decide +kernel
theorem dL_acts_9 : decode cL_acts 9 = .ok (.tableswitch 173 0 12 #[67, 72, 72, 81, 81, 81, 99, 99, 115, 115, 141, 146, 163], 67) := by decide +kernel
theorem dL_acts_76 : decode cL_acts 76 = .ok (.aload_n 0, 1) := by decide +kernel
theorem dL_acts_77 : decode cL_acts 77 = .ok (.invokestatic 80, 3) := by decide +kernel
theorem dL_acts_80 : decode cL_acts 80 = .ok (.ireturn, 1) := by decide +kernel
theorem dL_acts_81 : decode cL_acts 81 = .ok (.aload_n 0, 1) := by decide +kernel
theorem dL_acts_82 : decode cL_acts 82 = .ok (.iload_n 2, 1) := by decide +kernel
theorem dL_acts_83 : decode cL_acts 83 = .ok (.bipush 9, 2) := by decide +kernel
theorem dL_acts_85 : decode cL_acts 85 = .ok (.irem, 1) := by decide +kernel
theorem dL_acts_86 : decode cL_acts 86 = .ok (.invokestatic 85, 3) := by decide +kernel
theorem dL_acts_89 : decode cL_acts 89 = .ok (.ireturn, 1) := by decide +kernel
theorem dL_acts_90 : decode cL_acts 90 = .ok (.aload_n 0, 1) := by decide +kernel
theorem dL_acts_91 : decode cL_acts 91 = .ok (.iload_n 2, 1) := by decide +kernel
theorem dL_acts_92 : decode cL_acts 92 = .ok (.bipush 8, 2) := by decide +kernel
theorem dL_acts_94 : decode cL_acts 94 = .ok (.irem, 1) := by decide +kernel
theorem dL_acts_95 : decode cL_acts 95 = .ok (.iload_n 2, 1) := by decide +kernel
theorem dL_acts_96 : decode cL_acts 96 = .ok (.bipush 8, 2) := by decide +kernel
theorem dL_acts_98 : decode cL_acts 98 = .ok (.idiv, 1) := by decide +kernel
theorem dL_acts_99 : decode cL_acts 99 = .ok (.bipush 9, 2) := by decide +kernel
theorem dL_acts_101 : decode cL_acts 101 = .ok (.irem, 1) := by decide +kernel
theorem dL_acts_102 : decode cL_acts 102 = .ok (.iconst 1, 1) := by decide +kernel
theorem dL_acts_103 : decode cL_acts 103 = .ok (.isub, 1) := by decide +kernel
theorem dL_acts_104 : decode cL_acts 104 = .ok (.invokestatic 88, 3) := by decide +kernel
theorem dL_acts_107 : decode cL_acts 107 = .ok (.ireturn, 1) := by decide +kernel
theorem dL_acts_108 : decode cL_acts 108 = .ok (.aload_n 0, 1) := by decide +kernel
theorem dL_acts_109 : decode cL_acts 109 = .ok (.iload_n 2, 1) := by decide +kernel
theorem dL_acts_110 : decode cL_acts 110 = .ok (.bipush 8, 2) := by decide +kernel
theorem dL_acts_112 : decode cL_acts 112 = .ok (.irem, 1) := by decide +kernel
theorem dL_acts_113 : decode cL_acts 113 = .ok (.iload_n 2, 1) := by decide +kernel
theorem dL_acts_114 : decode cL_acts 114 = .ok (.bipush 8, 2) := by decide +kernel
theorem dL_acts_116 : decode cL_acts 116 = .ok (.idiv, 1) := by decide +kernel
theorem dL_acts_117 : decode cL_acts 117 = .ok (.bipush 8, 2) := by decide +kernel
theorem dL_acts_119 : decode cL_acts 119 = .ok (.irem, 1) := by decide +kernel
theorem dL_acts_120 : decode cL_acts 120 = .ok (.invokestatic 91, 3) := by decide +kernel
theorem dL_acts_123 : decode cL_acts 123 = .ok (.ireturn, 1) := by decide +kernel
theorem dL_acts_124 : decode cL_acts 124 = .ok (.aload_n 0, 1) := by decide +kernel
theorem dL_acts_125 : decode cL_acts 125 = .ok (.iload_n 2, 1) := by decide +kernel
theorem dL_acts_126 : decode cL_acts 126 = .ok (.sipush 251, 3) := by decide +kernel
theorem dL_acts_129 : decode cL_acts 129 = .ok (.irem, 1) := by decide +kernel
theorem dL_acts_130 : decode cL_acts 130 = .ok (.iconst 1, 1) := by decide +kernel
theorem dL_acts_131 : decode cL_acts 131 = .ok (.iload_n 2, 1) := by decide +kernel
theorem dL_acts_132 : decode cL_acts 132 = .ok (.sipush 256, 3) := by decide +kernel
theorem dL_acts_135 : decode cL_acts 135 = .ok (.idiv, 1) := by decide +kernel
theorem dL_acts_136 : decode cL_acts 136 = .ok (.iconst 5, 1) := by decide +kernel
theorem dL_acts_137 : decode cL_acts 137 = .ok (.irem, 1) := by decide +kernel
theorem dL_acts_138 : decode cL_acts 138 = .ok (.iadd, 1) := by decide +kernel
theorem dL_acts_139 : decode cL_acts 139 = .ok (.iload_n 2, 1) := by decide +kernel
theorem dL_acts_140 : decode cL_acts 140 = .ok (.sipush 2048, 3) := by decide +kernel
theorem dL_acts_143 : decode cL_acts 143 = .ok (.idiv, 1) := by decide +kernel
theorem dL_acts_144 : decode cL_acts 144 = .ok (.iconst 4, 1) := by decide +kernel
theorem dL_acts_145 : decode cL_acts 145 = .ok (.irem, 1) := by decide +kernel
theorem dL_acts_146 : decode cL_acts 146 = .ok (.invokestatic 93, 3) := by decide +kernel
theorem dL_acts_149 : decode cL_acts 149 = .ok (.ireturn, 1) := by decide +kernel
theorem dL_acts_150 : decode cL_acts 150 = .ok (.aload_n 0, 1) := by decide +kernel
theorem dL_acts_151 : decode cL_acts 151 = .ok (.invokestatic 96, 3) := by decide +kernel
theorem dL_acts_154 : decode cL_acts 154 = .ok (.ireturn, 1) := by decide +kernel
theorem dL_acts_155 : decode cL_acts 155 = .ok (.aload_n 0, 1) := by decide +kernel
theorem dL_acts_156 : decode cL_acts 156 = .ok (.iload_n 2, 1) := by decide +kernel
theorem dL_acts_157 : decode cL_acts 157 = .ok (.bipush 8, 2) := by decide +kernel
theorem dL_acts_159 : decode cL_acts 159 = .ok (.irem, 1) := by decide +kernel
theorem dL_acts_160 : decode cL_acts 160 = .ok (.iload_n 2, 1) := by decide +kernel
theorem dL_acts_161 : decode cL_acts 161 = .ok (.bipush 8, 2) := by decide +kernel
theorem dL_acts_163 : decode cL_acts 163 = .ok (.idiv, 1) := by decide +kernel
theorem dL_acts_164 : decode cL_acts 164 = .ok (.sipush 251, 3) := by decide +kernel
theorem dL_acts_167 : decode cL_acts 167 = .ok (.irem, 1) := by decide +kernel
theorem dL_acts_168 : decode cL_acts 168 = .ok (.invokestatic 98, 3) := by decide +kernel
theorem dL_acts_171 : decode cL_acts 171 = .ok (.ireturn, 1) := by decide +kernel
theorem dL_acts_172 : decode cL_acts 172 = .ok (.aload_n 0, 1) := by decide +kernel
theorem dL_acts_173 : decode cL_acts 173 = .ok (.iconst 1, 1) := by decide +kernel
theorem dL_acts_174 : decode cL_acts 174 = .ok (.iload_n 2, 1) := by decide +kernel
theorem dL_acts_175 : decode cL_acts 175 = .ok (.iconst 5, 1) := by decide +kernel
theorem dL_acts_176 : decode cL_acts 176 = .ok (.irem, 1) := by decide +kernel
theorem dL_acts_177 : decode cL_acts 177 = .ok (.iadd, 1) := by decide +kernel
theorem dL_acts_178 : decode cL_acts 178 = .ok (.invokestatic 100, 3) := by decide +kernel
theorem dL_acts_181 : decode cL_acts 181 = .ok (.ireturn, 1) := by decide +kernel
theorem dL_acts_182 : decode cL_acts 182 = .ok (.aload_n 0, 1) := by decide +kernel
theorem dL_acts_183 : decode cL_acts 183 = .ok (.iload_n 2, 1) := by decide +kernel
theorem dL_acts_184 : decode cL_acts 184 = .ok (.sipush 256, 3) := by decide +kernel
theorem dL_acts_187 : decode cL_acts 187 = .ok (.irem, 1) := by decide +kernel
theorem dL_acts_188 : decode cL_acts 188 = .ok (.iconst 1, 1) := by decide +kernel
theorem dL_acts_189 : decode cL_acts 189 = .ok (.aload_n 0, 1) := by decide +kernel
theorem dL_acts_190 : decode cL_acts 190 = .ok (.iconst 0, 1) := by decide +kernel
theorem dL_acts_191 : decode cL_acts 191 = .ok (.invokestatic 102, 3) := by decide +kernel
theorem dL_acts_194 : decode cL_acts 194 = .ok (.ishl, 1) := by decide +kernel
theorem dL_acts_195 : decode cL_acts 195 = .ok (.iconst 1, 1) := by decide +kernel
theorem dL_acts_196 : decode cL_acts 196 = .ok (.isub, 1) := by decide +kernel
theorem dL_acts_197 : decode cL_acts 197 = .ok (.iand, 1) := by decide +kernel
theorem dL_acts_198 : decode cL_acts 198 = .ok (.invokestatic 104, 3) := by decide +kernel
theorem dL_acts_201 : decode cL_acts 201 = .ok (.ireturn, 1) := by decide +kernel
