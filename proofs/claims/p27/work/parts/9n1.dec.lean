section DecB1
theorem dL_begins_106 : decode cL_begins 106 = .ok (.iadd, 1) := by decide +kernel
theorem dL_begins_107 : decode cL_begins 107 = .ok (.iconst 5, 1) := by decide +kernel
theorem dL_begins_108 : decode cL_begins 108 = .ok (.invokestatic 22, 3) := by decide +kernel
theorem dL_begins_111 : decode cL_begins 111 = .ok (.iadd, 1) := by decide +kernel
theorem dL_begins_112 : decode cL_begins 112 = .ok (.istore 5, 2) := by decide +kernel
theorem dL_begins_114 : decode cL_begins 114 = .ok (.iconst 0, 1) := by decide +kernel
theorem dL_begins_115 : decode cL_begins 115 = .ok (.istore 6, 2) := by decide +kernel
theorem dL_begins_117 : decode cL_begins 117 = .ok (.iload 6, 2) := by decide +kernel
theorem dL_begins_119 : decode cL_begins 119 = .ok (.iload 5, 2) := by decide +kernel
theorem dL_begins_121 : decode cL_begins 121 = .ok (.if_icmp .ge 130, 3) := by decide +kernel
theorem dL_begins_124 : decode cL_begins 124 = .ok (.aload_n 2, 1) := by decide +kernel
theorem dL_begins_125 : decode cL_begins 125 = .ok (.ldc 39, 2) := by decide +kernel
theorem dL_begins_127 : decode cL_begins 127 = .ok (.invokevirtual 32, 3) := by decide +kernel
theorem dL_begins_130 : decode cL_begins 130 = .ok (.iload 4, 2) := by decide +kernel
theorem dL_begins_132 : decode cL_begins 132 = .ok (.invokevirtual 26, 3) := by decide +kernel
theorem dL_begins_135 : decode cL_begins 135 = .ok (.pop, 1) := by decide +kernel
theorem dL_begins_136 : decode cL_begins 136 = .ok (.iconst 1, 1) := by decide +kernel
theorem dL_begins_137 : decode cL_begins 137 = .ok (.aload_n 1, 1) := by decide +kernel
theorem dL_begins_138 : decode cL_begins 138 = .ok (.bipush 6, 2) := by decide +kernel
theorem dL_begins_140 : decode cL_begins 140 = .ok (.iconst 5, 1) := by decide +kernel
theorem dL_begins_141 : decode cL_begins 141 = .ok (.iload 4, 2) := by decide +kernel
theorem dL_begins_143 : decode cL_begins 143 = .ok (.imul, 1) := by decide +kernel
theorem dL_begins_144 : decode cL_begins 144 = .ok (.iadd, 1) := by decide +kernel
theorem dL_begins_145 : decode cL_begins 145 = .ok (.iload 6, 2) := by decide +kernel
theorem dL_begins_147 : decode cL_begins 147 = .ok (.iadd, 1) := by decide +kernel
theorem dL_begins_148 : decode cL_begins 148 = .ok (.iconst 5, 1) := by decide +kernel
theorem dL_begins_149 : decode cL_begins 149 = .ok (.invokestatic 22, 3) := by decide +kernel
theorem dL_begins_152 : decode cL_begins 152 = .ok (.iadd, 1) := by decide +kernel
theorem dL_begins_153 : decode cL_begins 153 = .ok (.istore 7, 2) := by decide +kernel
theorem dL_begins_155 : decode cL_begins 155 = .ok (.iconst 0, 1) := by decide +kernel
theorem dL_begins_156 : decode cL_begins 156 = .ok (.istore 8, 2) := by decide +kernel
theorem dL_begins_158 : decode cL_begins 158 = .ok (.iload 8, 2) := by decide +kernel
theorem dL_begins_160 : decode cL_begins 160 = .ok (.iload 7, 2) := by decide +kernel
theorem dL_begins_162 : decode cL_begins 162 = .ok (.if_icmp .ge 76, 3) := by decide +kernel
theorem dL_begins_165 : decode cL_begins 165 = .ok (.aload_n 2, 1) := by decide +kernel
theorem dL_begins_166 : decode cL_begins 166 = .ok (.ldc 30, 2) := by decide +kernel
theorem dL_begins_168 : decode cL_begins 168 = .ok (.invokevirtual 32, 3) := by decide +kernel
theorem dL_begins_171 : decode cL_begins 171 = .ok (.aload_n 1, 1) := by decide +kernel
theorem dL_begins_172 : decode cL_begins 172 = .ok (.bipush 20, 2) := by decide +kernel
theorem dL_begins_174 : decode cL_begins 174 = .ok (.bipush 30, 2) := by decide +kernel
theorem dL_begins_176 : decode cL_begins 176 = .ok (.iload 4, 2) := by decide +kernel
theorem dL_begins_178 : decode cL_begins 178 = .ok (.imul, 1) := by decide +kernel
theorem dL_begins_179 : decode cL_begins 179 = .ok (.iadd, 1) := by decide +kernel
theorem dL_begins_180 : decode cL_begins 180 = .ok (.iconst 5, 1) := by decide +kernel
theorem dL_begins_181 : decode cL_begins 181 = .ok (.iload 6, 2) := by decide +kernel
theorem dL_begins_183 : decode cL_begins 183 = .ok (.imul, 1) := by decide +kernel
theorem dL_begins_184 : decode cL_begins 184 = .ok (.iadd, 1) := by decide +kernel
theorem dL_begins_185 : decode cL_begins 185 = .ok (.iload 8, 2) := by decide +kernel
theorem dL_begins_187 : decode cL_begins 187 = .ok (.iadd, 1) := by decide +kernel
theorem dL_begins_188 : decode cL_begins 188 = .ok (.iconst 3, 1) := by decide +kernel
theorem dL_begins_189 : decode cL_begins 189 = .ok (.invokestatic 22, 3) := by decide +kernel
theorem dL_begins_192 : decode cL_begins 192 = .ok (.ifCond .ne 13, 3) := by decide +kernel
theorem dL_begins_195 : decode cL_begins 195 = .ok (.bipush 125, 2) := by decide +kernel
theorem dL_begins_197 : decode cL_begins 197 = .ok (.iload 8, 2) := by decide +kernel
theorem dL_begins_199 : decode cL_begins 199 = .ok (.iconst 2, 1) := by decide +kernel
theorem dL_begins_200 : decode cL_begins 200 = .ok (.irem, 1) := by decide +kernel
theorem dL_begins_201 : decode cL_begins 201 = .ok (.iadd, 1) := by decide +kernel
theorem dL_begins_202 : decode cL_begins 202 = .ok (.goto 26, 3) := by decide +kernel
theorem dL_begins_205 : decode cL_begins 205 = .ok (.aload_n 1, 1) := by decide +kernel
theorem dL_begins_206 : decode cL_begins 206 = .ok (.bipush 21, 2) := by decide +kernel
end DecB1
