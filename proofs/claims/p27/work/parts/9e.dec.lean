section DecL
theorem dL_readsAll_0 : decode cL_readsAll 0 = .ok (.iconst 0, 1) := by decide +kernel
theorem dL_readsAll_1 : decode cL_readsAll 1 = .ok (.istore_n 1, 1) := by decide +kernel
theorem dL_readsAll_2 : decode cL_readsAll 2 = .ok (.iload_n 1, 1) := by decide +kernel
theorem dL_readsAll_3 : decode cL_readsAll 3 = .ok (.iconst 2, 1) := by decide +kernel
theorem dL_readsAll_4 : decode cL_readsAll 4 = .ok (.if_icmp .ge 38, 3) := by decide +kernel
theorem dL_readsAll_7 : decode cL_readsAll 7 = .ok (.aload_n 0, 1) := by decide +kernel
theorem dL_readsAll_8 : decode cL_readsAll 8 = .ok (.iload_n 1, 1) := by decide +kernel
theorem dL_readsAll_9 : decode cL_readsAll 9 = .ok (.iconst 1, 1) := by decide +kernel
theorem dL_readsAll_10 : decode cL_readsAll 10 = .ok (.invokevirtual 60, 3) := by decide +kernel
theorem dL_readsAll_13 : decode cL_readsAll 13 = .ok (.aload_n 0, 1) := by decide +kernel
theorem dL_readsAll_14 : decode cL_readsAll 14 = .ok (.iload_n 1, 1) := by decide +kernel
theorem dL_readsAll_15 : decode cL_readsAll 15 = .ok (.iconst 2, 1) := by decide +kernel
theorem dL_readsAll_16 : decode cL_readsAll 16 = .ok (.invokevirtual 60, 3) := by decide +kernel
theorem dL_readsAll_19 : decode cL_readsAll 19 = .ok (.isub, 1) := by decide +kernel
theorem dL_readsAll_20 : decode cL_readsAll 20 = .ok (.istore_n 2, 1) := by decide +kernel
theorem dL_readsAll_21 : decode cL_readsAll 21 = .ok (.iload_n 2, 1) := by decide +kernel
theorem dL_readsAll_22 : decode cL_readsAll 22 = .ok (.ifCond .le 14, 3) := by decide +kernel
theorem dL_readsAll_25 : decode cL_readsAll 25 = .ok (.aload_n 0, 1) := by decide +kernel
theorem dL_readsAll_26 : decode cL_readsAll 26 = .ok (.iload_n 1, 1) := by decide +kernel
theorem dL_readsAll_27 : decode cL_readsAll 27 = .ok (.iload_n 2, 1) := by decide +kernel
theorem dL_readsAll_28 : decode cL_readsAll 28 = .ok (.invokevirtual 64, 3) := by decide +kernel
theorem dL_readsAll_31 : decode cL_readsAll 31 = .ok (.ifCond .eq 5, 3) := by decide +kernel
theorem dL_readsAll_34 : decode cL_readsAll 34 = .ok (.iconst 0, 1) := by decide +kernel
theorem dL_readsAll_35 : decode cL_readsAll 35 = .ok (.ireturn, 1) := by decide +kernel
theorem dL_readsAll_36 : decode cL_readsAll 36 = .ok (.iinc 1 1, 3) := by decide +kernel
theorem dL_readsAll_39 : decode cL_readsAll 39 = .ok (.goto (-37), 3) := by decide +kernel
theorem dL_readsAll_42 : decode cL_readsAll 42 = .ok (.iconst 1, 1) := by decide +kernel
theorem dL_readsAll_43 : decode cL_readsAll 43 = .ok (.ireturn, 1) := by decide +kernel
theorem dL_isStep_0 : decode cL_isStep 0 = .ok (.aload_n 0, 1) := by decide +kernel
theorem dL_isStep_1 : decode cL_isStep 1 = .ok (.iconst 3, 1) := by decide +kernel
theorem dL_isStep_2 : decode cL_isStep 2 = .ok (.invokevirtual 68, 3) := by decide +kernel
theorem dL_isStep_5 : decode cL_isStep 5 = .ok (.istore_n 1, 1) := by decide +kernel
theorem dL_isStep_6 : decode cL_isStep 6 = .ok (.aload_n 0, 1) := by decide +kernel
theorem dL_isStep_7 : decode cL_isStep 7 = .ok (.iconst 0, 1) := by decide +kernel
theorem dL_isStep_8 : decode cL_isStep 8 = .ok (.invokevirtual 71, 3) := by decide +kernel
theorem dL_isStep_11 : decode cL_isStep 11 = .ok (.iconst 1, 1) := by decide +kernel
theorem dL_isStep_12 : decode cL_isStep 12 = .ok (.if_icmp .ne 7, 3) := by decide +kernel
theorem dL_isStep_15 : decode cL_isStep 15 = .ok (.iconst 1, 1) := by decide +kernel
theorem dL_isStep_16 : decode cL_isStep 16 = .ok (.goto 4, 3) := by decide +kernel
theorem dL_isStep_19 : decode cL_isStep 19 = .ok (.iconst 0, 1) := by decide +kernel
theorem dL_isStep_20 : decode cL_isStep 20 = .ok (.istore_n 2, 1) := by decide +kernel
theorem dL_isStep_21 : decode cL_isStep 21 = .ok (.aload_n 0, 1) := by decide +kernel
theorem dL_isStep_22 : decode cL_isStep 22 = .ok (.iconst 5, 1) := by decide +kernel
theorem dL_isStep_23 : decode cL_isStep 23 = .ok (.invokevirtual 71, 3) := by decide +kernel
theorem dL_isStep_26 : decode cL_isStep 26 = .ok (.iconst 1, 1) := by decide +kernel
theorem dL_isStep_27 : decode cL_isStep 27 = .ok (.if_icmp .ne 7, 3) := by decide +kernel
theorem dL_isStep_30 : decode cL_isStep 30 = .ok (.iconst 1, 1) := by decide +kernel
theorem dL_isStep_31 : decode cL_isStep 31 = .ok (.goto 4, 3) := by decide +kernel
theorem dL_isStep_34 : decode cL_isStep 34 = .ok (.iconst 0, 1) := by decide +kernel
theorem dL_isStep_35 : decode cL_isStep 35 = .ok (.istore_n 3, 1) := by decide +kernel
theorem dL_isStep_36 : decode cL_isStep 36 = .ok (.aload_n 0, 1) := by decide +kernel
theorem dL_isStep_37 : decode cL_isStep 37 = .ok (.iconst 3, 1) := by decide +kernel
theorem dL_isStep_38 : decode cL_isStep 38 = .ok (.invokevirtual 71, 3) := by decide +kernel
theorem dL_isStep_41 : decode cL_isStep 41 = .ok (.istore 4, 2) := by decide +kernel
theorem dL_isStep_43 : decode cL_isStep 43 = .ok (.aload_n 0, 1) := by decide +kernel
theorem dL_isStep_44 : decode cL_isStep 44 = .ok (.iconst 4, 1) := by decide +kernel
theorem dL_isStep_45 : decode cL_isStep 45 = .ok (.invokevirtual 71, 3) := by decide +kernel
theorem dL_isStep_48 : decode cL_isStep 48 = .ok (.istore 5, 2) := by decide +kernel
theorem dL_isStep_50 : decode cL_isStep 50 = .ok (.aload_n 0, 1) := by decide +kernel
theorem dL_isStep_51 : decode cL_isStep 51 = .ok (.iconst 2, 1) := by decide +kernel
theorem dL_isStep_52 : decode cL_isStep 52 = .ok (.invokevirtual 68, 3) := by decide +kernel
theorem dL_isStep_55 : decode cL_isStep 55 = .ok (.istore 6, 2) := by decide +kernel
theorem dL_isStep_57 : decode cL_isStep 57 = .ok (.aload_n 0, 1) := by decide +kernel
theorem dL_isStep_58 : decode cL_isStep 58 = .ok (.iload_n 1, 1) := by decide +kernel
theorem dL_isStep_59 : decode cL_isStep 59 = .ok (.bipush 9, 2) := by decide +kernel
theorem dL_isStep_61 : decode cL_isStep 61 = .ok (.invokevirtual 60, 3) := by decide +kernel
theorem dL_isStep_64 : decode cL_isStep 64 = .ok (.istore 7, 2) := by decide +kernel
theorem dL_isStep_66 : decode cL_isStep 66 = .ok (.aload_n 0, 1) := by decide +kernel
theorem dL_isStep_67 : decode cL_isStep 67 = .ok (.iload_n 1, 1) := by decide +kernel
theorem dL_isStep_68 : decode cL_isStep 68 = .ok (.bipush 8, 2) := by decide +kernel
theorem dL_isStep_70 : decode cL_isStep 70 = .ok (.invokevirtual 60, 3) := by decide +kernel
theorem dL_isStep_73 : decode cL_isStep 73 = .ok (.istore 8, 2) := by decide +kernel
theorem dL_isStep_75 : decode cL_isStep 75 = .ok (.iload_n 3, 1) := by decide +kernel
theorem dL_isStep_76 : decode cL_isStep 76 = .ok (.aload_n 0, 1) := by decide +kernel
theorem dL_isStep_77 : decode cL_isStep 77 = .ok (.iload 5, 2) := by decide +kernel
theorem dL_isStep_79 : decode cL_isStep 79 = .ok (.invokevirtual 101, 3) := by decide +kernel
theorem dL_isStep_82 : decode cL_isStep 82 = .ok (.if_icmp .eq 5, 3) := by decide +kernel
theorem dL_isStep_85 : decode cL_isStep 85 = .ok (.iconst 0, 1) := by decide +kernel
theorem dL_isStep_86 : decode cL_isStep 86 = .ok (.ireturn, 1) := by decide +kernel
theorem dL_isStep_87 : decode cL_isStep 87 = .ok (.iload 6, 2) := by decide +kernel
theorem dL_isStep_89 : decode cL_isStep 89 = .ok (.iload 4, 2) := by decide +kernel
theorem dL_isStep_91 : decode cL_isStep 91 = .ok (.iadd, 1) := by decide +kernel
theorem dL_isStep_92 : decode cL_isStep 92 = .ok (.iload_n 2, 1) := by decide +kernel
theorem dL_isStep_93 : decode cL_isStep 93 = .ok (.ifCond .eq 15, 3) := by decide +kernel
theorem dL_isStep_96 : decode cL_isStep 96 = .ok (.iload_n 3, 1) := by decide +kernel
theorem dL_isStep_97 : decode cL_isStep 97 = .ok (.ifCond .eq 11, 3) := by decide +kernel
theorem dL_isStep_100 : decode cL_isStep 100 = .ok (.aload_n 0, 1) := by decide +kernel
theorem dL_isStep_101 : decode cL_isStep 101 = .ok (.iconst 1, 1) := by decide +kernel
theorem dL_isStep_102 : decode cL_isStep 102 = .ok (.invokevirtual 68, 3) := by decide +kernel
theorem dL_isStep_105 : decode cL_isStep 105 = .ok (.goto 4, 3) := by decide +kernel
theorem dL_isStep_108 : decode cL_isStep 108 = .ok (.iconst 0, 1) := by decide +kernel
theorem dL_isStep_109 : decode cL_isStep 109 = .ok (.iadd, 1) := by decide +kernel
theorem dL_isStep_110 : decode cL_isStep 110 = .ok (.istore 9, 2) := by decide +kernel
theorem dL_isStep_112 : decode cL_isStep 112 = .ok (.aload_n 0, 1) := by decide +kernel
theorem dL_isStep_113 : decode cL_isStep 113 = .ok (.iconst 1, 1) := by decide +kernel
theorem dL_isStep_114 : decode cL_isStep 114 = .ok (.invokevirtual 105, 3) := by decide +kernel
theorem dL_isStep_117 : decode cL_isStep 117 = .ok (.iload 9, 2) := by decide +kernel
theorem dL_isStep_119 : decode cL_isStep 119 = .ok (.if_icmp .ne 15, 3) := by decide +kernel
theorem dL_isStep_122 : decode cL_isStep 122 = .ok (.aload_n 0, 1) := by decide +kernel
theorem dL_isStep_123 : decode cL_isStep 123 = .ok (.iconst 0, 1) := by decide +kernel
theorem dL_isStep_124 : decode cL_isStep 124 = .ok (.invokevirtual 108, 3) := by decide +kernel
theorem dL_isStep_127 : decode cL_isStep 127 = .ok (.iload 5, 2) := by decide +kernel
theorem dL_isStep_129 : decode cL_isStep 129 = .ok (.iconst 1, 1) := by decide +kernel
theorem dL_isStep_130 : decode cL_isStep 130 = .ok (.iadd, 1) := by decide +kernel
theorem dL_isStep_131 : decode cL_isStep 131 = .ok (.if_icmp .eq 5, 3) := by decide +kernel
theorem dL_isStep_134 : decode cL_isStep 134 = .ok (.iconst 0, 1) := by decide +kernel
theorem dL_isStep_135 : decode cL_isStep 135 = .ok (.ireturn, 1) := by decide +kernel
theorem dL_isStep_136 : decode cL_isStep 136 = .ok (.iload_n 2, 1) := by decide +kernel
theorem dL_isStep_137 : decode cL_isStep 137 = .ok (.ifCond .eq 11, 3) := by decide +kernel
theorem dL_isStep_140 : decode cL_isStep 140 = .ok (.iload_n 3, 1) := by decide +kernel
theorem dL_isStep_141 : decode cL_isStep 141 = .ok (.ifCond .ne 7, 3) := by decide +kernel
theorem dL_isStep_144 : decode cL_isStep 144 = .ok (.iconst 1, 1) := by decide +kernel
theorem dL_isStep_145 : decode cL_isStep 145 = .ok (.goto 4, 3) := by decide +kernel
theorem dL_isStep_148 : decode cL_isStep 148 = .ok (.iconst 0, 1) := by decide +kernel
theorem dL_isStep_149 : decode cL_isStep 149 = .ok (.istore 10, 2) := by decide +kernel
theorem dL_isStep_151 : decode cL_isStep 151 = .ok (.aload_n 0, 1) := by decide +kernel
theorem dL_isStep_152 : decode cL_isStep 152 = .ok (.iconst 3, 1) := by decide +kernel
theorem dL_isStep_153 : decode cL_isStep 153 = .ok (.invokevirtual 68, 3) := by decide +kernel
theorem dL_isStep_156 : decode cL_isStep 156 = .ok (.iload 10, 2) := by decide +kernel
theorem dL_isStep_158 : decode cL_isStep 158 = .ok (.ifCond .eq 9, 3) := by decide +kernel
theorem dL_isStep_161 : decode cL_isStep 161 = .ok (.iconst 1, 1) := by decide +kernel
theorem dL_isStep_162 : decode cL_isStep 162 = .ok (.iload_n 1, 1) := by decide +kernel
theorem dL_isStep_163 : decode cL_isStep 163 = .ok (.isub, 1) := by decide +kernel
theorem dL_isStep_164 : decode cL_isStep 164 = .ok (.goto 4, 3) := by decide +kernel
theorem dL_isStep_167 : decode cL_isStep 167 = .ok (.iload_n 1, 1) := by decide +kernel
theorem dL_isStep_168 : decode cL_isStep 168 = .ok (.if_icmp .ne 26, 3) := by decide +kernel
theorem dL_isStep_171 : decode cL_isStep 171 = .ok (.aload_n 0, 1) := by decide +kernel
theorem dL_isStep_172 : decode cL_isStep 172 = .ok (.iload_n 1, 1) := by decide +kernel
theorem dL_isStep_173 : decode cL_isStep 173 = .ok (.bipush 9, 2) := by decide +kernel
theorem dL_isStep_175 : decode cL_isStep 175 = .ok (.invokevirtual 60, 3) := by decide +kernel
theorem dL_isStep_178 : decode cL_isStep 178 = .ok (.iload 7, 2) := by decide +kernel
theorem dL_isStep_180 : decode cL_isStep 180 = .ok (.iload 10, 2) := by decide +kernel
theorem dL_isStep_182 : decode cL_isStep 182 = .ok (.ifCond .eq 7, 3) := by decide +kernel
theorem dL_isStep_185 : decode cL_isStep 185 = .ok (.iconst 1, 1) := by decide +kernel
theorem dL_isStep_186 : decode cL_isStep 186 = .ok (.goto 4, 3) := by decide +kernel
theorem dL_isStep_189 : decode cL_isStep 189 = .ok (.iconst 0, 1) := by decide +kernel
theorem dL_isStep_190 : decode cL_isStep 190 = .ok (.iadd, 1) := by decide +kernel
theorem dL_isStep_191 : decode cL_isStep 191 = .ok (.if_icmp .eq 5, 3) := by decide +kernel
theorem dL_isStep_194 : decode cL_isStep 194 = .ok (.iconst 0, 1) := by decide +kernel
theorem dL_isStep_195 : decode cL_isStep 195 = .ok (.ireturn, 1) := by decide +kernel
theorem dL_isStep_196 : decode cL_isStep 196 = .ok (.iload_n 2, 1) := by decide +kernel
theorem dL_isStep_197 : decode cL_isStep 197 = .ok (.ifCond .eq 23, 3) := by decide +kernel
theorem dL_isStep_200 : decode cL_isStep 200 = .ok (.aload_n 0, 1) := by decide +kernel
theorem dL_isStep_201 : decode cL_isStep 201 = .ok (.iload_n 1, 1) := by decide +kernel
theorem dL_isStep_202 : decode cL_isStep 202 = .ok (.bipush 8, 2) := by decide +kernel
theorem dL_isStep_204 : decode cL_isStep 204 = .ok (.invokevirtual 60, 3) := by decide +kernel
theorem dL_isStep_207 : decode cL_isStep 207 = .ok (.iload 8, 2) := by decide +kernel
theorem dL_isStep_209 : decode cL_isStep 209 = .ok (.if_icmp .ne 7, 3) := by decide +kernel
theorem dL_isStep_212 : decode cL_isStep 212 = .ok (.iconst 1, 1) := by decide +kernel
theorem dL_isStep_213 : decode cL_isStep 213 = .ok (.goto 33, 3) := by decide +kernel
theorem dL_isStep_216 : decode cL_isStep 216 = .ok (.iconst 0, 1) := by decide +kernel
theorem dL_isStep_217 : decode cL_isStep 217 = .ok (.goto 29, 3) := by decide +kernel
theorem dL_isStep_220 : decode cL_isStep 220 = .ok (.aload_n 0, 1) := by decide +kernel
theorem dL_isStep_221 : decode cL_isStep 221 = .ok (.iload_n 1, 1) := by decide +kernel
theorem dL_isStep_222 : decode cL_isStep 222 = .ok (.bipush 8, 2) := by decide +kernel
theorem dL_isStep_224 : decode cL_isStep 224 = .ok (.invokevirtual 60, 3) := by decide +kernel
theorem dL_isStep_227 : decode cL_isStep 227 = .ok (.iload 8, 2) := by decide +kernel
theorem dL_isStep_229 : decode cL_isStep 229 = .ok (.if_icmp .lt 16, 3) := by decide +kernel
theorem dL_isStep_232 : decode cL_isStep 232 = .ok (.aload_n 0, 1) := by decide +kernel
theorem dL_isStep_233 : decode cL_isStep 233 = .ok (.iconst 4, 1) := by decide +kernel
theorem dL_isStep_234 : decode cL_isStep 234 = .ok (.invokevirtual 68, 3) := by decide +kernel
theorem dL_isStep_237 : decode cL_isStep 237 = .ok (.iconst 1, 1) := by decide +kernel
theorem dL_isStep_238 : decode cL_isStep 238 = .ok (.if_icmp .lt 7, 3) := by decide +kernel
theorem dL_isStep_241 : decode cL_isStep 241 = .ok (.iconst 1, 1) := by decide +kernel
theorem dL_isStep_242 : decode cL_isStep 242 = .ok (.goto 4, 3) := by decide +kernel
theorem dL_isStep_245 : decode cL_isStep 245 = .ok (.iconst 0, 1) := by decide +kernel
theorem dL_isStep_246 : decode cL_isStep 246 = .ok (.ireturn, 1) := by decide +kernel
theorem dL_areBuffers_0 : decode cL_areBuffers 0 = .ok (.iconst 0, 1) := by decide +kernel
theorem dL_areBuffers_1 : decode cL_areBuffers 1 = .ok (.istore_n 1, 1) := by decide +kernel
theorem dL_areBuffers_2 : decode cL_areBuffers 2 = .ok (.iload_n 1, 1) := by decide +kernel
theorem dL_areBuffers_3 : decode cL_areBuffers 3 = .ok (.iconst 2, 1) := by decide +kernel
theorem dL_areBuffers_4 : decode cL_areBuffers 4 = .ok (.if_icmp .ge 129, 3) := by decide +kernel
theorem dL_areBuffers_7 : decode cL_areBuffers 7 = .ok (.aload_n 0, 1) := by decide +kernel
theorem dL_areBuffers_8 : decode cL_areBuffers 8 = .ok (.iload_n 1, 1) := by decide +kernel
theorem dL_areBuffers_9 : decode cL_areBuffers 9 = .ok (.iconst 1, 1) := by decide +kernel
theorem dL_areBuffers_10 : decode cL_areBuffers 10 = .ok (.invokevirtual 60, 3) := by decide +kernel
theorem dL_areBuffers_13 : decode cL_areBuffers 13 = .ok (.istore_n 2, 1) := by decide +kernel
theorem dL_areBuffers_14 : decode cL_areBuffers 14 = .ok (.aload_n 0, 1) := by decide +kernel
theorem dL_areBuffers_15 : decode cL_areBuffers 15 = .ok (.iload_n 1, 1) := by decide +kernel
theorem dL_areBuffers_16 : decode cL_areBuffers 16 = .ok (.iconst 2, 1) := by decide +kernel
theorem dL_areBuffers_17 : decode cL_areBuffers 17 = .ok (.invokevirtual 60, 3) := by decide +kernel
theorem dL_areBuffers_20 : decode cL_areBuffers 20 = .ok (.istore_n 3, 1) := by decide +kernel
theorem dL_areBuffers_21 : decode cL_areBuffers 21 = .ok (.iconst 1, 1) := by decide +kernel
theorem dL_areBuffers_22 : decode cL_areBuffers 22 = .ok (.iload_n 1, 1) := by decide +kernel
theorem dL_areBuffers_23 : decode cL_areBuffers 23 = .ok (.isub, 1) := by decide +kernel
theorem dL_areBuffers_24 : decode cL_areBuffers 24 = .ok (.istore 4, 2) := by decide +kernel
theorem dL_areBuffers_26 : decode cL_areBuffers 26 = .ok (.iload_n 3, 1) := by decide +kernel
theorem dL_areBuffers_27 : decode cL_areBuffers 27 = .ok (.iload_n 2, 1) := by decide +kernel
theorem dL_areBuffers_28 : decode cL_areBuffers 28 = .ok (.if_icmp .gt 45, 3) := by decide +kernel
theorem dL_areBuffers_31 : decode cL_areBuffers 31 = .ok (.iload_n 2, 1) := by decide +kernel
theorem dL_areBuffers_32 : decode cL_areBuffers 32 = .ok (.iload_n 3, 1) := by decide +kernel
theorem dL_areBuffers_33 : decode cL_areBuffers 33 = .ok (.isub, 1) := by decide +kernel
theorem dL_areBuffers_34 : decode cL_areBuffers 34 = .ok (.aload_n 0, 1) := by decide +kernel
theorem dL_areBuffers_35 : decode cL_areBuffers 35 = .ok (.iload_n 1, 1) := by decide +kernel
theorem dL_areBuffers_36 : decode cL_areBuffers 36 = .ok (.iconst 3, 1) := by decide +kernel
theorem dL_areBuffers_37 : decode cL_areBuffers 37 = .ok (.invokevirtual 60, 3) := by decide +kernel
theorem dL_areBuffers_40 : decode cL_areBuffers 40 = .ok (.if_icmp .gt 33, 3) := by decide +kernel
theorem dL_areBuffers_43 : decode cL_areBuffers 43 = .ok (.iload_n 2, 1) := by decide +kernel
theorem dL_areBuffers_44 : decode cL_areBuffers 44 = .ok (.aload_n 0, 1) := by decide +kernel
theorem dL_areBuffers_45 : decode cL_areBuffers 45 = .ok (.iload 4, 2) := by decide +kernel
theorem dL_areBuffers_47 : decode cL_areBuffers 47 = .ok (.bipush 8, 2) := by decide +kernel
theorem dL_areBuffers_49 : decode cL_areBuffers 49 = .ok (.invokevirtual 60, 3) := by decide +kernel
theorem dL_areBuffers_52 : decode cL_areBuffers 52 = .ok (.if_icmp .gt 21, 3) := by decide +kernel
theorem dL_areBuffers_55 : decode cL_areBuffers 55 = .ok (.aload_n 0, 1) := by decide +kernel
theorem dL_areBuffers_56 : decode cL_areBuffers 56 = .ok (.iload 4, 2) := by decide +kernel
theorem dL_areBuffers_58 : decode cL_areBuffers 58 = .ok (.bipush 8, 2) := by decide +kernel
theorem dL_areBuffers_60 : decode cL_areBuffers 60 = .ok (.invokevirtual 60, 3) := by decide +kernel
theorem dL_areBuffers_63 : decode cL_areBuffers 63 = .ok (.aload_n 0, 1) := by decide +kernel
theorem dL_areBuffers_64 : decode cL_areBuffers 64 = .ok (.iload 4, 2) := by decide +kernel
theorem dL_areBuffers_66 : decode cL_areBuffers 66 = .ok (.iconst 0, 1) := by decide +kernel
theorem dL_areBuffers_67 : decode cL_areBuffers 67 = .ok (.invokevirtual 60, 3) := by decide +kernel
theorem dL_areBuffers_70 : decode cL_areBuffers 70 = .ok (.if_icmp .le 5, 3) := by decide +kernel
theorem dL_areBuffers_73 : decode cL_areBuffers 73 = .ok (.iconst 0, 1) := by decide +kernel
theorem dL_areBuffers_74 : decode cL_areBuffers 74 = .ok (.ireturn, 1) := by decide +kernel
theorem dL_areBuffers_75 : decode cL_areBuffers 75 = .ok (.aload_n 0, 1) := by decide +kernel
theorem dL_areBuffers_76 : decode cL_areBuffers 76 = .ok (.iload 4, 2) := by decide +kernel
theorem dL_areBuffers_78 : decode cL_areBuffers 78 = .ok (.bipush 6, 2) := by decide +kernel
theorem dL_areBuffers_80 : decode cL_areBuffers 80 = .ok (.invokevirtual 60, 3) := by decide +kernel
theorem dL_areBuffers_83 : decode cL_areBuffers 83 = .ok (.iload_n 2, 1) := by decide +kernel
theorem dL_areBuffers_84 : decode cL_areBuffers 84 = .ok (.if_icmp .gt 41, 3) := by decide +kernel
theorem dL_areBuffers_87 : decode cL_areBuffers 87 = .ok (.aload_n 0, 1) := by decide +kernel
theorem dL_areBuffers_88 : decode cL_areBuffers 88 = .ok (.iload 4, 2) := by decide +kernel
theorem dL_areBuffers_90 : decode cL_areBuffers 90 = .ok (.bipush 8, 2) := by decide +kernel
theorem dL_areBuffers_92 : decode cL_areBuffers 92 = .ok (.invokevirtual 60, 3) := by decide +kernel
theorem dL_areBuffers_95 : decode cL_areBuffers 95 = .ok (.aload_n 0, 1) := by decide +kernel
theorem dL_areBuffers_96 : decode cL_areBuffers 96 = .ok (.iload 4, 2) := by decide +kernel
theorem dL_areBuffers_98 : decode cL_areBuffers 98 = .ok (.bipush 7, 2) := by decide +kernel
theorem dL_areBuffers_100 : decode cL_areBuffers 100 = .ok (.invokevirtual 60, 3) := by decide +kernel
theorem dL_areBuffers_103 : decode cL_areBuffers 103 = .ok (.if_icmp .gt 22, 3) := by decide +kernel
theorem dL_areBuffers_106 : decode cL_areBuffers 106 = .ok (.aload_n 0, 1) := by decide +kernel
theorem dL_areBuffers_107 : decode cL_areBuffers 107 = .ok (.iload 4, 2) := by decide +kernel
theorem dL_areBuffers_109 : decode cL_areBuffers 109 = .ok (.bipush 7, 2) := by decide +kernel
theorem dL_areBuffers_111 : decode cL_areBuffers 111 = .ok (.invokevirtual 60, 3) := by decide +kernel
theorem dL_areBuffers_114 : decode cL_areBuffers 114 = .ok (.iload_n 3, 1) := by decide +kernel
theorem dL_areBuffers_115 : decode cL_areBuffers 115 = .ok (.aload_n 0, 1) := by decide +kernel
theorem dL_areBuffers_116 : decode cL_areBuffers 116 = .ok (.iload_n 1, 1) := by decide +kernel
theorem dL_areBuffers_117 : decode cL_areBuffers 117 = .ok (.iconst 3, 1) := by decide +kernel
theorem dL_areBuffers_118 : decode cL_areBuffers 118 = .ok (.invokevirtual 60, 3) := by decide +kernel
theorem dL_areBuffers_121 : decode cL_areBuffers 121 = .ok (.iadd, 1) := by decide +kernel
theorem dL_areBuffers_122 : decode cL_areBuffers 122 = .ok (.if_icmp .le 5, 3) := by decide +kernel
theorem dL_areBuffers_125 : decode cL_areBuffers 125 = .ok (.iconst 0, 1) := by decide +kernel
theorem dL_areBuffers_126 : decode cL_areBuffers 126 = .ok (.ireturn, 1) := by decide +kernel
theorem dL_areBuffers_127 : decode cL_areBuffers 127 = .ok (.iinc 1 1, 3) := by decide +kernel
theorem dL_areBuffers_130 : decode cL_areBuffers 130 = .ok (.goto (-128), 3) := by decide +kernel
theorem dL_areBuffers_133 : decode cL_areBuffers 133 = .ok (.aload_n 0, 1) := by decide +kernel
theorem dL_areBuffers_134 : decode cL_areBuffers 134 = .ok (.iconst 0, 1) := by decide +kernel
theorem dL_areBuffers_135 : decode cL_areBuffers 135 = .ok (.invokevirtual 108, 3) := by decide +kernel
theorem dL_areBuffers_138 : decode cL_areBuffers 138 = .ok (.aload_n 0, 1) := by decide +kernel
theorem dL_areBuffers_139 : decode cL_areBuffers 139 = .ok (.iconst 2, 1) := by decide +kernel
theorem dL_areBuffers_140 : decode cL_areBuffers 140 = .ok (.invokevirtual 108, 3) := by decide +kernel
theorem dL_areBuffers_143 : decode cL_areBuffers 143 = .ok (.aload_n 0, 1) := by decide +kernel
theorem dL_areBuffers_144 : decode cL_areBuffers 144 = .ok (.iconst 4, 1) := by decide +kernel
theorem dL_areBuffers_145 : decode cL_areBuffers 145 = .ok (.invokevirtual 108, 3) := by decide +kernel
theorem dL_areBuffers_148 : decode cL_areBuffers 148 = .ok (.iadd, 1) := by decide +kernel
theorem dL_areBuffers_149 : decode cL_areBuffers 149 = .ok (.if_icmp .ne 20, 3) := by decide +kernel
theorem dL_areBuffers_152 : decode cL_areBuffers 152 = .ok (.aload_n 0, 1) := by decide +kernel
theorem dL_areBuffers_153 : decode cL_areBuffers 153 = .ok (.iconst 1, 1) := by decide +kernel
theorem dL_areBuffers_154 : decode cL_areBuffers 154 = .ok (.invokevirtual 108, 3) := by decide +kernel
theorem dL_areBuffers_157 : decode cL_areBuffers 157 = .ok (.aload_n 0, 1) := by decide +kernel
theorem dL_areBuffers_158 : decode cL_areBuffers 158 = .ok (.iconst 0, 1) := by decide +kernel
theorem dL_areBuffers_159 : decode cL_areBuffers 159 = .ok (.invokevirtual 108, 3) := by decide +kernel
theorem dL_areBuffers_162 : decode cL_areBuffers 162 = .ok (.if_icmp .gt 7, 3) := by decide +kernel
theorem dL_areBuffers_165 : decode cL_areBuffers 165 = .ok (.iconst 1, 1) := by decide +kernel
theorem dL_areBuffers_166 : decode cL_areBuffers 166 = .ok (.goto 4, 3) := by decide +kernel
theorem dL_areBuffers_169 : decode cL_areBuffers 169 = .ok (.iconst 0, 1) := by decide +kernel
theorem dL_areBuffers_170 : decode cL_areBuffers 170 = .ok (.ireturn, 1) := by decide +kernel
theorem dL_isFrame_0 : decode cL_isFrame 0 = .ok (.aload_n 0, 1) := by decide +kernel
theorem dL_isFrame_1 : decode cL_isFrame 1 = .ok (.iconst 3, 1) := by decide +kernel
theorem dL_isFrame_2 : decode cL_isFrame 2 = .ok (.invokevirtual 71, 3) := by decide +kernel
theorem dL_isFrame_5 : decode cL_isFrame 5 = .ok (.istore_n 1, 1) := by decide +kernel
theorem dL_isFrame_6 : decode cL_isFrame 6 = .ok (.aload_n 0, 1) := by decide +kernel
theorem dL_isFrame_7 : decode cL_isFrame 7 = .ok (.iconst 0, 1) := by decide +kernel
theorem dL_isFrame_8 : decode cL_isFrame 8 = .ok (.invokevirtual 111, 3) := by decide +kernel
theorem dL_isFrame_11 : decode cL_isFrame 11 = .ok (.bipush 126, 2) := by decide +kernel
theorem dL_isFrame_13 : decode cL_isFrame 13 = .ok (.if_icmp .ne 24, 3) := by decide +kernel
theorem dL_isFrame_16 : decode cL_isFrame 16 = .ok (.aload_n 0, 1) := by decide +kernel
theorem dL_isFrame_17 : decode cL_isFrame 17 = .ok (.iload_n 1, 1) := by decide +kernel
theorem dL_isFrame_18 : decode cL_isFrame 18 = .ok (.iconst 1, 1) := by decide +kernel
theorem dL_isFrame_19 : decode cL_isFrame 19 = .ok (.isub, 1) := by decide +kernel
theorem dL_isFrame_20 : decode cL_isFrame 20 = .ok (.invokevirtual 111, 3) := by decide +kernel
theorem dL_isFrame_23 : decode cL_isFrame 23 = .ok (.bipush 126, 2) := by decide +kernel
theorem dL_isFrame_25 : decode cL_isFrame 25 = .ok (.if_icmp .ne 12, 3) := by decide +kernel
theorem dL_isFrame_28 : decode cL_isFrame 28 = .ok (.aload_n 0, 1) := by decide +kernel
theorem dL_isFrame_29 : decode cL_isFrame 29 = .ok (.iload_n 1, 1) := by decide +kernel
theorem dL_isFrame_30 : decode cL_isFrame 30 = .ok (.invokevirtual 111, 3) := by decide +kernel
theorem dL_isFrame_33 : decode cL_isFrame 33 = .ok (.iconst (-1), 1) := by decide +kernel
theorem dL_isFrame_34 : decode cL_isFrame 34 = .ok (.if_icmp .eq 5, 3) := by decide +kernel
theorem dL_isFrame_37 : decode cL_isFrame 37 = .ok (.iconst 0, 1) := by decide +kernel
theorem dL_isFrame_38 : decode cL_isFrame 38 = .ok (.ireturn, 1) := by decide +kernel
theorem dL_isFrame_39 : decode cL_isFrame 39 = .ok (.bipush 20, 2) := by decide +kernel
theorem dL_isFrame_41 : decode cL_isFrame 41 = .ok (.newarray .int, 2) := by decide +kernel
theorem dL_isFrame_43 : decode cL_isFrame 43 = .ok (.astore_n 2, 1) := by decide +kernel
theorem dL_isFrame_44 : decode cL_isFrame 44 = .ok (.iconst 0, 1) := by decide +kernel
theorem dL_isFrame_45 : decode cL_isFrame 45 = .ok (.istore_n 3, 1) := by decide +kernel
theorem dL_isFrame_46 : decode cL_isFrame 46 = .ok (.iconst 1, 1) := by decide +kernel
theorem dL_isFrame_47 : decode cL_isFrame 47 = .ok (.istore 4, 2) := by decide +kernel
theorem dL_isFrame_49 : decode cL_isFrame 49 = .ok (.iload 4, 2) := by decide +kernel
theorem dL_isFrame_51 : decode cL_isFrame 51 = .ok (.iload_n 1, 1) := by decide +kernel
theorem dL_isFrame_52 : decode cL_isFrame 52 = .ok (.iconst 1, 1) := by decide +kernel
theorem dL_isFrame_53 : decode cL_isFrame 53 = .ok (.isub, 1) := by decide +kernel
theorem dL_isFrame_54 : decode cL_isFrame 54 = .ok (.if_icmp .ge 55, 3) := by decide +kernel
theorem dL_isFrame_57 : decode cL_isFrame 57 = .ok (.aload_n 0, 1) := by decide +kernel
theorem dL_isFrame_58 : decode cL_isFrame 58 = .ok (.iload 4, 2) := by decide +kernel
theorem dL_isFrame_60 : decode cL_isFrame 60 = .ok (.invokevirtual 111, 3) := by decide +kernel
theorem dL_isFrame_63 : decode cL_isFrame 63 = .ok (.istore 5, 2) := by decide +kernel
theorem dL_isFrame_65 : decode cL_isFrame 65 = .ok (.iload 5, 2) := by decide +kernel
theorem dL_isFrame_67 : decode cL_isFrame 67 = .ok (.bipush 126, 2) := by decide +kernel
theorem dL_isFrame_69 : decode cL_isFrame 69 = .ok (.if_icmp .ne 5, 3) := by decide +kernel
theorem dL_isFrame_72 : decode cL_isFrame 72 = .ok (.iconst 0, 1) := by decide +kernel
theorem dL_isFrame_73 : decode cL_isFrame 73 = .ok (.ireturn, 1) := by decide +kernel
theorem dL_isFrame_74 : decode cL_isFrame 74 = .ok (.iload 5, 2) := by decide +kernel
theorem dL_isFrame_76 : decode cL_isFrame 76 = .ok (.bipush 125, 2) := by decide +kernel
theorem dL_isFrame_78 : decode cL_isFrame 78 = .ok (.if_icmp .ne 17, 3) := by decide +kernel
theorem dL_isFrame_81 : decode cL_isFrame 81 = .ok (.iinc 4 1, 3) := by decide +kernel
theorem dL_isFrame_84 : decode cL_isFrame 84 = .ok (.aload_n 0, 1) := by decide +kernel
theorem dL_isFrame_85 : decode cL_isFrame 85 = .ok (.iload 4, 2) := by decide +kernel
theorem dL_isFrame_87 : decode cL_isFrame 87 = .ok (.invokevirtual 111, 3) := by decide +kernel
theorem dL_isFrame_90 : decode cL_isFrame 90 = .ok (.bipush 32, 2) := by decide +kernel
theorem dL_isFrame_92 : decode cL_isFrame 92 = .ok (.ixor, 1) := by decide +kernel
theorem dL_isFrame_93 : decode cL_isFrame 93 = .ok (.istore 5, 2) := by decide +kernel
theorem dL_isFrame_95 : decode cL_isFrame 95 = .ok (.aload_n 2, 1) := by decide +kernel
theorem dL_isFrame_96 : decode cL_isFrame 96 = .ok (.iload_n 3, 1) := by decide +kernel
theorem dL_isFrame_97 : decode cL_isFrame 97 = .ok (.iload 5, 2) := by decide +kernel
theorem dL_isFrame_99 : decode cL_isFrame 99 = .ok (.iastore, 1) := by decide +kernel
theorem dL_isFrame_100 : decode cL_isFrame 100 = .ok (.iinc 3 1, 3) := by decide +kernel
theorem dL_isFrame_103 : decode cL_isFrame 103 = .ok (.iinc 4 1, 3) := by decide +kernel
theorem dL_isFrame_106 : decode cL_isFrame 106 = .ok (.goto (-57), 3) := by decide +kernel
theorem dL_isFrame_109 : decode cL_isFrame 109 = .ok (.iconst 0, 1) := by decide +kernel
theorem dL_isFrame_110 : decode cL_isFrame 110 = .ok (.istore 4, 2) := by decide +kernel
theorem dL_isFrame_112 : decode cL_isFrame 112 = .ok (.iconst 0, 1) := by decide +kernel
theorem dL_isFrame_113 : decode cL_isFrame 113 = .ok (.istore 5, 2) := by decide +kernel
theorem dL_isFrame_115 : decode cL_isFrame 115 = .ok (.iload 5, 2) := by decide +kernel
theorem dL_isFrame_117 : decode cL_isFrame 117 = .ok (.iload_n 3, 1) := by decide +kernel
theorem dL_isFrame_118 : decode cL_isFrame 118 = .ok (.iconst 1, 1) := by decide +kernel
theorem dL_isFrame_119 : decode cL_isFrame 119 = .ok (.isub, 1) := by decide +kernel
theorem dL_isFrame_120 : decode cL_isFrame 120 = .ok (.if_icmp .ge 18, 3) := by decide +kernel
theorem dL_isFrame_123 : decode cL_isFrame 123 = .ok (.iload 4, 2) := by decide +kernel
theorem dL_isFrame_125 : decode cL_isFrame 125 = .ok (.aload_n 2, 1) := by decide +kernel
theorem dL_isFrame_126 : decode cL_isFrame 126 = .ok (.iload 5, 2) := by decide +kernel
theorem dL_isFrame_128 : decode cL_isFrame 128 = .ok (.iaload, 1) := by decide +kernel
theorem dL_isFrame_129 : decode cL_isFrame 129 = .ok (.iadd, 1) := by decide +kernel
theorem dL_isFrame_130 : decode cL_isFrame 130 = .ok (.istore 4, 2) := by decide +kernel
theorem dL_isFrame_132 : decode cL_isFrame 132 = .ok (.iinc 5 1, 3) := by decide +kernel
theorem dL_isFrame_135 : decode cL_isFrame 135 = .ok (.goto (-20), 3) := by decide +kernel
theorem dL_isFrame_138 : decode cL_isFrame 138 = .ok (.aload_n 0, 1) := by decide +kernel
theorem dL_isFrame_139 : decode cL_isFrame 139 = .ok (.iconst 3, 1) := by decide +kernel
theorem dL_isFrame_140 : decode cL_isFrame 140 = .ok (.invokevirtual 68, 3) := by decide +kernel
theorem dL_isFrame_143 : decode cL_isFrame 143 = .ok (.istore 5, 2) := by decide +kernel
theorem dL_isFrame_145 : decode cL_isFrame 145 = .ok (.iload 4, 2) := by decide +kernel
theorem dL_isFrame_147 : decode cL_isFrame 147 = .ok (.sipush 255, 3) := by decide +kernel
theorem dL_isFrame_150 : decode cL_isFrame 150 = .ok (.iand, 1) := by decide +kernel
theorem dL_isFrame_151 : decode cL_isFrame 151 = .ok (.aload_n 2, 1) := by decide +kernel
theorem dL_isFrame_152 : decode cL_isFrame 152 = .ok (.iload_n 3, 1) := by decide +kernel
theorem dL_isFrame_153 : decode cL_isFrame 153 = .ok (.iconst 1, 1) := by decide +kernel
theorem dL_isFrame_154 : decode cL_isFrame 154 = .ok (.isub, 1) := by decide +kernel
theorem dL_isFrame_155 : decode cL_isFrame 155 = .ok (.iaload, 1) := by decide +kernel
theorem dL_isFrame_156 : decode cL_isFrame 156 = .ok (.if_icmp .ne 47, 3) := by decide +kernel
theorem dL_isFrame_159 : decode cL_isFrame 159 = .ok (.aload_n 2, 1) := by decide +kernel
theorem dL_isFrame_160 : decode cL_isFrame 160 = .ok (.iconst 0, 1) := by decide +kernel
theorem dL_isFrame_161 : decode cL_isFrame 161 = .ok (.iaload, 1) := by decide +kernel
theorem dL_isFrame_162 : decode cL_isFrame 162 = .ok (.aload_n 0, 1) := by decide +kernel
theorem dL_isFrame_163 : decode cL_isFrame 163 = .ok (.iconst 0, 1) := by decide +kernel
theorem dL_isFrame_164 : decode cL_isFrame 164 = .ok (.invokevirtual 71, 3) := by decide +kernel
theorem dL_isFrame_167 : decode cL_isFrame 167 = .ok (.iconst 2, 1) := by decide +kernel
theorem dL_isFrame_168 : decode cL_isFrame 168 = .ok (.iload 5, 2) := by decide +kernel
theorem dL_isFrame_170 : decode cL_isFrame 170 = .ok (.imul, 1) := by decide +kernel
theorem dL_isFrame_171 : decode cL_isFrame 171 = .ok (.iadd, 1) := by decide +kernel
theorem dL_isFrame_172 : decode cL_isFrame 172 = .ok (.if_icmp .ne 31, 3) := by decide +kernel
theorem dL_isFrame_175 : decode cL_isFrame 175 = .ok (.aload_n 2, 1) := by decide +kernel
theorem dL_isFrame_176 : decode cL_isFrame 176 = .ok (.iconst 1, 1) := by decide +kernel
theorem dL_isFrame_177 : decode cL_isFrame 177 = .ok (.iaload, 1) := by decide +kernel
theorem dL_isFrame_178 : decode cL_isFrame 178 = .ok (.aload_n 0, 1) := by decide +kernel
theorem dL_isFrame_179 : decode cL_isFrame 179 = .ok (.iconst 2, 1) := by decide +kernel
theorem dL_isFrame_180 : decode cL_isFrame 180 = .ok (.invokevirtual 71, 3) := by decide +kernel
theorem dL_isFrame_183 : decode cL_isFrame 183 = .ok (.sipush 255, 3) := by decide +kernel
theorem dL_isFrame_186 : decode cL_isFrame 186 = .ok (.iand, 1) := by decide +kernel
theorem dL_isFrame_187 : decode cL_isFrame 187 = .ok (.if_icmp .ne 16, 3) := by decide +kernel
theorem dL_isFrame_190 : decode cL_isFrame 190 = .ok (.aload_n 2, 1) := by decide +kernel
theorem dL_isFrame_191 : decode cL_isFrame 191 = .ok (.iconst 2, 1) := by decide +kernel
theorem dL_isFrame_192 : decode cL_isFrame 192 = .ok (.iaload, 1) := by decide +kernel
theorem dL_isFrame_193 : decode cL_isFrame 193 = .ok (.aload_n 0, 1) := by decide +kernel
theorem dL_isFrame_194 : decode cL_isFrame 194 = .ok (.iload 5, 2) := by decide +kernel
theorem dL_isFrame_196 : decode cL_isFrame 196 = .ok (.iconst 1, 1) := by decide +kernel
theorem dL_isFrame_197 : decode cL_isFrame 197 = .ok (.invokevirtual 60, 3) := by decide +kernel
theorem dL_isFrame_200 : decode cL_isFrame 200 = .ok (.if_icmp .eq 5, 3) := by decide +kernel
theorem dL_isFrame_203 : decode cL_isFrame 203 = .ok (.iconst 0, 1) := by decide +kernel
theorem dL_isFrame_204 : decode cL_isFrame 204 = .ok (.ireturn, 1) := by decide +kernel
theorem dL_isFrame_205 : decode cL_isFrame 205 = .ok (.aload_n 2, 1) := by decide +kernel
theorem dL_isFrame_206 : decode cL_isFrame 206 = .ok (.iconst 3, 1) := by decide +kernel
theorem dL_isFrame_207 : decode cL_isFrame 207 = .ok (.iaload, 1) := by decide +kernel
theorem dL_isFrame_208 : decode cL_isFrame 208 = .ok (.aload_n 0, 1) := by decide +kernel
theorem dL_isFrame_209 : decode cL_isFrame 209 = .ok (.iload 5, 2) := by decide +kernel
theorem dL_isFrame_211 : decode cL_isFrame 211 = .ok (.iconst 2, 1) := by decide +kernel
theorem dL_isFrame_212 : decode cL_isFrame 212 = .ok (.invokevirtual 60, 3) := by decide +kernel
theorem dL_isFrame_215 : decode cL_isFrame 215 = .ok (.aload_n 0, 1) := by decide +kernel
theorem dL_isFrame_216 : decode cL_isFrame 216 = .ok (.iload 5, 2) := by decide +kernel
theorem dL_isFrame_218 : decode cL_isFrame 218 = .ok (.iconst 3, 1) := by decide +kernel
theorem dL_isFrame_219 : decode cL_isFrame 219 = .ok (.invokevirtual 60, 3) := by decide +kernel
theorem dL_isFrame_222 : decode cL_isFrame 222 = .ok (.iadd, 1) := by decide +kernel
theorem dL_isFrame_223 : decode cL_isFrame 223 = .ok (.if_icmp .ne 33, 3) := by decide +kernel
theorem dL_isFrame_226 : decode cL_isFrame 226 = .ok (.aload_n 2, 1) := by decide +kernel
theorem dL_isFrame_227 : decode cL_isFrame 227 = .ok (.iconst 4, 1) := by decide +kernel
theorem dL_isFrame_228 : decode cL_isFrame 228 = .ok (.iaload, 1) := by decide +kernel
theorem dL_isFrame_229 : decode cL_isFrame 229 = .ok (.aload_n 0, 1) := by decide +kernel
theorem dL_isFrame_230 : decode cL_isFrame 230 = .ok (.iload 5, 2) := by decide +kernel
theorem dL_isFrame_232 : decode cL_isFrame 232 = .ok (.iconst 4, 1) := by decide +kernel
theorem dL_isFrame_233 : decode cL_isFrame 233 = .ok (.invokevirtual 60, 3) := by decide +kernel
theorem dL_isFrame_236 : decode cL_isFrame 236 = .ok (.if_icmp .ne 20, 3) := by decide +kernel
theorem dL_isFrame_239 : decode cL_isFrame 239 = .ok (.aload_n 2, 1) := by decide +kernel
theorem dL_isFrame_240 : decode cL_isFrame 240 = .ok (.iconst 5, 1) := by decide +kernel
theorem dL_isFrame_241 : decode cL_isFrame 241 = .ok (.iaload, 1) := by decide +kernel
theorem dL_isFrame_242 : decode cL_isFrame 242 = .ok (.aload_n 0, 1) := by decide +kernel
theorem dL_isFrame_243 : decode cL_isFrame 243 = .ok (.iload 5, 2) := by decide +kernel
theorem dL_isFrame_245 : decode cL_isFrame 245 = .ok (.iconst 5, 1) := by decide +kernel
theorem dL_isFrame_246 : decode cL_isFrame 246 = .ok (.invokevirtual 60, 3) := by decide +kernel
theorem dL_isFrame_249 : decode cL_isFrame 249 = .ok (.sipush 255, 3) := by decide +kernel
theorem dL_isFrame_252 : decode cL_isFrame 252 = .ok (.iand, 1) := by decide +kernel
theorem dL_isFrame_253 : decode cL_isFrame 253 = .ok (.if_icmp .eq 5, 3) := by decide +kernel
theorem dL_isFrame_256 : decode cL_isFrame 256 = .ok (.iconst 0, 1) := by decide +kernel
theorem dL_isFrame_257 : decode cL_isFrame 257 = .ok (.ireturn, 1) := by decide +kernel
theorem dL_isFrame_258 : decode cL_isFrame 258 = .ok (.aload_n 0, 1) := by decide +kernel
theorem dL_isFrame_259 : decode cL_isFrame 259 = .ok (.iconst 0, 1) := by decide +kernel
theorem dL_isFrame_260 : decode cL_isFrame 260 = .ok (.invokevirtual 71, 3) := by decide +kernel
theorem dL_isFrame_263 : decode cL_isFrame 263 = .ok (.iconst 1, 1) := by decide +kernel
theorem dL_isFrame_264 : decode cL_isFrame 264 = .ok (.if_icmp .ne 15, 3) := by decide +kernel
theorem dL_isFrame_267 : decode cL_isFrame 267 = .ok (.iload_n 3, 1) := by decide +kernel
theorem dL_isFrame_268 : decode cL_isFrame 268 = .ok (.bipush 7, 2) := by decide +kernel
theorem dL_isFrame_270 : decode cL_isFrame 270 = .ok (.if_icmp .ne 7, 3) := by decide +kernel
theorem dL_isFrame_273 : decode cL_isFrame 273 = .ok (.iconst 1, 1) := by decide +kernel
theorem dL_isFrame_274 : decode cL_isFrame 274 = .ok (.goto 4, 3) := by decide +kernel
theorem dL_isFrame_277 : decode cL_isFrame 277 = .ok (.iconst 0, 1) := by decide +kernel
theorem dL_isFrame_278 : decode cL_isFrame 278 = .ok (.ireturn, 1) := by decide +kernel
theorem dL_isFrame_279 : decode cL_isFrame 279 = .ok (.aload_n 0, 1) := by decide +kernel
theorem dL_isFrame_280 : decode cL_isFrame 280 = .ok (.iconst 2, 1) := by decide +kernel
theorem dL_isFrame_281 : decode cL_isFrame 281 = .ok (.invokevirtual 71, 3) := by decide +kernel
theorem dL_isFrame_284 : decode cL_isFrame 284 = .ok (.istore 6, 2) := by decide +kernel
theorem dL_isFrame_286 : decode cL_isFrame 286 = .ok (.bipush 6, 2) := by decide +kernel
theorem dL_isFrame_288 : decode cL_isFrame 288 = .ok (.istore 7, 2) := by decide +kernel
theorem dL_isFrame_290 : decode cL_isFrame 290 = .ok (.iload 7, 2) := by decide +kernel
theorem dL_isFrame_292 : decode cL_isFrame 292 = .ok (.iload_n 3, 1) := by decide +kernel
theorem dL_isFrame_293 : decode cL_isFrame 293 = .ok (.iconst 1, 1) := by decide +kernel
theorem dL_isFrame_294 : decode cL_isFrame 294 = .ok (.isub, 1) := by decide +kernel
theorem dL_isFrame_295 : decode cL_isFrame 295 = .ok (.if_icmp .ge 31, 3) := by decide +kernel
theorem dL_isFrame_298 : decode cL_isFrame 298 = .ok (.aload_n 2, 1) := by decide +kernel
theorem dL_isFrame_299 : decode cL_isFrame 299 = .ok (.iload 7, 2) := by decide +kernel
theorem dL_isFrame_301 : decode cL_isFrame 301 = .ok (.iaload, 1) := by decide +kernel
theorem dL_isFrame_302 : decode cL_isFrame 302 = .ok (.aload_n 0, 1) := by decide +kernel
theorem dL_isFrame_303 : decode cL_isFrame 303 = .ok (.iload 5, 2) := by decide +kernel
theorem dL_isFrame_305 : decode cL_isFrame 305 = .ok (.iload 6, 2) := by decide +kernel
theorem dL_isFrame_307 : decode cL_isFrame 307 = .ok (.iload 7, 2) := by decide +kernel
theorem dL_isFrame_309 : decode cL_isFrame 309 = .ok (.bipush 6, 2) := by decide +kernel
theorem dL_isFrame_311 : decode cL_isFrame 311 = .ok (.isub, 1) := by decide +kernel
theorem dL_isFrame_312 : decode cL_isFrame 312 = .ok (.invokevirtual 114, 3) := by decide +kernel
theorem dL_isFrame_315 : decode cL_isFrame 315 = .ok (.if_icmp .eq 5, 3) := by decide +kernel
theorem dL_isFrame_318 : decode cL_isFrame 318 = .ok (.iconst 0, 1) := by decide +kernel
theorem dL_isFrame_319 : decode cL_isFrame 319 = .ok (.ireturn, 1) := by decide +kernel
theorem dL_isFrame_320 : decode cL_isFrame 320 = .ok (.iinc 7 1, 3) := by decide +kernel
theorem dL_isFrame_323 : decode cL_isFrame 323 = .ok (.goto (-33), 3) := by decide +kernel
theorem dL_isFrame_326 : decode cL_isFrame 326 = .ok (.aload_n 0, 1) := by decide +kernel
theorem dL_isFrame_327 : decode cL_isFrame 327 = .ok (.iload 5, 2) := by decide +kernel
theorem dL_isFrame_329 : decode cL_isFrame 329 = .ok (.iload 6, 2) := by decide +kernel
theorem dL_isFrame_331 : decode cL_isFrame 331 = .ok (.iload_n 3, 1) := by decide +kernel
theorem dL_isFrame_332 : decode cL_isFrame 332 = .ok (.bipush 7, 2) := by decide +kernel
theorem dL_isFrame_334 : decode cL_isFrame 334 = .ok (.isub, 1) := by decide +kernel
theorem dL_isFrame_335 : decode cL_isFrame 335 = .ok (.invokevirtual 114, 3) := by decide +kernel
theorem dL_isFrame_338 : decode cL_isFrame 338 = .ok (.iconst (-1), 1) := by decide +kernel
theorem dL_isFrame_339 : decode cL_isFrame 339 = .ok (.if_icmp .ne 7, 3) := by decide +kernel
theorem dL_isFrame_342 : decode cL_isFrame 342 = .ok (.iconst 1, 1) := by decide +kernel
theorem dL_isFrame_343 : decode cL_isFrame 343 = .ok (.goto 4, 3) := by decide +kernel
theorem dL_isFrame_346 : decode cL_isFrame 346 = .ok (.iconst 0, 1) := by decide +kernel
theorem dL_isFrame_347 : decode cL_isFrame 347 = .ok (.ireturn, 1) := by decide +kernel
theorem dL_refuses_0 : decode cL_refuses 0 = .ok (.aload_n 0, 1) := by decide +kernel
theorem dL_refuses_1 : decode cL_refuses 1 = .ok (.iconst 0, 1) := by decide +kernel
theorem dL_refuses_2 : decode cL_refuses 2 = .ok (.invokevirtual 105, 3) := by decide +kernel
theorem dL_refuses_5 : decode cL_refuses 5 = .ok (.pop, 1) := by decide +kernel
theorem dL_refuses_6 : decode cL_refuses 6 = .ok (.iconst 0, 1) := by decide +kernel
theorem dL_refuses_7 : decode cL_refuses 7 = .ok (.ireturn, 1) := by decide +kernel
theorem dL_refuses_8 : decode cL_refuses 8 = .ok (.astore_n 1, 1) := by decide +kernel
theorem dL_refuses_9 : decode cL_refuses 9 = .ok (.iconst 1, 1) := by decide +kernel
theorem dL_refuses_10 : decode cL_refuses 10 = .ok (.ireturn, 1) := by decide +kernel
end DecL
