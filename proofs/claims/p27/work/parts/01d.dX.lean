theorem dX0_init_0 : decode cX0_init 0 = .ok (.aload_n 0, 1) := by decide +kernel
theorem dX0_init_1 : decode cX0_init 1 = .ok (.invokespecial 3, 3) := by decide +kernel
theorem dX0_init_4 : decode cX0_init 4 = .ok (.aload_n 0, 1) := by decide +kernel
theorem dX0_init_5 : decode cX0_init 5 = .ok (.new 9, 3) := by decide +kernel
theorem dX0_init_8 : decode cX0_init 8 = .ok (.dup, 1) := by decide +kernel
theorem dX0_init_9 : decode cX0_init 9 = .ok (.invokespecial 11, 3) := by decide +kernel
theorem dX0_init_12 : decode cX0_init 12 = .ok (.putfield 12, 3) := by decide +kernel
theorem dX0_init_15 : decode cX0_init 15 = .ok (.aload_n 0, 1) := by decide +kernel
theorem dX0_init_16 : decode cX0_init 16 = .ok (.new 9, 3) := by decide +kernel
theorem dX0_init_19 : decode cX0_init 19 = .ok (.dup, 1) := by decide +kernel
theorem dX0_init_20 : decode cX0_init 20 = .ok (.invokespecial 11, 3) := by decide +kernel
theorem dX0_init_23 : decode cX0_init 23 = .ok (.putfield 18, 3) := by decide +kernel
theorem dX0_init_26 : decode cX0_init 26 = .ok (.aload_n 0, 1) := by decide +kernel
theorem dX0_init_27 : decode cX0_init 27 = .ok (.new 21, 3) := by decide +kernel
theorem dX0_init_30 : decode cX0_init 30 = .ok (.dup, 1) := by decide +kernel
theorem dX0_init_31 : decode cX0_init 31 = .ok (.invokespecial 23, 3) := by decide +kernel
theorem dX0_init_34 : decode cX0_init 34 = .ok (.putfield 24, 3) := by decide +kernel
theorem dX0_init_37 : decode cX0_init 37 = .ok (.return_, 1) := by decide +kernel
theorem dX1_init_0 : decode cX1_init 0 = .ok (.aload_n 0, 1) := by decide +kernel
theorem dX1_init_1 : decode cX1_init 1 = .ok (.invokespecial 3, 3) := by decide +kernel
theorem dX1_init_4 : decode cX1_init 4 = .ok (.aload_n 0, 1) := by decide +kernel
theorem dX1_init_5 : decode cX1_init 5 = .ok (.bipush 15, 2) := by decide +kernel
theorem dX1_init_7 : decode cX1_init 7 = .ok (.newarray .int, 2) := by decide +kernel
theorem dX1_init_9 : decode cX1_init 9 = .ok (.putfield 11, 3) := by decide +kernel
theorem dX1_init_12 : decode cX1_init 12 = .ok (.return_, 1) := by decide +kernel
theorem dX1_fillFrom_0 : decode cX1_fillFrom 0 = .ok (.aload_n 1, 1) := by decide +kernel
theorem dX1_fillFrom_1 : decode cX1_fillFrom 1 = .ok (.aload_n 1, 1) := by decide +kernel
theorem dX1_fillFrom_2 : decode cX1_fillFrom 2 = .ok (.getfield 15, 3) := by decide +kernel
theorem dX1_fillFrom_5 : decode cX1_fillFrom 5 = .ok (.invokevirtual 21, 3) := by decide +kernel
theorem dX1_fillFrom_8 : decode cX1_fillFrom 8 = .ok (.astore_n 2, 1) := by decide +kernel
theorem dX1_fillFrom_9 : decode cX1_fillFrom 9 = .ok (.aload_n 1, 1) := by decide +kernel
theorem dX1_fillFrom_10 : decode cX1_fillFrom 10 = .ok (.aload_n 2, 1) := by decide +kernel
theorem dX1_fillFrom_11 : decode cX1_fillFrom 11 = .ok (.invokevirtual 25, 3) := by decide +kernel
theorem dX1_fillFrom_14 : decode cX1_fillFrom 14 = .ok (.istore_n 3, 1) := by decide +kernel
theorem dX1_fillFrom_15 : decode cX1_fillFrom 15 = .ok (.aload_n 0, 1) := by decide +kernel
theorem dX1_fillFrom_16 : decode cX1_fillFrom 16 = .ok (.iload_n 3, 1) := by decide +kernel
theorem dX1_fillFrom_17 : decode cX1_fillFrom 17 = .ok (.iconst (-1), 1) := by decide +kernel
theorem dX1_fillFrom_18 : decode cX1_fillFrom 18 = .ok (.if_icmp .eq 7, 3) := by decide +kernel
theorem dX1_fillFrom_21 : decode cX1_fillFrom 21 = .ok (.iconst 1, 1) := by decide +kernel
theorem dX1_fillFrom_22 : decode cX1_fillFrom 22 = .ok (.goto 4, 3) := by decide +kernel
theorem dX1_fillFrom_25 : decode cX1_fillFrom 25 = .ok (.iconst 0, 1) := by decide +kernel
theorem dX1_fillFrom_26 : decode cX1_fillFrom 26 = .ok (.putfield 29, 3) := by decide +kernel
theorem dX1_fillFrom_29 : decode cX1_fillFrom 29 = .ok (.aload_n 0, 1) := by decide +kernel
theorem dX1_fillFrom_30 : decode cX1_fillFrom 30 = .ok (.aload_n 0, 1) := by decide +kernel
theorem dX1_fillFrom_31 : decode cX1_fillFrom 31 = .ok (.getfield 29, 3) := by decide +kernel
theorem dX1_fillFrom_34 : decode cX1_fillFrom 34 = .ok (.ifCond .eq 7, 3) := by decide +kernel
theorem dX1_fillFrom_37 : decode cX1_fillFrom 37 = .ok (.iload_n 3, 1) := by decide +kernel
theorem dX1_fillFrom_38 : decode cX1_fillFrom 38 = .ok (.goto 7, 3) := by decide +kernel
theorem dX1_fillFrom_41 : decode cX1_fillFrom 41 = .ok (.aload_n 2, 1) := by decide +kernel
theorem dX1_fillFrom_42 : decode cX1_fillFrom 42 = .ok (.getfield 33, 3) := by decide +kernel
theorem dX1_fillFrom_45 : decode cX1_fillFrom 45 = .ok (.putfield 38, 3) := by decide +kernel
theorem dX1_fillFrom_48 : decode cX1_fillFrom 48 = .ok (.aload_n 0, 1) := by decide +kernel
theorem dX1_fillFrom_49 : decode cX1_fillFrom 49 = .ok (.iconst 0, 1) := by decide +kernel
theorem dX1_fillFrom_50 : decode cX1_fillFrom 50 = .ok (.putfield 41, 3) := by decide +kernel
theorem dX1_fillFrom_53 : decode cX1_fillFrom 53 = .ok (.aload_n 0, 1) := by decide +kernel
theorem dX1_fillFrom_54 : decode cX1_fillFrom 54 = .ok (.iconst 0, 1) := by decide +kernel
theorem dX1_fillFrom_55 : decode cX1_fillFrom 55 = .ok (.putfield 44, 3) := by decide +kernel
theorem dX1_fillFrom_58 : decode cX1_fillFrom 58 = .ok (.aload_n 0, 1) := by decide +kernel
theorem dX1_fillFrom_59 : decode cX1_fillFrom 59 = .ok (.iconst 0, 1) := by decide +kernel
theorem dX1_fillFrom_60 : decode cX1_fillFrom 60 = .ok (.putfield 47, 3) := by decide +kernel
theorem dX1_fillFrom_63 : decode cX1_fillFrom 63 = .ok (.aload_n 0, 1) := by decide +kernel
theorem dX1_fillFrom_64 : decode cX1_fillFrom 64 = .ok (.aload_n 0, 1) := by decide +kernel
theorem dX1_fillFrom_65 : decode cX1_fillFrom 65 = .ok (.getfield 29, 3) := by decide +kernel
theorem dX1_fillFrom_68 : decode cX1_fillFrom 68 = .ok (.ifCond .eq 7, 3) := by decide +kernel
theorem dX1_fillFrom_71 : decode cX1_fillFrom 71 = .ok (.iconst 0, 1) := by decide +kernel
theorem dX1_fillFrom_72 : decode cX1_fillFrom 72 = .ok (.goto 4, 3) := by decide +kernel
theorem dX1_fillFrom_75 : decode cX1_fillFrom 75 = .ok (.iconst 1, 1) := by decide +kernel
theorem dX1_fillFrom_76 : decode cX1_fillFrom 76 = .ok (.iconst 2, 1) := by decide +kernel
theorem dX1_fillFrom_77 : decode cX1_fillFrom 77 = .ok (.aload_n 1, 1) := by decide +kernel
theorem dX1_fillFrom_78 : decode cX1_fillFrom 78 = .ok (.getfield 15, 3) := by decide +kernel
theorem dX1_fillFrom_81 : decode cX1_fillFrom 81 = .ok (.imul, 1) := by decide +kernel
theorem dX1_fillFrom_82 : decode cX1_fillFrom 82 = .ok (.iadd, 1) := by decide +kernel
theorem dX1_fillFrom_83 : decode cX1_fillFrom 83 = .ok (.invokevirtual 50, 3) := by decide +kernel
theorem dX1_fillFrom_86 : decode cX1_fillFrom 86 = .ok (.aload_n 0, 1) := by decide +kernel
theorem dX1_fillFrom_87 : decode cX1_fillFrom 87 = .ok (.aload_n 0, 1) := by decide +kernel
theorem dX1_fillFrom_88 : decode cX1_fillFrom 88 = .ok (.getfield 38, 3) := by decide +kernel
theorem dX1_fillFrom_91 : decode cX1_fillFrom 91 = .ok (.invokevirtual 50, 3) := by decide +kernel
theorem dX1_fillFrom_94 : decode cX1_fillFrom 94 = .ok (.aload_n 0, 1) := by decide +kernel
theorem dX1_fillFrom_95 : decode cX1_fillFrom 95 = .ok (.aload_n 2, 1) := by decide +kernel
theorem dX1_fillFrom_96 : decode cX1_fillFrom 96 = .ok (.getfield 54, 3) := by decide +kernel
theorem dX1_fillFrom_99 : decode cX1_fillFrom 99 = .ok (.invokevirtual 50, 3) := by decide +kernel
theorem dX1_fillFrom_102 : decode cX1_fillFrom 102 = .ok (.aload_n 0, 1) := by decide +kernel
theorem dX1_fillFrom_103 : decode cX1_fillFrom 103 = .ok (.aload_n 2, 1) := by decide +kernel
theorem dX1_fillFrom_104 : decode cX1_fillFrom 104 = .ok (.invokevirtual 57, 3) := by decide +kernel
theorem dX1_fillFrom_107 : decode cX1_fillFrom 107 = .ok (.invokevirtual 50, 3) := by decide +kernel
theorem dX1_fillFrom_110 : decode cX1_fillFrom 110 = .ok (.aload_n 0, 1) := by decide +kernel
theorem dX1_fillFrom_111 : decode cX1_fillFrom 111 = .ok (.aload_n 2, 1) := by decide +kernel
theorem dX1_fillFrom_112 : decode cX1_fillFrom 112 = .ok (.getfield 61, 3) := by decide +kernel
theorem dX1_fillFrom_115 : decode cX1_fillFrom 115 = .ok (.invokevirtual 50, 3) := by decide +kernel
theorem dX1_fillFrom_118 : decode cX1_fillFrom 118 = .ok (.aload_n 0, 1) := by decide +kernel
theorem dX1_fillFrom_119 : decode cX1_fillFrom 119 = .ok (.aload_n 2, 1) := by decide +kernel
theorem dX1_fillFrom_120 : decode cX1_fillFrom 120 = .ok (.getfield 64, 3) := by decide +kernel
theorem dX1_fillFrom_123 : decode cX1_fillFrom 123 = .ok (.invokevirtual 50, 3) := by decide +kernel
theorem dX1_fillFrom_126 : decode cX1_fillFrom 126 = .ok (.aload_n 0, 1) := by decide +kernel
theorem dX1_fillFrom_127 : decode cX1_fillFrom 127 = .ok (.getfield 29, 3) := by decide +kernel
theorem dX1_fillFrom_130 : decode cX1_fillFrom 130 = .ok (.ifCond .eq 14, 3) := by decide +kernel
theorem dX1_fillFrom_133 : decode cX1_fillFrom 133 = .ok (.aload_n 2, 1) := by decide +kernel
theorem dX1_fillFrom_134 : decode cX1_fillFrom 134 = .ok (.aload_n 0, 1) := by decide +kernel
theorem dX1_fillFrom_135 : decode cX1_fillFrom 135 = .ok (.getfield 38, 3) := by decide +kernel
theorem dX1_fillFrom_138 : decode cX1_fillFrom 138 = .ok (.invokevirtual 67, 3) := by decide +kernel
theorem dX1_fillFrom_141 : decode cX1_fillFrom 141 = .ok (.goto 4, 3) := by decide +kernel
theorem dX1_fillFrom_144 : decode cX1_fillFrom 144 = .ok (.iconst 0, 1) := by decide +kernel
theorem dX1_fillFrom_145 : decode cX1_fillFrom 145 = .ok (.istore 4, 2) := by decide +kernel
theorem dX1_fillFrom_147 : decode cX1_fillFrom 147 = .ok (.iconst 0, 1) := by decide +kernel
theorem dX1_fillFrom_148 : decode cX1_fillFrom 148 = .ok (.istore 5, 2) := by decide +kernel
theorem dX1_fillFrom_150 : decode cX1_fillFrom 150 = .ok (.iload 5, 2) := by decide +kernel
theorem dX1_fillFrom_152 : decode cX1_fillFrom 152 = .ok (.iload 4, 2) := by decide +kernel
theorem dX1_fillFrom_154 : decode cX1_fillFrom 154 = .ok (.if_icmp .ge 23, 3) := by decide +kernel
theorem dX1_fillFrom_157 : decode cX1_fillFrom 157 = .ok (.aload_n 0, 1) := by decide +kernel
theorem dX1_fillFrom_158 : decode cX1_fillFrom 158 = .ok (.aload_n 2, 1) := by decide +kernel
theorem dX1_fillFrom_159 : decode cX1_fillFrom 159 = .ok (.aload_n 0, 1) := by decide +kernel
theorem dX1_fillFrom_160 : decode cX1_fillFrom 160 = .ok (.getfield 38, 3) := by decide +kernel
theorem dX1_fillFrom_163 : decode cX1_fillFrom 163 = .ok (.iload 5, 2) := by decide +kernel
theorem dX1_fillFrom_165 : decode cX1_fillFrom 165 = .ok (.invokevirtual 71, 3) := by decide +kernel
theorem dX1_fillFrom_168 : decode cX1_fillFrom 168 = .ok (.invokevirtual 50, 3) := by decide +kernel
theorem dX1_fillFrom_171 : decode cX1_fillFrom 171 = .ok (.iinc 5 1, 3) := by decide +kernel
theorem dX1_fillFrom_174 : decode cX1_fillFrom 174 = .ok (.goto (-24), 3) := by decide +kernel
theorem dX1_fillFrom_177 : decode cX1_fillFrom 177 = .ok (.aload_n 0, 1) := by decide +kernel
theorem dX1_fillFrom_178 : decode cX1_fillFrom 178 = .ok (.aload_n 0, 1) := by decide +kernel
theorem dX1_fillFrom_179 : decode cX1_fillFrom 179 = .ok (.getfield 44, 3) := by decide +kernel
theorem dX1_fillFrom_182 : decode cX1_fillFrom 182 = .ok (.invokevirtual 50, 3) := by decide +kernel
theorem dX1_fillFrom_185 : decode cX1_fillFrom 185 = .ok (.return_, 1) := by decide +kernel
theorem dX1_addPlain_0 : decode cX1_addPlain 0 = .ok (.aload_n 0, 1) := by decide +kernel
theorem dX1_addPlain_1 : decode cX1_addPlain 1 = .ok (.getfield 41, 3) := by decide +kernel
theorem dX1_addPlain_4 : decode cX1_addPlain 4 = .ok (.ifCond .lt 15, 3) := by decide +kernel
theorem dX1_addPlain_7 : decode cX1_addPlain 7 = .ok (.aload_n 0, 1) := by decide +kernel
theorem dX1_addPlain_8 : decode cX1_addPlain 8 = .ok (.getfield 41, 3) := by decide +kernel
theorem dX1_addPlain_11 : decode cX1_addPlain 11 = .ok (.aload_n 0, 1) := by decide +kernel
theorem dX1_addPlain_12 : decode cX1_addPlain 12 = .ok (.getfield 11, 3) := by decide +kernel
theorem dX1_addPlain_15 : decode cX1_addPlain 15 = .ok (.arraylength, 1) := by decide +kernel
theorem dX1_addPlain_16 : decode cX1_addPlain 16 = .ok (.if_icmp .lt 4, 3) := by decide +kernel
theorem dX1_addPlain_19 : decode cX1_addPlain 19 = .ok (.return_, 1) := by decide +kernel
theorem dX1_addPlain_20 : decode cX1_addPlain 20 = .ok (.iload_n 1, 1) := by decide +kernel
theorem dX1_addPlain_21 : decode cX1_addPlain 21 = .ok (.sipush 255, 3) := by decide +kernel
theorem dX1_addPlain_24 : decode cX1_addPlain 24 = .ok (.iand, 1) := by decide +kernel
theorem dX1_addPlain_25 : decode cX1_addPlain 25 = .ok (.istore_n 2, 1) := by decide +kernel
theorem dX1_addPlain_26 : decode cX1_addPlain 26 = .ok (.aload_n 0, 1) := by decide +kernel
theorem dX1_addPlain_27 : decode cX1_addPlain 27 = .ok (.getfield 11, 3) := by decide +kernel
theorem dX1_addPlain_30 : decode cX1_addPlain 30 = .ok (.aload_n 0, 1) := by decide +kernel
theorem dX1_addPlain_31 : decode cX1_addPlain 31 = .ok (.getfield 41, 3) := by decide +kernel
theorem dX1_addPlain_34 : decode cX1_addPlain 34 = .ok (.iload_n 2, 1) := by decide +kernel
theorem dX1_addPlain_35 : decode cX1_addPlain 35 = .ok (.iastore, 1) := by decide +kernel
theorem dX1_addPlain_36 : decode cX1_addPlain 36 = .ok (.aload_n 0, 1) := by decide +kernel
theorem dX1_addPlain_37 : decode cX1_addPlain 37 = .ok (.dup, 1) := by decide +kernel
theorem dX1_addPlain_38 : decode cX1_addPlain 38 = .ok (.getfield 41, 3) := by decide +kernel
theorem dX1_addPlain_41 : decode cX1_addPlain 41 = .ok (.iconst 1, 1) := by decide +kernel
theorem dX1_addPlain_42 : decode cX1_addPlain 42 = .ok (.iadd, 1) := by decide +kernel
theorem dX1_addPlain_43 : decode cX1_addPlain 43 = .ok (.putfield 41, 3) := by decide +kernel
theorem dX1_addPlain_46 : decode cX1_addPlain 46 = .ok (.aload_n 0, 1) := by decide +kernel
theorem dX1_addPlain_47 : decode cX1_addPlain 47 = .ok (.dup, 1) := by decide +kernel
theorem dX1_addPlain_48 : decode cX1_addPlain 48 = .ok (.getfield 44, 3) := by decide +kernel
theorem dX1_addPlain_51 : decode cX1_addPlain 51 = .ok (.iload_n 2, 1) := by decide +kernel
theorem dX1_addPlain_52 : decode cX1_addPlain 52 = .ok (.iadd, 1) := by decide +kernel
theorem dX1_addPlain_53 : decode cX1_addPlain 53 = .ok (.putfield 44, 3) := by decide +kernel
theorem dX1_addPlain_56 : decode cX1_addPlain 56 = .ok (.iload_n 2, 1) := by decide +kernel
theorem dX1_addPlain_57 : decode cX1_addPlain 57 = .ok (.invokestatic 75, 3) := by decide +kernel
theorem dX1_addPlain_60 : decode cX1_addPlain 60 = .ok (.ifCond .eq 13, 3) := by decide +kernel
theorem dX1_addPlain_63 : decode cX1_addPlain 63 = .ok (.aload_n 0, 1) := by decide +kernel
theorem dX1_addPlain_64 : decode cX1_addPlain 64 = .ok (.dup, 1) := by decide +kernel
theorem dX1_addPlain_65 : decode cX1_addPlain 65 = .ok (.getfield 47, 3) := by decide +kernel
theorem dX1_addPlain_68 : decode cX1_addPlain 68 = .ok (.iconst 1, 1) := by decide +kernel
theorem dX1_addPlain_69 : decode cX1_addPlain 69 = .ok (.iadd, 1) := by decide +kernel
theorem dX1_addPlain_70 : decode cX1_addPlain 70 = .ok (.putfield 47, 3) := by decide +kernel
theorem dX1_addPlain_73 : decode cX1_addPlain 73 = .ok (.return_, 1) := by decide +kernel
theorem dX1_isEscaped_0 : decode cX1_isEscaped 0 = .ok (.iload_n 0, 1) := by decide +kernel
theorem dX1_isEscaped_1 : decode cX1_isEscaped 1 = .ok (.bipush 125, 2) := by decide +kernel
theorem dX1_isEscaped_3 : decode cX1_isEscaped 3 = .ok (.if_icmp .eq 9, 3) := by decide +kernel
theorem dX1_isEscaped_6 : decode cX1_isEscaped 6 = .ok (.iload_n 0, 1) := by decide +kernel
theorem dX1_isEscaped_7 : decode cX1_isEscaped 7 = .ok (.bipush 126, 2) := by decide +kernel
theorem dX1_isEscaped_9 : decode cX1_isEscaped 9 = .ok (.if_icmp .ne 7, 3) := by decide +kernel
theorem dX1_isEscaped_12 : decode cX1_isEscaped 12 = .ok (.iconst 1, 1) := by decide +kernel
theorem dX1_isEscaped_13 : decode cX1_isEscaped 13 = .ok (.goto 4, 3) := by decide +kernel
theorem dX1_isEscaped_16 : decode cX1_isEscaped 16 = .ok (.iconst 0, 1) := by decide +kernel
theorem dX1_isEscaped_17 : decode cX1_isEscaped 17 = .ok (.ireturn, 1) := by decide +kernel
theorem dX1_bytesOnLine_0 : decode cX1_bytesOnLine 0 = .ok (.iconst 2, 1) := by decide +kernel
theorem dX1_bytesOnLine_1 : decode cX1_bytesOnLine 1 = .ok (.aload_n 0, 1) := by decide +kernel
theorem dX1_bytesOnLine_2 : decode cX1_bytesOnLine 2 = .ok (.getfield 41, 3) := by decide +kernel
theorem dX1_bytesOnLine_5 : decode cX1_bytesOnLine 5 = .ok (.iadd, 1) := by decide +kernel
theorem dX1_bytesOnLine_6 : decode cX1_bytesOnLine 6 = .ok (.aload_n 0, 1) := by decide +kernel
theorem dX1_bytesOnLine_7 : decode cX1_bytesOnLine 7 = .ok (.getfield 47, 3) := by decide +kernel
theorem dX1_bytesOnLine_10 : decode cX1_bytesOnLine 10 = .ok (.iadd, 1) := by decide +kernel
theorem dX1_bytesOnLine_11 : decode cX1_bytesOnLine 11 = .ok (.ireturn, 1) := by decide +kernel
theorem dX1_byteOnLine_0 : decode cX1_byteOnLine 0 = .ok (.iload_n 1, 1) := by decide +kernel
theorem dX1_byteOnLine_1 : decode cX1_byteOnLine 1 = .ok (.ifCond .ne 6, 3) := by decide +kernel
theorem dX1_byteOnLine_4 : decode cX1_byteOnLine 4 = .ok (.bipush 126, 2) := by decide +kernel
theorem dX1_byteOnLine_6 : decode cX1_byteOnLine 6 = .ok (.ireturn, 1) := by decide +kernel
theorem dX1_byteOnLine_7 : decode cX1_byteOnLine 7 = .ok (.iconst 1, 1) := by decide +kernel
theorem dX1_byteOnLine_8 : decode cX1_byteOnLine 8 = .ok (.istore_n 2, 1) := by decide +kernel
theorem dX1_byteOnLine_9 : decode cX1_byteOnLine 9 = .ok (.iconst 0, 1) := by decide +kernel
theorem dX1_byteOnLine_10 : decode cX1_byteOnLine 10 = .ok (.istore_n 3, 1) := by decide +kernel
theorem dX1_byteOnLine_11 : decode cX1_byteOnLine 11 = .ok (.iload_n 3, 1) := by decide +kernel
theorem dX1_byteOnLine_12 : decode cX1_byteOnLine 12 = .ok (.aload_n 0, 1) := by decide +kernel
theorem dX1_byteOnLine_13 : decode cX1_byteOnLine 13 = .ok (.getfield 41, 3) := by decide +kernel
theorem dX1_byteOnLine_16 : decode cX1_byteOnLine 16 = .ok (.if_icmp .ge 63, 3) := by decide +kernel
theorem dX1_byteOnLine_19 : decode cX1_byteOnLine 19 = .ok (.iload_n 3, 1) := by decide +kernel
theorem dX1_byteOnLine_20 : decode cX1_byteOnLine 20 = .ok (.aload_n 0, 1) := by decide +kernel
theorem dX1_byteOnLine_21 : decode cX1_byteOnLine 21 = .ok (.getfield 11, 3) := by decide +kernel
theorem dX1_byteOnLine_24 : decode cX1_byteOnLine 24 = .ok (.arraylength, 1) := by decide +kernel
theorem dX1_byteOnLine_25 : decode cX1_byteOnLine 25 = .ok (.if_icmp .ge 54, 3) := by decide +kernel
theorem dX1_byteOnLine_28 : decode cX1_byteOnLine 28 = .ok (.aload_n 0, 1) := by decide +kernel
theorem dX1_byteOnLine_29 : decode cX1_byteOnLine 29 = .ok (.getfield 11, 3) := by decide +kernel
theorem dX1_byteOnLine_32 : decode cX1_byteOnLine 32 = .ok (.iload_n 3, 1) := by decide +kernel
theorem dX1_byteOnLine_33 : decode cX1_byteOnLine 33 = .ok (.iaload, 1) := by decide +kernel
theorem dX1_byteOnLine_34 : decode cX1_byteOnLine 34 = .ok (.istore 4, 2) := by decide +kernel
theorem dX1_byteOnLine_36 : decode cX1_byteOnLine 36 = .ok (.iload 4, 2) := by decide +kernel
theorem dX1_byteOnLine_38 : decode cX1_byteOnLine 38 = .ok (.invokestatic 75, 3) := by decide +kernel
theorem dX1_byteOnLine_41 : decode cX1_byteOnLine 41 = .ok (.ifCond .eq 21, 3) := by decide +kernel
theorem dX1_byteOnLine_44 : decode cX1_byteOnLine 44 = .ok (.iload_n 1, 1) := by decide +kernel
theorem dX1_byteOnLine_45 : decode cX1_byteOnLine 45 = .ok (.iload_n 2, 1) := by decide +kernel
theorem dX1_byteOnLine_46 : decode cX1_byteOnLine 46 = .ok (.if_icmp .ne 6, 3) := by decide +kernel
theorem dX1_byteOnLine_49 : decode cX1_byteOnLine 49 = .ok (.bipush 125, 2) := by decide +kernel
theorem dX1_byteOnLine_51 : decode cX1_byteOnLine 51 = .ok (.ireturn, 1) := by decide +kernel
theorem dX1_byteOnLine_52 : decode cX1_byteOnLine 52 = .ok (.iinc 2 1, 3) := by decide +kernel
theorem dX1_byteOnLine_55 : decode cX1_byteOnLine 55 = .ok (.iload 4, 2) := by decide +kernel
theorem dX1_byteOnLine_57 : decode cX1_byteOnLine 57 = .ok (.bipush 32, 2) := by decide +kernel
theorem dX1_byteOnLine_59 : decode cX1_byteOnLine 59 = .ok (.ixor, 1) := by decide +kernel
theorem dX1_byteOnLine_60 : decode cX1_byteOnLine 60 = .ok (.istore 4, 2) := by decide +kernel
theorem dX1_byteOnLine_62 : decode cX1_byteOnLine 62 = .ok (.iload_n 1, 1) := by decide +kernel
theorem dX1_byteOnLine_63 : decode cX1_byteOnLine 63 = .ok (.iload_n 2, 1) := by decide +kernel
theorem dX1_byteOnLine_64 : decode cX1_byteOnLine 64 = .ok (.if_icmp .ne 6, 3) := by decide +kernel
theorem dX1_byteOnLine_67 : decode cX1_byteOnLine 67 = .ok (.iload 4, 2) := by decide +kernel
theorem dX1_byteOnLine_69 : decode cX1_byteOnLine 69 = .ok (.ireturn, 1) := by decide +kernel
theorem dX1_byteOnLine_70 : decode cX1_byteOnLine 70 = .ok (.iinc 2 1, 3) := by decide +kernel
theorem dX1_byteOnLine_73 : decode cX1_byteOnLine 73 = .ok (.iinc 3 1, 3) := by decide +kernel
theorem dX1_byteOnLine_76 : decode cX1_byteOnLine 76 = .ok (.goto (-65), 3) := by decide +kernel
theorem dX1_byteOnLine_79 : decode cX1_byteOnLine 79 = .ok (.iload_n 1, 1) := by decide +kernel
theorem dX1_byteOnLine_80 : decode cX1_byteOnLine 80 = .ok (.iload_n 2, 1) := by decide +kernel
theorem dX1_byteOnLine_81 : decode cX1_byteOnLine 81 = .ok (.if_icmp .ne 8, 3) := by decide +kernel
theorem dX1_byteOnLine_84 : decode cX1_byteOnLine 84 = .ok (.bipush 126, 2) := by decide +kernel
theorem dX1_byteOnLine_86 : decode cX1_byteOnLine 86 = .ok (.goto 4, 3) := by decide +kernel
theorem dX1_byteOnLine_89 : decode cX1_byteOnLine 89 = .ok (.iconst (-1), 1) := by decide +kernel
theorem dX1_byteOnLine_90 : decode cX1_byteOnLine 90 = .ok (.ireturn, 1) := by decide +kernel
theorem dX2_init_0 : decode cX2_init 0 = .ok (.aload_n 0, 1) := by decide +kernel
theorem dX2_init_1 : decode cX2_init 1 = .ok (.invokespecial 3, 3) := by decide +kernel
theorem dX2_init_4 : decode cX2_init 4 = .ok (.aload_n 0, 1) := by decide +kernel
theorem dX2_init_5 : decode cX2_init 5 = .ok (.bipush 10, 2) := by decide +kernel
theorem dX2_init_7 : decode cX2_init 7 = .ok (.anewarray 9, 3) := by decide +kernel
theorem dX2_init_10 : decode cX2_init 10 = .ok (.putfield 11, 3) := by decide +kernel
theorem dX2_init_13 : decode cX2_init 13 = .ok (.iconst 0, 1) := by decide +kernel
theorem dX2_init_14 : decode cX2_init 14 = .ok (.istore_n 1, 1) := by decide +kernel
theorem dX2_init_15 : decode cX2_init 15 = .ok (.iload_n 1, 1) := by decide +kernel
theorem dX2_init_16 : decode cX2_init 16 = .ok (.aload_n 0, 1) := by decide +kernel
theorem dX2_init_17 : decode cX2_init 17 = .ok (.getfield 11, 3) := by decide +kernel
theorem dX2_init_20 : decode cX2_init 20 = .ok (.arraylength, 1) := by decide +kernel
theorem dX2_init_21 : decode cX2_init 21 = .ok (.if_icmp .ge 22, 3) := by decide +kernel
theorem dX2_init_24 : decode cX2_init 24 = .ok (.aload_n 0, 1) := by decide +kernel
theorem dX2_init_25 : decode cX2_init 25 = .ok (.getfield 11, 3) := by decide +kernel
theorem dX2_init_28 : decode cX2_init 28 = .ok (.iload_n 1, 1) := by decide +kernel
theorem dX2_init_29 : decode cX2_init 29 = .ok (.new 9, 3) := by decide +kernel
theorem dX2_init_32 : decode cX2_init 32 = .ok (.dup, 1) := by decide +kernel
theorem dX2_init_33 : decode cX2_init 33 = .ok (.invokespecial 17, 3) := by decide +kernel
theorem dX2_init_36 : decode cX2_init 36 = .ok (.aastore, 1) := by decide +kernel
theorem dX2_init_37 : decode cX2_init 37 = .ok (.iinc 1 1, 3) := by decide +kernel
theorem dX2_init_40 : decode cX2_init 40 = .ok (.goto (-25), 3) := by decide +kernel
theorem dX2_init_43 : decode cX2_init 43 = .ok (.return_, 1) := by decide +kernel
theorem dX2_keep_0 : decode cX2_keep 0 = .ok (.aload_n 0, 1) := by decide +kernel
theorem dX2_keep_1 : decode cX2_keep 1 = .ok (.getfield 18, 3) := by decide +kernel
theorem dX2_keep_4 : decode cX2_keep 4 = .ok (.aload_n 0, 1) := by decide +kernel
theorem dX2_keep_5 : decode cX2_keep 5 = .ok (.getfield 11, 3) := by decide +kernel
theorem dX2_keep_8 : decode cX2_keep 8 = .ok (.arraylength, 1) := by decide +kernel
theorem dX2_keep_9 : decode cX2_keep 9 = .ok (.if_icmp .lt 7, 3) := by decide +kernel
theorem dX2_keep_12 : decode cX2_keep 12 = .ok (.aload_n 0, 1) := by decide +kernel
theorem dX2_keep_13 : decode cX2_keep 13 = .ok (.invokevirtual 22, 3) := by decide +kernel
theorem dX2_keep_16 : decode cX2_keep 16 = .ok (.aload_n 0, 1) := by decide +kernel
theorem dX2_keep_17 : decode cX2_keep 17 = .ok (.aload_n 0, 1) := by decide +kernel
theorem dX2_keep_18 : decode cX2_keep 18 = .ok (.getfield 18, 3) := by decide +kernel
theorem dX2_keep_21 : decode cX2_keep 21 = .ok (.invokevirtual 25, 3) := by decide +kernel
theorem dX2_keep_24 : decode cX2_keep 24 = .ok (.astore_n 2, 1) := by decide +kernel
theorem dX2_keep_25 : decode cX2_keep 25 = .ok (.aload_n 2, 1) := by decide +kernel
theorem dX2_keep_26 : decode cX2_keep 26 = .ok (.ifnull 18, 3) := by decide +kernel
theorem dX2_keep_29 : decode cX2_keep 29 = .ok (.aload_n 2, 1) := by decide +kernel
theorem dX2_keep_30 : decode cX2_keep 30 = .ok (.aload_n 1, 1) := by decide +kernel
theorem dX2_keep_31 : decode cX2_keep 31 = .ok (.invokevirtual 29, 3) := by decide +kernel
theorem dX2_keep_34 : decode cX2_keep 34 = .ok (.aload_n 0, 1) := by decide +kernel
theorem dX2_keep_35 : decode cX2_keep 35 = .ok (.dup, 1) := by decide +kernel
theorem dX2_keep_36 : decode cX2_keep 36 = .ok (.getfield 18, 3) := by decide +kernel
theorem dX2_keep_39 : decode cX2_keep 39 = .ok (.iconst 1, 1) := by decide +kernel
theorem dX2_keep_40 : decode cX2_keep 40 = .ok (.iadd, 1) := by decide +kernel
theorem dX2_keep_41 : decode cX2_keep 41 = .ok (.putfield 18, 3) := by decide +kernel
theorem dX2_keep_44 : decode cX2_keep 44 = .ok (.return_, 1) := by decide +kernel
theorem dX2_takeBack_0 : decode cX2_takeBack 0 = .ok (.aload_n 0, 1) := by decide +kernel
theorem dX2_takeBack_1 : decode cX2_takeBack 1 = .ok (.aload_n 0, 1) := by decide +kernel
theorem dX2_takeBack_2 : decode cX2_takeBack 2 = .ok (.getfield 18, 3) := by decide +kernel
theorem dX2_takeBack_5 : decode cX2_takeBack 5 = .ok (.iconst 1, 1) := by decide +kernel
theorem dX2_takeBack_6 : decode cX2_takeBack 6 = .ok (.isub, 1) := by decide +kernel
theorem dX2_takeBack_7 : decode cX2_takeBack 7 = .ok (.invokevirtual 25, 3) := by decide +kernel
theorem dX2_takeBack_10 : decode cX2_takeBack 10 = .ok (.astore_n 2, 1) := by decide +kernel
theorem dX2_takeBack_11 : decode cX2_takeBack 11 = .ok (.aload_n 2, 1) := by decide +kernel
theorem dX2_takeBack_12 : decode cX2_takeBack 12 = .ok (.ifnonnull 5, 3) := by decide +kernel
theorem dX2_takeBack_15 : decode cX2_takeBack 15 = .ok (.iconst 0, 1) := by decide +kernel
theorem dX2_takeBack_16 : decode cX2_takeBack 16 = .ok (.ireturn, 1) := by decide +kernel
theorem dX2_takeBack_17 : decode cX2_takeBack 17 = .ok (.aload_n 1, 1) := by decide +kernel
theorem dX2_takeBack_18 : decode cX2_takeBack 18 = .ok (.aload_n 2, 1) := by decide +kernel
theorem dX2_takeBack_19 : decode cX2_takeBack 19 = .ok (.invokevirtual 29, 3) := by decide +kernel
theorem dX2_takeBack_22 : decode cX2_takeBack 22 = .ok (.aload_n 0, 1) := by decide +kernel
theorem dX2_takeBack_23 : decode cX2_takeBack 23 = .ok (.dup, 1) := by decide +kernel
theorem dX2_takeBack_24 : decode cX2_takeBack 24 = .ok (.getfield 18, 3) := by decide +kernel
theorem dX2_takeBack_27 : decode cX2_takeBack 27 = .ok (.iconst 1, 1) := by decide +kernel
theorem dX2_takeBack_28 : decode cX2_takeBack 28 = .ok (.isub, 1) := by decide +kernel
theorem dX2_takeBack_29 : decode cX2_takeBack 29 = .ok (.putfield 18, 3) := by decide +kernel
theorem dX2_takeBack_32 : decode cX2_takeBack 32 = .ok (.iconst 1, 1) := by decide +kernel
theorem dX2_takeBack_33 : decode cX2_takeBack 33 = .ok (.ireturn, 1) := by decide +kernel
theorem dX2_lineAt_0 : decode cX2_lineAt 0 = .ok (.iload_n 1, 1) := by decide +kernel
theorem dX2_lineAt_1 : decode cX2_lineAt 1 = .ok (.ifCond .lt 21, 3) := by decide +kernel
theorem dX2_lineAt_4 : decode cX2_lineAt 4 = .ok (.iload_n 1, 1) := by decide +kernel
theorem dX2_lineAt_5 : decode cX2_lineAt 5 = .ok (.aload_n 0, 1) := by decide +kernel
theorem dX2_lineAt_6 : decode cX2_lineAt 6 = .ok (.getfield 11, 3) := by decide +kernel
theorem dX2_lineAt_9 : decode cX2_lineAt 9 = .ok (.arraylength, 1) := by decide +kernel
theorem dX2_lineAt_10 : decode cX2_lineAt 10 = .ok (.if_icmp .ge 12, 3) := by decide +kernel
theorem dX2_lineAt_13 : decode cX2_lineAt 13 = .ok (.aload_n 0, 1) := by decide +kernel
theorem dX2_lineAt_14 : decode cX2_lineAt 14 = .ok (.getfield 11, 3) := by decide +kernel
theorem dX2_lineAt_17 : decode cX2_lineAt 17 = .ok (.iload_n 1, 1) := by decide +kernel
theorem dX2_lineAt_18 : decode cX2_lineAt 18 = .ok (.aaload, 1) := by decide +kernel
theorem dX2_lineAt_19 : decode cX2_lineAt 19 = .ok (.goto 4, 3) := by decide +kernel
theorem dX2_lineAt_22 : decode cX2_lineAt 22 = .ok (.aconst_null, 1) := by decide +kernel
theorem dX2_lineAt_23 : decode cX2_lineAt 23 = .ok (.areturn, 1) := by decide +kernel
theorem dX2_forgetOldest_0 : decode cX2_forgetOldest 0 = .ok (.aload_n 0, 1) := by decide +kernel
theorem dX2_forgetOldest_1 : decode cX2_forgetOldest 1 = .ok (.iconst 0, 1) := by decide +kernel
theorem dX2_forgetOldest_2 : decode cX2_forgetOldest 2 = .ok (.invokevirtual 25, 3) := by decide +kernel
theorem dX2_forgetOldest_5 : decode cX2_forgetOldest 5 = .ok (.astore_n 1, 1) := by decide +kernel
theorem dX2_forgetOldest_6 : decode cX2_forgetOldest 6 = .ok (.iconst 1, 1) := by decide +kernel
theorem dX2_forgetOldest_7 : decode cX2_forgetOldest 7 = .ok (.istore_n 2, 1) := by decide +kernel
theorem dX2_forgetOldest_8 : decode cX2_forgetOldest 8 = .ok (.iload_n 2, 1) := by decide +kernel
theorem dX2_forgetOldest_9 : decode cX2_forgetOldest 9 = .ok (.aload_n 0, 1) := by decide +kernel
theorem dX2_forgetOldest_10 : decode cX2_forgetOldest 10 = .ok (.getfield 11, 3) := by decide +kernel
theorem dX2_forgetOldest_13 : decode cX2_forgetOldest 13 = .ok (.arraylength, 1) := by decide +kernel
theorem dX2_forgetOldest_14 : decode cX2_forgetOldest 14 = .ok (.if_icmp .ge 23, 3) := by decide +kernel
theorem dX2_forgetOldest_17 : decode cX2_forgetOldest 17 = .ok (.aload_n 0, 1) := by decide +kernel
theorem dX2_forgetOldest_18 : decode cX2_forgetOldest 18 = .ok (.getfield 11, 3) := by decide +kernel
theorem dX2_forgetOldest_21 : decode cX2_forgetOldest 21 = .ok (.iload_n 2, 1) := by decide +kernel
theorem dX2_forgetOldest_22 : decode cX2_forgetOldest 22 = .ok (.iconst 1, 1) := by decide +kernel
theorem dX2_forgetOldest_23 : decode cX2_forgetOldest 23 = .ok (.isub, 1) := by decide +kernel
theorem dX2_forgetOldest_24 : decode cX2_forgetOldest 24 = .ok (.aload_n 0, 1) := by decide +kernel
theorem dX2_forgetOldest_25 : decode cX2_forgetOldest 25 = .ok (.getfield 11, 3) := by decide +kernel
theorem dX2_forgetOldest_28 : decode cX2_forgetOldest 28 = .ok (.iload_n 2, 1) := by decide +kernel
theorem dX2_forgetOldest_29 : decode cX2_forgetOldest 29 = .ok (.aaload, 1) := by decide +kernel
theorem dX2_forgetOldest_30 : decode cX2_forgetOldest 30 = .ok (.aastore, 1) := by decide +kernel
theorem dX2_forgetOldest_31 : decode cX2_forgetOldest 31 = .ok (.iinc 2 1, 3) := by decide +kernel
theorem dX2_forgetOldest_34 : decode cX2_forgetOldest 34 = .ok (.goto (-26), 3) := by decide +kernel
theorem dX2_forgetOldest_37 : decode cX2_forgetOldest 37 = .ok (.aload_n 0, 1) := by decide +kernel
theorem dX2_forgetOldest_38 : decode cX2_forgetOldest 38 = .ok (.aload_n 0, 1) := by decide +kernel
theorem dX2_forgetOldest_39 : decode cX2_forgetOldest 39 = .ok (.getfield 11, 3) := by decide +kernel
theorem dX2_forgetOldest_42 : decode cX2_forgetOldest 42 = .ok (.arraylength, 1) := by decide +kernel
theorem dX2_forgetOldest_43 : decode cX2_forgetOldest 43 = .ok (.iconst 1, 1) := by decide +kernel
theorem dX2_forgetOldest_44 : decode cX2_forgetOldest 44 = .ok (.isub, 1) := by decide +kernel
theorem dX2_forgetOldest_45 : decode cX2_forgetOldest 45 = .ok (.putfield 18, 3) := by decide +kernel
theorem dX2_forgetOldest_48 : decode cX2_forgetOldest 48 = .ok (.aload_n 0, 1) := by decide +kernel
theorem dX2_forgetOldest_49 : decode cX2_forgetOldest 49 = .ok (.getfield 18, 3) := by decide +kernel
theorem dX2_forgetOldest_52 : decode cX2_forgetOldest 52 = .ok (.ifCond .lt 13, 3) := by decide +kernel
theorem dX2_forgetOldest_55 : decode cX2_forgetOldest 55 = .ok (.aload_n 0, 1) := by decide +kernel
theorem dX2_forgetOldest_56 : decode cX2_forgetOldest 56 = .ok (.getfield 11, 3) := by decide +kernel
theorem dX2_forgetOldest_59 : decode cX2_forgetOldest 59 = .ok (.aload_n 0, 1) := by decide +kernel
theorem dX2_forgetOldest_60 : decode cX2_forgetOldest 60 = .ok (.getfield 18, 3) := by decide +kernel
theorem dX2_forgetOldest_63 : decode cX2_forgetOldest 63 = .ok (.aload_n 1, 1) := by decide +kernel
theorem dX2_forgetOldest_64 : decode cX2_forgetOldest 64 = .ok (.aastore, 1) := by decide +kernel
theorem dX2_forgetOldest_65 : decode cX2_forgetOldest 65 = .ok (.return_, 1) := by decide +kernel
theorem dX3_init_0 : decode cX3_init 0 = .ok (.aload_n 0, 1) := by decide +kernel
theorem dX3_init_1 : decode cX3_init 1 = .ok (.invokespecial 3, 3) := by decide +kernel
theorem dX3_init_4 : decode cX3_init 4 = .ok (.aload_n 0, 1) := by decide +kernel
theorem dX3_init_5 : decode cX3_init 5 = .ok (.new 9, 3) := by decide +kernel
theorem dX3_init_8 : decode cX3_init 8 = .ok (.dup, 1) := by decide +kernel
theorem dX3_init_9 : decode cX3_init 9 = .ok (.invokespecial 11, 3) := by decide +kernel
theorem dX3_init_12 : decode cX3_init 12 = .ok (.putfield 12, 3) := by decide +kernel
theorem dX3_init_15 : decode cX3_init 15 = .ok (.aload_n 0, 1) := by decide +kernel
theorem dX3_init_16 : decode cX3_init 16 = .ok (.new 9, 3) := by decide +kernel
theorem dX3_init_19 : decode cX3_init 19 = .ok (.dup, 1) := by decide +kernel
theorem dX3_init_20 : decode cX3_init 20 = .ok (.invokespecial 11, 3) := by decide +kernel
theorem dX3_init_23 : decode cX3_init 23 = .ok (.putfield 18, 3) := by decide +kernel
theorem dX3_init_26 : decode cX3_init 26 = .ok (.aload_n 0, 1) := by decide +kernel
theorem dX3_init_27 : decode cX3_init 27 = .ok (.bipush 10, 2) := by decide +kernel
theorem dX3_init_29 : decode cX3_init 29 = .ok (.newarray .int, 2) := by decide +kernel
theorem dX3_init_31 : decode cX3_init 31 = .ok (.putfield 21, 3) := by decide +kernel
theorem dX3_init_34 : decode cX3_init 34 = .ok (.aload_n 0, 1) := by decide +kernel
theorem dX3_init_35 : decode cX3_init 35 = .ok (.bipush 32, 2) := by decide +kernel
theorem dX3_init_37 : decode cX3_init 37 = .ok (.newarray .long, 2) := by decide +kernel
theorem dX3_init_39 : decode cX3_init 39 = .ok (.putfield 25, 3) := by decide +kernel
theorem dX3_init_42 : decode cX3_init 42 = .ok (.aload_n 0, 1) := by decide +kernel
theorem dX3_init_43 : decode cX3_init 43 = .ok (.iconst 3, 1) := by decide +kernel
theorem dX3_init_44 : decode cX3_init 44 = .ok (.putfield 29, 3) := by decide +kernel
theorem dX3_init_47 : decode cX3_init 47 = .ok (.aload_n 0, 1) := by decide +kernel
theorem dX3_init_48 : decode cX3_init 48 = .ok (.bipush 20, 2) := by decide +kernel
theorem dX3_init_50 : decode cX3_init 50 = .ok (.putfield 33, 3) := by decide +kernel
theorem dX3_init_53 : decode cX3_init 53 = .ok (.aload_n 0, 1) := by decide +kernel
theorem dX3_init_54 : decode cX3_init 54 = .ok (.iconst (-1), 1) := by decide +kernel
theorem dX3_init_55 : decode cX3_init 55 = .ok (.putfield 36, 3) := by decide +kernel
theorem dX3_init_58 : decode cX3_init 58 = .ok (.return_, 1) := by decide +kernel
theorem dX3_copyFrom_0 : decode cX3_copyFrom 0 = .ok (.aload_n 0, 1) := by decide +kernel
theorem dX3_copyFrom_1 : decode cX3_copyFrom 1 = .ok (.getfield 12, 3) := by decide +kernel
theorem dX3_copyFrom_4 : decode cX3_copyFrom 4 = .ok (.aload_n 1, 1) := by decide +kernel
theorem dX3_copyFrom_5 : decode cX3_copyFrom 5 = .ok (.getfield 12, 3) := by decide +kernel
theorem dX3_copyFrom_8 : decode cX3_copyFrom 8 = .ok (.invokevirtual 39, 3) := by decide +kernel
theorem dX3_copyFrom_11 : decode cX3_copyFrom 11 = .ok (.aload_n 0, 1) := by decide +kernel
theorem dX3_copyFrom_12 : decode cX3_copyFrom 12 = .ok (.getfield 18, 3) := by decide +kernel
theorem dX3_copyFrom_15 : decode cX3_copyFrom 15 = .ok (.aload_n 1, 1) := by decide +kernel
theorem dX3_copyFrom_16 : decode cX3_copyFrom 16 = .ok (.getfield 18, 3) := by decide +kernel
theorem dX3_copyFrom_19 : decode cX3_copyFrom 19 = .ok (.invokevirtual 39, 3) := by decide +kernel
theorem dX3_copyFrom_22 : decode cX3_copyFrom 22 = .ok (.aload_n 1, 1) := by decide +kernel
theorem dX3_copyFrom_23 : decode cX3_copyFrom 23 = .ok (.getfield 21, 3) := by decide +kernel
theorem dX3_copyFrom_26 : decode cX3_copyFrom 26 = .ok (.iconst 0, 1) := by decide +kernel
theorem dX3_copyFrom_27 : decode cX3_copyFrom 27 = .ok (.aload_n 0, 1) := by decide +kernel
theorem dX3_copyFrom_28 : decode cX3_copyFrom 28 = .ok (.getfield 21, 3) := by decide +kernel
theorem dX3_copyFrom_31 : decode cX3_copyFrom 31 = .ok (.iconst 0, 1) := by decide +kernel
theorem dX3_copyFrom_32 : decode cX3_copyFrom 32 = .ok (.bipush 10, 2) := by decide +kernel
theorem dX3_copyFrom_34 : decode cX3_copyFrom 34 = .ok (.invokestatic 43, 3) := by decide +kernel
theorem dX3_copyFrom_37 : decode cX3_copyFrom 37 = .ok (.aload_n 1, 1) := by decide +kernel
theorem dX3_copyFrom_38 : decode cX3_copyFrom 38 = .ok (.getfield 25, 3) := by decide +kernel
theorem dX3_copyFrom_41 : decode cX3_copyFrom 41 = .ok (.iconst 0, 1) := by decide +kernel
theorem dX3_copyFrom_42 : decode cX3_copyFrom 42 = .ok (.aload_n 0, 1) := by decide +kernel
theorem dX3_copyFrom_43 : decode cX3_copyFrom 43 = .ok (.getfield 25, 3) := by decide +kernel
theorem dX3_copyFrom_46 : decode cX3_copyFrom 46 = .ok (.iconst 0, 1) := by decide +kernel
theorem dX3_copyFrom_47 : decode cX3_copyFrom 47 = .ok (.bipush 32, 2) := by decide +kernel
theorem dX3_copyFrom_49 : decode cX3_copyFrom 49 = .ok (.invokestatic 43, 3) := by decide +kernel
theorem dX3_copyFrom_52 : decode cX3_copyFrom 52 = .ok (.aload_n 0, 1) := by decide +kernel
theorem dX3_copyFrom_53 : decode cX3_copyFrom 53 = .ok (.aload_n 1, 1) := by decide +kernel
theorem dX3_copyFrom_54 : decode cX3_copyFrom 54 = .ok (.getfield 49, 3) := by decide +kernel
theorem dX3_copyFrom_57 : decode cX3_copyFrom 57 = .ok (.putfield 49, 3) := by decide +kernel
theorem dX3_copyFrom_60 : decode cX3_copyFrom 60 = .ok (.aload_n 0, 1) := by decide +kernel
theorem dX3_copyFrom_61 : decode cX3_copyFrom 61 = .ok (.aload_n 1, 1) := by decide +kernel
theorem dX3_copyFrom_62 : decode cX3_copyFrom 62 = .ok (.getfield 29, 3) := by decide +kernel
theorem dX3_copyFrom_65 : decode cX3_copyFrom 65 = .ok (.putfield 29, 3) := by decide +kernel
theorem dX3_copyFrom_68 : decode cX3_copyFrom 68 = .ok (.aload_n 0, 1) := by decide +kernel
theorem dX3_copyFrom_69 : decode cX3_copyFrom 69 = .ok (.aload_n 1, 1) := by decide +kernel
theorem dX3_copyFrom_70 : decode cX3_copyFrom 70 = .ok (.getfield 33, 3) := by decide +kernel
theorem dX3_copyFrom_73 : decode cX3_copyFrom 73 = .ok (.putfield 33, 3) := by decide +kernel
theorem dX3_copyFrom_76 : decode cX3_copyFrom 76 = .ok (.aload_n 0, 1) := by decide +kernel
theorem dX3_copyFrom_77 : decode cX3_copyFrom 77 = .ok (.aload_n 1, 1) := by decide +kernel
theorem dX3_copyFrom_78 : decode cX3_copyFrom 78 = .ok (.getfield 52, 3) := by decide +kernel
theorem dX3_copyFrom_81 : decode cX3_copyFrom 81 = .ok (.putfield 52, 3) := by decide +kernel
theorem dX3_copyFrom_84 : decode cX3_copyFrom 84 = .ok (.aload_n 0, 1) := by decide +kernel
theorem dX3_copyFrom_85 : decode cX3_copyFrom 85 = .ok (.aload_n 1, 1) := by decide +kernel
theorem dX3_copyFrom_86 : decode cX3_copyFrom 86 = .ok (.getfield 55, 3) := by decide +kernel
theorem dX3_copyFrom_89 : decode cX3_copyFrom 89 = .ok (.putfield 55, 3) := by decide +kernel
theorem dX3_copyFrom_92 : decode cX3_copyFrom 92 = .ok (.aload_n 0, 1) := by decide +kernel
theorem dX3_copyFrom_93 : decode cX3_copyFrom 93 = .ok (.aload_n 1, 1) := by decide +kernel
theorem dX3_copyFrom_94 : decode cX3_copyFrom 94 = .ok (.getfield 58, 3) := by decide +kernel
theorem dX3_copyFrom_97 : decode cX3_copyFrom 97 = .ok (.putfield 58, 3) := by decide +kernel
theorem dX3_copyFrom_100 : decode cX3_copyFrom 100 = .ok (.aload_n 0, 1) := by decide +kernel
theorem dX3_copyFrom_101 : decode cX3_copyFrom 101 = .ok (.aload_n 1, 1) := by decide +kernel
theorem dX3_copyFrom_102 : decode cX3_copyFrom 102 = .ok (.getfield 36, 3) := by decide +kernel
theorem dX3_copyFrom_105 : decode cX3_copyFrom 105 = .ok (.putfield 36, 3) := by decide +kernel
theorem dX3_copyFrom_108 : decode cX3_copyFrom 108 = .ok (.return_, 1) := by decide +kernel
theorem dX3_side_0 : decode cX3_side 0 = .ok (.iload_n 1, 1) := by decide +kernel
theorem dX3_side_1 : decode cX3_side 1 = .ok (.ifCond .ne 10, 3) := by decide +kernel
theorem dX3_side_4 : decode cX3_side 4 = .ok (.aload_n 0, 1) := by decide +kernel
theorem dX3_side_5 : decode cX3_side 5 = .ok (.getfield 12, 3) := by decide +kernel
theorem dX3_side_8 : decode cX3_side 8 = .ok (.goto 7, 3) := by decide +kernel
theorem dX3_side_11 : decode cX3_side 11 = .ok (.aload_n 0, 1) := by decide +kernel
theorem dX3_side_12 : decode cX3_side 12 = .ok (.getfield 18, 3) := by decide +kernel
theorem dX3_side_15 : decode cX3_side 15 = .ok (.areturn, 1) := by decide +kernel
theorem dX3_framesSent_0 : decode cX3_framesSent 0 = .ok (.aload_n 0, 1) := by decide +kernel
theorem dX3_framesSent_1 : decode cX3_framesSent 1 = .ok (.getfield 21, 3) := by decide +kernel
theorem dX3_framesSent_4 : decode cX3_framesSent 4 = .ok (.iconst 0, 1) := by decide +kernel
theorem dX3_framesSent_5 : decode cX3_framesSent 5 = .ok (.iaload, 1) := by decide +kernel
theorem dX3_framesSent_6 : decode cX3_framesSent 6 = .ok (.ireturn, 1) := by decide +kernel
theorem dX3_time_0 : decode cX3_time 0 = .ok (.aload_n 0, 1) := by decide +kernel
theorem dX3_time_1 : decode cX3_time 1 = .ok (.getfield 21, 3) := by decide +kernel
theorem dX3_time_4 : decode cX3_time 4 = .ok (.bipush 6, 2) := by decide +kernel
theorem dX3_time_6 : decode cX3_time 6 = .ok (.iaload, 1) := by decide +kernel
theorem dX3_time_7 : decode cX3_time 7 = .ok (.aload_n 0, 1) := by decide +kernel
theorem dX3_time_8 : decode cX3_time 8 = .ok (.getfield 21, 3) := by decide +kernel
theorem dX3_time_11 : decode cX3_time 11 = .ok (.bipush 8, 2) := by decide +kernel
theorem dX3_time_13 : decode cX3_time 13 = .ok (.iaload, 1) := by decide +kernel
theorem dX3_time_14 : decode cX3_time 14 = .ok (.iadd, 1) := by decide +kernel
theorem dX3_time_15 : decode cX3_time 15 = .ok (.ireturn, 1) := by decide +kernel
theorem dX3_tells_0 : decode cX3_tells 0 = .ok (.iload_n 1, 1) := by decide +kernel
theorem dX3_tells_1 : decode cX3_tells 1 = .ok (.ifCond .lt 10, 3) := by decide +kernel
theorem dX3_tells_4 : decode cX3_tells 4 = .ok (.iload_n 1, 1) := by decide +kernel
theorem dX3_tells_5 : decode cX3_tells 5 = .ok (.sipush 2000, 3) := by decide +kernel
theorem dX3_tells_8 : decode cX3_tells 8 = .ok (.if_icmp .lt 5, 3) := by decide +kernel
theorem dX3_tells_11 : decode cX3_tells 11 = .ok (.iconst 0, 1) := by decide +kernel
theorem dX3_tells_12 : decode cX3_tells 12 = .ok (.ireturn, 1) := by decide +kernel
theorem dX3_tells_13 : decode cX3_tells 13 = .ok (.aload_n 0, 1) := by decide +kernel
theorem dX3_tells_14 : decode cX3_tells 14 = .ok (.getfield 25, 3) := by decide +kernel
theorem dX3_tells_17 : decode cX3_tells 17 = .ok (.iload_n 1, 1) := by decide +kernel
theorem dX3_tells_18 : decode cX3_tells 18 = .ok (.bipush 64, 2) := by decide +kernel
theorem dX3_tells_20 : decode cX3_tells 20 = .ok (.idiv, 1) := by decide +kernel
theorem dX3_tells_21 : decode cX3_tells 21 = .ok (.laload, 1) := by decide +kernel
theorem dX3_tells_22 : decode cX3_tells 22 = .ok (.iload_n 1, 1) := by decide +kernel
theorem dX3_tells_23 : decode cX3_tells 23 = .ok (.bipush 64, 2) := by decide +kernel
theorem dX3_tells_25 : decode cX3_tells 25 = .ok (.irem, 1) := by decide +kernel
theorem dX3_tells_26 : decode cX3_tells 26 = .ok (.lushr, 1) := by decide +kernel
theorem dX3_tells_27 : decode cX3_tells 27 = .ok (.lconst 1, 1) := by decide +kernel
theorem dX3_tells_28 : decode cX3_tells 28 = .ok (.land, 1) := by decide +kernel
theorem dX3_tells_29 : decode cX3_tells 29 = .ok (.lconst 0, 1) := by decide +kernel
theorem dX3_tells_30 : decode cX3_tells 30 = .ok (.lcmp, 1) := by decide +kernel
theorem dX3_tells_31 : decode cX3_tells 31 = .ok (.ifCond .eq 7, 3) := by decide +kernel
theorem dX3_tells_34 : decode cX3_tells 34 = .ok (.iconst 1, 1) := by decide +kernel
theorem dX3_tells_35 : decode cX3_tells 35 = .ok (.goto 4, 3) := by decide +kernel
theorem dX3_tells_38 : decode cX3_tells 38 = .ok (.iconst 0, 1) := by decide +kernel
theorem dX3_tells_39 : decode cX3_tells 39 = .ok (.ireturn, 1) := by decide +kernel
theorem dX3_tellLost_0 : decode cX3_tellLost 0 = .ok (.iload_n 1, 1) := by decide +kernel
theorem dX3_tellLost_1 : decode cX3_tellLost 1 = .ok (.ifCond .lt 46, 3) := by decide +kernel
theorem dX3_tellLost_4 : decode cX3_tellLost 4 = .ok (.iload_n 1, 1) := by decide +kernel
theorem dX3_tellLost_5 : decode cX3_tellLost 5 = .ok (.sipush 2000, 3) := by decide +kernel
theorem dX3_tellLost_8 : decode cX3_tellLost 8 = .ok (.if_icmp .ge 39, 3) := by decide +kernel
theorem dX3_tellLost_11 : decode cX3_tellLost 11 = .ok (.aload_n 0, 1) := by decide +kernel
theorem dX3_tellLost_12 : decode cX3_tellLost 12 = .ok (.iload_n 1, 1) := by decide +kernel
theorem dX3_tellLost_13 : decode cX3_tellLost 13 = .ok (.invokevirtual 62, 3) := by decide +kernel
theorem dX3_tellLost_16 : decode cX3_tellLost 16 = .ok (.ifCond .ne 31, 3) := by decide +kernel
theorem dX3_tellLost_19 : decode cX3_tellLost 19 = .ok (.aload_n 0, 1) := by decide +kernel
theorem dX3_tellLost_20 : decode cX3_tellLost 20 = .ok (.getfield 25, 3) := by decide +kernel
theorem dX3_tellLost_23 : decode cX3_tellLost 23 = .ok (.iload_n 1, 1) := by decide +kernel
theorem dX3_tellLost_24 : decode cX3_tellLost 24 = .ok (.bipush 64, 2) := by decide +kernel
theorem dX3_tellLost_26 : decode cX3_tellLost 26 = .ok (.idiv, 1) := by decide +kernel
theorem dX3_tellLost_27 : decode cX3_tellLost 27 = .ok (.dup2, 1) := by decide +kernel
theorem dX3_tellLost_28 : decode cX3_tellLost 28 = .ok (.laload, 1) := by decide +kernel
theorem dX3_tellLost_29 : decode cX3_tellLost 29 = .ok (.lconst 1, 1) := by decide +kernel
theorem dX3_tellLost_30 : decode cX3_tellLost 30 = .ok (.iload_n 1, 1) := by decide +kernel
theorem dX3_tellLost_31 : decode cX3_tellLost 31 = .ok (.bipush 64, 2) := by decide +kernel
theorem dX3_tellLost_33 : decode cX3_tellLost 33 = .ok (.irem, 1) := by decide +kernel
theorem dX3_tellLost_34 : decode cX3_tellLost 34 = .ok (.lshl, 1) := by decide +kernel
theorem dX3_tellLost_35 : decode cX3_tellLost 35 = .ok (.lor, 1) := by decide +kernel
theorem dX3_tellLost_36 : decode cX3_tellLost 36 = .ok (.lastore, 1) := by decide +kernel
theorem dX3_tellLost_37 : decode cX3_tellLost 37 = .ok (.aload_n 0, 1) := by decide +kernel
theorem dX3_tellLost_38 : decode cX3_tellLost 38 = .ok (.dup, 1) := by decide +kernel
theorem dX3_tellLost_39 : decode cX3_tellLost 39 = .ok (.getfield 49, 3) := by decide +kernel
theorem dX3_tellLost_42 : decode cX3_tellLost 42 = .ok (.iconst 1, 1) := by decide +kernel
theorem dX3_tellLost_43 : decode cX3_tellLost 43 = .ok (.iadd, 1) := by decide +kernel
theorem dX3_tellLost_44 : decode cX3_tellLost 44 = .ok (.putfield 49, 3) := by decide +kernel
theorem dX3_tellLost_47 : decode cX3_tellLost 47 = .ok (.return_, 1) := by decide +kernel
theorem dX3_nextMessage_0 : decode cX3_nextMessage 0 = .ok (.aload_n 1, 1) := by decide +kernel
theorem dX3_nextMessage_1 : decode cX3_nextMessage 1 = .ok (.getfield 75, 3) := by decide +kernel
theorem dX3_nextMessage_4 : decode cX3_nextMessage 4 = .ok (.aload_n 0, 1) := by decide +kernel
theorem dX3_nextMessage_5 : decode cX3_nextMessage 5 = .ok (.getfield 55, 3) := by decide +kernel
theorem dX3_nextMessage_8 : decode cX3_nextMessage 8 = .ok (.iadd, 1) := by decide +kernel
theorem dX3_nextMessage_9 : decode cX3_nextMessage 9 = .ok (.istore_n 2, 1) := by decide +kernel
theorem dX3_nextMessage_10 : decode cX3_nextMessage 10 = .ok (.aload_n 0, 1) := by decide +kernel
theorem dX3_nextMessage_11 : decode cX3_nextMessage 11 = .ok (.getfield 58, 3) := by decide +kernel
theorem dX3_nextMessage_14 : decode cX3_nextMessage 14 = .ok (.ifCond .ne 34, 3) := by decide +kernel
theorem dX3_nextMessage_17 : decode cX3_nextMessage 17 = .ok (.aload_n 0, 1) := by decide +kernel
theorem dX3_nextMessage_18 : decode cX3_nextMessage 18 = .ok (.getfield 55, 3) := by decide +kernel
theorem dX3_nextMessage_21 : decode cX3_nextMessage 21 = .ok (.aload_n 0, 1) := by decide +kernel
theorem dX3_nextMessage_22 : decode cX3_nextMessage 22 = .ok (.getfield 29, 3) := by decide +kernel
theorem dX3_nextMessage_25 : decode cX3_nextMessage 25 = .ok (.if_icmp .ge 23, 3) := by decide +kernel
theorem dX3_nextMessage_28 : decode cX3_nextMessage 28 = .ok (.iload_n 2, 1) := by decide +kernel
theorem dX3_nextMessage_29 : decode cX3_nextMessage 29 = .ok (.aload_n 1, 1) := by decide +kernel
theorem dX3_nextMessage_30 : decode cX3_nextMessage 30 = .ok (.getfield 78, 3) := by decide +kernel
theorem dX3_nextMessage_33 : decode cX3_nextMessage 33 = .ok (.if_icmp .ge 15, 3) := by decide +kernel
theorem dX3_nextMessage_36 : decode cX3_nextMessage 36 = .ok (.aload_n 1, 1) := by decide +kernel
theorem dX3_nextMessage_37 : decode cX3_nextMessage 37 = .ok (.iload_n 2, 1) := by decide +kernel
theorem dX3_nextMessage_38 : decode cX3_nextMessage 38 = .ok (.invokevirtual 81, 3) := by decide +kernel
theorem dX3_nextMessage_41 : decode cX3_nextMessage 41 = .ok (.ifCond .eq 7, 3) := by decide +kernel
theorem dX3_nextMessage_44 : decode cX3_nextMessage 44 = .ok (.iconst 1, 1) := by decide +kernel
theorem dX3_nextMessage_45 : decode cX3_nextMessage 45 = .ok (.goto 4, 3) := by decide +kernel
theorem dX3_nextMessage_48 : decode cX3_nextMessage 48 = .ok (.iconst 0, 1) := by decide +kernel
theorem dX3_nextMessage_49 : decode cX3_nextMessage 49 = .ok (.istore_n 3, 1) := by decide +kernel
theorem dX3_nextMessage_50 : decode cX3_nextMessage 50 = .ok (.iload_n 3, 1) := by decide +kernel
theorem dX3_nextMessage_51 : decode cX3_nextMessage 51 = .ok (.ifCond .eq 7, 3) := by decide +kernel
theorem dX3_nextMessage_54 : decode cX3_nextMessage 54 = .ok (.iload_n 2, 1) := by decide +kernel
theorem dX3_nextMessage_55 : decode cX3_nextMessage 55 = .ok (.goto 4, 3) := by decide +kernel
theorem dX3_nextMessage_58 : decode cX3_nextMessage 58 = .ok (.iconst (-1), 1) := by decide +kernel
theorem dX3_nextMessage_59 : decode cX3_nextMessage 59 = .ok (.ireturn, 1) := by decide +kernel
theorem dX3_step_0 : decode cX3_step 0 = .ok (.aload_n 1, 1) := by decide +kernel
theorem dX3_step_1 : decode cX3_step 1 = .ok (.aload_n 0, 1) := by decide +kernel
theorem dX3_step_2 : decode cX3_step 2 = .ok (.invokevirtual 84, 3) := by decide +kernel
theorem dX3_step_5 : decode cX3_step 5 = .ok (.aload_n 0, 1) := by decide +kernel
theorem dX3_step_6 : decode cX3_step 6 = .ok (.aload_n 0, 1) := by decide +kernel
theorem dX3_step_7 : decode cX3_step 7 = .ok (.invokevirtual 90, 3) := by decide +kernel
theorem dX3_step_10 : decode cX3_step 10 = .ok (.invokevirtual 62, 3) := by decide +kernel
theorem dX3_step_13 : decode cX3_step 13 = .ok (.ifCond .ne 14, 3) := by decide +kernel
theorem dX3_step_16 : decode cX3_step 16 = .ok (.aload_n 0, 1) := by decide +kernel
theorem dX3_step_17 : decode cX3_step 17 = .ok (.invokevirtual 90, 3) := by decide +kernel
theorem dX3_step_20 : decode cX3_step 20 = .ok (.aload_n 0, 1) := by decide +kernel
theorem dX3_step_21 : decode cX3_step 21 = .ok (.getfield 36, 3) := by decide +kernel
theorem dX3_step_24 : decode cX3_step 24 = .ok (.if_icmp .ne 7, 3) := by decide +kernel
theorem dX3_step_27 : decode cX3_step 27 = .ok (.iconst 1, 1) := by decide +kernel
theorem dX3_step_28 : decode cX3_step 28 = .ok (.goto 4, 3) := by decide +kernel
theorem dX3_step_31 : decode cX3_step 31 = .ok (.iconst 0, 1) := by decide +kernel
theorem dX3_step_32 : decode cX3_step 32 = .ok (.istore_n 2, 1) := by decide +kernel
theorem dX3_step_33 : decode cX3_step 33 = .ok (.aload_n 0, 1) := by decide +kernel
theorem dX3_step_34 : decode cX3_step 34 = .ok (.getfield 21, 3) := by decide +kernel
theorem dX3_step_37 : decode cX3_step 37 = .ok (.iconst 0, 1) := by decide +kernel
theorem dX3_step_38 : decode cX3_step 38 = .ok (.dup2, 1) := by decide +kernel
theorem dX3_step_39 : decode cX3_step 39 = .ok (.iaload, 1) := by decide +kernel
theorem dX3_step_40 : decode cX3_step 40 = .ok (.iconst 1, 1) := by decide +kernel
theorem dX3_step_41 : decode cX3_step 41 = .ok (.iadd, 1) := by decide +kernel
theorem dX3_step_42 : decode cX3_step 42 = .ok (.iastore, 1) := by decide +kernel
theorem dX3_step_43 : decode cX3_step 43 = .ok (.aload_n 0, 1) := by decide +kernel
theorem dX3_step_44 : decode cX3_step 44 = .ok (.getfield 21, 3) := by decide +kernel
theorem dX3_step_47 : decode cX3_step 47 = .ok (.bipush 6, 2) := by decide +kernel
theorem dX3_step_49 : decode cX3_step 49 = .ok (.dup2, 1) := by decide +kernel
theorem dX3_step_50 : decode cX3_step 50 = .ok (.iaload, 1) := by decide +kernel
theorem dX3_step_51 : decode cX3_step 51 = .ok (.aload_n 1, 1) := by decide +kernel
theorem dX3_step_52 : decode cX3_step 52 = .ok (.invokevirtual 94, 3) := by decide +kernel
theorem dX3_step_55 : decode cX3_step 55 = .ok (.iadd, 1) := by decide +kernel
theorem dX3_step_56 : decode cX3_step 56 = .ok (.iastore, 1) := by decide +kernel
theorem dX3_step_57 : decode cX3_step 57 = .ok (.aload_n 0, 1) := by decide +kernel
theorem dX3_step_58 : decode cX3_step 58 = .ok (.getfield 21, 3) := by decide +kernel
theorem dX3_step_61 : decode cX3_step 61 = .ok (.bipush 7, 2) := by decide +kernel
theorem dX3_step_63 : decode cX3_step 63 = .ok (.dup2, 1) := by decide +kernel
theorem dX3_step_64 : decode cX3_step 64 = .ok (.iaload, 1) := by decide +kernel
theorem dX3_step_65 : decode cX3_step 65 = .ok (.aload_n 1, 1) := by decide +kernel
theorem dX3_step_66 : decode cX3_step 66 = .ok (.getfield 97, 3) := by decide +kernel
theorem dX3_step_69 : decode cX3_step 69 = .ok (.iadd, 1) := by decide +kernel
theorem dX3_step_70 : decode cX3_step 70 = .ok (.iastore, 1) := by decide +kernel
theorem dX3_step_71 : decode cX3_step 71 = .ok (.iload_n 2, 1) := by decide +kernel
theorem dX3_step_72 : decode cX3_step 72 = .ok (.ifCond .eq 13, 3) := by decide +kernel
theorem dX3_step_75 : decode cX3_step 75 = .ok (.aload_n 0, 1) := by decide +kernel
theorem dX3_step_76 : decode cX3_step 76 = .ok (.getfield 21, 3) := by decide +kernel
theorem dX3_step_79 : decode cX3_step 79 = .ok (.iconst 1, 1) := by decide +kernel
theorem dX3_step_80 : decode cX3_step 80 = .ok (.dup2, 1) := by decide +kernel
theorem dX3_step_81 : decode cX3_step 81 = .ok (.iaload, 1) := by decide +kernel
theorem dX3_step_82 : decode cX3_step 82 = .ok (.iconst 1, 1) := by decide +kernel
theorem dX3_step_83 : decode cX3_step 83 = .ok (.iadd, 1) := by decide +kernel
theorem dX3_step_84 : decode cX3_step 84 = .ok (.iastore, 1) := by decide +kernel
theorem dX3_step_85 : decode cX3_step 85 = .ok (.aload_n 1, 1) := by decide +kernel
theorem dX3_step_86 : decode cX3_step 86 = .ok (.getfield 100, 3) := by decide +kernel
theorem dX3_step_89 : decode cX3_step 89 = .ok (.ifCond .eq 15, 3) := by decide +kernel
theorem dX3_step_92 : decode cX3_step 92 = .ok (.aload_n 0, 1) := by decide +kernel
theorem dX3_step_93 : decode cX3_step 93 = .ok (.aload_n 1, 1) := by decide +kernel
theorem dX3_step_94 : decode cX3_step 94 = .ok (.getfield 103, 3) := by decide +kernel
theorem dX3_step_97 : decode cX3_step 97 = .ok (.iload_n 2, 1) := by decide +kernel
theorem dX3_step_98 : decode cX3_step 98 = .ok (.invokevirtual 106, 3) := by decide +kernel
theorem dX3_step_101 : decode cX3_step 101 = .ok (.goto 8, 3) := by decide +kernel
theorem dX3_step_104 : decode cX3_step 104 = .ok (.aload_n 0, 1) := by decide +kernel
theorem dX3_step_105 : decode cX3_step 105 = .ok (.iload_n 2, 1) := by decide +kernel
theorem dX3_step_106 : decode cX3_step 106 = .ok (.invokevirtual 110, 3) := by decide +kernel
theorem dX3_step_109 : decode cX3_step 109 = .ok (.return_, 1) := by decide +kernel
theorem dX3_sendData_0 : decode cX3_sendData 0 = .ok (.aload_n 0, 1) := by decide +kernel
theorem dX3_sendData_1 : decode cX3_sendData 1 = .ok (.aload_n 0, 1) := by decide +kernel
theorem dX3_sendData_2 : decode cX3_sendData 2 = .ok (.getfield 52, 3) := by decide +kernel
theorem dX3_sendData_5 : decode cX3_sendData 5 = .ok (.invokevirtual 114, 3) := by decide +kernel
theorem dX3_sendData_8 : decode cX3_sendData 8 = .ok (.astore_n 3, 1) := by decide +kernel
theorem dX3_sendData_9 : decode cX3_sendData 9 = .ok (.aload_n 0, 1) := by decide +kernel
theorem dX3_sendData_10 : decode cX3_sendData 10 = .ok (.iconst 1, 1) := by decide +kernel
theorem dX3_sendData_11 : decode cX3_sendData 11 = .ok (.aload_n 0, 1) := by decide +kernel
theorem dX3_sendData_12 : decode cX3_sendData 12 = .ok (.getfield 52, 3) := by decide +kernel
theorem dX3_sendData_15 : decode cX3_sendData 15 = .ok (.isub, 1) := by decide +kernel
theorem dX3_sendData_16 : decode cX3_sendData 16 = .ok (.invokevirtual 114, 3) := by decide +kernel
theorem dX3_sendData_19 : decode cX3_sendData 19 = .ok (.astore 4, 2) := by decide +kernel
theorem dX3_sendData_21 : decode cX3_sendData 21 = .ok (.aload_n 0, 1) := by decide +kernel
theorem dX3_sendData_22 : decode cX3_sendData 22 = .ok (.getfield 21, 3) := by decide +kernel
theorem dX3_sendData_25 : decode cX3_sendData 25 = .ok (.iconst 2, 1) := by decide +kernel
theorem dX3_sendData_26 : decode cX3_sendData 26 = .ok (.dup2, 1) := by decide +kernel
theorem dX3_sendData_27 : decode cX3_sendData 27 = .ok (.iaload, 1) := by decide +kernel
theorem dX3_sendData_28 : decode cX3_sendData 28 = .ok (.iconst 1, 1) := by decide +kernel
theorem dX3_sendData_29 : decode cX3_sendData 29 = .ok (.iadd, 1) := by decide +kernel
theorem dX3_sendData_30 : decode cX3_sendData 30 = .ok (.iastore, 1) := by decide +kernel
theorem dX3_sendData_31 : decode cX3_sendData 31 = .ok (.aload_n 0, 1) := by decide +kernel
theorem dX3_sendData_32 : decode cX3_sendData 32 = .ok (.dup, 1) := by decide +kernel
theorem dX3_sendData_33 : decode cX3_sendData 33 = .ok (.getfield 55, 3) := by decide +kernel
theorem dX3_sendData_36 : decode cX3_sendData 36 = .ok (.iconst 1, 1) := by decide +kernel
theorem dX3_sendData_37 : decode cX3_sendData 37 = .ok (.iadd, 1) := by decide +kernel
theorem dX3_sendData_38 : decode cX3_sendData 38 = .ok (.putfield 55, 3) := by decide +kernel
theorem dX3_sendData_41 : decode cX3_sendData 41 = .ok (.iload_n 1, 1) := by decide +kernel
theorem dX3_sendData_42 : decode cX3_sendData 42 = .ok (.aload_n 3, 1) := by decide +kernel
theorem dX3_sendData_43 : decode cX3_sendData 43 = .ok (.getfield 118, 3) := by decide +kernel
theorem dX3_sendData_46 : decode cX3_sendData 46 = .ok (.if_icmp .ge 16, 3) := by decide +kernel
theorem dX3_sendData_49 : decode cX3_sendData 49 = .ok (.aload_n 0, 1) := by decide +kernel
theorem dX3_sendData_50 : decode cX3_sendData 50 = .ok (.getfield 21, 3) := by decide +kernel
theorem dX3_sendData_53 : decode cX3_sendData 53 = .ok (.iconst 3, 1) := by decide +kernel
theorem dX3_sendData_54 : decode cX3_sendData 54 = .ok (.dup2, 1) := by decide +kernel
theorem dX3_sendData_55 : decode cX3_sendData 55 = .ok (.iaload, 1) := by decide +kernel
theorem dX3_sendData_56 : decode cX3_sendData 56 = .ok (.iconst 1, 1) := by decide +kernel
theorem dX3_sendData_57 : decode cX3_sendData 57 = .ok (.iadd, 1) := by decide +kernel
theorem dX3_sendData_58 : decode cX3_sendData 58 = .ok (.iastore, 1) := by decide +kernel
theorem dX3_sendData_59 : decode cX3_sendData 59 = .ok (.goto 10, 3) := by decide +kernel
theorem dX3_sendData_62 : decode cX3_sendData 62 = .ok (.aload_n 3, 1) := by decide +kernel
theorem dX3_sendData_63 : decode cX3_sendData 63 = .ok (.iload_n 1, 1) := by decide +kernel
theorem dX3_sendData_64 : decode cX3_sendData 64 = .ok (.iconst 1, 1) := by decide +kernel
theorem dX3_sendData_65 : decode cX3_sendData 65 = .ok (.iadd, 1) := by decide +kernel
theorem dX3_sendData_66 : decode cX3_sendData 66 = .ok (.putfield 118, 3) := by decide +kernel
theorem dX3_sendData_69 : decode cX3_sendData 69 = .ok (.iload_n 2, 1) := by decide +kernel
theorem dX3_sendData_70 : decode cX3_sendData 70 = .ok (.ifCond .eq 4, 3) := by decide +kernel
theorem dX3_sendData_73 : decode cX3_sendData 73 = .ok (.return_, 1) := by decide +kernel
theorem dX3_sendData_74 : decode cX3_sendData 74 = .ok (.aload 4, 2) := by decide +kernel
theorem dX3_sendData_76 : decode cX3_sendData 76 = .ok (.aload_n 3, 1) := by decide +kernel
theorem dX3_sendData_77 : decode cX3_sendData 77 = .ok (.invokevirtual 121, 3) := by decide +kernel
theorem dX3_sendData_80 : decode cX3_sendData 80 = .ok (.iload_n 1, 1) := by decide +kernel
theorem dX3_sendData_81 : decode cX3_sendData 81 = .ok (.aload 4, 2) := by decide +kernel
theorem dX3_sendData_83 : decode cX3_sendData 83 = .ok (.getfield 66, 3) := by decide +kernel
theorem dX3_sendData_86 : decode cX3_sendData 86 = .ok (.if_icmp .ne 17, 3) := by decide +kernel
theorem dX3_sendData_89 : decode cX3_sendData 89 = .ok (.aload 4, 2) := by decide +kernel
theorem dX3_sendData_91 : decode cX3_sendData 91 = .ok (.dup, 1) := by decide +kernel
theorem dX3_sendData_92 : decode cX3_sendData 92 = .ok (.getfield 66, 3) := by decide +kernel
theorem dX3_sendData_95 : decode cX3_sendData 95 = .ok (.iconst 1, 1) := by decide +kernel
theorem dX3_sendData_96 : decode cX3_sendData 96 = .ok (.iadd, 1) := by decide +kernel
theorem dX3_sendData_97 : decode cX3_sendData 97 = .ok (.putfield 66, 3) := by decide +kernel
theorem dX3_sendData_100 : decode cX3_sendData 100 = .ok (.goto 14, 3) := by decide +kernel
theorem dX3_sendData_103 : decode cX3_sendData 103 = .ok (.aload_n 0, 1) := by decide +kernel
theorem dX3_sendData_104 : decode cX3_sendData 104 = .ok (.getfield 21, 3) := by decide +kernel
theorem dX3_sendData_107 : decode cX3_sendData 107 = .ok (.bipush 9, 2) := by decide +kernel
theorem dX3_sendData_109 : decode cX3_sendData 109 = .ok (.dup2, 1) := by decide +kernel
theorem dX3_sendData_110 : decode cX3_sendData 110 = .ok (.iaload, 1) := by decide +kernel
theorem dX3_sendData_111 : decode cX3_sendData 111 = .ok (.iconst 1, 1) := by decide +kernel
theorem dX3_sendData_112 : decode cX3_sendData 112 = .ok (.iadd, 1) := by decide +kernel
theorem dX3_sendData_113 : decode cX3_sendData 113 = .ok (.iastore, 1) := by decide +kernel
theorem dX3_sendData_114 : decode cX3_sendData 114 = .ok (.return_, 1) := by decide +kernel
theorem dX3_sendTurn_0 : decode cX3_sendTurn 0 = .ok (.aload_n 0, 1) := by decide +kernel
theorem dX3_sendTurn_1 : decode cX3_sendTurn 1 = .ok (.aload_n 0, 1) := by decide +kernel
theorem dX3_sendTurn_2 : decode cX3_sendTurn 2 = .ok (.getfield 52, 3) := by decide +kernel
theorem dX3_sendTurn_5 : decode cX3_sendTurn 5 = .ok (.invokevirtual 114, 3) := by decide +kernel
theorem dX3_sendTurn_8 : decode cX3_sendTurn 8 = .ok (.astore_n 2, 1) := by decide +kernel
theorem dX3_sendTurn_9 : decode cX3_sendTurn 9 = .ok (.aload_n 0, 1) := by decide +kernel
theorem dX3_sendTurn_10 : decode cX3_sendTurn 10 = .ok (.iconst 1, 1) := by decide +kernel
theorem dX3_sendTurn_11 : decode cX3_sendTurn 11 = .ok (.aload_n 0, 1) := by decide +kernel
theorem dX3_sendTurn_12 : decode cX3_sendTurn 12 = .ok (.getfield 52, 3) := by decide +kernel
theorem dX3_sendTurn_15 : decode cX3_sendTurn 15 = .ok (.isub, 1) := by decide +kernel
theorem dX3_sendTurn_16 : decode cX3_sendTurn 16 = .ok (.invokevirtual 114, 3) := by decide +kernel
theorem dX3_sendTurn_19 : decode cX3_sendTurn 19 = .ok (.astore_n 3, 1) := by decide +kernel
theorem dX3_sendTurn_20 : decode cX3_sendTurn 20 = .ok (.aload_n 0, 1) := by decide +kernel
theorem dX3_sendTurn_21 : decode cX3_sendTurn 21 = .ok (.getfield 21, 3) := by decide +kernel
theorem dX3_sendTurn_24 : decode cX3_sendTurn 24 = .ok (.iconst 4, 1) := by decide +kernel
theorem dX3_sendTurn_25 : decode cX3_sendTurn 25 = .ok (.dup2, 1) := by decide +kernel
theorem dX3_sendTurn_26 : decode cX3_sendTurn 26 = .ok (.iaload, 1) := by decide +kernel
theorem dX3_sendTurn_27 : decode cX3_sendTurn 27 = .ok (.iconst 1, 1) := by decide +kernel
theorem dX3_sendTurn_28 : decode cX3_sendTurn 28 = .ok (.iadd, 1) := by decide +kernel
theorem dX3_sendTurn_29 : decode cX3_sendTurn 29 = .ok (.iastore, 1) := by decide +kernel
theorem dX3_sendTurn_30 : decode cX3_sendTurn 30 = .ok (.aload_n 0, 1) := by decide +kernel
theorem dX3_sendTurn_31 : decode cX3_sendTurn 31 = .ok (.getfield 58, 3) := by decide +kernel
theorem dX3_sendTurn_34 : decode cX3_sendTurn 34 = .ok (.ifCond .eq 13, 3) := by decide +kernel
theorem dX3_sendTurn_37 : decode cX3_sendTurn 37 = .ok (.aload_n 0, 1) := by decide +kernel
theorem dX3_sendTurn_38 : decode cX3_sendTurn 38 = .ok (.getfield 21, 3) := by decide +kernel
theorem dX3_sendTurn_41 : decode cX3_sendTurn 41 = .ok (.iconst 5, 1) := by decide +kernel
theorem dX3_sendTurn_42 : decode cX3_sendTurn 42 = .ok (.dup2, 1) := by decide +kernel
theorem dX3_sendTurn_43 : decode cX3_sendTurn 43 = .ok (.iaload, 1) := by decide +kernel
theorem dX3_sendTurn_44 : decode cX3_sendTurn 44 = .ok (.iconst 1, 1) := by decide +kernel
theorem dX3_sendTurn_45 : decode cX3_sendTurn 45 = .ok (.iadd, 1) := by decide +kernel
theorem dX3_sendTurn_46 : decode cX3_sendTurn 46 = .ok (.iastore, 1) := by decide +kernel
theorem dX3_sendTurn_47 : decode cX3_sendTurn 47 = .ok (.aload_n 0, 1) := by decide +kernel
theorem dX3_sendTurn_48 : decode cX3_sendTurn 48 = .ok (.iload_n 1, 1) := by decide +kernel
theorem dX3_sendTurn_49 : decode cX3_sendTurn 49 = .ok (.putfield 58, 3) := by decide +kernel
theorem dX3_sendTurn_52 : decode cX3_sendTurn 52 = .ok (.iload_n 1, 1) := by decide +kernel
theorem dX3_sendTurn_53 : decode cX3_sendTurn 53 = .ok (.ifCond .eq 18, 3) := by decide +kernel
theorem dX3_sendTurn_56 : decode cX3_sendTurn 56 = .ok (.aload_n 0, 1) := by decide +kernel
theorem dX3_sendTurn_57 : decode cX3_sendTurn 57 = .ok (.getfield 21, 3) := by decide +kernel
theorem dX3_sendTurn_60 : decode cX3_sendTurn 60 = .ok (.bipush 8, 2) := by decide +kernel
theorem dX3_sendTurn_62 : decode cX3_sendTurn 62 = .ok (.dup2, 1) := by decide +kernel
theorem dX3_sendTurn_63 : decode cX3_sendTurn 63 = .ok (.iaload, 1) := by decide +kernel
theorem dX3_sendTurn_64 : decode cX3_sendTurn 64 = .ok (.aload_n 0, 1) := by decide +kernel
theorem dX3_sendTurn_65 : decode cX3_sendTurn 65 = .ok (.getfield 33, 3) := by decide +kernel
theorem dX3_sendTurn_68 : decode cX3_sendTurn 68 = .ok (.iadd, 1) := by decide +kernel
theorem dX3_sendTurn_69 : decode cX3_sendTurn 69 = .ok (.iastore, 1) := by decide +kernel
theorem dX3_sendTurn_70 : decode cX3_sendTurn 70 = .ok (.return_, 1) := by decide +kernel
theorem dX3_sendTurn_71 : decode cX3_sendTurn 71 = .ok (.aload_n 3, 1) := by decide +kernel
theorem dX3_sendTurn_72 : decode cX3_sendTurn 72 = .ok (.aload_n 2, 1) := by decide +kernel
theorem dX3_sendTurn_73 : decode cX3_sendTurn 73 = .ok (.invokevirtual 121, 3) := by decide +kernel
theorem dX3_sendTurn_76 : decode cX3_sendTurn 76 = .ok (.aload_n 2, 1) := by decide +kernel
theorem dX3_sendTurn_77 : decode cX3_sendTurn 77 = .ok (.dup, 1) := by decide +kernel
theorem dX3_sendTurn_78 : decode cX3_sendTurn 78 = .ok (.getfield 124, 3) := by decide +kernel
theorem dX3_sendTurn_81 : decode cX3_sendTurn 81 = .ok (.iconst 1, 1) := by decide +kernel
theorem dX3_sendTurn_82 : decode cX3_sendTurn 82 = .ok (.iadd, 1) := by decide +kernel
theorem dX3_sendTurn_83 : decode cX3_sendTurn 83 = .ok (.putfield 124, 3) := by decide +kernel
theorem dX3_sendTurn_86 : decode cX3_sendTurn 86 = .ok (.aload_n 0, 1) := by decide +kernel
theorem dX3_sendTurn_87 : decode cX3_sendTurn 87 = .ok (.iconst 1, 1) := by decide +kernel
theorem dX3_sendTurn_88 : decode cX3_sendTurn 88 = .ok (.aload_n 0, 1) := by decide +kernel
theorem dX3_sendTurn_89 : decode cX3_sendTurn 89 = .ok (.getfield 52, 3) := by decide +kernel
theorem dX3_sendTurn_92 : decode cX3_sendTurn 92 = .ok (.isub, 1) := by decide +kernel
theorem dX3_sendTurn_93 : decode cX3_sendTurn 93 = .ok (.putfield 52, 3) := by decide +kernel
theorem dX3_sendTurn_96 : decode cX3_sendTurn 96 = .ok (.aload_n 0, 1) := by decide +kernel
theorem dX3_sendTurn_97 : decode cX3_sendTurn 97 = .ok (.iconst 0, 1) := by decide +kernel
theorem dX3_sendTurn_98 : decode cX3_sendTurn 98 = .ok (.putfield 55, 3) := by decide +kernel
theorem dX3_sendTurn_101 : decode cX3_sendTurn 101 = .ok (.aload_n 3, 1) := by decide +kernel
theorem dX3_sendTurn_102 : decode cX3_sendTurn 102 = .ok (.aload_n 2, 1) := by decide +kernel
theorem dX3_sendTurn_103 : decode cX3_sendTurn 103 = .ok (.getfield 127, 3) := by decide +kernel
theorem dX3_sendTurn_106 : decode cX3_sendTurn 106 = .ok (.invokevirtual 130, 3) := by decide +kernel
theorem dX3_sendTurn_109 : decode cX3_sendTurn 109 = .ok (.return_, 1) := by decide +kernel
theorem dX4_init_0 : decode cX4_init 0 = .ok (.aload_n 0, 1) := by decide +kernel
theorem dX4_init_1 : decode cX4_init 1 = .ok (.invokespecial 1, 3) := by decide +kernel
theorem dX4_init_4 : decode cX4_init 4 = .ok (.aload_n 0, 1) := by decide +kernel
theorem dX4_init_5 : decode cX4_init 5 = .ok (.new 7, 3) := by decide +kernel
theorem dX4_init_8 : decode cX4_init 8 = .ok (.dup, 1) := by decide +kernel
theorem dX4_init_9 : decode cX4_init 9 = .ok (.invokespecial 9, 3) := by decide +kernel
theorem dX4_init_12 : decode cX4_init 12 = .ok (.putfield 10, 3) := by decide +kernel
theorem dX4_init_15 : decode cX4_init 15 = .ok (.return_, 1) := by decide +kernel
theorem dX5_init_0 : decode cX5_init 0 = .ok (.aload_n 0, 1) := by decide +kernel
theorem dX5_init_1 : decode cX5_init 1 = .ok (.invokespecial 3, 3) := by decide +kernel
theorem dX5_init_4 : decode cX5_init 4 = .ok (.aload_n 0, 1) := by decide +kernel
theorem dX5_init_5 : decode cX5_init 5 = .ok (.bipush 20, 2) := by decide +kernel
theorem dX5_init_7 : decode cX5_init 7 = .ok (.newarray .int, 2) := by decide +kernel
theorem dX5_init_9 : decode cX5_init 9 = .ok (.putfield 9, 3) := by decide +kernel
theorem dX5_init_12 : decode cX5_init 12 = .ok (.aload_n 0, 1) := by decide +kernel
theorem dX5_init_13 : decode cX5_init 13 = .ok (.bipush 20, 2) := by decide +kernel
theorem dX5_init_15 : decode cX5_init 15 = .ok (.newarray .long, 2) := by decide +kernel
theorem dX5_init_17 : decode cX5_init 17 = .ok (.putfield 15, 3) := by decide +kernel
theorem dX5_init_20 : decode cX5_init 20 = .ok (.aload_n 0, 1) := by decide +kernel
theorem dX5_init_21 : decode cX5_init 21 = .ok (.iconst 4, 1) := by decide +kernel
theorem dX5_init_22 : decode cX5_init 22 = .ok (.putfield 19, 3) := by decide +kernel
theorem dX5_init_25 : decode cX5_init 25 = .ok (.aload_n 0, 1) := by decide +kernel
theorem dX5_init_26 : decode cX5_init 26 = .ok (.iconst 4, 1) := by decide +kernel
theorem dX5_init_27 : decode cX5_init 27 = .ok (.putfield 23, 3) := by decide +kernel
theorem dX5_init_30 : decode cX5_init 30 = .ok (.return_, 1) := by decide +kernel
theorem dX5_copyFrom_0 : decode cX5_copyFrom 0 = .ok (.aload_n 1, 1) := by decide +kernel
theorem dX5_copyFrom_1 : decode cX5_copyFrom 1 = .ok (.getfield 9, 3) := by decide +kernel
theorem dX5_copyFrom_4 : decode cX5_copyFrom 4 = .ok (.iconst 0, 1) := by decide +kernel
theorem dX5_copyFrom_5 : decode cX5_copyFrom 5 = .ok (.aload_n 0, 1) := by decide +kernel
theorem dX5_copyFrom_6 : decode cX5_copyFrom 6 = .ok (.getfield 9, 3) := by decide +kernel
theorem dX5_copyFrom_9 : decode cX5_copyFrom 9 = .ok (.iconst 0, 1) := by decide +kernel
theorem dX5_copyFrom_10 : decode cX5_copyFrom 10 = .ok (.bipush 20, 2) := by decide +kernel
theorem dX5_copyFrom_12 : decode cX5_copyFrom 12 = .ok (.invokestatic 26, 3) := by decide +kernel
theorem dX5_copyFrom_15 : decode cX5_copyFrom 15 = .ok (.aload_n 1, 1) := by decide +kernel
theorem dX5_copyFrom_16 : decode cX5_copyFrom 16 = .ok (.getfield 15, 3) := by decide +kernel
theorem dX5_copyFrom_19 : decode cX5_copyFrom 19 = .ok (.iconst 0, 1) := by decide +kernel
theorem dX5_copyFrom_20 : decode cX5_copyFrom 20 = .ok (.aload_n 0, 1) := by decide +kernel
theorem dX5_copyFrom_21 : decode cX5_copyFrom 21 = .ok (.getfield 15, 3) := by decide +kernel
theorem dX5_copyFrom_24 : decode cX5_copyFrom 24 = .ok (.iconst 0, 1) := by decide +kernel
theorem dX5_copyFrom_25 : decode cX5_copyFrom 25 = .ok (.bipush 20, 2) := by decide +kernel
theorem dX5_copyFrom_27 : decode cX5_copyFrom 27 = .ok (.invokestatic 26, 3) := by decide +kernel
theorem dX5_copyFrom_30 : decode cX5_copyFrom 30 = .ok (.aload_n 0, 1) := by decide +kernel
theorem dX5_copyFrom_31 : decode cX5_copyFrom 31 = .ok (.aload_n 1, 1) := by decide +kernel
theorem dX5_copyFrom_32 : decode cX5_copyFrom 32 = .ok (.getfield 32, 3) := by decide +kernel
theorem dX5_copyFrom_35 : decode cX5_copyFrom 35 = .ok (.putfield 32, 3) := by decide +kernel
theorem dX5_copyFrom_38 : decode cX5_copyFrom 38 = .ok (.aload_n 0, 1) := by decide +kernel
theorem dX5_copyFrom_39 : decode cX5_copyFrom 39 = .ok (.aload_n 1, 1) := by decide +kernel
theorem dX5_copyFrom_40 : decode cX5_copyFrom 40 = .ok (.getfield 35, 3) := by decide +kernel
theorem dX5_copyFrom_43 : decode cX5_copyFrom 43 = .ok (.putfield 35, 3) := by decide +kernel
theorem dX5_copyFrom_46 : decode cX5_copyFrom 46 = .ok (.aload_n 0, 1) := by decide +kernel
theorem dX5_copyFrom_47 : decode cX5_copyFrom 47 = .ok (.aload_n 1, 1) := by decide +kernel
theorem dX5_copyFrom_48 : decode cX5_copyFrom 48 = .ok (.getfield 38, 3) := by decide +kernel
theorem dX5_copyFrom_51 : decode cX5_copyFrom 51 = .ok (.putfield 38, 3) := by decide +kernel
theorem dX5_copyFrom_54 : decode cX5_copyFrom 54 = .ok (.aload_n 0, 1) := by decide +kernel
theorem dX5_copyFrom_55 : decode cX5_copyFrom 55 = .ok (.aload_n 1, 1) := by decide +kernel
theorem dX5_copyFrom_56 : decode cX5_copyFrom 56 = .ok (.getfield 19, 3) := by decide +kernel
theorem dX5_copyFrom_59 : decode cX5_copyFrom 59 = .ok (.putfield 19, 3) := by decide +kernel
theorem dX5_copyFrom_62 : decode cX5_copyFrom 62 = .ok (.aload_n 0, 1) := by decide +kernel
theorem dX5_copyFrom_63 : decode cX5_copyFrom 63 = .ok (.aload_n 1, 1) := by decide +kernel
theorem dX5_copyFrom_64 : decode cX5_copyFrom 64 = .ok (.getfield 41, 3) := by decide +kernel
theorem dX5_copyFrom_67 : decode cX5_copyFrom 67 = .ok (.putfield 41, 3) := by decide +kernel
theorem dX5_copyFrom_70 : decode cX5_copyFrom 70 = .ok (.aload_n 0, 1) := by decide +kernel
theorem dX5_copyFrom_71 : decode cX5_copyFrom 71 = .ok (.aload_n 1, 1) := by decide +kernel
theorem dX5_copyFrom_72 : decode cX5_copyFrom 72 = .ok (.getfield 44, 3) := by decide +kernel
theorem dX5_copyFrom_75 : decode cX5_copyFrom 75 = .ok (.putfield 44, 3) := by decide +kernel
theorem dX5_copyFrom_78 : decode cX5_copyFrom 78 = .ok (.aload_n 0, 1) := by decide +kernel
theorem dX5_copyFrom_79 : decode cX5_copyFrom 79 = .ok (.aload_n 1, 1) := by decide +kernel
theorem dX5_copyFrom_80 : decode cX5_copyFrom 80 = .ok (.getfield 47, 3) := by decide +kernel
theorem dX5_copyFrom_83 : decode cX5_copyFrom 83 = .ok (.putfield 47, 3) := by decide +kernel
theorem dX5_copyFrom_86 : decode cX5_copyFrom 86 = .ok (.aload_n 0, 1) := by decide +kernel
theorem dX5_copyFrom_87 : decode cX5_copyFrom 87 = .ok (.aload_n 1, 1) := by decide +kernel
theorem dX5_copyFrom_88 : decode cX5_copyFrom 88 = .ok (.getfield 50, 3) := by decide +kernel
theorem dX5_copyFrom_91 : decode cX5_copyFrom 91 = .ok (.putfield 50, 3) := by decide +kernel
theorem dX5_copyFrom_94 : decode cX5_copyFrom 94 = .ok (.aload_n 0, 1) := by decide +kernel
theorem dX5_copyFrom_95 : decode cX5_copyFrom 95 = .ok (.aload_n 1, 1) := by decide +kernel
theorem dX5_copyFrom_96 : decode cX5_copyFrom 96 = .ok (.getfield 23, 3) := by decide +kernel
theorem dX5_copyFrom_99 : decode cX5_copyFrom 99 = .ok (.putfield 23, 3) := by decide +kernel
theorem dX5_copyFrom_102 : decode cX5_copyFrom 102 = .ok (.aload_n 0, 1) := by decide +kernel
theorem dX5_copyFrom_103 : decode cX5_copyFrom 103 = .ok (.aload_n 1, 1) := by decide +kernel
theorem dX5_copyFrom_104 : decode cX5_copyFrom 104 = .ok (.getfield 53, 3) := by decide +kernel
theorem dX5_copyFrom_107 : decode cX5_copyFrom 107 = .ok (.putfield 53, 3) := by decide +kernel
theorem dX5_copyFrom_110 : decode cX5_copyFrom 110 = .ok (.aload_n 0, 1) := by decide +kernel
theorem dX5_copyFrom_111 : decode cX5_copyFrom 111 = .ok (.aload_n 1, 1) := by decide +kernel
theorem dX5_copyFrom_112 : decode cX5_copyFrom 112 = .ok (.getfield 56, 3) := by decide +kernel
theorem dX5_copyFrom_115 : decode cX5_copyFrom 115 = .ok (.putfield 56, 3) := by decide +kernel
theorem dX5_copyFrom_118 : decode cX5_copyFrom 118 = .ok (.return_, 1) := by decide +kernel
theorem dX5_numberOf_0 : decode cX5_numberOf 0 = .ok (.iload_n 1, 1) := by decide +kernel
theorem dX5_numberOf_1 : decode cX5_numberOf 1 = .ok (.tableswitch 105 0 9 #[55, 60, 65, 70, 75, 80, 85, 90, 95, 100], 55) := by decide +kernel
theorem dX5_numberOf_56 : decode cX5_numberOf 56 = .ok (.aload_n 0, 1) := by decide +kernel
theorem dX5_numberOf_57 : decode cX5_numberOf 57 = .ok (.getfield 32, 3) := by decide +kernel
theorem dX5_numberOf_60 : decode cX5_numberOf 60 = .ok (.ireturn, 1) := by decide +kernel
theorem dX5_numberOf_61 : decode cX5_numberOf 61 = .ok (.aload_n 0, 1) := by decide +kernel
theorem dX5_numberOf_62 : decode cX5_numberOf 62 = .ok (.getfield 35, 3) := by decide +kernel
theorem dX5_numberOf_65 : decode cX5_numberOf 65 = .ok (.ireturn, 1) := by decide +kernel
theorem dX5_numberOf_66 : decode cX5_numberOf 66 = .ok (.aload_n 0, 1) := by decide +kernel
theorem dX5_numberOf_67 : decode cX5_numberOf 67 = .ok (.getfield 38, 3) := by decide +kernel
theorem dX5_numberOf_70 : decode cX5_numberOf 70 = .ok (.ireturn, 1) := by decide +kernel
theorem dX5_numberOf_71 : decode cX5_numberOf 71 = .ok (.aload_n 0, 1) := by decide +kernel
theorem dX5_numberOf_72 : decode cX5_numberOf 72 = .ok (.getfield 19, 3) := by decide +kernel
theorem dX5_numberOf_75 : decode cX5_numberOf 75 = .ok (.ireturn, 1) := by decide +kernel
theorem dX5_numberOf_76 : decode cX5_numberOf 76 = .ok (.aload_n 0, 1) := by decide +kernel
theorem dX5_numberOf_77 : decode cX5_numberOf 77 = .ok (.getfield 41, 3) := by decide +kernel
theorem dX5_numberOf_80 : decode cX5_numberOf 80 = .ok (.ireturn, 1) := by decide +kernel
theorem dX5_numberOf_81 : decode cX5_numberOf 81 = .ok (.aload_n 0, 1) := by decide +kernel
theorem dX5_numberOf_82 : decode cX5_numberOf 82 = .ok (.getfield 44, 3) := by decide +kernel
theorem dX5_numberOf_85 : decode cX5_numberOf 85 = .ok (.ireturn, 1) := by decide +kernel
theorem dX5_numberOf_86 : decode cX5_numberOf 86 = .ok (.aload_n 0, 1) := by decide +kernel
theorem dX5_numberOf_87 : decode cX5_numberOf 87 = .ok (.getfield 50, 3) := by decide +kernel
theorem dX5_numberOf_90 : decode cX5_numberOf 90 = .ok (.ireturn, 1) := by decide +kernel
theorem dX5_numberOf_91 : decode cX5_numberOf 91 = .ok (.aload_n 0, 1) := by decide +kernel
theorem dX5_numberOf_92 : decode cX5_numberOf 92 = .ok (.getfield 23, 3) := by decide +kernel
theorem dX5_numberOf_95 : decode cX5_numberOf 95 = .ok (.ireturn, 1) := by decide +kernel
theorem dX5_numberOf_96 : decode cX5_numberOf 96 = .ok (.aload_n 0, 1) := by decide +kernel
theorem dX5_numberOf_97 : decode cX5_numberOf 97 = .ok (.getfield 53, 3) := by decide +kernel
theorem dX5_numberOf_100 : decode cX5_numberOf 100 = .ok (.ireturn, 1) := by decide +kernel
theorem dX5_numberOf_101 : decode cX5_numberOf 101 = .ok (.aload_n 0, 1) := by decide +kernel
theorem dX5_numberOf_102 : decode cX5_numberOf 102 = .ok (.getfield 56, 3) := by decide +kernel
theorem dX5_numberOf_105 : decode cX5_numberOf 105 = .ok (.ireturn, 1) := by decide +kernel
theorem dX5_numberOf_106 : decode cX5_numberOf 106 = .ok (.iconst (-1), 1) := by decide +kernel
theorem dX5_numberOf_107 : decode cX5_numberOf 107 = .ok (.ireturn, 1) := by decide +kernel
theorem dX5_ownLimit_0 : decode cX5_ownLimit 0 = .ok (.aload_n 0, 1) := by decide +kernel
theorem dX5_ownLimit_1 : decode cX5_ownLimit 1 = .ok (.getfield 38, 3) := by decide +kernel
theorem dX5_ownLimit_4 : decode cX5_ownLimit 4 = .ok (.aload_n 0, 1) := by decide +kernel
theorem dX5_ownLimit_5 : decode cX5_ownLimit 5 = .ok (.getfield 19, 3) := by decide +kernel
theorem dX5_ownLimit_8 : decode cX5_ownLimit 8 = .ok (.iadd, 1) := by decide +kernel
theorem dX5_ownLimit_9 : decode cX5_ownLimit 9 = .ok (.ireturn, 1) := by decide +kernel
theorem dX5_inBuffer_0 : decode cX5_inBuffer 0 = .ok (.aload_n 0, 1) := by decide +kernel
theorem dX5_inBuffer_1 : decode cX5_inBuffer 1 = .ok (.getfield 35, 3) := by decide +kernel
theorem dX5_inBuffer_4 : decode cX5_inBuffer 4 = .ok (.aload_n 0, 1) := by decide +kernel
theorem dX5_inBuffer_5 : decode cX5_inBuffer 5 = .ok (.getfield 38, 3) := by decide +kernel
theorem dX5_inBuffer_8 : decode cX5_inBuffer 8 = .ok (.isub, 1) := by decide +kernel
theorem dX5_inBuffer_9 : decode cX5_inBuffer 9 = .ok (.ireturn, 1) := by decide +kernel
theorem dX5_hasMessage_0 : decode cX5_hasMessage 0 = .ok (.iload_n 1, 1) := by decide +kernel
theorem dX5_hasMessage_1 : decode cX5_hasMessage 1 = .ok (.ifCond .lt 21, 3) := by decide +kernel
theorem dX5_hasMessage_4 : decode cX5_hasMessage 4 = .ok (.iload_n 1, 1) := by decide +kernel
theorem dX5_hasMessage_5 : decode cX5_hasMessage 5 = .ok (.aload_n 0, 1) := by decide +kernel
theorem dX5_hasMessage_6 : decode cX5_hasMessage 6 = .ok (.getfield 32, 3) := by decide +kernel
theorem dX5_hasMessage_9 : decode cX5_hasMessage 9 = .ok (.if_icmp .ge 13, 3) := by decide +kernel
theorem dX5_hasMessage_12 : decode cX5_hasMessage 12 = .ok (.iload_n 1, 1) := by decide +kernel
theorem dX5_hasMessage_13 : decode cX5_hasMessage 13 = .ok (.bipush 20, 2) := by decide +kernel
theorem dX5_hasMessage_15 : decode cX5_hasMessage 15 = .ok (.if_icmp .ge 7, 3) := by decide +kernel
theorem dX5_hasMessage_18 : decode cX5_hasMessage 18 = .ok (.iconst 1, 1) := by decide +kernel
theorem dX5_hasMessage_19 : decode cX5_hasMessage 19 = .ok (.goto 4, 3) := by decide +kernel
theorem dX5_hasMessage_22 : decode cX5_hasMessage 22 = .ok (.iconst 0, 1) := by decide +kernel
theorem dX5_hasMessage_23 : decode cX5_hasMessage 23 = .ok (.ireturn, 1) := by decide +kernel
theorem dX5_lengthOf_0 : decode cX5_lengthOf 0 = .ok (.aload_n 0, 1) := by decide +kernel
theorem dX5_lengthOf_1 : decode cX5_lengthOf 1 = .ok (.iload_n 1, 1) := by decide +kernel
theorem dX5_lengthOf_2 : decode cX5_lengthOf 2 = .ok (.invokevirtual 59, 3) := by decide +kernel
theorem dX5_lengthOf_5 : decode cX5_lengthOf 5 = .ok (.ifCond .eq 12, 3) := by decide +kernel
theorem dX5_lengthOf_8 : decode cX5_lengthOf 8 = .ok (.aload_n 0, 1) := by decide +kernel
theorem dX5_lengthOf_9 : decode cX5_lengthOf 9 = .ok (.getfield 9, 3) := by decide +kernel
theorem dX5_lengthOf_12 : decode cX5_lengthOf 12 = .ok (.iload_n 1, 1) := by decide +kernel
theorem dX5_lengthOf_13 : decode cX5_lengthOf 13 = .ok (.iaload, 1) := by decide +kernel
theorem dX5_lengthOf_14 : decode cX5_lengthOf 14 = .ok (.goto 4, 3) := by decide +kernel
theorem dX5_lengthOf_17 : decode cX5_lengthOf 17 = .ok (.iconst 0, 1) := by decide +kernel
theorem dX5_lengthOf_18 : decode cX5_lengthOf 18 = .ok (.ireturn, 1) := by decide +kernel
theorem dX5_byteOf_0 : decode cX5_byteOf 0 = .ok (.aload_n 0, 1) := by decide +kernel
theorem dX5_byteOf_1 : decode cX5_byteOf 1 = .ok (.iload_n 1, 1) := by decide +kernel
theorem dX5_byteOf_2 : decode cX5_byteOf 2 = .ok (.invokevirtual 59, 3) := by decide +kernel
theorem dX5_byteOf_5 : decode cX5_byteOf 5 = .ok (.ifCond .eq 17, 3) := by decide +kernel
theorem dX5_byteOf_8 : decode cX5_byteOf 8 = .ok (.iload_n 2, 1) := by decide +kernel
theorem dX5_byteOf_9 : decode cX5_byteOf 9 = .ok (.ifCond .lt 13, 3) := by decide +kernel
theorem dX5_byteOf_12 : decode cX5_byteOf 12 = .ok (.iload_n 2, 1) := by decide +kernel
theorem dX5_byteOf_13 : decode cX5_byteOf 13 = .ok (.aload_n 0, 1) := by decide +kernel
theorem dX5_byteOf_14 : decode cX5_byteOf 14 = .ok (.getfield 9, 3) := by decide +kernel
theorem dX5_byteOf_17 : decode cX5_byteOf 17 = .ok (.iload_n 1, 1) := by decide +kernel
theorem dX5_byteOf_18 : decode cX5_byteOf 18 = .ok (.iaload, 1) := by decide +kernel
theorem dX5_byteOf_19 : decode cX5_byteOf 19 = .ok (.if_icmp .lt 5, 3) := by decide +kernel
theorem dX5_byteOf_22 : decode cX5_byteOf 22 = .ok (.iconst (-1), 1) := by decide +kernel
theorem dX5_byteOf_23 : decode cX5_byteOf 23 = .ok (.ireturn, 1) := by decide +kernel
theorem dX5_byteOf_24 : decode cX5_byteOf 24 = .ok (.aload_n 0, 1) := by decide +kernel
theorem dX5_byteOf_25 : decode cX5_byteOf 25 = .ok (.getfield 15, 3) := by decide +kernel
theorem dX5_byteOf_28 : decode cX5_byteOf 28 = .ok (.iload_n 1, 1) := by decide +kernel
theorem dX5_byteOf_29 : decode cX5_byteOf 29 = .ok (.laload, 1) := by decide +kernel
theorem dX5_byteOf_30 : decode cX5_byteOf 30 = .ok (.bipush 8, 2) := by decide +kernel
theorem dX5_byteOf_32 : decode cX5_byteOf 32 = .ok (.iload_n 2, 1) := by decide +kernel
theorem dX5_byteOf_33 : decode cX5_byteOf 33 = .ok (.imul, 1) := by decide +kernel
theorem dX5_byteOf_34 : decode cX5_byteOf 34 = .ok (.lushr, 1) := by decide +kernel
theorem dX5_byteOf_35 : decode cX5_byteOf 35 = .ok (.l2i, 1) := by decide +kernel
theorem dX5_byteOf_36 : decode cX5_byteOf 36 = .ok (.sipush 255, 3) := by decide +kernel
theorem dX5_byteOf_39 : decode cX5_byteOf 39 = .ok (.iand, 1) := by decide +kernel
theorem dX5_byteOf_40 : decode cX5_byteOf 40 = .ok (.ireturn, 1) := by decide +kernel
theorem dX5_bytesOfFirst_0 : decode cX5_bytesOfFirst 0 = .ok (.iconst 0, 1) := by decide +kernel
theorem dX5_bytesOfFirst_1 : decode cX5_bytesOfFirst 1 = .ok (.istore_n 2, 1) := by decide +kernel
theorem dX5_bytesOfFirst_2 : decode cX5_bytesOfFirst 2 = .ok (.iconst 0, 1) := by decide +kernel
theorem dX5_bytesOfFirst_3 : decode cX5_bytesOfFirst 3 = .ok (.istore_n 3, 1) := by decide +kernel
theorem dX5_bytesOfFirst_4 : decode cX5_bytesOfFirst 4 = .ok (.iload_n 3, 1) := by decide +kernel
theorem dX5_bytesOfFirst_5 : decode cX5_bytesOfFirst 5 = .ok (.iload_n 1, 1) := by decide +kernel
theorem dX5_bytesOfFirst_6 : decode cX5_bytesOfFirst 6 = .ok (.if_icmp .ge 23, 3) := by decide +kernel
theorem dX5_bytesOfFirst_9 : decode cX5_bytesOfFirst 9 = .ok (.iload_n 3, 1) := by decide +kernel
theorem dX5_bytesOfFirst_10 : decode cX5_bytesOfFirst 10 = .ok (.bipush 20, 2) := by decide +kernel
theorem dX5_bytesOfFirst_12 : decode cX5_bytesOfFirst 12 = .ok (.if_icmp .ge 17, 3) := by decide +kernel
theorem dX5_bytesOfFirst_15 : decode cX5_bytesOfFirst 15 = .ok (.iload_n 2, 1) := by decide +kernel
theorem dX5_bytesOfFirst_16 : decode cX5_bytesOfFirst 16 = .ok (.aload_n 0, 1) := by decide +kernel
theorem dX5_bytesOfFirst_17 : decode cX5_bytesOfFirst 17 = .ok (.iload_n 3, 1) := by decide +kernel
theorem dX5_bytesOfFirst_18 : decode cX5_bytesOfFirst 18 = .ok (.invokevirtual 63, 3) := by decide +kernel
theorem dX5_bytesOfFirst_21 : decode cX5_bytesOfFirst 21 = .ok (.iadd, 1) := by decide +kernel
theorem dX5_bytesOfFirst_22 : decode cX5_bytesOfFirst 22 = .ok (.istore_n 2, 1) := by decide +kernel
theorem dX5_bytesOfFirst_23 : decode cX5_bytesOfFirst 23 = .ok (.iinc 3 1, 3) := by decide +kernel
theorem dX5_bytesOfFirst_26 : decode cX5_bytesOfFirst 26 = .ok (.goto (-22), 3) := by decide +kernel
theorem dX5_bytesOfFirst_29 : decode cX5_bytesOfFirst 29 = .ok (.iload_n 2, 1) := by decide +kernel
theorem dX5_bytesOfFirst_30 : decode cX5_bytesOfFirst 30 = .ok (.ireturn, 1) := by decide +kernel
theorem dX5_addMessage_0 : decode cX5_addMessage 0 = .ok (.aload_n 0, 1) := by decide +kernel
theorem dX5_addMessage_1 : decode cX5_addMessage 1 = .ok (.getfield 32, 3) := by decide +kernel
theorem dX5_addMessage_4 : decode cX5_addMessage 4 = .ok (.ifCond .lt 42, 3) := by decide +kernel
theorem dX5_addMessage_7 : decode cX5_addMessage 7 = .ok (.aload_n 0, 1) := by decide +kernel
theorem dX5_addMessage_8 : decode cX5_addMessage 8 = .ok (.getfield 32, 3) := by decide +kernel
theorem dX5_addMessage_11 : decode cX5_addMessage 11 = .ok (.bipush 20, 2) := by decide +kernel
theorem dX5_addMessage_13 : decode cX5_addMessage 13 = .ok (.if_icmp .ge 33, 3) := by decide +kernel
theorem dX5_addMessage_16 : decode cX5_addMessage 16 = .ok (.aload_n 0, 1) := by decide +kernel
theorem dX5_addMessage_17 : decode cX5_addMessage 17 = .ok (.getfield 9, 3) := by decide +kernel
theorem dX5_addMessage_20 : decode cX5_addMessage 20 = .ok (.aload_n 0, 1) := by decide +kernel
theorem dX5_addMessage_21 : decode cX5_addMessage 21 = .ok (.getfield 32, 3) := by decide +kernel
theorem dX5_addMessage_24 : decode cX5_addMessage 24 = .ok (.iload_n 1, 1) := by decide +kernel
theorem dX5_addMessage_25 : decode cX5_addMessage 25 = .ok (.iastore, 1) := by decide +kernel
theorem dX5_addMessage_26 : decode cX5_addMessage 26 = .ok (.aload_n 0, 1) := by decide +kernel
theorem dX5_addMessage_27 : decode cX5_addMessage 27 = .ok (.getfield 15, 3) := by decide +kernel
theorem dX5_addMessage_30 : decode cX5_addMessage 30 = .ok (.aload_n 0, 1) := by decide +kernel
theorem dX5_addMessage_31 : decode cX5_addMessage 31 = .ok (.getfield 32, 3) := by decide +kernel
theorem dX5_addMessage_34 : decode cX5_addMessage 34 = .ok (.lload_n 2, 1) := by decide +kernel
theorem dX5_addMessage_35 : decode cX5_addMessage 35 = .ok (.lastore, 1) := by decide +kernel
theorem dX5_addMessage_36 : decode cX5_addMessage 36 = .ok (.aload_n 0, 1) := by decide +kernel
theorem dX5_addMessage_37 : decode cX5_addMessage 37 = .ok (.dup, 1) := by decide +kernel
theorem dX5_addMessage_38 : decode cX5_addMessage 38 = .ok (.getfield 32, 3) := by decide +kernel
theorem dX5_addMessage_41 : decode cX5_addMessage 41 = .ok (.iconst 1, 1) := by decide +kernel
theorem dX5_addMessage_42 : decode cX5_addMessage 42 = .ok (.iadd, 1) := by decide +kernel
theorem dX5_addMessage_43 : decode cX5_addMessage 43 = .ok (.putfield 32, 3) := by decide +kernel
theorem dX5_addMessage_46 : decode cX5_addMessage 46 = .ok (.return_, 1) := by decide +kernel
theorem dX5_noteHeadOf_0 : decode cX5_noteHeadOf 0 = .ok (.aload_n 0, 1) := by decide +kernel
theorem dX5_noteHeadOf_1 : decode cX5_noteHeadOf 1 = .ok (.aload_n 1, 1) := by decide +kernel
theorem dX5_noteHeadOf_2 : decode cX5_noteHeadOf 2 = .ok (.getfield 35, 3) := by decide +kernel
theorem dX5_noteHeadOf_5 : decode cX5_noteHeadOf 5 = .ok (.putfield 50, 3) := by decide +kernel
theorem dX5_noteHeadOf_8 : decode cX5_noteHeadOf 8 = .ok (.aload_n 0, 1) := by decide +kernel
theorem dX5_noteHeadOf_9 : decode cX5_noteHeadOf 9 = .ok (.aload_n 1, 1) := by decide +kernel
theorem dX5_noteHeadOf_10 : decode cX5_noteHeadOf 10 = .ok (.invokevirtual 67, 3) := by decide +kernel
theorem dX5_noteHeadOf_13 : decode cX5_noteHeadOf 13 = .ok (.putfield 23, 3) := by decide +kernel
theorem dX5_noteHeadOf_16 : decode cX5_noteHeadOf 16 = .ok (.aload_n 1, 1) := by decide +kernel
theorem dX5_noteHeadOf_17 : decode cX5_noteHeadOf 17 = .ok (.getfield 44, 3) := by decide +kernel
theorem dX5_noteHeadOf_20 : decode cX5_noteHeadOf 20 = .ok (.aload_n 0, 1) := by decide +kernel
theorem dX5_noteHeadOf_21 : decode cX5_noteHeadOf 21 = .ok (.getfield 47, 3) := by decide +kernel
theorem dX5_noteHeadOf_24 : decode cX5_noteHeadOf 24 = .ok (.isub, 1) := by decide +kernel
theorem dX5_noteHeadOf_25 : decode cX5_noteHeadOf 25 = .ok (.istore_n 2, 1) := by decide +kernel
theorem dX5_noteHeadOf_26 : decode cX5_noteHeadOf 26 = .ok (.iload_n 2, 1) := by decide +kernel
theorem dX5_noteHeadOf_27 : decode cX5_noteHeadOf 27 = .ok (.ifCond .le 31, 3) := by decide +kernel
theorem dX5_noteHeadOf_30 : decode cX5_noteHeadOf 30 = .ok (.aload_n 0, 1) := by decide +kernel
theorem dX5_noteHeadOf_31 : decode cX5_noteHeadOf 31 = .ok (.dup, 1) := by decide +kernel
theorem dX5_noteHeadOf_32 : decode cX5_noteHeadOf 32 = .ok (.getfield 19, 3) := by decide +kernel
theorem dX5_noteHeadOf_35 : decode cX5_noteHeadOf 35 = .ok (.iload_n 2, 1) := by decide +kernel
theorem dX5_noteHeadOf_36 : decode cX5_noteHeadOf 36 = .ok (.isub, 1) := by decide +kernel
theorem dX5_noteHeadOf_37 : decode cX5_noteHeadOf 37 = .ok (.putfield 19, 3) := by decide +kernel
theorem dX5_noteHeadOf_40 : decode cX5_noteHeadOf 40 = .ok (.aload_n 0, 1) := by decide +kernel
theorem dX5_noteHeadOf_41 : decode cX5_noteHeadOf 41 = .ok (.dup, 1) := by decide +kernel
theorem dX5_noteHeadOf_42 : decode cX5_noteHeadOf 42 = .ok (.getfield 41, 3) := by decide +kernel
theorem dX5_noteHeadOf_45 : decode cX5_noteHeadOf 45 = .ok (.iload_n 2, 1) := by decide +kernel
theorem dX5_noteHeadOf_46 : decode cX5_noteHeadOf 46 = .ok (.isub, 1) := by decide +kernel
theorem dX5_noteHeadOf_47 : decode cX5_noteHeadOf 47 = .ok (.putfield 41, 3) := by decide +kernel
theorem dX5_noteHeadOf_50 : decode cX5_noteHeadOf 50 = .ok (.aload_n 0, 1) := by decide +kernel
theorem dX5_noteHeadOf_51 : decode cX5_noteHeadOf 51 = .ok (.aload_n 1, 1) := by decide +kernel
theorem dX5_noteHeadOf_52 : decode cX5_noteHeadOf 52 = .ok (.getfield 44, 3) := by decide +kernel
theorem dX5_noteHeadOf_55 : decode cX5_noteHeadOf 55 = .ok (.putfield 47, 3) := by decide +kernel
theorem dX5_noteHeadOf_58 : decode cX5_noteHeadOf 58 = .ok (.return_, 1) := by decide +kernel
theorem dX5_returnCapacity_0 : decode cX5_returnCapacity 0 = .ok (.iconst 0, 1) := by decide +kernel
theorem dX5_returnCapacity_1 : decode cX5_returnCapacity 1 = .ok (.aload_n 0, 1) := by decide +kernel
theorem dX5_returnCapacity_2 : decode cX5_returnCapacity 2 = .ok (.getfield 23, 3) := by decide +kernel
theorem dX5_returnCapacity_5 : decode cX5_returnCapacity 5 = .ok (.aload_n 0, 1) := by decide +kernel
theorem dX5_returnCapacity_6 : decode cX5_returnCapacity 6 = .ok (.getfield 53, 3) := by decide +kernel
theorem dX5_returnCapacity_9 : decode cX5_returnCapacity 9 = .ok (.isub, 1) := by decide +kernel
theorem dX5_returnCapacity_10 : decode cX5_returnCapacity 10 = .ok (.invokestatic 71, 3) := by decide +kernel
theorem dX5_returnCapacity_13 : decode cX5_returnCapacity 13 = .ok (.istore_n 2, 1) := by decide +kernel
theorem dX5_returnCapacity_14 : decode cX5_returnCapacity 14 = .ok (.iload_n 1, 1) := by decide +kernel
theorem dX5_returnCapacity_15 : decode cX5_returnCapacity 15 = .ok (.iload_n 2, 1) := by decide +kernel
theorem dX5_returnCapacity_16 : decode cX5_returnCapacity 16 = .ok (.invokestatic 77, 3) := by decide +kernel
theorem dX5_returnCapacity_19 : decode cX5_returnCapacity 19 = .ok (.istore_n 3, 1) := by decide +kernel
theorem dX5_returnCapacity_20 : decode cX5_returnCapacity 20 = .ok (.aload_n 0, 1) := by decide +kernel
theorem dX5_returnCapacity_21 : decode cX5_returnCapacity 21 = .ok (.dup, 1) := by decide +kernel
theorem dX5_returnCapacity_22 : decode cX5_returnCapacity 22 = .ok (.getfield 23, 3) := by decide +kernel
theorem dX5_returnCapacity_25 : decode cX5_returnCapacity 25 = .ok (.iload_n 3, 1) := by decide +kernel
theorem dX5_returnCapacity_26 : decode cX5_returnCapacity 26 = .ok (.isub, 1) := by decide +kernel
theorem dX5_returnCapacity_27 : decode cX5_returnCapacity 27 = .ok (.putfield 23, 3) := by decide +kernel
theorem dX5_returnCapacity_30 : decode cX5_returnCapacity 30 = .ok (.aload_n 0, 1) := by decide +kernel
theorem dX5_returnCapacity_31 : decode cX5_returnCapacity 31 = .ok (.dup, 1) := by decide +kernel
theorem dX5_returnCapacity_32 : decode cX5_returnCapacity 32 = .ok (.getfield 44, 3) := by decide +kernel
theorem dX5_returnCapacity_35 : decode cX5_returnCapacity 35 = .ok (.iload_n 3, 1) := by decide +kernel
theorem dX5_returnCapacity_36 : decode cX5_returnCapacity 36 = .ok (.iadd, 1) := by decide +kernel
theorem dX5_returnCapacity_37 : decode cX5_returnCapacity 37 = .ok (.putfield 44, 3) := by decide +kernel
theorem dX5_returnCapacity_40 : decode cX5_returnCapacity 40 = .ok (.return_, 1) := by decide +kernel
theorem dX6_init_0 : decode cX6_init 0 = .ok (.aload_n 0, 1) := by decide +kernel
theorem dX6_init_1 : decode cX6_init 1 = .ok (.invokespecial 3, 3) := by decide +kernel
theorem dX6_init_4 : decode cX6_init 4 = .ok (.aload_n 0, 1) := by decide +kernel
theorem dX6_init_5 : decode cX6_init 5 = .ok (.sipush 700, 3) := by decide +kernel
theorem dX6_init_8 : decode cX6_init 8 = .ok (.newarray .byte, 2) := by decide +kernel
theorem dX6_init_10 : decode cX6_init 10 = .ok (.putfield 11, 3) := by decide +kernel
theorem dX6_init_13 : decode cX6_init 13 = .ok (.return_, 1) := by decide +kernel
theorem dX6_hasRoom_0 : decode cX6_hasRoom 0 = .ok (.aload_n 0, 1) := by decide +kernel
theorem dX6_hasRoom_1 : decode cX6_hasRoom 1 = .ok (.getfield 15, 3) := by decide +kernel
theorem dX6_hasRoom_4 : decode cX6_hasRoom 4 = .ok (.bipush 20, 2) := by decide +kernel
theorem dX6_hasRoom_6 : decode cX6_hasRoom 6 = .ok (.iadd, 1) := by decide +kernel
theorem dX6_hasRoom_7 : decode cX6_hasRoom 7 = .ok (.sipush 700, 3) := by decide +kernel
theorem dX6_hasRoom_10 : decode cX6_hasRoom 10 = .ok (.if_icmp .gt 7, 3) := by decide +kernel
theorem dX6_hasRoom_13 : decode cX6_hasRoom 13 = .ok (.iconst 1, 1) := by decide +kernel
theorem dX6_hasRoom_14 : decode cX6_hasRoom 14 = .ok (.goto 4, 3) := by decide +kernel
theorem dX6_hasRoom_17 : decode cX6_hasRoom 17 = .ok (.iconst 0, 1) := by decide +kernel
theorem dX6_hasRoom_18 : decode cX6_hasRoom 18 = .ok (.ireturn, 1) := by decide +kernel
theorem dX6_addFour_0 : decode cX6_addFour 0 = .ok (.bipush 24, 2) := by decide +kernel
theorem dX6_addFour_2 : decode cX6_addFour 2 = .ok (.istore_n 2, 1) := by decide +kernel
theorem dX6_addFour_3 : decode cX6_addFour 3 = .ok (.iload_n 2, 1) := by decide +kernel
theorem dX6_addFour_4 : decode cX6_addFour 4 = .ok (.ifCond .lt 49, 3) := by decide +kernel
theorem dX6_addFour_7 : decode cX6_addFour 7 = .ok (.aload_n 0, 1) := by decide +kernel
theorem dX6_addFour_8 : decode cX6_addFour 8 = .ok (.getfield 15, 3) := by decide +kernel
theorem dX6_addFour_11 : decode cX6_addFour 11 = .ok (.ifCond .lt 36, 3) := by decide +kernel
theorem dX6_addFour_14 : decode cX6_addFour 14 = .ok (.aload_n 0, 1) := by decide +kernel
theorem dX6_addFour_15 : decode cX6_addFour 15 = .ok (.getfield 15, 3) := by decide +kernel
theorem dX6_addFour_18 : decode cX6_addFour 18 = .ok (.sipush 700, 3) := by decide +kernel
theorem dX6_addFour_21 : decode cX6_addFour 21 = .ok (.if_icmp .ge 26, 3) := by decide +kernel
theorem dX6_addFour_24 : decode cX6_addFour 24 = .ok (.aload_n 0, 1) := by decide +kernel
theorem dX6_addFour_25 : decode cX6_addFour 25 = .ok (.getfield 11, 3) := by decide +kernel
theorem dX6_addFour_28 : decode cX6_addFour 28 = .ok (.aload_n 0, 1) := by decide +kernel
theorem dX6_addFour_29 : decode cX6_addFour 29 = .ok (.getfield 15, 3) := by decide +kernel
theorem dX6_addFour_32 : decode cX6_addFour 32 = .ok (.iload_n 1, 1) := by decide +kernel
theorem dX6_addFour_33 : decode cX6_addFour 33 = .ok (.iload_n 2, 1) := by decide +kernel
theorem dX6_addFour_34 : decode cX6_addFour 34 = .ok (.iushr, 1) := by decide +kernel
theorem dX6_addFour_35 : decode cX6_addFour 35 = .ok (.i2b, 1) := by decide +kernel
theorem dX6_addFour_36 : decode cX6_addFour 36 = .ok (.bastore, 1) := by decide +kernel
theorem dX6_addFour_37 : decode cX6_addFour 37 = .ok (.aload_n 0, 1) := by decide +kernel
theorem dX6_addFour_38 : decode cX6_addFour 38 = .ok (.dup, 1) := by decide +kernel
theorem dX6_addFour_39 : decode cX6_addFour 39 = .ok (.getfield 15, 3) := by decide +kernel
theorem dX6_addFour_42 : decode cX6_addFour 42 = .ok (.iconst 1, 1) := by decide +kernel
theorem dX6_addFour_43 : decode cX6_addFour 43 = .ok (.iadd, 1) := by decide +kernel
theorem dX6_addFour_44 : decode cX6_addFour 44 = .ok (.putfield 15, 3) := by decide +kernel
theorem dX6_addFour_47 : decode cX6_addFour 47 = .ok (.iinc 2 (-8), 3) := by decide +kernel
theorem dX6_addFour_50 : decode cX6_addFour 50 = .ok (.goto (-47), 3) := by decide +kernel
theorem dX6_addFour_53 : decode cX6_addFour 53 = .ok (.return_, 1) := by decide +kernel
theorem dX6_readText_0 : decode cX6_readText 0 = .ok (.aload_n 0, 1) := by decide +kernel
theorem dX6_readText_1 : decode cX6_readText 1 = .ok (.iload_n 1, 1) := by decide +kernel
theorem dX6_readText_2 : decode cX6_readText 2 = .ok (.putfield 19, 3) := by decide +kernel
theorem dX6_readText_5 : decode cX6_readText 5 = .ok (.aload_n 0, 1) := by decide +kernel
theorem dX6_readText_6 : decode cX6_readText 6 = .ok (.iconst 0, 1) := by decide +kernel
theorem dX6_readText_7 : decode cX6_readText 7 = .ok (.putfield 22, 3) := by decide +kernel
theorem dX6_readText_10 : decode cX6_readText 10 = .ok (.aload_n 0, 1) := by decide +kernel
theorem dX6_readText_11 : decode cX6_readText 11 = .ok (.iconst 0, 1) := by decide +kernel
theorem dX6_readText_12 : decode cX6_readText 12 = .ok (.putfield 25, 3) := by decide +kernel
theorem dX6_readText_15 : decode cX6_readText 15 = .ok (.aload_n 0, 1) := by decide +kernel
theorem dX6_readText_16 : decode cX6_readText 16 = .ok (.iconst 0, 1) := by decide +kernel
theorem dX6_readText_17 : decode cX6_readText 17 = .ok (.putfield 28, 3) := by decide +kernel
theorem dX6_readText_20 : decode cX6_readText 20 = .ok (.aload_n 0, 1) := by decide +kernel
theorem dX6_readText_21 : decode cX6_readText 21 = .ok (.iconst 0, 1) := by decide +kernel
theorem dX6_readText_22 : decode cX6_readText 22 = .ok (.putfield 32, 3) := by decide +kernel
theorem dX6_readText_25 : decode cX6_readText 25 = .ok (.aload_n 0, 1) := by decide +kernel
theorem dX6_readText_26 : decode cX6_readText 26 = .ok (.invokevirtual 35, 3) := by decide +kernel
theorem dX6_readText_29 : decode cX6_readText 29 = .ok (.aload_n 0, 1) := by decide +kernel
theorem dX6_readText_30 : decode cX6_readText 30 = .ok (.ldc 38, 2) := by decide +kernel
theorem dX6_readText_32 : decode cX6_readText 32 = .ok (.invokevirtual 40, 3) := by decide +kernel
theorem dX6_readText_35 : decode cX6_readText 35 = .ok (.aload_n 2, 1) := by decide +kernel
theorem dX6_readText_36 : decode cX6_readText 36 = .ok (.aload_n 0, 1) := by decide +kernel
theorem dX6_readText_37 : decode cX6_readText 37 = .ok (.iconst 1, 1) := by decide +kernel
theorem dX6_readText_38 : decode cX6_readText 38 = .ok (.bipush 7, 2) := by decide +kernel
theorem dX6_readText_40 : decode cX6_readText 40 = .ok (.invokevirtual 44, 3) := by decide +kernel
theorem dX6_readText_43 : decode cX6_readText 43 = .ok (.putfield 48, 3) := by decide +kernel
theorem dX6_readText_46 : decode cX6_readText 46 = .ok (.aload_n 2, 1) := by decide +kernel
theorem dX6_readText_47 : decode cX6_readText 47 = .ok (.aload_n 0, 1) := by decide +kernel
theorem dX6_readText_48 : decode cX6_readText 48 = .ok (.iconst 1, 1) := by decide +kernel
theorem dX6_readText_49 : decode cX6_readText 49 = .ok (.bipush 99, 2) := by decide +kernel
theorem dX6_readText_51 : decode cX6_readText 51 = .ok (.invokevirtual 44, 3) := by decide +kernel
theorem dX6_readText_54 : decode cX6_readText 54 = .ok (.putfield 53, 3) := by decide +kernel
theorem dX6_readText_57 : decode cX6_readText 57 = .ok (.aload_n 0, 1) := by decide +kernel
theorem dX6_readText_58 : decode cX6_readText 58 = .ok (.invokevirtual 56, 3) := by decide +kernel
theorem dX6_readText_61 : decode cX6_readText 61 = .ok (.iconst 0, 1) := by decide +kernel
theorem dX6_readText_62 : decode cX6_readText 62 = .ok (.istore_n 3, 1) := by decide +kernel
theorem dX6_readText_63 : decode cX6_readText 63 = .ok (.iload_n 3, 1) := by decide +kernel
theorem dX6_readText_64 : decode cX6_readText 64 = .ok (.sipush 700, 3) := by decide +kernel
theorem dX6_readText_67 : decode cX6_readText 67 = .ok (.if_icmp .ge 32, 3) := by decide +kernel
theorem dX6_readText_70 : decode cX6_readText 70 = .ok (.aload_n 0, 1) := by decide +kernel
theorem dX6_readText_71 : decode cX6_readText 71 = .ok (.getfield 25, 3) := by decide +kernel
theorem dX6_readText_74 : decode cX6_readText 74 = .ok (.ifCond .ne 25, 3) := by decide +kernel
theorem dX6_readText_77 : decode cX6_readText 77 = .ok (.aload_n 0, 1) := by decide +kernel
theorem dX6_readText_78 : decode cX6_readText 78 = .ok (.getfield 59, 3) := by decide +kernel
theorem dX6_readText_81 : decode cX6_readText 81 = .ok (.ifCond .eq 18, 3) := by decide +kernel
theorem dX6_readText_84 : decode cX6_readText 84 = .ok (.aload_n 0, 1) := by decide +kernel
theorem dX6_readText_85 : decode cX6_readText 85 = .ok (.aload_n 2, 1) := by decide +kernel
theorem dX6_readText_86 : decode cX6_readText 86 = .ok (.invokevirtual 62, 3) := by decide +kernel
theorem dX6_readText_89 : decode cX6_readText 89 = .ok (.aload_n 0, 1) := by decide +kernel
theorem dX6_readText_90 : decode cX6_readText 90 = .ok (.invokevirtual 56, 3) := by decide +kernel
theorem dX6_readText_93 : decode cX6_readText 93 = .ok (.iinc 3 1, 3) := by decide +kernel
theorem dX6_readText_96 : decode cX6_readText 96 = .ok (.goto (-33), 3) := by decide +kernel
theorem dX6_readText_99 : decode cX6_readText 99 = .ok (.aload_n 2, 1) := by decide +kernel
theorem dX6_readText_100 : decode cX6_readText 100 = .ok (.getfield 66, 3) := by decide +kernel
theorem dX6_readText_103 : decode cX6_readText 103 = .ok (.aload_n 2, 1) := by decide +kernel
theorem dX6_readText_104 : decode cX6_readText 104 = .ok (.getfield 70, 3) := by decide +kernel
theorem dX6_readText_107 : decode cX6_readText 107 = .ok (.getfield 73, 3) := by decide +kernel
theorem dX6_readText_110 : decode cX6_readText 110 = .ok (.putfield 78, 3) := by decide +kernel
theorem dX6_readText_113 : decode cX6_readText 113 = .ok (.aload_n 2, 1) := by decide +kernel
theorem dX6_readText_114 : decode cX6_readText 114 = .ok (.getfield 70, 3) := by decide +kernel
theorem dX6_readText_117 : decode cX6_readText 117 = .ok (.aload_n 2, 1) := by decide +kernel
theorem dX6_readText_118 : decode cX6_readText 118 = .ok (.getfield 66, 3) := by decide +kernel
theorem dX6_readText_121 : decode cX6_readText 121 = .ok (.getfield 73, 3) := by decide +kernel
theorem dX6_readText_124 : decode cX6_readText 124 = .ok (.putfield 78, 3) := by decide +kernel
theorem dX6_readText_127 : decode cX6_readText 127 = .ok (.aload_n 0, 1) := by decide +kernel
theorem dX6_readText_128 : decode cX6_readText 128 = .ok (.getfield 25, 3) := by decide +kernel
theorem dX6_readText_131 : decode cX6_readText 131 = .ok (.ireturn, 1) := by decide +kernel
theorem dX6_readStatement_0 : decode cX6_readStatement 0 = .ok (.aload_n 0, 1) := by decide +kernel
theorem dX6_readStatement_1 : decode cX6_readStatement 1 = .ok (.ldc 81, 2) := by decide +kernel
theorem dX6_readStatement_3 : decode cX6_readStatement 3 = .ok (.invokevirtual 83, 3) := by decide +kernel
theorem dX6_readStatement_6 : decode cX6_readStatement 6 = .ok (.ifCond .eq 15, 3) := by decide +kernel
theorem dX6_readStatement_9 : decode cX6_readStatement 9 = .ok (.aload_n 0, 1) := by decide +kernel
theorem dX6_readStatement_10 : decode cX6_readStatement 10 = .ok (.invokevirtual 35, 3) := by decide +kernel
theorem dX6_readStatement_13 : decode cX6_readStatement 13 = .ok (.aload_n 0, 1) := by decide +kernel
theorem dX6_readStatement_14 : decode cX6_readStatement 14 = .ok (.aload_n 1, 1) := by decide +kernel
theorem dX6_readStatement_15 : decode cX6_readStatement 15 = .ok (.invokevirtual 87, 3) := by decide +kernel
theorem dX6_readStatement_18 : decode cX6_readStatement 18 = .ok (.goto 72, 3) := by decide +kernel
theorem dX6_readStatement_21 : decode cX6_readStatement 21 = .ok (.aload_n 0, 1) := by decide +kernel
theorem dX6_readStatement_22 : decode cX6_readStatement 22 = .ok (.ldc 90, 2) := by decide +kernel
theorem dX6_readStatement_24 : decode cX6_readStatement 24 = .ok (.invokevirtual 83, 3) := by decide +kernel
theorem dX6_readStatement_27 : decode cX6_readStatement 27 = .ok (.ifCond .eq 15, 3) := by decide +kernel
theorem dX6_readStatement_30 : decode cX6_readStatement 30 = .ok (.aload_n 0, 1) := by decide +kernel
theorem dX6_readStatement_31 : decode cX6_readStatement 31 = .ok (.invokevirtual 35, 3) := by decide +kernel
theorem dX6_readStatement_34 : decode cX6_readStatement 34 = .ok (.aload_n 0, 1) := by decide +kernel
theorem dX6_readStatement_35 : decode cX6_readStatement 35 = .ok (.aload_n 1, 1) := by decide +kernel
theorem dX6_readStatement_36 : decode cX6_readStatement 36 = .ok (.invokevirtual 92, 3) := by decide +kernel
theorem dX6_readStatement_39 : decode cX6_readStatement 39 = .ok (.goto 51, 3) := by decide +kernel
theorem dX6_readStatement_42 : decode cX6_readStatement 42 = .ok (.aload_n 0, 1) := by decide +kernel
theorem dX6_readStatement_43 : decode cX6_readStatement 43 = .ok (.ldc 95, 2) := by decide +kernel
theorem dX6_readStatement_45 : decode cX6_readStatement 45 = .ok (.invokevirtual 83, 3) := by decide +kernel
theorem dX6_readStatement_48 : decode cX6_readStatement 48 = .ok (.ifCond .eq 33, 3) := by decide +kernel
theorem dX6_readStatement_51 : decode cX6_readStatement 51 = .ok (.aload_n 1, 1) := by decide +kernel
theorem dX6_readStatement_52 : decode cX6_readStatement 52 = .ok (.getfield 97, 3) := by decide +kernel
theorem dX6_readStatement_55 : decode cX6_readStatement 55 = .ok (.bipush 20, 2) := by decide +kernel
theorem dX6_readStatement_57 : decode cX6_readStatement 57 = .ok (.if_icmp .lt 12, 3) := by decide +kernel
theorem dX6_readStatement_60 : decode cX6_readStatement 60 = .ok (.aload_n 0, 1) := by decide +kernel
theorem dX6_readStatement_61 : decode cX6_readStatement 61 = .ok (.aload_n 0, 1) := by decide +kernel
theorem dX6_readStatement_62 : decode cX6_readStatement 62 = .ok (.getfield 100, 3) := by decide +kernel
theorem dX6_readStatement_65 : decode cX6_readStatement 65 = .ok (.iconst 4, 1) := by decide +kernel
theorem dX6_readStatement_66 : decode cX6_readStatement 66 = .ok (.invokevirtual 103, 3) := by decide +kernel
theorem dX6_readStatement_69 : decode cX6_readStatement 69 = .ok (.aload_n 0, 1) := by decide +kernel
theorem dX6_readStatement_70 : decode cX6_readStatement 70 = .ok (.invokevirtual 35, 3) := by decide +kernel
theorem dX6_readStatement_73 : decode cX6_readStatement 73 = .ok (.aload_n 0, 1) := by decide +kernel
theorem dX6_readStatement_74 : decode cX6_readStatement 74 = .ok (.aload_n 1, 1) := by decide +kernel
theorem dX6_readStatement_75 : decode cX6_readStatement 75 = .ok (.invokevirtual 107, 3) := by decide +kernel
theorem dX6_readStatement_78 : decode cX6_readStatement 78 = .ok (.goto 12, 3) := by decide +kernel
theorem dX6_readStatement_81 : decode cX6_readStatement 81 = .ok (.aload_n 0, 1) := by decide +kernel
theorem dX6_readStatement_82 : decode cX6_readStatement 82 = .ok (.aload_n 0, 1) := by decide +kernel
theorem dX6_readStatement_83 : decode cX6_readStatement 83 = .ok (.getfield 100, 3) := by decide +kernel
theorem dX6_readStatement_86 : decode cX6_readStatement 86 = .ok (.iconst 1, 1) := by decide +kernel
theorem dX6_readStatement_87 : decode cX6_readStatement 87 = .ok (.invokevirtual 103, 3) := by decide +kernel
theorem dX6_readStatement_90 : decode cX6_readStatement 90 = .ok (.return_, 1) := by decide +kernel
theorem dX6_readWindow_0 : decode cX6_readWindow 0 = .ok (.aload_n 0, 1) := by decide +kernel
theorem dX6_readWindow_1 : decode cX6_readWindow 1 = .ok (.iconst 0, 1) := by decide +kernel
theorem dX6_readWindow_2 : decode cX6_readWindow 2 = .ok (.iconst 1, 1) := by decide +kernel
theorem dX6_readWindow_3 : decode cX6_readWindow 3 = .ok (.invokevirtual 44, 3) := by decide +kernel
theorem dX6_readWindow_6 : decode cX6_readWindow 6 = .ok (.istore_n 2, 1) := by decide +kernel
theorem dX6_readWindow_7 : decode cX6_readWindow 7 = .ok (.iload_n 2, 1) := by decide +kernel
theorem dX6_readWindow_8 : decode cX6_readWindow 8 = .ok (.ifCond .ne 13, 3) := by decide +kernel
theorem dX6_readWindow_11 : decode cX6_readWindow 11 = .ok (.aload_n 0, 1) := by decide +kernel
theorem dX6_readWindow_12 : decode cX6_readWindow 12 = .ok (.getfield 28, 3) := by decide +kernel
theorem dX6_readWindow_15 : decode cX6_readWindow 15 = .ok (.ifCond .eq 22, 3) := by decide +kernel
theorem dX6_readWindow_18 : decode cX6_readWindow 18 = .ok (.goto 10, 3) := by decide +kernel
theorem dX6_readWindow_21 : decode cX6_readWindow 21 = .ok (.aload_n 0, 1) := by decide +kernel
theorem dX6_readWindow_22 : decode cX6_readWindow 22 = .ok (.getfield 32, 3) := by decide +kernel
theorem dX6_readWindow_25 : decode cX6_readWindow 25 = .ok (.ifCond .eq 12, 3) := by decide +kernel
theorem dX6_readWindow_28 : decode cX6_readWindow 28 = .ok (.aload_n 0, 1) := by decide +kernel
theorem dX6_readWindow_29 : decode cX6_readWindow 29 = .ok (.aload_n 0, 1) := by decide +kernel
theorem dX6_readWindow_30 : decode cX6_readWindow 30 = .ok (.getfield 110, 3) := by decide +kernel
theorem dX6_readWindow_33 : decode cX6_readWindow 33 = .ok (.iconst 2, 1) := by decide +kernel
theorem dX6_readWindow_34 : decode cX6_readWindow 34 = .ok (.invokevirtual 103, 3) := by decide +kernel
theorem dX6_readWindow_37 : decode cX6_readWindow 37 = .ok (.iload_n 2, 1) := by decide +kernel
theorem dX6_readWindow_38 : decode cX6_readWindow 38 = .ok (.ifCond .ne 11, 3) := by decide +kernel
theorem dX6_readWindow_41 : decode cX6_readWindow 41 = .ok (.aload_n 0, 1) := by decide +kernel
theorem dX6_readWindow_42 : decode cX6_readWindow 42 = .ok (.iconst 1, 1) := by decide +kernel
theorem dX6_readWindow_43 : decode cX6_readWindow 43 = .ok (.putfield 28, 3) := by decide +kernel
theorem dX6_readWindow_46 : decode cX6_readWindow 46 = .ok (.goto 8, 3) := by decide +kernel
theorem dX6_readWindow_49 : decode cX6_readWindow 49 = .ok (.aload_n 0, 1) := by decide +kernel
theorem dX6_readWindow_50 : decode cX6_readWindow 50 = .ok (.iconst 1, 1) := by decide +kernel
theorem dX6_readWindow_51 : decode cX6_readWindow 51 = .ok (.putfield 32, 3) := by decide +kernel
theorem dX6_readWindow_54 : decode cX6_readWindow 54 = .ok (.aload_n 1, 1) := by decide +kernel
theorem dX6_readWindow_55 : decode cX6_readWindow 55 = .ok (.iload_n 2, 1) := by decide +kernel
theorem dX6_readWindow_56 : decode cX6_readWindow 56 = .ok (.invokevirtual 113, 3) := by decide +kernel
theorem dX6_readWindow_59 : decode cX6_readWindow 59 = .ok (.aload_n 0, 1) := by decide +kernel
theorem dX6_readWindow_60 : decode cX6_readWindow 60 = .ok (.iconst 1, 1) := by decide +kernel
theorem dX6_readWindow_61 : decode cX6_readWindow 61 = .ok (.bipush 9, 2) := by decide +kernel
theorem dX6_readWindow_63 : decode cX6_readWindow 63 = .ok (.invokevirtual 44, 3) := by decide +kernel
theorem dX6_readWindow_66 : decode cX6_readWindow 66 = .ok (.putfield 73, 3) := by decide +kernel
theorem dX6_readWindow_69 : decode cX6_readWindow 69 = .ok (.return_, 1) := by decide +kernel
theorem dX6_readMessage_0 : decode cX6_readMessage 0 = .ok (.aload_n 1, 1) := by decide +kernel
theorem dX6_readMessage_1 : decode cX6_readMessage 1 = .ok (.aload_n 0, 1) := by decide +kernel
theorem dX6_readMessage_2 : decode cX6_readMessage 2 = .ok (.iconst 0, 1) := by decide +kernel
theorem dX6_readMessage_3 : decode cX6_readMessage 3 = .ok (.iconst 1, 1) := by decide +kernel
theorem dX6_readMessage_4 : decode cX6_readMessage 4 = .ok (.invokevirtual 44, 3) := by decide +kernel
theorem dX6_readMessage_7 : decode cX6_readMessage 7 = .ok (.invokevirtual 113, 3) := by decide +kernel
theorem dX6_readMessage_10 : decode cX6_readMessage 10 = .ok (.astore_n 2, 1) := by decide +kernel
theorem dX6_readMessage_11 : decode cX6_readMessage 11 = .ok (.aload_n 2, 1) := by decide +kernel
theorem dX6_readMessage_12 : decode cX6_readMessage 12 = .ok (.getfield 117, 3) := by decide +kernel
theorem dX6_readMessage_15 : decode cX6_readMessage 15 = .ok (.bipush 20, 2) := by decide +kernel
theorem dX6_readMessage_17 : decode cX6_readMessage 17 = .ok (.if_icmp .lt 12, 3) := by decide +kernel
theorem dX6_readMessage_20 : decode cX6_readMessage 20 = .ok (.aload_n 0, 1) := by decide +kernel
theorem dX6_readMessage_21 : decode cX6_readMessage 21 = .ok (.aload_n 0, 1) := by decide +kernel
theorem dX6_readMessage_22 : decode cX6_readMessage 22 = .ok (.getfield 110, 3) := by decide +kernel
theorem dX6_readMessage_25 : decode cX6_readMessage 25 = .ok (.iconst 4, 1) := by decide +kernel
theorem dX6_readMessage_26 : decode cX6_readMessage 26 = .ok (.invokevirtual 103, 3) := by decide +kernel
theorem dX6_readMessage_29 : decode cX6_readMessage 29 = .ok (.aload_n 0, 1) := by decide +kernel
theorem dX6_readMessage_30 : decode cX6_readMessage 30 = .ok (.iconst 0, 1) := by decide +kernel
theorem dX6_readMessage_31 : decode cX6_readMessage 31 = .ok (.sipush 255, 3) := by decide +kernel
theorem dX6_readMessage_34 : decode cX6_readMessage 34 = .ok (.invokevirtual 44, 3) := by decide +kernel
theorem dX6_readMessage_37 : decode cX6_readMessage 37 = .ok (.i2l, 1) := by decide +kernel
theorem dX6_readMessage_38 : decode cX6_readMessage 38 = .ok (.lstore_n 3, 1) := by decide +kernel
theorem dX6_readMessage_39 : decode cX6_readMessage 39 = .ok (.iconst 1, 1) := by decide +kernel
theorem dX6_readMessage_40 : decode cX6_readMessage 40 = .ok (.istore 5, 2) := by decide +kernel
theorem dX6_readMessage_42 : decode cX6_readMessage 42 = .ok (.iload 5, 2) := by decide +kernel
theorem dX6_readMessage_44 : decode cX6_readMessage 44 = .ok (.bipush 8, 2) := by decide +kernel
theorem dX6_readMessage_46 : decode cX6_readMessage 46 = .ok (.if_icmp .ge 42, 3) := by decide +kernel
theorem dX6_readMessage_49 : decode cX6_readMessage 49 = .ok (.aload_n 0, 1) := by decide +kernel
theorem dX6_readMessage_50 : decode cX6_readMessage 50 = .ok (.getfield 25, 3) := by decide +kernel
theorem dX6_readMessage_53 : decode cX6_readMessage 53 = .ok (.ifCond .ne 35, 3) := by decide +kernel
theorem dX6_readMessage_56 : decode cX6_readMessage 56 = .ok (.aload_n 0, 1) := by decide +kernel
theorem dX6_readMessage_57 : decode cX6_readMessage 57 = .ok (.getfield 59, 3) := by decide +kernel
theorem dX6_readMessage_60 : decode cX6_readMessage 60 = .ok (.iconst 2, 1) := by decide +kernel
theorem dX6_readMessage_61 : decode cX6_readMessage 61 = .ok (.if_icmp .ne 27, 3) := by decide +kernel
theorem dX6_readMessage_64 : decode cX6_readMessage 64 = .ok (.lload_n 3, 1) := by decide +kernel
theorem dX6_readMessage_65 : decode cX6_readMessage 65 = .ok (.aload_n 0, 1) := by decide +kernel
theorem dX6_readMessage_66 : decode cX6_readMessage 66 = .ok (.iconst 0, 1) := by decide +kernel
theorem dX6_readMessage_67 : decode cX6_readMessage 67 = .ok (.sipush 255, 3) := by decide +kernel
theorem dX6_readMessage_70 : decode cX6_readMessage 70 = .ok (.invokevirtual 44, 3) := by decide +kernel
theorem dX6_readMessage_73 : decode cX6_readMessage 73 = .ok (.i2l, 1) := by decide +kernel
theorem dX6_readMessage_74 : decode cX6_readMessage 74 = .ok (.bipush 8, 2) := by decide +kernel
theorem dX6_readMessage_76 : decode cX6_readMessage 76 = .ok (.iload 5, 2) := by decide +kernel
theorem dX6_readMessage_78 : decode cX6_readMessage 78 = .ok (.imul, 1) := by decide +kernel
theorem dX6_readMessage_79 : decode cX6_readMessage 79 = .ok (.lshl, 1) := by decide +kernel
theorem dX6_readMessage_80 : decode cX6_readMessage 80 = .ok (.lor, 1) := by decide +kernel
theorem dX6_readMessage_81 : decode cX6_readMessage 81 = .ok (.lstore_n 3, 1) := by decide +kernel
theorem dX6_readMessage_82 : decode cX6_readMessage 82 = .ok (.iinc 5 1, 3) := by decide +kernel
theorem dX6_readMessage_85 : decode cX6_readMessage 85 = .ok (.goto (-43), 3) := by decide +kernel
theorem dX6_readMessage_88 : decode cX6_readMessage 88 = .ok (.aload_n 0, 1) := by decide +kernel
theorem dX6_readMessage_89 : decode cX6_readMessage 89 = .ok (.getfield 25, 3) := by decide +kernel
theorem dX6_readMessage_92 : decode cX6_readMessage 92 = .ok (.ifCond .ne 29, 3) := by decide +kernel
theorem dX6_readMessage_95 : decode cX6_readMessage 95 = .ok (.aload_n 0, 1) := by decide +kernel
theorem dX6_readMessage_96 : decode cX6_readMessage 96 = .ok (.getfield 59, 3) := by decide +kernel
theorem dX6_readMessage_99 : decode cX6_readMessage 99 = .ok (.iconst 2, 1) := by decide +kernel
theorem dX6_readMessage_100 : decode cX6_readMessage 100 = .ok (.if_icmp .ne 21, 3) := by decide +kernel
theorem dX6_readMessage_103 : decode cX6_readMessage 103 = .ok (.aload_n 0, 1) := by decide +kernel
theorem dX6_readMessage_104 : decode cX6_readMessage 104 = .ok (.iconst 0, 1) := by decide +kernel
theorem dX6_readMessage_105 : decode cX6_readMessage 105 = .ok (.sipush 255, 3) := by decide +kernel
theorem dX6_readMessage_108 : decode cX6_readMessage 108 = .ok (.invokevirtual 44, 3) := by decide +kernel
theorem dX6_readMessage_111 : decode cX6_readMessage 111 = .ok (.pop, 1) := by decide +kernel
theorem dX6_readMessage_112 : decode cX6_readMessage 112 = .ok (.aload_n 0, 1) := by decide +kernel
theorem dX6_readMessage_113 : decode cX6_readMessage 113 = .ok (.aload_n 0, 1) := by decide +kernel
theorem dX6_readMessage_114 : decode cX6_readMessage 114 = .ok (.getfield 110, 3) := by decide +kernel
theorem dX6_readMessage_117 : decode cX6_readMessage 117 = .ok (.iconst 4, 1) := by decide +kernel
theorem dX6_readMessage_118 : decode cX6_readMessage 118 = .ok (.invokevirtual 103, 3) := by decide +kernel
theorem dX6_readMessage_121 : decode cX6_readMessage 121 = .ok (.aload_n 0, 1) := by decide +kernel
theorem dX6_readMessage_122 : decode cX6_readMessage 122 = .ok (.getfield 25, 3) := by decide +kernel
theorem dX6_readMessage_125 : decode cX6_readMessage 125 = .ok (.ifCond .ne 10, 3) := by decide +kernel
theorem dX6_readMessage_128 : decode cX6_readMessage 128 = .ok (.aload_n 2, 1) := by decide +kernel
theorem dX6_readMessage_129 : decode cX6_readMessage 129 = .ok (.iload 5, 2) := by decide +kernel
theorem dX6_readMessage_131 : decode cX6_readMessage 131 = .ok (.lload_n 3, 1) := by decide +kernel
theorem dX6_readMessage_132 : decode cX6_readMessage 132 = .ok (.invokevirtual 120, 3) := by decide +kernel
theorem dX6_readMessage_135 : decode cX6_readMessage 135 = .ok (.return_, 1) := by decide +kernel
theorem dX6_readLose_0 : decode cX6_readLose 0 = .ok (.aload_n 0, 1) := by decide +kernel
theorem dX6_readLose_1 : decode cX6_readLose 1 = .ok (.iconst 0, 1) := by decide +kernel
theorem dX6_readLose_2 : decode cX6_readLose 2 = .ok (.sipush 499, 3) := by decide +kernel
theorem dX6_readLose_5 : decode cX6_readLose 5 = .ok (.invokevirtual 44, 3) := by decide +kernel
theorem dX6_readLose_8 : decode cX6_readLose 8 = .ok (.istore_n 2, 1) := by decide +kernel
theorem dX6_readLose_9 : decode cX6_readLose 9 = .ok (.aload_n 1, 1) := by decide +kernel
theorem dX6_readLose_10 : decode cX6_readLose 10 = .ok (.iload_n 2, 1) := by decide +kernel
theorem dX6_readLose_11 : decode cX6_readLose 11 = .ok (.invokevirtual 124, 3) := by decide +kernel
theorem dX6_readLose_14 : decode cX6_readLose 14 = .ok (.ifCond .eq 12, 3) := by decide +kernel
theorem dX6_readLose_17 : decode cX6_readLose 17 = .ok (.aload_n 0, 1) := by decide +kernel
theorem dX6_readLose_18 : decode cX6_readLose 18 = .ok (.aload_n 0, 1) := by decide +kernel
theorem dX6_readLose_19 : decode cX6_readLose 19 = .ok (.getfield 110, 3) := by decide +kernel
theorem dX6_readLose_22 : decode cX6_readLose 22 = .ok (.iconst 2, 1) := by decide +kernel
theorem dX6_readLose_23 : decode cX6_readLose 23 = .ok (.invokevirtual 103, 3) := by decide +kernel
theorem dX6_readLose_26 : decode cX6_readLose 26 = .ok (.aload_n 1, 1) := by decide +kernel
theorem dX6_readLose_27 : decode cX6_readLose 27 = .ok (.iload_n 2, 1) := by decide +kernel
theorem dX6_readLose_28 : decode cX6_readLose 28 = .ok (.invokevirtual 128, 3) := by decide +kernel
theorem dX6_readLose_31 : decode cX6_readLose 31 = .ok (.return_, 1) := by decide +kernel
theorem dX6_failAt_0 : decode cX6_failAt 0 = .ok (.aload_n 0, 1) := by decide +kernel
theorem dX6_failAt_1 : decode cX6_failAt 1 = .ok (.getfield 25, 3) := by decide +kernel
theorem dX6_failAt_4 : decode cX6_failAt 4 = .ok (.ifCond .ne 13, 3) := by decide +kernel
theorem dX6_failAt_7 : decode cX6_failAt 7 = .ok (.aload_n 0, 1) := by decide +kernel
theorem dX6_failAt_8 : decode cX6_failAt 8 = .ok (.bipush 8, 2) := by decide +kernel
theorem dX6_failAt_10 : decode cX6_failAt 10 = .ok (.iload_n 1, 1) := by decide +kernel
theorem dX6_failAt_11 : decode cX6_failAt 11 = .ok (.imul, 1) := by decide +kernel
theorem dX6_failAt_12 : decode cX6_failAt 12 = .ok (.iload_n 2, 1) := by decide +kernel
theorem dX6_failAt_13 : decode cX6_failAt 13 = .ok (.iadd, 1) := by decide +kernel
theorem dX6_failAt_14 : decode cX6_failAt 14 = .ok (.putfield 25, 3) := by decide +kernel
theorem dX6_failAt_17 : decode cX6_failAt 17 = .ok (.return_, 1) := by decide +kernel
theorem dX6_takeWord_0 : decode cX6_takeWord 0 = .ok (.aload_n 0, 1) := by decide +kernel
theorem dX6_takeWord_1 : decode cX6_takeWord 1 = .ok (.aload_n 1, 1) := by decide +kernel
theorem dX6_takeWord_2 : decode cX6_takeWord 2 = .ok (.invokevirtual 83, 3) := by decide +kernel
theorem dX6_takeWord_5 : decode cX6_takeWord 5 = .ok (.ifCond .eq 10, 3) := by decide +kernel
theorem dX6_takeWord_8 : decode cX6_takeWord 8 = .ok (.aload_n 0, 1) := by decide +kernel
theorem dX6_takeWord_9 : decode cX6_takeWord 9 = .ok (.invokevirtual 35, 3) := by decide +kernel
theorem dX6_takeWord_12 : decode cX6_takeWord 12 = .ok (.goto 12, 3) := by decide +kernel
theorem dX6_takeWord_15 : decode cX6_takeWord 15 = .ok (.aload_n 0, 1) := by decide +kernel
theorem dX6_takeWord_16 : decode cX6_takeWord 16 = .ok (.aload_n 0, 1) := by decide +kernel
theorem dX6_takeWord_17 : decode cX6_takeWord 17 = .ok (.getfield 100, 3) := by decide +kernel
theorem dX6_takeWord_20 : decode cX6_takeWord 20 = .ok (.iconst 1, 1) := by decide +kernel
theorem dX6_takeWord_21 : decode cX6_takeWord 21 = .ok (.invokevirtual 103, 3) := by decide +kernel
theorem dX6_takeWord_24 : decode cX6_takeWord 24 = .ok (.return_, 1) := by decide +kernel
theorem dX6_takeSemicolon_0 : decode cX6_takeSemicolon 0 = .ok (.aload_n 0, 1) := by decide +kernel
theorem dX6_takeSemicolon_1 : decode cX6_takeSemicolon 1 = .ok (.getfield 25, 3) := by decide +kernel
theorem dX6_takeSemicolon_4 : decode cX6_takeSemicolon 4 = .ok (.ifCond .ne 18, 3) := by decide +kernel
theorem dX6_takeSemicolon_7 : decode cX6_takeSemicolon 7 = .ok (.aload_n 0, 1) := by decide +kernel
theorem dX6_takeSemicolon_8 : decode cX6_takeSemicolon 8 = .ok (.getfield 59, 3) := by decide +kernel
theorem dX6_takeSemicolon_11 : decode cX6_takeSemicolon 11 = .ok (.iconst 3, 1) := by decide +kernel
theorem dX6_takeSemicolon_12 : decode cX6_takeSemicolon 12 = .ok (.if_icmp .ne 10, 3) := by decide +kernel
theorem dX6_takeSemicolon_15 : decode cX6_takeSemicolon 15 = .ok (.aload_n 0, 1) := by decide +kernel
theorem dX6_takeSemicolon_16 : decode cX6_takeSemicolon 16 = .ok (.invokevirtual 35, 3) := by decide +kernel
theorem dX6_takeSemicolon_19 : decode cX6_takeSemicolon 19 = .ok (.goto 12, 3) := by decide +kernel
theorem dX6_takeSemicolon_22 : decode cX6_takeSemicolon 22 = .ok (.aload_n 0, 1) := by decide +kernel
theorem dX6_takeSemicolon_23 : decode cX6_takeSemicolon 23 = .ok (.aload_n 0, 1) := by decide +kernel
theorem dX6_takeSemicolon_24 : decode cX6_takeSemicolon 24 = .ok (.getfield 100, 3) := by decide +kernel
theorem dX6_takeSemicolon_27 : decode cX6_takeSemicolon 27 = .ok (.iconst 1, 1) := by decide +kernel
theorem dX6_takeSemicolon_28 : decode cX6_takeSemicolon 28 = .ok (.invokevirtual 103, 3) := by decide +kernel
theorem dX6_takeSemicolon_31 : decode cX6_takeSemicolon 31 = .ok (.return_, 1) := by decide +kernel
theorem dX6_takeNumber_0 : decode cX6_takeNumber 0 = .ok (.aload_n 0, 1) := by decide +kernel
theorem dX6_takeNumber_1 : decode cX6_takeNumber 1 = .ok (.getfield 25, 3) := by decide +kernel
theorem dX6_takeNumber_4 : decode cX6_takeNumber 4 = .ok (.ifCond .eq 5, 3) := by decide +kernel
theorem dX6_takeNumber_7 : decode cX6_takeNumber 7 = .ok (.iload_n 1, 1) := by decide +kernel
theorem dX6_takeNumber_8 : decode cX6_takeNumber 8 = .ok (.ireturn, 1) := by decide +kernel
theorem dX6_takeNumber_9 : decode cX6_takeNumber 9 = .ok (.aload_n 0, 1) := by decide +kernel
theorem dX6_takeNumber_10 : decode cX6_takeNumber 10 = .ok (.getfield 59, 3) := by decide +kernel
theorem dX6_takeNumber_13 : decode cX6_takeNumber 13 = .ok (.iconst 2, 1) := by decide +kernel
theorem dX6_takeNumber_14 : decode cX6_takeNumber 14 = .ok (.if_icmp .eq 14, 3) := by decide +kernel
theorem dX6_takeNumber_17 : decode cX6_takeNumber 17 = .ok (.aload_n 0, 1) := by decide +kernel
theorem dX6_takeNumber_18 : decode cX6_takeNumber 18 = .ok (.aload_n 0, 1) := by decide +kernel
theorem dX6_takeNumber_19 : decode cX6_takeNumber 19 = .ok (.getfield 100, 3) := by decide +kernel
theorem dX6_takeNumber_22 : decode cX6_takeNumber 22 = .ok (.iconst 1, 1) := by decide +kernel
theorem dX6_takeNumber_23 : decode cX6_takeNumber 23 = .ok (.invokevirtual 103, 3) := by decide +kernel
theorem dX6_takeNumber_26 : decode cX6_takeNumber 26 = .ok (.iload_n 1, 1) := by decide +kernel
theorem dX6_takeNumber_27 : decode cX6_takeNumber 27 = .ok (.ireturn, 1) := by decide +kernel
theorem dX6_takeNumber_28 : decode cX6_takeNumber 28 = .ok (.aload_n 0, 1) := by decide +kernel
theorem dX6_takeNumber_29 : decode cX6_takeNumber 29 = .ok (.getfield 132, 3) := by decide +kernel
theorem dX6_takeNumber_32 : decode cX6_takeNumber 32 = .ok (.iload_n 1, 1) := by decide +kernel
theorem dX6_takeNumber_33 : decode cX6_takeNumber 33 = .ok (.if_icmp .lt 11, 3) := by decide +kernel
theorem dX6_takeNumber_36 : decode cX6_takeNumber 36 = .ok (.aload_n 0, 1) := by decide +kernel
theorem dX6_takeNumber_37 : decode cX6_takeNumber 37 = .ok (.getfield 132, 3) := by decide +kernel
theorem dX6_takeNumber_40 : decode cX6_takeNumber 40 = .ok (.iload_n 2, 1) := by decide +kernel
theorem dX6_takeNumber_41 : decode cX6_takeNumber 41 = .ok (.if_icmp .le 14, 3) := by decide +kernel
theorem dX6_takeNumber_44 : decode cX6_takeNumber 44 = .ok (.aload_n 0, 1) := by decide +kernel
theorem dX6_takeNumber_45 : decode cX6_takeNumber 45 = .ok (.aload_n 0, 1) := by decide +kernel
theorem dX6_takeNumber_46 : decode cX6_takeNumber 46 = .ok (.getfield 100, 3) := by decide +kernel
theorem dX6_takeNumber_49 : decode cX6_takeNumber 49 = .ok (.iconst 3, 1) := by decide +kernel
theorem dX6_takeNumber_50 : decode cX6_takeNumber 50 = .ok (.invokevirtual 103, 3) := by decide +kernel
theorem dX6_takeNumber_53 : decode cX6_takeNumber 53 = .ok (.iload_n 1, 1) := by decide +kernel
theorem dX6_takeNumber_54 : decode cX6_takeNumber 54 = .ok (.ireturn, 1) := by decide +kernel
theorem dX6_takeNumber_55 : decode cX6_takeNumber 55 = .ok (.aload_n 0, 1) := by decide +kernel
theorem dX6_takeNumber_56 : decode cX6_takeNumber 56 = .ok (.getfield 132, 3) := by decide +kernel
theorem dX6_takeNumber_59 : decode cX6_takeNumber 59 = .ok (.istore_n 3, 1) := by decide +kernel
theorem dX6_takeNumber_60 : decode cX6_takeNumber 60 = .ok (.aload_n 0, 1) := by decide +kernel
theorem dX6_takeNumber_61 : decode cX6_takeNumber 61 = .ok (.aload_n 0, 1) := by decide +kernel
theorem dX6_takeNumber_62 : decode cX6_takeNumber 62 = .ok (.getfield 100, 3) := by decide +kernel
theorem dX6_takeNumber_65 : decode cX6_takeNumber 65 = .ok (.putfield 110, 3) := by decide +kernel
theorem dX6_takeNumber_68 : decode cX6_takeNumber 68 = .ok (.aload_n 0, 1) := by decide +kernel
theorem dX6_takeNumber_69 : decode cX6_takeNumber 69 = .ok (.invokevirtual 35, 3) := by decide +kernel
theorem dX6_takeNumber_72 : decode cX6_takeNumber 72 = .ok (.iload_n 3, 1) := by decide +kernel
theorem dX6_takeNumber_73 : decode cX6_takeNumber 73 = .ok (.ireturn, 1) := by decide +kernel
theorem dX6_isWord_0 : decode cX6_isWord 0 = .ok (.aload_n 0, 1) := by decide +kernel
theorem dX6_isWord_1 : decode cX6_isWord 1 = .ok (.getfield 59, 3) := by decide +kernel
theorem dX6_isWord_4 : decode cX6_isWord 4 = .ok (.iconst 1, 1) := by decide +kernel
theorem dX6_isWord_5 : decode cX6_isWord 5 = .ok (.if_icmp .ne 19, 3) := by decide +kernel
theorem dX6_isWord_8 : decode cX6_isWord 8 = .ok (.aload_n 0, 1) := by decide +kernel
theorem dX6_isWord_9 : decode cX6_isWord 9 = .ok (.getfield 22, 3) := by decide +kernel
theorem dX6_isWord_12 : decode cX6_isWord 12 = .ok (.aload_n 0, 1) := by decide +kernel
theorem dX6_isWord_13 : decode cX6_isWord 13 = .ok (.getfield 100, 3) := by decide +kernel
theorem dX6_isWord_16 : decode cX6_isWord 16 = .ok (.isub, 1) := by decide +kernel
theorem dX6_isWord_17 : decode cX6_isWord 17 = .ok (.aload_n 1, 1) := by decide +kernel
theorem dX6_isWord_18 : decode cX6_isWord 18 = .ok (.invokevirtual 135, 3) := by decide +kernel
theorem dX6_isWord_21 : decode cX6_isWord 21 = .ok (.if_icmp .eq 5, 3) := by decide +kernel
theorem dX6_isWord_24 : decode cX6_isWord 24 = .ok (.iconst 0, 1) := by decide +kernel
theorem dX6_isWord_25 : decode cX6_isWord 25 = .ok (.ireturn, 1) := by decide +kernel
theorem dX6_isWord_26 : decode cX6_isWord 26 = .ok (.iconst 0, 1) := by decide +kernel
theorem dX6_isWord_27 : decode cX6_isWord 27 = .ok (.istore_n 2, 1) := by decide +kernel
theorem dX6_isWord_28 : decode cX6_isWord 28 = .ok (.iload_n 2, 1) := by decide +kernel
theorem dX6_isWord_29 : decode cX6_isWord 29 = .ok (.aload_n 1, 1) := by decide +kernel
theorem dX6_isWord_30 : decode cX6_isWord 30 = .ok (.invokevirtual 135, 3) := by decide +kernel
theorem dX6_isWord_33 : decode cX6_isWord 33 = .ok (.if_icmp .ge 29, 3) := by decide +kernel
theorem dX6_isWord_36 : decode cX6_isWord 36 = .ok (.aload_n 0, 1) := by decide +kernel
theorem dX6_isWord_37 : decode cX6_isWord 37 = .ok (.aload_n 0, 1) := by decide +kernel
theorem dX6_isWord_38 : decode cX6_isWord 38 = .ok (.getfield 100, 3) := by decide +kernel
theorem dX6_isWord_41 : decode cX6_isWord 41 = .ok (.iload_n 2, 1) := by decide +kernel
theorem dX6_isWord_42 : decode cX6_isWord 42 = .ok (.iadd, 1) := by decide +kernel
theorem dX6_isWord_43 : decode cX6_isWord 43 = .ok (.invokevirtual 141, 3) := by decide +kernel
theorem dX6_isWord_46 : decode cX6_isWord 46 = .ok (.aload_n 1, 1) := by decide +kernel
theorem dX6_isWord_47 : decode cX6_isWord 47 = .ok (.iload_n 2, 1) := by decide +kernel
theorem dX6_isWord_48 : decode cX6_isWord 48 = .ok (.invokevirtual 145, 3) := by decide +kernel
theorem dX6_isWord_51 : decode cX6_isWord 51 = .ok (.if_icmp .eq 5, 3) := by decide +kernel
theorem dX6_isWord_54 : decode cX6_isWord 54 = .ok (.iconst 0, 1) := by decide +kernel
theorem dX6_isWord_55 : decode cX6_isWord 55 = .ok (.ireturn, 1) := by decide +kernel
theorem dX6_isWord_56 : decode cX6_isWord 56 = .ok (.iinc 2 1, 3) := by decide +kernel
theorem dX6_isWord_59 : decode cX6_isWord 59 = .ok (.goto (-31), 3) := by decide +kernel
theorem dX6_isWord_62 : decode cX6_isWord 62 = .ok (.iconst 1, 1) := by decide +kernel
theorem dX6_isWord_63 : decode cX6_isWord 63 = .ok (.ireturn, 1) := by decide +kernel
theorem dX6_advance_0 : decode cX6_advance 0 = .ok (.aload_n 0, 1) := by decide +kernel
theorem dX6_advance_1 : decode cX6_advance 1 = .ok (.getfield 22, 3) := by decide +kernel
theorem dX6_advance_4 : decode cX6_advance 4 = .ok (.aload_n 0, 1) := by decide +kernel
theorem dX6_advance_5 : decode cX6_advance 5 = .ok (.getfield 19, 3) := by decide +kernel
theorem dX6_advance_8 : decode cX6_advance 8 = .ok (.if_icmp .ge 30, 3) := by decide +kernel
theorem dX6_advance_11 : decode cX6_advance 11 = .ok (.aload_n 0, 1) := by decide +kernel
theorem dX6_advance_12 : decode cX6_advance 12 = .ok (.aload_n 0, 1) := by decide +kernel
theorem dX6_advance_13 : decode cX6_advance 13 = .ok (.getfield 22, 3) := by decide +kernel
theorem dX6_advance_16 : decode cX6_advance 16 = .ok (.invokevirtual 141, 3) := by decide +kernel
theorem dX6_advance_19 : decode cX6_advance 19 = .ok (.invokestatic 149, 3) := by decide +kernel
theorem dX6_advance_22 : decode cX6_advance 22 = .ok (.ifCond .eq 16, 3) := by decide +kernel
theorem dX6_advance_25 : decode cX6_advance 25 = .ok (.aload_n 0, 1) := by decide +kernel
theorem dX6_advance_26 : decode cX6_advance 26 = .ok (.dup, 1) := by decide +kernel
theorem dX6_advance_27 : decode cX6_advance 27 = .ok (.getfield 22, 3) := by decide +kernel
theorem dX6_advance_30 : decode cX6_advance 30 = .ok (.iconst 1, 1) := by decide +kernel
theorem dX6_advance_31 : decode cX6_advance 31 = .ok (.iadd, 1) := by decide +kernel
theorem dX6_advance_32 : decode cX6_advance 32 = .ok (.putfield 22, 3) := by decide +kernel
theorem dX6_advance_35 : decode cX6_advance 35 = .ok (.goto (-35), 3) := by decide +kernel
theorem dX6_advance_38 : decode cX6_advance 38 = .ok (.aload_n 0, 1) := by decide +kernel
theorem dX6_advance_39 : decode cX6_advance 39 = .ok (.aload_n 0, 1) := by decide +kernel
theorem dX6_advance_40 : decode cX6_advance 40 = .ok (.getfield 22, 3) := by decide +kernel
theorem dX6_advance_43 : decode cX6_advance 43 = .ok (.putfield 100, 3) := by decide +kernel
theorem dX6_advance_46 : decode cX6_advance 46 = .ok (.aload_n 0, 1) := by decide +kernel
theorem dX6_advance_47 : decode cX6_advance 47 = .ok (.aload_n 0, 1) := by decide +kernel
theorem dX6_advance_48 : decode cX6_advance 48 = .ok (.getfield 22, 3) := by decide +kernel
theorem dX6_advance_51 : decode cX6_advance 51 = .ok (.invokevirtual 141, 3) := by decide +kernel
theorem dX6_advance_54 : decode cX6_advance 54 = .ok (.istore_n 1, 1) := by decide +kernel
theorem dX6_advance_55 : decode cX6_advance 55 = .ok (.aload_n 0, 1) := by decide +kernel
theorem dX6_advance_56 : decode cX6_advance 56 = .ok (.getfield 22, 3) := by decide +kernel
theorem dX6_advance_59 : decode cX6_advance 59 = .ok (.aload_n 0, 1) := by decide +kernel
theorem dX6_advance_60 : decode cX6_advance 60 = .ok (.getfield 19, 3) := by decide +kernel
theorem dX6_advance_63 : decode cX6_advance 63 = .ok (.if_icmp .lt 11, 3) := by decide +kernel
theorem dX6_advance_66 : decode cX6_advance 66 = .ok (.aload_n 0, 1) := by decide +kernel
theorem dX6_advance_67 : decode cX6_advance 67 = .ok (.iconst 0, 1) := by decide +kernel
theorem dX6_advance_68 : decode cX6_advance 68 = .ok (.putfield 59, 3) := by decide +kernel
theorem dX6_advance_71 : decode cX6_advance 71 = .ok (.goto 60, 3) := by decide +kernel
theorem dX6_advance_74 : decode cX6_advance 74 = .ok (.iload_n 1, 1) := by decide +kernel
theorem dX6_advance_75 : decode cX6_advance 75 = .ok (.bipush 59, 2) := by decide +kernel
theorem dX6_advance_77 : decode cX6_advance 77 = .ok (.if_icmp .ne 21, 3) := by decide +kernel
theorem dX6_advance_80 : decode cX6_advance 80 = .ok (.aload_n 0, 1) := by decide +kernel
theorem dX6_advance_81 : decode cX6_advance 81 = .ok (.iconst 3, 1) := by decide +kernel
theorem dX6_advance_82 : decode cX6_advance 82 = .ok (.putfield 59, 3) := by decide +kernel
theorem dX6_advance_85 : decode cX6_advance 85 = .ok (.aload_n 0, 1) := by decide +kernel
theorem dX6_advance_86 : decode cX6_advance 86 = .ok (.dup, 1) := by decide +kernel
theorem dX6_advance_87 : decode cX6_advance 87 = .ok (.getfield 22, 3) := by decide +kernel
theorem dX6_advance_90 : decode cX6_advance 90 = .ok (.iconst 1, 1) := by decide +kernel
theorem dX6_advance_91 : decode cX6_advance 91 = .ok (.iadd, 1) := by decide +kernel
theorem dX6_advance_92 : decode cX6_advance 92 = .ok (.putfield 22, 3) := by decide +kernel
theorem dX6_advance_95 : decode cX6_advance 95 = .ok (.goto 36, 3) := by decide +kernel
theorem dX6_advance_98 : decode cX6_advance 98 = .ok (.iload_n 1, 1) := by decide +kernel
theorem dX6_advance_99 : decode cX6_advance 99 = .ok (.invokestatic 152, 3) := by decide +kernel
theorem dX6_advance_102 : decode cX6_advance 102 = .ok (.ifCond .eq 10, 3) := by decide +kernel
theorem dX6_advance_105 : decode cX6_advance 105 = .ok (.aload_n 0, 1) := by decide +kernel
theorem dX6_advance_106 : decode cX6_advance 106 = .ok (.invokevirtual 155, 3) := by decide +kernel
theorem dX6_advance_109 : decode cX6_advance 109 = .ok (.goto 22, 3) := by decide +kernel
theorem dX6_advance_112 : decode cX6_advance 112 = .ok (.iload_n 1, 1) := by decide +kernel
theorem dX6_advance_113 : decode cX6_advance 113 = .ok (.invokestatic 158, 3) := by decide +kernel
theorem dX6_advance_116 : decode cX6_advance 116 = .ok (.ifCond .eq 10, 3) := by decide +kernel
theorem dX6_advance_119 : decode cX6_advance 119 = .ok (.aload_n 0, 1) := by decide +kernel
theorem dX6_advance_120 : decode cX6_advance 120 = .ok (.invokevirtual 161, 3) := by decide +kernel
theorem dX6_advance_123 : decode cX6_advance 123 = .ok (.goto 8, 3) := by decide +kernel
theorem dX6_advance_126 : decode cX6_advance 126 = .ok (.aload_n 0, 1) := by decide +kernel
theorem dX6_advance_127 : decode cX6_advance 127 = .ok (.iconst 4, 1) := by decide +kernel
theorem dX6_advance_128 : decode cX6_advance 128 = .ok (.putfield 59, 3) := by decide +kernel
theorem dX6_advance_131 : decode cX6_advance 131 = .ok (.return_, 1) := by decide +kernel
theorem dX6_passLetters_0 : decode cX6_passLetters 0 = .ok (.aload_n 0, 1) := by decide +kernel
theorem dX6_passLetters_1 : decode cX6_passLetters 1 = .ok (.getfield 22, 3) := by decide +kernel
theorem dX6_passLetters_4 : decode cX6_passLetters 4 = .ok (.aload_n 0, 1) := by decide +kernel
theorem dX6_passLetters_5 : decode cX6_passLetters 5 = .ok (.getfield 19, 3) := by decide +kernel
theorem dX6_passLetters_8 : decode cX6_passLetters 8 = .ok (.if_icmp .ge 30, 3) := by decide +kernel
theorem dX6_passLetters_11 : decode cX6_passLetters 11 = .ok (.aload_n 0, 1) := by decide +kernel
theorem dX6_passLetters_12 : decode cX6_passLetters 12 = .ok (.aload_n 0, 1) := by decide +kernel
theorem dX6_passLetters_13 : decode cX6_passLetters 13 = .ok (.getfield 22, 3) := by decide +kernel
theorem dX6_passLetters_16 : decode cX6_passLetters 16 = .ok (.invokevirtual 141, 3) := by decide +kernel
theorem dX6_passLetters_19 : decode cX6_passLetters 19 = .ok (.invokestatic 152, 3) := by decide +kernel
theorem dX6_passLetters_22 : decode cX6_passLetters 22 = .ok (.ifCond .eq 16, 3) := by decide +kernel
theorem dX6_passLetters_25 : decode cX6_passLetters 25 = .ok (.aload_n 0, 1) := by decide +kernel
theorem dX6_passLetters_26 : decode cX6_passLetters 26 = .ok (.dup, 1) := by decide +kernel
theorem dX6_passLetters_27 : decode cX6_passLetters 27 = .ok (.getfield 22, 3) := by decide +kernel
theorem dX6_passLetters_30 : decode cX6_passLetters 30 = .ok (.iconst 1, 1) := by decide +kernel
theorem dX6_passLetters_31 : decode cX6_passLetters 31 = .ok (.iadd, 1) := by decide +kernel
theorem dX6_passLetters_32 : decode cX6_passLetters 32 = .ok (.putfield 22, 3) := by decide +kernel
theorem dX6_passLetters_35 : decode cX6_passLetters 35 = .ok (.goto (-35), 3) := by decide +kernel
theorem dX6_passLetters_38 : decode cX6_passLetters 38 = .ok (.aload_n 0, 1) := by decide +kernel
theorem dX6_passLetters_39 : decode cX6_passLetters 39 = .ok (.aload_n 0, 1) := by decide +kernel
theorem dX6_passLetters_40 : decode cX6_passLetters 40 = .ok (.getfield 22, 3) := by decide +kernel
theorem dX6_passLetters_43 : decode cX6_passLetters 43 = .ok (.aload_n 0, 1) := by decide +kernel
theorem dX6_passLetters_44 : decode cX6_passLetters 44 = .ok (.getfield 100, 3) := by decide +kernel
theorem dX6_passLetters_47 : decode cX6_passLetters 47 = .ok (.isub, 1) := by decide +kernel
theorem dX6_passLetters_48 : decode cX6_passLetters 48 = .ok (.bipush 8, 2) := by decide +kernel
theorem dX6_passLetters_50 : decode cX6_passLetters 50 = .ok (.if_icmp .gt 7, 3) := by decide +kernel
theorem dX6_passLetters_53 : decode cX6_passLetters 53 = .ok (.iconst 1, 1) := by decide +kernel
theorem dX6_passLetters_54 : decode cX6_passLetters 54 = .ok (.goto 4, 3) := by decide +kernel
theorem dX6_passLetters_57 : decode cX6_passLetters 57 = .ok (.iconst 4, 1) := by decide +kernel
theorem dX6_passLetters_58 : decode cX6_passLetters 58 = .ok (.putfield 59, 3) := by decide +kernel
theorem dX6_passLetters_61 : decode cX6_passLetters 61 = .ok (.return_, 1) := by decide +kernel
theorem dX6_passDigits_0 : decode cX6_passDigits 0 = .ok (.aload_n 0, 1) := by decide +kernel
theorem dX6_passDigits_1 : decode cX6_passDigits 1 = .ok (.iconst 0, 1) := by decide +kernel
theorem dX6_passDigits_2 : decode cX6_passDigits 2 = .ok (.putfield 132, 3) := by decide +kernel
theorem dX6_passDigits_5 : decode cX6_passDigits 5 = .ok (.aload_n 0, 1) := by decide +kernel
theorem dX6_passDigits_6 : decode cX6_passDigits 6 = .ok (.getfield 22, 3) := by decide +kernel
theorem dX6_passDigits_9 : decode cX6_passDigits 9 = .ok (.aload_n 0, 1) := by decide +kernel
theorem dX6_passDigits_10 : decode cX6_passDigits 10 = .ok (.getfield 19, 3) := by decide +kernel
theorem dX6_passDigits_13 : decode cX6_passDigits 13 = .ok (.if_icmp .ge 53, 3) := by decide +kernel
theorem dX6_passDigits_16 : decode cX6_passDigits 16 = .ok (.aload_n 0, 1) := by decide +kernel
theorem dX6_passDigits_17 : decode cX6_passDigits 17 = .ok (.aload_n 0, 1) := by decide +kernel
theorem dX6_passDigits_18 : decode cX6_passDigits 18 = .ok (.getfield 22, 3) := by decide +kernel
theorem dX6_passDigits_21 : decode cX6_passDigits 21 = .ok (.invokevirtual 141, 3) := by decide +kernel
theorem dX6_passDigits_24 : decode cX6_passDigits 24 = .ok (.invokestatic 158, 3) := by decide +kernel
theorem dX6_passDigits_27 : decode cX6_passDigits 27 = .ok (.ifCond .eq 39, 3) := by decide +kernel
theorem dX6_passDigits_30 : decode cX6_passDigits 30 = .ok (.aload_n 0, 1) := by decide +kernel
theorem dX6_passDigits_31 : decode cX6_passDigits 31 = .ok (.bipush 10, 2) := by decide +kernel
theorem dX6_passDigits_33 : decode cX6_passDigits 33 = .ok (.aload_n 0, 1) := by decide +kernel
theorem dX6_passDigits_34 : decode cX6_passDigits 34 = .ok (.getfield 132, 3) := by decide +kernel
theorem dX6_passDigits_37 : decode cX6_passDigits 37 = .ok (.imul, 1) := by decide +kernel
theorem dX6_passDigits_38 : decode cX6_passDigits 38 = .ok (.aload_n 0, 1) := by decide +kernel
theorem dX6_passDigits_39 : decode cX6_passDigits 39 = .ok (.aload_n 0, 1) := by decide +kernel
theorem dX6_passDigits_40 : decode cX6_passDigits 40 = .ok (.getfield 22, 3) := by decide +kernel
theorem dX6_passDigits_43 : decode cX6_passDigits 43 = .ok (.invokevirtual 141, 3) := by decide +kernel
theorem dX6_passDigits_46 : decode cX6_passDigits 46 = .ok (.iadd, 1) := by decide +kernel
theorem dX6_passDigits_47 : decode cX6_passDigits 47 = .ok (.bipush 48, 2) := by decide +kernel
theorem dX6_passDigits_49 : decode cX6_passDigits 49 = .ok (.isub, 1) := by decide +kernel
theorem dX6_passDigits_50 : decode cX6_passDigits 50 = .ok (.putfield 132, 3) := by decide +kernel
theorem dX6_passDigits_53 : decode cX6_passDigits 53 = .ok (.aload_n 0, 1) := by decide +kernel
theorem dX6_passDigits_54 : decode cX6_passDigits 54 = .ok (.dup, 1) := by decide +kernel
theorem dX6_passDigits_55 : decode cX6_passDigits 55 = .ok (.getfield 22, 3) := by decide +kernel
theorem dX6_passDigits_58 : decode cX6_passDigits 58 = .ok (.iconst 1, 1) := by decide +kernel
theorem dX6_passDigits_59 : decode cX6_passDigits 59 = .ok (.iadd, 1) := by decide +kernel
theorem dX6_passDigits_60 : decode cX6_passDigits 60 = .ok (.putfield 22, 3) := by decide +kernel
theorem dX6_passDigits_63 : decode cX6_passDigits 63 = .ok (.goto (-58), 3) := by decide +kernel
theorem dX6_passDigits_66 : decode cX6_passDigits 66 = .ok (.aload_n 0, 1) := by decide +kernel
theorem dX6_passDigits_67 : decode cX6_passDigits 67 = .ok (.aload_n 0, 1) := by decide +kernel
theorem dX6_passDigits_68 : decode cX6_passDigits 68 = .ok (.getfield 22, 3) := by decide +kernel
theorem dX6_passDigits_71 : decode cX6_passDigits 71 = .ok (.aload_n 0, 1) := by decide +kernel
theorem dX6_passDigits_72 : decode cX6_passDigits 72 = .ok (.getfield 100, 3) := by decide +kernel
theorem dX6_passDigits_75 : decode cX6_passDigits 75 = .ok (.isub, 1) := by decide +kernel
theorem dX6_passDigits_76 : decode cX6_passDigits 76 = .ok (.iconst 3, 1) := by decide +kernel
theorem dX6_passDigits_77 : decode cX6_passDigits 77 = .ok (.if_icmp .gt 7, 3) := by decide +kernel
theorem dX6_passDigits_80 : decode cX6_passDigits 80 = .ok (.iconst 2, 1) := by decide +kernel
theorem dX6_passDigits_81 : decode cX6_passDigits 81 = .ok (.goto 4, 3) := by decide +kernel
theorem dX6_passDigits_84 : decode cX6_passDigits 84 = .ok (.iconst 4, 1) := by decide +kernel
theorem dX6_passDigits_85 : decode cX6_passDigits 85 = .ok (.putfield 59, 3) := by decide +kernel
theorem dX6_passDigits_88 : decode cX6_passDigits 88 = .ok (.return_, 1) := by decide +kernel
theorem dX6_byteAt_0 : decode cX6_byteAt 0 = .ok (.iload_n 1, 1) := by decide +kernel
theorem dX6_byteAt_1 : decode cX6_byteAt 1 = .ok (.ifCond .lt 27, 3) := by decide +kernel
theorem dX6_byteAt_4 : decode cX6_byteAt 4 = .ok (.iload_n 1, 1) := by decide +kernel
theorem dX6_byteAt_5 : decode cX6_byteAt 5 = .ok (.aload_n 0, 1) := by decide +kernel
theorem dX6_byteAt_6 : decode cX6_byteAt 6 = .ok (.getfield 19, 3) := by decide +kernel
theorem dX6_byteAt_9 : decode cX6_byteAt 9 = .ok (.if_icmp .ge 19, 3) := by decide +kernel
theorem dX6_byteAt_12 : decode cX6_byteAt 12 = .ok (.iload_n 1, 1) := by decide +kernel
theorem dX6_byteAt_13 : decode cX6_byteAt 13 = .ok (.sipush 700, 3) := by decide +kernel
theorem dX6_byteAt_16 : decode cX6_byteAt 16 = .ok (.if_icmp .ge 12, 3) := by decide +kernel
theorem dX6_byteAt_19 : decode cX6_byteAt 19 = .ok (.aload_n 0, 1) := by decide +kernel
theorem dX6_byteAt_20 : decode cX6_byteAt 20 = .ok (.getfield 11, 3) := by decide +kernel
theorem dX6_byteAt_23 : decode cX6_byteAt 23 = .ok (.iload_n 1, 1) := by decide +kernel
theorem dX6_byteAt_24 : decode cX6_byteAt 24 = .ok (.baload, 1) := by decide +kernel
theorem dX6_byteAt_25 : decode cX6_byteAt 25 = .ok (.goto 4, 3) := by decide +kernel
theorem dX6_byteAt_28 : decode cX6_byteAt 28 = .ok (.iconst (-1), 1) := by decide +kernel
theorem dX6_byteAt_29 : decode cX6_byteAt 29 = .ok (.ireturn, 1) := by decide +kernel
theorem dX6_isSpace_0 : decode cX6_isSpace 0 = .ok (.iload_n 0, 1) := by decide +kernel
theorem dX6_isSpace_1 : decode cX6_isSpace 1 = .ok (.bipush 32, 2) := by decide +kernel
theorem dX6_isSpace_3 : decode cX6_isSpace 3 = .ok (.if_icmp .eq 9, 3) := by decide +kernel
theorem dX6_isSpace_6 : decode cX6_isSpace 6 = .ok (.iload_n 0, 1) := by decide +kernel
theorem dX6_isSpace_7 : decode cX6_isSpace 7 = .ok (.bipush 10, 2) := by decide +kernel
theorem dX6_isSpace_9 : decode cX6_isSpace 9 = .ok (.if_icmp .ne 7, 3) := by decide +kernel
theorem dX6_isSpace_12 : decode cX6_isSpace 12 = .ok (.iconst 1, 1) := by decide +kernel
theorem dX6_isSpace_13 : decode cX6_isSpace 13 = .ok (.goto 4, 3) := by decide +kernel
theorem dX6_isSpace_16 : decode cX6_isSpace 16 = .ok (.iconst 0, 1) := by decide +kernel
theorem dX6_isSpace_17 : decode cX6_isSpace 17 = .ok (.ireturn, 1) := by decide +kernel
theorem dX6_isLetter_0 : decode cX6_isLetter 0 = .ok (.iload_n 0, 1) := by decide +kernel
theorem dX6_isLetter_1 : decode cX6_isLetter 1 = .ok (.bipush 97, 2) := by decide +kernel
theorem dX6_isLetter_3 : decode cX6_isLetter 3 = .ok (.if_icmp .lt 13, 3) := by decide +kernel
theorem dX6_isLetter_6 : decode cX6_isLetter 6 = .ok (.iload_n 0, 1) := by decide +kernel
theorem dX6_isLetter_7 : decode cX6_isLetter 7 = .ok (.bipush 122, 2) := by decide +kernel
theorem dX6_isLetter_9 : decode cX6_isLetter 9 = .ok (.if_icmp .gt 7, 3) := by decide +kernel
theorem dX6_isLetter_12 : decode cX6_isLetter 12 = .ok (.iconst 1, 1) := by decide +kernel
theorem dX6_isLetter_13 : decode cX6_isLetter 13 = .ok (.goto 4, 3) := by decide +kernel
theorem dX6_isLetter_16 : decode cX6_isLetter 16 = .ok (.iconst 0, 1) := by decide +kernel
theorem dX6_isLetter_17 : decode cX6_isLetter 17 = .ok (.ireturn, 1) := by decide +kernel
theorem dX6_isDigit_0 : decode cX6_isDigit 0 = .ok (.iload_n 0, 1) := by decide +kernel
theorem dX6_isDigit_1 : decode cX6_isDigit 1 = .ok (.bipush 48, 2) := by decide +kernel
theorem dX6_isDigit_3 : decode cX6_isDigit 3 = .ok (.if_icmp .lt 13, 3) := by decide +kernel
theorem dX6_isDigit_6 : decode cX6_isDigit 6 = .ok (.iload_n 0, 1) := by decide +kernel
theorem dX6_isDigit_7 : decode cX6_isDigit 7 = .ok (.bipush 57, 2) := by decide +kernel
theorem dX6_isDigit_9 : decode cX6_isDigit 9 = .ok (.if_icmp .gt 7, 3) := by decide +kernel
theorem dX6_isDigit_12 : decode cX6_isDigit 12 = .ok (.iconst 1, 1) := by decide +kernel
theorem dX6_isDigit_13 : decode cX6_isDigit 13 = .ok (.goto 4, 3) := by decide +kernel
theorem dX6_isDigit_16 : decode cX6_isDigit 16 = .ok (.iconst 0, 1) := by decide +kernel
theorem dX6_isDigit_17 : decode cX6_isDigit 17 = .ok (.ireturn, 1) := by decide +kernel
theorem dX7_init_0 : decode cX7_init 0 = .ok (.aload_n 0, 1) := by decide +kernel
theorem dX7_init_1 : decode cX7_init 1 = .ok (.invokespecial 3, 3) := by decide +kernel
theorem dX7_init_4 : decode cX7_init 4 = .ok (.aload_n 0, 1) := by decide +kernel
theorem dX7_init_5 : decode cX7_init 5 = .ok (.new 9, 3) := by decide +kernel
theorem dX7_init_8 : decode cX7_init 8 = .ok (.dup, 1) := by decide +kernel
theorem dX7_init_9 : decode cX7_init 9 = .ok (.invokespecial 11, 3) := by decide +kernel
theorem dX7_init_12 : decode cX7_init 12 = .ok (.putfield 12, 3) := by decide +kernel
theorem dX7_init_15 : decode cX7_init 15 = .ok (.aload_n 0, 1) := by decide +kernel
theorem dX7_init_16 : decode cX7_init 16 = .ok (.new 16, 3) := by decide +kernel
theorem dX7_init_19 : decode cX7_init 19 = .ok (.dup, 1) := by decide +kernel
theorem dX7_init_20 : decode cX7_init 20 = .ok (.invokespecial 18, 3) := by decide +kernel
theorem dX7_init_23 : decode cX7_init 23 = .ok (.putfield 19, 3) := by decide +kernel
theorem dX7_init_26 : decode cX7_init 26 = .ok (.aload_n 0, 1) := by decide +kernel
theorem dX7_init_27 : decode cX7_init 27 = .ok (.new 16, 3) := by decide +kernel
theorem dX7_init_30 : decode cX7_init 30 = .ok (.dup, 1) := by decide +kernel
theorem dX7_init_31 : decode cX7_init 31 = .ok (.invokespecial 18, 3) := by decide +kernel
theorem dX7_init_34 : decode cX7_init 34 = .ok (.putfield 23, 3) := by decide +kernel
theorem dX7_init_37 : decode cX7_init 37 = .ok (.aload_n 0, 1) := by decide +kernel
theorem dX7_init_38 : decode cX7_init 38 = .ok (.new 16, 3) := by decide +kernel
theorem dX7_init_41 : decode cX7_init 41 = .ok (.dup, 1) := by decide +kernel
theorem dX7_init_42 : decode cX7_init 42 = .ok (.invokespecial 18, 3) := by decide +kernel
theorem dX7_init_45 : decode cX7_init 45 = .ok (.putfield 26, 3) := by decide +kernel
theorem dX7_init_48 : decode cX7_init 48 = .ok (.aload_n 0, 1) := by decide +kernel
theorem dX7_init_49 : decode cX7_init 49 = .ok (.new 29, 3) := by decide +kernel
theorem dX7_init_52 : decode cX7_init 52 = .ok (.dup, 1) := by decide +kernel
theorem dX7_init_53 : decode cX7_init 53 = .ok (.invokespecial 31, 3) := by decide +kernel
theorem dX7_init_56 : decode cX7_init 56 = .ok (.putfield 32, 3) := by decide +kernel
theorem dX7_init_59 : decode cX7_init 59 = .ok (.aload_n 0, 1) := by decide +kernel
theorem dX7_init_60 : decode cX7_init 60 = .ok (.new 36, 3) := by decide +kernel
theorem dX7_init_63 : decode cX7_init 63 = .ok (.dup, 1) := by decide +kernel
theorem dX7_init_64 : decode cX7_init 64 = .ok (.invokespecial 38, 3) := by decide +kernel
theorem dX7_init_67 : decode cX7_init 67 = .ok (.putfield 39, 3) := by decide +kernel
theorem dX7_init_70 : decode cX7_init 70 = .ok (.aload_n 0, 1) := by decide +kernel
theorem dX7_init_71 : decode cX7_init 71 = .ok (.new 43, 3) := by decide +kernel
theorem dX7_init_74 : decode cX7_init 74 = .ok (.dup, 1) := by decide +kernel
theorem dX7_init_75 : decode cX7_init 75 = .ok (.invokespecial 45, 3) := by decide +kernel
theorem dX7_init_78 : decode cX7_init 78 = .ok (.putfield 46, 3) := by decide +kernel
theorem dX7_init_81 : decode cX7_init 81 = .ok (.aload_n 0, 1) := by decide +kernel
theorem dX7_init_82 : decode cX7_init 82 = .ok (.new 50, 3) := by decide +kernel
theorem dX7_init_85 : decode cX7_init 85 = .ok (.dup, 1) := by decide +kernel
theorem dX7_init_86 : decode cX7_init 86 = .ok (.invokespecial 52, 3) := by decide +kernel
theorem dX7_init_89 : decode cX7_init 89 = .ok (.putfield 53, 3) := by decide +kernel
theorem dX7_init_92 : decode cX7_init 92 = .ok (.aload_n 0, 1) := by decide +kernel
theorem dX7_init_93 : decode cX7_init 93 = .ok (.new 50, 3) := by decide +kernel
theorem dX7_init_96 : decode cX7_init 96 = .ok (.dup, 1) := by decide +kernel
theorem dX7_init_97 : decode cX7_init 97 = .ok (.invokespecial 52, 3) := by decide +kernel
theorem dX7_init_100 : decode cX7_init 100 = .ok (.putfield 57, 3) := by decide +kernel
theorem dX7_init_103 : decode cX7_init 103 = .ok (.return_, 1) := by decide +kernel
theorem dX7_append_0 : decode cX7_append 0 = .ok (.aload_n 0, 1) := by decide +kernel
theorem dX7_append_1 : decode cX7_append 1 = .ok (.getfield 12, 3) := by decide +kernel
theorem dX7_append_4 : decode cX7_append 4 = .ok (.invokevirtual 60, 3) := by decide +kernel
theorem dX7_append_7 : decode cX7_append 7 = .ok (.ifCond .ne 5, 3) := by decide +kernel
theorem dX7_append_10 : decode cX7_append 10 = .ok (.iconst (-1), 1) := by decide +kernel
theorem dX7_append_11 : decode cX7_append 11 = .ok (.ireturn, 1) := by decide +kernel
theorem dX7_append_12 : decode cX7_append 12 = .ok (.aload_n 0, 1) := by decide +kernel
theorem dX7_append_13 : decode cX7_append 13 = .ok (.getfield 12, 3) := by decide +kernel
theorem dX7_append_16 : decode cX7_append 16 = .ok (.iload_n 1, 1) := by decide +kernel
theorem dX7_append_17 : decode cX7_append 17 = .ok (.invokevirtual 64, 3) := by decide +kernel
theorem dX7_append_20 : decode cX7_append 20 = .ok (.aload_n 0, 1) := by decide +kernel
theorem dX7_append_21 : decode cX7_append 21 = .ok (.getfield 12, 3) := by decide +kernel
theorem dX7_append_24 : decode cX7_append 24 = .ok (.iload_n 2, 1) := by decide +kernel
theorem dX7_append_25 : decode cX7_append 25 = .ok (.invokevirtual 64, 3) := by decide +kernel
theorem dX7_append_28 : decode cX7_append 28 = .ok (.aload_n 0, 1) := by decide +kernel
theorem dX7_append_29 : decode cX7_append 29 = .ok (.getfield 12, 3) := by decide +kernel
theorem dX7_append_32 : decode cX7_append 32 = .ok (.iload_n 3, 1) := by decide +kernel
theorem dX7_append_33 : decode cX7_append 33 = .ok (.invokevirtual 64, 3) := by decide +kernel
theorem dX7_append_36 : decode cX7_append 36 = .ok (.aload_n 0, 1) := by decide +kernel
theorem dX7_append_37 : decode cX7_append 37 = .ok (.getfield 12, 3) := by decide +kernel
theorem dX7_append_40 : decode cX7_append 40 = .ok (.iload 4, 2) := by decide +kernel
theorem dX7_append_42 : decode cX7_append 42 = .ok (.invokevirtual 64, 3) := by decide +kernel
theorem dX7_append_45 : decode cX7_append 45 = .ok (.aload_n 0, 1) := by decide +kernel
theorem dX7_append_46 : decode cX7_append 46 = .ok (.getfield 12, 3) := by decide +kernel
theorem dX7_append_49 : decode cX7_append 49 = .ok (.iload 5, 2) := by decide +kernel
theorem dX7_append_51 : decode cX7_append 51 = .ok (.invokevirtual 64, 3) := by decide +kernel
theorem dX7_append_54 : decode cX7_append 54 = .ok (.aload_n 0, 1) := by decide +kernel
theorem dX7_append_55 : decode cX7_append 55 = .ok (.getfield 12, 3) := by decide +kernel
theorem dX7_append_58 : decode cX7_append 58 = .ok (.getfield 68, 3) := by decide +kernel
theorem dX7_append_61 : decode cX7_append 61 = .ok (.ireturn, 1) := by decide +kernel
theorem dX7_parse_0 : decode cX7_parse 0 = .ok (.iload_n 1, 1) := by decide +kernel
theorem dX7_parse_1 : decode cX7_parse 1 = .ok (.ifCond .lt 14, 3) := by decide +kernel
theorem dX7_parse_4 : decode cX7_parse 4 = .ok (.iload_n 1, 1) := by decide +kernel
theorem dX7_parse_5 : decode cX7_parse 5 = .ok (.aload_n 0, 1) := by decide +kernel
theorem dX7_parse_6 : decode cX7_parse 6 = .ok (.getfield 12, 3) := by decide +kernel
theorem dX7_parse_9 : decode cX7_parse 9 = .ok (.getfield 68, 3) := by decide +kernel
theorem dX7_parse_12 : decode cX7_parse 12 = .ok (.if_icmp .le 13, 3) := by decide +kernel
theorem dX7_parse_15 : decode cX7_parse 15 = .ok (.new 72, 3) := by decide +kernel
theorem dX7_parse_18 : decode cX7_parse 18 = .ok (.dup, 1) := by decide +kernel
theorem dX7_parse_19 : decode cX7_parse 19 = .ok (.ldc 74, 2) := by decide +kernel
theorem dX7_parse_21 : decode cX7_parse 21 = .ok (.invokespecial 76, 3) := by decide +kernel
theorem dX7_parse_24 : decode cX7_parse 24 = .ok (.athrow, 1) := by decide +kernel
theorem dX7_parse_25 : decode cX7_parse 25 = .ok (.aload_n 0, 1) := by decide +kernel
theorem dX7_parse_26 : decode cX7_parse 26 = .ok (.getfield 26, 3) := by decide +kernel
theorem dX7_parse_29 : decode cX7_parse 29 = .ok (.aload_n 0, 1) := by decide +kernel
theorem dX7_parse_30 : decode cX7_parse 30 = .ok (.getfield 23, 3) := by decide +kernel
theorem dX7_parse_33 : decode cX7_parse 33 = .ok (.invokevirtual 79, 3) := by decide +kernel
theorem dX7_parse_36 : decode cX7_parse 36 = .ok (.aload_n 0, 1) := by decide +kernel
theorem dX7_parse_37 : decode cX7_parse 37 = .ok (.getfield 12, 3) := by decide +kernel
theorem dX7_parse_40 : decode cX7_parse 40 = .ok (.iload_n 1, 1) := by decide +kernel
theorem dX7_parse_41 : decode cX7_parse 41 = .ok (.aload_n 0, 1) := by decide +kernel
theorem dX7_parse_42 : decode cX7_parse 42 = .ok (.getfield 26, 3) := by decide +kernel
theorem dX7_parse_45 : decode cX7_parse 45 = .ok (.invokevirtual 83, 3) := by decide +kernel
theorem dX7_parse_48 : decode cX7_parse 48 = .ok (.istore_n 2, 1) := by decide +kernel
theorem dX7_parse_49 : decode cX7_parse 49 = .ok (.aload_n 0, 1) := by decide +kernel
theorem dX7_parse_50 : decode cX7_parse 50 = .ok (.getfield 12, 3) := by decide +kernel
theorem dX7_parse_53 : decode cX7_parse 53 = .ok (.iconst 0, 1) := by decide +kernel
theorem dX7_parse_54 : decode cX7_parse 54 = .ok (.putfield 68, 3) := by decide +kernel
theorem dX7_parse_57 : decode cX7_parse 57 = .ok (.iload_n 2, 1) := by decide +kernel
theorem dX7_parse_58 : decode cX7_parse 58 = .ok (.ifCond .eq 8, 3) := by decide +kernel
theorem dX7_parse_61 : decode cX7_parse 61 = .ok (.bipush (-2), 2) := by decide +kernel
theorem dX7_parse_63 : decode cX7_parse 63 = .ok (.iload_n 2, 1) := by decide +kernel
theorem dX7_parse_64 : decode cX7_parse 64 = .ok (.isub, 1) := by decide +kernel
theorem dX7_parse_65 : decode cX7_parse 65 = .ok (.ireturn, 1) := by decide +kernel
theorem dX7_parse_66 : decode cX7_parse 66 = .ok (.aload_n 0, 1) := by decide +kernel
theorem dX7_parse_67 : decode cX7_parse 67 = .ok (.getfield 19, 3) := by decide +kernel
theorem dX7_parse_70 : decode cX7_parse 70 = .ok (.aload_n 0, 1) := by decide +kernel
theorem dX7_parse_71 : decode cX7_parse 71 = .ok (.getfield 26, 3) := by decide +kernel
theorem dX7_parse_74 : decode cX7_parse 74 = .ok (.invokevirtual 79, 3) := by decide +kernel
theorem dX7_parse_77 : decode cX7_parse 77 = .ok (.aload_n 0, 1) := by decide +kernel
theorem dX7_parse_78 : decode cX7_parse 78 = .ok (.getfield 46, 3) := by decide +kernel
theorem dX7_parse_81 : decode cX7_parse 81 = .ok (.iconst 0, 1) := by decide +kernel
theorem dX7_parse_82 : decode cX7_parse 82 = .ok (.putfield 87, 3) := by decide +kernel
theorem dX7_parse_85 : decode cX7_parse 85 = .ok (.aload_n 0, 1) := by decide +kernel
theorem dX7_parse_86 : decode cX7_parse 86 = .ok (.getfield 53, 3) := by decide +kernel
theorem dX7_parse_89 : decode cX7_parse 89 = .ok (.iconst 0, 1) := by decide +kernel
theorem dX7_parse_90 : decode cX7_parse 90 = .ok (.putfield 90, 3) := by decide +kernel
theorem dX7_parse_93 : decode cX7_parse 93 = .ok (.aload_n 0, 1) := by decide +kernel
theorem dX7_parse_94 : decode cX7_parse 94 = .ok (.getfield 57, 3) := by decide +kernel
theorem dX7_parse_97 : decode cX7_parse 97 = .ok (.iconst 0, 1) := by decide +kernel
theorem dX7_parse_98 : decode cX7_parse 98 = .ok (.putfield 90, 3) := by decide +kernel
theorem dX7_parse_101 : decode cX7_parse 101 = .ok (.aload_n 0, 1) := by decide +kernel
theorem dX7_parse_102 : decode cX7_parse 102 = .ok (.getfield 19, 3) := by decide +kernel
theorem dX7_parse_105 : decode cX7_parse 105 = .ok (.getfield 94, 3) := by decide +kernel
theorem dX7_parse_108 : decode cX7_parse 108 = .ok (.getfield 98, 3) := by decide +kernel
theorem dX7_parse_111 : decode cX7_parse 111 = .ok (.aload_n 0, 1) := by decide +kernel
theorem dX7_parse_112 : decode cX7_parse 112 = .ok (.getfield 19, 3) := by decide +kernel
theorem dX7_parse_115 : decode cX7_parse 115 = .ok (.getfield 103, 3) := by decide +kernel
theorem dX7_parse_118 : decode cX7_parse 118 = .ok (.getfield 98, 3) := by decide +kernel
theorem dX7_parse_121 : decode cX7_parse 121 = .ok (.iadd, 1) := by decide +kernel
theorem dX7_parse_122 : decode cX7_parse 122 = .ok (.ireturn, 1) := by decide +kernel
theorem dX7_size_0 : decode cX7_size 0 = .ok (.iload_n 1, 1) := by decide +kernel
theorem dX7_size_1 : decode cX7_size 1 = .ok (.tableswitch 99 0 6 #[43, 51, 59, 67, 75, 83, 91], 43) := by decide +kernel
theorem dX7_size_44 : decode cX7_size 44 = .ok (.aload_n 0, 1) := by decide +kernel
theorem dX7_size_45 : decode cX7_size 45 = .ok (.getfield 19, 3) := by decide +kernel
theorem dX7_size_48 : decode cX7_size 48 = .ok (.getfield 106, 3) := by decide +kernel
theorem dX7_size_51 : decode cX7_size 51 = .ok (.ireturn, 1) := by decide +kernel
theorem dX7_size_52 : decode cX7_size 52 = .ok (.aload_n 0, 1) := by decide +kernel
theorem dX7_size_53 : decode cX7_size 53 = .ok (.getfield 19, 3) := by decide +kernel
theorem dX7_size_56 : decode cX7_size 56 = .ok (.getfield 109, 3) := by decide +kernel
theorem dX7_size_59 : decode cX7_size 59 = .ok (.ireturn, 1) := by decide +kernel
theorem dX7_size_60 : decode cX7_size 60 = .ok (.aload_n 0, 1) := by decide +kernel
theorem dX7_size_61 : decode cX7_size 61 = .ok (.getfield 19, 3) := by decide +kernel
theorem dX7_size_64 : decode cX7_size 64 = .ok (.invokevirtual 112, 3) := by decide +kernel
theorem dX7_size_67 : decode cX7_size 67 = .ok (.ireturn, 1) := by decide +kernel
theorem dX7_size_68 : decode cX7_size 68 = .ok (.aload_n 0, 1) := by decide +kernel
theorem dX7_size_69 : decode cX7_size 69 = .ok (.getfield 19, 3) := by decide +kernel
theorem dX7_size_72 : decode cX7_size 72 = .ok (.getfield 116, 3) := by decide +kernel
theorem dX7_size_75 : decode cX7_size 75 = .ok (.ireturn, 1) := by decide +kernel
theorem dX7_size_76 : decode cX7_size 76 = .ok (.aload_n 0, 1) := by decide +kernel
theorem dX7_size_77 : decode cX7_size 77 = .ok (.getfield 19, 3) := by decide +kernel
theorem dX7_size_80 : decode cX7_size 80 = .ok (.getfield 119, 3) := by decide +kernel
theorem dX7_size_83 : decode cX7_size 83 = .ok (.ireturn, 1) := by decide +kernel
theorem dX7_size_84 : decode cX7_size 84 = .ok (.aload_n 0, 1) := by decide +kernel
theorem dX7_size_85 : decode cX7_size 85 = .ok (.getfield 19, 3) := by decide +kernel
theorem dX7_size_88 : decode cX7_size 88 = .ok (.getfield 122, 3) := by decide +kernel
theorem dX7_size_91 : decode cX7_size 91 = .ok (.ireturn, 1) := by decide +kernel
theorem dX7_size_92 : decode cX7_size 92 = .ok (.aload_n 0, 1) := by decide +kernel
theorem dX7_size_93 : decode cX7_size 93 = .ok (.getfield 46, 3) := by decide +kernel
theorem dX7_size_96 : decode cX7_size 96 = .ok (.getfield 87, 3) := by decide +kernel
theorem dX7_size_99 : decode cX7_size 99 = .ok (.ireturn, 1) := by decide +kernel
theorem dX7_size_100 : decode cX7_size 100 = .ok (.new 72, 3) := by decide +kernel
theorem dX7_size_103 : decode cX7_size 103 = .ok (.dup, 1) := by decide +kernel
theorem dX7_size_104 : decode cX7_size 104 = .ok (.ldc 125, 2) := by decide +kernel
theorem dX7_size_106 : decode cX7_size 106 = .ok (.invokespecial 76, 3) := by decide +kernel
theorem dX7_size_109 : decode cX7_size 109 = .ok (.athrow, 1) := by decide +kernel
theorem dX7_station_0 : decode cX7_station 0 = .ok (.iload_n 1, 1) := by decide +kernel
theorem dX7_station_1 : decode cX7_station 1 = .ok (.invokestatic 127, 3) := by decide +kernel
theorem dX7_station_4 : decode cX7_station 4 = .ok (.iload_n 2, 1) := by decide +kernel
theorem dX7_station_5 : decode cX7_station 5 = .ok (.ifCond .lt 9, 3) := by decide +kernel
theorem dX7_station_8 : decode cX7_station 8 = .ok (.iload_n 2, 1) := by decide +kernel
theorem dX7_station_9 : decode cX7_station 9 = .ok (.bipush 9, 2) := by decide +kernel
theorem dX7_station_11 : decode cX7_station 11 = .ok (.if_icmp .le 13, 3) := by decide +kernel
theorem dX7_station_14 : decode cX7_station 14 = .ok (.new 72, 3) := by decide +kernel
theorem dX7_station_17 : decode cX7_station 17 = .ok (.dup, 1) := by decide +kernel
theorem dX7_station_18 : decode cX7_station 18 = .ok (.ldc 130, 2) := by decide +kernel
theorem dX7_station_20 : decode cX7_station 20 = .ok (.invokespecial 76, 3) := by decide +kernel
theorem dX7_station_23 : decode cX7_station 23 = .ok (.athrow, 1) := by decide +kernel
theorem dX7_station_24 : decode cX7_station 24 = .ok (.aload_n 0, 1) := by decide +kernel
theorem dX7_station_25 : decode cX7_station 25 = .ok (.getfield 19, 3) := by decide +kernel
theorem dX7_station_28 : decode cX7_station 28 = .ok (.iload_n 1, 1) := by decide +kernel
theorem dX7_station_29 : decode cX7_station 29 = .ok (.invokevirtual 132, 3) := by decide +kernel
theorem dX7_station_32 : decode cX7_station 32 = .ok (.iload_n 2, 1) := by decide +kernel
theorem dX7_station_33 : decode cX7_station 33 = .ok (.invokevirtual 136, 3) := by decide +kernel
theorem dX7_station_36 : decode cX7_station 36 = .ok (.ireturn, 1) := by decide +kernel
theorem dX7_messageByte_0 : decode cX7_messageByte 0 = .ok (.iload_n 1, 1) := by decide +kernel
theorem dX7_messageByte_1 : decode cX7_messageByte 1 = .ok (.invokestatic 127, 3) := by decide +kernel
theorem dX7_messageByte_4 : decode cX7_messageByte 4 = .ok (.aload_n 0, 1) := by decide +kernel
theorem dX7_messageByte_5 : decode cX7_messageByte 5 = .ok (.getfield 19, 3) := by decide +kernel
theorem dX7_messageByte_8 : decode cX7_messageByte 8 = .ok (.iload_n 1, 1) := by decide +kernel
theorem dX7_messageByte_9 : decode cX7_messageByte 9 = .ok (.invokevirtual 132, 3) := by decide +kernel
theorem dX7_messageByte_12 : decode cX7_messageByte 12 = .ok (.astore 4, 2) := by decide +kernel
theorem dX7_messageByte_14 : decode cX7_messageByte 14 = .ok (.aload 4, 2) := by decide +kernel
theorem dX7_messageByte_16 : decode cX7_messageByte 16 = .ok (.iload_n 2, 1) := by decide +kernel
theorem dX7_messageByte_17 : decode cX7_messageByte 17 = .ok (.invokevirtual 140, 3) := by decide +kernel
theorem dX7_messageByte_20 : decode cX7_messageByte 20 = .ok (.ifCond .ne 13, 3) := by decide +kernel
theorem dX7_messageByte_23 : decode cX7_messageByte 23 = .ok (.new 144, 3) := by decide +kernel
theorem dX7_messageByte_26 : decode cX7_messageByte 26 = .ok (.dup, 1) := by decide +kernel
theorem dX7_messageByte_27 : decode cX7_messageByte 27 = .ok (.ldc 146, 2) := by decide +kernel
theorem dX7_messageByte_29 : decode cX7_messageByte 29 = .ok (.invokespecial 148, 3) := by decide +kernel
theorem dX7_messageByte_32 : decode cX7_messageByte 32 = .ok (.athrow, 1) := by decide +kernel
theorem dX7_messageByte_33 : decode cX7_messageByte 33 = .ok (.aload 4, 2) := by decide +kernel
theorem dX7_messageByte_35 : decode cX7_messageByte 35 = .ok (.iload_n 2, 1) := by decide +kernel
theorem dX7_messageByte_36 : decode cX7_messageByte 36 = .ok (.iload_n 3, 1) := by decide +kernel
theorem dX7_messageByte_37 : decode cX7_messageByte 37 = .ok (.invokevirtual 149, 3) := by decide +kernel
theorem dX7_messageByte_40 : decode cX7_messageByte 40 = .ok (.ireturn, 1) := by decide +kernel
theorem dX7_isTold_0 : decode cX7_isTold 0 = .ok (.aload_n 0, 1) := by decide +kernel
theorem dX7_isTold_1 : decode cX7_isTold 1 = .ok (.getfield 19, 3) := by decide +kernel
theorem dX7_isTold_4 : decode cX7_isTold 4 = .ok (.iload_n 1, 1) := by decide +kernel
theorem dX7_isTold_5 : decode cX7_isTold 5 = .ok (.invokevirtual 153, 3) := by decide +kernel
theorem dX7_isTold_8 : decode cX7_isTold 8 = .ok (.ireturn, 1) := by decide +kernel
theorem dX7_next_0 : decode cX7_next 0 = .ok (.aload_n 0, 1) := by decide +kernel
theorem dX7_next_1 : decode cX7_next 1 = .ok (.getfield 32, 3) := by decide +kernel
theorem dX7_next_4 : decode cX7_next 4 = .ok (.aload_n 0, 1) := by decide +kernel
theorem dX7_next_5 : decode cX7_next 5 = .ok (.getfield 19, 3) := by decide +kernel
theorem dX7_next_8 : decode cX7_next 8 = .ok (.invokevirtual 156, 3) := by decide +kernel
theorem dX7_next_11 : decode cX7_next 11 = .ok (.iload_n 1, 1) := by decide +kernel
theorem dX7_next_12 : decode cX7_next 12 = .ok (.tableswitch 111 0 5 #[40, 56, 64, 72, 80, 88], 40) := by decide +kernel
theorem dX7_next_52 : decode cX7_next 52 = .ok (.aload_n 0, 1) := by decide +kernel
theorem dX7_next_53 : decode cX7_next 53 = .ok (.getfield 32, 3) := by decide +kernel
theorem dX7_next_56 : decode cX7_next 56 = .ok (.getfield 159, 3) := by decide +kernel
theorem dX7_next_59 : decode cX7_next 59 = .ok (.ifCond .eq 7, 3) := by decide +kernel
theorem dX7_next_62 : decode cX7_next 62 = .ok (.iconst 0, 1) := by decide +kernel
theorem dX7_next_63 : decode cX7_next 63 = .ok (.goto 4, 3) := by decide +kernel
theorem dX7_next_66 : decode cX7_next 66 = .ok (.iconst 1, 1) := by decide +kernel
theorem dX7_next_67 : decode cX7_next 67 = .ok (.ireturn, 1) := by decide +kernel
theorem dX7_next_68 : decode cX7_next 68 = .ok (.aload_n 0, 1) := by decide +kernel
theorem dX7_next_69 : decode cX7_next 69 = .ok (.getfield 19, 3) := by decide +kernel
theorem dX7_next_72 : decode cX7_next 72 = .ok (.getfield 116, 3) := by decide +kernel
theorem dX7_next_75 : decode cX7_next 75 = .ok (.ireturn, 1) := by decide +kernel
theorem dX7_next_76 : decode cX7_next 76 = .ok (.aload_n 0, 1) := by decide +kernel
theorem dX7_next_77 : decode cX7_next 77 = .ok (.getfield 32, 3) := by decide +kernel
theorem dX7_next_80 : decode cX7_next 80 = .ok (.getfield 162, 3) := by decide +kernel
theorem dX7_next_83 : decode cX7_next 83 = .ok (.ireturn, 1) := by decide +kernel
theorem dX7_next_84 : decode cX7_next 84 = .ok (.aload_n 0, 1) := by decide +kernel
theorem dX7_next_85 : decode cX7_next 85 = .ok (.getfield 32, 3) := by decide +kernel
theorem dX7_next_88 : decode cX7_next 88 = .ok (.invokevirtual 165, 3) := by decide +kernel
theorem dX7_next_91 : decode cX7_next 91 = .ok (.ireturn, 1) := by decide +kernel
theorem dX7_next_92 : decode cX7_next 92 = .ok (.aload_n 0, 1) := by decide +kernel
theorem dX7_next_93 : decode cX7_next 93 = .ok (.getfield 19, 3) := by decide +kernel
theorem dX7_next_96 : decode cX7_next 96 = .ok (.invokevirtual 168, 3) := by decide +kernel
theorem dX7_next_99 : decode cX7_next 99 = .ok (.ireturn, 1) := by decide +kernel
theorem dX7_next_100 : decode cX7_next 100 = .ok (.aload_n 0, 1) := by decide +kernel
theorem dX7_next_101 : decode cX7_next 101 = .ok (.getfield 19, 3) := by decide +kernel
theorem dX7_next_104 : decode cX7_next 104 = .ok (.aload_n 0, 1) := by decide +kernel
theorem dX7_next_105 : decode cX7_next 105 = .ok (.getfield 19, 3) := by decide +kernel
theorem dX7_next_108 : decode cX7_next 108 = .ok (.invokevirtual 168, 3) := by decide +kernel
theorem dX7_next_111 : decode cX7_next 111 = .ok (.invokevirtual 153, 3) := by decide +kernel
theorem dX7_next_114 : decode cX7_next 114 = .ok (.ifCond .eq 7, 3) := by decide +kernel
theorem dX7_next_117 : decode cX7_next 117 = .ok (.iconst 1, 1) := by decide +kernel
theorem dX7_next_118 : decode cX7_next 118 = .ok (.goto 4, 3) := by decide +kernel
theorem dX7_next_121 : decode cX7_next 121 = .ok (.iconst 0, 1) := by decide +kernel
theorem dX7_next_122 : decode cX7_next 122 = .ok (.ireturn, 1) := by decide +kernel
theorem dX7_next_123 : decode cX7_next 123 = .ok (.new 72, 3) := by decide +kernel
theorem dX7_next_126 : decode cX7_next 126 = .ok (.dup, 1) := by decide +kernel
theorem dX7_next_127 : decode cX7_next 127 = .ok (.ldc 171, 2) := by decide +kernel
theorem dX7_next_129 : decode cX7_next 129 = .ok (.invokespecial 76, 3) := by decide +kernel
theorem dX7_next_132 : decode cX7_next 132 = .ok (.athrow, 1) := by decide +kernel
theorem dX7_nextByte_0 : decode cX7_nextByte 0 = .ok (.aload_n 0, 1) := by decide +kernel
theorem dX7_nextByte_1 : decode cX7_nextByte 1 = .ok (.getfield 32, 3) := by decide +kernel
theorem dX7_nextByte_4 : decode cX7_nextByte 4 = .ok (.aload_n 0, 1) := by decide +kernel
theorem dX7_nextByte_5 : decode cX7_nextByte 5 = .ok (.getfield 19, 3) := by decide +kernel
theorem dX7_nextByte_8 : decode cX7_nextByte 8 = .ok (.invokevirtual 156, 3) := by decide +kernel
theorem dX7_nextByte_11 : decode cX7_nextByte 11 = .ok (.aload_n 0, 1) := by decide +kernel
theorem dX7_nextByte_12 : decode cX7_nextByte 12 = .ok (.getfield 32, 3) := by decide +kernel
theorem dX7_nextByte_15 : decode cX7_nextByte 15 = .ok (.iload_n 1, 1) := by decide +kernel
theorem dX7_nextByte_16 : decode cX7_nextByte 16 = .ok (.invokevirtual 173, 3) := by decide +kernel
theorem dX7_nextByte_19 : decode cX7_nextByte 19 = .ok (.ireturn, 1) := by decide +kernel
theorem dX7_account_0 : decode cX7_account 0 = .ok (.iload_n 1, 1) := by decide +kernel
theorem dX7_account_1 : decode cX7_account 1 = .ok (.ifCond .lt 15, 3) := by decide +kernel
theorem dX7_account_4 : decode cX7_account 4 = .ok (.iload_n 1, 1) := by decide +kernel
theorem dX7_account_5 : decode cX7_account 5 = .ok (.aload_n 0, 1) := by decide +kernel
theorem dX7_account_6 : decode cX7_account 6 = .ok (.getfield 19, 3) := by decide +kernel
theorem dX7_account_9 : decode cX7_account 9 = .ok (.getfield 199, 3) := by decide +kernel
theorem dX7_account_12 : decode cX7_account 12 = .ok (.arraylength, 1) := by decide +kernel
theorem dX7_account_13 : decode cX7_account 13 = .ok (.if_icmp .lt 13, 3) := by decide +kernel
theorem dX7_account_16 : decode cX7_account 16 = .ok (.new 72, 3) := by decide +kernel
theorem dX7_account_19 : decode cX7_account 19 = .ok (.dup, 1) := by decide +kernel
theorem dX7_account_20 : decode cX7_account 20 = .ok (.ldc 203, 2) := by decide +kernel
theorem dX7_account_22 : decode cX7_account 22 = .ok (.invokespecial 76, 3) := by decide +kernel
theorem dX7_account_25 : decode cX7_account 25 = .ok (.athrow, 1) := by decide +kernel
theorem dX7_account_26 : decode cX7_account 26 = .ok (.aload_n 0, 1) := by decide +kernel
theorem dX7_account_27 : decode cX7_account 27 = .ok (.getfield 19, 3) := by decide +kernel
theorem dX7_account_30 : decode cX7_account 30 = .ok (.getfield 199, 3) := by decide +kernel
theorem dX7_account_33 : decode cX7_account 33 = .ok (.iload_n 1, 1) := by decide +kernel
theorem dX7_account_34 : decode cX7_account 34 = .ok (.iaload, 1) := by decide +kernel
theorem dX7_account_35 : decode cX7_account 35 = .ok (.ireturn, 1) := by decide +kernel
theorem dX7_efficiency_0 : decode cX7_efficiency 0 = .ok (.aload_n 0, 1) := by decide +kernel
theorem dX7_efficiency_1 : decode cX7_efficiency 1 = .ok (.getfield 19, 3) := by decide +kernel
theorem dX7_efficiency_4 : decode cX7_efficiency 4 = .ok (.getfield 199, 3) := by decide +kernel
theorem dX7_efficiency_7 : decode cX7_efficiency 7 = .ok (.bipush 6, 2) := by decide +kernel
theorem dX7_efficiency_9 : decode cX7_efficiency 9 = .ok (.iaload, 1) := by decide +kernel
theorem dX7_efficiency_10 : decode cX7_efficiency 10 = .ok (.istore_n 1, 1) := by decide +kernel
theorem dX7_efficiency_11 : decode cX7_efficiency 11 = .ok (.iload_n 1, 1) := by decide +kernel
theorem dX7_efficiency_12 : decode cX7_efficiency 12 = .ok (.ifCond .gt 5, 3) := by decide +kernel
theorem dX7_efficiency_15 : decode cX7_efficiency 15 = .ok (.dconst 0, 1) := by decide +kernel
theorem dX7_efficiency_16 : decode cX7_efficiency 16 = .ok (.dreturn, 1) := by decide +kernel
theorem dX7_efficiency_17 : decode cX7_efficiency 17 = .ok (.aload_n 0, 1) := by decide +kernel
theorem dX7_efficiency_18 : decode cX7_efficiency 18 = .ok (.getfield 19, 3) := by decide +kernel
theorem dX7_efficiency_21 : decode cX7_efficiency 21 = .ok (.getfield 94, 3) := by decide +kernel
theorem dX7_efficiency_24 : decode cX7_efficiency 24 = .ok (.aload_n 0, 1) := by decide +kernel
theorem dX7_efficiency_25 : decode cX7_efficiency 25 = .ok (.getfield 19, 3) := by decide +kernel
theorem dX7_efficiency_28 : decode cX7_efficiency 28 = .ok (.getfield 103, 3) := by decide +kernel
theorem dX7_efficiency_31 : decode cX7_efficiency 31 = .ok (.getfield 205, 3) := by decide +kernel
theorem dX7_efficiency_34 : decode cX7_efficiency 34 = .ok (.invokevirtual 208, 3) := by decide +kernel
theorem dX7_efficiency_37 : decode cX7_efficiency 37 = .ok (.aload_n 0, 1) := by decide +kernel
theorem dX7_efficiency_38 : decode cX7_efficiency 38 = .ok (.getfield 19, 3) := by decide +kernel
theorem dX7_efficiency_41 : decode cX7_efficiency 41 = .ok (.getfield 103, 3) := by decide +kernel
theorem dX7_efficiency_44 : decode cX7_efficiency 44 = .ok (.aload_n 0, 1) := by decide +kernel
theorem dX7_efficiency_45 : decode cX7_efficiency 45 = .ok (.getfield 19, 3) := by decide +kernel
theorem dX7_efficiency_48 : decode cX7_efficiency 48 = .ok (.getfield 94, 3) := by decide +kernel
theorem dX7_efficiency_51 : decode cX7_efficiency 51 = .ok (.getfield 205, 3) := by decide +kernel
theorem dX7_efficiency_54 : decode cX7_efficiency 54 = .ok (.invokevirtual 208, 3) := by decide +kernel
theorem dX7_efficiency_57 : decode cX7_efficiency 57 = .ok (.iadd, 1) := by decide +kernel
theorem dX7_efficiency_58 : decode cX7_efficiency 58 = .ok (.istore_n 2, 1) := by decide +kernel
theorem dX7_efficiency_59 : decode cX7_efficiency 59 = .ok (.iload_n 2, 1) := by decide +kernel
theorem dX7_efficiency_60 : decode cX7_efficiency 60 = .ok (.i2d, 1) := by decide +kernel
theorem dX7_efficiency_61 : decode cX7_efficiency 61 = .ok (.iload_n 1, 1) := by decide +kernel
theorem dX7_efficiency_62 : decode cX7_efficiency 62 = .ok (.i2d, 1) := by decide +kernel
theorem dX7_efficiency_63 : decode cX7_efficiency 63 = .ok (.ddiv, 1) := by decide +kernel
theorem dX7_efficiency_64 : decode cX7_efficiency 64 = .ok (.dreturn, 1) := by decide +kernel
theorem dX7_read_0 : decode cX7_read 0 = .ok (.iload_n 1, 1) := by decide +kernel
theorem dX7_read_1 : decode cX7_read 1 = .ok (.invokestatic 127, 3) := by decide +kernel
theorem dX7_read_4 : decode cX7_read 4 = .ok (.iload_n 2, 1) := by decide +kernel
theorem dX7_read_5 : decode cX7_read 5 = .ok (.bipush 20, 2) := by decide +kernel
theorem dX7_read_7 : decode cX7_read 7 = .ok (.invokestatic 225, 3) := by decide +kernel
theorem dX7_read_10 : decode cX7_read 10 = .ok (.aload_n 0, 1) := by decide +kernel
theorem dX7_read_11 : decode cX7_read 11 = .ok (.getfield 19, 3) := by decide +kernel
theorem dX7_read_14 : decode cX7_read 14 = .ok (.iload_n 1, 1) := by decide +kernel
theorem dX7_read_15 : decode cX7_read 15 = .ok (.invokevirtual 132, 3) := by decide +kernel
theorem dX7_read_18 : decode cX7_read 18 = .ok (.astore_n 3, 1) := by decide +kernel
theorem dX7_read_19 : decode cX7_read 19 = .ok (.iload_n 2, 1) := by decide +kernel
theorem dX7_read_20 : decode cX7_read 20 = .ok (.aload_n 3, 1) := by decide +kernel
theorem dX7_read_21 : decode cX7_read 21 = .ok (.invokevirtual 229, 3) := by decide +kernel
theorem dX7_read_24 : decode cX7_read 24 = .ok (.if_icmp .le 13, 3) := by decide +kernel
theorem dX7_read_27 : decode cX7_read 27 = .ok (.new 213, 3) := by decide +kernel
theorem dX7_read_30 : decode cX7_read 30 = .ok (.dup, 1) := by decide +kernel
theorem dX7_read_31 : decode cX7_read 31 = .ok (.ldc 232, 2) := by decide +kernel
theorem dX7_read_33 : decode cX7_read 33 = .ok (.invokespecial 217, 3) := by decide +kernel
theorem dX7_read_36 : decode cX7_read 36 = .ok (.athrow, 1) := by decide +kernel
theorem dX7_read_37 : decode cX7_read 37 = .ok (.aload_n 0, 1) := by decide +kernel
theorem dX7_read_38 : decode cX7_read 38 = .ok (.getfield 46, 3) := by decide +kernel
theorem dX7_read_41 : decode cX7_read 41 = .ok (.aload_n 0, 1) := by decide +kernel
theorem dX7_read_42 : decode cX7_read 42 = .ok (.getfield 19, 3) := by decide +kernel
theorem dX7_read_45 : decode cX7_read 45 = .ok (.invokevirtual 218, 3) := by decide +kernel
theorem dX7_read_48 : decode cX7_read 48 = .ok (.aload_n 3, 1) := by decide +kernel
theorem dX7_read_49 : decode cX7_read 49 = .ok (.dup, 1) := by decide +kernel
theorem dX7_read_50 : decode cX7_read 50 = .ok (.getfield 234, 3) := by decide +kernel
theorem dX7_read_53 : decode cX7_read 53 = .ok (.iload_n 2, 1) := by decide +kernel
theorem dX7_read_54 : decode cX7_read 54 = .ok (.iadd, 1) := by decide +kernel
theorem dX7_read_55 : decode cX7_read 55 = .ok (.putfield 234, 3) := by decide +kernel
theorem dX7_read_58 : decode cX7_read 58 = .ok (.aload_n 3, 1) := by decide +kernel
theorem dX7_read_59 : decode cX7_read 59 = .ok (.invokevirtual 229, 3) := by decide +kernel
theorem dX7_read_62 : decode cX7_read 62 = .ok (.ireturn, 1) := by decide +kernel
theorem dX7_run_0 : decode cX7_run 0 = .ok (.iload_n 1, 1) := by decide +kernel
theorem dX7_run_1 : decode cX7_run 1 = .ok (.bipush 100, 2) := by decide +kernel
theorem dX7_run_3 : decode cX7_run 3 = .ok (.invokestatic 225, 3) := by decide +kernel
theorem dX7_run_6 : decode cX7_run 6 = .ok (.aload_n 0, 1) := by decide +kernel
theorem dX7_run_7 : decode cX7_run 7 = .ok (.getfield 19, 3) := by decide +kernel
theorem dX7_run_10 : decode cX7_run 10 = .ok (.invokevirtual 168, 3) := by decide +kernel
theorem dX7_run_13 : decode cX7_run 13 = .ok (.iload_n 1, 1) := by decide +kernel
theorem dX7_run_14 : decode cX7_run 14 = .ok (.iadd, 1) := by decide +kernel
theorem dX7_run_15 : decode cX7_run 15 = .ok (.sipush 2000, 3) := by decide +kernel
theorem dX7_run_18 : decode cX7_run 18 = .ok (.if_icmp .le 13, 3) := by decide +kernel
theorem dX7_run_21 : decode cX7_run 21 = .ok (.new 213, 3) := by decide +kernel
theorem dX7_run_24 : decode cX7_run 24 = .ok (.dup, 1) := by decide +kernel
theorem dX7_run_25 : decode cX7_run 25 = .ok (.ldc 254, 2) := by decide +kernel
theorem dX7_run_27 : decode cX7_run 27 = .ok (.invokespecial 217, 3) := by decide +kernel
theorem dX7_run_30 : decode cX7_run 30 = .ok (.athrow, 1) := by decide +kernel
theorem dX7_run_31 : decode cX7_run 31 = .ok (.aload_n 0, 1) := by decide +kernel
theorem dX7_run_32 : decode cX7_run 32 = .ok (.getfield 46, 3) := by decide +kernel
theorem dX7_run_35 : decode cX7_run 35 = .ok (.aload_n 0, 1) := by decide +kernel
theorem dX7_run_36 : decode cX7_run 36 = .ok (.getfield 19, 3) := by decide +kernel
theorem dX7_run_39 : decode cX7_run 39 = .ok (.invokevirtual 218, 3) := by decide +kernel
theorem dX7_run_42 : decode cX7_run 42 = .ok (.iconst 0, 1) := by decide +kernel
theorem dX7_run_43 : decode cX7_run 43 = .ok (.istore_n 2, 1) := by decide +kernel
theorem dX7_run_44 : decode cX7_run 44 = .ok (.iload_n 2, 1) := by decide +kernel
theorem dX7_run_45 : decode cX7_run 45 = .ok (.iload_n 1, 1) := by decide +kernel
theorem dX7_run_46 : decode cX7_run 46 = .ok (.if_icmp .ge 20, 3) := by decide +kernel
theorem dX7_run_49 : decode cX7_run 49 = .ok (.aload_n 0, 1) := by decide +kernel
theorem dX7_run_50 : decode cX7_run 50 = .ok (.getfield 19, 3) := by decide +kernel
theorem dX7_run_53 : decode cX7_run 53 = .ok (.aload_n 0, 1) := by decide +kernel
theorem dX7_run_54 : decode cX7_run 54 = .ok (.getfield 32, 3) := by decide +kernel
theorem dX7_run_57 : decode cX7_run 57 = .ok (.invokevirtual 256, 3) := by decide +kernel
theorem dX7_run_60 : decode cX7_run 60 = .ok (.iinc 2 1, 3) := by decide +kernel
theorem dX7_run_63 : decode cX7_run 63 = .ok (.goto (-19), 3) := by decide +kernel
theorem dX7_run_66 : decode cX7_run 66 = .ok (.aload_n 0, 1) := by decide +kernel
theorem dX7_run_67 : decode cX7_run 67 = .ok (.getfield 19, 3) := by decide +kernel
theorem dX7_run_70 : decode cX7_run 70 = .ok (.invokevirtual 112, 3) := by decide +kernel
theorem dX7_run_73 : decode cX7_run 73 = .ok (.ireturn, 1) := by decide +kernel
theorem dX7_undo_0 : decode cX7_undo 0 = .ok (.aload_n 0, 1) := by decide +kernel
theorem dX7_undo_1 : decode cX7_undo 1 = .ok (.getfield 46, 3) := by decide +kernel
theorem dX7_undo_4 : decode cX7_undo 4 = .ok (.aload_n 0, 1) := by decide +kernel
theorem dX7_undo_5 : decode cX7_undo 5 = .ok (.getfield 19, 3) := by decide +kernel
theorem dX7_undo_8 : decode cX7_undo 8 = .ok (.invokevirtual 260, 3) := by decide +kernel
theorem dX7_undo_11 : decode cX7_undo 11 = .ok (.ifCond .ne 5, 3) := by decide +kernel
theorem dX7_undo_14 : decode cX7_undo 14 = .ok (.iconst (-1), 1) := by decide +kernel
theorem dX7_undo_15 : decode cX7_undo 15 = .ok (.ireturn, 1) := by decide +kernel
theorem dX7_undo_16 : decode cX7_undo 16 = .ok (.aload_n 0, 1) := by decide +kernel
theorem dX7_undo_17 : decode cX7_undo 17 = .ok (.getfield 46, 3) := by decide +kernel
theorem dX7_undo_20 : decode cX7_undo 20 = .ok (.getfield 87, 3) := by decide +kernel
theorem dX7_undo_23 : decode cX7_undo 23 = .ok (.ireturn, 1) := by decide +kernel
theorem dX7_checkStation_0 : decode cX7_checkStation 0 = .ok (.iload_n 0, 1) := by decide +kernel
theorem dX7_checkStation_1 : decode cX7_checkStation 1 = .ok (.ifCond .lt 8, 3) := by decide +kernel
theorem dX7_checkStation_4 : decode cX7_checkStation 4 = .ok (.iload_n 0, 1) := by decide +kernel
theorem dX7_checkStation_5 : decode cX7_checkStation 5 = .ok (.iconst 1, 1) := by decide +kernel
theorem dX7_checkStation_6 : decode cX7_checkStation 6 = .ok (.if_icmp .le 14, 3) := by decide +kernel
theorem dX7_checkStation_9 : decode cX7_checkStation 9 = .ok (.new 144, 3) := by decide +kernel
theorem dX7_checkStation_12 : decode cX7_checkStation 12 = .ok (.dup, 1) := by decide +kernel
theorem dX7_checkStation_13 : decode cX7_checkStation 13 = .ok (.ldc_w 271, 3) := by decide +kernel
theorem dX7_checkStation_16 : decode cX7_checkStation 16 = .ok (.invokespecial 148, 3) := by decide +kernel
theorem dX7_checkStation_19 : decode cX7_checkStation 19 = .ok (.athrow, 1) := by decide +kernel
theorem dX7_checkStation_20 : decode cX7_checkStation 20 = .ok (.return_, 1) := by decide +kernel
theorem dX7_checkMany_0 : decode cX7_checkMany 0 = .ok (.iload_n 0, 1) := by decide +kernel
theorem dX7_checkMany_1 : decode cX7_checkMany 1 = .ok (.iconst 1, 1) := by decide +kernel
theorem dX7_checkMany_2 : decode cX7_checkMany 2 = .ok (.if_icmp .lt 8, 3) := by decide +kernel
theorem dX7_checkMany_5 : decode cX7_checkMany 5 = .ok (.iload_n 0, 1) := by decide +kernel
theorem dX7_checkMany_6 : decode cX7_checkMany 6 = .ok (.iload_n 1, 1) := by decide +kernel
theorem dX7_checkMany_7 : decode cX7_checkMany 7 = .ok (.if_icmp .le 14, 3) := by decide +kernel
theorem dX7_checkMany_10 : decode cX7_checkMany 10 = .ok (.new 72, 3) := by decide +kernel
theorem dX7_checkMany_13 : decode cX7_checkMany 13 = .ok (.dup, 1) := by decide +kernel
theorem dX7_checkMany_14 : decode cX7_checkMany 14 = .ok (.ldc_w 273, 3) := by decide +kernel
theorem dX7_checkMany_17 : decode cX7_checkMany 17 = .ok (.invokespecial 76, 3) := by decide +kernel
theorem dX7_checkMany_20 : decode cX7_checkMany 20 = .ok (.athrow, 1) := by decide +kernel
theorem dX7_checkMany_21 : decode cX7_checkMany 21 = .ok (.return_, 1) := by decide +kernel
