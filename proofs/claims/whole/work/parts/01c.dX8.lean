theorem dX8_init_0 : decode cX8_init 0 = .ok (.aload_n 0, 1) := by decide +kernel
theorem dX8_init_1 : decode cX8_init 1 = .ok (.invokespecial 1, 3) := by decide +kernel
theorem dX8_init_4 : decode cX8_init 4 = .ok (.aload_n 0, 1) := by decide +kernel
theorem dX8_init_5 : decode cX8_init 5 = .ok (.sipush 700, 3) := by decide +kernel
theorem dX8_init_8 : decode cX8_init 8 = .ok (.newarray .byte, 2) := by decide +kernel
theorem dX8_init_10 : decode cX8_init 10 = .ok (.putfield 7, 3) := by decide +kernel
theorem dX8_init_13 : decode cX8_init 13 = .ok (.aload_n 0, 1) := by decide +kernel
theorem dX8_init_14 : decode cX8_init 14 = .ok (.sipush 441, 3) := by decide +kernel
theorem dX8_init_17 : decode cX8_init 17 = .ok (.newarray .int, 2) := by decide +kernel
theorem dX8_init_19 : decode cX8_init 19 = .ok (.putfield 13, 3) := by decide +kernel
theorem dX8_init_22 : decode cX8_init 22 = .ok (.aload_n 0, 1) := by decide +kernel
theorem dX8_init_23 : decode cX8_init 23 = .ok (.sipush 441, 3) := by decide +kernel
theorem dX8_init_26 : decode cX8_init 26 = .ok (.newarray .int, 2) := by decide +kernel
theorem dX8_init_28 : decode cX8_init 28 = .ok (.putfield 17, 3) := by decide +kernel
theorem dX8_init_31 : decode cX8_init 31 = .ok (.aload_n 0, 1) := by decide +kernel
theorem dX8_init_32 : decode cX8_init 32 = .ok (.sipush 441, 3) := by decide +kernel
theorem dX8_init_35 : decode cX8_init 35 = .ok (.newarray .int, 2) := by decide +kernel
theorem dX8_init_37 : decode cX8_init 37 = .ok (.putfield 20, 3) := by decide +kernel
theorem dX8_init_40 : decode cX8_init 40 = .ok (.aload_n 0, 1) := by decide +kernel
theorem dX8_init_41 : decode cX8_init 41 = .ok (.sipush 4410, 3) := by decide +kernel
theorem dX8_init_44 : decode cX8_init 44 = .ok (.newarray .int, 2) := by decide +kernel
theorem dX8_init_46 : decode cX8_init 46 = .ok (.putfield 23, 3) := by decide +kernel
theorem dX8_init_49 : decode cX8_init 49 = .ok (.aload_n 0, 1) := by decide +kernel
theorem dX8_init_50 : decode cX8_init 50 = .ok (.sipush 882, 3) := by decide +kernel
theorem dX8_init_53 : decode cX8_init 53 = .ok (.newarray .int, 2) := by decide +kernel
theorem dX8_init_55 : decode cX8_init 55 = .ok (.putfield 26, 3) := by decide +kernel
theorem dX8_init_58 : decode cX8_init 58 = .ok (.aload_n 0, 1) := by decide +kernel
theorem dX8_init_59 : decode cX8_init 59 = .ok (.iconst 2, 1) := by decide +kernel
theorem dX8_init_60 : decode cX8_init 60 = .ok (.newarray .boolean, 2) := by decide +kernel
theorem dX8_init_62 : decode cX8_init 62 = .ok (.putfield 29, 3) := by decide +kernel
theorem dX8_init_65 : decode cX8_init 65 = .ok (.aload_n 0, 1) := by decide +kernel
theorem dX8_init_66 : decode cX8_init 66 = .ok (.bipush 15, 2) := by decide +kernel
theorem dX8_init_68 : decode cX8_init 68 = .ok (.newarray .int, 2) := by decide +kernel
theorem dX8_init_70 : decode cX8_init 70 = .ok (.putfield 33, 3) := by decide +kernel
theorem dX8_init_73 : decode cX8_init 73 = .ok (.aload_n 0, 1) := by decide +kernel
theorem dX8_init_74 : decode cX8_init 74 = .ok (.bipush 40, 2) := by decide +kernel
theorem dX8_init_76 : decode cX8_init 76 = .ok (.newarray .int, 2) := by decide +kernel
theorem dX8_init_78 : decode cX8_init 78 = .ok (.putfield 36, 3) := by decide +kernel
theorem dX8_init_81 : decode cX8_init 81 = .ok (.aload_n 0, 1) := by decide +kernel
theorem dX8_init_82 : decode cX8_init 82 = .ok (.invokevirtual 39, 3) := by decide +kernel
theorem dX8_init_85 : decode cX8_init 85 = .ok (.aload_n 0, 1) := by decide +kernel
theorem dX8_init_86 : decode cX8_init 86 = .ok (.getfield 13, 3) := by decide +kernel
theorem dX8_init_89 : decode cX8_init 89 = .ok (.iconst 4, 1) := by decide +kernel
theorem dX8_init_90 : decode cX8_init 90 = .ok (.iconst 3, 1) := by decide +kernel
theorem dX8_init_91 : decode cX8_init 91 = .ok (.iastore, 1) := by decide +kernel
theorem dX8_init_92 : decode cX8_init 92 = .ok (.aload_n 0, 1) := by decide +kernel
theorem dX8_init_93 : decode cX8_init 93 = .ok (.getfield 13, 3) := by decide +kernel
theorem dX8_init_96 : decode cX8_init 96 = .ok (.iconst 5, 1) := by decide +kernel
theorem dX8_init_97 : decode cX8_init 97 = .ok (.bipush 20, 2) := by decide +kernel
theorem dX8_init_99 : decode cX8_init 99 = .ok (.iastore, 1) := by decide +kernel
theorem dX8_init_100 : decode cX8_init 100 = .ok (.aload_n 0, 1) := by decide +kernel
theorem dX8_init_101 : decode cX8_init 101 = .ok (.invokevirtual 42, 3) := by decide +kernel
theorem dX8_init_104 : decode cX8_init 104 = .ok (.return_, 1) := by decide +kernel
theorem dX8_thrown_0 : decode cX8_thrown 0 = .ok (.aload_n 0, 1) := by decide +kernel
theorem dX8_thrown_1 : decode cX8_thrown 1 = .ok (.getfield 45, 3) := by decide +kernel
theorem dX8_thrown_4 : decode cX8_thrown 4 = .ok (.ireturn, 1) := by decide +kernel
theorem dX8_within_0 : decode cX8_within 0 = .ok (.iload_n 0, 1) := by decide +kernel
theorem dX8_within_1 : decode cX8_within 1 = .ok (.iload_n 1, 1) := by decide +kernel
theorem dX8_within_2 : decode cX8_within 2 = .ok (.if_icmp .lt 12, 3) := by decide +kernel
theorem dX8_within_5 : decode cX8_within 5 = .ok (.iload_n 0, 1) := by decide +kernel
theorem dX8_within_6 : decode cX8_within 6 = .ok (.iload_n 2, 1) := by decide +kernel
theorem dX8_within_7 : decode cX8_within 7 = .ok (.if_icmp .gt 7, 3) := by decide +kernel
theorem dX8_within_10 : decode cX8_within 10 = .ok (.iconst 1, 1) := by decide +kernel
theorem dX8_within_11 : decode cX8_within 11 = .ok (.goto 4, 3) := by decide +kernel
theorem dX8_within_14 : decode cX8_within 14 = .ok (.iconst 0, 1) := by decide +kernel
theorem dX8_within_15 : decode cX8_within 15 = .ok (.ireturn, 1) := by decide +kernel
theorem dX8_fail_0 : decode cX8_fail 0 = .ok (.aload_n 0, 1) := by decide +kernel
theorem dX8_fail_1 : decode cX8_fail 1 = .ok (.iload_n 1, 1) := by decide +kernel
theorem dX8_fail_2 : decode cX8_fail 2 = .ok (.putfield 45, 3) := by decide +kernel
theorem dX8_fail_5 : decode cX8_fail 5 = .ok (.iconst 0, 1) := by decide +kernel
theorem dX8_fail_6 : decode cX8_fail 6 = .ok (.ireturn, 1) := by decide +kernel
theorem dX8_appendInt_0 : decode cX8_appendInt 0 = .ok (.bipush 24, 2) := by decide +kernel
theorem dX8_appendInt_2 : decode cX8_appendInt 2 = .ok (.istore_n 2, 1) := by decide +kernel
theorem dX8_appendInt_3 : decode cX8_appendInt 3 = .ok (.iload_n 2, 1) := by decide +kernel
theorem dX8_appendInt_4 : decode cX8_appendInt 4 = .ok (.ifCond .lt 32, 3) := by decide +kernel
theorem dX8_appendInt_7 : decode cX8_appendInt 7 = .ok (.aload_n 0, 1) := by decide +kernel
theorem dX8_appendInt_8 : decode cX8_appendInt 8 = .ok (.getfield 7, 3) := by decide +kernel
theorem dX8_appendInt_11 : decode cX8_appendInt 11 = .ok (.aload_n 0, 1) := by decide +kernel
theorem dX8_appendInt_12 : decode cX8_appendInt 12 = .ok (.getfield 49, 3) := by decide +kernel
theorem dX8_appendInt_15 : decode cX8_appendInt 15 = .ok (.iload_n 1, 1) := by decide +kernel
theorem dX8_appendInt_16 : decode cX8_appendInt 16 = .ok (.iload_n 2, 1) := by decide +kernel
theorem dX8_appendInt_17 : decode cX8_appendInt 17 = .ok (.ishr, 1) := by decide +kernel
theorem dX8_appendInt_18 : decode cX8_appendInt 18 = .ok (.i2b, 1) := by decide +kernel
theorem dX8_appendInt_19 : decode cX8_appendInt 19 = .ok (.bastore, 1) := by decide +kernel
theorem dX8_appendInt_20 : decode cX8_appendInt 20 = .ok (.aload_n 0, 1) := by decide +kernel
theorem dX8_appendInt_21 : decode cX8_appendInt 21 = .ok (.dup, 1) := by decide +kernel
theorem dX8_appendInt_22 : decode cX8_appendInt 22 = .ok (.getfield 49, 3) := by decide +kernel
theorem dX8_appendInt_25 : decode cX8_appendInt 25 = .ok (.iconst 1, 1) := by decide +kernel
theorem dX8_appendInt_26 : decode cX8_appendInt 26 = .ok (.iadd, 1) := by decide +kernel
theorem dX8_appendInt_27 : decode cX8_appendInt 27 = .ok (.putfield 49, 3) := by decide +kernel
theorem dX8_appendInt_30 : decode cX8_appendInt 30 = .ok (.iinc 2 (-8), 3) := by decide +kernel
theorem dX8_appendInt_33 : decode cX8_appendInt 33 = .ok (.goto (-30), 3) := by decide +kernel
theorem dX8_appendInt_36 : decode cX8_appendInt 36 = .ok (.return_, 1) := by decide +kernel
theorem dX8_append_0 : decode cX8_append 0 = .ok (.aload_n 0, 1) := by decide +kernel
theorem dX8_append_1 : decode cX8_append 1 = .ok (.iconst 0, 1) := by decide +kernel
theorem dX8_append_2 : decode cX8_append 2 = .ok (.putfield 45, 3) := by decide +kernel
theorem dX8_append_5 : decode cX8_append 5 = .ok (.aload_n 0, 1) := by decide +kernel
theorem dX8_append_6 : decode cX8_append 6 = .ok (.getfield 49, 3) := by decide +kernel
theorem dX8_append_9 : decode cX8_append 9 = .ok (.bipush 20, 2) := by decide +kernel
theorem dX8_append_11 : decode cX8_append 11 = .ok (.iadd, 1) := by decide +kernel
theorem dX8_append_12 : decode cX8_append 12 = .ok (.sipush 700, 3) := by decide +kernel
theorem dX8_append_15 : decode cX8_append 15 = .ok (.if_icmp .le 5, 3) := by decide +kernel
theorem dX8_append_18 : decode cX8_append 18 = .ok (.iconst (-1), 1) := by decide +kernel
theorem dX8_append_19 : decode cX8_append 19 = .ok (.ireturn, 1) := by decide +kernel
theorem dX8_append_20 : decode cX8_append 20 = .ok (.aload_n 0, 1) := by decide +kernel
theorem dX8_append_21 : decode cX8_append 21 = .ok (.iload_n 1, 1) := by decide +kernel
theorem dX8_append_22 : decode cX8_append 22 = .ok (.invokevirtual 52, 3) := by decide +kernel
theorem dX8_append_25 : decode cX8_append 25 = .ok (.aload_n 0, 1) := by decide +kernel
theorem dX8_append_26 : decode cX8_append 26 = .ok (.iload_n 2, 1) := by decide +kernel
theorem dX8_append_27 : decode cX8_append 27 = .ok (.invokevirtual 52, 3) := by decide +kernel
theorem dX8_append_30 : decode cX8_append 30 = .ok (.aload_n 0, 1) := by decide +kernel
theorem dX8_append_31 : decode cX8_append 31 = .ok (.iload_n 3, 1) := by decide +kernel
theorem dX8_append_32 : decode cX8_append 32 = .ok (.invokevirtual 52, 3) := by decide +kernel
theorem dX8_append_35 : decode cX8_append 35 = .ok (.aload_n 0, 1) := by decide +kernel
theorem dX8_append_36 : decode cX8_append 36 = .ok (.iload 4, 2) := by decide +kernel
theorem dX8_append_38 : decode cX8_append 38 = .ok (.invokevirtual 52, 3) := by decide +kernel
theorem dX8_append_41 : decode cX8_append 41 = .ok (.aload_n 0, 1) := by decide +kernel
theorem dX8_append_42 : decode cX8_append 42 = .ok (.iload 5, 2) := by decide +kernel
theorem dX8_append_44 : decode cX8_append 44 = .ok (.invokevirtual 52, 3) := by decide +kernel
theorem dX8_append_47 : decode cX8_append 47 = .ok (.aload_n 0, 1) := by decide +kernel
theorem dX8_append_48 : decode cX8_append 48 = .ok (.getfield 49, 3) := by decide +kernel
theorem dX8_append_51 : decode cX8_append 51 = .ok (.ireturn, 1) := by decide +kernel
theorem dX8_byteAt_0 : decode cX8_byteAt 0 = .ok (.iload_n 1, 1) := by decide +kernel
theorem dX8_byteAt_1 : decode cX8_byteAt 1 = .ok (.aload_n 0, 1) := by decide +kernel
theorem dX8_byteAt_2 : decode cX8_byteAt 2 = .ok (.getfield 56, 3) := by decide +kernel
theorem dX8_byteAt_5 : decode cX8_byteAt 5 = .ok (.if_icmp .ge 16, 3) := by decide +kernel
theorem dX8_byteAt_8 : decode cX8_byteAt 8 = .ok (.aload_n 0, 1) := by decide +kernel
theorem dX8_byteAt_9 : decode cX8_byteAt 9 = .ok (.getfield 7, 3) := by decide +kernel
theorem dX8_byteAt_12 : decode cX8_byteAt 12 = .ok (.iload_n 1, 1) := by decide +kernel
theorem dX8_byteAt_13 : decode cX8_byteAt 13 = .ok (.baload, 1) := by decide +kernel
theorem dX8_byteAt_14 : decode cX8_byteAt 14 = .ok (.sipush 255, 3) := by decide +kernel
theorem dX8_byteAt_17 : decode cX8_byteAt 17 = .ok (.iand, 1) := by decide +kernel
theorem dX8_byteAt_18 : decode cX8_byteAt 18 = .ok (.goto 4, 3) := by decide +kernel
theorem dX8_byteAt_21 : decode cX8_byteAt 21 = .ok (.iconst (-1), 1) := by decide +kernel
theorem dX8_byteAt_22 : decode cX8_byteAt 22 = .ok (.ireturn, 1) := by decide +kernel
theorem dX8_nextToken_0 : decode cX8_nextToken 0 = .ok (.aload_n 0, 1) := by decide +kernel
theorem dX8_nextToken_1 : decode cX8_nextToken 1 = .ok (.aload_n 0, 1) := by decide +kernel
theorem dX8_nextToken_2 : decode cX8_nextToken 2 = .ok (.getfield 59, 3) := by decide +kernel
theorem dX8_nextToken_5 : decode cX8_nextToken 5 = .ok (.putfield 62, 3) := by decide +kernel
theorem dX8_nextToken_8 : decode cX8_nextToken 8 = .ok (.aload_n 0, 1) := by decide +kernel
theorem dX8_nextToken_9 : decode cX8_nextToken 9 = .ok (.aload_n 0, 1) := by decide +kernel
theorem dX8_nextToken_10 : decode cX8_nextToken 10 = .ok (.getfield 62, 3) := by decide +kernel
theorem dX8_nextToken_13 : decode cX8_nextToken 13 = .ok (.invokevirtual 65, 3) := by decide +kernel
theorem dX8_nextToken_16 : decode cX8_nextToken 16 = .ok (.bipush 32, 2) := by decide +kernel
theorem dX8_nextToken_18 : decode cX8_nextToken 18 = .ok (.if_icmp .eq 16, 3) := by decide +kernel
theorem dX8_nextToken_21 : decode cX8_nextToken 21 = .ok (.aload_n 0, 1) := by decide +kernel
theorem dX8_nextToken_22 : decode cX8_nextToken 22 = .ok (.aload_n 0, 1) := by decide +kernel
theorem dX8_nextToken_23 : decode cX8_nextToken 23 = .ok (.getfield 62, 3) := by decide +kernel
theorem dX8_nextToken_26 : decode cX8_nextToken 26 = .ok (.invokevirtual 65, 3) := by decide +kernel
theorem dX8_nextToken_29 : decode cX8_nextToken 29 = .ok (.bipush 10, 2) := by decide +kernel
theorem dX8_nextToken_31 : decode cX8_nextToken 31 = .ok (.if_icmp .ne 16, 3) := by decide +kernel
theorem dX8_nextToken_34 : decode cX8_nextToken 34 = .ok (.aload_n 0, 1) := by decide +kernel
theorem dX8_nextToken_35 : decode cX8_nextToken 35 = .ok (.dup, 1) := by decide +kernel
theorem dX8_nextToken_36 : decode cX8_nextToken 36 = .ok (.getfield 62, 3) := by decide +kernel
theorem dX8_nextToken_39 : decode cX8_nextToken 39 = .ok (.iconst 1, 1) := by decide +kernel
theorem dX8_nextToken_40 : decode cX8_nextToken 40 = .ok (.iadd, 1) := by decide +kernel
theorem dX8_nextToken_41 : decode cX8_nextToken 41 = .ok (.putfield 62, 3) := by decide +kernel
theorem dX8_nextToken_44 : decode cX8_nextToken 44 = .ok (.goto (-36), 3) := by decide +kernel
theorem dX8_nextToken_47 : decode cX8_nextToken 47 = .ok (.aload_n 0, 1) := by decide +kernel
theorem dX8_nextToken_48 : decode cX8_nextToken 48 = .ok (.aload_n 0, 1) := by decide +kernel
theorem dX8_nextToken_49 : decode cX8_nextToken 49 = .ok (.getfield 62, 3) := by decide +kernel
theorem dX8_nextToken_52 : decode cX8_nextToken 52 = .ok (.invokevirtual 65, 3) := by decide +kernel
theorem dX8_nextToken_55 : decode cX8_nextToken 55 = .ok (.istore_n 1, 1) := by decide +kernel
theorem dX8_nextToken_56 : decode cX8_nextToken 56 = .ok (.aload_n 0, 1) := by decide +kernel
theorem dX8_nextToken_57 : decode cX8_nextToken 57 = .ok (.aload_n 0, 1) := by decide +kernel
theorem dX8_nextToken_58 : decode cX8_nextToken 58 = .ok (.getfield 62, 3) := by decide +kernel
theorem dX8_nextToken_61 : decode cX8_nextToken 61 = .ok (.putfield 59, 3) := by decide +kernel
theorem dX8_nextToken_64 : decode cX8_nextToken 64 = .ok (.aload_n 0, 1) := by decide +kernel
theorem dX8_nextToken_65 : decode cX8_nextToken 65 = .ok (.iconst 4, 1) := by decide +kernel
theorem dX8_nextToken_66 : decode cX8_nextToken 66 = .ok (.putfield 69, 3) := by decide +kernel
theorem dX8_nextToken_69 : decode cX8_nextToken 69 = .ok (.iload_n 1, 1) := by decide +kernel
theorem dX8_nextToken_70 : decode cX8_nextToken 70 = .ok (.iconst (-1), 1) := by decide +kernel
theorem dX8_nextToken_71 : decode cX8_nextToken 71 = .ok (.if_icmp .ne 11, 3) := by decide +kernel
theorem dX8_nextToken_74 : decode cX8_nextToken 74 = .ok (.aload_n 0, 1) := by decide +kernel
theorem dX8_nextToken_75 : decode cX8_nextToken 75 = .ok (.iconst 0, 1) := by decide +kernel
theorem dX8_nextToken_76 : decode cX8_nextToken 76 = .ok (.putfield 69, 3) := by decide +kernel
theorem dX8_nextToken_79 : decode cX8_nextToken 79 = .ok (.goto 211, 3) := by decide +kernel
theorem dX8_nextToken_82 : decode cX8_nextToken 82 = .ok (.iload_n 1, 1) := by decide +kernel
theorem dX8_nextToken_83 : decode cX8_nextToken 83 = .ok (.bipush 97, 2) := by decide +kernel
theorem dX8_nextToken_85 : decode cX8_nextToken 85 = .ok (.bipush 122, 2) := by decide +kernel
theorem dX8_nextToken_87 : decode cX8_nextToken 87 = .ok (.invokestatic 72, 3) := by decide +kernel
theorem dX8_nextToken_90 : decode cX8_nextToken 90 = .ok (.ifCond .eq 60, 3) := by decide +kernel
theorem dX8_nextToken_93 : decode cX8_nextToken 93 = .ok (.aload_n 0, 1) := by decide +kernel
theorem dX8_nextToken_94 : decode cX8_nextToken 94 = .ok (.aload_n 0, 1) := by decide +kernel
theorem dX8_nextToken_95 : decode cX8_nextToken 95 = .ok (.getfield 59, 3) := by decide +kernel
theorem dX8_nextToken_98 : decode cX8_nextToken 98 = .ok (.invokevirtual 65, 3) := by decide +kernel
theorem dX8_nextToken_101 : decode cX8_nextToken 101 = .ok (.bipush 97, 2) := by decide +kernel
theorem dX8_nextToken_103 : decode cX8_nextToken 103 = .ok (.bipush 122, 2) := by decide +kernel
theorem dX8_nextToken_105 : decode cX8_nextToken 105 = .ok (.invokestatic 72, 3) := by decide +kernel
theorem dX8_nextToken_108 : decode cX8_nextToken 108 = .ok (.ifCond .eq 16, 3) := by decide +kernel
theorem dX8_nextToken_111 : decode cX8_nextToken 111 = .ok (.aload_n 0, 1) := by decide +kernel
theorem dX8_nextToken_112 : decode cX8_nextToken 112 = .ok (.dup, 1) := by decide +kernel
theorem dX8_nextToken_113 : decode cX8_nextToken 113 = .ok (.getfield 59, 3) := by decide +kernel
theorem dX8_nextToken_116 : decode cX8_nextToken 116 = .ok (.iconst 1, 1) := by decide +kernel
theorem dX8_nextToken_117 : decode cX8_nextToken 117 = .ok (.iadd, 1) := by decide +kernel
theorem dX8_nextToken_118 : decode cX8_nextToken 118 = .ok (.putfield 59, 3) := by decide +kernel
theorem dX8_nextToken_121 : decode cX8_nextToken 121 = .ok (.goto (-28), 3) := by decide +kernel
theorem dX8_nextToken_124 : decode cX8_nextToken 124 = .ok (.aload_n 0, 1) := by decide +kernel
theorem dX8_nextToken_125 : decode cX8_nextToken 125 = .ok (.aload_n 0, 1) := by decide +kernel
theorem dX8_nextToken_126 : decode cX8_nextToken 126 = .ok (.getfield 59, 3) := by decide +kernel
theorem dX8_nextToken_129 : decode cX8_nextToken 129 = .ok (.aload_n 0, 1) := by decide +kernel
theorem dX8_nextToken_130 : decode cX8_nextToken 130 = .ok (.getfield 62, 3) := by decide +kernel
theorem dX8_nextToken_133 : decode cX8_nextToken 133 = .ok (.isub, 1) := by decide +kernel
theorem dX8_nextToken_134 : decode cX8_nextToken 134 = .ok (.bipush 8, 2) := by decide +kernel
theorem dX8_nextToken_136 : decode cX8_nextToken 136 = .ok (.if_icmp .le 7, 3) := by decide +kernel
theorem dX8_nextToken_139 : decode cX8_nextToken 139 = .ok (.iconst 4, 1) := by decide +kernel
theorem dX8_nextToken_140 : decode cX8_nextToken 140 = .ok (.goto 4, 3) := by decide +kernel
theorem dX8_nextToken_143 : decode cX8_nextToken 143 = .ok (.iconst 1, 1) := by decide +kernel
theorem dX8_nextToken_144 : decode cX8_nextToken 144 = .ok (.putfield 69, 3) := by decide +kernel
theorem dX8_nextToken_147 : decode cX8_nextToken 147 = .ok (.goto 143, 3) := by decide +kernel
theorem dX8_nextToken_150 : decode cX8_nextToken 150 = .ok (.iload_n 1, 1) := by decide +kernel
theorem dX8_nextToken_151 : decode cX8_nextToken 151 = .ok (.bipush 48, 2) := by decide +kernel
theorem dX8_nextToken_153 : decode cX8_nextToken 153 = .ok (.bipush 57, 2) := by decide +kernel
theorem dX8_nextToken_155 : decode cX8_nextToken 155 = .ok (.invokestatic 72, 3) := by decide +kernel
theorem dX8_nextToken_158 : decode cX8_nextToken 158 = .ok (.ifCond .eq 107, 3) := by decide +kernel
theorem dX8_nextToken_161 : decode cX8_nextToken 161 = .ok (.aload_n 0, 1) := by decide +kernel
theorem dX8_nextToken_162 : decode cX8_nextToken 162 = .ok (.iconst 0, 1) := by decide +kernel
theorem dX8_nextToken_163 : decode cX8_nextToken 163 = .ok (.putfield 76, 3) := by decide +kernel
theorem dX8_nextToken_166 : decode cX8_nextToken 166 = .ok (.aload_n 0, 1) := by decide +kernel
theorem dX8_nextToken_167 : decode cX8_nextToken 167 = .ok (.aload_n 0, 1) := by decide +kernel
theorem dX8_nextToken_168 : decode cX8_nextToken 168 = .ok (.getfield 59, 3) := by decide +kernel
theorem dX8_nextToken_171 : decode cX8_nextToken 171 = .ok (.invokevirtual 65, 3) := by decide +kernel
theorem dX8_nextToken_174 : decode cX8_nextToken 174 = .ok (.bipush 48, 2) := by decide +kernel
theorem dX8_nextToken_176 : decode cX8_nextToken 176 = .ok (.bipush 57, 2) := by decide +kernel
theorem dX8_nextToken_178 : decode cX8_nextToken 178 = .ok (.invokestatic 72, 3) := by decide +kernel
theorem dX8_nextToken_181 : decode cX8_nextToken 181 = .ok (.ifCond .eq 59, 3) := by decide +kernel
theorem dX8_nextToken_184 : decode cX8_nextToken 184 = .ok (.aload_n 0, 1) := by decide +kernel
theorem dX8_nextToken_185 : decode cX8_nextToken 185 = .ok (.aload_n 0, 1) := by decide +kernel
theorem dX8_nextToken_186 : decode cX8_nextToken 186 = .ok (.getfield 59, 3) := by decide +kernel
theorem dX8_nextToken_189 : decode cX8_nextToken 189 = .ok (.aload_n 0, 1) := by decide +kernel
theorem dX8_nextToken_190 : decode cX8_nextToken 190 = .ok (.getfield 62, 3) := by decide +kernel
theorem dX8_nextToken_193 : decode cX8_nextToken 193 = .ok (.isub, 1) := by decide +kernel
theorem dX8_nextToken_194 : decode cX8_nextToken 194 = .ok (.iconst 3, 1) := by decide +kernel
theorem dX8_nextToken_195 : decode cX8_nextToken 195 = .ok (.if_icmp .ge 25, 3) := by decide +kernel
theorem dX8_nextToken_198 : decode cX8_nextToken 198 = .ok (.bipush 10, 2) := by decide +kernel
theorem dX8_nextToken_200 : decode cX8_nextToken 200 = .ok (.aload_n 0, 1) := by decide +kernel
theorem dX8_nextToken_201 : decode cX8_nextToken 201 = .ok (.getfield 76, 3) := by decide +kernel
theorem dX8_nextToken_204 : decode cX8_nextToken 204 = .ok (.imul, 1) := by decide +kernel
theorem dX8_nextToken_205 : decode cX8_nextToken 205 = .ok (.aload_n 0, 1) := by decide +kernel
theorem dX8_nextToken_206 : decode cX8_nextToken 206 = .ok (.aload_n 0, 1) := by decide +kernel
theorem dX8_nextToken_207 : decode cX8_nextToken 207 = .ok (.getfield 59, 3) := by decide +kernel
theorem dX8_nextToken_210 : decode cX8_nextToken 210 = .ok (.invokevirtual 65, 3) := by decide +kernel
theorem dX8_nextToken_213 : decode cX8_nextToken 213 = .ok (.iadd, 1) := by decide +kernel
theorem dX8_nextToken_214 : decode cX8_nextToken 214 = .ok (.bipush 48, 2) := by decide +kernel
theorem dX8_nextToken_216 : decode cX8_nextToken 216 = .ok (.isub, 1) := by decide +kernel
theorem dX8_nextToken_217 : decode cX8_nextToken 217 = .ok (.goto 7, 3) := by decide +kernel
theorem dX8_nextToken_220 : decode cX8_nextToken 220 = .ok (.aload_n 0, 1) := by decide +kernel
theorem dX8_nextToken_221 : decode cX8_nextToken 221 = .ok (.getfield 76, 3) := by decide +kernel
theorem dX8_nextToken_224 : decode cX8_nextToken 224 = .ok (.putfield 76, 3) := by decide +kernel
theorem dX8_nextToken_227 : decode cX8_nextToken 227 = .ok (.aload_n 0, 1) := by decide +kernel
theorem dX8_nextToken_228 : decode cX8_nextToken 228 = .ok (.dup, 1) := by decide +kernel
theorem dX8_nextToken_229 : decode cX8_nextToken 229 = .ok (.getfield 59, 3) := by decide +kernel
theorem dX8_nextToken_232 : decode cX8_nextToken 232 = .ok (.iconst 1, 1) := by decide +kernel
theorem dX8_nextToken_233 : decode cX8_nextToken 233 = .ok (.iadd, 1) := by decide +kernel
theorem dX8_nextToken_234 : decode cX8_nextToken 234 = .ok (.putfield 59, 3) := by decide +kernel
theorem dX8_nextToken_237 : decode cX8_nextToken 237 = .ok (.goto (-71), 3) := by decide +kernel
theorem dX8_nextToken_240 : decode cX8_nextToken 240 = .ok (.aload_n 0, 1) := by decide +kernel
theorem dX8_nextToken_241 : decode cX8_nextToken 241 = .ok (.aload_n 0, 1) := by decide +kernel
theorem dX8_nextToken_242 : decode cX8_nextToken 242 = .ok (.getfield 59, 3) := by decide +kernel
theorem dX8_nextToken_245 : decode cX8_nextToken 245 = .ok (.aload_n 0, 1) := by decide +kernel
theorem dX8_nextToken_246 : decode cX8_nextToken 246 = .ok (.getfield 62, 3) := by decide +kernel
theorem dX8_nextToken_249 : decode cX8_nextToken 249 = .ok (.isub, 1) := by decide +kernel
theorem dX8_nextToken_250 : decode cX8_nextToken 250 = .ok (.iconst 3, 1) := by decide +kernel
theorem dX8_nextToken_251 : decode cX8_nextToken 251 = .ok (.if_icmp .le 7, 3) := by decide +kernel
theorem dX8_nextToken_254 : decode cX8_nextToken 254 = .ok (.iconst 4, 1) := by decide +kernel
theorem dX8_nextToken_255 : decode cX8_nextToken 255 = .ok (.goto 4, 3) := by decide +kernel
theorem dX8_nextToken_258 : decode cX8_nextToken 258 = .ok (.iconst 2, 1) := by decide +kernel
theorem dX8_nextToken_259 : decode cX8_nextToken 259 = .ok (.putfield 69, 3) := by decide +kernel
theorem dX8_nextToken_262 : decode cX8_nextToken 262 = .ok (.goto 28, 3) := by decide +kernel
theorem dX8_nextToken_265 : decode cX8_nextToken 265 = .ok (.aload_n 0, 1) := by decide +kernel
theorem dX8_nextToken_266 : decode cX8_nextToken 266 = .ok (.dup, 1) := by decide +kernel
theorem dX8_nextToken_267 : decode cX8_nextToken 267 = .ok (.getfield 59, 3) := by decide +kernel
theorem dX8_nextToken_270 : decode cX8_nextToken 270 = .ok (.iconst 1, 1) := by decide +kernel
theorem dX8_nextToken_271 : decode cX8_nextToken 271 = .ok (.iadd, 1) := by decide +kernel
theorem dX8_nextToken_272 : decode cX8_nextToken 272 = .ok (.putfield 59, 3) := by decide +kernel
theorem dX8_nextToken_275 : decode cX8_nextToken 275 = .ok (.aload_n 0, 1) := by decide +kernel
theorem dX8_nextToken_276 : decode cX8_nextToken 276 = .ok (.iload_n 1, 1) := by decide +kernel
theorem dX8_nextToken_277 : decode cX8_nextToken 277 = .ok (.bipush 59, 2) := by decide +kernel
theorem dX8_nextToken_279 : decode cX8_nextToken 279 = .ok (.if_icmp .ne 7, 3) := by decide +kernel
theorem dX8_nextToken_282 : decode cX8_nextToken 282 = .ok (.iconst 3, 1) := by decide +kernel
theorem dX8_nextToken_283 : decode cX8_nextToken 283 = .ok (.goto 4, 3) := by decide +kernel
theorem dX8_nextToken_286 : decode cX8_nextToken 286 = .ok (.iconst 4, 1) := by decide +kernel
theorem dX8_nextToken_287 : decode cX8_nextToken 287 = .ok (.putfield 69, 3) := by decide +kernel
theorem dX8_nextToken_290 : decode cX8_nextToken 290 = .ok (.return_, 1) := by decide +kernel
theorem dX8_must_0 : decode cX8_must 0 = .ok (.aload_n 0, 1) := by decide +kernel
theorem dX8_must_1 : decode cX8_must 1 = .ok (.getfield 79, 3) := by decide +kernel
theorem dX8_must_4 : decode cX8_must 4 = .ok (.ifCond .ne 20, 3) := by decide +kernel
theorem dX8_must_7 : decode cX8_must 7 = .ok (.iload_n 1, 1) := by decide +kernel
theorem dX8_must_8 : decode cX8_must 8 = .ok (.ifCond .ne 16, 3) := by decide +kernel
theorem dX8_must_11 : decode cX8_must 11 = .ok (.aload_n 0, 1) := by decide +kernel
theorem dX8_must_12 : decode cX8_must 12 = .ok (.iload_n 2, 1) := by decide +kernel
theorem dX8_must_13 : decode cX8_must 13 = .ok (.putfield 79, 3) := by decide +kernel
theorem dX8_must_16 : decode cX8_must 16 = .ok (.aload_n 0, 1) := by decide +kernel
theorem dX8_must_17 : decode cX8_must 17 = .ok (.aload_n 0, 1) := by decide +kernel
theorem dX8_must_18 : decode cX8_must 18 = .ok (.getfield 62, 3) := by decide +kernel
theorem dX8_must_21 : decode cX8_must 21 = .ok (.putfield 82, 3) := by decide +kernel
theorem dX8_must_24 : decode cX8_must 24 = .ok (.aload_n 0, 1) := by decide +kernel
theorem dX8_must_25 : decode cX8_must 25 = .ok (.getfield 79, 3) := by decide +kernel
theorem dX8_must_28 : decode cX8_must 28 = .ok (.ifCond .ne 7, 3) := by decide +kernel
theorem dX8_must_31 : decode cX8_must 31 = .ok (.iconst 1, 1) := by decide +kernel
theorem dX8_must_32 : decode cX8_must 32 = .ok (.goto 4, 3) := by decide +kernel
theorem dX8_must_35 : decode cX8_must 35 = .ok (.iconst 0, 1) := by decide +kernel
theorem dX8_must_36 : decode cX8_must 36 = .ok (.ireturn, 1) := by decide +kernel
theorem dX8_isWord_0 : decode cX8_isWord 0 = .ok (.aload_n 0, 1) := by decide +kernel
theorem dX8_isWord_1 : decode cX8_isWord 1 = .ok (.getfield 79, 3) := by decide +kernel
theorem dX8_isWord_4 : decode cX8_isWord 4 = .ok (.ifCond .ne 31, 3) := by decide +kernel
theorem dX8_isWord_7 : decode cX8_isWord 7 = .ok (.aload_n 0, 1) := by decide +kernel
theorem dX8_isWord_8 : decode cX8_isWord 8 = .ok (.getfield 69, 3) := by decide +kernel
theorem dX8_isWord_11 : decode cX8_isWord 11 = .ok (.iconst 1, 1) := by decide +kernel
theorem dX8_isWord_12 : decode cX8_isWord 12 = .ok (.if_icmp .ne 23, 3) := by decide +kernel
theorem dX8_isWord_15 : decode cX8_isWord 15 = .ok (.aload_n 0, 1) := by decide +kernel
theorem dX8_isWord_16 : decode cX8_isWord 16 = .ok (.getfield 59, 3) := by decide +kernel
theorem dX8_isWord_19 : decode cX8_isWord 19 = .ok (.aload_n 0, 1) := by decide +kernel
theorem dX8_isWord_20 : decode cX8_isWord 20 = .ok (.getfield 62, 3) := by decide +kernel
theorem dX8_isWord_23 : decode cX8_isWord 23 = .ok (.isub, 1) := by decide +kernel
theorem dX8_isWord_24 : decode cX8_isWord 24 = .ok (.aload_n 1, 1) := by decide +kernel
theorem dX8_isWord_25 : decode cX8_isWord 25 = .ok (.invokevirtual 85, 3) := by decide +kernel
theorem dX8_isWord_28 : decode cX8_isWord 28 = .ok (.if_icmp .ne 7, 3) := by decide +kernel
theorem dX8_isWord_31 : decode cX8_isWord 31 = .ok (.iconst 1, 1) := by decide +kernel
theorem dX8_isWord_32 : decode cX8_isWord 32 = .ok (.goto 4, 3) := by decide +kernel
theorem dX8_isWord_35 : decode cX8_isWord 35 = .ok (.iconst 0, 1) := by decide +kernel
theorem dX8_isWord_36 : decode cX8_isWord 36 = .ok (.istore_n 2, 1) := by decide +kernel
theorem dX8_isWord_37 : decode cX8_isWord 37 = .ok (.iconst 0, 1) := by decide +kernel
theorem dX8_isWord_38 : decode cX8_isWord 38 = .ok (.istore_n 3, 1) := by decide +kernel
theorem dX8_isWord_39 : decode cX8_isWord 39 = .ok (.iload_n 3, 1) := by decide +kernel
theorem dX8_isWord_40 : decode cX8_isWord 40 = .ok (.aload_n 1, 1) := by decide +kernel
theorem dX8_isWord_41 : decode cX8_isWord 41 = .ok (.invokevirtual 85, 3) := by decide +kernel
theorem dX8_isWord_44 : decode cX8_isWord 44 = .ok (.if_icmp .ge 38, 3) := by decide +kernel
theorem dX8_isWord_47 : decode cX8_isWord 47 = .ok (.iload_n 2, 1) := by decide +kernel
theorem dX8_isWord_48 : decode cX8_isWord 48 = .ok (.ifCond .eq 34, 3) := by decide +kernel
theorem dX8_isWord_51 : decode cX8_isWord 51 = .ok (.aload_n 0, 1) := by decide +kernel
theorem dX8_isWord_52 : decode cX8_isWord 52 = .ok (.getfield 7, 3) := by decide +kernel
theorem dX8_isWord_55 : decode cX8_isWord 55 = .ok (.aload_n 0, 1) := by decide +kernel
theorem dX8_isWord_56 : decode cX8_isWord 56 = .ok (.getfield 62, 3) := by decide +kernel
theorem dX8_isWord_59 : decode cX8_isWord 59 = .ok (.iload_n 3, 1) := by decide +kernel
theorem dX8_isWord_60 : decode cX8_isWord 60 = .ok (.iadd, 1) := by decide +kernel
theorem dX8_isWord_61 : decode cX8_isWord 61 = .ok (.baload, 1) := by decide +kernel
theorem dX8_isWord_62 : decode cX8_isWord 62 = .ok (.aload_n 1, 1) := by decide +kernel
theorem dX8_isWord_63 : decode cX8_isWord 63 = .ok (.iload_n 3, 1) := by decide +kernel
theorem dX8_isWord_64 : decode cX8_isWord 64 = .ok (.invokevirtual 90, 3) := by decide +kernel
theorem dX8_isWord_67 : decode cX8_isWord 67 = .ok (.if_icmp .ne 7, 3) := by decide +kernel
theorem dX8_isWord_70 : decode cX8_isWord 70 = .ok (.iconst 1, 1) := by decide +kernel
theorem dX8_isWord_71 : decode cX8_isWord 71 = .ok (.goto 4, 3) := by decide +kernel
theorem dX8_isWord_74 : decode cX8_isWord 74 = .ok (.iconst 0, 1) := by decide +kernel
theorem dX8_isWord_75 : decode cX8_isWord 75 = .ok (.istore_n 2, 1) := by decide +kernel
theorem dX8_isWord_76 : decode cX8_isWord 76 = .ok (.iinc 3 1, 3) := by decide +kernel
theorem dX8_isWord_79 : decode cX8_isWord 79 = .ok (.goto (-40), 3) := by decide +kernel
theorem dX8_isWord_82 : decode cX8_isWord 82 = .ok (.iload_n 2, 1) := by decide +kernel
theorem dX8_isWord_83 : decode cX8_isWord 83 = .ok (.ireturn, 1) := by decide +kernel
theorem dX8_goOn_0 : decode cX8_goOn 0 = .ok (.aload_n 0, 1) := by decide +kernel
theorem dX8_goOn_1 : decode cX8_goOn 1 = .ok (.getfield 79, 3) := by decide +kernel
theorem dX8_goOn_4 : decode cX8_goOn 4 = .ok (.ifCond .ne 7, 3) := by decide +kernel
theorem dX8_goOn_7 : decode cX8_goOn 7 = .ok (.aload_n 0, 1) := by decide +kernel
theorem dX8_goOn_8 : decode cX8_goOn 8 = .ok (.invokevirtual 94, 3) := by decide +kernel
theorem dX8_goOn_11 : decode cX8_goOn 11 = .ok (.return_, 1) := by decide +kernel
theorem dX8_look_0 : decode cX8_look 0 = .ok (.aload_n 0, 1) := by decide +kernel
theorem dX8_look_1 : decode cX8_look 1 = .ok (.aload_n 0, 1) := by decide +kernel
theorem dX8_look_2 : decode cX8_look 2 = .ok (.getfield 69, 3) := by decide +kernel
theorem dX8_look_5 : decode cX8_look 5 = .ok (.iconst 2, 1) := by decide +kernel
theorem dX8_look_6 : decode cX8_look 6 = .ok (.if_icmp .ne 7, 3) := by decide +kernel
theorem dX8_look_9 : decode cX8_look 9 = .ok (.iconst 1, 1) := by decide +kernel
theorem dX8_look_10 : decode cX8_look 10 = .ok (.goto 4, 3) := by decide +kernel
theorem dX8_look_13 : decode cX8_look 13 = .ok (.iconst 0, 1) := by decide +kernel
theorem dX8_look_14 : decode cX8_look 14 = .ok (.iconst 1, 1) := by decide +kernel
theorem dX8_look_15 : decode cX8_look 15 = .ok (.invokevirtual 97, 3) := by decide +kernel
theorem dX8_look_18 : decode cX8_look 18 = .ok (.ifCond .eq 27, 3) := by decide +kernel
theorem dX8_look_21 : decode cX8_look 21 = .ok (.aload_n 0, 1) := by decide +kernel
theorem dX8_look_22 : decode cX8_look 22 = .ok (.aload_n 0, 1) := by decide +kernel
theorem dX8_look_23 : decode cX8_look 23 = .ok (.getfield 76, 3) := by decide +kernel
theorem dX8_look_26 : decode cX8_look 26 = .ok (.iload_n 1, 1) := by decide +kernel
theorem dX8_look_27 : decode cX8_look 27 = .ok (.iload_n 2, 1) := by decide +kernel
theorem dX8_look_28 : decode cX8_look 28 = .ok (.invokestatic 72, 3) := by decide +kernel
theorem dX8_look_31 : decode cX8_look 31 = .ok (.iconst 3, 1) := by decide +kernel
theorem dX8_look_32 : decode cX8_look 32 = .ok (.invokevirtual 97, 3) := by decide +kernel
theorem dX8_look_35 : decode cX8_look 35 = .ok (.ifCond .eq 10, 3) := by decide +kernel
theorem dX8_look_38 : decode cX8_look 38 = .ok (.aload_n 0, 1) := by decide +kernel
theorem dX8_look_39 : decode cX8_look 39 = .ok (.getfield 76, 3) := by decide +kernel
theorem dX8_look_42 : decode cX8_look 42 = .ok (.goto 4, 3) := by decide +kernel
theorem dX8_look_45 : decode cX8_look 45 = .ok (.iload_n 1, 1) := by decide +kernel
theorem dX8_look_46 : decode cX8_look 46 = .ok (.ireturn, 1) := by decide +kernel
theorem dX8_takes_0 : decode cX8_takes 0 = .ok (.aload_n 0, 1) := by decide +kernel
theorem dX8_takes_1 : decode cX8_takes 1 = .ok (.iload_n 1, 1) := by decide +kernel
theorem dX8_takes_2 : decode cX8_takes 2 = .ok (.iload_n 2, 1) := by decide +kernel
theorem dX8_takes_3 : decode cX8_takes 3 = .ok (.invokevirtual 101, 3) := by decide +kernel
theorem dX8_takes_6 : decode cX8_takes 6 = .ok (.istore_n 3, 1) := by decide +kernel
theorem dX8_takes_7 : decode cX8_takes 7 = .ok (.aload_n 0, 1) := by decide +kernel
theorem dX8_takes_8 : decode cX8_takes 8 = .ok (.invokevirtual 105, 3) := by decide +kernel
theorem dX8_takes_11 : decode cX8_takes 11 = .ok (.iload_n 3, 1) := by decide +kernel
theorem dX8_takes_12 : decode cX8_takes 12 = .ok (.ireturn, 1) := by decide +kernel
theorem dX8_copy_0 : decode cX8_copy 0 = .ok (.iconst 0, 1) := by decide +kernel
theorem dX8_copy_1 : decode cX8_copy 1 = .ok (.istore 4, 2) := by decide +kernel
theorem dX8_copy_3 : decode cX8_copy 3 = .ok (.iload 4, 2) := by decide +kernel
theorem dX8_copy_5 : decode cX8_copy 5 = .ok (.sipush 441, 3) := by decide +kernel
theorem dX8_copy_8 : decode cX8_copy 8 = .ok (.if_icmp .ge 29, 3) := by decide +kernel
theorem dX8_copy_11 : decode cX8_copy 11 = .ok (.aload_n 2, 1) := by decide +kernel
theorem dX8_copy_12 : decode cX8_copy 12 = .ok (.sipush 441, 3) := by decide +kernel
theorem dX8_copy_15 : decode cX8_copy 15 = .ok (.iload_n 3, 1) := by decide +kernel
theorem dX8_copy_16 : decode cX8_copy 16 = .ok (.imul, 1) := by decide +kernel
theorem dX8_copy_17 : decode cX8_copy 17 = .ok (.iload 4, 2) := by decide +kernel
theorem dX8_copy_19 : decode cX8_copy 19 = .ok (.iadd, 1) := by decide +kernel
theorem dX8_copy_20 : decode cX8_copy 20 = .ok (.aload_n 0, 1) := by decide +kernel
theorem dX8_copy_21 : decode cX8_copy 21 = .ok (.sipush 441, 3) := by decide +kernel
theorem dX8_copy_24 : decode cX8_copy 24 = .ok (.iload_n 1, 1) := by decide +kernel
theorem dX8_copy_25 : decode cX8_copy 25 = .ok (.imul, 1) := by decide +kernel
theorem dX8_copy_26 : decode cX8_copy 26 = .ok (.iload 4, 2) := by decide +kernel
theorem dX8_copy_28 : decode cX8_copy 28 = .ok (.iadd, 1) := by decide +kernel
theorem dX8_copy_29 : decode cX8_copy 29 = .ok (.iaload, 1) := by decide +kernel
theorem dX8_copy_30 : decode cX8_copy 30 = .ok (.iastore, 1) := by decide +kernel
theorem dX8_copy_31 : decode cX8_copy 31 = .ok (.iinc 4 1, 3) := by decide +kernel
theorem dX8_copy_34 : decode cX8_copy 34 = .ok (.goto (-31), 3) := by decide +kernel
theorem dX8_copy_37 : decode cX8_copy 37 = .ok (.return_, 1) := by decide +kernel
theorem dX8_keep_0 : decode cX8_keep 0 = .ok (.aload_n 0, 1) := by decide +kernel
theorem dX8_keep_1 : decode cX8_keep 1 = .ok (.getfield 108, 3) := by decide +kernel
theorem dX8_keep_4 : decode cX8_keep 4 = .ok (.bipush 10, 2) := by decide +kernel
theorem dX8_keep_6 : decode cX8_keep 6 = .ok (.if_icmp .ne 42, 3) := by decide +kernel
theorem dX8_keep_9 : decode cX8_keep 9 = .ok (.iconst 1, 1) := by decide +kernel
theorem dX8_keep_10 : decode cX8_keep 10 = .ok (.istore_n 1, 1) := by decide +kernel
theorem dX8_keep_11 : decode cX8_keep 11 = .ok (.iload_n 1, 1) := by decide +kernel
theorem dX8_keep_12 : decode cX8_keep 12 = .ok (.bipush 10, 2) := by decide +kernel
theorem dX8_keep_14 : decode cX8_keep 14 = .ok (.if_icmp .ge 24, 3) := by decide +kernel
theorem dX8_keep_17 : decode cX8_keep 17 = .ok (.aload_n 0, 1) := by decide +kernel
theorem dX8_keep_18 : decode cX8_keep 18 = .ok (.getfield 23, 3) := by decide +kernel
theorem dX8_keep_21 : decode cX8_keep 21 = .ok (.iload_n 1, 1) := by decide +kernel
theorem dX8_keep_22 : decode cX8_keep 22 = .ok (.aload_n 0, 1) := by decide +kernel
theorem dX8_keep_23 : decode cX8_keep 23 = .ok (.getfield 23, 3) := by decide +kernel
theorem dX8_keep_26 : decode cX8_keep 26 = .ok (.iload_n 1, 1) := by decide +kernel
theorem dX8_keep_27 : decode cX8_keep 27 = .ok (.iconst 1, 1) := by decide +kernel
theorem dX8_keep_28 : decode cX8_keep 28 = .ok (.isub, 1) := by decide +kernel
theorem dX8_keep_29 : decode cX8_keep 29 = .ok (.invokestatic 111, 3) := by decide +kernel
theorem dX8_keep_32 : decode cX8_keep 32 = .ok (.iinc 1 1, 3) := by decide +kernel
theorem dX8_keep_35 : decode cX8_keep 35 = .ok (.goto (-24), 3) := by decide +kernel
theorem dX8_keep_38 : decode cX8_keep 38 = .ok (.aload_n 0, 1) := by decide +kernel
theorem dX8_keep_39 : decode cX8_keep 39 = .ok (.dup, 1) := by decide +kernel
theorem dX8_keep_40 : decode cX8_keep 40 = .ok (.getfield 108, 3) := by decide +kernel
theorem dX8_keep_43 : decode cX8_keep 43 = .ok (.iconst 1, 1) := by decide +kernel
theorem dX8_keep_44 : decode cX8_keep 44 = .ok (.isub, 1) := by decide +kernel
theorem dX8_keep_45 : decode cX8_keep 45 = .ok (.putfield 108, 3) := by decide +kernel
theorem dX8_keep_48 : decode cX8_keep 48 = .ok (.aload_n 0, 1) := by decide +kernel
theorem dX8_keep_49 : decode cX8_keep 49 = .ok (.getfield 13, 3) := by decide +kernel
theorem dX8_keep_52 : decode cX8_keep 52 = .ok (.iconst 0, 1) := by decide +kernel
theorem dX8_keep_53 : decode cX8_keep 53 = .ok (.aload_n 0, 1) := by decide +kernel
theorem dX8_keep_54 : decode cX8_keep 54 = .ok (.getfield 23, 3) := by decide +kernel
theorem dX8_keep_57 : decode cX8_keep 57 = .ok (.aload_n 0, 1) := by decide +kernel
theorem dX8_keep_58 : decode cX8_keep 58 = .ok (.getfield 108, 3) := by decide +kernel
theorem dX8_keep_61 : decode cX8_keep 61 = .ok (.invokestatic 111, 3) := by decide +kernel
theorem dX8_keep_64 : decode cX8_keep 64 = .ok (.aload_n 0, 1) := by decide +kernel
theorem dX8_keep_65 : decode cX8_keep 65 = .ok (.dup, 1) := by decide +kernel
theorem dX8_keep_66 : decode cX8_keep 66 = .ok (.getfield 108, 3) := by decide +kernel
theorem dX8_keep_69 : decode cX8_keep 69 = .ok (.iconst 1, 1) := by decide +kernel
theorem dX8_keep_70 : decode cX8_keep 70 = .ok (.iadd, 1) := by decide +kernel
theorem dX8_keep_71 : decode cX8_keep 71 = .ok (.putfield 108, 3) := by decide +kernel
theorem dX8_keep_74 : decode cX8_keep 74 = .ok (.return_, 1) := by decide +kernel
theorem dX8_at_0 : decode cX8_at 0 = .ok (.bipush 18, 2) := by decide +kernel
theorem dX8_at_2 : decode cX8_at 2 = .ok (.bipush 11, 2) := by decide +kernel
theorem dX8_at_4 : decode cX8_at 4 = .ok (.iload_n 0, 1) := by decide +kernel
theorem dX8_at_5 : decode cX8_at 5 = .ok (.imul, 1) := by decide +kernel
theorem dX8_at_6 : decode cX8_at 6 = .ok (.iadd, 1) := by decide +kernel
theorem dX8_at_7 : decode cX8_at 7 = .ok (.iload_n 1, 1) := by decide +kernel
theorem dX8_at_8 : decode cX8_at 8 = .ok (.iadd, 1) := by decide +kernel
theorem dX8_at_9 : decode cX8_at 9 = .ok (.ireturn, 1) := by decide +kernel
theorem dX8_of_0 : decode cX8_of 0 = .ok (.aload_n 0, 1) := by decide +kernel
theorem dX8_of_1 : decode cX8_of 1 = .ok (.getfield 13, 3) := by decide +kernel
theorem dX8_of_4 : decode cX8_of 4 = .ok (.iload_n 1, 1) := by decide +kernel
theorem dX8_of_5 : decode cX8_of 5 = .ok (.iload_n 2, 1) := by decide +kernel
theorem dX8_of_6 : decode cX8_of 6 = .ok (.invokestatic 115, 3) := by decide +kernel
theorem dX8_of_9 : decode cX8_of 9 = .ok (.iaload, 1) := by decide +kernel
theorem dX8_of_10 : decode cX8_of 10 = .ok (.ireturn, 1) := by decide +kernel
theorem dX8_lengthAt_0 : decode cX8_lengthAt 0 = .ok (.bipush 40, 2) := by decide +kernel
theorem dX8_lengthAt_2 : decode cX8_lengthAt 2 = .ok (.bipush 20, 2) := by decide +kernel
theorem dX8_lengthAt_4 : decode cX8_lengthAt 4 = .ok (.iload_n 0, 1) := by decide +kernel
theorem dX8_lengthAt_5 : decode cX8_lengthAt 5 = .ok (.imul, 1) := by decide +kernel
theorem dX8_lengthAt_6 : decode cX8_lengthAt 6 = .ok (.iadd, 1) := by decide +kernel
theorem dX8_lengthAt_7 : decode cX8_lengthAt 7 = .ok (.iload_n 1, 1) := by decide +kernel
theorem dX8_lengthAt_8 : decode cX8_lengthAt 8 = .ok (.iadd, 1) := by decide +kernel
theorem dX8_lengthAt_9 : decode cX8_lengthAt 9 = .ok (.ireturn, 1) := by decide +kernel
theorem dX8_byteOf_0 : decode cX8_byteOf 0 = .ok (.bipush 80, 2) := by decide +kernel
theorem dX8_byteOf_2 : decode cX8_byteOf 2 = .ok (.bipush 8, 2) := by decide +kernel
theorem dX8_byteOf_4 : decode cX8_byteOf 4 = .ok (.bipush 20, 2) := by decide +kernel
theorem dX8_byteOf_6 : decode cX8_byteOf 6 = .ok (.iload_n 0, 1) := by decide +kernel
theorem dX8_byteOf_7 : decode cX8_byteOf 7 = .ok (.imul, 1) := by decide +kernel
theorem dX8_byteOf_8 : decode cX8_byteOf 8 = .ok (.iload_n 1, 1) := by decide +kernel
theorem dX8_byteOf_9 : decode cX8_byteOf 9 = .ok (.iadd, 1) := by decide +kernel
theorem dX8_byteOf_10 : decode cX8_byteOf 10 = .ok (.imul, 1) := by decide +kernel
theorem dX8_byteOf_11 : decode cX8_byteOf 11 = .ok (.iadd, 1) := by decide +kernel
theorem dX8_byteOf_12 : decode cX8_byteOf 12 = .ok (.iload_n 2, 1) := by decide +kernel
theorem dX8_byteOf_13 : decode cX8_byteOf 13 = .ok (.iadd, 1) := by decide +kernel
theorem dX8_byteOf_14 : decode cX8_byteOf 14 = .ok (.ireturn, 1) := by decide +kernel
theorem dX8_limitOf_0 : decode cX8_limitOf 0 = .ok (.aload_n 0, 1) := by decide +kernel
theorem dX8_limitOf_1 : decode cX8_limitOf 1 = .ok (.iload_n 1, 1) := by decide +kernel
theorem dX8_limitOf_2 : decode cX8_limitOf 2 = .ok (.iconst 2, 1) := by decide +kernel
theorem dX8_limitOf_3 : decode cX8_limitOf 3 = .ok (.invokevirtual 118, 3) := by decide +kernel
theorem dX8_limitOf_6 : decode cX8_limitOf 6 = .ok (.aload_n 0, 1) := by decide +kernel
theorem dX8_limitOf_7 : decode cX8_limitOf 7 = .ok (.iload_n 1, 1) := by decide +kernel
theorem dX8_limitOf_8 : decode cX8_limitOf 8 = .ok (.iconst 3, 1) := by decide +kernel
theorem dX8_limitOf_9 : decode cX8_limitOf 9 = .ok (.invokevirtual 118, 3) := by decide +kernel
theorem dX8_limitOf_12 : decode cX8_limitOf 12 = .ok (.iadd, 1) := by decide +kernel
theorem dX8_limitOf_13 : decode cX8_limitOf 13 = .ok (.ireturn, 1) := by decide +kernel
theorem dX8_isStation_0 : decode cX8_isStation 0 = .ok (.iload_n 0, 1) := by decide +kernel
theorem dX8_isStation_1 : decode cX8_isStation 1 = .ok (.iconst 0, 1) := by decide +kernel
theorem dX8_isStation_2 : decode cX8_isStation 2 = .ok (.iconst 1, 1) := by decide +kernel
theorem dX8_isStation_3 : decode cX8_isStation 3 = .ok (.invokestatic 72, 3) := by decide +kernel
theorem dX8_isStation_6 : decode cX8_isStation 6 = .ok (.ireturn, 1) := by decide +kernel
theorem dX8_empties_0 : decode cX8_empties 0 = .ok (.iconst 0, 1) := by decide +kernel
theorem dX8_empties_1 : decode cX8_empties 1 = .ok (.istore_n 1, 1) := by decide +kernel
theorem dX8_empties_2 : decode cX8_empties 2 = .ok (.iload_n 1, 1) := by decide +kernel
theorem dX8_empties_3 : decode cX8_empties 3 = .ok (.sipush 441, 3) := by decide +kernel
theorem dX8_empties_6 : decode cX8_empties 6 = .ok (.if_icmp .ge 16, 3) := by decide +kernel
theorem dX8_empties_9 : decode cX8_empties 9 = .ok (.aload_n 0, 1) := by decide +kernel
theorem dX8_empties_10 : decode cX8_empties 10 = .ok (.getfield 13, 3) := by decide +kernel
theorem dX8_empties_13 : decode cX8_empties 13 = .ok (.iload_n 1, 1) := by decide +kernel
theorem dX8_empties_14 : decode cX8_empties 14 = .ok (.iconst 0, 1) := by decide +kernel
theorem dX8_empties_15 : decode cX8_empties 15 = .ok (.iastore, 1) := by decide +kernel
theorem dX8_empties_16 : decode cX8_empties 16 = .ok (.iinc 1 1, 3) := by decide +kernel
theorem dX8_empties_19 : decode cX8_empties 19 = .ok (.goto (-17), 3) := by decide +kernel
theorem dX8_empties_22 : decode cX8_empties 22 = .ok (.aload_n 0, 1) := by decide +kernel
theorem dX8_empties_23 : decode cX8_empties 23 = .ok (.getfield 13, 3) := by decide +kernel
theorem dX8_empties_26 : decode cX8_empties 26 = .ok (.iconst 0, 1) := by decide +kernel
theorem dX8_empties_27 : decode cX8_empties 27 = .ok (.iconst 3, 1) := by decide +kernel
theorem dX8_empties_28 : decode cX8_empties 28 = .ok (.invokestatic 115, 3) := by decide +kernel
theorem dX8_empties_31 : decode cX8_empties 31 = .ok (.iconst 4, 1) := by decide +kernel
theorem dX8_empties_32 : decode cX8_empties 32 = .ok (.iastore, 1) := by decide +kernel
theorem dX8_empties_33 : decode cX8_empties 33 = .ok (.aload_n 0, 1) := by decide +kernel
theorem dX8_empties_34 : decode cX8_empties 34 = .ok (.getfield 13, 3) := by decide +kernel
theorem dX8_empties_37 : decode cX8_empties 37 = .ok (.iconst 1, 1) := by decide +kernel
theorem dX8_empties_38 : decode cX8_empties 38 = .ok (.iconst 3, 1) := by decide +kernel
theorem dX8_empties_39 : decode cX8_empties 39 = .ok (.invokestatic 115, 3) := by decide +kernel
theorem dX8_empties_42 : decode cX8_empties 42 = .ok (.iconst 4, 1) := by decide +kernel
theorem dX8_empties_43 : decode cX8_empties 43 = .ok (.iastore, 1) := by decide +kernel
theorem dX8_empties_44 : decode cX8_empties 44 = .ok (.return_, 1) := by decide +kernel
theorem dX8_begins_0 : decode cX8_begins 0 = .ok (.aload_n 0, 1) := by decide +kernel
theorem dX8_begins_1 : decode cX8_begins 1 = .ok (.getfield 13, 3) := by decide +kernel
theorem dX8_begins_4 : decode cX8_begins 4 = .ok (.iconst 0, 1) := by decide +kernel
theorem dX8_begins_5 : decode cX8_begins 5 = .ok (.bipush 7, 2) := by decide +kernel
theorem dX8_begins_7 : decode cX8_begins 7 = .ok (.invokestatic 115, 3) := by decide +kernel
theorem dX8_begins_10 : decode cX8_begins 10 = .ok (.aload_n 0, 1) := by decide +kernel
theorem dX8_begins_11 : decode cX8_begins 11 = .ok (.iconst 1, 1) := by decide +kernel
theorem dX8_begins_12 : decode cX8_begins 12 = .ok (.iconst 3, 1) := by decide +kernel
theorem dX8_begins_13 : decode cX8_begins 13 = .ok (.invokevirtual 118, 3) := by decide +kernel
theorem dX8_begins_16 : decode cX8_begins 16 = .ok (.iastore, 1) := by decide +kernel
theorem dX8_begins_17 : decode cX8_begins 17 = .ok (.aload_n 0, 1) := by decide +kernel
theorem dX8_begins_18 : decode cX8_begins 18 = .ok (.getfield 13, 3) := by decide +kernel
theorem dX8_begins_21 : decode cX8_begins 21 = .ok (.iconst 1, 1) := by decide +kernel
theorem dX8_begins_22 : decode cX8_begins 22 = .ok (.bipush 7, 2) := by decide +kernel
theorem dX8_begins_24 : decode cX8_begins 24 = .ok (.invokestatic 115, 3) := by decide +kernel
theorem dX8_begins_27 : decode cX8_begins 27 = .ok (.aload_n 0, 1) := by decide +kernel
theorem dX8_begins_28 : decode cX8_begins 28 = .ok (.iconst 0, 1) := by decide +kernel
theorem dX8_begins_29 : decode cX8_begins 29 = .ok (.iconst 3, 1) := by decide +kernel
theorem dX8_begins_30 : decode cX8_begins 30 = .ok (.invokevirtual 118, 3) := by decide +kernel
theorem dX8_begins_33 : decode cX8_begins 33 = .ok (.iastore, 1) := by decide +kernel
theorem dX8_begins_34 : decode cX8_begins 34 = .ok (.aload_n 0, 1) := by decide +kernel
theorem dX8_begins_35 : decode cX8_begins 35 = .ok (.iconst 0, 1) := by decide +kernel
theorem dX8_begins_36 : decode cX8_begins 36 = .ok (.putfield 108, 3) := by decide +kernel
theorem dX8_begins_39 : decode cX8_begins 39 = .ok (.aload_n 0, 1) := by decide +kernel
theorem dX8_begins_40 : decode cX8_begins 40 = .ok (.getfield 29, 3) := by decide +kernel
theorem dX8_begins_43 : decode cX8_begins 43 = .ok (.iconst 0, 1) := by decide +kernel
theorem dX8_begins_44 : decode cX8_begins 44 = .ok (.iconst 0, 1) := by decide +kernel
theorem dX8_begins_45 : decode cX8_begins 45 = .ok (.bastore, 1) := by decide +kernel
theorem dX8_begins_46 : decode cX8_begins 46 = .ok (.aload_n 0, 1) := by decide +kernel
theorem dX8_begins_47 : decode cX8_begins 47 = .ok (.getfield 29, 3) := by decide +kernel
theorem dX8_begins_50 : decode cX8_begins 50 = .ok (.iconst 1, 1) := by decide +kernel
theorem dX8_begins_51 : decode cX8_begins 51 = .ok (.iconst 0, 1) := by decide +kernel
theorem dX8_begins_52 : decode cX8_begins 52 = .ok (.bastore, 1) := by decide +kernel
theorem dX8_begins_53 : decode cX8_begins 53 = .ok (.return_, 1) := by decide +kernel
theorem dX8_windowLine_0 : decode cX8_windowLine 0 = .ok (.aload_n 0, 1) := by decide +kernel
theorem dX8_windowLine_1 : decode cX8_windowLine 1 = .ok (.invokevirtual 105, 3) := by decide +kernel
theorem dX8_windowLine_4 : decode cX8_windowLine 4 = .ok (.aload_n 0, 1) := by decide +kernel
theorem dX8_windowLine_5 : decode cX8_windowLine 5 = .ok (.iconst 0, 1) := by decide +kernel
theorem dX8_windowLine_6 : decode cX8_windowLine 6 = .ok (.iconst 1, 1) := by decide +kernel
theorem dX8_windowLine_7 : decode cX8_windowLine 7 = .ok (.invokevirtual 101, 3) := by decide +kernel
theorem dX8_windowLine_10 : decode cX8_windowLine 10 = .ok (.istore_n 1, 1) := by decide +kernel
theorem dX8_windowLine_11 : decode cX8_windowLine 11 = .ok (.aload_n 0, 1) := by decide +kernel
theorem dX8_windowLine_12 : decode cX8_windowLine 12 = .ok (.iload_n 1, 1) := by decide +kernel
theorem dX8_windowLine_13 : decode cX8_windowLine 13 = .ok (.ifCond .ne 18, 3) := by decide +kernel
theorem dX8_windowLine_16 : decode cX8_windowLine 16 = .ok (.aload_n 0, 1) := by decide +kernel
theorem dX8_windowLine_17 : decode cX8_windowLine 17 = .ok (.getfield 121, 3) := by decide +kernel
theorem dX8_windowLine_20 : decode cX8_windowLine 20 = .ok (.ifCond .ne 7, 3) := by decide +kernel
theorem dX8_windowLine_23 : decode cX8_windowLine 23 = .ok (.iconst 1, 1) := by decide +kernel
theorem dX8_windowLine_24 : decode cX8_windowLine 24 = .ok (.goto 19, 3) := by decide +kernel
theorem dX8_windowLine_27 : decode cX8_windowLine 27 = .ok (.iconst 0, 1) := by decide +kernel
theorem dX8_windowLine_28 : decode cX8_windowLine 28 = .ok (.goto 15, 3) := by decide +kernel
theorem dX8_windowLine_31 : decode cX8_windowLine 31 = .ok (.aload_n 0, 1) := by decide +kernel
theorem dX8_windowLine_32 : decode cX8_windowLine 32 = .ok (.getfield 125, 3) := by decide +kernel
theorem dX8_windowLine_35 : decode cX8_windowLine 35 = .ok (.ifCond .ne 7, 3) := by decide +kernel
theorem dX8_windowLine_38 : decode cX8_windowLine 38 = .ok (.iconst 1, 1) := by decide +kernel
theorem dX8_windowLine_39 : decode cX8_windowLine 39 = .ok (.goto 4, 3) := by decide +kernel
theorem dX8_windowLine_42 : decode cX8_windowLine 42 = .ok (.iconst 0, 1) := by decide +kernel
theorem dX8_windowLine_43 : decode cX8_windowLine 43 = .ok (.iconst 2, 1) := by decide +kernel
theorem dX8_windowLine_44 : decode cX8_windowLine 44 = .ok (.invokevirtual 97, 3) := by decide +kernel
theorem dX8_windowLine_47 : decode cX8_windowLine 47 = .ok (.ifCond .ne 4, 3) := by decide +kernel
theorem dX8_windowLine_50 : decode cX8_windowLine 50 = .ok (.return_, 1) := by decide +kernel
theorem dX8_windowLine_51 : decode cX8_windowLine 51 = .ok (.aload_n 0, 1) := by decide +kernel
theorem dX8_windowLine_52 : decode cX8_windowLine 52 = .ok (.aload_n 0, 1) := by decide +kernel
theorem dX8_windowLine_53 : decode cX8_windowLine 53 = .ok (.getfield 121, 3) := by decide +kernel
theorem dX8_windowLine_56 : decode cX8_windowLine 56 = .ok (.ifCond .ne 7, 3) := by decide +kernel
theorem dX8_windowLine_59 : decode cX8_windowLine 59 = .ok (.iload_n 1, 1) := by decide +kernel
theorem dX8_windowLine_60 : decode cX8_windowLine 60 = .ok (.ifCond .ne 7, 3) := by decide +kernel
theorem dX8_windowLine_63 : decode cX8_windowLine 63 = .ok (.iconst 1, 1) := by decide +kernel
theorem dX8_windowLine_64 : decode cX8_windowLine 64 = .ok (.goto 4, 3) := by decide +kernel
theorem dX8_windowLine_67 : decode cX8_windowLine 67 = .ok (.iconst 0, 1) := by decide +kernel
theorem dX8_windowLine_68 : decode cX8_windowLine 68 = .ok (.putfield 121, 3) := by decide +kernel
theorem dX8_windowLine_71 : decode cX8_windowLine 71 = .ok (.aload_n 0, 1) := by decide +kernel
theorem dX8_windowLine_72 : decode cX8_windowLine 72 = .ok (.aload_n 0, 1) := by decide +kernel
theorem dX8_windowLine_73 : decode cX8_windowLine 73 = .ok (.getfield 125, 3) := by decide +kernel
theorem dX8_windowLine_76 : decode cX8_windowLine 76 = .ok (.ifCond .ne 8, 3) := by decide +kernel
theorem dX8_windowLine_79 : decode cX8_windowLine 79 = .ok (.iload_n 1, 1) := by decide +kernel
theorem dX8_windowLine_80 : decode cX8_windowLine 80 = .ok (.iconst 1, 1) := by decide +kernel
theorem dX8_windowLine_81 : decode cX8_windowLine 81 = .ok (.if_icmp .ne 7, 3) := by decide +kernel
theorem dX8_windowLine_84 : decode cX8_windowLine 84 = .ok (.iconst 1, 1) := by decide +kernel
theorem dX8_windowLine_85 : decode cX8_windowLine 85 = .ok (.goto 4, 3) := by decide +kernel
theorem dX8_windowLine_88 : decode cX8_windowLine 88 = .ok (.iconst 0, 1) := by decide +kernel
theorem dX8_windowLine_89 : decode cX8_windowLine 89 = .ok (.putfield 125, 3) := by decide +kernel
theorem dX8_windowLine_92 : decode cX8_windowLine 92 = .ok (.aload_n 0, 1) := by decide +kernel
theorem dX8_windowLine_93 : decode cX8_windowLine 93 = .ok (.invokevirtual 105, 3) := by decide +kernel
theorem dX8_windowLine_96 : decode cX8_windowLine 96 = .ok (.aload_n 0, 1) := by decide +kernel
theorem dX8_windowLine_97 : decode cX8_windowLine 97 = .ok (.getfield 13, 3) := by decide +kernel
theorem dX8_windowLine_100 : decode cX8_windowLine 100 = .ok (.iload_n 1, 1) := by decide +kernel
theorem dX8_windowLine_101 : decode cX8_windowLine 101 = .ok (.iconst 3, 1) := by decide +kernel
theorem dX8_windowLine_102 : decode cX8_windowLine 102 = .ok (.invokestatic 115, 3) := by decide +kernel
theorem dX8_windowLine_105 : decode cX8_windowLine 105 = .ok (.aload_n 0, 1) := by decide +kernel
theorem dX8_windowLine_106 : decode cX8_windowLine 106 = .ok (.iconst 1, 1) := by decide +kernel
theorem dX8_windowLine_107 : decode cX8_windowLine 107 = .ok (.bipush 9, 2) := by decide +kernel
theorem dX8_windowLine_109 : decode cX8_windowLine 109 = .ok (.invokevirtual 128, 3) := by decide +kernel
theorem dX8_windowLine_112 : decode cX8_windowLine 112 = .ok (.iastore, 1) := by decide +kernel
theorem dX8_windowLine_113 : decode cX8_windowLine 113 = .ok (.return_, 1) := by decide +kernel
theorem dX8_messageLine_0 : decode cX8_messageLine 0 = .ok (.aload_n 0, 1) := by decide +kernel
theorem dX8_messageLine_1 : decode cX8_messageLine 1 = .ok (.invokevirtual 105, 3) := by decide +kernel
theorem dX8_messageLine_4 : decode cX8_messageLine 4 = .ok (.aload_n 0, 1) := by decide +kernel
theorem dX8_messageLine_5 : decode cX8_messageLine 5 = .ok (.iconst 0, 1) := by decide +kernel
theorem dX8_messageLine_6 : decode cX8_messageLine 6 = .ok (.iconst 1, 1) := by decide +kernel
theorem dX8_messageLine_7 : decode cX8_messageLine 7 = .ok (.invokevirtual 101, 3) := by decide +kernel
theorem dX8_messageLine_10 : decode cX8_messageLine 10 = .ok (.istore_n 1, 1) := by decide +kernel
theorem dX8_messageLine_11 : decode cX8_messageLine 11 = .ok (.aload_n 0, 1) := by decide +kernel
theorem dX8_messageLine_12 : decode cX8_messageLine 12 = .ok (.iload_n 1, 1) := by decide +kernel
theorem dX8_messageLine_13 : decode cX8_messageLine 13 = .ok (.iconst 0, 1) := by decide +kernel
theorem dX8_messageLine_14 : decode cX8_messageLine 14 = .ok (.invokevirtual 118, 3) := by decide +kernel
theorem dX8_messageLine_17 : decode cX8_messageLine 17 = .ok (.istore_n 2, 1) := by decide +kernel
theorem dX8_messageLine_18 : decode cX8_messageLine 18 = .ok (.aload_n 0, 1) := by decide +kernel
theorem dX8_messageLine_19 : decode cX8_messageLine 19 = .ok (.iload_n 2, 1) := by decide +kernel
theorem dX8_messageLine_20 : decode cX8_messageLine 20 = .ok (.bipush 20, 2) := by decide +kernel
theorem dX8_messageLine_22 : decode cX8_messageLine 22 = .ok (.if_icmp .ge 7, 3) := by decide +kernel
theorem dX8_messageLine_25 : decode cX8_messageLine 25 = .ok (.iconst 1, 1) := by decide +kernel
theorem dX8_messageLine_26 : decode cX8_messageLine 26 = .ok (.goto 4, 3) := by decide +kernel
theorem dX8_messageLine_29 : decode cX8_messageLine 29 = .ok (.iconst 0, 1) := by decide +kernel
theorem dX8_messageLine_30 : decode cX8_messageLine 30 = .ok (.iconst 4, 1) := by decide +kernel
theorem dX8_messageLine_31 : decode cX8_messageLine 31 = .ok (.invokevirtual 97, 3) := by decide +kernel
theorem dX8_messageLine_34 : decode cX8_messageLine 34 = .ok (.ifCond .ne 4, 3) := by decide +kernel
theorem dX8_messageLine_37 : decode cX8_messageLine 37 = .ok (.return_, 1) := by decide +kernel
theorem dX8_messageLine_38 : decode cX8_messageLine 38 = .ok (.aload_n 0, 1) := by decide +kernel
theorem dX8_messageLine_39 : decode cX8_messageLine 39 = .ok (.invokevirtual 105, 3) := by decide +kernel
theorem dX8_messageLine_42 : decode cX8_messageLine 42 = .ok (.iconst 0, 1) := by decide +kernel
theorem dX8_messageLine_43 : decode cX8_messageLine 43 = .ok (.istore_n 3, 1) := by decide +kernel
theorem dX8_messageLine_44 : decode cX8_messageLine 44 = .ok (.aload_n 0, 1) := by decide +kernel
theorem dX8_messageLine_45 : decode cX8_messageLine 45 = .ok (.aload_n 0, 1) := by decide +kernel
theorem dX8_messageLine_46 : decode cX8_messageLine 46 = .ok (.getfield 69, 3) := by decide +kernel
theorem dX8_messageLine_49 : decode cX8_messageLine 49 = .ok (.iconst 2, 1) := by decide +kernel
theorem dX8_messageLine_50 : decode cX8_messageLine 50 = .ok (.if_icmp .ne 7, 3) := by decide +kernel
theorem dX8_messageLine_53 : decode cX8_messageLine 53 = .ok (.iconst 1, 1) := by decide +kernel
theorem dX8_messageLine_54 : decode cX8_messageLine 54 = .ok (.goto 4, 3) := by decide +kernel
theorem dX8_messageLine_57 : decode cX8_messageLine 57 = .ok (.iconst 0, 1) := by decide +kernel
theorem dX8_messageLine_58 : decode cX8_messageLine 58 = .ok (.iconst 1, 1) := by decide +kernel
theorem dX8_messageLine_59 : decode cX8_messageLine 59 = .ok (.invokevirtual 97, 3) := by decide +kernel
theorem dX8_messageLine_62 : decode cX8_messageLine 62 = .ok (.istore 4, 2) := by decide +kernel
theorem dX8_messageLine_64 : decode cX8_messageLine 64 = .ok (.iload 4, 2) := by decide +kernel
theorem dX8_messageLine_66 : decode cX8_messageLine 66 = .ok (.ifCond .eq 77, 3) := by decide +kernel
theorem dX8_messageLine_69 : decode cX8_messageLine 69 = .ok (.aload_n 0, 1) := by decide +kernel
theorem dX8_messageLine_70 : decode cX8_messageLine 70 = .ok (.iconst 0, 1) := by decide +kernel
theorem dX8_messageLine_71 : decode cX8_messageLine 71 = .ok (.sipush 255, 3) := by decide +kernel
theorem dX8_messageLine_74 : decode cX8_messageLine 74 = .ok (.invokevirtual 101, 3) := by decide +kernel
theorem dX8_messageLine_77 : decode cX8_messageLine 77 = .ok (.istore 5, 2) := by decide +kernel
theorem dX8_messageLine_79 : decode cX8_messageLine 79 = .ok (.aload_n 0, 1) := by decide +kernel
theorem dX8_messageLine_80 : decode cX8_messageLine 80 = .ok (.iload_n 3, 1) := by decide +kernel
theorem dX8_messageLine_81 : decode cX8_messageLine 81 = .ok (.bipush 8, 2) := by decide +kernel
theorem dX8_messageLine_83 : decode cX8_messageLine 83 = .ok (.if_icmp .ge 7, 3) := by decide +kernel
theorem dX8_messageLine_86 : decode cX8_messageLine 86 = .ok (.iconst 1, 1) := by decide +kernel
theorem dX8_messageLine_87 : decode cX8_messageLine 87 = .ok (.goto 4, 3) := by decide +kernel
theorem dX8_messageLine_90 : decode cX8_messageLine 90 = .ok (.iconst 0, 1) := by decide +kernel
theorem dX8_messageLine_91 : decode cX8_messageLine 91 = .ok (.iconst 4, 1) := by decide +kernel
theorem dX8_messageLine_92 : decode cX8_messageLine 92 = .ok (.invokevirtual 97, 3) := by decide +kernel
theorem dX8_messageLine_95 : decode cX8_messageLine 95 = .ok (.ifCond .eq 16, 3) := by decide +kernel
theorem dX8_messageLine_98 : decode cX8_messageLine 98 = .ok (.aload_n 0, 1) := by decide +kernel
theorem dX8_messageLine_99 : decode cX8_messageLine 99 = .ok (.getfield 13, 3) := by decide +kernel
theorem dX8_messageLine_102 : decode cX8_messageLine 102 = .ok (.iload_n 1, 1) := by decide +kernel
theorem dX8_messageLine_103 : decode cX8_messageLine 103 = .ok (.iload_n 2, 1) := by decide +kernel
theorem dX8_messageLine_104 : decode cX8_messageLine 104 = .ok (.iload_n 3, 1) := by decide +kernel
theorem dX8_messageLine_105 : decode cX8_messageLine 105 = .ok (.invokestatic 131, 3) := by decide +kernel
theorem dX8_messageLine_108 : decode cX8_messageLine 108 = .ok (.iload 5, 2) := by decide +kernel
theorem dX8_messageLine_110 : decode cX8_messageLine 110 = .ok (.iastore, 1) := by decide +kernel
theorem dX8_messageLine_111 : decode cX8_messageLine 111 = .ok (.iinc 3 1, 3) := by decide +kernel
theorem dX8_messageLine_114 : decode cX8_messageLine 114 = .ok (.aload_n 0, 1) := by decide +kernel
theorem dX8_messageLine_115 : decode cX8_messageLine 115 = .ok (.invokevirtual 105, 3) := by decide +kernel
theorem dX8_messageLine_118 : decode cX8_messageLine 118 = .ok (.aload_n 0, 1) := by decide +kernel
theorem dX8_messageLine_119 : decode cX8_messageLine 119 = .ok (.getfield 79, 3) := by decide +kernel
theorem dX8_messageLine_122 : decode cX8_messageLine 122 = .ok (.ifCond .ne 15, 3) := by decide +kernel
theorem dX8_messageLine_125 : decode cX8_messageLine 125 = .ok (.aload_n 0, 1) := by decide +kernel
theorem dX8_messageLine_126 : decode cX8_messageLine 126 = .ok (.getfield 69, 3) := by decide +kernel
theorem dX8_messageLine_129 : decode cX8_messageLine 129 = .ok (.iconst 2, 1) := by decide +kernel
theorem dX8_messageLine_130 : decode cX8_messageLine 130 = .ok (.if_icmp .ne 7, 3) := by decide +kernel
theorem dX8_messageLine_133 : decode cX8_messageLine 133 = .ok (.iconst 1, 1) := by decide +kernel
theorem dX8_messageLine_134 : decode cX8_messageLine 134 = .ok (.goto 4, 3) := by decide +kernel
theorem dX8_messageLine_137 : decode cX8_messageLine 137 = .ok (.iconst 0, 1) := by decide +kernel
theorem dX8_messageLine_138 : decode cX8_messageLine 138 = .ok (.istore 4, 2) := by decide +kernel
theorem dX8_messageLine_140 : decode cX8_messageLine 140 = .ok (.goto (-76), 3) := by decide +kernel
theorem dX8_messageLine_143 : decode cX8_messageLine 143 = .ok (.aload_n 0, 1) := by decide +kernel
theorem dX8_messageLine_144 : decode cX8_messageLine 144 = .ok (.getfield 79, 3) := by decide +kernel
theorem dX8_messageLine_147 : decode cX8_messageLine 147 = .ok (.ifCond .eq 4, 3) := by decide +kernel
theorem dX8_messageLine_150 : decode cX8_messageLine 150 = .ok (.return_, 1) := by decide +kernel
theorem dX8_messageLine_151 : decode cX8_messageLine 151 = .ok (.aload_n 0, 1) := by decide +kernel
theorem dX8_messageLine_152 : decode cX8_messageLine 152 = .ok (.getfield 13, 3) := by decide +kernel
theorem dX8_messageLine_155 : decode cX8_messageLine 155 = .ok (.iload_n 1, 1) := by decide +kernel
theorem dX8_messageLine_156 : decode cX8_messageLine 156 = .ok (.iload_n 2, 1) := by decide +kernel
theorem dX8_messageLine_157 : decode cX8_messageLine 157 = .ok (.invokestatic 135, 3) := by decide +kernel
theorem dX8_messageLine_160 : decode cX8_messageLine 160 = .ok (.iload_n 3, 1) := by decide +kernel
theorem dX8_messageLine_161 : decode cX8_messageLine 161 = .ok (.iastore, 1) := by decide +kernel
theorem dX8_messageLine_162 : decode cX8_messageLine 162 = .ok (.aload_n 0, 1) := by decide +kernel
theorem dX8_messageLine_163 : decode cX8_messageLine 163 = .ok (.getfield 13, 3) := by decide +kernel
theorem dX8_messageLine_166 : decode cX8_messageLine 166 = .ok (.iload_n 1, 1) := by decide +kernel
theorem dX8_messageLine_167 : decode cX8_messageLine 167 = .ok (.iconst 0, 1) := by decide +kernel
theorem dX8_messageLine_168 : decode cX8_messageLine 168 = .ok (.invokestatic 115, 3) := by decide +kernel
theorem dX8_messageLine_171 : decode cX8_messageLine 171 = .ok (.dup2, 1) := by decide +kernel
theorem dX8_messageLine_172 : decode cX8_messageLine 172 = .ok (.iaload, 1) := by decide +kernel
theorem dX8_messageLine_173 : decode cX8_messageLine 173 = .ok (.iconst 1, 1) := by decide +kernel
theorem dX8_messageLine_174 : decode cX8_messageLine 174 = .ok (.iadd, 1) := by decide +kernel
theorem dX8_messageLine_175 : decode cX8_messageLine 175 = .ok (.iastore, 1) := by decide +kernel
theorem dX8_messageLine_176 : decode cX8_messageLine 176 = .ok (.return_, 1) := by decide +kernel
theorem dX8_loseLine_0 : decode cX8_loseLine 0 = .ok (.aload_n 0, 1) := by decide +kernel
theorem dX8_loseLine_1 : decode cX8_loseLine 1 = .ok (.aload_n 0, 1) := by decide +kernel
theorem dX8_loseLine_2 : decode cX8_loseLine 2 = .ok (.getfield 13, 3) := by decide +kernel
theorem dX8_loseLine_5 : decode cX8_loseLine 5 = .ok (.bipush 7, 2) := by decide +kernel
theorem dX8_loseLine_7 : decode cX8_loseLine 7 = .ok (.iaload, 1) := by decide +kernel
theorem dX8_loseLine_8 : decode cX8_loseLine 8 = .ok (.bipush 20, 2) := by decide +kernel
theorem dX8_loseLine_10 : decode cX8_loseLine 10 = .ok (.if_icmp .ge 7, 3) := by decide +kernel
theorem dX8_loseLine_13 : decode cX8_loseLine 13 = .ok (.iconst 1, 1) := by decide +kernel
theorem dX8_loseLine_14 : decode cX8_loseLine 14 = .ok (.goto 4, 3) := by decide +kernel
theorem dX8_loseLine_17 : decode cX8_loseLine 17 = .ok (.iconst 0, 1) := by decide +kernel
theorem dX8_loseLine_18 : decode cX8_loseLine 18 = .ok (.iconst 4, 1) := by decide +kernel
theorem dX8_loseLine_19 : decode cX8_loseLine 19 = .ok (.invokevirtual 97, 3) := by decide +kernel
theorem dX8_loseLine_22 : decode cX8_loseLine 22 = .ok (.ifCond .ne 4, 3) := by decide +kernel
theorem dX8_loseLine_25 : decode cX8_loseLine 25 = .ok (.return_, 1) := by decide +kernel
theorem dX8_loseLine_26 : decode cX8_loseLine 26 = .ok (.aload_n 0, 1) := by decide +kernel
theorem dX8_loseLine_27 : decode cX8_loseLine 27 = .ok (.invokevirtual 105, 3) := by decide +kernel
theorem dX8_loseLine_30 : decode cX8_loseLine 30 = .ok (.aload_n 0, 1) := by decide +kernel
theorem dX8_loseLine_31 : decode cX8_loseLine 31 = .ok (.iconst 0, 1) := by decide +kernel
theorem dX8_loseLine_32 : decode cX8_loseLine 32 = .ok (.sipush 499, 3) := by decide +kernel
theorem dX8_loseLine_35 : decode cX8_loseLine 35 = .ok (.invokevirtual 101, 3) := by decide +kernel
theorem dX8_loseLine_38 : decode cX8_loseLine 38 = .ok (.istore_n 1, 1) := by decide +kernel
theorem dX8_loseLine_39 : decode cX8_loseLine 39 = .ok (.aload_n 0, 1) := by decide +kernel
theorem dX8_loseLine_40 : decode cX8_loseLine 40 = .ok (.aload_n 0, 1) := by decide +kernel
theorem dX8_loseLine_41 : decode cX8_loseLine 41 = .ok (.iload_n 1, 1) := by decide +kernel
theorem dX8_loseLine_42 : decode cX8_loseLine 42 = .ok (.invokevirtual 138, 3) := by decide +kernel
theorem dX8_loseLine_45 : decode cX8_loseLine 45 = .ok (.ifCond .ne 7, 3) := by decide +kernel
theorem dX8_loseLine_48 : decode cX8_loseLine 48 = .ok (.iconst 1, 1) := by decide +kernel
theorem dX8_loseLine_49 : decode cX8_loseLine 49 = .ok (.goto 4, 3) := by decide +kernel
theorem dX8_loseLine_52 : decode cX8_loseLine 52 = .ok (.iconst 0, 1) := by decide +kernel
theorem dX8_loseLine_53 : decode cX8_loseLine 53 = .ok (.iconst 2, 1) := by decide +kernel
theorem dX8_loseLine_54 : decode cX8_loseLine 54 = .ok (.invokevirtual 97, 3) := by decide +kernel
theorem dX8_loseLine_57 : decode cX8_loseLine 57 = .ok (.ifCond .ne 4, 3) := by decide +kernel
theorem dX8_loseLine_60 : decode cX8_loseLine 60 = .ok (.return_, 1) := by decide +kernel
theorem dX8_loseLine_61 : decode cX8_loseLine 61 = .ok (.aload_n 0, 1) := by decide +kernel
theorem dX8_loseLine_62 : decode cX8_loseLine 62 = .ok (.getfield 13, 3) := by decide +kernel
theorem dX8_loseLine_65 : decode cX8_loseLine 65 = .ok (.sipush 400, 3) := by decide +kernel
theorem dX8_loseLine_68 : decode cX8_loseLine 68 = .ok (.aload_n 0, 1) := by decide +kernel
theorem dX8_loseLine_69 : decode cX8_loseLine 69 = .ok (.getfield 13, 3) := by decide +kernel
theorem dX8_loseLine_72 : decode cX8_loseLine 72 = .ok (.bipush 7, 2) := by decide +kernel
theorem dX8_loseLine_74 : decode cX8_loseLine 74 = .ok (.iaload, 1) := by decide +kernel
theorem dX8_loseLine_75 : decode cX8_loseLine 75 = .ok (.iadd, 1) := by decide +kernel
theorem dX8_loseLine_76 : decode cX8_loseLine 76 = .ok (.iload_n 1, 1) := by decide +kernel
theorem dX8_loseLine_77 : decode cX8_loseLine 77 = .ok (.iastore, 1) := by decide +kernel
theorem dX8_loseLine_78 : decode cX8_loseLine 78 = .ok (.aload_n 0, 1) := by decide +kernel
theorem dX8_loseLine_79 : decode cX8_loseLine 79 = .ok (.getfield 13, 3) := by decide +kernel
theorem dX8_loseLine_82 : decode cX8_loseLine 82 = .ok (.bipush 7, 2) := by decide +kernel
theorem dX8_loseLine_84 : decode cX8_loseLine 84 = .ok (.dup2, 1) := by decide +kernel
theorem dX8_loseLine_85 : decode cX8_loseLine 85 = .ok (.iaload, 1) := by decide +kernel
theorem dX8_loseLine_86 : decode cX8_loseLine 86 = .ok (.iconst 1, 1) := by decide +kernel
theorem dX8_loseLine_87 : decode cX8_loseLine 87 = .ok (.iadd, 1) := by decide +kernel
theorem dX8_loseLine_88 : decode cX8_loseLine 88 = .ok (.iastore, 1) := by decide +kernel
theorem dX8_loseLine_89 : decode cX8_loseLine 89 = .ok (.aload_n 0, 1) := by decide +kernel
theorem dX8_loseLine_90 : decode cX8_loseLine 90 = .ok (.invokevirtual 105, 3) := by decide +kernel
theorem dX8_loseLine_93 : decode cX8_loseLine 93 = .ok (.return_, 1) := by decide +kernel
theorem dX8_statement_0 : decode cX8_statement 0 = .ok (.aload_n 0, 1) := by decide +kernel
theorem dX8_statement_1 : decode cX8_statement 1 = .ok (.ldc 142, 2) := by decide +kernel
theorem dX8_statement_3 : decode cX8_statement 3 = .ok (.invokevirtual 144, 3) := by decide +kernel
theorem dX8_statement_6 : decode cX8_statement 6 = .ok (.ifCond .eq 10, 3) := by decide +kernel
theorem dX8_statement_9 : decode cX8_statement 9 = .ok (.aload_n 0, 1) := by decide +kernel
theorem dX8_statement_10 : decode cX8_statement 10 = .ok (.invokevirtual 148, 3) := by decide +kernel
theorem dX8_statement_13 : decode cX8_statement 13 = .ok (.goto 42, 3) := by decide +kernel
theorem dX8_statement_16 : decode cX8_statement 16 = .ok (.aload_n 0, 1) := by decide +kernel
theorem dX8_statement_17 : decode cX8_statement 17 = .ok (.ldc 151, 2) := by decide +kernel
theorem dX8_statement_19 : decode cX8_statement 19 = .ok (.invokevirtual 144, 3) := by decide +kernel
theorem dX8_statement_22 : decode cX8_statement 22 = .ok (.ifCond .eq 10, 3) := by decide +kernel
theorem dX8_statement_25 : decode cX8_statement 25 = .ok (.aload_n 0, 1) := by decide +kernel
theorem dX8_statement_26 : decode cX8_statement 26 = .ok (.invokevirtual 153, 3) := by decide +kernel
theorem dX8_statement_29 : decode cX8_statement 29 = .ok (.goto 26, 3) := by decide +kernel
theorem dX8_statement_32 : decode cX8_statement 32 = .ok (.aload_n 0, 1) := by decide +kernel
theorem dX8_statement_33 : decode cX8_statement 33 = .ok (.ldc 156, 2) := by decide +kernel
theorem dX8_statement_35 : decode cX8_statement 35 = .ok (.invokevirtual 144, 3) := by decide +kernel
theorem dX8_statement_38 : decode cX8_statement 38 = .ok (.ifCond .eq 10, 3) := by decide +kernel
theorem dX8_statement_41 : decode cX8_statement 41 = .ok (.aload_n 0, 1) := by decide +kernel
theorem dX8_statement_42 : decode cX8_statement 42 = .ok (.invokevirtual 158, 3) := by decide +kernel
theorem dX8_statement_45 : decode cX8_statement 45 = .ok (.goto 10, 3) := by decide +kernel
theorem dX8_statement_48 : decode cX8_statement 48 = .ok (.aload_n 0, 1) := by decide +kernel
theorem dX8_statement_49 : decode cX8_statement 49 = .ok (.iconst 0, 1) := by decide +kernel
theorem dX8_statement_50 : decode cX8_statement 50 = .ok (.iconst 1, 1) := by decide +kernel
theorem dX8_statement_51 : decode cX8_statement 51 = .ok (.invokevirtual 97, 3) := by decide +kernel
theorem dX8_statement_54 : decode cX8_statement 54 = .ok (.pop, 1) := by decide +kernel
theorem dX8_statement_55 : decode cX8_statement 55 = .ok (.aload_n 0, 1) := by decide +kernel
theorem dX8_statement_56 : decode cX8_statement 56 = .ok (.aload_n 0, 1) := by decide +kernel
theorem dX8_statement_57 : decode cX8_statement 57 = .ok (.getfield 69, 3) := by decide +kernel
theorem dX8_statement_60 : decode cX8_statement 60 = .ok (.iconst 3, 1) := by decide +kernel
theorem dX8_statement_61 : decode cX8_statement 61 = .ok (.if_icmp .ne 7, 3) := by decide +kernel
theorem dX8_statement_64 : decode cX8_statement 64 = .ok (.iconst 1, 1) := by decide +kernel
theorem dX8_statement_65 : decode cX8_statement 65 = .ok (.goto 4, 3) := by decide +kernel
theorem dX8_statement_68 : decode cX8_statement 68 = .ok (.iconst 0, 1) := by decide +kernel
theorem dX8_statement_69 : decode cX8_statement 69 = .ok (.iconst 1, 1) := by decide +kernel
theorem dX8_statement_70 : decode cX8_statement 70 = .ok (.invokevirtual 97, 3) := by decide +kernel
theorem dX8_statement_73 : decode cX8_statement 73 = .ok (.ifCond .eq 7, 3) := by decide +kernel
theorem dX8_statement_76 : decode cX8_statement 76 = .ok (.aload_n 0, 1) := by decide +kernel
theorem dX8_statement_77 : decode cX8_statement 77 = .ok (.invokevirtual 94, 3) := by decide +kernel
theorem dX8_statement_80 : decode cX8_statement 80 = .ok (.return_, 1) := by decide +kernel
theorem dX8_parse_0 : decode cX8_parse 0 = .ok (.aload_n 0, 1) := by decide +kernel
theorem dX8_parse_1 : decode cX8_parse 1 = .ok (.iconst 0, 1) := by decide +kernel
theorem dX8_parse_2 : decode cX8_parse 2 = .ok (.putfield 45, 3) := by decide +kernel
theorem dX8_parse_5 : decode cX8_parse 5 = .ok (.iload_n 1, 1) := by decide +kernel
theorem dX8_parse_6 : decode cX8_parse 6 = .ok (.iconst 0, 1) := by decide +kernel
theorem dX8_parse_7 : decode cX8_parse 7 = .ok (.aload_n 0, 1) := by decide +kernel
theorem dX8_parse_8 : decode cX8_parse 8 = .ok (.getfield 49, 3) := by decide +kernel
theorem dX8_parse_11 : decode cX8_parse 11 = .ok (.invokestatic 72, 3) := by decide +kernel
theorem dX8_parse_14 : decode cX8_parse 14 = .ok (.ifCond .ne 9, 3) := by decide +kernel
theorem dX8_parse_17 : decode cX8_parse 17 = .ok (.aload_n 0, 1) := by decide +kernel
theorem dX8_parse_18 : decode cX8_parse 18 = .ok (.iconst 1, 1) := by decide +kernel
theorem dX8_parse_19 : decode cX8_parse 19 = .ok (.invokevirtual 161, 3) := by decide +kernel
theorem dX8_parse_22 : decode cX8_parse 22 = .ok (.ireturn, 1) := by decide +kernel
theorem dX8_parse_23 : decode cX8_parse 23 = .ok (.aload_n 0, 1) := by decide +kernel
theorem dX8_parse_24 : decode cX8_parse 24 = .ok (.iload_n 1, 1) := by decide +kernel
theorem dX8_parse_25 : decode cX8_parse 25 = .ok (.putfield 56, 3) := by decide +kernel
theorem dX8_parse_28 : decode cX8_parse 28 = .ok (.aload_n 0, 1) := by decide +kernel
theorem dX8_parse_29 : decode cX8_parse 29 = .ok (.iconst 0, 1) := by decide +kernel
theorem dX8_parse_30 : decode cX8_parse 30 = .ok (.putfield 49, 3) := by decide +kernel
theorem dX8_parse_33 : decode cX8_parse 33 = .ok (.aload_n 0, 1) := by decide +kernel
theorem dX8_parse_34 : decode cX8_parse 34 = .ok (.iconst 0, 1) := by decide +kernel
theorem dX8_parse_35 : decode cX8_parse 35 = .ok (.putfield 59, 3) := by decide +kernel
theorem dX8_parse_38 : decode cX8_parse 38 = .ok (.aload_n 0, 1) := by decide +kernel
theorem dX8_parse_39 : decode cX8_parse 39 = .ok (.iconst 0, 1) := by decide +kernel
theorem dX8_parse_40 : decode cX8_parse 40 = .ok (.putfield 79, 3) := by decide +kernel
theorem dX8_parse_43 : decode cX8_parse 43 = .ok (.aload_n 0, 1) := by decide +kernel
theorem dX8_parse_44 : decode cX8_parse 44 = .ok (.iconst 0, 1) := by decide +kernel
theorem dX8_parse_45 : decode cX8_parse 45 = .ok (.putfield 121, 3) := by decide +kernel
theorem dX8_parse_48 : decode cX8_parse 48 = .ok (.aload_n 0, 1) := by decide +kernel
theorem dX8_parse_49 : decode cX8_parse 49 = .ok (.iconst 0, 1) := by decide +kernel
theorem dX8_parse_50 : decode cX8_parse 50 = .ok (.putfield 125, 3) := by decide +kernel
theorem dX8_parse_53 : decode cX8_parse 53 = .ok (.aload_n 0, 1) := by decide +kernel
theorem dX8_parse_54 : decode cX8_parse 54 = .ok (.getfield 13, 3) := by decide +kernel
theorem dX8_parse_57 : decode cX8_parse 57 = .ok (.iconst 0, 1) := by decide +kernel
theorem dX8_parse_58 : decode cX8_parse 58 = .ok (.aload_n 0, 1) := by decide +kernel
theorem dX8_parse_59 : decode cX8_parse 59 = .ok (.getfield 17, 3) := by decide +kernel
theorem dX8_parse_62 : decode cX8_parse 62 = .ok (.iconst 0, 1) := by decide +kernel
theorem dX8_parse_63 : decode cX8_parse 63 = .ok (.invokestatic 111, 3) := by decide +kernel
theorem dX8_parse_66 : decode cX8_parse 66 = .ok (.aload_n 0, 1) := by decide +kernel
theorem dX8_parse_67 : decode cX8_parse 67 = .ok (.invokevirtual 39, 3) := by decide +kernel
theorem dX8_parse_70 : decode cX8_parse 70 = .ok (.aload_n 0, 1) := by decide +kernel
theorem dX8_parse_71 : decode cX8_parse 71 = .ok (.invokevirtual 94, 3) := by decide +kernel
theorem dX8_parse_74 : decode cX8_parse 74 = .ok (.aload_n 0, 1) := by decide +kernel
theorem dX8_parse_75 : decode cX8_parse 75 = .ok (.aload_n 0, 1) := by decide +kernel
theorem dX8_parse_76 : decode cX8_parse 76 = .ok (.ldc 164, 2) := by decide +kernel
theorem dX8_parse_78 : decode cX8_parse 78 = .ok (.invokevirtual 144, 3) := by decide +kernel
theorem dX8_parse_81 : decode cX8_parse 81 = .ok (.iconst 1, 1) := by decide +kernel
theorem dX8_parse_82 : decode cX8_parse 82 = .ok (.invokevirtual 97, 3) := by decide +kernel
theorem dX8_parse_85 : decode cX8_parse 85 = .ok (.pop, 1) := by decide +kernel
theorem dX8_parse_86 : decode cX8_parse 86 = .ok (.aload_n 0, 1) := by decide +kernel
theorem dX8_parse_87 : decode cX8_parse 87 = .ok (.invokevirtual 105, 3) := by decide +kernel
theorem dX8_parse_90 : decode cX8_parse 90 = .ok (.aload_n 0, 1) := by decide +kernel
theorem dX8_parse_91 : decode cX8_parse 91 = .ok (.getfield 13, 3) := by decide +kernel
theorem dX8_parse_94 : decode cX8_parse 94 = .ok (.iconst 4, 1) := by decide +kernel
theorem dX8_parse_95 : decode cX8_parse 95 = .ok (.aload_n 0, 1) := by decide +kernel
theorem dX8_parse_96 : decode cX8_parse 96 = .ok (.iconst 1, 1) := by decide +kernel
theorem dX8_parse_97 : decode cX8_parse 97 = .ok (.bipush 7, 2) := by decide +kernel
theorem dX8_parse_99 : decode cX8_parse 99 = .ok (.invokevirtual 128, 3) := by decide +kernel
theorem dX8_parse_102 : decode cX8_parse 102 = .ok (.iastore, 1) := by decide +kernel
theorem dX8_parse_103 : decode cX8_parse 103 = .ok (.aload_n 0, 1) := by decide +kernel
theorem dX8_parse_104 : decode cX8_parse 104 = .ok (.getfield 13, 3) := by decide +kernel
theorem dX8_parse_107 : decode cX8_parse 107 = .ok (.iconst 5, 1) := by decide +kernel
theorem dX8_parse_108 : decode cX8_parse 108 = .ok (.aload_n 0, 1) := by decide +kernel
theorem dX8_parse_109 : decode cX8_parse 109 = .ok (.iconst 1, 1) := by decide +kernel
theorem dX8_parse_110 : decode cX8_parse 110 = .ok (.bipush 99, 2) := by decide +kernel
theorem dX8_parse_112 : decode cX8_parse 112 = .ok (.invokevirtual 128, 3) := by decide +kernel
theorem dX8_parse_115 : decode cX8_parse 115 = .ok (.iastore, 1) := by decide +kernel
theorem dX8_parse_116 : decode cX8_parse 116 = .ok (.aload_n 0, 1) := by decide +kernel
theorem dX8_parse_117 : decode cX8_parse 117 = .ok (.aload_n 0, 1) := by decide +kernel
theorem dX8_parse_118 : decode cX8_parse 118 = .ok (.getfield 69, 3) := by decide +kernel
theorem dX8_parse_121 : decode cX8_parse 121 = .ok (.iconst 3, 1) := by decide +kernel
theorem dX8_parse_122 : decode cX8_parse 122 = .ok (.if_icmp .ne 7, 3) := by decide +kernel
theorem dX8_parse_125 : decode cX8_parse 125 = .ok (.iconst 1, 1) := by decide +kernel
theorem dX8_parse_126 : decode cX8_parse 126 = .ok (.goto 4, 3) := by decide +kernel
theorem dX8_parse_129 : decode cX8_parse 129 = .ok (.iconst 0, 1) := by decide +kernel
theorem dX8_parse_130 : decode cX8_parse 130 = .ok (.iconst 1, 1) := by decide +kernel
theorem dX8_parse_131 : decode cX8_parse 131 = .ok (.invokevirtual 97, 3) := by decide +kernel
theorem dX8_parse_134 : decode cX8_parse 134 = .ok (.ifCond .eq 7, 3) := by decide +kernel
theorem dX8_parse_137 : decode cX8_parse 137 = .ok (.aload_n 0, 1) := by decide +kernel
theorem dX8_parse_138 : decode cX8_parse 138 = .ok (.invokevirtual 94, 3) := by decide +kernel
theorem dX8_parse_141 : decode cX8_parse 141 = .ok (.aload_n 0, 1) := by decide +kernel
theorem dX8_parse_142 : decode cX8_parse 142 = .ok (.getfield 79, 3) := by decide +kernel
theorem dX8_parse_145 : decode cX8_parse 145 = .ok (.ifCond .ne 17, 3) := by decide +kernel
theorem dX8_parse_148 : decode cX8_parse 148 = .ok (.aload_n 0, 1) := by decide +kernel
theorem dX8_parse_149 : decode cX8_parse 149 = .ok (.getfield 69, 3) := by decide +kernel
theorem dX8_parse_152 : decode cX8_parse 152 = .ok (.ifCond .eq 10, 3) := by decide +kernel
theorem dX8_parse_155 : decode cX8_parse 155 = .ok (.aload_n 0, 1) := by decide +kernel
theorem dX8_parse_156 : decode cX8_parse 156 = .ok (.invokevirtual 165, 3) := by decide +kernel
theorem dX8_parse_159 : decode cX8_parse 159 = .ok (.goto (-18), 3) := by decide +kernel
theorem dX8_parse_162 : decode cX8_parse 162 = .ok (.aload_n 0, 1) := by decide +kernel
theorem dX8_parse_163 : decode cX8_parse 163 = .ok (.getfield 79, 3) := by decide +kernel
theorem dX8_parse_166 : decode cX8_parse 166 = .ok (.ifCond .eq 32, 3) := by decide +kernel
theorem dX8_parse_169 : decode cX8_parse 169 = .ok (.aload_n 0, 1) := by decide +kernel
theorem dX8_parse_170 : decode cX8_parse 170 = .ok (.getfield 17, 3) := by decide +kernel
theorem dX8_parse_173 : decode cX8_parse 173 = .ok (.iconst 0, 1) := by decide +kernel
theorem dX8_parse_174 : decode cX8_parse 174 = .ok (.aload_n 0, 1) := by decide +kernel
theorem dX8_parse_175 : decode cX8_parse 175 = .ok (.getfield 13, 3) := by decide +kernel
theorem dX8_parse_178 : decode cX8_parse 178 = .ok (.iconst 0, 1) := by decide +kernel
theorem dX8_parse_179 : decode cX8_parse 179 = .ok (.invokestatic 111, 3) := by decide +kernel
theorem dX8_parse_182 : decode cX8_parse 182 = .ok (.bipush (-2), 2) := by decide +kernel
theorem dX8_parse_184 : decode cX8_parse 184 = .ok (.bipush 8, 2) := by decide +kernel
theorem dX8_parse_186 : decode cX8_parse 186 = .ok (.aload_n 0, 1) := by decide +kernel
theorem dX8_parse_187 : decode cX8_parse 187 = .ok (.getfield 82, 3) := by decide +kernel
theorem dX8_parse_190 : decode cX8_parse 190 = .ok (.imul, 1) := by decide +kernel
theorem dX8_parse_191 : decode cX8_parse 191 = .ok (.aload_n 0, 1) := by decide +kernel
theorem dX8_parse_192 : decode cX8_parse 192 = .ok (.getfield 79, 3) := by decide +kernel
theorem dX8_parse_195 : decode cX8_parse 195 = .ok (.iadd, 1) := by decide +kernel
theorem dX8_parse_196 : decode cX8_parse 196 = .ok (.isub, 1) := by decide +kernel
theorem dX8_parse_197 : decode cX8_parse 197 = .ok (.ireturn, 1) := by decide +kernel
theorem dX8_parse_198 : decode cX8_parse 198 = .ok (.aload_n 0, 1) := by decide +kernel
theorem dX8_parse_199 : decode cX8_parse 199 = .ok (.invokevirtual 42, 3) := by decide +kernel
theorem dX8_parse_202 : decode cX8_parse 202 = .ok (.aload_n 0, 1) := by decide +kernel
theorem dX8_parse_203 : decode cX8_parse 203 = .ok (.iconst 0, 1) := by decide +kernel
theorem dX8_parse_204 : decode cX8_parse 204 = .ok (.iconst 0, 1) := by decide +kernel
theorem dX8_parse_205 : decode cX8_parse 205 = .ok (.invokevirtual 118, 3) := by decide +kernel
theorem dX8_parse_208 : decode cX8_parse 208 = .ok (.aload_n 0, 1) := by decide +kernel
theorem dX8_parse_209 : decode cX8_parse 209 = .ok (.iconst 1, 1) := by decide +kernel
theorem dX8_parse_210 : decode cX8_parse 210 = .ok (.iconst 0, 1) := by decide +kernel
theorem dX8_parse_211 : decode cX8_parse 211 = .ok (.invokevirtual 118, 3) := by decide +kernel
theorem dX8_parse_214 : decode cX8_parse 214 = .ok (.iadd, 1) := by decide +kernel
theorem dX8_parse_215 : decode cX8_parse 215 = .ok (.ireturn, 1) := by decide +kernel
theorem dX8_isLost_0 : decode cX8_isLost 0 = .ok (.iconst 0, 1) := by decide +kernel
theorem dX8_isLost_1 : decode cX8_isLost 1 = .ok (.istore_n 2, 1) := by decide +kernel
theorem dX8_isLost_2 : decode cX8_isLost 2 = .ok (.iconst 0, 1) := by decide +kernel
theorem dX8_isLost_3 : decode cX8_isLost 3 = .ok (.istore_n 3, 1) := by decide +kernel
theorem dX8_isLost_4 : decode cX8_isLost 4 = .ok (.iload_n 3, 1) := by decide +kernel
theorem dX8_isLost_5 : decode cX8_isLost 5 = .ok (.aload_n 0, 1) := by decide +kernel
theorem dX8_isLost_6 : decode cX8_isLost 6 = .ok (.getfield 13, 3) := by decide +kernel
theorem dX8_isLost_9 : decode cX8_isLost 9 = .ok (.bipush 7, 2) := by decide +kernel
theorem dX8_isLost_11 : decode cX8_isLost 11 = .ok (.iaload, 1) := by decide +kernel
theorem dX8_isLost_12 : decode cX8_isLost 12 = .ok (.if_icmp .ge 31, 3) := by decide +kernel
theorem dX8_isLost_15 : decode cX8_isLost 15 = .ok (.iload_n 2, 1) := by decide +kernel
theorem dX8_isLost_16 : decode cX8_isLost 16 = .ok (.aload_n 0, 1) := by decide +kernel
theorem dX8_isLost_17 : decode cX8_isLost 17 = .ok (.getfield 13, 3) := by decide +kernel
theorem dX8_isLost_20 : decode cX8_isLost 20 = .ok (.sipush 400, 3) := by decide +kernel
theorem dX8_isLost_23 : decode cX8_isLost 23 = .ok (.iload_n 3, 1) := by decide +kernel
theorem dX8_isLost_24 : decode cX8_isLost 24 = .ok (.iadd, 1) := by decide +kernel
theorem dX8_isLost_25 : decode cX8_isLost 25 = .ok (.iaload, 1) := by decide +kernel
theorem dX8_isLost_26 : decode cX8_isLost 26 = .ok (.iload_n 1, 1) := by decide +kernel
theorem dX8_isLost_27 : decode cX8_isLost 27 = .ok (.if_icmp .ne 7, 3) := by decide +kernel
theorem dX8_isLost_30 : decode cX8_isLost 30 = .ok (.iconst 1, 1) := by decide +kernel
theorem dX8_isLost_31 : decode cX8_isLost 31 = .ok (.goto 4, 3) := by decide +kernel
theorem dX8_isLost_34 : decode cX8_isLost 34 = .ok (.iconst 0, 1) := by decide +kernel
theorem dX8_isLost_35 : decode cX8_isLost 35 = .ok (.ior, 1) := by decide +kernel
theorem dX8_isLost_36 : decode cX8_isLost 36 = .ok (.istore_n 2, 1) := by decide +kernel
theorem dX8_isLost_37 : decode cX8_isLost 37 = .ok (.iinc 3 1, 3) := by decide +kernel
theorem dX8_isLost_40 : decode cX8_isLost 40 = .ok (.goto (-36), 3) := by decide +kernel
theorem dX8_isLost_43 : decode cX8_isLost 43 = .ok (.iload_n 2, 1) := by decide +kernel
theorem dX8_isLost_44 : decode cX8_isLost 44 = .ok (.ireturn, 1) := by decide +kernel
theorem dX8_nextMessage_0 : decode cX8_nextMessage 0 = .ok (.aload_n 0, 1) := by decide +kernel
theorem dX8_nextMessage_1 : decode cX8_nextMessage 1 = .ok (.aload_n 0, 1) := by decide +kernel
theorem dX8_nextMessage_2 : decode cX8_nextMessage 2 = .ok (.getfield 13, 3) := by decide +kernel
theorem dX8_nextMessage_5 : decode cX8_nextMessage 5 = .ok (.iconst 1, 1) := by decide +kernel
theorem dX8_nextMessage_6 : decode cX8_nextMessage 6 = .ok (.iaload, 1) := by decide +kernel
theorem dX8_nextMessage_7 : decode cX8_nextMessage 7 = .ok (.bipush 6, 2) := by decide +kernel
theorem dX8_nextMessage_9 : decode cX8_nextMessage 9 = .ok (.invokevirtual 118, 3) := by decide +kernel
theorem dX8_nextMessage_12 : decode cX8_nextMessage 12 = .ok (.aload_n 0, 1) := by decide +kernel
theorem dX8_nextMessage_13 : decode cX8_nextMessage 13 = .ok (.getfield 13, 3) := by decide +kernel
theorem dX8_nextMessage_16 : decode cX8_nextMessage 16 = .ok (.iconst 2, 1) := by decide +kernel
theorem dX8_nextMessage_17 : decode cX8_nextMessage 17 = .ok (.iaload, 1) := by decide +kernel
theorem dX8_nextMessage_18 : decode cX8_nextMessage 18 = .ok (.iadd, 1) := by decide +kernel
theorem dX8_nextMessage_19 : decode cX8_nextMessage 19 = .ok (.ireturn, 1) := by decide +kernel
theorem dX8_isData_0 : decode cX8_isData 0 = .ok (.aload_n 0, 1) := by decide +kernel
theorem dX8_isData_1 : decode cX8_isData 1 = .ok (.getfield 13, 3) := by decide +kernel
theorem dX8_isData_4 : decode cX8_isData 4 = .ok (.iconst 1, 1) := by decide +kernel
theorem dX8_isData_5 : decode cX8_isData 5 = .ok (.iaload, 1) := by decide +kernel
theorem dX8_isData_6 : decode cX8_isData 6 = .ok (.istore_n 1, 1) := by decide +kernel
theorem dX8_isData_7 : decode cX8_isData 7 = .ok (.aload_n 0, 1) := by decide +kernel
theorem dX8_isData_8 : decode cX8_isData 8 = .ok (.getfield 13, 3) := by decide +kernel
theorem dX8_isData_11 : decode cX8_isData 11 = .ok (.bipush 6, 2) := by decide +kernel
theorem dX8_isData_13 : decode cX8_isData 13 = .ok (.iaload, 1) := by decide +kernel
theorem dX8_isData_14 : decode cX8_isData 14 = .ok (.ifCond .ne 49, 3) := by decide +kernel
theorem dX8_isData_17 : decode cX8_isData 17 = .ok (.aload_n 0, 1) := by decide +kernel
theorem dX8_isData_18 : decode cX8_isData 18 = .ok (.getfield 13, 3) := by decide +kernel
theorem dX8_isData_21 : decode cX8_isData 21 = .ok (.iconst 2, 1) := by decide +kernel
theorem dX8_isData_22 : decode cX8_isData 22 = .ok (.iaload, 1) := by decide +kernel
theorem dX8_isData_23 : decode cX8_isData 23 = .ok (.aload_n 0, 1) := by decide +kernel
theorem dX8_isData_24 : decode cX8_isData 24 = .ok (.getfield 13, 3) := by decide +kernel
theorem dX8_isData_27 : decode cX8_isData 27 = .ok (.iconst 4, 1) := by decide +kernel
theorem dX8_isData_28 : decode cX8_isData 28 = .ok (.iaload, 1) := by decide +kernel
theorem dX8_isData_29 : decode cX8_isData 29 = .ok (.if_icmp .ge 34, 3) := by decide +kernel
theorem dX8_isData_32 : decode cX8_isData 32 = .ok (.aload_n 0, 1) := by decide +kernel
theorem dX8_isData_33 : decode cX8_isData 33 = .ok (.invokevirtual 168, 3) := by decide +kernel
theorem dX8_isData_36 : decode cX8_isData 36 = .ok (.aload_n 0, 1) := by decide +kernel
theorem dX8_isData_37 : decode cX8_isData 37 = .ok (.iload_n 1, 1) := by decide +kernel
theorem dX8_isData_38 : decode cX8_isData 38 = .ok (.iconst 0, 1) := by decide +kernel
theorem dX8_isData_39 : decode cX8_isData 39 = .ok (.invokevirtual 118, 3) := by decide +kernel
theorem dX8_isData_42 : decode cX8_isData 42 = .ok (.if_icmp .ge 21, 3) := by decide +kernel
theorem dX8_isData_45 : decode cX8_isData 45 = .ok (.aload_n 0, 1) := by decide +kernel
theorem dX8_isData_46 : decode cX8_isData 46 = .ok (.invokevirtual 168, 3) := by decide +kernel
theorem dX8_isData_49 : decode cX8_isData 49 = .ok (.aload_n 0, 1) := by decide +kernel
theorem dX8_isData_50 : decode cX8_isData 50 = .ok (.iload_n 1, 1) := by decide +kernel
theorem dX8_isData_51 : decode cX8_isData 51 = .ok (.bipush 7, 2) := by decide +kernel
theorem dX8_isData_53 : decode cX8_isData 53 = .ok (.invokevirtual 118, 3) := by decide +kernel
theorem dX8_isData_56 : decode cX8_isData 56 = .ok (.if_icmp .ge 7, 3) := by decide +kernel
theorem dX8_isData_59 : decode cX8_isData 59 = .ok (.iconst 1, 1) := by decide +kernel
theorem dX8_isData_60 : decode cX8_isData 60 = .ok (.goto 4, 3) := by decide +kernel
theorem dX8_isData_63 : decode cX8_isData 63 = .ok (.iconst 0, 1) := by decide +kernel
theorem dX8_isData_64 : decode cX8_isData 64 = .ok (.ireturn, 1) := by decide +kernel
theorem dX8_says_0 : decode cX8_says 0 = .ok (.aload_n 0, 1) := by decide +kernel
theorem dX8_says_1 : decode cX8_says 1 = .ok (.getfield 33, 3) := by decide +kernel
theorem dX8_says_4 : decode cX8_says 4 = .ok (.aload_n 0, 1) := by decide +kernel
theorem dX8_says_5 : decode cX8_says 5 = .ok (.getfield 171, 3) := by decide +kernel
theorem dX8_says_8 : decode cX8_says 8 = .ok (.iload_n 1, 1) := by decide +kernel
theorem dX8_says_9 : decode cX8_says 9 = .ok (.sipush 255, 3) := by decide +kernel
theorem dX8_says_12 : decode cX8_says 12 = .ok (.iand, 1) := by decide +kernel
theorem dX8_says_13 : decode cX8_says 13 = .ok (.iastore, 1) := by decide +kernel
theorem dX8_says_14 : decode cX8_says 14 = .ok (.aload_n 0, 1) := by decide +kernel
theorem dX8_says_15 : decode cX8_says 15 = .ok (.dup, 1) := by decide +kernel
theorem dX8_says_16 : decode cX8_says 16 = .ok (.getfield 171, 3) := by decide +kernel
theorem dX8_says_19 : decode cX8_says 19 = .ok (.iconst 1, 1) := by decide +kernel
theorem dX8_says_20 : decode cX8_says 20 = .ok (.iadd, 1) := by decide +kernel
theorem dX8_says_21 : decode cX8_says 21 = .ok (.putfield 171, 3) := by decide +kernel
theorem dX8_says_24 : decode cX8_says 24 = .ok (.return_, 1) := by decide +kernel
theorem dX8_sends_0 : decode cX8_sends 0 = .ok (.aload_n 0, 1) := by decide +kernel
theorem dX8_sends_1 : decode cX8_sends 1 = .ok (.getfield 36, 3) := by decide +kernel
theorem dX8_sends_4 : decode cX8_sends 4 = .ok (.aload_n 0, 1) := by decide +kernel
theorem dX8_sends_5 : decode cX8_sends 5 = .ok (.getfield 174, 3) := by decide +kernel
theorem dX8_sends_8 : decode cX8_sends 8 = .ok (.iload_n 1, 1) := by decide +kernel
theorem dX8_sends_9 : decode cX8_sends 9 = .ok (.iastore, 1) := by decide +kernel
theorem dX8_sends_10 : decode cX8_sends 10 = .ok (.aload_n 0, 1) := by decide +kernel
theorem dX8_sends_11 : decode cX8_sends 11 = .ok (.dup, 1) := by decide +kernel
theorem dX8_sends_12 : decode cX8_sends 12 = .ok (.getfield 174, 3) := by decide +kernel
theorem dX8_sends_15 : decode cX8_sends 15 = .ok (.iconst 1, 1) := by decide +kernel
theorem dX8_sends_16 : decode cX8_sends 16 = .ok (.iadd, 1) := by decide +kernel
theorem dX8_sends_17 : decode cX8_sends 17 = .ok (.putfield 174, 3) := by decide +kernel
theorem dX8_sends_20 : decode cX8_sends 20 = .ok (.return_, 1) := by decide +kernel
theorem dX8_lays_0 : decode cX8_lays 0 = .ok (.aload_n 0, 1) := by decide +kernel
theorem dX8_lays_1 : decode cX8_lays 1 = .ok (.getfield 13, 3) := by decide +kernel
theorem dX8_lays_4 : decode cX8_lays 4 = .ok (.iconst 1, 1) := by decide +kernel
theorem dX8_lays_5 : decode cX8_lays 5 = .ok (.iaload, 1) := by decide +kernel
theorem dX8_lays_6 : decode cX8_lays 6 = .ok (.istore_n 1, 1) := by decide +kernel
theorem dX8_lays_7 : decode cX8_lays 7 = .ok (.aload_n 0, 1) := by decide +kernel
theorem dX8_lays_8 : decode cX8_lays 8 = .ok (.invokevirtual 177, 3) := by decide +kernel
theorem dX8_lays_11 : decode cX8_lays 11 = .ok (.istore_n 2, 1) := by decide +kernel
theorem dX8_lays_12 : decode cX8_lays 12 = .ok (.aload_n 0, 1) := by decide +kernel
theorem dX8_lays_13 : decode cX8_lays 13 = .ok (.iconst 0, 1) := by decide +kernel
theorem dX8_lays_14 : decode cX8_lays 14 = .ok (.putfield 171, 3) := by decide +kernel
theorem dX8_lays_17 : decode cX8_lays 17 = .ok (.aload_n 0, 1) := by decide +kernel
theorem dX8_lays_18 : decode cX8_lays 18 = .ok (.iload_n 2, 1) := by decide +kernel
theorem dX8_lays_19 : decode cX8_lays 19 = .ok (.ifCond .eq 7, 3) := by decide +kernel
theorem dX8_lays_22 : decode cX8_lays 22 = .ok (.iconst 0, 1) := by decide +kernel
theorem dX8_lays_23 : decode cX8_lays 23 = .ok (.goto 4, 3) := by decide +kernel
theorem dX8_lays_26 : decode cX8_lays 26 = .ok (.iconst 1, 1) := by decide +kernel
theorem dX8_lays_27 : decode cX8_lays 27 = .ok (.iconst 2, 1) := by decide +kernel
theorem dX8_lays_28 : decode cX8_lays 28 = .ok (.iload_n 1, 1) := by decide +kernel
theorem dX8_lays_29 : decode cX8_lays 29 = .ok (.imul, 1) := by decide +kernel
theorem dX8_lays_30 : decode cX8_lays 30 = .ok (.iadd, 1) := by decide +kernel
theorem dX8_lays_31 : decode cX8_lays 31 = .ok (.invokevirtual 181, 3) := by decide +kernel
theorem dX8_lays_34 : decode cX8_lays 34 = .ok (.aload_n 0, 1) := by decide +kernel
theorem dX8_lays_35 : decode cX8_lays 35 = .ok (.iload_n 2, 1) := by decide +kernel
theorem dX8_lays_36 : decode cX8_lays 36 = .ok (.ifCond .eq 10, 3) := by decide +kernel
theorem dX8_lays_39 : decode cX8_lays 39 = .ok (.aload_n 0, 1) := by decide +kernel
theorem dX8_lays_40 : decode cX8_lays 40 = .ok (.invokevirtual 168, 3) := by decide +kernel
theorem dX8_lays_43 : decode cX8_lays 43 = .ok (.goto 10, 3) := by decide +kernel
theorem dX8_lays_46 : decode cX8_lays 46 = .ok (.aload_n 0, 1) := by decide +kernel
theorem dX8_lays_47 : decode cX8_lays 47 = .ok (.iload_n 1, 1) := by decide +kernel
theorem dX8_lays_48 : decode cX8_lays 48 = .ok (.bipush 9, 2) := by decide +kernel
theorem dX8_lays_50 : decode cX8_lays 50 = .ok (.invokevirtual 118, 3) := by decide +kernel
theorem dX8_lays_53 : decode cX8_lays 53 = .ok (.invokevirtual 181, 3) := by decide +kernel
theorem dX8_lays_56 : decode cX8_lays 56 = .ok (.aload_n 0, 1) := by decide +kernel
theorem dX8_lays_57 : decode cX8_lays 57 = .ok (.aload_n 0, 1) := by decide +kernel
theorem dX8_lays_58 : decode cX8_lays 58 = .ok (.iload_n 1, 1) := by decide +kernel
theorem dX8_lays_59 : decode cX8_lays 59 = .ok (.iconst 1, 1) := by decide +kernel
theorem dX8_lays_60 : decode cX8_lays 60 = .ok (.invokevirtual 118, 3) := by decide +kernel
theorem dX8_lays_63 : decode cX8_lays 63 = .ok (.invokevirtual 181, 3) := by decide +kernel
theorem dX8_lays_66 : decode cX8_lays 66 = .ok (.aload_n 0, 1) := by decide +kernel
theorem dX8_lays_67 : decode cX8_lays 67 = .ok (.aload_n 0, 1) := by decide +kernel
theorem dX8_lays_68 : decode cX8_lays 68 = .ok (.iload_n 1, 1) := by decide +kernel
theorem dX8_lays_69 : decode cX8_lays 69 = .ok (.invokevirtual 184, 3) := by decide +kernel
theorem dX8_lays_72 : decode cX8_lays 72 = .ok (.invokevirtual 181, 3) := by decide +kernel
theorem dX8_lays_75 : decode cX8_lays 75 = .ok (.aload_n 0, 1) := by decide +kernel
theorem dX8_lays_76 : decode cX8_lays 76 = .ok (.aload_n 0, 1) := by decide +kernel
theorem dX8_lays_77 : decode cX8_lays 77 = .ok (.iload_n 1, 1) := by decide +kernel
theorem dX8_lays_78 : decode cX8_lays 78 = .ok (.iconst 4, 1) := by decide +kernel
theorem dX8_lays_79 : decode cX8_lays 79 = .ok (.invokevirtual 118, 3) := by decide +kernel
theorem dX8_lays_82 : decode cX8_lays 82 = .ok (.invokevirtual 181, 3) := by decide +kernel
theorem dX8_lays_85 : decode cX8_lays 85 = .ok (.aload_n 0, 1) := by decide +kernel
theorem dX8_lays_86 : decode cX8_lays 86 = .ok (.aload_n 0, 1) := by decide +kernel
theorem dX8_lays_87 : decode cX8_lays 87 = .ok (.iload_n 1, 1) := by decide +kernel
theorem dX8_lays_88 : decode cX8_lays 88 = .ok (.iconst 5, 1) := by decide +kernel
theorem dX8_lays_89 : decode cX8_lays 89 = .ok (.invokevirtual 118, 3) := by decide +kernel
theorem dX8_lays_92 : decode cX8_lays 92 = .ok (.invokevirtual 181, 3) := by decide +kernel
theorem dX8_lays_95 : decode cX8_lays 95 = .ok (.iconst 0, 1) := by decide +kernel
theorem dX8_lays_96 : decode cX8_lays 96 = .ok (.istore_n 3, 1) := by decide +kernel
theorem dX8_lays_97 : decode cX8_lays 97 = .ok (.iload_n 2, 1) := by decide +kernel
theorem dX8_lays_98 : decode cX8_lays 98 = .ok (.ifCond .eq 44, 3) := by decide +kernel
theorem dX8_lays_101 : decode cX8_lays 101 = .ok (.iload_n 3, 1) := by decide +kernel
theorem dX8_lays_102 : decode cX8_lays 102 = .ok (.aload_n 0, 1) := by decide +kernel
theorem dX8_lays_103 : decode cX8_lays 103 = .ok (.getfield 13, 3) := by decide +kernel
theorem dX8_lays_106 : decode cX8_lays 106 = .ok (.iload_n 1, 1) := by decide +kernel
theorem dX8_lays_107 : decode cX8_lays 107 = .ok (.aload_n 0, 1) := by decide +kernel
theorem dX8_lays_108 : decode cX8_lays 108 = .ok (.invokevirtual 168, 3) := by decide +kernel
theorem dX8_lays_111 : decode cX8_lays 111 = .ok (.invokestatic 135, 3) := by decide +kernel
theorem dX8_lays_114 : decode cX8_lays 114 = .ok (.iaload, 1) := by decide +kernel
theorem dX8_lays_115 : decode cX8_lays 115 = .ok (.if_icmp .ge 27, 3) := by decide +kernel
theorem dX8_lays_118 : decode cX8_lays 118 = .ok (.aload_n 0, 1) := by decide +kernel
theorem dX8_lays_119 : decode cX8_lays 119 = .ok (.aload_n 0, 1) := by decide +kernel
theorem dX8_lays_120 : decode cX8_lays 120 = .ok (.getfield 13, 3) := by decide +kernel
theorem dX8_lays_123 : decode cX8_lays 123 = .ok (.iload_n 1, 1) := by decide +kernel
theorem dX8_lays_124 : decode cX8_lays 124 = .ok (.aload_n 0, 1) := by decide +kernel
theorem dX8_lays_125 : decode cX8_lays 125 = .ok (.invokevirtual 168, 3) := by decide +kernel
theorem dX8_lays_128 : decode cX8_lays 128 = .ok (.iload_n 3, 1) := by decide +kernel
theorem dX8_lays_129 : decode cX8_lays 129 = .ok (.invokestatic 131, 3) := by decide +kernel
theorem dX8_lays_132 : decode cX8_lays 132 = .ok (.iaload, 1) := by decide +kernel
theorem dX8_lays_133 : decode cX8_lays 133 = .ok (.invokevirtual 181, 3) := by decide +kernel
theorem dX8_lays_136 : decode cX8_lays 136 = .ok (.iinc 3 1, 3) := by decide +kernel
theorem dX8_lays_139 : decode cX8_lays 139 = .ok (.goto (-42), 3) := by decide +kernel
theorem dX8_lays_142 : decode cX8_lays 142 = .ok (.iconst 0, 1) := by decide +kernel
theorem dX8_lays_143 : decode cX8_lays 143 = .ok (.istore_n 3, 1) := by decide +kernel
theorem dX8_lays_144 : decode cX8_lays 144 = .ok (.iconst 0, 1) := by decide +kernel
theorem dX8_lays_145 : decode cX8_lays 145 = .ok (.istore 4, 2) := by decide +kernel
theorem dX8_lays_147 : decode cX8_lays 147 = .ok (.iload 4, 2) := by decide +kernel
theorem dX8_lays_149 : decode cX8_lays 149 = .ok (.aload_n 0, 1) := by decide +kernel
theorem dX8_lays_150 : decode cX8_lays 150 = .ok (.getfield 171, 3) := by decide +kernel
theorem dX8_lays_153 : decode cX8_lays 153 = .ok (.if_icmp .ge 19, 3) := by decide +kernel
theorem dX8_lays_156 : decode cX8_lays 156 = .ok (.iload_n 3, 1) := by decide +kernel
theorem dX8_lays_157 : decode cX8_lays 157 = .ok (.aload_n 0, 1) := by decide +kernel
theorem dX8_lays_158 : decode cX8_lays 158 = .ok (.getfield 33, 3) := by decide +kernel
theorem dX8_lays_161 : decode cX8_lays 161 = .ok (.iload 4, 2) := by decide +kernel
theorem dX8_lays_163 : decode cX8_lays 163 = .ok (.iaload, 1) := by decide +kernel
theorem dX8_lays_164 : decode cX8_lays 164 = .ok (.iadd, 1) := by decide +kernel
theorem dX8_lays_165 : decode cX8_lays 165 = .ok (.istore_n 3, 1) := by decide +kernel
theorem dX8_lays_166 : decode cX8_lays 166 = .ok (.iinc 4 1, 3) := by decide +kernel
theorem dX8_lays_169 : decode cX8_lays 169 = .ok (.goto (-22), 3) := by decide +kernel
theorem dX8_lays_172 : decode cX8_lays 172 = .ok (.aload_n 0, 1) := by decide +kernel
theorem dX8_lays_173 : decode cX8_lays 173 = .ok (.iload_n 3, 1) := by decide +kernel
theorem dX8_lays_174 : decode cX8_lays 174 = .ok (.invokevirtual 181, 3) := by decide +kernel
theorem dX8_lays_177 : decode cX8_lays 177 = .ok (.aload_n 0, 1) := by decide +kernel
theorem dX8_lays_178 : decode cX8_lays 178 = .ok (.iconst 0, 1) := by decide +kernel
theorem dX8_lays_179 : decode cX8_lays 179 = .ok (.putfield 174, 3) := by decide +kernel
theorem dX8_lays_182 : decode cX8_lays 182 = .ok (.aload_n 0, 1) := by decide +kernel
theorem dX8_lays_183 : decode cX8_lays 183 = .ok (.iconst 0, 1) := by decide +kernel
theorem dX8_lays_184 : decode cX8_lays 184 = .ok (.putfield 187, 3) := by decide +kernel
theorem dX8_lays_187 : decode cX8_lays 187 = .ok (.aload_n 0, 1) := by decide +kernel
theorem dX8_lays_188 : decode cX8_lays 188 = .ok (.bipush 126, 2) := by decide +kernel
theorem dX8_lays_190 : decode cX8_lays 190 = .ok (.invokevirtual 190, 3) := by decide +kernel
theorem dX8_lays_193 : decode cX8_lays 193 = .ok (.iconst 0, 1) := by decide +kernel
theorem dX8_lays_194 : decode cX8_lays 194 = .ok (.istore 4, 2) := by decide +kernel
theorem dX8_lays_196 : decode cX8_lays 196 = .ok (.iload 4, 2) := by decide +kernel
theorem dX8_lays_198 : decode cX8_lays 198 = .ok (.aload_n 0, 1) := by decide +kernel
theorem dX8_lays_199 : decode cX8_lays 199 = .ok (.getfield 171, 3) := by decide +kernel
theorem dX8_lays_202 : decode cX8_lays 202 = .ok (.if_icmp .ge 99, 3) := by decide +kernel
theorem dX8_lays_205 : decode cX8_lays 205 = .ok (.aload_n 0, 1) := by decide +kernel
theorem dX8_lays_206 : decode cX8_lays 206 = .ok (.getfield 33, 3) := by decide +kernel
theorem dX8_lays_209 : decode cX8_lays 209 = .ok (.iload 4, 2) := by decide +kernel
theorem dX8_lays_211 : decode cX8_lays 211 = .ok (.iaload, 1) := by decide +kernel
theorem dX8_lays_212 : decode cX8_lays 212 = .ok (.bipush 126, 2) := by decide +kernel
theorem dX8_lays_214 : decode cX8_lays 214 = .ok (.if_icmp .eq 15, 3) := by decide +kernel
theorem dX8_lays_217 : decode cX8_lays 217 = .ok (.aload_n 0, 1) := by decide +kernel
theorem dX8_lays_218 : decode cX8_lays 218 = .ok (.getfield 33, 3) := by decide +kernel
theorem dX8_lays_221 : decode cX8_lays 221 = .ok (.iload 4, 2) := by decide +kernel
theorem dX8_lays_223 : decode cX8_lays 223 = .ok (.iaload, 1) := by decide +kernel
theorem dX8_lays_224 : decode cX8_lays 224 = .ok (.bipush 125, 2) := by decide +kernel
theorem dX8_lays_226 : decode cX8_lays 226 = .ok (.if_icmp .ne 7, 3) := by decide +kernel
theorem dX8_lays_229 : decode cX8_lays 229 = .ok (.iconst 1, 1) := by decide +kernel
theorem dX8_lays_230 : decode cX8_lays 230 = .ok (.goto 4, 3) := by decide +kernel
theorem dX8_lays_233 : decode cX8_lays 233 = .ok (.iconst 0, 1) := by decide +kernel
theorem dX8_lays_234 : decode cX8_lays 234 = .ok (.istore 5, 2) := by decide +kernel
theorem dX8_lays_236 : decode cX8_lays 236 = .ok (.iload 5, 2) := by decide +kernel
theorem dX8_lays_238 : decode cX8_lays 238 = .ok (.ifCond .eq 9, 3) := by decide +kernel
theorem dX8_lays_241 : decode cX8_lays 241 = .ok (.aload_n 0, 1) := by decide +kernel
theorem dX8_lays_242 : decode cX8_lays 242 = .ok (.bipush 125, 2) := by decide +kernel
theorem dX8_lays_244 : decode cX8_lays 244 = .ok (.invokevirtual 190, 3) := by decide +kernel
theorem dX8_lays_247 : decode cX8_lays 247 = .ok (.aload_n 0, 1) := by decide +kernel
theorem dX8_lays_248 : decode cX8_lays 248 = .ok (.dup, 1) := by decide +kernel
theorem dX8_lays_249 : decode cX8_lays 249 = .ok (.getfield 187, 3) := by decide +kernel
theorem dX8_lays_252 : decode cX8_lays 252 = .ok (.iload 5, 2) := by decide +kernel
theorem dX8_lays_254 : decode cX8_lays 254 = .ok (.ifCond .eq 7, 3) := by decide +kernel
theorem dX8_lays_257 : decode cX8_lays 257 = .ok (.iconst 1, 1) := by decide +kernel
theorem dX8_lays_258 : decode cX8_lays 258 = .ok (.goto 4, 3) := by decide +kernel
theorem dX8_lays_261 : decode cX8_lays 261 = .ok (.iconst 0, 1) := by decide +kernel
theorem dX8_lays_262 : decode cX8_lays 262 = .ok (.iadd, 1) := by decide +kernel
theorem dX8_lays_263 : decode cX8_lays 263 = .ok (.putfield 187, 3) := by decide +kernel
theorem dX8_lays_266 : decode cX8_lays 266 = .ok (.aload_n 0, 1) := by decide +kernel
theorem dX8_lays_267 : decode cX8_lays 267 = .ok (.iload 5, 2) := by decide +kernel
theorem dX8_lays_269 : decode cX8_lays 269 = .ok (.ifCond .eq 16, 3) := by decide +kernel
theorem dX8_lays_272 : decode cX8_lays 272 = .ok (.aload_n 0, 1) := by decide +kernel
theorem dX8_lays_273 : decode cX8_lays 273 = .ok (.getfield 33, 3) := by decide +kernel
theorem dX8_lays_276 : decode cX8_lays 276 = .ok (.iload 4, 2) := by decide +kernel
theorem dX8_lays_278 : decode cX8_lays 278 = .ok (.iaload, 1) := by decide +kernel
theorem dX8_lays_279 : decode cX8_lays 279 = .ok (.bipush 32, 2) := by decide +kernel
theorem dX8_lays_281 : decode cX8_lays 281 = .ok (.ixor, 1) := by decide +kernel
theorem dX8_lays_282 : decode cX8_lays 282 = .ok (.goto 10, 3) := by decide +kernel
theorem dX8_lays_285 : decode cX8_lays 285 = .ok (.aload_n 0, 1) := by decide +kernel
theorem dX8_lays_286 : decode cX8_lays 286 = .ok (.getfield 33, 3) := by decide +kernel
theorem dX8_lays_289 : decode cX8_lays 289 = .ok (.iload 4, 2) := by decide +kernel
theorem dX8_lays_291 : decode cX8_lays 291 = .ok (.iaload, 1) := by decide +kernel
theorem dX8_lays_292 : decode cX8_lays 292 = .ok (.invokevirtual 190, 3) := by decide +kernel
theorem dX8_lays_295 : decode cX8_lays 295 = .ok (.iinc 4 1, 3) := by decide +kernel
theorem dX8_lays_298 : decode cX8_lays 298 = .ok (.goto (-102), 3) := by decide +kernel
theorem dX8_lays_301 : decode cX8_lays 301 = .ok (.aload_n 0, 1) := by decide +kernel
theorem dX8_lays_302 : decode cX8_lays 302 = .ok (.bipush 126, 2) := by decide +kernel
theorem dX8_lays_304 : decode cX8_lays 304 = .ok (.invokevirtual 190, 3) := by decide +kernel
theorem dX8_lays_307 : decode cX8_lays 307 = .ok (.return_, 1) := by decide +kernel
theorem dX8_readsAll_0 : decode cX8_readsAll 0 = .ok (.iconst 0, 1) := by decide +kernel
theorem dX8_readsAll_1 : decode cX8_readsAll 1 = .ok (.istore_n 1, 1) := by decide +kernel
theorem dX8_readsAll_2 : decode cX8_readsAll 2 = .ok (.iload_n 1, 1) := by decide +kernel
theorem dX8_readsAll_3 : decode cX8_readsAll 3 = .ok (.iconst 2, 1) := by decide +kernel
theorem dX8_readsAll_4 : decode cX8_readsAll 4 = .ok (.if_icmp .ge 25, 3) := by decide +kernel
theorem dX8_readsAll_7 : decode cX8_readsAll 7 = .ok (.aload_n 0, 1) := by decide +kernel
theorem dX8_readsAll_8 : decode cX8_readsAll 8 = .ok (.getfield 13, 3) := by decide +kernel
theorem dX8_readsAll_11 : decode cX8_readsAll 11 = .ok (.iload_n 1, 1) := by decide +kernel
theorem dX8_readsAll_12 : decode cX8_readsAll 12 = .ok (.iconst 2, 1) := by decide +kernel
theorem dX8_readsAll_13 : decode cX8_readsAll 13 = .ok (.invokestatic 115, 3) := by decide +kernel
theorem dX8_readsAll_16 : decode cX8_readsAll 16 = .ok (.aload_n 0, 1) := by decide +kernel
theorem dX8_readsAll_17 : decode cX8_readsAll 17 = .ok (.iload_n 1, 1) := by decide +kernel
theorem dX8_readsAll_18 : decode cX8_readsAll 18 = .ok (.iconst 1, 1) := by decide +kernel
theorem dX8_readsAll_19 : decode cX8_readsAll 19 = .ok (.invokevirtual 118, 3) := by decide +kernel
theorem dX8_readsAll_22 : decode cX8_readsAll 22 = .ok (.iastore, 1) := by decide +kernel
theorem dX8_readsAll_23 : decode cX8_readsAll 23 = .ok (.iinc 1 1, 3) := by decide +kernel
theorem dX8_readsAll_26 : decode cX8_readsAll 26 = .ok (.goto (-24), 3) := by decide +kernel
theorem dX8_readsAll_29 : decode cX8_readsAll 29 = .ok (.return_, 1) := by decide +kernel
theorem dX8_tells_0 : decode cX8_tells 0 = .ok (.iconst 1, 1) := by decide +kernel
theorem dX8_tells_1 : decode cX8_tells 1 = .ok (.iload_n 1, 1) := by decide +kernel
theorem dX8_tells_2 : decode cX8_tells 2 = .ok (.isub, 1) := by decide +kernel
theorem dX8_tells_3 : decode cX8_tells 3 = .ok (.istore_n 2, 1) := by decide +kernel
theorem dX8_tells_4 : decode cX8_tells 4 = .ok (.aload_n 0, 1) := by decide +kernel
theorem dX8_tells_5 : decode cX8_tells 5 = .ok (.getfield 13, 3) := by decide +kernel
theorem dX8_tells_8 : decode cX8_tells 8 = .ok (.iload_n 2, 1) := by decide +kernel
theorem dX8_tells_9 : decode cX8_tells 9 = .ok (.bipush 6, 2) := by decide +kernel
theorem dX8_tells_11 : decode cX8_tells 11 = .ok (.invokestatic 115, 3) := by decide +kernel
theorem dX8_tells_14 : decode cX8_tells 14 = .ok (.aload_n 0, 1) := by decide +kernel
theorem dX8_tells_15 : decode cX8_tells 15 = .ok (.iload_n 1, 1) := by decide +kernel
theorem dX8_tells_16 : decode cX8_tells 16 = .ok (.iconst 1, 1) := by decide +kernel
theorem dX8_tells_17 : decode cX8_tells 17 = .ok (.invokevirtual 118, 3) := by decide +kernel
theorem dX8_tells_20 : decode cX8_tells 20 = .ok (.iastore, 1) := by decide +kernel
theorem dX8_tells_21 : decode cX8_tells 21 = .ok (.aload_n 0, 1) := by decide +kernel
theorem dX8_tells_22 : decode cX8_tells 22 = .ok (.getfield 13, 3) := by decide +kernel
theorem dX8_tells_25 : decode cX8_tells 25 = .ok (.iload_n 2, 1) := by decide +kernel
theorem dX8_tells_26 : decode cX8_tells 26 = .ok (.bipush 7, 2) := by decide +kernel
theorem dX8_tells_28 : decode cX8_tells 28 = .ok (.invokestatic 115, 3) := by decide +kernel
theorem dX8_tells_31 : decode cX8_tells 31 = .ok (.aload_n 0, 1) := by decide +kernel
theorem dX8_tells_32 : decode cX8_tells 32 = .ok (.iload_n 1, 1) := by decide +kernel
theorem dX8_tells_33 : decode cX8_tells 33 = .ok (.invokevirtual 184, 3) := by decide +kernel
theorem dX8_tells_36 : decode cX8_tells 36 = .ok (.iastore, 1) := by decide +kernel
theorem dX8_tells_37 : decode cX8_tells 37 = .ok (.aload_n 0, 1) := by decide +kernel
theorem dX8_tells_38 : decode cX8_tells 38 = .ok (.iload_n 1, 1) := by decide +kernel
theorem dX8_tells_39 : decode cX8_tells 39 = .ok (.iconst 5, 1) := by decide +kernel
theorem dX8_tells_40 : decode cX8_tells 40 = .ok (.invokevirtual 118, 3) := by decide +kernel
theorem dX8_tells_43 : decode cX8_tells 43 = .ok (.aload_n 0, 1) := by decide +kernel
theorem dX8_tells_44 : decode cX8_tells 44 = .ok (.iload_n 2, 1) := by decide +kernel
theorem dX8_tells_45 : decode cX8_tells 45 = .ok (.bipush 10, 2) := by decide +kernel
theorem dX8_tells_47 : decode cX8_tells 47 = .ok (.invokevirtual 118, 3) := by decide +kernel
theorem dX8_tells_50 : decode cX8_tells 50 = .ok (.isub, 1) := by decide +kernel
theorem dX8_tells_51 : decode cX8_tells 51 = .ok (.istore_n 3, 1) := by decide +kernel
theorem dX8_tells_52 : decode cX8_tells 52 = .ok (.iload_n 3, 1) := by decide +kernel
theorem dX8_tells_53 : decode cX8_tells 53 = .ok (.ifCond .gt 4, 3) := by decide +kernel
theorem dX8_tells_56 : decode cX8_tells 56 = .ok (.return_, 1) := by decide +kernel
theorem dX8_tells_57 : decode cX8_tells 57 = .ok (.aload_n 0, 1) := by decide +kernel
theorem dX8_tells_58 : decode cX8_tells 58 = .ok (.getfield 13, 3) := by decide +kernel
theorem dX8_tells_61 : decode cX8_tells 61 = .ok (.iload_n 2, 1) := by decide +kernel
theorem dX8_tells_62 : decode cX8_tells 62 = .ok (.iconst 3, 1) := by decide +kernel
theorem dX8_tells_63 : decode cX8_tells 63 = .ok (.invokestatic 115, 3) := by decide +kernel
theorem dX8_tells_66 : decode cX8_tells 66 = .ok (.dup2, 1) := by decide +kernel
theorem dX8_tells_67 : decode cX8_tells 67 = .ok (.iaload, 1) := by decide +kernel
theorem dX8_tells_68 : decode cX8_tells 68 = .ok (.iload_n 3, 1) := by decide +kernel
theorem dX8_tells_69 : decode cX8_tells 69 = .ok (.isub, 1) := by decide +kernel
theorem dX8_tells_70 : decode cX8_tells 70 = .ok (.iastore, 1) := by decide +kernel
theorem dX8_tells_71 : decode cX8_tells 71 = .ok (.aload_n 0, 1) := by decide +kernel
theorem dX8_tells_72 : decode cX8_tells 72 = .ok (.getfield 13, 3) := by decide +kernel
theorem dX8_tells_75 : decode cX8_tells 75 = .ok (.iload_n 2, 1) := by decide +kernel
theorem dX8_tells_76 : decode cX8_tells 76 = .ok (.iconst 4, 1) := by decide +kernel
theorem dX8_tells_77 : decode cX8_tells 77 = .ok (.invokestatic 115, 3) := by decide +kernel
theorem dX8_tells_80 : decode cX8_tells 80 = .ok (.dup2, 1) := by decide +kernel
theorem dX8_tells_81 : decode cX8_tells 81 = .ok (.iaload, 1) := by decide +kernel
theorem dX8_tells_82 : decode cX8_tells 82 = .ok (.iload_n 3, 1) := by decide +kernel
theorem dX8_tells_83 : decode cX8_tells 83 = .ok (.isub, 1) := by decide +kernel
theorem dX8_tells_84 : decode cX8_tells 84 = .ok (.iastore, 1) := by decide +kernel
theorem dX8_tells_85 : decode cX8_tells 85 = .ok (.aload_n 0, 1) := by decide +kernel
theorem dX8_tells_86 : decode cX8_tells 86 = .ok (.getfield 13, 3) := by decide +kernel
theorem dX8_tells_89 : decode cX8_tells 89 = .ok (.iload_n 2, 1) := by decide +kernel
theorem dX8_tells_90 : decode cX8_tells 90 = .ok (.bipush 10, 2) := by decide +kernel
theorem dX8_tells_92 : decode cX8_tells 92 = .ok (.invokestatic 115, 3) := by decide +kernel
theorem dX8_tells_95 : decode cX8_tells 95 = .ok (.aload_n 0, 1) := by decide +kernel
theorem dX8_tells_96 : decode cX8_tells 96 = .ok (.iload_n 1, 1) := by decide +kernel
theorem dX8_tells_97 : decode cX8_tells 97 = .ok (.iconst 5, 1) := by decide +kernel
theorem dX8_tells_98 : decode cX8_tells 98 = .ok (.invokevirtual 118, 3) := by decide +kernel
theorem dX8_tells_101 : decode cX8_tells 101 = .ok (.iastore, 1) := by decide +kernel
theorem dX8_tells_102 : decode cX8_tells 102 = .ok (.return_, 1) := by decide +kernel
theorem dX8_sendsData_0 : decode cX8_sendsData 0 = .ok (.aload_n 0, 1) := by decide +kernel
theorem dX8_sendsData_1 : decode cX8_sendsData 1 = .ok (.invokevirtual 168, 3) := by decide +kernel
theorem dX8_sendsData_4 : decode cX8_sendsData 4 = .ok (.istore_n 3, 1) := by decide +kernel
theorem dX8_sendsData_5 : decode cX8_sendsData 5 = .ok (.aload_n 0, 1) := by decide +kernel
theorem dX8_sendsData_6 : decode cX8_sendsData 6 = .ok (.getfield 13, 3) := by decide +kernel
theorem dX8_sendsData_9 : decode cX8_sendsData 9 = .ok (.bipush 10, 2) := by decide +kernel
theorem dX8_sendsData_11 : decode cX8_sendsData 11 = .ok (.dup2, 1) := by decide +kernel
theorem dX8_sendsData_12 : decode cX8_sendsData 12 = .ok (.iaload, 1) := by decide +kernel
theorem dX8_sendsData_13 : decode cX8_sendsData 13 = .ok (.iconst 1, 1) := by decide +kernel
theorem dX8_sendsData_14 : decode cX8_sendsData 14 = .ok (.iadd, 1) := by decide +kernel
theorem dX8_sendsData_15 : decode cX8_sendsData 15 = .ok (.iastore, 1) := by decide +kernel
theorem dX8_sendsData_16 : decode cX8_sendsData 16 = .ok (.aload_n 0, 1) := by decide +kernel
theorem dX8_sendsData_17 : decode cX8_sendsData 17 = .ok (.getfield 13, 3) := by decide +kernel
theorem dX8_sendsData_20 : decode cX8_sendsData 20 = .ok (.bipush 11, 2) := by decide +kernel
theorem dX8_sendsData_22 : decode cX8_sendsData 22 = .ok (.dup2, 1) := by decide +kernel
theorem dX8_sendsData_23 : decode cX8_sendsData 23 = .ok (.iaload, 1) := by decide +kernel
theorem dX8_sendsData_24 : decode cX8_sendsData 24 = .ok (.iload_n 3, 1) := by decide +kernel
theorem dX8_sendsData_25 : decode cX8_sendsData 25 = .ok (.aload_n 0, 1) := by decide +kernel
theorem dX8_sendsData_26 : decode cX8_sendsData 26 = .ok (.iload_n 1, 1) := by decide +kernel
theorem dX8_sendsData_27 : decode cX8_sendsData 27 = .ok (.bipush 8, 2) := by decide +kernel
theorem dX8_sendsData_29 : decode cX8_sendsData 29 = .ok (.invokevirtual 118, 3) := by decide +kernel
theorem dX8_sendsData_32 : decode cX8_sendsData 32 = .ok (.if_icmp .ge 7, 3) := by decide +kernel
theorem dX8_sendsData_35 : decode cX8_sendsData 35 = .ok (.iconst 1, 1) := by decide +kernel
theorem dX8_sendsData_36 : decode cX8_sendsData 36 = .ok (.goto 4, 3) := by decide +kernel
theorem dX8_sendsData_39 : decode cX8_sendsData 39 = .ok (.iconst 0, 1) := by decide +kernel
theorem dX8_sendsData_40 : decode cX8_sendsData 40 = .ok (.iadd, 1) := by decide +kernel
theorem dX8_sendsData_41 : decode cX8_sendsData 41 = .ok (.iastore, 1) := by decide +kernel
theorem dX8_sendsData_42 : decode cX8_sendsData 42 = .ok (.aload_n 0, 1) := by decide +kernel
theorem dX8_sendsData_43 : decode cX8_sendsData 43 = .ok (.getfield 13, 3) := by decide +kernel
theorem dX8_sendsData_46 : decode cX8_sendsData 46 = .ok (.iload_n 1, 1) := by decide +kernel
theorem dX8_sendsData_47 : decode cX8_sendsData 47 = .ok (.bipush 8, 2) := by decide +kernel
theorem dX8_sendsData_49 : decode cX8_sendsData 49 = .ok (.invokestatic 115, 3) := by decide +kernel
theorem dX8_sendsData_52 : decode cX8_sendsData 52 = .ok (.iload_n 3, 1) := by decide +kernel
theorem dX8_sendsData_53 : decode cX8_sendsData 53 = .ok (.iconst 1, 1) := by decide +kernel
theorem dX8_sendsData_54 : decode cX8_sendsData 54 = .ok (.iadd, 1) := by decide +kernel
theorem dX8_sendsData_55 : decode cX8_sendsData 55 = .ok (.aload_n 0, 1) := by decide +kernel
theorem dX8_sendsData_56 : decode cX8_sendsData 56 = .ok (.iload_n 1, 1) := by decide +kernel
theorem dX8_sendsData_57 : decode cX8_sendsData 57 = .ok (.bipush 8, 2) := by decide +kernel
theorem dX8_sendsData_59 : decode cX8_sendsData 59 = .ok (.invokevirtual 118, 3) := by decide +kernel
theorem dX8_sendsData_62 : decode cX8_sendsData 62 = .ok (.if_icmp .le 9, 3) := by decide +kernel
theorem dX8_sendsData_65 : decode cX8_sendsData 65 = .ok (.iload_n 3, 1) := by decide +kernel
theorem dX8_sendsData_66 : decode cX8_sendsData 66 = .ok (.iconst 1, 1) := by decide +kernel
theorem dX8_sendsData_67 : decode cX8_sendsData 67 = .ok (.iadd, 1) := by decide +kernel
theorem dX8_sendsData_68 : decode cX8_sendsData 68 = .ok (.goto 10, 3) := by decide +kernel
theorem dX8_sendsData_71 : decode cX8_sendsData 71 = .ok (.aload_n 0, 1) := by decide +kernel
theorem dX8_sendsData_72 : decode cX8_sendsData 72 = .ok (.iload_n 1, 1) := by decide +kernel
theorem dX8_sendsData_73 : decode cX8_sendsData 73 = .ok (.bipush 8, 2) := by decide +kernel
theorem dX8_sendsData_75 : decode cX8_sendsData 75 = .ok (.invokevirtual 118, 3) := by decide +kernel
theorem dX8_sendsData_78 : decode cX8_sendsData 78 = .ok (.iastore, 1) := by decide +kernel
theorem dX8_sendsData_79 : decode cX8_sendsData 79 = .ok (.iload_n 2, 1) := by decide +kernel
theorem dX8_sendsData_80 : decode cX8_sendsData 80 = .ok (.ifCond .ne 72, 3) := by decide +kernel
theorem dX8_sendsData_83 : decode cX8_sendsData 83 = .ok (.aload_n 0, 1) := by decide +kernel
theorem dX8_sendsData_84 : decode cX8_sendsData 84 = .ok (.iload_n 1, 1) := by decide +kernel
theorem dX8_sendsData_85 : decode cX8_sendsData 85 = .ok (.invokevirtual 193, 3) := by decide +kernel
theorem dX8_sendsData_88 : decode cX8_sendsData 88 = .ok (.iload_n 3, 1) := by decide +kernel
theorem dX8_sendsData_89 : decode cX8_sendsData 89 = .ok (.aload_n 0, 1) := by decide +kernel
theorem dX8_sendsData_90 : decode cX8_sendsData 90 = .ok (.iconst 1, 1) := by decide +kernel
theorem dX8_sendsData_91 : decode cX8_sendsData 91 = .ok (.iload_n 1, 1) := by decide +kernel
theorem dX8_sendsData_92 : decode cX8_sendsData 92 = .ok (.isub, 1) := by decide +kernel
theorem dX8_sendsData_93 : decode cX8_sendsData 93 = .ok (.iconst 1, 1) := by decide +kernel
theorem dX8_sendsData_94 : decode cX8_sendsData 94 = .ok (.invokevirtual 118, 3) := by decide +kernel
theorem dX8_sendsData_97 : decode cX8_sendsData 97 = .ok (.if_icmp .ne 7, 3) := by decide +kernel
theorem dX8_sendsData_100 : decode cX8_sendsData 100 = .ok (.iconst 1, 1) := by decide +kernel
theorem dX8_sendsData_101 : decode cX8_sendsData 101 = .ok (.goto 4, 3) := by decide +kernel
theorem dX8_sendsData_104 : decode cX8_sendsData 104 = .ok (.iconst 0, 1) := by decide +kernel
theorem dX8_sendsData_105 : decode cX8_sendsData 105 = .ok (.istore 4, 2) := by decide +kernel
theorem dX8_sendsData_107 : decode cX8_sendsData 107 = .ok (.aload_n 0, 1) := by decide +kernel
theorem dX8_sendsData_108 : decode cX8_sendsData 108 = .ok (.getfield 13, 3) := by decide +kernel
theorem dX8_sendsData_111 : decode cX8_sendsData 111 = .ok (.iconst 1, 1) := by decide +kernel
theorem dX8_sendsData_112 : decode cX8_sendsData 112 = .ok (.iload_n 1, 1) := by decide +kernel
theorem dX8_sendsData_113 : decode cX8_sendsData 113 = .ok (.isub, 1) := by decide +kernel
theorem dX8_sendsData_114 : decode cX8_sendsData 114 = .ok (.iconst 1, 1) := by decide +kernel
theorem dX8_sendsData_115 : decode cX8_sendsData 115 = .ok (.invokestatic 115, 3) := by decide +kernel
theorem dX8_sendsData_118 : decode cX8_sendsData 118 = .ok (.dup2, 1) := by decide +kernel
theorem dX8_sendsData_119 : decode cX8_sendsData 119 = .ok (.iaload, 1) := by decide +kernel
theorem dX8_sendsData_120 : decode cX8_sendsData 120 = .ok (.iload 4, 2) := by decide +kernel
theorem dX8_sendsData_122 : decode cX8_sendsData 122 = .ok (.ifCond .eq 7, 3) := by decide +kernel
theorem dX8_sendsData_125 : decode cX8_sendsData 125 = .ok (.iconst 1, 1) := by decide +kernel
theorem dX8_sendsData_126 : decode cX8_sendsData 126 = .ok (.goto 4, 3) := by decide +kernel
theorem dX8_sendsData_129 : decode cX8_sendsData 129 = .ok (.iconst 0, 1) := by decide +kernel
theorem dX8_sendsData_130 : decode cX8_sendsData 130 = .ok (.iadd, 1) := by decide +kernel
theorem dX8_sendsData_131 : decode cX8_sendsData 131 = .ok (.iastore, 1) := by decide +kernel
theorem dX8_sendsData_132 : decode cX8_sendsData 132 = .ok (.aload_n 0, 1) := by decide +kernel
theorem dX8_sendsData_133 : decode cX8_sendsData 133 = .ok (.getfield 13, 3) := by decide +kernel
theorem dX8_sendsData_136 : decode cX8_sendsData 136 = .ok (.bipush 17, 2) := by decide +kernel
theorem dX8_sendsData_138 : decode cX8_sendsData 138 = .ok (.dup2, 1) := by decide +kernel
theorem dX8_sendsData_139 : decode cX8_sendsData 139 = .ok (.iaload, 1) := by decide +kernel
theorem dX8_sendsData_140 : decode cX8_sendsData 140 = .ok (.iload 4, 2) := by decide +kernel
theorem dX8_sendsData_142 : decode cX8_sendsData 142 = .ok (.ifCond .eq 7, 3) := by decide +kernel
theorem dX8_sendsData_145 : decode cX8_sendsData 145 = .ok (.iconst 0, 1) := by decide +kernel
theorem dX8_sendsData_146 : decode cX8_sendsData 146 = .ok (.goto 4, 3) := by decide +kernel
theorem dX8_sendsData_149 : decode cX8_sendsData 149 = .ok (.iconst 1, 1) := by decide +kernel
theorem dX8_sendsData_150 : decode cX8_sendsData 150 = .ok (.iadd, 1) := by decide +kernel
theorem dX8_sendsData_151 : decode cX8_sendsData 151 = .ok (.iastore, 1) := by decide +kernel
theorem dX8_sendsData_152 : decode cX8_sendsData 152 = .ok (.aload_n 0, 1) := by decide +kernel
theorem dX8_sendsData_153 : decode cX8_sendsData 153 = .ok (.getfield 13, 3) := by decide +kernel
theorem dX8_sendsData_156 : decode cX8_sendsData 156 = .ok (.iconst 2, 1) := by decide +kernel
theorem dX8_sendsData_157 : decode cX8_sendsData 157 = .ok (.dup2, 1) := by decide +kernel
theorem dX8_sendsData_158 : decode cX8_sendsData 158 = .ok (.iaload, 1) := by decide +kernel
theorem dX8_sendsData_159 : decode cX8_sendsData 159 = .ok (.iconst 1, 1) := by decide +kernel
theorem dX8_sendsData_160 : decode cX8_sendsData 160 = .ok (.iadd, 1) := by decide +kernel
theorem dX8_sendsData_161 : decode cX8_sendsData 161 = .ok (.iastore, 1) := by decide +kernel
theorem dX8_sendsData_162 : decode cX8_sendsData 162 = .ok (.return_, 1) := by decide +kernel
theorem dX8_sendsTurn_0 : decode cX8_sendsTurn 0 = .ok (.iconst 1, 1) := by decide +kernel
theorem dX8_sendsTurn_1 : decode cX8_sendsTurn 1 = .ok (.iload_n 1, 1) := by decide +kernel
theorem dX8_sendsTurn_2 : decode cX8_sendsTurn 2 = .ok (.isub, 1) := by decide +kernel
theorem dX8_sendsTurn_3 : decode cX8_sendsTurn 3 = .ok (.istore_n 3, 1) := by decide +kernel
theorem dX8_sendsTurn_4 : decode cX8_sendsTurn 4 = .ok (.aload_n 0, 1) := by decide +kernel
theorem dX8_sendsTurn_5 : decode cX8_sendsTurn 5 = .ok (.getfield 13, 3) := by decide +kernel
theorem dX8_sendsTurn_8 : decode cX8_sendsTurn 8 = .ok (.bipush 12, 2) := by decide +kernel
theorem dX8_sendsTurn_10 : decode cX8_sendsTurn 10 = .ok (.dup2, 1) := by decide +kernel
theorem dX8_sendsTurn_11 : decode cX8_sendsTurn 11 = .ok (.iaload, 1) := by decide +kernel
theorem dX8_sendsTurn_12 : decode cX8_sendsTurn 12 = .ok (.iconst 1, 1) := by decide +kernel
theorem dX8_sendsTurn_13 : decode cX8_sendsTurn 13 = .ok (.iadd, 1) := by decide +kernel
theorem dX8_sendsTurn_14 : decode cX8_sendsTurn 14 = .ok (.iastore, 1) := by decide +kernel
theorem dX8_sendsTurn_15 : decode cX8_sendsTurn 15 = .ok (.aload_n 0, 1) := by decide +kernel
theorem dX8_sendsTurn_16 : decode cX8_sendsTurn 16 = .ok (.getfield 13, 3) := by decide +kernel
theorem dX8_sendsTurn_19 : decode cX8_sendsTurn 19 = .ok (.bipush 13, 2) := by decide +kernel
theorem dX8_sendsTurn_21 : decode cX8_sendsTurn 21 = .ok (.dup2, 1) := by decide +kernel
theorem dX8_sendsTurn_22 : decode cX8_sendsTurn 22 = .ok (.iaload, 1) := by decide +kernel
theorem dX8_sendsTurn_23 : decode cX8_sendsTurn 23 = .ok (.aload_n 0, 1) := by decide +kernel
theorem dX8_sendsTurn_24 : decode cX8_sendsTurn 24 = .ok (.getfield 13, 3) := by decide +kernel
theorem dX8_sendsTurn_27 : decode cX8_sendsTurn 27 = .ok (.bipush 6, 2) := by decide +kernel
theorem dX8_sendsTurn_29 : decode cX8_sendsTurn 29 = .ok (.iaload, 1) := by decide +kernel
theorem dX8_sendsTurn_30 : decode cX8_sendsTurn 30 = .ok (.iadd, 1) := by decide +kernel
theorem dX8_sendsTurn_31 : decode cX8_sendsTurn 31 = .ok (.iastore, 1) := by decide +kernel
theorem dX8_sendsTurn_32 : decode cX8_sendsTurn 32 = .ok (.aload_n 0, 1) := by decide +kernel
theorem dX8_sendsTurn_33 : decode cX8_sendsTurn 33 = .ok (.getfield 13, 3) := by decide +kernel
theorem dX8_sendsTurn_36 : decode cX8_sendsTurn 36 = .ok (.bipush 6, 2) := by decide +kernel
theorem dX8_sendsTurn_38 : decode cX8_sendsTurn 38 = .ok (.iload_n 2, 1) := by decide +kernel
theorem dX8_sendsTurn_39 : decode cX8_sendsTurn 39 = .ok (.ifCond .eq 7, 3) := by decide +kernel
theorem dX8_sendsTurn_42 : decode cX8_sendsTurn 42 = .ok (.iconst 1, 1) := by decide +kernel
theorem dX8_sendsTurn_43 : decode cX8_sendsTurn 43 = .ok (.goto 4, 3) := by decide +kernel
theorem dX8_sendsTurn_46 : decode cX8_sendsTurn 46 = .ok (.iconst 0, 1) := by decide +kernel
theorem dX8_sendsTurn_47 : decode cX8_sendsTurn 47 = .ok (.iastore, 1) := by decide +kernel
theorem dX8_sendsTurn_48 : decode cX8_sendsTurn 48 = .ok (.iload_n 2, 1) := by decide +kernel
theorem dX8_sendsTurn_49 : decode cX8_sendsTurn 49 = .ok (.ifCond .eq 35, 3) := by decide +kernel
theorem dX8_sendsTurn_52 : decode cX8_sendsTurn 52 = .ok (.aload_n 0, 1) := by decide +kernel
theorem dX8_sendsTurn_53 : decode cX8_sendsTurn 53 = .ok (.getfield 13, 3) := by decide +kernel
theorem dX8_sendsTurn_56 : decode cX8_sendsTurn 56 = .ok (.iconst 0, 1) := by decide +kernel
theorem dX8_sendsTurn_57 : decode cX8_sendsTurn 57 = .ok (.dup2, 1) := by decide +kernel
theorem dX8_sendsTurn_58 : decode cX8_sendsTurn 58 = .ok (.iaload, 1) := by decide +kernel
theorem dX8_sendsTurn_59 : decode cX8_sendsTurn 59 = .ok (.aload_n 0, 1) := by decide +kernel
theorem dX8_sendsTurn_60 : decode cX8_sendsTurn 60 = .ok (.getfield 13, 3) := by decide +kernel
theorem dX8_sendsTurn_63 : decode cX8_sendsTurn 63 = .ok (.iconst 5, 1) := by decide +kernel
theorem dX8_sendsTurn_64 : decode cX8_sendsTurn 64 = .ok (.iaload, 1) := by decide +kernel
theorem dX8_sendsTurn_65 : decode cX8_sendsTurn 65 = .ok (.iadd, 1) := by decide +kernel
theorem dX8_sendsTurn_66 : decode cX8_sendsTurn 66 = .ok (.iastore, 1) := by decide +kernel
theorem dX8_sendsTurn_67 : decode cX8_sendsTurn 67 = .ok (.aload_n 0, 1) := by decide +kernel
theorem dX8_sendsTurn_68 : decode cX8_sendsTurn 68 = .ok (.getfield 13, 3) := by decide +kernel
theorem dX8_sendsTurn_71 : decode cX8_sendsTurn 71 = .ok (.bipush 16, 2) := by decide +kernel
theorem dX8_sendsTurn_73 : decode cX8_sendsTurn 73 = .ok (.dup2, 1) := by decide +kernel
theorem dX8_sendsTurn_74 : decode cX8_sendsTurn 74 = .ok (.iaload, 1) := by decide +kernel
theorem dX8_sendsTurn_75 : decode cX8_sendsTurn 75 = .ok (.aload_n 0, 1) := by decide +kernel
theorem dX8_sendsTurn_76 : decode cX8_sendsTurn 76 = .ok (.getfield 13, 3) := by decide +kernel
theorem dX8_sendsTurn_79 : decode cX8_sendsTurn 79 = .ok (.iconst 5, 1) := by decide +kernel
theorem dX8_sendsTurn_80 : decode cX8_sendsTurn 80 = .ok (.iaload, 1) := by decide +kernel
theorem dX8_sendsTurn_81 : decode cX8_sendsTurn 81 = .ok (.iadd, 1) := by decide +kernel
theorem dX8_sendsTurn_82 : decode cX8_sendsTurn 82 = .ok (.iastore, 1) := by decide +kernel
theorem dX8_sendsTurn_83 : decode cX8_sendsTurn 83 = .ok (.return_, 1) := by decide +kernel
theorem dX8_sendsTurn_84 : decode cX8_sendsTurn 84 = .ok (.aload_n 0, 1) := by decide +kernel
theorem dX8_sendsTurn_85 : decode cX8_sendsTurn 85 = .ok (.iload_n 1, 1) := by decide +kernel
theorem dX8_sendsTurn_86 : decode cX8_sendsTurn 86 = .ok (.invokevirtual 193, 3) := by decide +kernel
theorem dX8_sendsTurn_89 : decode cX8_sendsTurn 89 = .ok (.aload_n 0, 1) := by decide +kernel
theorem dX8_sendsTurn_90 : decode cX8_sendsTurn 90 = .ok (.getfield 13, 3) := by decide +kernel
theorem dX8_sendsTurn_93 : decode cX8_sendsTurn 93 = .ok (.iload_n 1, 1) := by decide +kernel
theorem dX8_sendsTurn_94 : decode cX8_sendsTurn 94 = .ok (.bipush 9, 2) := by decide +kernel
theorem dX8_sendsTurn_96 : decode cX8_sendsTurn 96 = .ok (.invokestatic 115, 3) := by decide +kernel
theorem dX8_sendsTurn_99 : decode cX8_sendsTurn 99 = .ok (.dup2, 1) := by decide +kernel
theorem dX8_sendsTurn_100 : decode cX8_sendsTurn 100 = .ok (.iaload, 1) := by decide +kernel
theorem dX8_sendsTurn_101 : decode cX8_sendsTurn 101 = .ok (.iconst 1, 1) := by decide +kernel
theorem dX8_sendsTurn_102 : decode cX8_sendsTurn 102 = .ok (.iadd, 1) := by decide +kernel
theorem dX8_sendsTurn_103 : decode cX8_sendsTurn 103 = .ok (.iastore, 1) := by decide +kernel
theorem dX8_sendsTurn_104 : decode cX8_sendsTurn 104 = .ok (.aload_n 0, 1) := by decide +kernel
theorem dX8_sendsTurn_105 : decode cX8_sendsTurn 105 = .ok (.getfield 13, 3) := by decide +kernel
theorem dX8_sendsTurn_108 : decode cX8_sendsTurn 108 = .ok (.iconst 1, 1) := by decide +kernel
theorem dX8_sendsTurn_109 : decode cX8_sendsTurn 109 = .ok (.iload_n 3, 1) := by decide +kernel
theorem dX8_sendsTurn_110 : decode cX8_sendsTurn 110 = .ok (.iastore, 1) := by decide +kernel
theorem dX8_sendsTurn_111 : decode cX8_sendsTurn 111 = .ok (.aload_n 0, 1) := by decide +kernel
theorem dX8_sendsTurn_112 : decode cX8_sendsTurn 112 = .ok (.getfield 13, 3) := by decide +kernel
theorem dX8_sendsTurn_115 : decode cX8_sendsTurn 115 = .ok (.iconst 2, 1) := by decide +kernel
theorem dX8_sendsTurn_116 : decode cX8_sendsTurn 116 = .ok (.iconst 0, 1) := by decide +kernel
theorem dX8_sendsTurn_117 : decode cX8_sendsTurn 117 = .ok (.iastore, 1) := by decide +kernel
theorem dX8_sendsTurn_118 : decode cX8_sendsTurn 118 = .ok (.aload_n 0, 1) := by decide +kernel
theorem dX8_sendsTurn_119 : decode cX8_sendsTurn 119 = .ok (.iload_n 3, 1) := by decide +kernel
theorem dX8_sendsTurn_120 : decode cX8_sendsTurn 120 = .ok (.bipush 7, 2) := by decide +kernel
theorem dX8_sendsTurn_122 : decode cX8_sendsTurn 122 = .ok (.invokevirtual 118, 3) := by decide +kernel
theorem dX8_sendsTurn_125 : decode cX8_sendsTurn 125 = .ok (.aload_n 0, 1) := by decide +kernel
theorem dX8_sendsTurn_126 : decode cX8_sendsTurn 126 = .ok (.iload_n 3, 1) := by decide +kernel
theorem dX8_sendsTurn_127 : decode cX8_sendsTurn 127 = .ok (.bipush 8, 2) := by decide +kernel
theorem dX8_sendsTurn_129 : decode cX8_sendsTurn 129 = .ok (.invokevirtual 118, 3) := by decide +kernel
theorem dX8_sendsTurn_132 : decode cX8_sendsTurn 132 = .ok (.isub, 1) := by decide +kernel
theorem dX8_sendsTurn_133 : decode cX8_sendsTurn 133 = .ok (.istore 4, 2) := by decide +kernel
theorem dX8_sendsTurn_135 : decode cX8_sendsTurn 135 = .ok (.aload_n 0, 1) := by decide +kernel
theorem dX8_sendsTurn_136 : decode cX8_sendsTurn 136 = .ok (.iload_n 1, 1) := by decide +kernel
theorem dX8_sendsTurn_137 : decode cX8_sendsTurn 137 = .ok (.iconst 4, 1) := by decide +kernel
theorem dX8_sendsTurn_138 : decode cX8_sendsTurn 138 = .ok (.invokevirtual 118, 3) := by decide +kernel
theorem dX8_sendsTurn_141 : decode cX8_sendsTurn 141 = .ok (.iload 4, 2) := by decide +kernel
theorem dX8_sendsTurn_143 : decode cX8_sendsTurn 143 = .ok (.if_icmp .ge 12, 3) := by decide +kernel
theorem dX8_sendsTurn_146 : decode cX8_sendsTurn 146 = .ok (.aload_n 0, 1) := by decide +kernel
theorem dX8_sendsTurn_147 : decode cX8_sendsTurn 147 = .ok (.iload_n 1, 1) := by decide +kernel
theorem dX8_sendsTurn_148 : decode cX8_sendsTurn 148 = .ok (.iconst 4, 1) := by decide +kernel
theorem dX8_sendsTurn_149 : decode cX8_sendsTurn 149 = .ok (.invokevirtual 118, 3) := by decide +kernel
theorem dX8_sendsTurn_152 : decode cX8_sendsTurn 152 = .ok (.goto 5, 3) := by decide +kernel
theorem dX8_sendsTurn_155 : decode cX8_sendsTurn 155 = .ok (.iload 4, 2) := by decide +kernel
theorem dX8_sendsTurn_157 : decode cX8_sendsTurn 157 = .ok (.istore 5, 2) := by decide +kernel
theorem dX8_sendsTurn_159 : decode cX8_sendsTurn 159 = .ok (.iload 5, 2) := by decide +kernel
theorem dX8_sendsTurn_161 : decode cX8_sendsTurn 161 = .ok (.ifCond .gt 4, 3) := by decide +kernel
theorem dX8_sendsTurn_164 : decode cX8_sendsTurn 164 = .ok (.return_, 1) := by decide +kernel
theorem dX8_sendsTurn_165 : decode cX8_sendsTurn 165 = .ok (.aload_n 0, 1) := by decide +kernel
theorem dX8_sendsTurn_166 : decode cX8_sendsTurn 166 = .ok (.getfield 13, 3) := by decide +kernel
theorem dX8_sendsTurn_169 : decode cX8_sendsTurn 169 = .ok (.iload_n 3, 1) := by decide +kernel
theorem dX8_sendsTurn_170 : decode cX8_sendsTurn 170 = .ok (.bipush 7, 2) := by decide +kernel
theorem dX8_sendsTurn_172 : decode cX8_sendsTurn 172 = .ok (.invokestatic 115, 3) := by decide +kernel
theorem dX8_sendsTurn_175 : decode cX8_sendsTurn 175 = .ok (.dup2, 1) := by decide +kernel
theorem dX8_sendsTurn_176 : decode cX8_sendsTurn 176 = .ok (.iaload, 1) := by decide +kernel
theorem dX8_sendsTurn_177 : decode cX8_sendsTurn 177 = .ok (.iload 5, 2) := by decide +kernel
theorem dX8_sendsTurn_179 : decode cX8_sendsTurn 179 = .ok (.isub, 1) := by decide +kernel
theorem dX8_sendsTurn_180 : decode cX8_sendsTurn 180 = .ok (.iastore, 1) := by decide +kernel
theorem dX8_sendsTurn_181 : decode cX8_sendsTurn 181 = .ok (.aload_n 0, 1) := by decide +kernel
theorem dX8_sendsTurn_182 : decode cX8_sendsTurn 182 = .ok (.getfield 13, 3) := by decide +kernel
theorem dX8_sendsTurn_185 : decode cX8_sendsTurn 185 = .ok (.iload_n 3, 1) := by decide +kernel
theorem dX8_sendsTurn_186 : decode cX8_sendsTurn 186 = .ok (.iconst 5, 1) := by decide +kernel
theorem dX8_sendsTurn_187 : decode cX8_sendsTurn 187 = .ok (.invokestatic 115, 3) := by decide +kernel
theorem dX8_sendsTurn_190 : decode cX8_sendsTurn 190 = .ok (.dup2, 1) := by decide +kernel
theorem dX8_sendsTurn_191 : decode cX8_sendsTurn 191 = .ok (.iaload, 1) := by decide +kernel
theorem dX8_sendsTurn_192 : decode cX8_sendsTurn 192 = .ok (.iload 5, 2) := by decide +kernel
theorem dX8_sendsTurn_194 : decode cX8_sendsTurn 194 = .ok (.iadd, 1) := by decide +kernel
theorem dX8_sendsTurn_195 : decode cX8_sendsTurn 195 = .ok (.iastore, 1) := by decide +kernel
theorem dX8_sendsTurn_196 : decode cX8_sendsTurn 196 = .ok (.return_, 1) := by decide +kernel
theorem dX8_step_0 : decode cX8_step 0 = .ok (.aload_n 0, 1) := by decide +kernel
theorem dX8_step_1 : decode cX8_step 1 = .ok (.invokevirtual 196, 3) := by decide +kernel
theorem dX8_step_4 : decode cX8_step 4 = .ok (.aload_n 0, 1) := by decide +kernel
theorem dX8_step_5 : decode cX8_step 5 = .ok (.getfield 13, 3) := by decide +kernel
theorem dX8_step_8 : decode cX8_step 8 = .ok (.iconst 1, 1) := by decide +kernel
theorem dX8_step_9 : decode cX8_step 9 = .ok (.iaload, 1) := by decide +kernel
theorem dX8_step_10 : decode cX8_step 10 = .ok (.istore_n 1, 1) := by decide +kernel
theorem dX8_step_11 : decode cX8_step 11 = .ok (.aload_n 0, 1) := by decide +kernel
theorem dX8_step_12 : decode cX8_step 12 = .ok (.invokevirtual 177, 3) := by decide +kernel
theorem dX8_step_15 : decode cX8_step 15 = .ok (.istore_n 2, 1) := by decide +kernel
theorem dX8_step_16 : decode cX8_step 16 = .ok (.aload_n 0, 1) := by decide +kernel
theorem dX8_step_17 : decode cX8_step 17 = .ok (.aload_n 0, 1) := by decide +kernel
theorem dX8_step_18 : decode cX8_step 18 = .ok (.getfield 13, 3) := by decide +kernel
theorem dX8_step_21 : decode cX8_step 21 = .ok (.iconst 3, 1) := by decide +kernel
theorem dX8_step_22 : decode cX8_step 22 = .ok (.iaload, 1) := by decide +kernel
theorem dX8_step_23 : decode cX8_step 23 = .ok (.invokevirtual 138, 3) := by decide +kernel
theorem dX8_step_26 : decode cX8_step 26 = .ok (.istore_n 3, 1) := by decide +kernel
theorem dX8_step_27 : decode cX8_step 27 = .ok (.aload_n 0, 1) := by decide +kernel
theorem dX8_step_28 : decode cX8_step 28 = .ok (.getfield 13, 3) := by decide +kernel
theorem dX8_step_31 : decode cX8_step 31 = .ok (.iconst 3, 1) := by decide +kernel
theorem dX8_step_32 : decode cX8_step 32 = .ok (.dup2, 1) := by decide +kernel
theorem dX8_step_33 : decode cX8_step 33 = .ok (.iaload, 1) := by decide +kernel
theorem dX8_step_34 : decode cX8_step 34 = .ok (.iconst 1, 1) := by decide +kernel
theorem dX8_step_35 : decode cX8_step 35 = .ok (.iadd, 1) := by decide +kernel
theorem dX8_step_36 : decode cX8_step 36 = .ok (.iastore, 1) := by decide +kernel
theorem dX8_step_37 : decode cX8_step 37 = .ok (.aload_n 0, 1) := by decide +kernel
theorem dX8_step_38 : decode cX8_step 38 = .ok (.getfield 13, 3) := by decide +kernel
theorem dX8_step_41 : decode cX8_step 41 = .ok (.iconst 0, 1) := by decide +kernel
theorem dX8_step_42 : decode cX8_step 42 = .ok (.dup2, 1) := by decide +kernel
theorem dX8_step_43 : decode cX8_step 43 = .ok (.iaload, 1) := by decide +kernel
theorem dX8_step_44 : decode cX8_step 44 = .ok (.aload_n 0, 1) := by decide +kernel
theorem dX8_step_45 : decode cX8_step 45 = .ok (.getfield 174, 3) := by decide +kernel
theorem dX8_step_48 : decode cX8_step 48 = .ok (.iadd, 1) := by decide +kernel
theorem dX8_step_49 : decode cX8_step 49 = .ok (.iastore, 1) := by decide +kernel
theorem dX8_step_50 : decode cX8_step 50 = .ok (.aload_n 0, 1) := by decide +kernel
theorem dX8_step_51 : decode cX8_step 51 = .ok (.getfield 13, 3) := by decide +kernel
theorem dX8_step_54 : decode cX8_step 54 = .ok (.bipush 8, 2) := by decide +kernel
theorem dX8_step_56 : decode cX8_step 56 = .ok (.dup2, 1) := by decide +kernel
theorem dX8_step_57 : decode cX8_step 57 = .ok (.iaload, 1) := by decide +kernel
theorem dX8_step_58 : decode cX8_step 58 = .ok (.iconst 1, 1) := by decide +kernel
theorem dX8_step_59 : decode cX8_step 59 = .ok (.iadd, 1) := by decide +kernel
theorem dX8_step_60 : decode cX8_step 60 = .ok (.iastore, 1) := by decide +kernel
theorem dX8_step_61 : decode cX8_step 61 = .ok (.aload_n 0, 1) := by decide +kernel
theorem dX8_step_62 : decode cX8_step 62 = .ok (.getfield 13, 3) := by decide +kernel
theorem dX8_step_65 : decode cX8_step 65 = .ok (.bipush 9, 2) := by decide +kernel
theorem dX8_step_67 : decode cX8_step 67 = .ok (.dup2, 1) := by decide +kernel
theorem dX8_step_68 : decode cX8_step 68 = .ok (.iaload, 1) := by decide +kernel
theorem dX8_step_69 : decode cX8_step 69 = .ok (.iload_n 3, 1) := by decide +kernel
theorem dX8_step_70 : decode cX8_step 70 = .ok (.ifCond .eq 7, 3) := by decide +kernel
theorem dX8_step_73 : decode cX8_step 73 = .ok (.iconst 1, 1) := by decide +kernel
theorem dX8_step_74 : decode cX8_step 74 = .ok (.goto 4, 3) := by decide +kernel
theorem dX8_step_77 : decode cX8_step 77 = .ok (.iconst 0, 1) := by decide +kernel
theorem dX8_step_78 : decode cX8_step 78 = .ok (.iadd, 1) := by decide +kernel
theorem dX8_step_79 : decode cX8_step 79 = .ok (.iastore, 1) := by decide +kernel
theorem dX8_step_80 : decode cX8_step 80 = .ok (.aload_n 0, 1) := by decide +kernel
theorem dX8_step_81 : decode cX8_step 81 = .ok (.getfield 13, 3) := by decide +kernel
theorem dX8_step_84 : decode cX8_step 84 = .ok (.bipush 14, 2) := by decide +kernel
theorem dX8_step_86 : decode cX8_step 86 = .ok (.dup2, 1) := by decide +kernel
theorem dX8_step_87 : decode cX8_step 87 = .ok (.iaload, 1) := by decide +kernel
theorem dX8_step_88 : decode cX8_step 88 = .ok (.aload_n 0, 1) := by decide +kernel
theorem dX8_step_89 : decode cX8_step 89 = .ok (.getfield 174, 3) := by decide +kernel
theorem dX8_step_92 : decode cX8_step 92 = .ok (.iadd, 1) := by decide +kernel
theorem dX8_step_93 : decode cX8_step 93 = .ok (.iastore, 1) := by decide +kernel
theorem dX8_step_94 : decode cX8_step 94 = .ok (.aload_n 0, 1) := by decide +kernel
theorem dX8_step_95 : decode cX8_step 95 = .ok (.getfield 13, 3) := by decide +kernel
theorem dX8_step_98 : decode cX8_step 98 = .ok (.bipush 15, 2) := by decide +kernel
theorem dX8_step_100 : decode cX8_step 100 = .ok (.dup2, 1) := by decide +kernel
theorem dX8_step_101 : decode cX8_step 101 = .ok (.iaload, 1) := by decide +kernel
theorem dX8_step_102 : decode cX8_step 102 = .ok (.aload_n 0, 1) := by decide +kernel
theorem dX8_step_103 : decode cX8_step 103 = .ok (.getfield 187, 3) := by decide +kernel
theorem dX8_step_106 : decode cX8_step 106 = .ok (.iadd, 1) := by decide +kernel
theorem dX8_step_107 : decode cX8_step 107 = .ok (.iastore, 1) := by decide +kernel
theorem dX8_step_108 : decode cX8_step 108 = .ok (.iload_n 2, 1) := by decide +kernel
theorem dX8_step_109 : decode cX8_step 109 = .ok (.ifCond .eq 12, 3) := by decide +kernel
theorem dX8_step_112 : decode cX8_step 112 = .ok (.aload_n 0, 1) := by decide +kernel
theorem dX8_step_113 : decode cX8_step 113 = .ok (.iload_n 1, 1) := by decide +kernel
theorem dX8_step_114 : decode cX8_step 114 = .ok (.iload_n 3, 1) := by decide +kernel
theorem dX8_step_115 : decode cX8_step 115 = .ok (.invokevirtual 199, 3) := by decide +kernel
theorem dX8_step_118 : decode cX8_step 118 = .ok (.goto 9, 3) := by decide +kernel
theorem dX8_step_121 : decode cX8_step 121 = .ok (.aload_n 0, 1) := by decide +kernel
theorem dX8_step_122 : decode cX8_step 122 = .ok (.iload_n 1, 1) := by decide +kernel
theorem dX8_step_123 : decode cX8_step 123 = .ok (.iload_n 3, 1) := by decide +kernel
theorem dX8_step_124 : decode cX8_step 124 = .ok (.invokevirtual 203, 3) := by decide +kernel
theorem dX8_step_127 : decode cX8_step 127 = .ok (.aload_n 0, 1) := by decide +kernel
theorem dX8_step_128 : decode cX8_step 128 = .ok (.getfield 206, 3) := by decide +kernel
theorem dX8_step_131 : decode cX8_step 131 = .ok (.ifCond .eq 7, 3) := by decide +kernel
theorem dX8_step_134 : decode cX8_step 134 = .ok (.aload_n 0, 1) := by decide +kernel
theorem dX8_step_135 : decode cX8_step 135 = .ok (.invokevirtual 209, 3) := by decide +kernel
theorem dX8_step_138 : decode cX8_step 138 = .ok (.return_, 1) := by decide +kernel
theorem dX8_isOver_0 : decode cX8_isOver 0 = .ok (.aload_n 0, 1) := by decide +kernel
theorem dX8_isOver_1 : decode cX8_isOver 1 = .ok (.iconst 0, 1) := by decide +kernel
theorem dX8_isOver_2 : decode cX8_isOver 2 = .ok (.iconst 1, 1) := by decide +kernel
theorem dX8_isOver_3 : decode cX8_isOver 3 = .ok (.invokevirtual 118, 3) := by decide +kernel
theorem dX8_isOver_6 : decode cX8_isOver 6 = .ok (.aload_n 0, 1) := by decide +kernel
theorem dX8_isOver_7 : decode cX8_isOver 7 = .ok (.iconst 1, 1) := by decide +kernel
theorem dX8_isOver_8 : decode cX8_isOver 8 = .ok (.iconst 0, 1) := by decide +kernel
theorem dX8_isOver_9 : decode cX8_isOver 9 = .ok (.invokevirtual 118, 3) := by decide +kernel
theorem dX8_isOver_12 : decode cX8_isOver 12 = .ok (.if_icmp .ne 22, 3) := by decide +kernel
theorem dX8_isOver_15 : decode cX8_isOver 15 = .ok (.aload_n 0, 1) := by decide +kernel
theorem dX8_isOver_16 : decode cX8_isOver 16 = .ok (.iconst 1, 1) := by decide +kernel
theorem dX8_isOver_17 : decode cX8_isOver 17 = .ok (.iconst 1, 1) := by decide +kernel
theorem dX8_isOver_18 : decode cX8_isOver 18 = .ok (.invokevirtual 118, 3) := by decide +kernel
theorem dX8_isOver_21 : decode cX8_isOver 21 = .ok (.aload_n 0, 1) := by decide +kernel
theorem dX8_isOver_22 : decode cX8_isOver 22 = .ok (.iconst 0, 1) := by decide +kernel
theorem dX8_isOver_23 : decode cX8_isOver 23 = .ok (.iconst 0, 1) := by decide +kernel
theorem dX8_isOver_24 : decode cX8_isOver 24 = .ok (.invokevirtual 118, 3) := by decide +kernel
theorem dX8_isOver_27 : decode cX8_isOver 27 = .ok (.if_icmp .ne 7, 3) := by decide +kernel
theorem dX8_isOver_30 : decode cX8_isOver 30 = .ok (.iconst 1, 1) := by decide +kernel
theorem dX8_isOver_31 : decode cX8_isOver 31 = .ok (.goto 4, 3) := by decide +kernel
theorem dX8_isOver_34 : decode cX8_isOver 34 = .ok (.iconst 0, 1) := by decide +kernel
theorem dX8_isOver_35 : decode cX8_isOver 35 = .ok (.ireturn, 1) := by decide +kernel
theorem dX8_goes_0 : decode cX8_goes 0 = .ok (.aload_n 0, 1) := by decide +kernel
theorem dX8_goes_1 : decode cX8_goes 1 = .ok (.getfield 13, 3) := by decide +kernel
theorem dX8_goes_4 : decode cX8_goes 4 = .ok (.iconst 0, 1) := by decide +kernel
theorem dX8_goes_5 : decode cX8_goes 5 = .ok (.aload_n 0, 1) := by decide +kernel
theorem dX8_goes_6 : decode cX8_goes 6 = .ok (.getfield 20, 3) := by decide +kernel
theorem dX8_goes_9 : decode cX8_goes 9 = .ok (.iconst 0, 1) := by decide +kernel
theorem dX8_goes_10 : decode cX8_goes 10 = .ok (.invokestatic 111, 3) := by decide +kernel
theorem dX8_goes_13 : decode cX8_goes 13 = .ok (.aload_n 0, 1) := by decide +kernel
theorem dX8_goes_14 : decode cX8_goes 14 = .ok (.iload_n 1, 1) := by decide +kernel
theorem dX8_goes_15 : decode cX8_goes 15 = .ok (.putfield 206, 3) := by decide +kernel
theorem dX8_goes_18 : decode cX8_goes 18 = .ok (.aload_n 0, 1) := by decide +kernel
theorem dX8_goes_19 : decode cX8_goes 19 = .ok (.getfield 13, 3) := by decide +kernel
theorem dX8_goes_22 : decode cX8_goes 22 = .ok (.iconst 4, 1) := by decide +kernel
theorem dX8_goes_23 : decode cX8_goes 23 = .ok (.iload_n 3, 1) := by decide +kernel
theorem dX8_goes_24 : decode cX8_goes 24 = .ok (.iastore, 1) := by decide +kernel
theorem dX8_goes_25 : decode cX8_goes 25 = .ok (.iload_n 1, 1) := by decide +kernel
theorem dX8_goes_26 : decode cX8_goes 26 = .ok (.ifCond .eq 7, 3) := by decide +kernel
theorem dX8_goes_29 : decode cX8_goes 29 = .ok (.aload_n 0, 1) := by decide +kernel
theorem dX8_goes_30 : decode cX8_goes 30 = .ok (.invokevirtual 209, 3) := by decide +kernel
theorem dX8_goes_33 : decode cX8_goes 33 = .ok (.iload_n 2, 1) := by decide +kernel
theorem dX8_goes_34 : decode cX8_goes 34 = .ok (.aload_n 0, 1) := by decide +kernel
theorem dX8_goes_35 : decode cX8_goes 35 = .ok (.getfield 13, 3) := by decide +kernel
theorem dX8_goes_38 : decode cX8_goes 38 = .ok (.iconst 3, 1) := by decide +kernel
theorem dX8_goes_39 : decode cX8_goes 39 = .ok (.iaload, 1) := by decide +kernel
theorem dX8_goes_40 : decode cX8_goes 40 = .ok (.if_icmp .lt 39, 3) := by decide +kernel
theorem dX8_goes_43 : decode cX8_goes 43 = .ok (.aload_n 0, 1) := by decide +kernel
theorem dX8_goes_44 : decode cX8_goes 44 = .ok (.iload_n 2, 1) := by decide +kernel
theorem dX8_goes_45 : decode cX8_goes 45 = .ok (.invokevirtual 138, 3) := by decide +kernel
theorem dX8_goes_48 : decode cX8_goes 48 = .ok (.ifCond .ne 31, 3) := by decide +kernel
theorem dX8_goes_51 : decode cX8_goes 51 = .ok (.aload_n 0, 1) := by decide +kernel
theorem dX8_goes_52 : decode cX8_goes 52 = .ok (.getfield 13, 3) := by decide +kernel
theorem dX8_goes_55 : decode cX8_goes 55 = .ok (.sipush 400, 3) := by decide +kernel
theorem dX8_goes_58 : decode cX8_goes 58 = .ok (.aload_n 0, 1) := by decide +kernel
theorem dX8_goes_59 : decode cX8_goes 59 = .ok (.getfield 13, 3) := by decide +kernel
theorem dX8_goes_62 : decode cX8_goes 62 = .ok (.bipush 7, 2) := by decide +kernel
theorem dX8_goes_64 : decode cX8_goes 64 = .ok (.iaload, 1) := by decide +kernel
theorem dX8_goes_65 : decode cX8_goes 65 = .ok (.iadd, 1) := by decide +kernel
theorem dX8_goes_66 : decode cX8_goes 66 = .ok (.iload_n 2, 1) := by decide +kernel
theorem dX8_goes_67 : decode cX8_goes 67 = .ok (.iastore, 1) := by decide +kernel
theorem dX8_goes_68 : decode cX8_goes 68 = .ok (.aload_n 0, 1) := by decide +kernel
theorem dX8_goes_69 : decode cX8_goes 69 = .ok (.getfield 13, 3) := by decide +kernel
theorem dX8_goes_72 : decode cX8_goes 72 = .ok (.bipush 7, 2) := by decide +kernel
theorem dX8_goes_74 : decode cX8_goes 74 = .ok (.dup2, 1) := by decide +kernel
theorem dX8_goes_75 : decode cX8_goes 75 = .ok (.iaload, 1) := by decide +kernel
theorem dX8_goes_76 : decode cX8_goes 76 = .ok (.iconst 1, 1) := by decide +kernel
theorem dX8_goes_77 : decode cX8_goes 77 = .ok (.iadd, 1) := by decide +kernel
theorem dX8_goes_78 : decode cX8_goes 78 = .ok (.iastore, 1) := by decide +kernel
theorem dX8_goes_79 : decode cX8_goes 79 = .ok (.aload_n 0, 1) := by decide +kernel
theorem dX8_goes_80 : decode cX8_goes 80 = .ok (.invokevirtual 212, 3) := by decide +kernel
theorem dX8_goes_83 : decode cX8_goes 83 = .ok (.ifCond .ne 29, 3) := by decide +kernel
theorem dX8_goes_86 : decode cX8_goes 86 = .ok (.aload_n 0, 1) := by decide +kernel
theorem dX8_goes_87 : decode cX8_goes 87 = .ok (.getfield 13, 3) := by decide +kernel
theorem dX8_goes_90 : decode cX8_goes 90 = .ok (.iconst 3, 1) := by decide +kernel
theorem dX8_goes_91 : decode cX8_goes 91 = .ok (.iaload, 1) := by decide +kernel
theorem dX8_goes_92 : decode cX8_goes 92 = .ok (.aload_n 0, 1) := by decide +kernel
theorem dX8_goes_93 : decode cX8_goes 93 = .ok (.getfield 20, 3) := by decide +kernel
theorem dX8_goes_96 : decode cX8_goes 96 = .ok (.iconst 3, 1) := by decide +kernel
theorem dX8_goes_97 : decode cX8_goes 97 = .ok (.iaload, 1) := by decide +kernel
theorem dX8_goes_98 : decode cX8_goes 98 = .ok (.isub, 1) := by decide +kernel
theorem dX8_goes_99 : decode cX8_goes 99 = .ok (.sipush 600, 3) := by decide +kernel
theorem dX8_goes_102 : decode cX8_goes 102 = .ok (.if_icmp .ge 10, 3) := by decide +kernel
theorem dX8_goes_105 : decode cX8_goes 105 = .ok (.aload_n 0, 1) := by decide +kernel
theorem dX8_goes_106 : decode cX8_goes 106 = .ok (.invokevirtual 215, 3) := by decide +kernel
theorem dX8_goes_109 : decode cX8_goes 109 = .ok (.goto (-30), 3) := by decide +kernel
theorem dX8_goes_112 : decode cX8_goes 112 = .ok (.aload_n 0, 1) := by decide +kernel
theorem dX8_goes_113 : decode cX8_goes 113 = .ok (.invokevirtual 212, 3) := by decide +kernel
theorem dX8_goes_116 : decode cX8_goes 116 = .ok (.istore 4, 2) := by decide +kernel
theorem dX8_goes_118 : decode cX8_goes 118 = .ok (.aload_n 0, 1) := by decide +kernel
theorem dX8_goes_119 : decode cX8_goes 119 = .ok (.aload_n 0, 1) := by decide +kernel
theorem dX8_goes_120 : decode cX8_goes 120 = .ok (.getfield 13, 3) := by decide +kernel
theorem dX8_goes_123 : decode cX8_goes 123 = .ok (.iconst 0, 1) := by decide +kernel
theorem dX8_goes_124 : decode cX8_goes 124 = .ok (.iaload, 1) := by decide +kernel
theorem dX8_goes_125 : decode cX8_goes 125 = .ok (.aload_n 0, 1) := by decide +kernel
theorem dX8_goes_126 : decode cX8_goes 126 = .ok (.getfield 20, 3) := by decide +kernel
theorem dX8_goes_129 : decode cX8_goes 129 = .ok (.iconst 0, 1) := by decide +kernel
theorem dX8_goes_130 : decode cX8_goes 130 = .ok (.iaload, 1) := by decide +kernel
theorem dX8_goes_131 : decode cX8_goes 131 = .ok (.isub, 1) := by decide +kernel
theorem dX8_goes_132 : decode cX8_goes 132 = .ok (.putfield 218, 3) := by decide +kernel
theorem dX8_goes_135 : decode cX8_goes 135 = .ok (.aload_n 0, 1) := by decide +kernel
theorem dX8_goes_136 : decode cX8_goes 136 = .ok (.aload_n 0, 1) := by decide +kernel
theorem dX8_goes_137 : decode cX8_goes 137 = .ok (.getfield 13, 3) := by decide +kernel
theorem dX8_goes_140 : decode cX8_goes 140 = .ok (.iconst 3, 1) := by decide +kernel
theorem dX8_goes_141 : decode cX8_goes 141 = .ok (.iaload, 1) := by decide +kernel
theorem dX8_goes_142 : decode cX8_goes 142 = .ok (.aload_n 0, 1) := by decide +kernel
theorem dX8_goes_143 : decode cX8_goes 143 = .ok (.getfield 20, 3) := by decide +kernel
theorem dX8_goes_146 : decode cX8_goes 146 = .ok (.iconst 3, 1) := by decide +kernel
theorem dX8_goes_147 : decode cX8_goes 147 = .ok (.iaload, 1) := by decide +kernel
theorem dX8_goes_148 : decode cX8_goes 148 = .ok (.isub, 1) := by decide +kernel
theorem dX8_goes_149 : decode cX8_goes 149 = .ok (.putfield 221, 3) := by decide +kernel
theorem dX8_goes_152 : decode cX8_goes 152 = .ok (.aload_n 0, 1) := by decide +kernel
theorem dX8_goes_153 : decode cX8_goes 153 = .ok (.iconst 0, 1) := by decide +kernel
theorem dX8_goes_154 : decode cX8_goes 154 = .ok (.putfield 206, 3) := by decide +kernel
theorem dX8_goes_157 : decode cX8_goes 157 = .ok (.aload_n 0, 1) := by decide +kernel
theorem dX8_goes_158 : decode cX8_goes 158 = .ok (.getfield 20, 3) := by decide +kernel
theorem dX8_goes_161 : decode cX8_goes 161 = .ok (.iconst 0, 1) := by decide +kernel
theorem dX8_goes_162 : decode cX8_goes 162 = .ok (.aload_n 0, 1) := by decide +kernel
theorem dX8_goes_163 : decode cX8_goes 163 = .ok (.getfield 13, 3) := by decide +kernel
theorem dX8_goes_166 : decode cX8_goes 166 = .ok (.iconst 0, 1) := by decide +kernel
theorem dX8_goes_167 : decode cX8_goes 167 = .ok (.invokestatic 111, 3) := by decide +kernel
theorem dX8_goes_170 : decode cX8_goes 170 = .ok (.iload 4, 2) := by decide +kernel
theorem dX8_goes_172 : decode cX8_goes 172 = .ok (.ireturn, 1) := by decide +kernel
theorem dX8_size_0 : decode cX8_size 0 = .ok (.aload_n 0, 1) := by decide +kernel
theorem dX8_size_1 : decode cX8_size 1 = .ok (.iload_n 1, 1) := by decide +kernel
theorem dX8_size_2 : decode cX8_size 2 = .ok (.iconst 0, 1) := by decide +kernel
theorem dX8_size_3 : decode cX8_size 3 = .ok (.bipush 6, 2) := by decide +kernel
theorem dX8_size_5 : decode cX8_size 5 = .ok (.invokestatic 72, 3) := by decide +kernel
theorem dX8_size_8 : decode cX8_size 8 = .ok (.ifCond .eq 7, 3) := by decide +kernel
theorem dX8_size_11 : decode cX8_size 11 = .ok (.iconst 0, 1) := by decide +kernel
theorem dX8_size_12 : decode cX8_size 12 = .ok (.goto 4, 3) := by decide +kernel
theorem dX8_size_15 : decode cX8_size 15 = .ok (.iconst 1, 1) := by decide +kernel
theorem dX8_size_16 : decode cX8_size 16 = .ok (.putfield 45, 3) := by decide +kernel
theorem dX8_size_19 : decode cX8_size 19 = .ok (.aload_n 0, 1) := by decide +kernel
theorem dX8_size_20 : decode cX8_size 20 = .ok (.getfield 45, 3) := by decide +kernel
theorem dX8_size_23 : decode cX8_size 23 = .ok (.ifCond .le 5, 3) := by decide +kernel
theorem dX8_size_26 : decode cX8_size 26 = .ok (.iconst 0, 1) := by decide +kernel
theorem dX8_size_27 : decode cX8_size 27 = .ok (.ireturn, 1) := by decide +kernel
theorem dX8_size_28 : decode cX8_size 28 = .ok (.iload_n 1, 1) := by decide +kernel
theorem dX8_size_29 : decode cX8_size 29 = .ok (.tableswitch 82 0 5 #[39, 46, 53, 60, 67, 74], 39) := by decide +kernel
theorem dX8_size_68 : decode cX8_size 68 = .ok (.aload_n 0, 1) := by decide +kernel
theorem dX8_size_69 : decode cX8_size 69 = .ok (.getfield 13, 3) := by decide +kernel
theorem dX8_size_72 : decode cX8_size 72 = .ok (.iconst 4, 1) := by decide +kernel
theorem dX8_size_73 : decode cX8_size 73 = .ok (.iaload, 1) := by decide +kernel
theorem dX8_size_74 : decode cX8_size 74 = .ok (.ireturn, 1) := by decide +kernel
theorem dX8_size_75 : decode cX8_size 75 = .ok (.aload_n 0, 1) := by decide +kernel
theorem dX8_size_76 : decode cX8_size 76 = .ok (.getfield 13, 3) := by decide +kernel
theorem dX8_size_79 : decode cX8_size 79 = .ok (.iconst 5, 1) := by decide +kernel
theorem dX8_size_80 : decode cX8_size 80 = .ok (.iaload, 1) := by decide +kernel
theorem dX8_size_81 : decode cX8_size 81 = .ok (.ireturn, 1) := by decide +kernel
theorem dX8_size_82 : decode cX8_size 82 = .ok (.aload_n 0, 1) := by decide +kernel
theorem dX8_size_83 : decode cX8_size 83 = .ok (.getfield 13, 3) := by decide +kernel
theorem dX8_size_86 : decode cX8_size 86 = .ok (.iconst 0, 1) := by decide +kernel
theorem dX8_size_87 : decode cX8_size 87 = .ok (.iaload, 1) := by decide +kernel
theorem dX8_size_88 : decode cX8_size 88 = .ok (.ireturn, 1) := by decide +kernel
theorem dX8_size_89 : decode cX8_size 89 = .ok (.aload_n 0, 1) := by decide +kernel
theorem dX8_size_90 : decode cX8_size 90 = .ok (.getfield 13, 3) := by decide +kernel
theorem dX8_size_93 : decode cX8_size 93 = .ok (.iconst 1, 1) := by decide +kernel
theorem dX8_size_94 : decode cX8_size 94 = .ok (.iaload, 1) := by decide +kernel
theorem dX8_size_95 : decode cX8_size 95 = .ok (.ireturn, 1) := by decide +kernel
theorem dX8_size_96 : decode cX8_size 96 = .ok (.aload_n 0, 1) := by decide +kernel
theorem dX8_size_97 : decode cX8_size 97 = .ok (.getfield 13, 3) := by decide +kernel
theorem dX8_size_100 : decode cX8_size 100 = .ok (.iconst 2, 1) := by decide +kernel
theorem dX8_size_101 : decode cX8_size 101 = .ok (.iaload, 1) := by decide +kernel
theorem dX8_size_102 : decode cX8_size 102 = .ok (.ireturn, 1) := by decide +kernel
theorem dX8_size_103 : decode cX8_size 103 = .ok (.aload_n 0, 1) := by decide +kernel
theorem dX8_size_104 : decode cX8_size 104 = .ok (.getfield 13, 3) := by decide +kernel
theorem dX8_size_107 : decode cX8_size 107 = .ok (.bipush 7, 2) := by decide +kernel
theorem dX8_size_109 : decode cX8_size 109 = .ok (.iaload, 1) := by decide +kernel
theorem dX8_size_110 : decode cX8_size 110 = .ok (.ireturn, 1) := by decide +kernel
theorem dX8_size_111 : decode cX8_size 111 = .ok (.aload_n 0, 1) := by decide +kernel
theorem dX8_size_112 : decode cX8_size 112 = .ok (.getfield 108, 3) := by decide +kernel
theorem dX8_size_115 : decode cX8_size 115 = .ok (.ireturn, 1) := by decide +kernel
theorem dX8_station_0 : decode cX8_station 0 = .ok (.aload_n 0, 1) := by decide +kernel
theorem dX8_station_1 : decode cX8_station 1 = .ok (.iload_n 1, 1) := by decide +kernel
theorem dX8_station_2 : decode cX8_station 2 = .ok (.invokestatic 224, 3) := by decide +kernel
theorem dX8_station_5 : decode cX8_station 5 = .ok (.ifCond .ne 7, 3) := by decide +kernel
theorem dX8_station_8 : decode cX8_station 8 = .ok (.iconst 1, 1) := by decide +kernel
theorem dX8_station_9 : decode cX8_station 9 = .ok (.goto 18, 3) := by decide +kernel
theorem dX8_station_12 : decode cX8_station 12 = .ok (.iload_n 2, 1) := by decide +kernel
theorem dX8_station_13 : decode cX8_station 13 = .ok (.iconst 0, 1) := by decide +kernel
theorem dX8_station_14 : decode cX8_station 14 = .ok (.bipush 9, 2) := by decide +kernel
theorem dX8_station_16 : decode cX8_station 16 = .ok (.invokestatic 72, 3) := by decide +kernel
theorem dX8_station_19 : decode cX8_station 19 = .ok (.ifCond .ne 7, 3) := by decide +kernel
theorem dX8_station_22 : decode cX8_station 22 = .ok (.iconst 2, 1) := by decide +kernel
theorem dX8_station_23 : decode cX8_station 23 = .ok (.goto 4, 3) := by decide +kernel
theorem dX8_station_26 : decode cX8_station 26 = .ok (.iconst 0, 1) := by decide +kernel
theorem dX8_station_27 : decode cX8_station 27 = .ok (.putfield 45, 3) := by decide +kernel
theorem dX8_station_30 : decode cX8_station 30 = .ok (.aload_n 0, 1) := by decide +kernel
theorem dX8_station_31 : decode cX8_station 31 = .ok (.getfield 45, 3) := by decide +kernel
theorem dX8_station_34 : decode cX8_station 34 = .ok (.ifCond .ne 12, 3) := by decide +kernel
theorem dX8_station_37 : decode cX8_station 37 = .ok (.aload_n 0, 1) := by decide +kernel
theorem dX8_station_38 : decode cX8_station 38 = .ok (.iload_n 1, 1) := by decide +kernel
theorem dX8_station_39 : decode cX8_station 39 = .ok (.iload_n 2, 1) := by decide +kernel
theorem dX8_station_40 : decode cX8_station 40 = .ok (.invokevirtual 118, 3) := by decide +kernel
theorem dX8_station_43 : decode cX8_station 43 = .ok (.goto 4, 3) := by decide +kernel
theorem dX8_station_46 : decode cX8_station 46 = .ok (.iconst 0, 1) := by decide +kernel
theorem dX8_station_47 : decode cX8_station 47 = .ok (.ireturn, 1) := by decide +kernel
theorem dX8_messageByte_0 : decode cX8_messageByte 0 = .ok (.aload_n 0, 1) := by decide +kernel
theorem dX8_messageByte_1 : decode cX8_messageByte 1 = .ok (.iload_n 1, 1) := by decide +kernel
theorem dX8_messageByte_2 : decode cX8_messageByte 2 = .ok (.invokestatic 224, 3) := by decide +kernel
theorem dX8_messageByte_5 : decode cX8_messageByte 5 = .ok (.ifCond .eq 19, 3) := by decide +kernel
theorem dX8_messageByte_8 : decode cX8_messageByte 8 = .ok (.iload_n 2, 1) := by decide +kernel
theorem dX8_messageByte_9 : decode cX8_messageByte 9 = .ok (.iconst 0, 1) := by decide +kernel
theorem dX8_messageByte_10 : decode cX8_messageByte 10 = .ok (.aload_n 0, 1) := by decide +kernel
theorem dX8_messageByte_11 : decode cX8_messageByte 11 = .ok (.iload_n 1, 1) := by decide +kernel
theorem dX8_messageByte_12 : decode cX8_messageByte 12 = .ok (.iconst 0, 1) := by decide +kernel
theorem dX8_messageByte_13 : decode cX8_messageByte 13 = .ok (.invokevirtual 118, 3) := by decide +kernel
theorem dX8_messageByte_16 : decode cX8_messageByte 16 = .ok (.iconst 1, 1) := by decide +kernel
theorem dX8_messageByte_17 : decode cX8_messageByte 17 = .ok (.isub, 1) := by decide +kernel
theorem dX8_messageByte_18 : decode cX8_messageByte 18 = .ok (.invokestatic 72, 3) := by decide +kernel
theorem dX8_messageByte_21 : decode cX8_messageByte 21 = .ok (.ifCond .ne 7, 3) := by decide +kernel
theorem dX8_messageByte_24 : decode cX8_messageByte 24 = .ok (.iconst 1, 1) := by decide +kernel
theorem dX8_messageByte_25 : decode cX8_messageByte 25 = .ok (.goto 4, 3) := by decide +kernel
theorem dX8_messageByte_28 : decode cX8_messageByte 28 = .ok (.iconst 0, 1) := by decide +kernel
theorem dX8_messageByte_29 : decode cX8_messageByte 29 = .ok (.putfield 45, 3) := by decide +kernel
theorem dX8_messageByte_32 : decode cX8_messageByte 32 = .ok (.aload_n 0, 1) := by decide +kernel
theorem dX8_messageByte_33 : decode cX8_messageByte 33 = .ok (.getfield 45, 3) := by decide +kernel
theorem dX8_messageByte_36 : decode cX8_messageByte 36 = .ok (.ifCond .le 5, 3) := by decide +kernel
theorem dX8_messageByte_39 : decode cX8_messageByte 39 = .ok (.iconst 0, 1) := by decide +kernel
theorem dX8_messageByte_40 : decode cX8_messageByte 40 = .ok (.ireturn, 1) := by decide +kernel
theorem dX8_messageByte_41 : decode cX8_messageByte 41 = .ok (.iload_n 3, 1) := by decide +kernel
theorem dX8_messageByte_42 : decode cX8_messageByte 42 = .ok (.iconst 0, 1) := by decide +kernel
theorem dX8_messageByte_43 : decode cX8_messageByte 43 = .ok (.aload_n 0, 1) := by decide +kernel
theorem dX8_messageByte_44 : decode cX8_messageByte 44 = .ok (.getfield 13, 3) := by decide +kernel
theorem dX8_messageByte_47 : decode cX8_messageByte 47 = .ok (.iload_n 1, 1) := by decide +kernel
theorem dX8_messageByte_48 : decode cX8_messageByte 48 = .ok (.iload_n 2, 1) := by decide +kernel
theorem dX8_messageByte_49 : decode cX8_messageByte 49 = .ok (.invokestatic 135, 3) := by decide +kernel
theorem dX8_messageByte_52 : decode cX8_messageByte 52 = .ok (.iaload, 1) := by decide +kernel
theorem dX8_messageByte_53 : decode cX8_messageByte 53 = .ok (.iconst 1, 1) := by decide +kernel
theorem dX8_messageByte_54 : decode cX8_messageByte 54 = .ok (.isub, 1) := by decide +kernel
theorem dX8_messageByte_55 : decode cX8_messageByte 55 = .ok (.invokestatic 72, 3) := by decide +kernel
theorem dX8_messageByte_58 : decode cX8_messageByte 58 = .ok (.ifCond .eq 17, 3) := by decide +kernel
theorem dX8_messageByte_61 : decode cX8_messageByte 61 = .ok (.aload_n 0, 1) := by decide +kernel
theorem dX8_messageByte_62 : decode cX8_messageByte 62 = .ok (.getfield 13, 3) := by decide +kernel
theorem dX8_messageByte_65 : decode cX8_messageByte 65 = .ok (.iload_n 1, 1) := by decide +kernel
theorem dX8_messageByte_66 : decode cX8_messageByte 66 = .ok (.iload_n 2, 1) := by decide +kernel
theorem dX8_messageByte_67 : decode cX8_messageByte 67 = .ok (.iload_n 3, 1) := by decide +kernel
theorem dX8_messageByte_68 : decode cX8_messageByte 68 = .ok (.invokestatic 131, 3) := by decide +kernel
theorem dX8_messageByte_71 : decode cX8_messageByte 71 = .ok (.iaload, 1) := by decide +kernel
theorem dX8_messageByte_72 : decode cX8_messageByte 72 = .ok (.goto 4, 3) := by decide +kernel
theorem dX8_messageByte_75 : decode cX8_messageByte 75 = .ok (.iconst (-1), 1) := by decide +kernel
theorem dX8_messageByte_76 : decode cX8_messageByte 76 = .ok (.ireturn, 1) := by decide +kernel
theorem dX8_isTold_0 : decode cX8_isTold 0 = .ok (.aload_n 0, 1) := by decide +kernel
theorem dX8_isTold_1 : decode cX8_isTold 1 = .ok (.iconst 0, 1) := by decide +kernel
theorem dX8_isTold_2 : decode cX8_isTold 2 = .ok (.putfield 45, 3) := by decide +kernel
theorem dX8_isTold_5 : decode cX8_isTold 5 = .ok (.aload_n 0, 1) := by decide +kernel
theorem dX8_isTold_6 : decode cX8_isTold 6 = .ok (.iload_n 1, 1) := by decide +kernel
theorem dX8_isTold_7 : decode cX8_isTold 7 = .ok (.invokevirtual 138, 3) := by decide +kernel
theorem dX8_isTold_10 : decode cX8_isTold 10 = .ok (.ireturn, 1) := by decide +kernel
theorem dX8_next_0 : decode cX8_next 0 = .ok (.aload_n 0, 1) := by decide +kernel
theorem dX8_next_1 : decode cX8_next 1 = .ok (.iload_n 1, 1) := by decide +kernel
theorem dX8_next_2 : decode cX8_next 2 = .ok (.iconst 0, 1) := by decide +kernel
theorem dX8_next_3 : decode cX8_next 3 = .ok (.iconst 5, 1) := by decide +kernel
theorem dX8_next_4 : decode cX8_next 4 = .ok (.invokestatic 72, 3) := by decide +kernel
theorem dX8_next_7 : decode cX8_next 7 = .ok (.ifCond .eq 7, 3) := by decide +kernel
theorem dX8_next_10 : decode cX8_next 10 = .ok (.iconst 0, 1) := by decide +kernel
theorem dX8_next_11 : decode cX8_next 11 = .ok (.goto 4, 3) := by decide +kernel
theorem dX8_next_14 : decode cX8_next 14 = .ok (.iconst 1, 1) := by decide +kernel
theorem dX8_next_15 : decode cX8_next 15 = .ok (.putfield 45, 3) := by decide +kernel
theorem dX8_next_18 : decode cX8_next 18 = .ok (.aload_n 0, 1) := by decide +kernel
theorem dX8_next_19 : decode cX8_next 19 = .ok (.getfield 45, 3) := by decide +kernel
theorem dX8_next_22 : decode cX8_next 22 = .ok (.ifCond .le 5, 3) := by decide +kernel
theorem dX8_next_25 : decode cX8_next 25 = .ok (.iconst 0, 1) := by decide +kernel
theorem dX8_next_26 : decode cX8_next 26 = .ok (.ireturn, 1) := by decide +kernel
theorem dX8_next_27 : decode cX8_next 27 = .ok (.aload_n 0, 1) := by decide +kernel
theorem dX8_next_28 : decode cX8_next 28 = .ok (.invokevirtual 196, 3) := by decide +kernel
theorem dX8_next_31 : decode cX8_next 31 = .ok (.iload_n 1, 1) := by decide +kernel
theorem dX8_next_32 : decode cX8_next 32 = .ok (.tableswitch 95 0 4 #[36, 49, 56, 83, 88], 36) := by decide +kernel
theorem dX8_next_68 : decode cX8_next 68 = .ok (.aload_n 0, 1) := by decide +kernel
theorem dX8_next_69 : decode cX8_next 69 = .ok (.invokevirtual 177, 3) := by decide +kernel
theorem dX8_next_72 : decode cX8_next 72 = .ok (.ifCond .eq 7, 3) := by decide +kernel
theorem dX8_next_75 : decode cX8_next 75 = .ok (.iconst 0, 1) := by decide +kernel
theorem dX8_next_76 : decode cX8_next 76 = .ok (.goto 4, 3) := by decide +kernel
theorem dX8_next_79 : decode cX8_next 79 = .ok (.iconst 1, 1) := by decide +kernel
theorem dX8_next_80 : decode cX8_next 80 = .ok (.ireturn, 1) := by decide +kernel
theorem dX8_next_81 : decode cX8_next 81 = .ok (.aload_n 0, 1) := by decide +kernel
theorem dX8_next_82 : decode cX8_next 82 = .ok (.getfield 13, 3) := by decide +kernel
theorem dX8_next_85 : decode cX8_next 85 = .ok (.iconst 1, 1) := by decide +kernel
theorem dX8_next_86 : decode cX8_next 86 = .ok (.iaload, 1) := by decide +kernel
theorem dX8_next_87 : decode cX8_next 87 = .ok (.ireturn, 1) := by decide +kernel
theorem dX8_next_88 : decode cX8_next 88 = .ok (.aload_n 0, 1) := by decide +kernel
theorem dX8_next_89 : decode cX8_next 89 = .ok (.invokevirtual 177, 3) := by decide +kernel
theorem dX8_next_92 : decode cX8_next 92 = .ok (.ifCond .eq 10, 3) := by decide +kernel
theorem dX8_next_95 : decode cX8_next 95 = .ok (.aload_n 0, 1) := by decide +kernel
theorem dX8_next_96 : decode cX8_next 96 = .ok (.invokevirtual 168, 3) := by decide +kernel
theorem dX8_next_99 : decode cX8_next 99 = .ok (.goto 15, 3) := by decide +kernel
theorem dX8_next_102 : decode cX8_next 102 = .ok (.aload_n 0, 1) := by decide +kernel
theorem dX8_next_103 : decode cX8_next 103 = .ok (.aload_n 0, 1) := by decide +kernel
theorem dX8_next_104 : decode cX8_next 104 = .ok (.getfield 13, 3) := by decide +kernel
theorem dX8_next_107 : decode cX8_next 107 = .ok (.iconst 1, 1) := by decide +kernel
theorem dX8_next_108 : decode cX8_next 108 = .ok (.iaload, 1) := by decide +kernel
theorem dX8_next_109 : decode cX8_next 109 = .ok (.bipush 9, 2) := by decide +kernel
theorem dX8_next_111 : decode cX8_next 111 = .ok (.invokevirtual 118, 3) := by decide +kernel
theorem dX8_next_114 : decode cX8_next 114 = .ok (.ireturn, 1) := by decide +kernel
theorem dX8_next_115 : decode cX8_next 115 = .ok (.aload_n 0, 1) := by decide +kernel
theorem dX8_next_116 : decode cX8_next 116 = .ok (.getfield 174, 3) := by decide +kernel
theorem dX8_next_119 : decode cX8_next 119 = .ok (.ireturn, 1) := by decide +kernel
theorem dX8_next_120 : decode cX8_next 120 = .ok (.aload_n 0, 1) := by decide +kernel
theorem dX8_next_121 : decode cX8_next 121 = .ok (.getfield 13, 3) := by decide +kernel
theorem dX8_next_124 : decode cX8_next 124 = .ok (.iconst 3, 1) := by decide +kernel
theorem dX8_next_125 : decode cX8_next 125 = .ok (.iaload, 1) := by decide +kernel
theorem dX8_next_126 : decode cX8_next 126 = .ok (.ireturn, 1) := by decide +kernel
theorem dX8_next_127 : decode cX8_next 127 = .ok (.aload_n 0, 1) := by decide +kernel
theorem dX8_next_128 : decode cX8_next 128 = .ok (.aload_n 0, 1) := by decide +kernel
theorem dX8_next_129 : decode cX8_next 129 = .ok (.getfield 13, 3) := by decide +kernel
theorem dX8_next_132 : decode cX8_next 132 = .ok (.iconst 3, 1) := by decide +kernel
theorem dX8_next_133 : decode cX8_next 133 = .ok (.iaload, 1) := by decide +kernel
theorem dX8_next_134 : decode cX8_next 134 = .ok (.invokevirtual 138, 3) := by decide +kernel
theorem dX8_next_137 : decode cX8_next 137 = .ok (.ifCond .eq 7, 3) := by decide +kernel
theorem dX8_next_140 : decode cX8_next 140 = .ok (.iconst 1, 1) := by decide +kernel
theorem dX8_next_141 : decode cX8_next 141 = .ok (.goto 4, 3) := by decide +kernel
theorem dX8_next_144 : decode cX8_next 144 = .ok (.iconst 0, 1) := by decide +kernel
theorem dX8_next_145 : decode cX8_next 145 = .ok (.ireturn, 1) := by decide +kernel
theorem dX8_nextByte_0 : decode cX8_nextByte 0 = .ok (.aload_n 0, 1) := by decide +kernel
theorem dX8_nextByte_1 : decode cX8_nextByte 1 = .ok (.iconst 0, 1) := by decide +kernel
theorem dX8_nextByte_2 : decode cX8_nextByte 2 = .ok (.putfield 45, 3) := by decide +kernel
theorem dX8_nextByte_5 : decode cX8_nextByte 5 = .ok (.aload_n 0, 1) := by decide +kernel
theorem dX8_nextByte_6 : decode cX8_nextByte 6 = .ok (.invokevirtual 196, 3) := by decide +kernel
theorem dX8_nextByte_9 : decode cX8_nextByte 9 = .ok (.iload_n 1, 1) := by decide +kernel
theorem dX8_nextByte_10 : decode cX8_nextByte 10 = .ok (.iconst 0, 1) := by decide +kernel
theorem dX8_nextByte_11 : decode cX8_nextByte 11 = .ok (.aload_n 0, 1) := by decide +kernel
theorem dX8_nextByte_12 : decode cX8_nextByte 12 = .ok (.getfield 174, 3) := by decide +kernel
theorem dX8_nextByte_15 : decode cX8_nextByte 15 = .ok (.iconst 1, 1) := by decide +kernel
theorem dX8_nextByte_16 : decode cX8_nextByte 16 = .ok (.isub, 1) := by decide +kernel
theorem dX8_nextByte_17 : decode cX8_nextByte 17 = .ok (.invokestatic 72, 3) := by decide +kernel
theorem dX8_nextByte_20 : decode cX8_nextByte 20 = .ok (.ifCond .eq 12, 3) := by decide +kernel
theorem dX8_nextByte_23 : decode cX8_nextByte 23 = .ok (.aload_n 0, 1) := by decide +kernel
theorem dX8_nextByte_24 : decode cX8_nextByte 24 = .ok (.getfield 36, 3) := by decide +kernel
theorem dX8_nextByte_27 : decode cX8_nextByte 27 = .ok (.iload_n 1, 1) := by decide +kernel
theorem dX8_nextByte_28 : decode cX8_nextByte 28 = .ok (.iaload, 1) := by decide +kernel
theorem dX8_nextByte_29 : decode cX8_nextByte 29 = .ok (.goto 4, 3) := by decide +kernel
theorem dX8_nextByte_32 : decode cX8_nextByte 32 = .ok (.iconst (-1), 1) := by decide +kernel
theorem dX8_nextByte_33 : decode cX8_nextByte 33 = .ok (.ireturn, 1) := by decide +kernel
theorem dX8_until_0 : decode cX8_until 0 = .ok (.aload_n 0, 1) := by decide +kernel
theorem dX8_until_1 : decode cX8_until 1 = .ok (.iload_n 2, 1) := by decide +kernel
theorem dX8_until_2 : decode cX8_until 2 = .ok (.iconst 0, 1) := by decide +kernel
theorem dX8_until_3 : decode cX8_until 3 = .ok (.iconst 1, 1) := by decide +kernel
theorem dX8_until_4 : decode cX8_until 4 = .ok (.invokestatic 72, 3) := by decide +kernel
theorem dX8_until_7 : decode cX8_until 7 = .ok (.ifCond .eq 7, 3) := by decide +kernel
theorem dX8_until_10 : decode cX8_until 10 = .ok (.iconst 0, 1) := by decide +kernel
theorem dX8_until_11 : decode cX8_until 11 = .ok (.goto 4, 3) := by decide +kernel
theorem dX8_until_14 : decode cX8_until 14 = .ok (.iconst 1, 1) := by decide +kernel
theorem dX8_until_15 : decode cX8_until 15 = .ok (.putfield 45, 3) := by decide +kernel
theorem dX8_until_18 : decode cX8_until 18 = .ok (.aload_n 0, 1) := by decide +kernel
theorem dX8_until_19 : decode cX8_until 19 = .ok (.getfield 45, 3) := by decide +kernel
theorem dX8_until_22 : decode cX8_until 22 = .ok (.ifCond .le 5, 3) := by decide +kernel
theorem dX8_until_25 : decode cX8_until 25 = .ok (.iconst 0, 1) := by decide +kernel
theorem dX8_until_26 : decode cX8_until 26 = .ok (.ireturn, 1) := by decide +kernel
theorem dX8_until_27 : decode cX8_until 27 = .ok (.aload_n 0, 1) := by decide +kernel
theorem dX8_until_28 : decode cX8_until 28 = .ok (.iload_n 1, 1) := by decide +kernel
theorem dX8_until_29 : decode cX8_until 29 = .ok (.iconst (-1), 1) := by decide +kernel
theorem dX8_until_30 : decode cX8_until 30 = .ok (.aload_n 0, 1) := by decide +kernel
theorem dX8_until_31 : decode cX8_until 31 = .ok (.getfield 13, 3) := by decide +kernel
theorem dX8_until_34 : decode cX8_until 34 = .ok (.iconst 4, 1) := by decide +kernel
theorem dX8_until_35 : decode cX8_until 35 = .ok (.iaload, 1) := by decide +kernel
theorem dX8_until_36 : decode cX8_until 36 = .ok (.invokevirtual 227, 3) := by decide +kernel
theorem dX8_until_39 : decode cX8_until 39 = .ok (.ifCond .ne 5, 3) := by decide +kernel
theorem dX8_until_42 : decode cX8_until 42 = .ok (.iconst (-1), 1) := by decide +kernel
theorem dX8_until_43 : decode cX8_until 43 = .ok (.ireturn, 1) := by decide +kernel
theorem dX8_until_44 : decode cX8_until 44 = .ok (.iload_n 2, 1) := by decide +kernel
theorem dX8_until_45 : decode cX8_until 45 = .ok (.ifCond .ne 10, 3) := by decide +kernel
theorem dX8_until_48 : decode cX8_until 48 = .ok (.aload_n 0, 1) := by decide +kernel
theorem dX8_until_49 : decode cX8_until 49 = .ok (.getfield 218, 3) := by decide +kernel
theorem dX8_until_52 : decode cX8_until 52 = .ok (.goto 7, 3) := by decide +kernel
theorem dX8_until_55 : decode cX8_until 55 = .ok (.aload_n 0, 1) := by decide +kernel
theorem dX8_until_56 : decode cX8_until 56 = .ok (.getfield 221, 3) := by decide +kernel
theorem dX8_until_59 : decode cX8_until 59 = .ok (.ireturn, 1) := by decide +kernel
theorem dX8_delayOf_0 : decode cX8_delayOf 0 = .ok (.aload_n 0, 1) := by decide +kernel
theorem dX8_delayOf_1 : decode cX8_delayOf 1 = .ok (.iconst 1, 1) := by decide +kernel
theorem dX8_delayOf_2 : decode cX8_delayOf 2 = .ok (.iconst (-1), 1) := by decide +kernel
theorem dX8_delayOf_3 : decode cX8_delayOf 3 = .ok (.aload_n 0, 1) := by decide +kernel
theorem dX8_delayOf_4 : decode cX8_delayOf 4 = .ok (.getfield 13, 3) := by decide +kernel
theorem dX8_delayOf_7 : decode cX8_delayOf 7 = .ok (.iconst 4, 1) := by decide +kernel
theorem dX8_delayOf_8 : decode cX8_delayOf 8 = .ok (.iaload, 1) := by decide +kernel
theorem dX8_delayOf_9 : decode cX8_delayOf 9 = .ok (.invokevirtual 227, 3) := by decide +kernel
theorem dX8_delayOf_12 : decode cX8_delayOf 12 = .ok (.ifCond .ne 7, 3) := by decide +kernel
theorem dX8_delayOf_15 : decode cX8_delayOf 15 = .ok (.sipush (-10001), 3) := by decide +kernel
theorem dX8_delayOf_18 : decode cX8_delayOf 18 = .ok (.ireturn, 1) := by decide +kernel
theorem dX8_delayOf_19 : decode cX8_delayOf 19 = .ok (.aload_n 0, 1) := by decide +kernel
theorem dX8_delayOf_20 : decode cX8_delayOf 20 = .ok (.getfield 218, 3) := by decide +kernel
theorem dX8_delayOf_23 : decode cX8_delayOf 23 = .ok (.istore_n 2, 1) := by decide +kernel
theorem dX8_delayOf_24 : decode cX8_delayOf 24 = .ok (.aload_n 0, 1) := by decide +kernel
theorem dX8_delayOf_25 : decode cX8_delayOf 25 = .ok (.iconst 1, 1) := by decide +kernel
theorem dX8_delayOf_26 : decode cX8_delayOf 26 = .ok (.iload_n 1, 1) := by decide +kernel
theorem dX8_delayOf_27 : decode cX8_delayOf 27 = .ok (.aload_n 0, 1) := by decide +kernel
theorem dX8_delayOf_28 : decode cX8_delayOf 28 = .ok (.getfield 13, 3) := by decide +kernel
theorem dX8_delayOf_31 : decode cX8_delayOf 31 = .ok (.iconst 4, 1) := by decide +kernel
theorem dX8_delayOf_32 : decode cX8_delayOf 32 = .ok (.iaload, 1) := by decide +kernel
theorem dX8_delayOf_33 : decode cX8_delayOf 33 = .ok (.invokevirtual 227, 3) := by decide +kernel
theorem dX8_delayOf_36 : decode cX8_delayOf 36 = .ok (.ifCond .eq 12, 3) := by decide +kernel
theorem dX8_delayOf_39 : decode cX8_delayOf 39 = .ok (.aload_n 0, 1) := by decide +kernel
theorem dX8_delayOf_40 : decode cX8_delayOf 40 = .ok (.getfield 218, 3) := by decide +kernel
theorem dX8_delayOf_43 : decode cX8_delayOf 43 = .ok (.iload_n 2, 1) := by decide +kernel
theorem dX8_delayOf_44 : decode cX8_delayOf 44 = .ok (.isub, 1) := by decide +kernel
theorem dX8_delayOf_45 : decode cX8_delayOf 45 = .ok (.goto 6, 3) := by decide +kernel
theorem dX8_delayOf_48 : decode cX8_delayOf 48 = .ok (.sipush (-10001), 3) := by decide +kernel
theorem dX8_delayOf_51 : decode cX8_delayOf 51 = .ok (.ireturn, 1) := by decide +kernel
theorem dX8_delay_0 : decode cX8_delay 0 = .ok (.aload_n 0, 1) := by decide +kernel
theorem dX8_delay_1 : decode cX8_delay 1 = .ok (.iload_n 1, 1) := by decide +kernel
theorem dX8_delay_2 : decode cX8_delay 2 = .ok (.iconst 0, 1) := by decide +kernel
theorem dX8_delay_3 : decode cX8_delay 3 = .ok (.sipush 1999, 3) := by decide +kernel
theorem dX8_delay_6 : decode cX8_delay 6 = .ok (.invokestatic 72, 3) := by decide +kernel
theorem dX8_delay_9 : decode cX8_delay 9 = .ok (.ifCond .eq 7, 3) := by decide +kernel
theorem dX8_delay_12 : decode cX8_delay 12 = .ok (.iconst 0, 1) := by decide +kernel
theorem dX8_delay_13 : decode cX8_delay 13 = .ok (.goto 4, 3) := by decide +kernel
theorem dX8_delay_16 : decode cX8_delay 16 = .ok (.iconst 1, 1) := by decide +kernel
theorem dX8_delay_17 : decode cX8_delay 17 = .ok (.putfield 45, 3) := by decide +kernel
theorem dX8_delay_20 : decode cX8_delay 20 = .ok (.aload_n 0, 1) := by decide +kernel
theorem dX8_delay_21 : decode cX8_delay 21 = .ok (.getfield 45, 3) := by decide +kernel
theorem dX8_delay_24 : decode cX8_delay 24 = .ok (.ifCond .ne 11, 3) := by decide +kernel
theorem dX8_delay_27 : decode cX8_delay 27 = .ok (.aload_n 0, 1) := by decide +kernel
theorem dX8_delay_28 : decode cX8_delay 28 = .ok (.iload_n 1, 1) := by decide +kernel
theorem dX8_delay_29 : decode cX8_delay 29 = .ok (.invokevirtual 231, 3) := by decide +kernel
theorem dX8_delay_32 : decode cX8_delay 32 = .ok (.goto 4, 3) := by decide +kernel
theorem dX8_delay_35 : decode cX8_delay 35 = .ok (.iconst 0, 1) := by decide +kernel
theorem dX8_delay_36 : decode cX8_delay 36 = .ok (.ireturn, 1) := by decide +kernel
theorem dX8_worstFrame_0 : decode cX8_worstFrame 0 = .ok (.aload_n 0, 1) := by decide +kernel
theorem dX8_worstFrame_1 : decode cX8_worstFrame 1 = .ok (.iconst 0, 1) := by decide +kernel
theorem dX8_worstFrame_2 : decode cX8_worstFrame 2 = .ok (.putfield 45, 3) := by decide +kernel
theorem dX8_worstFrame_5 : decode cX8_worstFrame 5 = .ok (.aload_n 0, 1) := by decide +kernel
theorem dX8_worstFrame_6 : decode cX8_worstFrame 6 = .ok (.iconst 1, 1) := by decide +kernel
theorem dX8_worstFrame_7 : decode cX8_worstFrame 7 = .ok (.iconst (-1), 1) := by decide +kernel
theorem dX8_worstFrame_8 : decode cX8_worstFrame 8 = .ok (.aload_n 0, 1) := by decide +kernel
theorem dX8_worstFrame_9 : decode cX8_worstFrame 9 = .ok (.getfield 13, 3) := by decide +kernel
theorem dX8_worstFrame_12 : decode cX8_worstFrame 12 = .ok (.iconst 4, 1) := by decide +kernel
theorem dX8_worstFrame_13 : decode cX8_worstFrame 13 = .ok (.iaload, 1) := by decide +kernel
theorem dX8_worstFrame_14 : decode cX8_worstFrame 14 = .ok (.invokevirtual 227, 3) := by decide +kernel
theorem dX8_worstFrame_17 : decode cX8_worstFrame 17 = .ok (.ifCond .ne 5, 3) := by decide +kernel
theorem dX8_worstFrame_20 : decode cX8_worstFrame 20 = .ok (.iconst (-1), 1) := by decide +kernel
theorem dX8_worstFrame_21 : decode cX8_worstFrame 21 = .ok (.ireturn, 1) := by decide +kernel
theorem dX8_worstFrame_22 : decode cX8_worstFrame 22 = .ok (.aload_n 0, 1) := by decide +kernel
theorem dX8_worstFrame_23 : decode cX8_worstFrame 23 = .ok (.getfield 221, 3) := by decide +kernel
theorem dX8_worstFrame_26 : decode cX8_worstFrame 26 = .ok (.istore_n 1, 1) := by decide +kernel
theorem dX8_worstFrame_27 : decode cX8_worstFrame 27 = .ok (.iconst (-1), 1) := by decide +kernel
theorem dX8_worstFrame_28 : decode cX8_worstFrame 28 = .ok (.istore_n 2, 1) := by decide +kernel
theorem dX8_worstFrame_29 : decode cX8_worstFrame 29 = .ok (.iconst 0, 1) := by decide +kernel
theorem dX8_worstFrame_30 : decode cX8_worstFrame 30 = .ok (.istore_n 3, 1) := by decide +kernel
theorem dX8_worstFrame_31 : decode cX8_worstFrame 31 = .ok (.iconst 0, 1) := by decide +kernel
theorem dX8_worstFrame_32 : decode cX8_worstFrame 32 = .ok (.istore 4, 2) := by decide +kernel
theorem dX8_worstFrame_34 : decode cX8_worstFrame 34 = .ok (.iload 4, 2) := by decide +kernel
theorem dX8_worstFrame_36 : decode cX8_worstFrame 36 = .ok (.iload_n 1, 1) := by decide +kernel
theorem dX8_worstFrame_37 : decode cX8_worstFrame 37 = .ok (.if_icmp .ge 59, 3) := by decide +kernel
theorem dX8_worstFrame_40 : decode cX8_worstFrame 40 = .ok (.aload_n 0, 1) := by decide +kernel
theorem dX8_worstFrame_41 : decode cX8_worstFrame 41 = .ok (.aload_n 0, 1) := by decide +kernel
theorem dX8_worstFrame_42 : decode cX8_worstFrame 42 = .ok (.getfield 13, 3) := by decide +kernel
theorem dX8_worstFrame_45 : decode cX8_worstFrame 45 = .ok (.iconst 3, 1) := by decide +kernel
theorem dX8_worstFrame_46 : decode cX8_worstFrame 46 = .ok (.iaload, 1) := by decide +kernel
theorem dX8_worstFrame_47 : decode cX8_worstFrame 47 = .ok (.iload 4, 2) := by decide +kernel
theorem dX8_worstFrame_49 : decode cX8_worstFrame 49 = .ok (.iadd, 1) := by decide +kernel
theorem dX8_worstFrame_50 : decode cX8_worstFrame 50 = .ok (.invokevirtual 231, 3) := by decide +kernel
theorem dX8_worstFrame_53 : decode cX8_worstFrame 53 = .ok (.istore 5, 2) := by decide +kernel
theorem dX8_worstFrame_55 : decode cX8_worstFrame 55 = .ok (.iload 5, 2) := by decide +kernel
theorem dX8_worstFrame_57 : decode cX8_worstFrame 57 = .ok (.sipush (-10001), 3) := by decide +kernel
theorem dX8_worstFrame_60 : decode cX8_worstFrame 60 = .ok (.if_icmp .eq 30, 3) := by decide +kernel
theorem dX8_worstFrame_63 : decode cX8_worstFrame 63 = .ok (.iload_n 2, 1) := by decide +kernel
theorem dX8_worstFrame_64 : decode cX8_worstFrame 64 = .ok (.iconst (-1), 1) := by decide +kernel
theorem dX8_worstFrame_65 : decode cX8_worstFrame 65 = .ok (.if_icmp .eq 12, 3) := by decide +kernel
theorem dX8_worstFrame_68 : decode cX8_worstFrame 68 = .ok (.iload 5, 2) := by decide +kernel
theorem dX8_worstFrame_70 : decode cX8_worstFrame 70 = .ok (.iload_n 3, 1) := by decide +kernel
theorem dX8_worstFrame_71 : decode cX8_worstFrame 71 = .ok (.if_icmp .gt 6, 3) := by decide +kernel
theorem dX8_worstFrame_74 : decode cX8_worstFrame 74 = .ok (.goto 16, 3) := by decide +kernel
theorem dX8_worstFrame_77 : decode cX8_worstFrame 77 = .ok (.aload_n 0, 1) := by decide +kernel
theorem dX8_worstFrame_78 : decode cX8_worstFrame 78 = .ok (.getfield 13, 3) := by decide +kernel
theorem dX8_worstFrame_81 : decode cX8_worstFrame 81 = .ok (.iconst 3, 1) := by decide +kernel
theorem dX8_worstFrame_82 : decode cX8_worstFrame 82 = .ok (.iaload, 1) := by decide +kernel
theorem dX8_worstFrame_83 : decode cX8_worstFrame 83 = .ok (.iload 4, 2) := by decide +kernel
theorem dX8_worstFrame_85 : decode cX8_worstFrame 85 = .ok (.iadd, 1) := by decide +kernel
theorem dX8_worstFrame_86 : decode cX8_worstFrame 86 = .ok (.istore_n 2, 1) := by decide +kernel
theorem dX8_worstFrame_87 : decode cX8_worstFrame 87 = .ok (.iload 5, 2) := by decide +kernel
theorem dX8_worstFrame_89 : decode cX8_worstFrame 89 = .ok (.istore_n 3, 1) := by decide +kernel
theorem dX8_worstFrame_90 : decode cX8_worstFrame 90 = .ok (.iinc 4 1, 3) := by decide +kernel
theorem dX8_worstFrame_93 : decode cX8_worstFrame 93 = .ok (.goto (-59), 3) := by decide +kernel
theorem dX8_worstFrame_96 : decode cX8_worstFrame 96 = .ok (.iload_n 2, 1) := by decide +kernel
theorem dX8_worstFrame_97 : decode cX8_worstFrame 97 = .ok (.ireturn, 1) := by decide +kernel
theorem dX8_bestBurst_0 : decode cX8_bestBurst 0 = .ok (.aload_n 0, 1) := by decide +kernel
theorem dX8_bestBurst_1 : decode cX8_bestBurst 1 = .ok (.iconst 0, 1) := by decide +kernel
theorem dX8_bestBurst_2 : decode cX8_bestBurst 2 = .ok (.putfield 45, 3) := by decide +kernel
theorem dX8_bestBurst_5 : decode cX8_bestBurst 5 = .ok (.iconst (-1), 1) := by decide +kernel
theorem dX8_bestBurst_6 : decode cX8_bestBurst 6 = .ok (.istore_n 1, 1) := by decide +kernel
theorem dX8_bestBurst_7 : decode cX8_bestBurst 7 = .ok (.iconst 0, 1) := by decide +kernel
theorem dX8_bestBurst_8 : decode cX8_bestBurst 8 = .ok (.istore_n 2, 1) := by decide +kernel
theorem dX8_bestBurst_9 : decode cX8_bestBurst 9 = .ok (.iconst 1, 1) := by decide +kernel
theorem dX8_bestBurst_10 : decode cX8_bestBurst 10 = .ok (.istore_n 3, 1) := by decide +kernel
theorem dX8_bestBurst_11 : decode cX8_bestBurst 11 = .ok (.iload_n 3, 1) := by decide +kernel
theorem dX8_bestBurst_12 : decode cX8_bestBurst 12 = .ok (.bipush 7, 2) := by decide +kernel
theorem dX8_bestBurst_14 : decode cX8_bestBurst 14 = .ok (.if_icmp .gt 42, 3) := by decide +kernel
theorem dX8_bestBurst_17 : decode cX8_bestBurst 17 = .ok (.aload_n 0, 1) := by decide +kernel
theorem dX8_bestBurst_18 : decode cX8_bestBurst 18 = .ok (.iconst 1, 1) := by decide +kernel
theorem dX8_bestBurst_19 : decode cX8_bestBurst 19 = .ok (.iconst (-1), 1) := by decide +kernel
theorem dX8_bestBurst_20 : decode cX8_bestBurst 20 = .ok (.iload_n 3, 1) := by decide +kernel
theorem dX8_bestBurst_21 : decode cX8_bestBurst 21 = .ok (.invokevirtual 227, 3) := by decide +kernel
theorem dX8_bestBurst_24 : decode cX8_bestBurst 24 = .ok (.ifCond .eq 26, 3) := by decide +kernel
theorem dX8_bestBurst_27 : decode cX8_bestBurst 27 = .ok (.iload_n 1, 1) := by decide +kernel
theorem dX8_bestBurst_28 : decode cX8_bestBurst 28 = .ok (.iconst (-1), 1) := by decide +kernel
theorem dX8_bestBurst_29 : decode cX8_bestBurst 29 = .ok (.if_icmp .eq 14, 3) := by decide +kernel
theorem dX8_bestBurst_32 : decode cX8_bestBurst 32 = .ok (.aload_n 0, 1) := by decide +kernel
theorem dX8_bestBurst_33 : decode cX8_bestBurst 33 = .ok (.getfield 218, 3) := by decide +kernel
theorem dX8_bestBurst_36 : decode cX8_bestBurst 36 = .ok (.iload_n 2, 1) := by decide +kernel
theorem dX8_bestBurst_37 : decode cX8_bestBurst 37 = .ok (.if_icmp .lt 6, 3) := by decide +kernel
theorem dX8_bestBurst_40 : decode cX8_bestBurst 40 = .ok (.goto 10, 3) := by decide +kernel
theorem dX8_bestBurst_43 : decode cX8_bestBurst 43 = .ok (.iload_n 3, 1) := by decide +kernel
theorem dX8_bestBurst_44 : decode cX8_bestBurst 44 = .ok (.istore_n 1, 1) := by decide +kernel
theorem dX8_bestBurst_45 : decode cX8_bestBurst 45 = .ok (.aload_n 0, 1) := by decide +kernel
theorem dX8_bestBurst_46 : decode cX8_bestBurst 46 = .ok (.getfield 218, 3) := by decide +kernel
theorem dX8_bestBurst_49 : decode cX8_bestBurst 49 = .ok (.istore_n 2, 1) := by decide +kernel
theorem dX8_bestBurst_50 : decode cX8_bestBurst 50 = .ok (.iinc 3 1, 3) := by decide +kernel
theorem dX8_bestBurst_53 : decode cX8_bestBurst 53 = .ok (.goto (-42), 3) := by decide +kernel
theorem dX8_bestBurst_56 : decode cX8_bestBurst 56 = .ok (.iload_n 1, 1) := by decide +kernel
theorem dX8_bestBurst_57 : decode cX8_bestBurst 57 = .ok (.ireturn, 1) := by decide +kernel
theorem dX8_account_0 : decode cX8_account 0 = .ok (.aload_n 0, 1) := by decide +kernel
theorem dX8_account_1 : decode cX8_account 1 = .ok (.iload_n 1, 1) := by decide +kernel
theorem dX8_account_2 : decode cX8_account 2 = .ok (.iconst 0, 1) := by decide +kernel
theorem dX8_account_3 : decode cX8_account 3 = .ok (.bipush 9, 2) := by decide +kernel
theorem dX8_account_5 : decode cX8_account 5 = .ok (.invokestatic 72, 3) := by decide +kernel
theorem dX8_account_8 : decode cX8_account 8 = .ok (.ifCond .eq 7, 3) := by decide +kernel
theorem dX8_account_11 : decode cX8_account 11 = .ok (.iconst 0, 1) := by decide +kernel
theorem dX8_account_12 : decode cX8_account 12 = .ok (.goto 4, 3) := by decide +kernel
theorem dX8_account_15 : decode cX8_account 15 = .ok (.iconst 1, 1) := by decide +kernel
theorem dX8_account_16 : decode cX8_account 16 = .ok (.putfield 45, 3) := by decide +kernel
theorem dX8_account_19 : decode cX8_account 19 = .ok (.aload_n 0, 1) := by decide +kernel
theorem dX8_account_20 : decode cX8_account 20 = .ok (.getfield 45, 3) := by decide +kernel
theorem dX8_account_23 : decode cX8_account 23 = .ok (.ifCond .ne 15, 3) := by decide +kernel
theorem dX8_account_26 : decode cX8_account 26 = .ok (.aload_n 0, 1) := by decide +kernel
theorem dX8_account_27 : decode cX8_account 27 = .ok (.getfield 13, 3) := by decide +kernel
theorem dX8_account_30 : decode cX8_account 30 = .ok (.bipush 8, 2) := by decide +kernel
theorem dX8_account_32 : decode cX8_account 32 = .ok (.iload_n 1, 1) := by decide +kernel
theorem dX8_account_33 : decode cX8_account 33 = .ok (.iadd, 1) := by decide +kernel
theorem dX8_account_34 : decode cX8_account 34 = .ok (.iaload, 1) := by decide +kernel
theorem dX8_account_35 : decode cX8_account 35 = .ok (.goto 4, 3) := by decide +kernel
theorem dX8_account_38 : decode cX8_account 38 = .ok (.iconst 0, 1) := by decide +kernel
theorem dX8_account_39 : decode cX8_account 39 = .ok (.ireturn, 1) := by decide +kernel
theorem dX8_efficiency_0 : decode cX8_efficiency 0 = .ok (.aload_n 0, 1) := by decide +kernel
theorem dX8_efficiency_1 : decode cX8_efficiency 1 = .ok (.iconst 0, 1) := by decide +kernel
theorem dX8_efficiency_2 : decode cX8_efficiency 2 = .ok (.putfield 45, 3) := by decide +kernel
theorem dX8_efficiency_5 : decode cX8_efficiency 5 = .ok (.iconst 0, 1) := by decide +kernel
theorem dX8_efficiency_6 : decode cX8_efficiency 6 = .ok (.istore_n 1, 1) := by decide +kernel
theorem dX8_efficiency_7 : decode cX8_efficiency 7 = .ok (.iconst 0, 1) := by decide +kernel
theorem dX8_efficiency_8 : decode cX8_efficiency 8 = .ok (.istore_n 2, 1) := by decide +kernel
theorem dX8_efficiency_9 : decode cX8_efficiency 9 = .ok (.iload_n 2, 1) := by decide +kernel
theorem dX8_efficiency_10 : decode cX8_efficiency 10 = .ok (.iconst 2, 1) := by decide +kernel
theorem dX8_efficiency_11 : decode cX8_efficiency 11 = .ok (.if_icmp .ge 42, 3) := by decide +kernel
theorem dX8_efficiency_14 : decode cX8_efficiency 14 = .ok (.iconst 0, 1) := by decide +kernel
theorem dX8_efficiency_15 : decode cX8_efficiency 15 = .ok (.istore_n 3, 1) := by decide +kernel
theorem dX8_efficiency_16 : decode cX8_efficiency 16 = .ok (.iload_n 3, 1) := by decide +kernel
theorem dX8_efficiency_17 : decode cX8_efficiency 17 = .ok (.aload_n 0, 1) := by decide +kernel
theorem dX8_efficiency_18 : decode cX8_efficiency 18 = .ok (.iconst 1, 1) := by decide +kernel
theorem dX8_efficiency_19 : decode cX8_efficiency 19 = .ok (.iload_n 2, 1) := by decide +kernel
theorem dX8_efficiency_20 : decode cX8_efficiency 20 = .ok (.isub, 1) := by decide +kernel
theorem dX8_efficiency_21 : decode cX8_efficiency 21 = .ok (.iconst 1, 1) := by decide +kernel
theorem dX8_efficiency_22 : decode cX8_efficiency 22 = .ok (.invokevirtual 118, 3) := by decide +kernel
theorem dX8_efficiency_25 : decode cX8_efficiency 25 = .ok (.if_icmp .ge 22, 3) := by decide +kernel
theorem dX8_efficiency_28 : decode cX8_efficiency 28 = .ok (.iload_n 1, 1) := by decide +kernel
theorem dX8_efficiency_29 : decode cX8_efficiency 29 = .ok (.aload_n 0, 1) := by decide +kernel
theorem dX8_efficiency_30 : decode cX8_efficiency 30 = .ok (.getfield 13, 3) := by decide +kernel
theorem dX8_efficiency_33 : decode cX8_efficiency 33 = .ok (.iload_n 2, 1) := by decide +kernel
theorem dX8_efficiency_34 : decode cX8_efficiency 34 = .ok (.iload_n 3, 1) := by decide +kernel
theorem dX8_efficiency_35 : decode cX8_efficiency 35 = .ok (.invokestatic 135, 3) := by decide +kernel
theorem dX8_efficiency_38 : decode cX8_efficiency 38 = .ok (.iaload, 1) := by decide +kernel
theorem dX8_efficiency_39 : decode cX8_efficiency 39 = .ok (.iadd, 1) := by decide +kernel
theorem dX8_efficiency_40 : decode cX8_efficiency 40 = .ok (.istore_n 1, 1) := by decide +kernel
theorem dX8_efficiency_41 : decode cX8_efficiency 41 = .ok (.iinc 3 1, 3) := by decide +kernel
theorem dX8_efficiency_44 : decode cX8_efficiency 44 = .ok (.goto (-28), 3) := by decide +kernel
theorem dX8_efficiency_47 : decode cX8_efficiency 47 = .ok (.iinc 2 1, 3) := by decide +kernel
theorem dX8_efficiency_50 : decode cX8_efficiency 50 = .ok (.goto (-41), 3) := by decide +kernel
theorem dX8_efficiency_53 : decode cX8_efficiency 53 = .ok (.aload_n 0, 1) := by decide +kernel
theorem dX8_efficiency_54 : decode cX8_efficiency 54 = .ok (.getfield 13, 3) := by decide +kernel
theorem dX8_efficiency_57 : decode cX8_efficiency 57 = .ok (.bipush 14, 2) := by decide +kernel
theorem dX8_efficiency_59 : decode cX8_efficiency 59 = .ok (.iaload, 1) := by decide +kernel
theorem dX8_efficiency_60 : decode cX8_efficiency 60 = .ok (.ifCond .ne 7, 3) := by decide +kernel
theorem dX8_efficiency_63 : decode cX8_efficiency 63 = .ok (.dconst 0, 1) := by decide +kernel
theorem dX8_efficiency_64 : decode cX8_efficiency 64 = .ok (.goto 14, 3) := by decide +kernel
theorem dX8_efficiency_67 : decode cX8_efficiency 67 = .ok (.iload_n 1, 1) := by decide +kernel
theorem dX8_efficiency_68 : decode cX8_efficiency 68 = .ok (.i2d, 1) := by decide +kernel
theorem dX8_efficiency_69 : decode cX8_efficiency 69 = .ok (.aload_n 0, 1) := by decide +kernel
theorem dX8_efficiency_70 : decode cX8_efficiency 70 = .ok (.getfield 13, 3) := by decide +kernel
theorem dX8_efficiency_73 : decode cX8_efficiency 73 = .ok (.bipush 14, 2) := by decide +kernel
theorem dX8_efficiency_75 : decode cX8_efficiency 75 = .ok (.iaload, 1) := by decide +kernel
theorem dX8_efficiency_76 : decode cX8_efficiency 76 = .ok (.i2d, 1) := by decide +kernel
theorem dX8_efficiency_77 : decode cX8_efficiency 77 = .ok (.ddiv, 1) := by decide +kernel
theorem dX8_efficiency_78 : decode cX8_efficiency 78 = .ok (.dreturn, 1) := by decide +kernel
theorem dX8_put_0 : decode cX8_put 0 = .ok (.aload_n 0, 1) := by decide +kernel
theorem dX8_put_1 : decode cX8_put 1 = .ok (.iload_n 1, 1) := by decide +kernel
theorem dX8_put_2 : decode cX8_put 2 = .ok (.invokestatic 224, 3) := by decide +kernel
theorem dX8_put_5 : decode cX8_put 5 = .ok (.ifCond .ne 7, 3) := by decide +kernel
theorem dX8_put_8 : decode cX8_put 8 = .ok (.iconst 1, 1) := by decide +kernel
theorem dX8_put_9 : decode cX8_put 9 = .ok (.goto 33, 3) := by decide +kernel
theorem dX8_put_12 : decode cX8_put 12 = .ok (.iload_n 2, 1) := by decide +kernel
theorem dX8_put_13 : decode cX8_put 13 = .ok (.iconst 1, 1) := by decide +kernel
theorem dX8_put_14 : decode cX8_put 14 = .ok (.bipush 8, 2) := by decide +kernel
theorem dX8_put_16 : decode cX8_put 16 = .ok (.invokestatic 72, 3) := by decide +kernel
theorem dX8_put_19 : decode cX8_put 19 = .ok (.ifCond .ne 7, 3) := by decide +kernel
theorem dX8_put_22 : decode cX8_put 22 = .ok (.iconst 2, 1) := by decide +kernel
theorem dX8_put_23 : decode cX8_put 23 = .ok (.goto 19, 3) := by decide +kernel
theorem dX8_put_26 : decode cX8_put 26 = .ok (.aload_n 0, 1) := by decide +kernel
theorem dX8_put_27 : decode cX8_put 27 = .ok (.iload_n 1, 1) := by decide +kernel
theorem dX8_put_28 : decode cX8_put 28 = .ok (.iconst 0, 1) := by decide +kernel
theorem dX8_put_29 : decode cX8_put 29 = .ok (.invokevirtual 118, 3) := by decide +kernel
theorem dX8_put_32 : decode cX8_put 32 = .ok (.bipush 20, 2) := by decide +kernel
theorem dX8_put_34 : decode cX8_put 34 = .ok (.if_icmp .ne 7, 3) := by decide +kernel
theorem dX8_put_37 : decode cX8_put 37 = .ok (.iconst 3, 1) := by decide +kernel
theorem dX8_put_38 : decode cX8_put 38 = .ok (.goto 4, 3) := by decide +kernel
theorem dX8_put_41 : decode cX8_put 41 = .ok (.iconst 0, 1) := by decide +kernel
theorem dX8_put_42 : decode cX8_put 42 = .ok (.putfield 45, 3) := by decide +kernel
theorem dX8_put_45 : decode cX8_put 45 = .ok (.aload_n 0, 1) := by decide +kernel
theorem dX8_put_46 : decode cX8_put 46 = .ok (.getfield 45, 3) := by decide +kernel
theorem dX8_put_49 : decode cX8_put 49 = .ok (.ifCond .le 5, 3) := by decide +kernel
theorem dX8_put_52 : decode cX8_put 52 = .ok (.iconst 0, 1) := by decide +kernel
theorem dX8_put_53 : decode cX8_put 53 = .ok (.ireturn, 1) := by decide +kernel
theorem dX8_put_54 : decode cX8_put 54 = .ok (.aload_n 0, 1) := by decide +kernel
theorem dX8_put_55 : decode cX8_put 55 = .ok (.invokevirtual 234, 3) := by decide +kernel
theorem dX8_put_58 : decode cX8_put 58 = .ok (.aload_n 0, 1) := by decide +kernel
theorem dX8_put_59 : decode cX8_put 59 = .ok (.iload_n 1, 1) := by decide +kernel
theorem dX8_put_60 : decode cX8_put 60 = .ok (.iconst 0, 1) := by decide +kernel
theorem dX8_put_61 : decode cX8_put 61 = .ok (.invokevirtual 118, 3) := by decide +kernel
theorem dX8_put_64 : decode cX8_put 64 = .ok (.istore 5, 2) := by decide +kernel
theorem dX8_put_66 : decode cX8_put 66 = .ok (.aload_n 0, 1) := by decide +kernel
theorem dX8_put_67 : decode cX8_put 67 = .ok (.getfield 13, 3) := by decide +kernel
theorem dX8_put_70 : decode cX8_put 70 = .ok (.iload_n 1, 1) := by decide +kernel
theorem dX8_put_71 : decode cX8_put 71 = .ok (.iload 5, 2) := by decide +kernel
theorem dX8_put_73 : decode cX8_put 73 = .ok (.invokestatic 135, 3) := by decide +kernel
theorem dX8_put_76 : decode cX8_put 76 = .ok (.iload_n 2, 1) := by decide +kernel
theorem dX8_put_77 : decode cX8_put 77 = .ok (.iastore, 1) := by decide +kernel
theorem dX8_put_78 : decode cX8_put 78 = .ok (.iconst 0, 1) := by decide +kernel
theorem dX8_put_79 : decode cX8_put 79 = .ok (.istore 6, 2) := by decide +kernel
theorem dX8_put_81 : decode cX8_put 81 = .ok (.iload 6, 2) := by decide +kernel
theorem dX8_put_83 : decode cX8_put 83 = .ok (.iload_n 2, 1) := by decide +kernel
theorem dX8_put_84 : decode cX8_put 84 = .ok (.if_icmp .ge 34, 3) := by decide +kernel
theorem dX8_put_87 : decode cX8_put 87 = .ok (.aload_n 0, 1) := by decide +kernel
theorem dX8_put_88 : decode cX8_put 88 = .ok (.getfield 13, 3) := by decide +kernel
theorem dX8_put_91 : decode cX8_put 91 = .ok (.iload_n 1, 1) := by decide +kernel
theorem dX8_put_92 : decode cX8_put 92 = .ok (.iload 5, 2) := by decide +kernel
theorem dX8_put_94 : decode cX8_put 94 = .ok (.iload 6, 2) := by decide +kernel
theorem dX8_put_96 : decode cX8_put 96 = .ok (.invokestatic 131, 3) := by decide +kernel
theorem dX8_put_99 : decode cX8_put 99 = .ok (.lload_n 3, 1) := by decide +kernel
theorem dX8_put_100 : decode cX8_put 100 = .ok (.bipush 8, 2) := by decide +kernel
theorem dX8_put_102 : decode cX8_put 102 = .ok (.iload 6, 2) := by decide +kernel
theorem dX8_put_104 : decode cX8_put 104 = .ok (.imul, 1) := by decide +kernel
theorem dX8_put_105 : decode cX8_put 105 = .ok (.lushr, 1) := by decide +kernel
theorem dX8_put_106 : decode cX8_put 106 = .ok (.ldc2_w 237, 3) := by decide +kernel
theorem dX8_put_109 : decode cX8_put 109 = .ok (.land, 1) := by decide +kernel
theorem dX8_put_110 : decode cX8_put 110 = .ok (.l2i, 1) := by decide +kernel
theorem dX8_put_111 : decode cX8_put 111 = .ok (.iastore, 1) := by decide +kernel
theorem dX8_put_112 : decode cX8_put 112 = .ok (.iinc 6 1, 3) := by decide +kernel
theorem dX8_put_115 : decode cX8_put 115 = .ok (.goto (-34), 3) := by decide +kernel
theorem dX8_put_118 : decode cX8_put 118 = .ok (.aload_n 0, 1) := by decide +kernel
theorem dX8_put_119 : decode cX8_put 119 = .ok (.getfield 13, 3) := by decide +kernel
theorem dX8_put_122 : decode cX8_put 122 = .ok (.iload_n 1, 1) := by decide +kernel
theorem dX8_put_123 : decode cX8_put 123 = .ok (.iconst 0, 1) := by decide +kernel
theorem dX8_put_124 : decode cX8_put 124 = .ok (.invokestatic 115, 3) := by decide +kernel
theorem dX8_put_127 : decode cX8_put 127 = .ok (.dup2, 1) := by decide +kernel
theorem dX8_put_128 : decode cX8_put 128 = .ok (.iaload, 1) := by decide +kernel
theorem dX8_put_129 : decode cX8_put 129 = .ok (.iconst 1, 1) := by decide +kernel
theorem dX8_put_130 : decode cX8_put 130 = .ok (.iadd, 1) := by decide +kernel
theorem dX8_put_131 : decode cX8_put 131 = .ok (.iastore, 1) := by decide +kernel
theorem dX8_put_132 : decode cX8_put 132 = .ok (.iload 5, 2) := by decide +kernel
theorem dX8_put_134 : decode cX8_put 134 = .ok (.ireturn, 1) := by decide +kernel
theorem dX8_buffered_0 : decode cX8_buffered 0 = .ok (.aload_n 0, 1) := by decide +kernel
theorem dX8_buffered_1 : decode cX8_buffered 1 = .ok (.iload_n 1, 1) := by decide +kernel
theorem dX8_buffered_2 : decode cX8_buffered 2 = .ok (.iconst 1, 1) := by decide +kernel
theorem dX8_buffered_3 : decode cX8_buffered 3 = .ok (.invokevirtual 118, 3) := by decide +kernel
theorem dX8_buffered_6 : decode cX8_buffered 6 = .ok (.aload_n 0, 1) := by decide +kernel
theorem dX8_buffered_7 : decode cX8_buffered 7 = .ok (.iload_n 1, 1) := by decide +kernel
theorem dX8_buffered_8 : decode cX8_buffered 8 = .ok (.iconst 2, 1) := by decide +kernel
theorem dX8_buffered_9 : decode cX8_buffered 9 = .ok (.invokevirtual 118, 3) := by decide +kernel
theorem dX8_buffered_12 : decode cX8_buffered 12 = .ok (.isub, 1) := by decide +kernel
theorem dX8_buffered_13 : decode cX8_buffered 13 = .ok (.ireturn, 1) := by decide +kernel
theorem dX8_read_0 : decode cX8_read 0 = .ok (.aload_n 0, 1) := by decide +kernel
theorem dX8_read_1 : decode cX8_read 1 = .ok (.iload_n 1, 1) := by decide +kernel
theorem dX8_read_2 : decode cX8_read 2 = .ok (.invokestatic 224, 3) := by decide +kernel
theorem dX8_read_5 : decode cX8_read 5 = .ok (.ifCond .ne 7, 3) := by decide +kernel
theorem dX8_read_8 : decode cX8_read 8 = .ok (.iconst 1, 1) := by decide +kernel
theorem dX8_read_9 : decode cX8_read 9 = .ok (.goto 31, 3) := by decide +kernel
theorem dX8_read_12 : decode cX8_read 12 = .ok (.iload_n 2, 1) := by decide +kernel
theorem dX8_read_13 : decode cX8_read 13 = .ok (.iconst 1, 1) := by decide +kernel
theorem dX8_read_14 : decode cX8_read 14 = .ok (.bipush 20, 2) := by decide +kernel
theorem dX8_read_16 : decode cX8_read 16 = .ok (.invokestatic 72, 3) := by decide +kernel
theorem dX8_read_19 : decode cX8_read 19 = .ok (.ifCond .ne 7, 3) := by decide +kernel
theorem dX8_read_22 : decode cX8_read 22 = .ok (.iconst 2, 1) := by decide +kernel
theorem dX8_read_23 : decode cX8_read 23 = .ok (.goto 17, 3) := by decide +kernel
theorem dX8_read_26 : decode cX8_read 26 = .ok (.iload_n 2, 1) := by decide +kernel
theorem dX8_read_27 : decode cX8_read 27 = .ok (.aload_n 0, 1) := by decide +kernel
theorem dX8_read_28 : decode cX8_read 28 = .ok (.iload_n 1, 1) := by decide +kernel
theorem dX8_read_29 : decode cX8_read 29 = .ok (.invokevirtual 239, 3) := by decide +kernel
theorem dX8_read_32 : decode cX8_read 32 = .ok (.if_icmp .le 7, 3) := by decide +kernel
theorem dX8_read_35 : decode cX8_read 35 = .ok (.iconst 3, 1) := by decide +kernel
theorem dX8_read_36 : decode cX8_read 36 = .ok (.goto 4, 3) := by decide +kernel
theorem dX8_read_39 : decode cX8_read 39 = .ok (.iconst 0, 1) := by decide +kernel
theorem dX8_read_40 : decode cX8_read 40 = .ok (.putfield 45, 3) := by decide +kernel
theorem dX8_read_43 : decode cX8_read 43 = .ok (.aload_n 0, 1) := by decide +kernel
theorem dX8_read_44 : decode cX8_read 44 = .ok (.getfield 45, 3) := by decide +kernel
theorem dX8_read_47 : decode cX8_read 47 = .ok (.ifCond .le 5, 3) := by decide +kernel
theorem dX8_read_50 : decode cX8_read 50 = .ok (.iconst 0, 1) := by decide +kernel
theorem dX8_read_51 : decode cX8_read 51 = .ok (.ireturn, 1) := by decide +kernel
theorem dX8_read_52 : decode cX8_read 52 = .ok (.aload_n 0, 1) := by decide +kernel
theorem dX8_read_53 : decode cX8_read 53 = .ok (.invokevirtual 234, 3) := by decide +kernel
theorem dX8_read_56 : decode cX8_read 56 = .ok (.aload_n 0, 1) := by decide +kernel
theorem dX8_read_57 : decode cX8_read 57 = .ok (.getfield 13, 3) := by decide +kernel
theorem dX8_read_60 : decode cX8_read 60 = .ok (.iload_n 1, 1) := by decide +kernel
theorem dX8_read_61 : decode cX8_read 61 = .ok (.iconst 2, 1) := by decide +kernel
theorem dX8_read_62 : decode cX8_read 62 = .ok (.invokestatic 115, 3) := by decide +kernel
theorem dX8_read_65 : decode cX8_read 65 = .ok (.dup2, 1) := by decide +kernel
theorem dX8_read_66 : decode cX8_read 66 = .ok (.iaload, 1) := by decide +kernel
theorem dX8_read_67 : decode cX8_read 67 = .ok (.iload_n 2, 1) := by decide +kernel
theorem dX8_read_68 : decode cX8_read 68 = .ok (.iadd, 1) := by decide +kernel
theorem dX8_read_69 : decode cX8_read 69 = .ok (.iastore, 1) := by decide +kernel
theorem dX8_read_70 : decode cX8_read 70 = .ok (.aload_n 0, 1) := by decide +kernel
theorem dX8_read_71 : decode cX8_read 71 = .ok (.iload_n 1, 1) := by decide +kernel
theorem dX8_read_72 : decode cX8_read 72 = .ok (.invokevirtual 239, 3) := by decide +kernel
theorem dX8_read_75 : decode cX8_read 75 = .ok (.ireturn, 1) := by decide +kernel
theorem dX8_askBack_0 : decode cX8_askBack 0 = .ok (.aload_n 0, 1) := by decide +kernel
theorem dX8_askBack_1 : decode cX8_askBack 1 = .ok (.iload_n 1, 1) := by decide +kernel
theorem dX8_askBack_2 : decode cX8_askBack 2 = .ok (.invokestatic 224, 3) := by decide +kernel
theorem dX8_askBack_5 : decode cX8_askBack 5 = .ok (.ifCond .ne 7, 3) := by decide +kernel
theorem dX8_askBack_8 : decode cX8_askBack 8 = .ok (.iconst 1, 1) := by decide +kernel
theorem dX8_askBack_9 : decode cX8_askBack 9 = .ok (.goto 41, 3) := by decide +kernel
theorem dX8_askBack_12 : decode cX8_askBack 12 = .ok (.iload_n 2, 1) := by decide +kernel
theorem dX8_askBack_13 : decode cX8_askBack 13 = .ok (.iconst 1, 1) := by decide +kernel
theorem dX8_askBack_14 : decode cX8_askBack 14 = .ok (.bipush 9, 2) := by decide +kernel
theorem dX8_askBack_16 : decode cX8_askBack 16 = .ok (.invokestatic 72, 3) := by decide +kernel
theorem dX8_askBack_19 : decode cX8_askBack 19 = .ok (.ifCond .ne 7, 3) := by decide +kernel
theorem dX8_askBack_22 : decode cX8_askBack 22 = .ok (.iconst 2, 1) := by decide +kernel
theorem dX8_askBack_23 : decode cX8_askBack 23 = .ok (.goto 27, 3) := by decide +kernel
theorem dX8_askBack_26 : decode cX8_askBack 26 = .ok (.aload_n 0, 1) := by decide +kernel
theorem dX8_askBack_27 : decode cX8_askBack 27 = .ok (.iload_n 1, 1) := by decide +kernel
theorem dX8_askBack_28 : decode cX8_askBack 28 = .ok (.iconst 3, 1) := by decide +kernel
theorem dX8_askBack_29 : decode cX8_askBack 29 = .ok (.invokevirtual 118, 3) := by decide +kernel
theorem dX8_askBack_32 : decode cX8_askBack 32 = .ok (.aload_n 0, 1) := by decide +kernel
theorem dX8_askBack_33 : decode cX8_askBack 33 = .ok (.iload_n 1, 1) := by decide +kernel
theorem dX8_askBack_34 : decode cX8_askBack 34 = .ok (.iconst 4, 1) := by decide +kernel
theorem dX8_askBack_35 : decode cX8_askBack 35 = .ok (.invokevirtual 118, 3) := by decide +kernel
theorem dX8_askBack_38 : decode cX8_askBack 38 = .ok (.isub, 1) := by decide +kernel
theorem dX8_askBack_39 : decode cX8_askBack 39 = .ok (.iload_n 2, 1) := by decide +kernel
theorem dX8_askBack_40 : decode cX8_askBack 40 = .ok (.isub, 1) := by decide +kernel
theorem dX8_askBack_41 : decode cX8_askBack 41 = .ok (.iconst 1, 1) := by decide +kernel
theorem dX8_askBack_42 : decode cX8_askBack 42 = .ok (.if_icmp .ge 7, 3) := by decide +kernel
theorem dX8_askBack_45 : decode cX8_askBack 45 = .ok (.iconst 3, 1) := by decide +kernel
theorem dX8_askBack_46 : decode cX8_askBack 46 = .ok (.goto 4, 3) := by decide +kernel
theorem dX8_askBack_49 : decode cX8_askBack 49 = .ok (.iconst 0, 1) := by decide +kernel
theorem dX8_askBack_50 : decode cX8_askBack 50 = .ok (.putfield 45, 3) := by decide +kernel
theorem dX8_askBack_53 : decode cX8_askBack 53 = .ok (.aload_n 0, 1) := by decide +kernel
theorem dX8_askBack_54 : decode cX8_askBack 54 = .ok (.getfield 45, 3) := by decide +kernel
theorem dX8_askBack_57 : decode cX8_askBack 57 = .ok (.ifCond .le 5, 3) := by decide +kernel
theorem dX8_askBack_60 : decode cX8_askBack 60 = .ok (.iconst 0, 1) := by decide +kernel
theorem dX8_askBack_61 : decode cX8_askBack 61 = .ok (.ireturn, 1) := by decide +kernel
theorem dX8_askBack_62 : decode cX8_askBack 62 = .ok (.aload_n 0, 1) := by decide +kernel
theorem dX8_askBack_63 : decode cX8_askBack 63 = .ok (.invokevirtual 234, 3) := by decide +kernel
theorem dX8_askBack_66 : decode cX8_askBack 66 = .ok (.aload_n 0, 1) := by decide +kernel
theorem dX8_askBack_67 : decode cX8_askBack 67 = .ok (.getfield 13, 3) := by decide +kernel
theorem dX8_askBack_70 : decode cX8_askBack 70 = .ok (.iload_n 1, 1) := by decide +kernel
theorem dX8_askBack_71 : decode cX8_askBack 71 = .ok (.iconst 4, 1) := by decide +kernel
theorem dX8_askBack_72 : decode cX8_askBack 72 = .ok (.invokestatic 115, 3) := by decide +kernel
theorem dX8_askBack_75 : decode cX8_askBack 75 = .ok (.dup2, 1) := by decide +kernel
theorem dX8_askBack_76 : decode cX8_askBack 76 = .ok (.iaload, 1) := by decide +kernel
theorem dX8_askBack_77 : decode cX8_askBack 77 = .ok (.iload_n 2, 1) := by decide +kernel
theorem dX8_askBack_78 : decode cX8_askBack 78 = .ok (.iadd, 1) := by decide +kernel
theorem dX8_askBack_79 : decode cX8_askBack 79 = .ok (.iastore, 1) := by decide +kernel
theorem dX8_askBack_80 : decode cX8_askBack 80 = .ok (.aload_n 0, 1) := by decide +kernel
theorem dX8_askBack_81 : decode cX8_askBack 81 = .ok (.iload_n 1, 1) := by decide +kernel
theorem dX8_askBack_82 : decode cX8_askBack 82 = .ok (.iconst 4, 1) := by decide +kernel
theorem dX8_askBack_83 : decode cX8_askBack 83 = .ok (.invokevirtual 118, 3) := by decide +kernel
theorem dX8_askBack_86 : decode cX8_askBack 86 = .ok (.ireturn, 1) := by decide +kernel
theorem dX8_grow_0 : decode cX8_grow 0 = .ok (.aload_n 0, 1) := by decide +kernel
theorem dX8_grow_1 : decode cX8_grow 1 = .ok (.iload_n 1, 1) := by decide +kernel
theorem dX8_grow_2 : decode cX8_grow 2 = .ok (.invokestatic 224, 3) := by decide +kernel
theorem dX8_grow_5 : decode cX8_grow 5 = .ok (.ifCond .ne 7, 3) := by decide +kernel
theorem dX8_grow_8 : decode cX8_grow 8 = .ok (.iconst 1, 1) := by decide +kernel
theorem dX8_grow_9 : decode cX8_grow 9 = .ok (.goto 44, 3) := by decide +kernel
theorem dX8_grow_12 : decode cX8_grow 12 = .ok (.iload_n 2, 1) := by decide +kernel
theorem dX8_grow_13 : decode cX8_grow 13 = .ok (.iconst 1, 1) := by decide +kernel
theorem dX8_grow_14 : decode cX8_grow 14 = .ok (.bipush 9, 2) := by decide +kernel
theorem dX8_grow_16 : decode cX8_grow 16 = .ok (.invokestatic 72, 3) := by decide +kernel
theorem dX8_grow_19 : decode cX8_grow 19 = .ok (.ifCond .ne 7, 3) := by decide +kernel
theorem dX8_grow_22 : decode cX8_grow 22 = .ok (.iconst 2, 1) := by decide +kernel
theorem dX8_grow_23 : decode cX8_grow 23 = .ok (.goto 30, 3) := by decide +kernel
theorem dX8_grow_26 : decode cX8_grow 26 = .ok (.aload_n 0, 1) := by decide +kernel
theorem dX8_grow_27 : decode cX8_grow 27 = .ok (.iload_n 1, 1) := by decide +kernel
theorem dX8_grow_28 : decode cX8_grow 28 = .ok (.iconst 3, 1) := by decide +kernel
theorem dX8_grow_29 : decode cX8_grow 29 = .ok (.invokevirtual 118, 3) := by decide +kernel
theorem dX8_grow_32 : decode cX8_grow 32 = .ok (.iload_n 2, 1) := by decide +kernel
theorem dX8_grow_33 : decode cX8_grow 33 = .ok (.iadd, 1) := by decide +kernel
theorem dX8_grow_34 : decode cX8_grow 34 = .ok (.bipush 9, 2) := by decide +kernel
theorem dX8_grow_36 : decode cX8_grow 36 = .ok (.if_icmp .gt 12, 3) := by decide +kernel
theorem dX8_grow_39 : decode cX8_grow 39 = .ok (.aload_n 0, 1) := by decide +kernel
theorem dX8_grow_40 : decode cX8_grow 40 = .ok (.iload_n 1, 1) := by decide +kernel
theorem dX8_grow_41 : decode cX8_grow 41 = .ok (.iconst 4, 1) := by decide +kernel
theorem dX8_grow_42 : decode cX8_grow 42 = .ok (.invokevirtual 118, 3) := by decide +kernel
theorem dX8_grow_45 : decode cX8_grow 45 = .ok (.ifCond .le 7, 3) := by decide +kernel
theorem dX8_grow_48 : decode cX8_grow 48 = .ok (.iconst 3, 1) := by decide +kernel
theorem dX8_grow_49 : decode cX8_grow 49 = .ok (.goto 4, 3) := by decide +kernel
theorem dX8_grow_52 : decode cX8_grow 52 = .ok (.iconst 0, 1) := by decide +kernel
theorem dX8_grow_53 : decode cX8_grow 53 = .ok (.putfield 45, 3) := by decide +kernel
theorem dX8_grow_56 : decode cX8_grow 56 = .ok (.aload_n 0, 1) := by decide +kernel
theorem dX8_grow_57 : decode cX8_grow 57 = .ok (.getfield 45, 3) := by decide +kernel
theorem dX8_grow_60 : decode cX8_grow 60 = .ok (.ifCond .le 5, 3) := by decide +kernel
theorem dX8_grow_63 : decode cX8_grow 63 = .ok (.iconst 0, 1) := by decide +kernel
theorem dX8_grow_64 : decode cX8_grow 64 = .ok (.ireturn, 1) := by decide +kernel
theorem dX8_grow_65 : decode cX8_grow 65 = .ok (.aload_n 0, 1) := by decide +kernel
theorem dX8_grow_66 : decode cX8_grow 66 = .ok (.invokevirtual 234, 3) := by decide +kernel
theorem dX8_grow_69 : decode cX8_grow 69 = .ok (.aload_n 0, 1) := by decide +kernel
theorem dX8_grow_70 : decode cX8_grow 70 = .ok (.getfield 13, 3) := by decide +kernel
theorem dX8_grow_73 : decode cX8_grow 73 = .ok (.iload_n 1, 1) := by decide +kernel
theorem dX8_grow_74 : decode cX8_grow 74 = .ok (.iconst 3, 1) := by decide +kernel
theorem dX8_grow_75 : decode cX8_grow 75 = .ok (.invokestatic 115, 3) := by decide +kernel
theorem dX8_grow_78 : decode cX8_grow 78 = .ok (.dup2, 1) := by decide +kernel
theorem dX8_grow_79 : decode cX8_grow 79 = .ok (.iaload, 1) := by decide +kernel
theorem dX8_grow_80 : decode cX8_grow 80 = .ok (.iload_n 2, 1) := by decide +kernel
theorem dX8_grow_81 : decode cX8_grow 81 = .ok (.iadd, 1) := by decide +kernel
theorem dX8_grow_82 : decode cX8_grow 82 = .ok (.iastore, 1) := by decide +kernel
theorem dX8_grow_83 : decode cX8_grow 83 = .ok (.aload_n 0, 1) := by decide +kernel
theorem dX8_grow_84 : decode cX8_grow 84 = .ok (.iload_n 1, 1) := by decide +kernel
theorem dX8_grow_85 : decode cX8_grow 85 = .ok (.iconst 3, 1) := by decide +kernel
theorem dX8_grow_86 : decode cX8_grow 86 = .ok (.invokevirtual 118, 3) := by decide +kernel
theorem dX8_grow_89 : decode cX8_grow 89 = .ok (.ireturn, 1) := by decide +kernel
theorem dX8_lose_0 : decode cX8_lose 0 = .ok (.aload_n 0, 1) := by decide +kernel
theorem dX8_lose_1 : decode cX8_lose 1 = .ok (.iload_n 1, 1) := by decide +kernel
theorem dX8_lose_2 : decode cX8_lose 2 = .ok (.iconst 0, 1) := by decide +kernel
theorem dX8_lose_3 : decode cX8_lose 3 = .ok (.sipush 1999, 3) := by decide +kernel
theorem dX8_lose_6 : decode cX8_lose 6 = .ok (.invokestatic 72, 3) := by decide +kernel
theorem dX8_lose_9 : decode cX8_lose 9 = .ok (.ifCond .ne 7, 3) := by decide +kernel
theorem dX8_lose_12 : decode cX8_lose 12 = .ok (.iconst 1, 1) := by decide +kernel
theorem dX8_lose_13 : decode cX8_lose 13 = .ok (.goto 38, 3) := by decide +kernel
theorem dX8_lose_16 : decode cX8_lose 16 = .ok (.iload_n 1, 1) := by decide +kernel
theorem dX8_lose_17 : decode cX8_lose 17 = .ok (.aload_n 0, 1) := by decide +kernel
theorem dX8_lose_18 : decode cX8_lose 18 = .ok (.getfield 13, 3) := by decide +kernel
theorem dX8_lose_21 : decode cX8_lose 21 = .ok (.iconst 3, 1) := by decide +kernel
theorem dX8_lose_22 : decode cX8_lose 22 = .ok (.iaload, 1) := by decide +kernel
theorem dX8_lose_23 : decode cX8_lose 23 = .ok (.if_icmp .lt 23, 3) := by decide +kernel
theorem dX8_lose_26 : decode cX8_lose 26 = .ok (.aload_n 0, 1) := by decide +kernel
theorem dX8_lose_27 : decode cX8_lose 27 = .ok (.iload_n 1, 1) := by decide +kernel
theorem dX8_lose_28 : decode cX8_lose 28 = .ok (.invokevirtual 138, 3) := by decide +kernel
theorem dX8_lose_31 : decode cX8_lose 31 = .ok (.ifCond .ne 15, 3) := by decide +kernel
theorem dX8_lose_34 : decode cX8_lose 34 = .ok (.aload_n 0, 1) := by decide +kernel
theorem dX8_lose_35 : decode cX8_lose 35 = .ok (.getfield 13, 3) := by decide +kernel
theorem dX8_lose_38 : decode cX8_lose 38 = .ok (.bipush 7, 2) := by decide +kernel
theorem dX8_lose_40 : decode cX8_lose 40 = .ok (.iaload, 1) := by decide +kernel
theorem dX8_lose_41 : decode cX8_lose 41 = .ok (.bipush 40, 2) := by decide +kernel
theorem dX8_lose_43 : decode cX8_lose 43 = .ok (.if_icmp .ne 7, 3) := by decide +kernel
theorem dX8_lose_46 : decode cX8_lose 46 = .ok (.iconst 2, 1) := by decide +kernel
theorem dX8_lose_47 : decode cX8_lose 47 = .ok (.goto 4, 3) := by decide +kernel
theorem dX8_lose_50 : decode cX8_lose 50 = .ok (.iconst 0, 1) := by decide +kernel
theorem dX8_lose_51 : decode cX8_lose 51 = .ok (.putfield 45, 3) := by decide +kernel
theorem dX8_lose_54 : decode cX8_lose 54 = .ok (.aload_n 0, 1) := by decide +kernel
theorem dX8_lose_55 : decode cX8_lose 55 = .ok (.getfield 45, 3) := by decide +kernel
theorem dX8_lose_58 : decode cX8_lose 58 = .ok (.ifCond .le 5, 3) := by decide +kernel
theorem dX8_lose_61 : decode cX8_lose 61 = .ok (.iconst 0, 1) := by decide +kernel
theorem dX8_lose_62 : decode cX8_lose 62 = .ok (.ireturn, 1) := by decide +kernel
theorem dX8_lose_63 : decode cX8_lose 63 = .ok (.aload_n 0, 1) := by decide +kernel
theorem dX8_lose_64 : decode cX8_lose 64 = .ok (.invokevirtual 234, 3) := by decide +kernel
theorem dX8_lose_67 : decode cX8_lose 67 = .ok (.aload_n 0, 1) := by decide +kernel
theorem dX8_lose_68 : decode cX8_lose 68 = .ok (.getfield 13, 3) := by decide +kernel
theorem dX8_lose_71 : decode cX8_lose 71 = .ok (.sipush 400, 3) := by decide +kernel
theorem dX8_lose_74 : decode cX8_lose 74 = .ok (.aload_n 0, 1) := by decide +kernel
theorem dX8_lose_75 : decode cX8_lose 75 = .ok (.getfield 13, 3) := by decide +kernel
theorem dX8_lose_78 : decode cX8_lose 78 = .ok (.bipush 7, 2) := by decide +kernel
theorem dX8_lose_80 : decode cX8_lose 80 = .ok (.iaload, 1) := by decide +kernel
theorem dX8_lose_81 : decode cX8_lose 81 = .ok (.iadd, 1) := by decide +kernel
theorem dX8_lose_82 : decode cX8_lose 82 = .ok (.iload_n 1, 1) := by decide +kernel
theorem dX8_lose_83 : decode cX8_lose 83 = .ok (.iastore, 1) := by decide +kernel
theorem dX8_lose_84 : decode cX8_lose 84 = .ok (.aload_n 0, 1) := by decide +kernel
theorem dX8_lose_85 : decode cX8_lose 85 = .ok (.getfield 13, 3) := by decide +kernel
theorem dX8_lose_88 : decode cX8_lose 88 = .ok (.bipush 7, 2) := by decide +kernel
theorem dX8_lose_90 : decode cX8_lose 90 = .ok (.dup2, 1) := by decide +kernel
theorem dX8_lose_91 : decode cX8_lose 91 = .ok (.iaload, 1) := by decide +kernel
theorem dX8_lose_92 : decode cX8_lose 92 = .ok (.iconst 1, 1) := by decide +kernel
theorem dX8_lose_93 : decode cX8_lose 93 = .ok (.iadd, 1) := by decide +kernel
theorem dX8_lose_94 : decode cX8_lose 94 = .ok (.iastore, 1) := by decide +kernel
theorem dX8_lose_95 : decode cX8_lose 95 = .ok (.aload_n 0, 1) := by decide +kernel
theorem dX8_lose_96 : decode cX8_lose 96 = .ok (.getfield 13, 3) := by decide +kernel
theorem dX8_lose_99 : decode cX8_lose 99 = .ok (.bipush 7, 2) := by decide +kernel
theorem dX8_lose_101 : decode cX8_lose 101 = .ok (.iaload, 1) := by decide +kernel
theorem dX8_lose_102 : decode cX8_lose 102 = .ok (.ireturn, 1) := by decide +kernel
theorem dX8_set_0 : decode cX8_set 0 = .ok (.aload_n 0, 1) := by decide +kernel
theorem dX8_set_1 : decode cX8_set 1 = .ok (.iload_n 1, 1) := by decide +kernel
theorem dX8_set_2 : decode cX8_set 2 = .ok (.iconst 1, 1) := by decide +kernel
theorem dX8_set_3 : decode cX8_set 3 = .ok (.bipush 7, 2) := by decide +kernel
theorem dX8_set_5 : decode cX8_set 5 = .ok (.invokestatic 72, 3) := by decide +kernel
theorem dX8_set_8 : decode cX8_set 8 = .ok (.ifCond .eq 17, 3) := by decide +kernel
theorem dX8_set_11 : decode cX8_set 11 = .ok (.iload_n 2, 1) := by decide +kernel
theorem dX8_set_12 : decode cX8_set 12 = .ok (.iconst 1, 1) := by decide +kernel
theorem dX8_set_13 : decode cX8_set 13 = .ok (.bipush 99, 2) := by decide +kernel
theorem dX8_set_15 : decode cX8_set 15 = .ok (.invokestatic 72, 3) := by decide +kernel
theorem dX8_set_18 : decode cX8_set 18 = .ok (.ifCond .eq 7, 3) := by decide +kernel
theorem dX8_set_21 : decode cX8_set 21 = .ok (.iconst 0, 1) := by decide +kernel
theorem dX8_set_22 : decode cX8_set 22 = .ok (.goto 4, 3) := by decide +kernel
theorem dX8_set_25 : decode cX8_set 25 = .ok (.iconst 1, 1) := by decide +kernel
theorem dX8_set_26 : decode cX8_set 26 = .ok (.putfield 45, 3) := by decide +kernel
theorem dX8_set_29 : decode cX8_set 29 = .ok (.aload_n 0, 1) := by decide +kernel
theorem dX8_set_30 : decode cX8_set 30 = .ok (.getfield 45, 3) := by decide +kernel
theorem dX8_set_33 : decode cX8_set 33 = .ok (.ifCond .le 5, 3) := by decide +kernel
theorem dX8_set_36 : decode cX8_set 36 = .ok (.iconst 0, 1) := by decide +kernel
theorem dX8_set_37 : decode cX8_set 37 = .ok (.ireturn, 1) := by decide +kernel
theorem dX8_set_38 : decode cX8_set 38 = .ok (.aload_n 0, 1) := by decide +kernel
theorem dX8_set_39 : decode cX8_set 39 = .ok (.invokevirtual 234, 3) := by decide +kernel
theorem dX8_set_42 : decode cX8_set 42 = .ok (.aload_n 0, 1) := by decide +kernel
theorem dX8_set_43 : decode cX8_set 43 = .ok (.getfield 13, 3) := by decide +kernel
theorem dX8_set_46 : decode cX8_set 46 = .ok (.iconst 4, 1) := by decide +kernel
theorem dX8_set_47 : decode cX8_set 47 = .ok (.iaload, 1) := by decide +kernel
theorem dX8_set_48 : decode cX8_set 48 = .ok (.istore_n 3, 1) := by decide +kernel
theorem dX8_set_49 : decode cX8_set 49 = .ok (.aload_n 0, 1) := by decide +kernel
theorem dX8_set_50 : decode cX8_set 50 = .ok (.getfield 13, 3) := by decide +kernel
theorem dX8_set_53 : decode cX8_set 53 = .ok (.iconst 4, 1) := by decide +kernel
theorem dX8_set_54 : decode cX8_set 54 = .ok (.iload_n 1, 1) := by decide +kernel
theorem dX8_set_55 : decode cX8_set 55 = .ok (.iastore, 1) := by decide +kernel
theorem dX8_set_56 : decode cX8_set 56 = .ok (.aload_n 0, 1) := by decide +kernel
theorem dX8_set_57 : decode cX8_set 57 = .ok (.getfield 13, 3) := by decide +kernel
theorem dX8_set_60 : decode cX8_set 60 = .ok (.iconst 5, 1) := by decide +kernel
theorem dX8_set_61 : decode cX8_set 61 = .ok (.iload_n 2, 1) := by decide +kernel
theorem dX8_set_62 : decode cX8_set 62 = .ok (.iastore, 1) := by decide +kernel
theorem dX8_set_63 : decode cX8_set 63 = .ok (.iload_n 3, 1) := by decide +kernel
theorem dX8_set_64 : decode cX8_set 64 = .ok (.ireturn, 1) := by decide +kernel
theorem dX8_run_0 : decode cX8_run 0 = .ok (.aload_n 0, 1) := by decide +kernel
theorem dX8_run_1 : decode cX8_run 1 = .ok (.iload_n 1, 1) := by decide +kernel
theorem dX8_run_2 : decode cX8_run 2 = .ok (.iconst 1, 1) := by decide +kernel
theorem dX8_run_3 : decode cX8_run 3 = .ok (.bipush 100, 2) := by decide +kernel
theorem dX8_run_5 : decode cX8_run 5 = .ok (.invokestatic 72, 3) := by decide +kernel
theorem dX8_run_8 : decode cX8_run 8 = .ok (.ifCond .ne 7, 3) := by decide +kernel
theorem dX8_run_11 : decode cX8_run 11 = .ok (.iconst 1, 1) := by decide +kernel
theorem dX8_run_12 : decode cX8_run 12 = .ok (.goto 22, 3) := by decide +kernel
theorem dX8_run_15 : decode cX8_run 15 = .ok (.aload_n 0, 1) := by decide +kernel
theorem dX8_run_16 : decode cX8_run 16 = .ok (.getfield 13, 3) := by decide +kernel
theorem dX8_run_19 : decode cX8_run 19 = .ok (.iconst 3, 1) := by decide +kernel
theorem dX8_run_20 : decode cX8_run 20 = .ok (.iaload, 1) := by decide +kernel
theorem dX8_run_21 : decode cX8_run 21 = .ok (.iload_n 1, 1) := by decide +kernel
theorem dX8_run_22 : decode cX8_run 22 = .ok (.iadd, 1) := by decide +kernel
theorem dX8_run_23 : decode cX8_run 23 = .ok (.sipush 2000, 3) := by decide +kernel
theorem dX8_run_26 : decode cX8_run 26 = .ok (.if_icmp .le 7, 3) := by decide +kernel
theorem dX8_run_29 : decode cX8_run 29 = .ok (.iconst 2, 1) := by decide +kernel
theorem dX8_run_30 : decode cX8_run 30 = .ok (.goto 4, 3) := by decide +kernel
theorem dX8_run_33 : decode cX8_run 33 = .ok (.iconst 0, 1) := by decide +kernel
theorem dX8_run_34 : decode cX8_run 34 = .ok (.putfield 45, 3) := by decide +kernel
theorem dX8_run_37 : decode cX8_run 37 = .ok (.aload_n 0, 1) := by decide +kernel
theorem dX8_run_38 : decode cX8_run 38 = .ok (.getfield 45, 3) := by decide +kernel
theorem dX8_run_41 : decode cX8_run 41 = .ok (.ifCond .le 5, 3) := by decide +kernel
theorem dX8_run_44 : decode cX8_run 44 = .ok (.iconst 0, 1) := by decide +kernel
theorem dX8_run_45 : decode cX8_run 45 = .ok (.ireturn, 1) := by decide +kernel
theorem dX8_run_46 : decode cX8_run 46 = .ok (.aload_n 0, 1) := by decide +kernel
theorem dX8_run_47 : decode cX8_run 47 = .ok (.invokevirtual 234, 3) := by decide +kernel
theorem dX8_run_50 : decode cX8_run 50 = .ok (.iconst 0, 1) := by decide +kernel
theorem dX8_run_51 : decode cX8_run 51 = .ok (.istore_n 2, 1) := by decide +kernel
theorem dX8_run_52 : decode cX8_run 52 = .ok (.iload_n 2, 1) := by decide +kernel
theorem dX8_run_53 : decode cX8_run 53 = .ok (.iload_n 1, 1) := by decide +kernel
theorem dX8_run_54 : decode cX8_run 54 = .ok (.if_icmp .ge 13, 3) := by decide +kernel
theorem dX8_run_57 : decode cX8_run 57 = .ok (.aload_n 0, 1) := by decide +kernel
theorem dX8_run_58 : decode cX8_run 58 = .ok (.invokevirtual 215, 3) := by decide +kernel
theorem dX8_run_61 : decode cX8_run 61 = .ok (.iinc 2 1, 3) := by decide +kernel
theorem dX8_run_64 : decode cX8_run 64 = .ok (.goto (-12), 3) := by decide +kernel
theorem dX8_run_67 : decode cX8_run 67 = .ok (.aload_n 0, 1) := by decide +kernel
theorem dX8_run_68 : decode cX8_run 68 = .ok (.getfield 13, 3) := by decide +kernel
theorem dX8_run_71 : decode cX8_run 71 = .ok (.iconst 0, 1) := by decide +kernel
theorem dX8_run_72 : decode cX8_run 72 = .ok (.iaload, 1) := by decide +kernel
theorem dX8_run_73 : decode cX8_run 73 = .ok (.ireturn, 1) := by decide +kernel
theorem dX8_undo_0 : decode cX8_undo 0 = .ok (.aload_n 0, 1) := by decide +kernel
theorem dX8_undo_1 : decode cX8_undo 1 = .ok (.iconst 0, 1) := by decide +kernel
theorem dX8_undo_2 : decode cX8_undo 2 = .ok (.putfield 45, 3) := by decide +kernel
theorem dX8_undo_5 : decode cX8_undo 5 = .ok (.aload_n 0, 1) := by decide +kernel
theorem dX8_undo_6 : decode cX8_undo 6 = .ok (.getfield 108, 3) := by decide +kernel
theorem dX8_undo_9 : decode cX8_undo 9 = .ok (.ifCond .ne 5, 3) := by decide +kernel
theorem dX8_undo_12 : decode cX8_undo 12 = .ok (.iconst (-1), 1) := by decide +kernel
theorem dX8_undo_13 : decode cX8_undo 13 = .ok (.ireturn, 1) := by decide +kernel
theorem dX8_undo_14 : decode cX8_undo 14 = .ok (.aload_n 0, 1) := by decide +kernel
theorem dX8_undo_15 : decode cX8_undo 15 = .ok (.dup, 1) := by decide +kernel
theorem dX8_undo_16 : decode cX8_undo 16 = .ok (.getfield 108, 3) := by decide +kernel
theorem dX8_undo_19 : decode cX8_undo 19 = .ok (.iconst 1, 1) := by decide +kernel
theorem dX8_undo_20 : decode cX8_undo 20 = .ok (.isub, 1) := by decide +kernel
theorem dX8_undo_21 : decode cX8_undo 21 = .ok (.putfield 108, 3) := by decide +kernel
theorem dX8_undo_24 : decode cX8_undo 24 = .ok (.aload_n 0, 1) := by decide +kernel
theorem dX8_undo_25 : decode cX8_undo 25 = .ok (.getfield 23, 3) := by decide +kernel
theorem dX8_undo_28 : decode cX8_undo 28 = .ok (.aload_n 0, 1) := by decide +kernel
theorem dX8_undo_29 : decode cX8_undo 29 = .ok (.getfield 108, 3) := by decide +kernel
theorem dX8_undo_32 : decode cX8_undo 32 = .ok (.aload_n 0, 1) := by decide +kernel
theorem dX8_undo_33 : decode cX8_undo 33 = .ok (.getfield 13, 3) := by decide +kernel
theorem dX8_undo_36 : decode cX8_undo 36 = .ok (.iconst 0, 1) := by decide +kernel
theorem dX8_undo_37 : decode cX8_undo 37 = .ok (.invokestatic 111, 3) := by decide +kernel
theorem dX8_undo_40 : decode cX8_undo 40 = .ok (.aload_n 0, 1) := by decide +kernel
theorem dX8_undo_41 : decode cX8_undo 41 = .ok (.getfield 108, 3) := by decide +kernel
theorem dX8_undo_44 : decode cX8_undo 44 = .ok (.ireturn, 1) := by decide +kernel
theorem dX8_saveSnapshot_0 : decode cX8_saveSnapshot 0 = .ok (.aload_n 0, 1) := by decide +kernel
theorem dX8_saveSnapshot_1 : decode cX8_saveSnapshot 1 = .ok (.iconst 0, 1) := by decide +kernel
theorem dX8_saveSnapshot_2 : decode cX8_saveSnapshot 2 = .ok (.putfield 45, 3) := by decide +kernel
theorem dX8_saveSnapshot_5 : decode cX8_saveSnapshot 5 = .ok (.iload_n 1, 1) := by decide +kernel
theorem dX8_saveSnapshot_6 : decode cX8_saveSnapshot 6 = .ok (.iconst 0, 1) := by decide +kernel
theorem dX8_saveSnapshot_7 : decode cX8_saveSnapshot 7 = .ok (.iconst 1, 1) := by decide +kernel
theorem dX8_saveSnapshot_8 : decode cX8_saveSnapshot 8 = .ok (.invokestatic 72, 3) := by decide +kernel
theorem dX8_saveSnapshot_11 : decode cX8_saveSnapshot 11 = .ok (.ifCond .ne 5, 3) := by decide +kernel
theorem dX8_saveSnapshot_14 : decode cX8_saveSnapshot 14 = .ok (.iconst 0, 1) := by decide +kernel
theorem dX8_saveSnapshot_15 : decode cX8_saveSnapshot 15 = .ok (.ireturn, 1) := by decide +kernel
theorem dX8_saveSnapshot_16 : decode cX8_saveSnapshot 16 = .ok (.aload_n 0, 1) := by decide +kernel
theorem dX8_saveSnapshot_17 : decode cX8_saveSnapshot 17 = .ok (.getfield 13, 3) := by decide +kernel
theorem dX8_saveSnapshot_20 : decode cX8_saveSnapshot 20 = .ok (.iconst 0, 1) := by decide +kernel
theorem dX8_saveSnapshot_21 : decode cX8_saveSnapshot 21 = .ok (.aload_n 0, 1) := by decide +kernel
theorem dX8_saveSnapshot_22 : decode cX8_saveSnapshot 22 = .ok (.getfield 26, 3) := by decide +kernel
theorem dX8_saveSnapshot_25 : decode cX8_saveSnapshot 25 = .ok (.iload_n 1, 1) := by decide +kernel
theorem dX8_saveSnapshot_26 : decode cX8_saveSnapshot 26 = .ok (.invokestatic 111, 3) := by decide +kernel
theorem dX8_saveSnapshot_29 : decode cX8_saveSnapshot 29 = .ok (.aload_n 0, 1) := by decide +kernel
theorem dX8_saveSnapshot_30 : decode cX8_saveSnapshot 30 = .ok (.getfield 29, 3) := by decide +kernel
theorem dX8_saveSnapshot_33 : decode cX8_saveSnapshot 33 = .ok (.iload_n 1, 1) := by decide +kernel
theorem dX8_saveSnapshot_34 : decode cX8_saveSnapshot 34 = .ok (.iconst 1, 1) := by decide +kernel
theorem dX8_saveSnapshot_35 : decode cX8_saveSnapshot 35 = .ok (.bastore, 1) := by decide +kernel
theorem dX8_saveSnapshot_36 : decode cX8_saveSnapshot 36 = .ok (.iconst 1, 1) := by decide +kernel
theorem dX8_saveSnapshot_37 : decode cX8_saveSnapshot 37 = .ok (.ireturn, 1) := by decide +kernel
theorem dX8_restoreSnapshot_0 : decode cX8_restoreSnapshot 0 = .ok (.aload_n 0, 1) := by decide +kernel
theorem dX8_restoreSnapshot_1 : decode cX8_restoreSnapshot 1 = .ok (.iconst 0, 1) := by decide +kernel
theorem dX8_restoreSnapshot_2 : decode cX8_restoreSnapshot 2 = .ok (.putfield 45, 3) := by decide +kernel
theorem dX8_restoreSnapshot_5 : decode cX8_restoreSnapshot 5 = .ok (.iload_n 1, 1) := by decide +kernel
theorem dX8_restoreSnapshot_6 : decode cX8_restoreSnapshot 6 = .ok (.iconst 0, 1) := by decide +kernel
theorem dX8_restoreSnapshot_7 : decode cX8_restoreSnapshot 7 = .ok (.iconst 1, 1) := by decide +kernel
theorem dX8_restoreSnapshot_8 : decode cX8_restoreSnapshot 8 = .ok (.invokestatic 72, 3) := by decide +kernel
theorem dX8_restoreSnapshot_11 : decode cX8_restoreSnapshot 11 = .ok (.ifCond .eq 12, 3) := by decide +kernel
theorem dX8_restoreSnapshot_14 : decode cX8_restoreSnapshot 14 = .ok (.aload_n 0, 1) := by decide +kernel
theorem dX8_restoreSnapshot_15 : decode cX8_restoreSnapshot 15 = .ok (.getfield 29, 3) := by decide +kernel
theorem dX8_restoreSnapshot_18 : decode cX8_restoreSnapshot 18 = .ok (.iload_n 1, 1) := by decide +kernel
theorem dX8_restoreSnapshot_19 : decode cX8_restoreSnapshot 19 = .ok (.baload, 1) := by decide +kernel
theorem dX8_restoreSnapshot_20 : decode cX8_restoreSnapshot 20 = .ok (.ifCond .ne 5, 3) := by decide +kernel
theorem dX8_restoreSnapshot_23 : decode cX8_restoreSnapshot 23 = .ok (.iconst 0, 1) := by decide +kernel
theorem dX8_restoreSnapshot_24 : decode cX8_restoreSnapshot 24 = .ok (.ireturn, 1) := by decide +kernel
theorem dX8_restoreSnapshot_25 : decode cX8_restoreSnapshot 25 = .ok (.aload_n 0, 1) := by decide +kernel
theorem dX8_restoreSnapshot_26 : decode cX8_restoreSnapshot 26 = .ok (.getfield 26, 3) := by decide +kernel
theorem dX8_restoreSnapshot_29 : decode cX8_restoreSnapshot 29 = .ok (.iload_n 1, 1) := by decide +kernel
theorem dX8_restoreSnapshot_30 : decode cX8_restoreSnapshot 30 = .ok (.aload_n 0, 1) := by decide +kernel
theorem dX8_restoreSnapshot_31 : decode cX8_restoreSnapshot 31 = .ok (.getfield 13, 3) := by decide +kernel
theorem dX8_restoreSnapshot_34 : decode cX8_restoreSnapshot 34 = .ok (.iconst 0, 1) := by decide +kernel
theorem dX8_restoreSnapshot_35 : decode cX8_restoreSnapshot 35 = .ok (.invokestatic 111, 3) := by decide +kernel
theorem dX8_restoreSnapshot_38 : decode cX8_restoreSnapshot 38 = .ok (.aload_n 0, 1) := by decide +kernel
theorem dX8_restoreSnapshot_39 : decode cX8_restoreSnapshot 39 = .ok (.iconst 0, 1) := by decide +kernel
theorem dX8_restoreSnapshot_40 : decode cX8_restoreSnapshot 40 = .ok (.putfield 108, 3) := by decide +kernel
theorem dX8_restoreSnapshot_43 : decode cX8_restoreSnapshot 43 = .ok (.iconst 1, 1) := by decide +kernel
theorem dX8_restoreSnapshot_44 : decode cX8_restoreSnapshot 44 = .ok (.ireturn, 1) := by decide +kernel
