theorem dX8_at_0 : decode cX8_at 0 = .ok (.bipush 18, 2) := by decide +kernel
theorem dX8_at_2 : decode cX8_at 2 = .ok (.bipush 11, 2) := by decide +kernel
theorem dX8_at_4 : decode cX8_at 4 = .ok (.iload_n 0, 1) := by decide +kernel
theorem dX8_at_5 : decode cX8_at 5 = .ok (.imul, 1) := by decide +kernel
theorem dX8_at_6 : decode cX8_at 6 = .ok (.iadd, 1) := by decide +kernel
theorem dX8_at_7 : decode cX8_at 7 = .ok (.iload_n 1, 1) := by decide +kernel
theorem dX8_at_8 : decode cX8_at 8 = .ok (.iadd, 1) := by decide +kernel
theorem dX8_at_9 : decode cX8_at 9 = .ok (.ireturn, 1) := by decide +kernel
theorem dX8_lengthAt_0 : decode cX8_lengthAt 0 = .ok (.bipush 40, 2) := by decide +kernel
theorem dX8_lengthAt_2 : decode cX8_lengthAt 2 = .ok (.bipush 20, 2) := by decide +kernel
theorem dX8_lengthAt_4 : decode cX8_lengthAt 4 = .ok (.iload_n 0, 1) := by decide +kernel
theorem dX8_lengthAt_5 : decode cX8_lengthAt 5 = .ok (.imul, 1) := by decide +kernel
theorem dX8_lengthAt_6 : decode cX8_lengthAt 6 = .ok (.iadd, 1) := by decide +kernel
theorem dX8_lengthAt_7 : decode cX8_lengthAt 7 = .ok (.iload_n 1, 1) := by decide +kernel
theorem dX8_lengthAt_8 : decode cX8_lengthAt 8 = .ok (.iadd, 1) := by decide +kernel
theorem dX8_lengthAt_9 : decode cX8_lengthAt 9 = .ok (.ireturn, 1) := by decide +kernel
theorem dX8_byteOf_0 : decode cX8_byteOf 0 = .ok (.bipush 80, 2) := by decide +kernel
theorem dX8_byteOf_2 : decode cX8_byteOf 2 = .ok (.bipush 8, 2) := by decide +kernel
theorem dX8_byteOf_4 : decode cX8_byteOf 4 = .ok (.bipush 20, 2) := by decide +kernel
theorem dX8_byteOf_6 : decode cX8_byteOf 6 = .ok (.iload_n 0, 1) := by decide +kernel
theorem dX8_byteOf_7 : decode cX8_byteOf 7 = .ok (.imul, 1) := by decide +kernel
theorem dX8_byteOf_8 : decode cX8_byteOf 8 = .ok (.iload_n 1, 1) := by decide +kernel
theorem dX8_byteOf_9 : decode cX8_byteOf 9 = .ok (.iadd, 1) := by decide +kernel
theorem dX8_byteOf_10 : decode cX8_byteOf 10 = .ok (.imul, 1) := by decide +kernel
theorem dX8_byteOf_11 : decode cX8_byteOf 11 = .ok (.iadd, 1) := by decide +kernel
theorem dX8_byteOf_12 : decode cX8_byteOf 12 = .ok (.iload_n 2, 1) := by decide +kernel
theorem dX8_byteOf_13 : decode cX8_byteOf 13 = .ok (.iadd, 1) := by decide +kernel
theorem dX8_byteOf_14 : decode cX8_byteOf 14 = .ok (.ireturn, 1) := by decide +kernel
theorem dX8_of_0 : decode cX8_of 0 = .ok (.aload_n 0, 1) := by decide +kernel
theorem dX8_of_1 : decode cX8_of 1 = .ok (.getfield 13, 3) := by decide +kernel
theorem dX8_of_4 : decode cX8_of 4 = .ok (.iload_n 1, 1) := by decide +kernel
theorem dX8_of_5 : decode cX8_of 5 = .ok (.iload_n 2, 1) := by decide +kernel
theorem dX8_of_6 : decode cX8_of 6 = .ok (.invokestatic 115, 3) := by decide +kernel
theorem dX8_of_9 : decode cX8_of 9 = .ok (.iaload, 1) := by decide +kernel
theorem dX8_of_10 : decode cX8_of 10 = .ok (.ireturn, 1) := by decide +kernel
set_option maxRecDepth 20000 in
theorem ggX8_of_X8_at : GoodIn wsX8_of wsX8_at := goodIn_r _ [5] (by decide +kernel) (by decide +kernel)
set_option maxRecDepth 20000 in
theorem gX8_of_X8_at : GoodIn wsX8_of (va_wsS RX8 115 yX8_at wsX8_at) := goodIn_app (goodIn_of _ (by decide +kernel)) ggX8_of_X8_at
theorem dX8_limitOf_0 : decode cX8_limitOf 0 = .ok (.aload_n 0, 1) := by decide +kernel
theorem dX8_limitOf_1 : decode cX8_limitOf 1 = .ok (.iload_n 1, 1) := by decide +kernel
theorem dX8_limitOf_2 : decode cX8_limitOf 2 = .ok (.iconst 2, 1) := by decide +kernel
theorem dX8_limitOf_3 : decode cX8_limitOf 3 = .ok (.invokevirtual 118, 3) := by decide +kernel
theorem dX8_limitOf_6 : decode cX8_limitOf 6 = .ok (.aload_n 0, 1) := by decide +kernel
theorem dX8_limitOf_7 : decode cX8_limitOf 7 = .ok (.iload_n 1, 1) := by decide +kernel
theorem dX8_limitOf_8 : decode cX8_limitOf 8 = .ok (.iconst 3, 1) := by decide +kernel
theorem dX8_limitOf_9 : decode cX8_limitOf 9 = .ok (.invokevirtual 118, 3) := by decide +kernel
theorem dX8_limitOf_12 : decode cX8_limitOf 12 = .ok (.iadd, 1) := by decide +kernel
theorem dX8_limitOf_13 : decode cX8_limitOf 13 = .ok (.ireturn, 1) := by decide +kernel
set_option maxRecDepth 20000 in
theorem ggX8_limitOf_X8_of : GoodIn wsX8_limitOf wsX8_of := goodIn_r _ [5, 6, 7, 8, 4, 9, 10, 11, 12, 13, 14, 15, 16, 17, 18, 19, 20, 21, 22, 23, 24, 25, 26, 27, 28, 29, 30, 31, 32, 33, 34, 35, 36] (by decide +kernel) (by decide +kernel)
set_option maxRecDepth 20000 in
theorem gX8_limitOf_X8_of : GoodIn wsX8_limitOf (wsV RX8 118 RX8 yX8_of wsX8_of) := goodIn_app (goodIn_of _ (by decide +kernel)) ggX8_limitOf_X8_of
theorem dX8_tells_0 : decode cX8_tells 0 = .ok (.iconst 1, 1) := by decide +kernel
theorem dX8_tells_1 : decode cX8_tells 1 = .ok (.iload_n 1, 1) := by decide +kernel
theorem dX8_tells_2 : decode cX8_tells 2 = .ok (.isub, 1) := by decide +kernel
theorem dX8_tells_3 : decode cX8_tells 3 = .ok (.istore_n 2, 1) := by decide +kernel
theorem dX8_tells_4 : decode cX8_tells 4 = .ok (.aload_n 0, 1) := by decide +kernel
theorem dX8_tells_5 : decode cX8_tells 5 = .ok (.getfield 13, 3) := by decide +kernel
theorem dX8_tells_8 : decode cX8_tells 8 = .ok (.iload_n 2, 1) := by decide +kernel
theorem dX8_tells_9 : decode cX8_tells 9 = .ok (.bipush 6, 2) := by decide +kernel
theorem dX8_tells_11 : decode cX8_tells 11 = .ok (.invokestatic 115, 3) := by decide +kernel
theorem dX8_tells_14 : decode cX8_tells 14 = .ok (.aload_n 0, 1) := by decide +kernel
theorem dX8_tells_15 : decode cX8_tells 15 = .ok (.iload_n 1, 1) := by decide +kernel
theorem dX8_tells_16 : decode cX8_tells 16 = .ok (.iconst 1, 1) := by decide +kernel
theorem dX8_tells_17 : decode cX8_tells 17 = .ok (.invokevirtual 118, 3) := by decide +kernel
theorem dX8_tells_20 : decode cX8_tells 20 = .ok (.iastore, 1) := by decide +kernel
theorem dX8_tells_21 : decode cX8_tells 21 = .ok (.aload_n 0, 1) := by decide +kernel
theorem dX8_tells_22 : decode cX8_tells 22 = .ok (.getfield 13, 3) := by decide +kernel
theorem dX8_tells_25 : decode cX8_tells 25 = .ok (.iload_n 2, 1) := by decide +kernel
theorem dX8_tells_26 : decode cX8_tells 26 = .ok (.bipush 7, 2) := by decide +kernel
theorem dX8_tells_28 : decode cX8_tells 28 = .ok (.invokestatic 115, 3) := by decide +kernel
theorem dX8_tells_31 : decode cX8_tells 31 = .ok (.aload_n 0, 1) := by decide +kernel
theorem dX8_tells_32 : decode cX8_tells 32 = .ok (.iload_n 1, 1) := by decide +kernel
theorem dX8_tells_33 : decode cX8_tells 33 = .ok (.invokevirtual 184, 3) := by decide +kernel
theorem dX8_tells_36 : decode cX8_tells 36 = .ok (.iastore, 1) := by decide +kernel
theorem dX8_tells_37 : decode cX8_tells 37 = .ok (.aload_n 0, 1) := by decide +kernel
theorem dX8_tells_38 : decode cX8_tells 38 = .ok (.iload_n 1, 1) := by decide +kernel
theorem dX8_tells_39 : decode cX8_tells 39 = .ok (.iconst 5, 1) := by decide +kernel
theorem dX8_tells_40 : decode cX8_tells 40 = .ok (.invokevirtual 118, 3) := by decide +kernel
theorem dX8_tells_43 : decode cX8_tells 43 = .ok (.aload_n 0, 1) := by decide +kernel
theorem dX8_tells_44 : decode cX8_tells 44 = .ok (.iload_n 2, 1) := by decide +kernel
theorem dX8_tells_45 : decode cX8_tells 45 = .ok (.bipush 10, 2) := by decide +kernel
theorem dX8_tells_47 : decode cX8_tells 47 = .ok (.invokevirtual 118, 3) := by decide +kernel
theorem dX8_tells_50 : decode cX8_tells 50 = .ok (.isub, 1) := by decide +kernel
theorem dX8_tells_51 : decode cX8_tells 51 = .ok (.istore_n 3, 1) := by decide +kernel
theorem dX8_tells_52 : decode cX8_tells 52 = .ok (.iload_n 3, 1) := by decide +kernel
theorem dX8_tells_53 : decode cX8_tells 53 = .ok (.ifCond .gt 4, 3) := by decide +kernel
theorem dX8_tells_56 : decode cX8_tells 56 = .ok (.return_, 1) := by decide +kernel
theorem dX8_tells_57 : decode cX8_tells 57 = .ok (.aload_n 0, 1) := by decide +kernel
theorem dX8_tells_58 : decode cX8_tells 58 = .ok (.getfield 13, 3) := by decide +kernel
theorem dX8_tells_61 : decode cX8_tells 61 = .ok (.iload_n 2, 1) := by decide +kernel
theorem dX8_tells_62 : decode cX8_tells 62 = .ok (.iconst 3, 1) := by decide +kernel
theorem dX8_tells_63 : decode cX8_tells 63 = .ok (.invokestatic 115, 3) := by decide +kernel
theorem dX8_tells_66 : decode cX8_tells 66 = .ok (.dup2, 1) := by decide +kernel
theorem dX8_tells_67 : decode cX8_tells 67 = .ok (.iaload, 1) := by decide +kernel
theorem dX8_tells_68 : decode cX8_tells 68 = .ok (.iload_n 3, 1) := by decide +kernel
theorem dX8_tells_69 : decode cX8_tells 69 = .ok (.isub, 1) := by decide +kernel
theorem dX8_tells_70 : decode cX8_tells 70 = .ok (.iastore, 1) := by decide +kernel
theorem dX8_tells_71 : decode cX8_tells 71 = .ok (.aload_n 0, 1) := by decide +kernel
theorem dX8_tells_72 : decode cX8_tells 72 = .ok (.getfield 13, 3) := by decide +kernel
theorem dX8_tells_75 : decode cX8_tells 75 = .ok (.iload_n 2, 1) := by decide +kernel
theorem dX8_tells_76 : decode cX8_tells 76 = .ok (.iconst 4, 1) := by decide +kernel
theorem dX8_tells_77 : decode cX8_tells 77 = .ok (.invokestatic 115, 3) := by decide +kernel
theorem dX8_tells_80 : decode cX8_tells 80 = .ok (.dup2, 1) := by decide +kernel
theorem dX8_tells_81 : decode cX8_tells 81 = .ok (.iaload, 1) := by decide +kernel
theorem dX8_tells_82 : decode cX8_tells 82 = .ok (.iload_n 3, 1) := by decide +kernel
theorem dX8_tells_83 : decode cX8_tells 83 = .ok (.isub, 1) := by decide +kernel
theorem dX8_tells_84 : decode cX8_tells 84 = .ok (.iastore, 1) := by decide +kernel
theorem dX8_tells_85 : decode cX8_tells 85 = .ok (.aload_n 0, 1) := by decide +kernel
theorem dX8_tells_86 : decode cX8_tells 86 = .ok (.getfield 13, 3) := by decide +kernel
theorem dX8_tells_89 : decode cX8_tells 89 = .ok (.iload_n 2, 1) := by decide +kernel
theorem dX8_tells_90 : decode cX8_tells 90 = .ok (.bipush 10, 2) := by decide +kernel
theorem dX8_tells_92 : decode cX8_tells 92 = .ok (.invokestatic 115, 3) := by decide +kernel
theorem dX8_tells_95 : decode cX8_tells 95 = .ok (.aload_n 0, 1) := by decide +kernel
theorem dX8_tells_96 : decode cX8_tells 96 = .ok (.iload_n 1, 1) := by decide +kernel
theorem dX8_tells_97 : decode cX8_tells 97 = .ok (.iconst 5, 1) := by decide +kernel
theorem dX8_tells_98 : decode cX8_tells 98 = .ok (.invokevirtual 118, 3) := by decide +kernel
theorem dX8_tells_101 : decode cX8_tells 101 = .ok (.iastore, 1) := by decide +kernel
theorem dX8_tells_102 : decode cX8_tells 102 = .ok (.return_, 1) := by decide +kernel
set_option maxRecDepth 20000 in
theorem ggX8_tells_X8_at : GoodIn wsX8_tells wsX8_at := goodIn_r _ [5] (by decide +kernel) (by decide +kernel)
set_option maxRecDepth 20000 in
theorem gX8_tells_X8_at : GoodIn wsX8_tells (va_wsS RX8 115 yX8_at wsX8_at) := goodIn_app (goodIn_of _ (by decide +kernel)) ggX8_tells_X8_at
set_option maxRecDepth 20000 in
theorem ggX8_tells_X8_of : GoodIn wsX8_tells wsX8_of := goodIn_r _ [9, 1, 2, 3, 4, 5, 14, 15, 16, 17, 18, 19, 20, 21, 22, 23, 24, 25, 26, 27, 28, 29, 30, 31, 32, 33, 34, 35, 36, 37, 38, 39, 40] (by decide +kernel) (by decide +kernel)
set_option maxRecDepth 20000 in
theorem gX8_tells_X8_of : GoodIn wsX8_tells (wsV RX8 118 RX8 yX8_of wsX8_of) := goodIn_app (goodIn_of _ (by decide +kernel)) ggX8_tells_X8_of
set_option maxRecDepth 20000 in
theorem ggX8_tells_X8_limitOf : GoodIn wsX8_tells wsX8_limitOf := goodIn_r _ [13, 6, 7, 8, 4, 9, 1, 2, 3, 5, 14, 15, 16, 17, 18, 19, 20, 21, 22, 23, 24, 25, 26, 27, 28, 29, 30, 31, 32, 33, 34, 35, 36, 37, 38, 39, 40] (by decide +kernel) (by decide +kernel)
set_option maxRecDepth 20000 in
theorem gX8_tells_X8_limitOf : GoodIn wsX8_tells (wsV RX8 184 RX8 yX8_limitOf wsX8_limitOf) := goodIn_app (goodIn_of _ (by decide +kernel)) ggX8_tells_X8_limitOf
