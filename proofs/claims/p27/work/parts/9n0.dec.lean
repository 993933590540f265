section DecB0
theorem dL_begins_0 : decode cL_begins 0 = .ok (.new 15, 3) := by decide +kernel
theorem dL_begins_3 : decode cL_begins 3 = .ok (.dup, 1) := by decide +kernel
theorem dL_begins_4 : decode cL_begins 4 = .ok (.ldc 17, 2) := by decide +kernel
theorem dL_begins_6 : decode cL_begins 6 = .ok (.invokespecial 19, 3) := by decide +kernel
theorem dL_begins_9 : decode cL_begins 9 = .ok (.iconst 1, 1) := by decide +kernel
theorem dL_begins_10 : decode cL_begins 10 = .ok (.aload_n 1, 1) := by decide +kernel
theorem dL_begins_11 : decode cL_begins 11 = .ok (.iconst 0, 1) := by decide +kernel
theorem dL_begins_12 : decode cL_begins 12 = .ok (.iconst 4, 1) := by decide +kernel
theorem dL_begins_13 : decode cL_begins 13 = .ok (.invokestatic 22, 3) := by decide +kernel
theorem dL_begins_16 : decode cL_begins 16 = .ok (.iadd, 1) := by decide +kernel
theorem dL_begins_17 : decode cL_begins 17 = .ok (.invokevirtual 26, 3) := by decide +kernel
theorem dL_begins_20 : decode cL_begins 20 = .ok (.ldc 30, 2) := by decide +kernel
theorem dL_begins_22 : decode cL_begins 22 = .ok (.invokevirtual 32, 3) := by decide +kernel
theorem dL_begins_25 : decode cL_begins 25 = .ok (.iconst 1, 1) := by decide +kernel
theorem dL_begins_26 : decode cL_begins 26 = .ok (.aload_n 1, 1) := by decide +kernel
theorem dL_begins_27 : decode cL_begins 27 = .ok (.iconst 1, 1) := by decide +kernel
theorem dL_begins_28 : decode cL_begins 28 = .ok (.bipush 40, 2) := by decide +kernel
theorem dL_begins_30 : decode cL_begins 30 = .ok (.invokestatic 22, 3) := by decide +kernel
theorem dL_begins_33 : decode cL_begins 33 = .ok (.iadd, 1) := by decide +kernel
theorem dL_begins_34 : decode cL_begins 34 = .ok (.invokevirtual 26, 3) := by decide +kernel
theorem dL_begins_37 : decode cL_begins 37 = .ok (.ldc 35, 2) := by decide +kernel
theorem dL_begins_39 : decode cL_begins 39 = .ok (.invokevirtual 32, 3) := by decide +kernel
theorem dL_begins_42 : decode cL_begins 42 = .ok (.astore_n 2, 1) := by decide +kernel
theorem dL_begins_43 : decode cL_begins 43 = .ok (.iconst 0, 1) := by decide +kernel
theorem dL_begins_44 : decode cL_begins 44 = .ok (.istore_n 3, 1) := by decide +kernel
theorem dL_begins_45 : decode cL_begins 45 = .ok (.iload_n 3, 1) := by decide +kernel
theorem dL_begins_46 : decode cL_begins 46 = .ok (.iconst 2, 1) := by decide +kernel
theorem dL_begins_47 : decode cL_begins 47 = .ok (.if_icmp .ge 43, 3) := by decide +kernel
theorem dL_begins_50 : decode cL_begins 50 = .ok (.aload_n 2, 1) := by decide +kernel
theorem dL_begins_51 : decode cL_begins 51 = .ok (.ldc 37, 2) := by decide +kernel
theorem dL_begins_53 : decode cL_begins 53 = .ok (.invokevirtual 32, 3) := by decide +kernel
theorem dL_begins_56 : decode cL_begins 56 = .ok (.iload_n 3, 1) := by decide +kernel
theorem dL_begins_57 : decode cL_begins 57 = .ok (.invokevirtual 26, 3) := by decide +kernel
theorem dL_begins_60 : decode cL_begins 60 = .ok (.ldc 30, 2) := by decide +kernel
theorem dL_begins_62 : decode cL_begins 62 = .ok (.invokevirtual 32, 3) := by decide +kernel
theorem dL_begins_65 : decode cL_begins 65 = .ok (.iconst 1, 1) := by decide +kernel
theorem dL_begins_66 : decode cL_begins 66 = .ok (.aload_n 1, 1) := by decide +kernel
theorem dL_begins_67 : decode cL_begins 67 = .ok (.iconst 2, 1) := by decide +kernel
theorem dL_begins_68 : decode cL_begins 68 = .ok (.iload_n 3, 1) := by decide +kernel
theorem dL_begins_69 : decode cL_begins 69 = .ok (.iadd, 1) := by decide +kernel
theorem dL_begins_70 : decode cL_begins 70 = .ok (.iconst 5, 1) := by decide +kernel
theorem dL_begins_71 : decode cL_begins 71 = .ok (.invokestatic 22, 3) := by decide +kernel
theorem dL_begins_74 : decode cL_begins 74 = .ok (.iadd, 1) := by decide +kernel
theorem dL_begins_75 : decode cL_begins 75 = .ok (.invokevirtual 26, 3) := by decide +kernel
theorem dL_begins_78 : decode cL_begins 78 = .ok (.ldc 35, 2) := by decide +kernel
theorem dL_begins_80 : decode cL_begins 80 = .ok (.invokevirtual 32, 3) := by decide +kernel
theorem dL_begins_83 : decode cL_begins 83 = .ok (.pop, 1) := by decide +kernel
theorem dL_begins_84 : decode cL_begins 84 = .ok (.iinc 3 1, 3) := by decide +kernel
theorem dL_begins_87 : decode cL_begins 87 = .ok (.goto (-42), 3) := by decide +kernel
theorem dL_begins_90 : decode cL_begins 90 = .ok (.iconst 0, 1) := by decide +kernel
theorem dL_begins_91 : decode cL_begins 91 = .ok (.istore_n 3, 1) := by decide +kernel
theorem dL_begins_92 : decode cL_begins 92 = .ok (.iconst 0, 1) := by decide +kernel
theorem dL_begins_93 : decode cL_begins 93 = .ok (.istore 4, 2) := by decide +kernel
theorem dL_begins_95 : decode cL_begins 95 = .ok (.iload 4, 2) := by decide +kernel
theorem dL_begins_97 : decode cL_begins 97 = .ok (.iconst 2, 1) := by decide +kernel
theorem dL_begins_98 : decode cL_begins 98 = .ok (.if_icmp .ge 164, 3) := by decide +kernel
theorem dL_begins_101 : decode cL_begins 101 = .ok (.iconst 1, 1) := by decide +kernel
theorem dL_begins_102 : decode cL_begins 102 = .ok (.aload_n 1, 1) := by decide +kernel
theorem dL_begins_103 : decode cL_begins 103 = .ok (.iconst 4, 1) := by decide +kernel
theorem dL_begins_104 : decode cL_begins 104 = .ok (.iload 4, 2) := by decide +kernel
end DecB0
