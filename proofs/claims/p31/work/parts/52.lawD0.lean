theorem dL_law_0 : decode cL_law 0 = .ok (.new 20, 3) := by decide +kernel
theorem dL_law_3 : decode cL_law 3 = .ok (.dup, 1) := by decide +kernel
theorem dL_law_4 : decode cL_law 4 = .ok (.invokespecial 45, 3) := by decide +kernel
theorem dL_law_7 : decode cL_law 7 = .ok (.astore_n 1, 1) := by decide +kernel
theorem dL_law_8 : decode cL_law 8 = .ok (.bipush 25, 2) := by decide +kernel
theorem dL_law_10 : decode cL_law 10 = .ok (.newarray .int, 2) := by decide +kernel
theorem dL_law_12 : decode cL_law 12 = .ok (.astore_n 2, 1) := by decide +kernel
theorem dL_law_13 : decode cL_law 13 = .ok (.aload_n 1, 1) := by decide +kernel
theorem dL_law_14 : decode cL_law 14 = .ok (.aload_n 0, 1) := by decide +kernel
theorem dL_law_15 : decode cL_law 15 = .ok (.iconst 0, 1) := by decide +kernel
theorem dL_law_16 : decode cL_law 16 = .ok (.bipush 10, 2) := by decide +kernel
theorem dL_law_18 : decode cL_law 18 = .ok (.aload_n 2, 1) := by decide +kernel
theorem dL_law_19 : decode cL_law 19 = .ok (.invokestatic 46, 3) := by decide +kernel
theorem dL_law_22 : decode cL_law 22 = .ok (.istore_n 3, 1) := by decide +kernel
theorem dL_law_23 : decode cL_law 23 = .ok (.aload_n 2, 1) := by decide +kernel
theorem dL_law_24 : decode cL_law 24 = .ok (.iconst 0, 1) := by decide +kernel
theorem dL_law_25 : decode cL_law 25 = .ok (.iaload, 1) := by decide +kernel
theorem dL_law_26 : decode cL_law 26 = .ok (.istore 4, 2) := by decide +kernel
theorem dL_law_28 : decode cL_law 28 = .ok (.iload_n 3, 1) := by decide +kernel
theorem dL_law_29 : decode cL_law 29 = .ok (.bipush 8, 2) := by decide +kernel
theorem dL_law_31 : decode cL_law 31 = .ok (.if_icmp .lt 49, 3) := by decide +kernel
theorem dL_law_34 : decode cL_law 34 = .ok (.aload_n 1, 1) := by decide +kernel
theorem dL_law_35 : decode cL_law 35 = .ok (.iconst 0, 1) := by decide +kernel
theorem dL_law_36 : decode cL_law 36 = .ok (.iconst 0, 1) := by decide +kernel
theorem dL_law_37 : decode cL_law 37 = .ok (.iconst 0, 1) := by decide +kernel
theorem dL_law_38 : decode cL_law 38 = .ok (.iload_n 3, 1) := by decide +kernel
theorem dL_law_39 : decode cL_law 39 = .ok (.invokevirtual 49, 3) := by decide +kernel
theorem dL_law_42 : decode cL_law 42 = .ok (.iload 4, 2) := by decide +kernel
theorem dL_law_44 : decode cL_law 44 = .ok (.if_icmp .ne 36, 3) := by decide +kernel
theorem dL_law_47 : decode cL_law 47 = .ok (.aload_n 1, 1) := by decide +kernel
theorem dL_law_48 : decode cL_law 48 = .ok (.iconst 1, 1) := by decide +kernel
theorem dL_law_49 : decode cL_law 49 = .ok (.invokevirtual 53, 3) := by decide +kernel
theorem dL_law_52 : decode cL_law 52 = .ok (.aload_n 2, 1) := by decide +kernel
theorem dL_law_53 : decode cL_law 53 = .ok (.iconst 1, 1) := by decide +kernel
theorem dL_law_54 : decode cL_law 54 = .ok (.iaload, 1) := by decide +kernel
theorem dL_law_55 : decode cL_law 55 = .ok (.if_icmp .ne 25, 3) := by decide +kernel
theorem dL_law_58 : decode cL_law 58 = .ok (.aload_n 1, 1) := by decide +kernel
theorem dL_law_59 : decode cL_law 59 = .ok (.iconst 2, 1) := by decide +kernel
theorem dL_law_60 : decode cL_law 60 = .ok (.invokevirtual 53, 3) := by decide +kernel
theorem dL_law_63 : decode cL_law 63 = .ok (.aload_n 2, 1) := by decide +kernel
theorem dL_law_64 : decode cL_law 64 = .ok (.iconst 2, 1) := by decide +kernel
theorem dL_law_65 : decode cL_law 65 = .ok (.iaload, 1) := by decide +kernel
theorem dL_law_66 : decode cL_law 66 = .ok (.if_icmp .ne 14, 3) := by decide +kernel
theorem dL_law_69 : decode cL_law 69 = .ok (.aload_n 1, 1) := by decide +kernel
theorem dL_law_70 : decode cL_law 70 = .ok (.iconst 3, 1) := by decide +kernel
theorem dL_law_71 : decode cL_law 71 = .ok (.invokevirtual 53, 3) := by decide +kernel
theorem dL_law_74 : decode cL_law 74 = .ok (.aload_n 2, 1) := by decide +kernel
theorem dL_law_75 : decode cL_law 75 = .ok (.iconst 3, 1) := by decide +kernel
theorem dL_law_76 : decode cL_law 76 = .ok (.iaload, 1) := by decide +kernel
theorem dL_law_77 : decode cL_law 77 = .ok (.if_icmp .eq 5, 3) := by decide +kernel
theorem dL_law_80 : decode cL_law 80 = .ok (.iconst 0, 1) := by decide +kernel
theorem dL_law_81 : decode cL_law 81 = .ok (.ireturn, 1) := by decide +kernel
theorem dL_law_82 : decode cL_law 82 = .ok (.iconst 0, 1) := by decide +kernel
theorem dL_law_83 : decode cL_law 83 = .ok (.istore 5, 2) := by decide +kernel
theorem dL_law_85 : decode cL_law 85 = .ok (.iload 5, 2) := by decide +kernel
theorem dL_law_87 : decode cL_law 87 = .ok (.bipush 7, 2) := by decide +kernel
theorem dL_law_89 : decode cL_law 89 = .ok (.if_icmp .ge 598, 3) := by decide +kernel
theorem dL_law_92 : decode cL_law 92 = .ok (.iload 5, 2) := by decide +kernel
theorem dL_law_94 : decode cL_law 94 = .ok (.ifCond .le 21, 3) := by decide +kernel
theorem dL_law_97 : decode cL_law 97 = .ok (.aload_n 1, 1) := by decide +kernel
theorem dL_law_98 : decode cL_law 98 = .ok (.aload_n 0, 1) := by decide +kernel
theorem dL_law_99 : decode cL_law 99 = .ok (.iconst 4, 1) := by decide +kernel
theorem dL_law_100 : decode cL_law 100 = .ok (.iload 5, 2) := by decide +kernel
theorem dL_law_102 : decode cL_law 102 = .ok (.iadd, 1) := by decide +kernel
theorem dL_law_103 : decode cL_law 103 = .ok (.invokestatic 9, 3) := by decide +kernel
theorem dL_law_106 : decode cL_law 106 = .ok (.aload_n 2, 1) := by decide +kernel
theorem dL_law_107 : decode cL_law 107 = .ok (.invokestatic 56, 3) := by decide +kernel
theorem dL_law_110 : decode cL_law 110 = .ok (.ifCond .ne 5, 3) := by decide +kernel
theorem dL_law_113 : decode cL_law 113 = .ok (.iconst 0, 1) := by decide +kernel
theorem dL_law_114 : decode cL_law 114 = .ok (.ireturn, 1) := by decide +kernel
theorem dL_law_115 : decode cL_law 115 = .ok (.iconst 0, 1) := by decide +kernel
theorem dL_law_116 : decode cL_law 116 = .ok (.istore 6, 2) := by decide +kernel
theorem dL_law_118 : decode cL_law 118 = .ok (.iload 6, 2) := by decide +kernel
theorem dL_law_120 : decode cL_law 120 = .ok (.iload 4, 2) := by decide +kernel
theorem dL_law_122 : decode cL_law 122 = .ok (.if_icmp .ge 79, 3) := by decide +kernel
theorem dL_law_125 : decode cL_law 125 = .ok (.aload_n 1, 1) := by decide +kernel
theorem dL_law_126 : decode cL_law 126 = .ok (.iload 6, 2) := by decide +kernel
theorem dL_law_128 : decode cL_law 128 = .ok (.iconst 0, 1) := by decide +kernel
theorem dL_law_129 : decode cL_law 129 = .ok (.invokevirtual 60, 3) := by decide +kernel
theorem dL_law_132 : decode cL_law 132 = .ok (.aload_n 2, 1) := by decide +kernel
theorem dL_law_133 : decode cL_law 133 = .ok (.iconst 4, 1) := by decide +kernel
theorem dL_law_134 : decode cL_law 134 = .ok (.iload 6, 2) := by decide +kernel
theorem dL_law_136 : decode cL_law 136 = .ok (.iadd, 1) := by decide +kernel
theorem dL_law_137 : decode cL_law 137 = .ok (.iaload, 1) := by decide +kernel
theorem dL_law_138 : decode cL_law 138 = .ok (.if_icmp .ne 55, 3) := by decide +kernel
theorem dL_law_141 : decode cL_law 141 = .ok (.aload_n 1, 1) := by decide +kernel
theorem dL_law_142 : decode cL_law 142 = .ok (.iload 6, 2) := by decide +kernel
theorem dL_law_144 : decode cL_law 144 = .ok (.iconst 1, 1) := by decide +kernel
theorem dL_law_145 : decode cL_law 145 = .ok (.invokevirtual 60, 3) := by decide +kernel
theorem dL_law_148 : decode cL_law 148 = .ok (.aload_n 2, 1) := by decide +kernel
theorem dL_law_149 : decode cL_law 149 = .ok (.bipush 14, 2) := by decide +kernel
theorem dL_law_151 : decode cL_law 151 = .ok (.iload 6, 2) := by decide +kernel
theorem dL_law_153 : decode cL_law 153 = .ok (.iadd, 1) := by decide +kernel
theorem dL_law_154 : decode cL_law 154 = .ok (.iaload, 1) := by decide +kernel
theorem dL_law_155 : decode cL_law 155 = .ok (.if_icmp .ne 38, 3) := by decide +kernel
theorem dL_law_158 : decode cL_law 158 = .ok (.aload_n 1, 1) := by decide +kernel
theorem dL_law_159 : decode cL_law 159 = .ok (.iload 6, 2) := by decide +kernel
theorem dL_law_161 : decode cL_law 161 = .ok (.iconst 2, 1) := by decide +kernel
theorem dL_law_162 : decode cL_law 162 = .ok (.invokevirtual 60, 3) := by decide +kernel
theorem dL_law_165 : decode cL_law 165 = .ok (.aload_n 2, 1) := by decide +kernel
