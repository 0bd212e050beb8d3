theorem dL_change_69 : decode cL_change 69 = .ok (.aload_n 0, 1) := by decide +kernel
theorem dL_change_70 : decode cL_change 70 = .ok (.iload 4, 2) := by decide +kernel
theorem dL_change_72 : decode cL_change 72 = .ok (.invokevirtual 32, 3) := by decide +kernel
theorem dL_change_75 : decode cL_change 75 = .ok (.aload_n 2, 1) := by decide +kernel
theorem dL_change_76 : decode cL_change 76 = .ok (.iconst 2, 1) := by decide +kernel
theorem dL_change_77 : decode cL_change 77 = .ok (.iaload, 1) := by decide +kernel
theorem dL_change_78 : decode cL_change 78 = .ok (.if_icmp .ne 54, 3) := by decide +kernel
theorem dL_change_81 : decode cL_change 81 = .ok (.aload_n 0, 1) := by decide +kernel
theorem dL_change_82 : decode cL_change 82 = .ok (.iload 5, 2) := by decide +kernel
theorem dL_change_84 : decode cL_change 84 = .ok (.invokevirtual 35, 3) := by decide +kernel
theorem dL_change_87 : decode cL_change 87 = .ok (.aload_n 2, 1) := by decide +kernel
theorem dL_change_88 : decode cL_change 88 = .ok (.iconst 3, 1) := by decide +kernel
theorem dL_change_89 : decode cL_change 89 = .ok (.iaload, 1) := by decide +kernel
theorem dL_change_90 : decode cL_change 90 = .ok (.if_icmp .ne 42, 3) := by decide +kernel
theorem dL_change_93 : decode cL_change 93 = .ok (.aload_n 0, 1) := by decide +kernel
theorem dL_change_94 : decode cL_change 94 = .ok (.iload 6, 2) := by decide +kernel
theorem dL_change_96 : decode cL_change 96 = .ok (.iload 7, 2) := by decide +kernel
theorem dL_change_98 : decode cL_change 98 = .ok (.invokevirtual 38, 3) := by decide +kernel
theorem dL_change_101 : decode cL_change 101 = .ok (.aload_n 2, 1) := by decide +kernel
theorem dL_change_102 : decode cL_change 102 = .ok (.bipush 24, 2) := by decide +kernel
theorem dL_change_104 : decode cL_change 104 = .ok (.iaload, 1) := by decide +kernel
theorem dL_change_105 : decode cL_change 105 = .ok (.iload 6, 2) := by decide +kernel
theorem dL_change_107 : decode cL_change 107 = .ok (.ishr, 1) := by decide +kernel
theorem dL_change_108 : decode cL_change 108 = .ok (.iconst 1, 1) := by decide +kernel
theorem dL_change_109 : decode cL_change 109 = .ok (.iand, 1) := by decide +kernel
theorem dL_change_110 : decode cL_change 110 = .ok (.iconst 1, 1) := by decide +kernel
theorem dL_change_111 : decode cL_change 111 = .ok (.if_icmp .ne 7, 3) := by decide +kernel
theorem dL_change_114 : decode cL_change 114 = .ok (.iconst 1, 1) := by decide +kernel
theorem dL_change_115 : decode cL_change 115 = .ok (.goto 4, 3) := by decide +kernel
theorem dL_change_118 : decode cL_change 118 = .ok (.iconst 0, 1) := by decide +kernel
theorem dL_change_119 : decode cL_change 119 = .ok (.iload 7, 2) := by decide +kernel
theorem dL_change_121 : decode cL_change 121 = .ok (.if_icmp .ne 7, 3) := by decide +kernel
theorem dL_change_124 : decode cL_change 124 = .ok (.iconst 0, 1) := by decide +kernel
theorem dL_change_125 : decode cL_change 125 = .ok (.goto 4, 3) := by decide +kernel
theorem dL_change_128 : decode cL_change 128 = .ok (.iconst 1, 1) := by decide +kernel
theorem dL_change_129 : decode cL_change 129 = .ok (.if_icmp .eq 5, 3) := by decide +kernel
theorem dL_change_132 : decode cL_change 132 = .ok (.iconst 0, 1) := by decide +kernel
theorem dL_change_133 : decode cL_change 133 = .ok (.ireturn, 1) := by decide +kernel
theorem dL_change_134 : decode cL_change 134 = .ok (.aload_n 2, 1) := by decide +kernel
theorem dL_change_135 : decode cL_change 135 = .ok (.iconst 1, 1) := by decide +kernel
theorem dL_change_136 : decode cL_change 136 = .ok (.iload_n 3, 1) := by decide +kernel
theorem dL_change_137 : decode cL_change 137 = .ok (.iastore, 1) := by decide +kernel
theorem dL_change_138 : decode cL_change 138 = .ok (.aload_n 2, 1) := by decide +kernel
theorem dL_change_139 : decode cL_change 139 = .ok (.iconst 2, 1) := by decide +kernel
theorem dL_change_140 : decode cL_change 140 = .ok (.iload 4, 2) := by decide +kernel
theorem dL_change_142 : decode cL_change 142 = .ok (.iastore, 1) := by decide +kernel
theorem dL_change_143 : decode cL_change 143 = .ok (.aload_n 2, 1) := by decide +kernel
theorem dL_change_144 : decode cL_change 144 = .ok (.iconst 3, 1) := by decide +kernel
theorem dL_change_145 : decode cL_change 145 = .ok (.iload 5, 2) := by decide +kernel
theorem dL_change_147 : decode cL_change 147 = .ok (.iastore, 1) := by decide +kernel
theorem dL_change_148 : decode cL_change 148 = .ok (.aload_n 2, 1) := by decide +kernel
theorem dL_change_149 : decode cL_change 149 = .ok (.bipush 24, 2) := by decide +kernel
theorem dL_change_151 : decode cL_change 151 = .ok (.iload 7, 2) := by decide +kernel
theorem dL_change_153 : decode cL_change 153 = .ok (.ifCond .eq 15, 3) := by decide +kernel
theorem dL_change_156 : decode cL_change 156 = .ok (.aload_n 2, 1) := by decide +kernel
theorem dL_change_157 : decode cL_change 157 = .ok (.bipush 24, 2) := by decide +kernel
theorem dL_change_159 : decode cL_change 159 = .ok (.iaload, 1) := by decide +kernel
theorem dL_change_160 : decode cL_change 160 = .ok (.iconst 1, 1) := by decide +kernel
theorem dL_change_161 : decode cL_change 161 = .ok (.iload 6, 2) := by decide +kernel
theorem dL_change_163 : decode cL_change 163 = .ok (.ishl, 1) := by decide +kernel
theorem dL_change_164 : decode cL_change 164 = .ok (.ior, 1) := by decide +kernel
theorem dL_change_165 : decode cL_change 165 = .ok (.goto 14, 3) := by decide +kernel
theorem dL_change_168 : decode cL_change 168 = .ok (.aload_n 2, 1) := by decide +kernel
theorem dL_change_169 : decode cL_change 169 = .ok (.bipush 24, 2) := by decide +kernel
theorem dL_change_171 : decode cL_change 171 = .ok (.iaload, 1) := by decide +kernel
theorem dL_change_172 : decode cL_change 172 = .ok (.iconst 1, 1) := by decide +kernel
theorem dL_change_173 : decode cL_change 173 = .ok (.iload 6, 2) := by decide +kernel
theorem dL_change_175 : decode cL_change 175 = .ok (.ishl, 1) := by decide +kernel
theorem dL_change_176 : decode cL_change 176 = .ok (.iconst (-1), 1) := by decide +kernel
theorem dL_change_177 : decode cL_change 177 = .ok (.ixor, 1) := by decide +kernel
theorem dL_change_178 : decode cL_change 178 = .ok (.iand, 1) := by decide +kernel
theorem dL_change_179 : decode cL_change 179 = .ok (.iastore, 1) := by decide +kernel
theorem dL_change_180 : decode cL_change 180 = .ok (.iconst 1, 1) := by decide +kernel
theorem dL_change_181 : decode cL_change 181 = .ok (.ireturn, 1) := by decide +kernel
theorem dL_drag_0 : decode cL_drag 0 = .ok (.aload_n 0, 1) := by decide +kernel
theorem dL_drag_1 : decode cL_drag 1 = .ok (.bipush 14, 2) := by decide +kernel
theorem dL_drag_3 : decode cL_drag 3 = .ok (.iload_n 1, 1) := by decide +kernel
theorem dL_drag_4 : decode cL_drag 4 = .ok (.iadd, 1) := by decide +kernel
theorem dL_drag_5 : decode cL_drag 5 = .ok (.iaload, 1) := by decide +kernel
theorem dL_drag_6 : decode cL_drag 6 = .ok (.istore_n 2, 1) := by decide +kernel
theorem dL_drag_7 : decode cL_drag 7 = .ok (.aload_n 0, 1) := by decide +kernel
theorem dL_drag_8 : decode cL_drag 8 = .ok (.iconst 4, 1) := by decide +kernel
theorem dL_drag_9 : decode cL_drag 9 = .ok (.iload_n 1, 1) := by decide +kernel
theorem dL_drag_10 : decode cL_drag 10 = .ok (.iadd, 1) := by decide +kernel
theorem dL_drag_11 : decode cL_drag 11 = .ok (.iaload, 1) := by decide +kernel
theorem dL_drag_12 : decode cL_drag 12 = .ok (.iconst 1, 1) := by decide +kernel
theorem dL_drag_13 : decode cL_drag 13 = .ok (.if_icmp .ne 9, 3) := by decide +kernel
theorem dL_drag_16 : decode cL_drag 16 = .ok (.iload_n 2, 1) := by decide +kernel
theorem dL_drag_17 : decode cL_drag 17 = .ok (.iconst 1, 1) := by decide +kernel
theorem dL_drag_18 : decode cL_drag 18 = .ok (.iadd, 1) := by decide +kernel
theorem dL_drag_19 : decode cL_drag 19 = .ok (.goto 19, 3) := by decide +kernel
theorem dL_drag_22 : decode cL_drag 22 = .ok (.aload_n 0, 1) := by decide +kernel
theorem dL_drag_23 : decode cL_drag 23 = .ok (.iconst 4, 1) := by decide +kernel
theorem dL_drag_24 : decode cL_drag 24 = .ok (.iload_n 1, 1) := by decide +kernel
theorem dL_drag_25 : decode cL_drag 25 = .ok (.iadd, 1) := by decide +kernel
theorem dL_drag_26 : decode cL_drag 26 = .ok (.iaload, 1) := by decide +kernel
theorem dL_drag_27 : decode cL_drag 27 = .ok (.iconst 2, 1) := by decide +kernel
theorem dL_drag_28 : decode cL_drag 28 = .ok (.if_icmp .ne 9, 3) := by decide +kernel
theorem dL_drag_31 : decode cL_drag 31 = .ok (.iload_n 2, 1) := by decide +kernel
theorem dL_drag_32 : decode cL_drag 32 = .ok (.iconst 2, 1) := by decide +kernel
theorem dL_drag_33 : decode cL_drag 33 = .ok (.idiv, 1) := by decide +kernel
theorem dL_drag_34 : decode cL_drag 34 = .ok (.goto 4, 3) := by decide +kernel
theorem dL_drag_37 : decode cL_drag 37 = .ok (.iload_n 2, 1) := by decide +kernel
theorem dL_drag_38 : decode cL_drag 38 = .ok (.ireturn, 1) := by decide +kernel
set_option maxRecDepth 20000 in
theorem ggL_go_L_drag : GoodIn wsL_go wsL_drag := goodIn_r _ [4] (by decide +kernel) (by decide +kernel)
set_option maxRecDepth 20000 in
theorem gL_go_L_drag : GoodIn wsL_go (va_wsS RL 42 yL_drag wsL_drag) := goodIn_app (goodIn_of _ (by decide +kernel)) ggL_go_L_drag
theorem dL_go_0 : decode cL_go 0 = .ok (.iload_n 1, 1) := by decide +kernel
theorem dL_go_1 : decode cL_go 1 = .ok (.iconst 3, 1) := by decide +kernel
theorem dL_go_2 : decode cL_go 2 = .ok (.irem, 1) := by decide +kernel
theorem dL_go_3 : decode cL_go 3 = .ok (.istore_n 3, 1) := by decide +kernel
theorem dL_go_4 : decode cL_go 4 = .ok (.iload_n 1, 1) := by decide +kernel
theorem dL_go_5 : decode cL_go 5 = .ok (.iconst 3, 1) := by decide +kernel
theorem dL_go_6 : decode cL_go 6 = .ok (.idiv, 1) := by decide +kernel
theorem dL_go_7 : decode cL_go 7 = .ok (.iconst 4, 1) := by decide +kernel
theorem dL_go_8 : decode cL_go 8 = .ok (.irem, 1) := by decide +kernel
theorem dL_go_9 : decode cL_go 9 = .ok (.istore 4, 2) := by decide +kernel
theorem dL_go_11 : decode cL_go 11 = .ok (.iload_n 1, 1) := by decide +kernel
theorem dL_go_12 : decode cL_go 12 = .ok (.bipush 12, 2) := by decide +kernel
theorem dL_go_14 : decode cL_go 14 = .ok (.idiv, 1) := by decide +kernel
theorem dL_go_15 : decode cL_go 15 = .ok (.bipush 7, 2) := by decide +kernel
theorem dL_go_17 : decode cL_go 17 = .ok (.irem, 1) := by decide +kernel
theorem dL_go_18 : decode cL_go 18 = .ok (.istore 5, 2) := by decide +kernel
theorem dL_go_20 : decode cL_go 20 = .ok (.iload_n 1, 1) := by decide +kernel
theorem dL_go_21 : decode cL_go 21 = .ok (.bipush 84, 2) := by decide +kernel
theorem dL_go_23 : decode cL_go 23 = .ok (.idiv, 1) := by decide +kernel
theorem dL_go_24 : decode cL_go 24 = .ok (.istore 6, 2) := by decide +kernel
theorem dL_go_26 : decode cL_go 26 = .ok (.iload 6, 2) := by decide +kernel
theorem dL_go_28 : decode cL_go 28 = .ok (.aload_n 0, 1) := by decide +kernel
theorem dL_go_29 : decode cL_go 29 = .ok (.iconst 0, 1) := by decide +kernel
theorem dL_go_30 : decode cL_go 30 = .ok (.iaload, 1) := by decide +kernel
theorem dL_go_31 : decode cL_go 31 = .ok (.if_icmp .eq 46, 3) := by decide +kernel
theorem dL_go_34 : decode cL_go 34 = .ok (.iload_n 2, 1) := by decide +kernel
theorem dL_go_35 : decode cL_go 35 = .ok (.ifCond .ne 18, 3) := by decide +kernel
theorem dL_go_38 : decode cL_go 38 = .ok (.iload 4, 2) := by decide +kernel
theorem dL_go_40 : decode cL_go 40 = .ok (.aload_n 0, 1) := by decide +kernel
theorem dL_go_41 : decode cL_go 41 = .ok (.iconst 2, 1) := by decide +kernel
theorem dL_go_42 : decode cL_go 42 = .ok (.iaload, 1) := by decide +kernel
theorem dL_go_43 : decode cL_go 43 = .ok (.if_icmp .eq 34, 3) := by decide +kernel
theorem dL_go_46 : decode cL_go 46 = .ok (.iload 5, 2) := by decide +kernel
theorem dL_go_48 : decode cL_go 48 = .ok (.bipush 6, 2) := by decide +kernel
theorem dL_go_50 : decode cL_go 50 = .ok (.if_icmp .eq 27, 3) := by decide +kernel
theorem dL_go_53 : decode cL_go 53 = .ok (.iload_n 2, 1) := by decide +kernel
theorem dL_go_54 : decode cL_go 54 = .ok (.iconst 2, 1) := by decide +kernel
theorem dL_go_55 : decode cL_go 55 = .ok (.if_icmp .ne 8, 3) := by decide +kernel
theorem dL_go_58 : decode cL_go 58 = .ok (.iload 5, 2) := by decide +kernel
theorem dL_go_60 : decode cL_go 60 = .ok (.ifCond .eq 17, 3) := by decide +kernel
theorem dL_go_63 : decode cL_go 63 = .ok (.iload_n 2, 1) := by decide +kernel
theorem dL_go_64 : decode cL_go 64 = .ok (.iconst 3, 1) := by decide +kernel
theorem dL_go_65 : decode cL_go 65 = .ok (.if_icmp .ne 15, 3) := by decide +kernel
theorem dL_go_68 : decode cL_go 68 = .ok (.iload 5, 2) := by decide +kernel
theorem dL_go_70 : decode cL_go 70 = .ok (.ifCond .eq 7, 3) := by decide +kernel
theorem dL_go_73 : decode cL_go 73 = .ok (.iload_n 3, 1) := by decide +kernel
theorem dL_go_74 : decode cL_go 74 = .ok (.ifCond .ne 6, 3) := by decide +kernel
theorem dL_go_77 : decode cL_go 77 = .ok (.bipush (-9), 2) := by decide +kernel
theorem dL_go_79 : decode cL_go 79 = .ok (.ireturn, 1) := by decide +kernel
theorem dL_go_80 : decode cL_go 80 = .ok (.iload_n 2, 1) := by decide +kernel
theorem dL_go_81 : decode cL_go 81 = .ok (.iconst 4, 1) := by decide +kernel
theorem dL_go_82 : decode cL_go 82 = .ok (.if_icmp .ne 13, 3) := by decide +kernel
theorem dL_go_85 : decode cL_go 85 = .ok (.bipush 84, 2) := by decide +kernel
theorem dL_go_87 : decode cL_go 87 = .ok (.iload 6, 2) := by decide +kernel
theorem dL_go_89 : decode cL_go 89 = .ok (.iconst 1, 1) := by decide +kernel
theorem dL_go_90 : decode cL_go 90 = .ok (.iadd, 1) := by decide +kernel
theorem dL_go_91 : decode cL_go 91 = .ok (.imul, 1) := by decide +kernel
theorem dL_go_92 : decode cL_go 92 = .ok (.iload_n 3, 1) := by decide +kernel
theorem dL_go_93 : decode cL_go 93 = .ok (.iadd, 1) := by decide +kernel
theorem dL_go_94 : decode cL_go 94 = .ok (.ireturn, 1) := by decide +kernel
theorem dL_go_95 : decode cL_go 95 = .ok (.iload_n 2, 1) := by decide +kernel
theorem dL_go_96 : decode cL_go 96 = .ok (.ifCond .ne 11, 3) := by decide +kernel
theorem dL_go_99 : decode cL_go 99 = .ok (.iload 5, 2) := by decide +kernel
theorem dL_go_101 : decode cL_go 101 = .ok (.aload_n 0, 1) := by decide +kernel
theorem dL_go_102 : decode cL_go 102 = .ok (.iconst 1, 1) := by decide +kernel
theorem dL_go_103 : decode cL_go 103 = .ok (.iaload, 1) := by decide +kernel
theorem dL_go_104 : decode cL_go 104 = .ok (.iadd, 1) := by decide +kernel
theorem dL_go_105 : decode cL_go 105 = .ok (.istore 5, 2) := by decide +kernel
theorem dL_go_107 : decode cL_go 107 = .ok (.iload_n 2, 1) := by decide +kernel
theorem dL_go_108 : decode cL_go 108 = .ok (.ifCond .ne 6, 3) := by decide +kernel
theorem dL_go_111 : decode cL_go 111 = .ok (.iinc 4 1, 3) := by decide +kernel
theorem dL_go_114 : decode cL_go 114 = .ok (.iload_n 2, 1) := by decide +kernel
theorem dL_go_115 : decode cL_go 115 = .ok (.iconst 1, 1) := by decide +kernel
theorem dL_go_116 : decode cL_go 116 = .ok (.if_icmp .ne 6, 3) := by decide +kernel
theorem dL_go_119 : decode cL_go 119 = .ok (.iconst 0, 1) := by decide +kernel
theorem dL_go_120 : decode cL_go 120 = .ok (.istore 4, 2) := by decide +kernel
theorem dL_go_122 : decode cL_go 122 = .ok (.iload_n 2, 1) := by decide +kernel
theorem dL_go_123 : decode cL_go 123 = .ok (.iconst 3, 1) := by decide +kernel
theorem dL_go_124 : decode cL_go 124 = .ok (.if_icmp .ne 6, 3) := by decide +kernel
theorem dL_go_127 : decode cL_go 127 = .ok (.iinc 5 (-2), 3) := by decide +kernel
theorem dL_go_130 : decode cL_go 130 = .ok (.iload_n 2, 1) := by decide +kernel
theorem dL_go_131 : decode cL_go 131 = .ok (.iconst 3, 1) := by decide +kernel
theorem dL_go_132 : decode cL_go 132 = .ok (.if_icmp .ne 6, 3) := by decide +kernel
theorem dL_go_135 : decode cL_go 135 = .ok (.iinc 3 (-1), 3) := by decide +kernel
theorem dL_go_138 : decode cL_go 138 = .ok (.iload 5, 2) := by decide +kernel
theorem dL_go_140 : decode cL_go 140 = .ok (.bipush 6, 2) := by decide +kernel
theorem dL_go_142 : decode cL_go 142 = .ok (.if_icmp .le 7, 3) := by decide +kernel
theorem dL_go_145 : decode cL_go 145 = .ok (.bipush 6, 2) := by decide +kernel
theorem dL_go_147 : decode cL_go 147 = .ok (.istore 5, 2) := by decide +kernel
theorem dL_go_149 : decode cL_go 149 = .ok (.iload 5, 2) := by decide +kernel
theorem dL_go_151 : decode cL_go 151 = .ok (.aload_n 0, 1) := by decide +kernel
theorem dL_go_152 : decode cL_go 152 = .ok (.iload 6, 2) := by decide +kernel
theorem dL_go_154 : decode cL_go 154 = .ok (.invokestatic 42, 3) := by decide +kernel
theorem dL_go_157 : decode cL_go 157 = .ok (.isub, 1) := by decide +kernel
theorem dL_go_158 : decode cL_go 158 = .ok (.istore 5, 2) := by decide +kernel
theorem dL_go_160 : decode cL_go 160 = .ok (.iload 5, 2) := by decide +kernel
theorem dL_go_162 : decode cL_go 162 = .ok (.ifCond .ge 6, 3) := by decide +kernel
theorem dL_go_165 : decode cL_go 165 = .ok (.iconst 0, 1) := by decide +kernel
theorem dL_go_166 : decode cL_go 166 = .ok (.istore 5, 2) := by decide +kernel
theorem dL_go_168 : decode cL_go 168 = .ok (.iload 5, 2) := by decide +kernel
theorem dL_go_170 : decode cL_go 170 = .ok (.iconst 2, 1) := by decide +kernel
theorem dL_go_171 : decode cL_go 171 = .ok (.idiv, 1) := by decide +kernel
theorem dL_go_172 : decode cL_go 172 = .ok (.istore 7, 2) := by decide +kernel
theorem dL_go_174 : decode cL_go 174 = .ok (.iload 7, 2) := by decide +kernel
theorem dL_go_176 : decode cL_go 176 = .ok (.ifCond .le 55, 3) := by decide +kernel
theorem dL_go_179 : decode cL_go 179 = .ok (.iload 6, 2) := by decide +kernel
theorem dL_go_181 : decode cL_go 181 = .ok (.aload_n 0, 1) := by decide +kernel
theorem dL_go_182 : decode cL_go 182 = .ok (.iconst 0, 1) := by decide +kernel
theorem dL_go_183 : decode cL_go 183 = .ok (.iaload, 1) := by decide +kernel
theorem dL_go_184 : decode cL_go 184 = .ok (.if_icmp .ge 47, 3) := by decide +kernel
theorem dL_go_187 : decode cL_go 187 = .ok (.iinc 6 1, 3) := by decide +kernel
theorem dL_go_190 : decode cL_go 190 = .ok (.iload 6, 2) := by decide +kernel
theorem dL_go_192 : decode cL_go 192 = .ok (.aload_n 0, 1) := by decide +kernel
theorem dL_go_193 : decode cL_go 193 = .ok (.iconst 0, 1) := by decide +kernel
theorem dL_go_194 : decode cL_go 194 = .ok (.iaload, 1) := by decide +kernel
theorem dL_go_195 : decode cL_go 195 = .ok (.if_icmp .eq 30, 3) := by decide +kernel
theorem dL_go_198 : decode cL_go 198 = .ok (.iload 5, 2) := by decide +kernel
theorem dL_go_200 : decode cL_go 200 = .ok (.iconst 4, 1) := by decide +kernel
theorem dL_go_201 : decode cL_go 201 = .ok (.if_icmp .lt 24, 3) := by decide +kernel
theorem dL_go_204 : decode cL_go 204 = .ok (.aload_n 0, 1) := by decide +kernel
theorem dL_go_205 : decode cL_go 205 = .ok (.bipush 24, 2) := by decide +kernel
theorem dL_go_207 : decode cL_go 207 = .ok (.iaload, 1) := by decide +kernel
theorem dL_go_208 : decode cL_go 208 = .ok (.iload 6, 2) := by decide +kernel
theorem dL_go_210 : decode cL_go 210 = .ok (.ishr, 1) := by decide +kernel
theorem dL_go_211 : decode cL_go 211 = .ok (.iconst 1, 1) := by decide +kernel
theorem dL_go_212 : decode cL_go 212 = .ok (.iand, 1) := by decide +kernel
theorem dL_go_213 : decode cL_go 213 = .ok (.ifCond .ne 6, 3) := by decide +kernel
theorem dL_go_216 : decode cL_go 216 = .ok (.goto 9, 3) := by decide +kernel
theorem dL_go_219 : decode cL_go 219 = .ok (.iconst 0, 1) := by decide +kernel
theorem dL_go_220 : decode cL_go 220 = .ok (.istore 5, 2) := by decide +kernel
theorem dL_go_222 : decode cL_go 222 = .ok (.iconst 1, 1) := by decide +kernel
theorem dL_go_223 : decode cL_go 223 = .ok (.istore 7, 2) := by decide +kernel
theorem dL_go_225 : decode cL_go 225 = .ok (.iinc 7 (-1), 3) := by decide +kernel
theorem dL_go_228 : decode cL_go 228 = .ok (.goto (-54), 3) := by decide +kernel
theorem dL_go_231 : decode cL_go 231 = .ok (.bipush 84, 2) := by decide +kernel
theorem dL_go_233 : decode cL_go 233 = .ok (.iload 6, 2) := by decide +kernel
theorem dL_go_235 : decode cL_go 235 = .ok (.imul, 1) := by decide +kernel
theorem dL_go_236 : decode cL_go 236 = .ok (.bipush 12, 2) := by decide +kernel
theorem dL_go_238 : decode cL_go 238 = .ok (.iload 5, 2) := by decide +kernel
theorem dL_go_240 : decode cL_go 240 = .ok (.imul, 1) := by decide +kernel
theorem dL_go_241 : decode cL_go 241 = .ok (.iadd, 1) := by decide +kernel
theorem dL_go_242 : decode cL_go 242 = .ok (.iconst 3, 1) := by decide +kernel
theorem dL_go_243 : decode cL_go 243 = .ok (.iload 4, 2) := by decide +kernel
theorem dL_go_245 : decode cL_go 245 = .ok (.imul, 1) := by decide +kernel
theorem dL_go_246 : decode cL_go 246 = .ok (.iadd, 1) := by decide +kernel
theorem dL_go_247 : decode cL_go 247 = .ok (.iload_n 3, 1) := by decide +kernel
theorem dL_go_248 : decode cL_go 248 = .ok (.iadd, 1) := by decide +kernel
theorem dL_go_249 : decode cL_go 249 = .ok (.ireturn, 1) := by decide +kernel
