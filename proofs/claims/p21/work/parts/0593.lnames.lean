/-! the law: its printed names, 0593 -/
theorem dL_places_0 : decode cL_places 0 = .ok (.iload 4, 2) := by decide +kernel
theorem dL_places_2 : decode cL_places 2 = .ok (.iconst 3, 1) := by decide +kernel
theorem dL_places_3 : decode cL_places 3 = .ok (.invokestatic 104, 3) := by decide +kernel
theorem dL_places_6 : decode cL_places 6 = .ok (.ifCond .le 14, 3) := by decide +kernel
theorem dL_places_9 : decode cL_places 9 = .ok (.iload 4, 2) := by decide +kernel
theorem dL_places_11 : decode cL_places 11 = .ok (.iconst 2, 1) := by decide +kernel
theorem dL_places_12 : decode cL_places 12 = .ok (.ishr, 1) := by decide +kernel
theorem dL_places_13 : decode cL_places 13 = .ok (.iconst 5, 1) := by decide +kernel
theorem dL_places_14 : decode cL_places 14 = .ok (.invokestatic 104, 3) := by decide +kernel
theorem dL_places_17 : decode cL_places 17 = .ok (.goto 4, 3) := by decide +kernel
theorem dL_places_20 : decode cL_places 20 = .ok (.iconst 2, 1) := by decide +kernel
theorem dL_places_21 : decode cL_places 21 = .ok (.istore 6, 2) := by decide +kernel
theorem dL_places_23 : decode cL_places 23 = .ok (.iload 5, 2) := by decide +kernel
theorem dL_places_25 : decode cL_places 25 = .ok (.bipush 50, 2) := by decide +kernel
theorem dL_places_27 : decode cL_places 27 = .ok (.invokestatic 104, 3) := by decide +kernel
theorem dL_places_30 : decode cL_places 30 = .ok (.istore 7, 2) := by decide +kernel
theorem dL_places_32 : decode cL_places 32 = .ok (.iload 5, 2) := by decide +kernel
theorem dL_places_34 : decode cL_places 34 = .ok (.bipush 6, 2) := by decide +kernel
theorem dL_places_36 : decode cL_places 36 = .ok (.ishr, 1) := by decide +kernel
theorem dL_places_37 : decode cL_places 37 = .ok (.bipush 60, 2) := by decide +kernel
theorem dL_places_39 : decode cL_places 39 = .ok (.invokestatic 104, 3) := by decide +kernel
theorem dL_places_42 : decode cL_places 42 = .ok (.istore 8, 2) := by decide +kernel
theorem dL_places_44 : decode cL_places 44 = .ok (.iconst 1, 1) := by decide +kernel
theorem dL_places_45 : decode cL_places 45 = .ok (.iload 5, 2) := by decide +kernel
theorem dL_places_47 : decode cL_places 47 = .ok (.bipush 12, 2) := by decide +kernel
theorem dL_places_49 : decode cL_places 49 = .ok (.ishr, 1) := by decide +kernel
theorem dL_places_50 : decode cL_places 50 = .ok (.bipush 60, 2) := by decide +kernel
theorem dL_places_52 : decode cL_places 52 = .ok (.iload 7, 2) := by decide +kernel
theorem dL_places_54 : decode cL_places 54 = .ok (.isub, 1) := by decide +kernel
theorem dL_places_55 : decode cL_places 55 = .ok (.invokestatic 104, 3) := by decide +kernel
theorem dL_places_58 : decode cL_places 58 = .ok (.iadd, 1) := by decide +kernel
theorem dL_places_59 : decode cL_places 59 = .ok (.istore 9, 2) := by decide +kernel
theorem dL_places_61 : decode cL_places 61 = .ok (.iconst 1, 1) := by decide +kernel
theorem dL_places_62 : decode cL_places 62 = .ok (.iload 5, 2) := by decide +kernel
theorem dL_places_64 : decode cL_places 64 = .ok (.bipush 18, 2) := by decide +kernel
theorem dL_places_66 : decode cL_places 66 = .ok (.ishr, 1) := by decide +kernel
theorem dL_places_67 : decode cL_places 67 = .ok (.bipush 80, 2) := by decide +kernel
theorem dL_places_69 : decode cL_places 69 = .ok (.iload 8, 2) := by decide +kernel
theorem dL_places_71 : decode cL_places 71 = .ok (.isub, 1) := by decide +kernel
theorem dL_places_72 : decode cL_places 72 = .ok (.invokestatic 104, 3) := by decide +kernel
theorem dL_places_75 : decode cL_places 75 = .ok (.iadd, 1) := by decide +kernel
theorem dL_places_76 : decode cL_places 76 = .ok (.istore 10, 2) := by decide +kernel
theorem dL_places_78 : decode cL_places 78 = .ok (.aload_n 0, 1) := by decide +kernel
theorem dL_places_79 : decode cL_places 79 = .ok (.iload 6, 2) := by decide +kernel
theorem dL_places_81 : decode cL_places 81 = .ok (.iload 7, 2) := by decide +kernel
theorem dL_places_83 : decode cL_places 83 = .ok (.iload 8, 2) := by decide +kernel
theorem dL_places_85 : decode cL_places 85 = .ok (.iload 9, 2) := by decide +kernel
theorem dL_places_87 : decode cL_places 87 = .ok (.iload 10, 2) := by decide +kernel
theorem dL_places_89 : decode cL_places 89 = .ok (.iload 4, 2) := by decide +kernel
theorem dL_places_91 : decode cL_places 91 = .ok (.iconst 5, 1) := by decide +kernel
theorem dL_places_92 : decode cL_places 92 = .ok (.ishr, 1) := by decide +kernel
theorem dL_places_93 : decode cL_places 93 = .ok (.bipush 7, 2) := by decide +kernel
theorem dL_places_95 : decode cL_places 95 = .ok (.invokestatic 104, 3) := by decide +kernel
theorem dL_places_98 : decode cL_places 98 = .ok (.invokestatic 107, 3) := by decide +kernel
theorem dL_places_101 : decode cL_places 101 = .ok (.istore 11, 2) := by decide +kernel
theorem dL_places_103 : decode cL_places 103 = .ok (.aload_n 1, 1) := by decide +kernel
theorem dL_places_104 : decode cL_places 104 = .ok (.iconst 0, 1) := by decide +kernel
theorem dL_places_105 : decode cL_places 105 = .ok (.iaload, 1) := by decide +kernel
theorem dL_places_106 : decode cL_places 106 = .ok (.bipush 24, 2) := by decide +kernel
theorem dL_places_108 : decode cL_places 108 = .ok (.if_icmp .ne 16, 3) := by decide +kernel
theorem dL_places_111 : decode cL_places 111 = .ok (.iload 11, 2) := by decide +kernel
theorem dL_places_113 : decode cL_places 113 = .ok (.ldc 24, 2) := by decide +kernel
theorem dL_places_115 : decode cL_places 115 = .ok (.if_icmp .ne 7, 3) := by decide +kernel
theorem dL_places_118 : decode cL_places 118 = .ok (.iconst 1, 1) := by decide +kernel
theorem dL_places_119 : decode cL_places 119 = .ok (.goto 4, 3) := by decide +kernel
theorem dL_places_122 : decode cL_places 122 = .ok (.iconst 0, 1) := by decide +kernel
theorem dL_places_123 : decode cL_places 123 = .ok (.ireturn, 1) := by decide +kernel
theorem dL_places_124 : decode cL_places 124 = .ok (.aload_n 2, 1) := by decide +kernel
theorem dL_places_125 : decode cL_places 125 = .ok (.aload_n 1, 1) := by decide +kernel
theorem dL_places_126 : decode cL_places 126 = .ok (.iconst 0, 1) := by decide +kernel
theorem dL_places_127 : decode cL_places 127 = .ok (.iaload, 1) := by decide +kernel
theorem dL_places_128 : decode cL_places 128 = .ok (.iload 6, 2) := by decide +kernel
theorem dL_places_130 : decode cL_places 130 = .ok (.iastore, 1) := by decide +kernel
theorem dL_places_131 : decode cL_places 131 = .ok (.aload_n 1, 1) := by decide +kernel
theorem dL_places_132 : decode cL_places 132 = .ok (.iconst 0, 1) := by decide +kernel
theorem dL_places_133 : decode cL_places 133 = .ok (.dup2, 1) := by decide +kernel
theorem dL_places_134 : decode cL_places 134 = .ok (.iaload, 1) := by decide +kernel
theorem dL_places_135 : decode cL_places 135 = .ok (.iconst 1, 1) := by decide +kernel
theorem dL_places_136 : decode cL_places 136 = .ok (.iadd, 1) := by decide +kernel
theorem dL_places_137 : decode cL_places 137 = .ok (.iastore, 1) := by decide +kernel
theorem dL_places_138 : decode cL_places 138 = .ok (.iconst 0, 1) := by decide +kernel
theorem dL_places_139 : decode cL_places 139 = .ok (.istore 12, 2) := by decide +kernel
theorem dL_places_141 : decode cL_places 141 = .ok (.iconst 0, 1) := by decide +kernel
theorem dL_places_142 : decode cL_places 142 = .ok (.istore 13, 2) := by decide +kernel
theorem dL_places_144 : decode cL_places 144 = .ok (.iload 13, 2) := by decide +kernel
theorem dL_places_146 : decode cL_places 146 = .ok (.aload_n 1, 1) := by decide +kernel
theorem dL_places_147 : decode cL_places 147 = .ok (.iconst 1, 1) := by decide +kernel
theorem dL_places_148 : decode cL_places 148 = .ok (.iaload, 1) := by decide +kernel
theorem dL_places_149 : decode cL_places 149 = .ok (.if_icmp .ge 28, 3) := by decide +kernel
theorem dL_places_152 : decode cL_places 152 = .ok (.iload 12, 2) := by decide +kernel
theorem dL_places_154 : decode cL_places 154 = .ok (.aload_n 3, 1) := by decide +kernel
theorem dL_places_155 : decode cL_places 155 = .ok (.iload 13, 2) := by decide +kernel
theorem dL_places_157 : decode cL_places 157 = .ok (.iaload, 1) := by decide +kernel
theorem dL_places_158 : decode cL_places 158 = .ok (.iload 6, 2) := by decide +kernel
theorem dL_places_160 : decode cL_places 160 = .ok (.if_icmp .ne 7, 3) := by decide +kernel
theorem dL_places_163 : decode cL_places 163 = .ok (.iconst 1, 1) := by decide +kernel
theorem dL_places_164 : decode cL_places 164 = .ok (.goto 4, 3) := by decide +kernel
theorem dL_places_167 : decode cL_places 167 = .ok (.iconst 0, 1) := by decide +kernel
theorem dL_places_168 : decode cL_places 168 = .ok (.iadd, 1) := by decide +kernel
theorem dL_places_169 : decode cL_places 169 = .ok (.istore 12, 2) := by decide +kernel
theorem dL_places_171 : decode cL_places 171 = .ok (.iinc 13 1, 3) := by decide +kernel
theorem dL_places_174 : decode cL_places 174 = .ok (.goto (-30), 3) := by decide +kernel
theorem dL_places_177 : decode cL_places 177 = .ok (.iload 11, 2) := by decide +kernel
theorem dL_places_179 : decode cL_places 179 = .ok (.aload_n 1, 1) := by decide +kernel
theorem dL_places_180 : decode cL_places 180 = .ok (.iconst 0, 1) := by decide +kernel
theorem dL_places_181 : decode cL_places 181 = .ok (.iaload, 1) := by decide +kernel
theorem dL_places_182 : decode cL_places 182 = .ok (.iconst 1, 1) := by decide +kernel
theorem dL_places_183 : decode cL_places 183 = .ok (.isub, 1) := by decide +kernel
theorem dL_places_184 : decode cL_places 184 = .ok (.if_icmp .ne 41, 3) := by decide +kernel
theorem dL_places_187 : decode cL_places 187 = .ok (.aload_n 0, 1) := by decide +kernel
theorem dL_places_188 : decode cL_places 188 = .ok (.aload_n 1, 1) := by decide +kernel
theorem dL_places_189 : decode cL_places 189 = .ok (.aload_n 3, 1) := by decide +kernel
theorem dL_places_190 : decode cL_places 190 = .ok (.iload 6, 2) := by decide +kernel
theorem dL_places_192 : decode cL_places 192 = .ok (.iload 12, 2) := by decide +kernel
theorem dL_places_194 : decode cL_places 194 = .ok (.invokestatic 110, 3) := by decide +kernel
theorem dL_places_197 : decode cL_places 197 = .ok (.ifCond .eq 28, 3) := by decide +kernel
theorem dL_places_200 : decode cL_places 200 = .ok (.aload_n 0, 1) := by decide +kernel
theorem dL_places_201 : decode cL_places 201 = .ok (.iload 11, 2) := by decide +kernel
theorem dL_places_203 : decode cL_places 203 = .ok (.iconst 3, 1) := by decide +kernel
theorem dL_places_204 : decode cL_places 204 = .ok (.invokestatic 94, 3) := by decide +kernel
theorem dL_places_207 : decode cL_places 207 = .ok (.iload 9, 2) := by decide +kernel
theorem dL_places_209 : decode cL_places 209 = .ok (.if_icmp .ne 16, 3) := by decide +kernel
theorem dL_places_212 : decode cL_places 212 = .ok (.aload_n 0, 1) := by decide +kernel
theorem dL_places_213 : decode cL_places 213 = .ok (.iload 6, 2) := by decide +kernel
theorem dL_places_215 : decode cL_places 215 = .ok (.invokestatic 102, 3) := by decide +kernel
theorem dL_places_218 : decode cL_places 218 = .ok (.ifCond .ne 7, 3) := by decide +kernel
theorem dL_places_221 : decode cL_places 221 = .ok (.iconst 1, 1) := by decide +kernel
theorem dL_places_222 : decode cL_places 222 = .ok (.goto 4, 3) := by decide +kernel
theorem dL_places_225 : decode cL_places 225 = .ok (.iconst 0, 1) := by decide +kernel
theorem dL_places_226 : decode cL_places 226 = .ok (.ireturn, 1) := by decide +kernel
theorem dL_moves_0 : decode cL_moves 0 = .ok (.iload 5, 2) := by decide +kernel
theorem dL_moves_2 : decode cL_moves 2 = .ok (.bipush 60, 2) := by decide +kernel
theorem dL_moves_4 : decode cL_moves 4 = .ok (.invokestatic 104, 3) := by decide +kernel
theorem dL_moves_7 : decode cL_moves 7 = .ok (.istore 6, 2) := by decide +kernel
theorem dL_moves_9 : decode cL_moves 9 = .ok (.iload 5, 2) := by decide +kernel
theorem dL_moves_11 : decode cL_moves 11 = .ok (.bipush 6, 2) := by decide +kernel
theorem dL_moves_13 : decode cL_moves 13 = .ok (.ishr, 1) := by decide +kernel
theorem dL_moves_14 : decode cL_moves 14 = .ok (.bipush 80, 2) := by decide +kernel
theorem dL_moves_16 : decode cL_moves 16 = .ok (.invokestatic 104, 3) := by decide +kernel
theorem dL_moves_19 : decode cL_moves 19 = .ok (.istore 7, 2) := by decide +kernel
theorem dL_moves_21 : decode cL_moves 21 = .ok (.aload_n 2, 1) := by decide +kernel
theorem dL_moves_22 : decode cL_moves 22 = .ok (.iload 4, 2) := by decide +kernel
theorem dL_moves_24 : decode cL_moves 24 = .ok (.iaload, 1) := by decide +kernel
theorem dL_moves_25 : decode cL_moves 25 = .ok (.bipush 9, 2) := by decide +kernel
theorem dL_moves_27 : decode cL_moves 27 = .ok (.if_icmp .ne 39, 3) := by decide +kernel
theorem dL_moves_30 : decode cL_moves 30 = .ok (.aload_n 0, 1) := by decide +kernel
theorem dL_moves_31 : decode cL_moves 31 = .ok (.iload 4, 2) := by decide +kernel
theorem dL_moves_33 : decode cL_moves 33 = .ok (.iload 6, 2) := by decide +kernel
theorem dL_moves_35 : decode cL_moves 35 = .ok (.iload 7, 2) := by decide +kernel
theorem dL_moves_37 : decode cL_moves 37 = .ok (.invokestatic 114, 3) := by decide +kernel
theorem dL_moves_40 : decode cL_moves 40 = .ok (.ldc 18, 2) := by decide +kernel
theorem dL_moves_42 : decode cL_moves 42 = .ok (.if_icmp .ne 22, 3) := by decide +kernel
theorem dL_moves_45 : decode cL_moves 45 = .ok (.aload_n 0, 1) := by decide +kernel
theorem dL_moves_46 : decode cL_moves 46 = .ok (.iload 4, 2) := by decide +kernel
theorem dL_moves_48 : decode cL_moves 48 = .ok (.iload 6, 2) := by decide +kernel
theorem dL_moves_50 : decode cL_moves 50 = .ok (.iload 7, 2) := by decide +kernel
theorem dL_moves_52 : decode cL_moves 52 = .ok (.invokestatic 117, 3) := by decide +kernel
theorem dL_moves_55 : decode cL_moves 55 = .ok (.ldc 18, 2) := by decide +kernel
theorem dL_moves_57 : decode cL_moves 57 = .ok (.if_icmp .ne 7, 3) := by decide +kernel
theorem dL_moves_60 : decode cL_moves 60 = .ok (.iconst 1, 1) := by decide +kernel
theorem dL_moves_61 : decode cL_moves 61 = .ok (.goto 4, 3) := by decide +kernel
theorem dL_moves_64 : decode cL_moves 64 = .ok (.iconst 0, 1) := by decide +kernel
theorem dL_moves_65 : decode cL_moves 65 = .ok (.ireturn, 1) := by decide +kernel
theorem dL_moves_66 : decode cL_moves 66 = .ok (.iload 6, 2) := by decide +kernel
theorem dL_moves_68 : decode cL_moves 68 = .ok (.aload_n 0, 1) := by decide +kernel
theorem dL_moves_69 : decode cL_moves 69 = .ok (.iload 4, 2) := by decide +kernel
theorem dL_moves_71 : decode cL_moves 71 = .ok (.iconst 3, 1) := by decide +kernel
theorem dL_moves_72 : decode cL_moves 72 = .ok (.invokestatic 94, 3) := by decide +kernel
theorem dL_moves_75 : decode cL_moves 75 = .ok (.iadd, 1) := by decide +kernel
theorem dL_moves_76 : decode cL_moves 76 = .ok (.bipush 60, 2) := by decide +kernel
theorem dL_moves_78 : decode cL_moves 78 = .ok (.if_icmp .gt 22, 3) := by decide +kernel
theorem dL_moves_81 : decode cL_moves 81 = .ok (.iload 7, 2) := by decide +kernel
theorem dL_moves_83 : decode cL_moves 83 = .ok (.aload_n 0, 1) := by decide +kernel
theorem dL_moves_84 : decode cL_moves 84 = .ok (.iload 4, 2) := by decide +kernel
theorem dL_moves_86 : decode cL_moves 86 = .ok (.iconst 4, 1) := by decide +kernel
theorem dL_moves_87 : decode cL_moves 87 = .ok (.invokestatic 94, 3) := by decide +kernel
theorem dL_moves_90 : decode cL_moves 90 = .ok (.iadd, 1) := by decide +kernel
theorem dL_moves_91 : decode cL_moves 91 = .ok (.bipush 80, 2) := by decide +kernel
theorem dL_moves_93 : decode cL_moves 93 = .ok (.if_icmp .gt 7, 3) := by decide +kernel
theorem dL_moves_96 : decode cL_moves 96 = .ok (.iconst 1, 1) := by decide +kernel
theorem dL_moves_97 : decode cL_moves 97 = .ok (.goto 4, 3) := by decide +kernel
theorem dL_moves_100 : decode cL_moves 100 = .ok (.iconst 0, 1) := by decide +kernel
theorem dL_moves_101 : decode cL_moves 101 = .ok (.istore 8, 2) := by decide +kernel
theorem dL_moves_103 : decode cL_moves 103 = .ok (.aload_n 0, 1) := by decide +kernel
theorem dL_moves_104 : decode cL_moves 104 = .ok (.iload 4, 2) := by decide +kernel
theorem dL_moves_106 : decode cL_moves 106 = .ok (.iload 6, 2) := by decide +kernel
theorem dL_moves_108 : decode cL_moves 108 = .ok (.iload 7, 2) := by decide +kernel
theorem dL_moves_110 : decode cL_moves 110 = .ok (.invokestatic 117, 3) := by decide +kernel
theorem dL_moves_113 : decode cL_moves 113 = .ok (.istore 9, 2) := by decide +kernel
theorem dL_moves_115 : decode cL_moves 115 = .ok (.aload_n 0, 1) := by decide +kernel
theorem dL_moves_116 : decode cL_moves 116 = .ok (.iload 4, 2) := by decide +kernel
theorem dL_moves_118 : decode cL_moves 118 = .ok (.iload 6, 2) := by decide +kernel
theorem dL_moves_120 : decode cL_moves 120 = .ok (.iload 7, 2) := by decide +kernel
theorem dL_moves_122 : decode cL_moves 122 = .ok (.invokestatic 114, 3) := by decide +kernel
theorem dL_moves_125 : decode cL_moves 125 = .ok (.istore 10, 2) := by decide +kernel
theorem dL_moves_127 : decode cL_moves 127 = .ok (.iload 8, 2) := by decide +kernel
theorem dL_moves_129 : decode cL_moves 129 = .ok (.ifCond .ne 23, 3) := by decide +kernel
theorem dL_moves_132 : decode cL_moves 132 = .ok (.iload 10, 2) := by decide +kernel
theorem dL_moves_134 : decode cL_moves 134 = .ok (.ldc 21, 2) := by decide +kernel
theorem dL_moves_136 : decode cL_moves 136 = .ok (.if_icmp .ne 14, 3) := by decide +kernel
theorem dL_moves_139 : decode cL_moves 139 = .ok (.iload 9, 2) := by decide +kernel
theorem dL_moves_141 : decode cL_moves 141 = .ok (.ldc 21, 2) := by decide +kernel
theorem dL_moves_143 : decode cL_moves 143 = .ok (.if_icmp .ne 7, 3) := by decide +kernel
theorem dL_moves_146 : decode cL_moves 146 = .ok (.iconst 1, 1) := by decide +kernel
theorem dL_moves_147 : decode cL_moves 147 = .ok (.goto 4, 3) := by decide +kernel
theorem dL_moves_150 : decode cL_moves 150 = .ok (.iconst 0, 1) := by decide +kernel
theorem dL_moves_151 : decode cL_moves 151 = .ok (.ireturn, 1) := by decide +kernel
theorem dL_moves_152 : decode cL_moves 152 = .ok (.iload 10, 2) := by decide +kernel
theorem dL_moves_154 : decode cL_moves 154 = .ok (.iload 9, 2) := by decide +kernel
theorem dL_moves_156 : decode cL_moves 156 = .ok (.if_icmp .ne 59, 3) := by decide +kernel
theorem dL_moves_159 : decode cL_moves 159 = .ok (.aload_n 0, 1) := by decide +kernel
theorem dL_moves_160 : decode cL_moves 160 = .ok (.aload_n 1, 1) := by decide +kernel
theorem dL_moves_161 : decode cL_moves 161 = .ok (.aload_n 3, 1) := by decide +kernel
theorem dL_moves_162 : decode cL_moves 162 = .ok (.aload_n 2, 1) := by decide +kernel
theorem dL_moves_163 : decode cL_moves 163 = .ok (.iload 4, 2) := by decide +kernel
theorem dL_moves_165 : decode cL_moves 165 = .ok (.iaload, 1) := by decide +kernel
theorem dL_moves_166 : decode cL_moves 166 = .ok (.iload 10, 2) := by decide +kernel
theorem dL_moves_168 : decode cL_moves 168 = .ok (.invokestatic 110, 3) := by decide +kernel
theorem dL_moves_171 : decode cL_moves 171 = .ok (.ifCond .eq 44, 3) := by decide +kernel
theorem dL_moves_174 : decode cL_moves 174 = .ok (.aload_n 0, 1) := by decide +kernel
theorem dL_moves_175 : decode cL_moves 175 = .ok (.iload 4, 2) := by decide +kernel
theorem dL_moves_177 : decode cL_moves 177 = .ok (.iconst 1, 1) := by decide +kernel
theorem dL_moves_178 : decode cL_moves 178 = .ok (.invokestatic 94, 3) := by decide +kernel
theorem dL_moves_181 : decode cL_moves 181 = .ok (.iload 6, 2) := by decide +kernel
theorem dL_moves_183 : decode cL_moves 183 = .ok (.if_icmp .ne 32, 3) := by decide +kernel
theorem dL_moves_186 : decode cL_moves 186 = .ok (.aload_n 0, 1) := by decide +kernel
theorem dL_moves_187 : decode cL_moves 187 = .ok (.iload 4, 2) := by decide +kernel
theorem dL_moves_189 : decode cL_moves 189 = .ok (.iconst 2, 1) := by decide +kernel
theorem dL_moves_190 : decode cL_moves 190 = .ok (.invokestatic 94, 3) := by decide +kernel
theorem dL_moves_193 : decode cL_moves 193 = .ok (.iload 7, 2) := by decide +kernel
theorem dL_moves_195 : decode cL_moves 195 = .ok (.if_icmp .ne 20, 3) := by decide +kernel
theorem dL_moves_198 : decode cL_moves 198 = .ok (.aload_n 0, 1) := by decide +kernel
theorem dL_moves_199 : decode cL_moves 199 = .ok (.iload 4, 2) := by decide +kernel
theorem dL_moves_201 : decode cL_moves 201 = .ok (.iload 6, 2) := by decide +kernel
theorem dL_moves_203 : decode cL_moves 203 = .ok (.iload 7, 2) := by decide +kernel
theorem dL_moves_205 : decode cL_moves 205 = .ok (.invokestatic 117, 3) := by decide +kernel
theorem dL_moves_208 : decode cL_moves 208 = .ok (.ifCond .ne 7, 3) := by decide +kernel
theorem dL_moves_211 : decode cL_moves 211 = .ok (.iconst 1, 1) := by decide +kernel
theorem dL_moves_212 : decode cL_moves 212 = .ok (.goto 4, 3) := by decide +kernel
theorem dL_moves_215 : decode cL_moves 215 = .ok (.iconst 0, 1) := by decide +kernel
theorem dL_moves_216 : decode cL_moves 216 = .ok (.ireturn, 1) := by decide +kernel
theorem dL_approves_0 : decode cL_approves 0 = .ok (.iload 4, 2) := by decide +kernel
theorem dL_approves_2 : decode cL_approves 2 = .ok (.bipush 6, 2) := by decide +kernel
theorem dL_approves_4 : decode cL_approves 4 = .ok (.invokestatic 104, 3) := by decide +kernel
theorem dL_approves_7 : decode cL_approves 7 = .ok (.istore 5, 2) := by decide +kernel
theorem dL_approves_9 : decode cL_approves 9 = .ok (.iload 4, 2) := by decide +kernel
theorem dL_approves_11 : decode cL_approves 11 = .ok (.iconst 3, 1) := by decide +kernel
theorem dL_approves_12 : decode cL_approves 12 = .ok (.ishr, 1) := by decide +kernel
theorem dL_approves_13 : decode cL_approves 13 = .ok (.iconst 5, 1) := by decide +kernel
theorem dL_approves_14 : decode cL_approves 14 = .ok (.invokestatic 104, 3) := by decide +kernel
theorem dL_approves_17 : decode cL_approves 17 = .ok (.istore 6, 2) := by decide +kernel
theorem dL_approves_19 : decode cL_approves 19 = .ok (.aload_n 0, 1) := by decide +kernel
theorem dL_approves_20 : decode cL_approves 20 = .ok (.iload 5, 2) := by decide +kernel
theorem dL_approves_22 : decode cL_approves 22 = .ok (.iload 6, 2) := by decide +kernel
theorem dL_approves_24 : decode cL_approves 24 = .ok (.invokestatic 127, 3) := by decide +kernel
theorem dL_approves_27 : decode cL_approves 27 = .ok (.istore 7, 2) := by decide +kernel
theorem dL_approves_29 : decode cL_approves 29 = .ok (.iload 7, 2) := by decide +kernel
theorem dL_approves_31 : decode cL_approves 31 = .ok (.ifCond .ge 33, 3) := by decide +kernel
theorem dL_approves_34 : decode cL_approves 34 = .ok (.iload 7, 2) := by decide +kernel
theorem dL_approves_36 : decode cL_approves 36 = .ok (.ldc 24, 2) := by decide +kernel
theorem dL_approves_38 : decode cL_approves 38 = .ok (.if_icmp .ne 24, 3) := by decide +kernel
theorem dL_approves_41 : decode cL_approves 41 = .ok (.aload_n 1, 1) := by decide +kernel
theorem dL_approves_42 : decode cL_approves 42 = .ok (.iconst 1, 1) := by decide +kernel
theorem dL_approves_43 : decode cL_approves 43 = .ok (.iaload, 1) := by decide +kernel
theorem dL_approves_44 : decode cL_approves 44 = .ok (.bipush 20, 2) := by decide +kernel
theorem dL_approves_46 : decode cL_approves 46 = .ok (.if_icmp .eq 12, 3) := by decide +kernel
theorem dL_approves_49 : decode cL_approves 49 = .ok (.aload_n 0, 1) := by decide +kernel
theorem dL_approves_50 : decode cL_approves 50 = .ok (.iload 6, 2) := by decide +kernel
theorem dL_approves_52 : decode cL_approves 52 = .ok (.invokestatic 80, 3) := by decide +kernel
theorem dL_approves_55 : decode cL_approves 55 = .ok (.ifCond .ne 7, 3) := by decide +kernel
theorem dL_approves_58 : decode cL_approves 58 = .ok (.iconst 1, 1) := by decide +kernel
theorem dL_approves_59 : decode cL_approves 59 = .ok (.goto 4, 3) := by decide +kernel
theorem dL_approves_62 : decode cL_approves 62 = .ok (.iconst 0, 1) := by decide +kernel
theorem dL_approves_63 : decode cL_approves 63 = .ok (.ireturn, 1) := by decide +kernel
theorem dL_approves_64 : decode cL_approves 64 = .ok (.aload_n 2, 1) := by decide +kernel
theorem dL_approves_65 : decode cL_approves 65 = .ok (.aload_n 1, 1) := by decide +kernel
theorem dL_approves_66 : decode cL_approves 66 = .ok (.iconst 1, 1) := by decide +kernel
theorem dL_approves_67 : decode cL_approves 67 = .ok (.iaload, 1) := by decide +kernel
theorem dL_approves_68 : decode cL_approves 68 = .ok (.iload 6, 2) := by decide +kernel
theorem dL_approves_70 : decode cL_approves 70 = .ok (.iastore, 1) := by decide +kernel
theorem dL_approves_71 : decode cL_approves 71 = .ok (.aload_n 3, 1) := by decide +kernel
theorem dL_approves_72 : decode cL_approves 72 = .ok (.aload_n 1, 1) := by decide +kernel
theorem dL_approves_73 : decode cL_approves 73 = .ok (.iconst 1, 1) := by decide +kernel
theorem dL_approves_74 : decode cL_approves 74 = .ok (.iaload, 1) := by decide +kernel
theorem dL_approves_75 : decode cL_approves 75 = .ok (.iload 5, 2) := by decide +kernel
theorem dL_approves_77 : decode cL_approves 77 = .ok (.iastore, 1) := by decide +kernel
theorem dL_approves_78 : decode cL_approves 78 = .ok (.aload_n 1, 1) := by decide +kernel
theorem dL_approves_79 : decode cL_approves 79 = .ok (.iconst 1, 1) := by decide +kernel
theorem dL_approves_80 : decode cL_approves 80 = .ok (.dup2, 1) := by decide +kernel
theorem dL_approves_81 : decode cL_approves 81 = .ok (.iaload, 1) := by decide +kernel
theorem dL_approves_82 : decode cL_approves 82 = .ok (.iconst 1, 1) := by decide +kernel
theorem dL_approves_83 : decode cL_approves 83 = .ok (.iadd, 1) := by decide +kernel
theorem dL_approves_84 : decode cL_approves 84 = .ok (.iastore, 1) := by decide +kernel
theorem dL_approves_85 : decode cL_approves 85 = .ok (.iload 7, 2) := by decide +kernel
theorem dL_approves_87 : decode cL_approves 87 = .ok (.aload_n 1, 1) := by decide +kernel
theorem dL_approves_88 : decode cL_approves 88 = .ok (.iconst 1, 1) := by decide +kernel
theorem dL_approves_89 : decode cL_approves 89 = .ok (.iaload, 1) := by decide +kernel
theorem dL_approves_90 : decode cL_approves 90 = .ok (.iconst 1, 1) := by decide +kernel
theorem dL_approves_91 : decode cL_approves 91 = .ok (.isub, 1) := by decide +kernel
theorem dL_approves_92 : decode cL_approves 92 = .ok (.if_icmp .ne 22, 3) := by decide +kernel
theorem dL_approves_95 : decode cL_approves 95 = .ok (.aload_n 0, 1) := by decide +kernel
theorem dL_approves_96 : decode cL_approves 96 = .ok (.iload 6, 2) := by decide +kernel
theorem dL_approves_98 : decode cL_approves 98 = .ok (.invokestatic 102, 3) := by decide +kernel
theorem dL_approves_101 : decode cL_approves 101 = .ok (.iload 5, 2) := by decide +kernel
theorem dL_approves_103 : decode cL_approves 103 = .ok (.ishr, 1) := by decide +kernel
theorem dL_approves_104 : decode cL_approves 104 = .ok (.iconst 1, 1) := by decide +kernel
theorem dL_approves_105 : decode cL_approves 105 = .ok (.iand, 1) := by decide +kernel
theorem dL_approves_106 : decode cL_approves 106 = .ok (.iconst 1, 1) := by decide +kernel
theorem dL_approves_107 : decode cL_approves 107 = .ok (.if_icmp .ne 7, 3) := by decide +kernel
theorem dL_approves_110 : decode cL_approves 110 = .ok (.iconst 1, 1) := by decide +kernel
theorem dL_approves_111 : decode cL_approves 111 = .ok (.goto 4, 3) := by decide +kernel
theorem dL_approves_114 : decode cL_approves 114 = .ok (.iconst 0, 1) := by decide +kernel
theorem dL_approves_115 : decode cL_approves 115 = .ok (.ireturn, 1) := by decide +kernel
theorem dL_acts_0 : decode cL_acts 0 = .ok (.iload 5, 2) := by decide +kernel
theorem dL_acts_2 : decode cL_acts 2 = .ok (.bipush 16, 2) := by decide +kernel
theorem dL_acts_4 : decode cL_acts 4 = .ok (.invokestatic 104, 3) := by decide +kernel
theorem dL_acts_7 : decode cL_acts 7 = .ok (.istore 7, 2) := by decide +kernel
theorem dL_acts_9 : decode cL_acts 9 = .ok (.iload 7, 2) := by decide +kernel
theorem dL_acts_11 : decode cL_acts 11 = .ok (.iconst 4, 1) := by decide +kernel
theorem dL_acts_12 : decode cL_acts 12 = .ok (.if_icmp .lt 9, 3) := by decide +kernel
theorem dL_acts_15 : decode cL_acts 15 = .ok (.aload_n 1, 1) := by decide +kernel
theorem dL_acts_16 : decode cL_acts 16 = .ok (.iconst 0, 1) := by decide +kernel
theorem dL_acts_17 : decode cL_acts 17 = .ok (.iaload, 1) := by decide +kernel
theorem dL_acts_18 : decode cL_acts 18 = .ok (.ifCond .ne 17, 3) := by decide +kernel
theorem dL_acts_21 : decode cL_acts 21 = .ok (.aload_n 0, 1) := by decide +kernel
theorem dL_acts_22 : decode cL_acts 22 = .ok (.aload_n 1, 1) := by decide +kernel
theorem dL_acts_23 : decode cL_acts 23 = .ok (.aload_n 2, 1) := by decide +kernel
theorem dL_acts_24 : decode cL_acts 24 = .ok (.aload_n 3, 1) := by decide +kernel
theorem dL_acts_25 : decode cL_acts 25 = .ok (.iload 5, 2) := by decide +kernel
theorem dL_acts_27 : decode cL_acts 27 = .ok (.iconst 4, 1) := by decide +kernel
theorem dL_acts_28 : decode cL_acts 28 = .ok (.ishr, 1) := by decide +kernel
theorem dL_acts_29 : decode cL_acts 29 = .ok (.iload 6, 2) := by decide +kernel
theorem dL_acts_31 : decode cL_acts 31 = .ok (.invokestatic 129, 3) := by decide +kernel
theorem dL_acts_34 : decode cL_acts 34 = .ok (.ireturn, 1) := by decide +kernel
theorem dL_acts_35 : decode cL_acts 35 = .ok (.iload 7, 2) := by decide +kernel
theorem dL_acts_37 : decode cL_acts 37 = .ok (.bipush 7, 2) := by decide +kernel
theorem dL_acts_39 : decode cL_acts 39 = .ok (.if_icmp .ge 23, 3) := by decide +kernel
theorem dL_acts_42 : decode cL_acts 42 = .ok (.aload_n 0, 1) := by decide +kernel
theorem dL_acts_43 : decode cL_acts 43 = .ok (.aload_n 1, 1) := by decide +kernel
theorem dL_acts_44 : decode cL_acts 44 = .ok (.aload_n 2, 1) := by decide +kernel
theorem dL_acts_45 : decode cL_acts 45 = .ok (.aload_n 3, 1) := by decide +kernel
theorem dL_acts_46 : decode cL_acts 46 = .ok (.iload 5, 2) := by decide +kernel
theorem dL_acts_48 : decode cL_acts 48 = .ok (.iconst 4, 1) := by decide +kernel
theorem dL_acts_49 : decode cL_acts 49 = .ok (.ishr, 1) := by decide +kernel
theorem dL_acts_50 : decode cL_acts 50 = .ok (.aload_n 1, 1) := by decide +kernel
theorem dL_acts_51 : decode cL_acts 51 = .ok (.iconst 0, 1) := by decide +kernel
theorem dL_acts_52 : decode cL_acts 52 = .ok (.iaload, 1) := by decide +kernel
theorem dL_acts_53 : decode cL_acts 53 = .ok (.invokestatic 104, 3) := by decide +kernel
theorem dL_acts_56 : decode cL_acts 56 = .ok (.iload 6, 2) := by decide +kernel
theorem dL_acts_58 : decode cL_acts 58 = .ok (.invokestatic 133, 3) := by decide +kernel
theorem dL_acts_61 : decode cL_acts 61 = .ok (.ireturn, 1) := by decide +kernel
theorem dL_acts_62 : decode cL_acts 62 = .ok (.iload 7, 2) := by decide +kernel
theorem dL_acts_64 : decode cL_acts 64 = .ok (.bipush 12, 2) := by decide +kernel
theorem dL_acts_66 : decode cL_acts 66 = .ok (.if_icmp .ge 33, 3) := by decide +kernel
theorem dL_acts_69 : decode cL_acts 69 = .ok (.aload_n 0, 1) := by decide +kernel
theorem dL_acts_70 : decode cL_acts 70 = .ok (.aload_n 1, 1) := by decide +kernel
theorem dL_acts_71 : decode cL_acts 71 = .ok (.aload_n 2, 1) := by decide +kernel
theorem dL_acts_72 : decode cL_acts 72 = .ok (.aload_n 3, 1) := by decide +kernel
theorem dL_acts_73 : decode cL_acts 73 = .ok (.iload 7, 2) := by decide +kernel
theorem dL_acts_75 : decode cL_acts 75 = .ok (.bipush 11, 2) := by decide +kernel
theorem dL_acts_77 : decode cL_acts 77 = .ok (.if_icmp .ne 7, 3) := by decide +kernel
theorem dL_acts_80 : decode cL_acts 80 = .ok (.iconst 3, 1) := by decide +kernel
theorem dL_acts_81 : decode cL_acts 81 = .ok (.goto 8, 3) := by decide +kernel
theorem dL_acts_84 : decode cL_acts 84 = .ok (.iload 7, 2) := by decide +kernel
theorem dL_acts_86 : decode cL_acts 86 = .ok (.bipush 7, 2) := by decide +kernel
theorem dL_acts_88 : decode cL_acts 88 = .ok (.isub, 1) := by decide +kernel
theorem dL_acts_89 : decode cL_acts 89 = .ok (.iload 5, 2) := by decide +kernel
theorem dL_acts_91 : decode cL_acts 91 = .ok (.iconst 4, 1) := by decide +kernel
theorem dL_acts_92 : decode cL_acts 92 = .ok (.ishr, 1) := by decide +kernel
theorem dL_acts_93 : decode cL_acts 93 = .ok (.iload 6, 2) := by decide +kernel
theorem dL_acts_95 : decode cL_acts 95 = .ok (.invokestatic 136, 3) := by decide +kernel
theorem dL_acts_98 : decode cL_acts 98 = .ok (.ireturn, 1) := by decide +kernel
theorem dL_acts_99 : decode cL_acts 99 = .ok (.iload 7, 2) := by decide +kernel
theorem dL_acts_101 : decode cL_acts 101 = .ok (.bipush 14, 2) := by decide +kernel
theorem dL_acts_103 : decode cL_acts 103 = .ok (.if_icmp .ge 14, 3) := by decide +kernel
theorem dL_acts_106 : decode cL_acts 106 = .ok (.aload_n 0, 1) := by decide +kernel
theorem dL_acts_107 : decode cL_acts 107 = .ok (.aload_n 1, 1) := by decide +kernel
theorem dL_acts_108 : decode cL_acts 108 = .ok (.aload_n 3, 1) := by decide +kernel
theorem dL_acts_109 : decode cL_acts 109 = .ok (.aload 4, 2) := by decide +kernel
theorem dL_acts_111 : decode cL_acts 111 = .ok (.iload 6, 2) := by decide +kernel
theorem dL_acts_113 : decode cL_acts 113 = .ok (.invokestatic 140, 3) := by decide +kernel
theorem dL_acts_116 : decode cL_acts 116 = .ok (.ireturn, 1) := by decide +kernel
theorem dL_acts_117 : decode cL_acts 117 = .ok (.aload_n 1, 1) := by decide +kernel
theorem dL_acts_118 : decode cL_acts 118 = .ok (.iconst 2, 1) := by decide +kernel
theorem dL_acts_119 : decode cL_acts 119 = .ok (.dup2, 1) := by decide +kernel
theorem dL_acts_120 : decode cL_acts 120 = .ok (.iaload, 1) := by decide +kernel
theorem dL_acts_121 : decode cL_acts 121 = .ok (.iconst 1, 1) := by decide +kernel
theorem dL_acts_122 : decode cL_acts 122 = .ok (.iadd, 1) := by decide +kernel
theorem dL_acts_123 : decode cL_acts 123 = .ok (.iastore, 1) := by decide +kernel
theorem dL_acts_124 : decode cL_acts 124 = .ok (.aload_n 1, 1) := by decide +kernel
theorem dL_acts_125 : decode cL_acts 125 = .ok (.iconst 2, 1) := by decide +kernel
theorem dL_acts_126 : decode cL_acts 126 = .ok (.iaload, 1) := by decide +kernel
theorem dL_acts_127 : decode cL_acts 127 = .ok (.iconst 2, 1) := by decide +kernel
theorem dL_acts_128 : decode cL_acts 128 = .ok (.if_icmp .gt 38, 3) := by decide +kernel
theorem dL_acts_131 : decode cL_acts 131 = .ok (.aload_n 0, 1) := by decide +kernel
theorem dL_acts_132 : decode cL_acts 132 = .ok (.aload_n 1, 1) := by decide +kernel
theorem dL_acts_133 : decode cL_acts 133 = .ok (.aload_n 2, 1) := by decide +kernel
theorem dL_acts_134 : decode cL_acts 134 = .ok (.iload 6, 2) := by decide +kernel
theorem dL_acts_136 : decode cL_acts 136 = .ok (.iconst 5, 1) := by decide +kernel
theorem dL_acts_137 : decode cL_acts 137 = .ok (.invokestatic 104, 3) := by decide +kernel
theorem dL_acts_140 : decode cL_acts 140 = .ok (.invokestatic 144, 3) := by decide +kernel
theorem dL_acts_143 : decode cL_acts 143 = .ok (.ifCond .eq 27, 3) := by decide +kernel
theorem dL_acts_146 : decode cL_acts 146 = .ok (.aload_n 0, 1) := by decide +kernel
theorem dL_acts_147 : decode cL_acts 147 = .ok (.aload_n 1, 1) := by decide +kernel
theorem dL_acts_148 : decode cL_acts 148 = .ok (.aload_n 3, 1) := by decide +kernel
theorem dL_acts_149 : decode cL_acts 149 = .ok (.aload 4, 2) := by decide +kernel
theorem dL_acts_151 : decode cL_acts 151 = .ok (.invokestatic 148, 3) := by decide +kernel
theorem dL_acts_154 : decode cL_acts 154 = .ok (.ifCond .eq 16, 3) := by decide +kernel
theorem dL_acts_157 : decode cL_acts 157 = .ok (.aload_n 0, 1) := by decide +kernel
theorem dL_acts_158 : decode cL_acts 158 = .ok (.aload_n 1, 1) := by decide +kernel
theorem dL_acts_159 : decode cL_acts 159 = .ok (.aload_n 2, 1) := by decide +kernel
theorem dL_acts_160 : decode cL_acts 160 = .ok (.invokestatic 152, 3) := by decide +kernel
theorem dL_acts_163 : decode cL_acts 163 = .ok (.ifCond .eq 7, 3) := by decide +kernel
theorem dL_acts_166 : decode cL_acts 166 = .ok (.iconst 1, 1) := by decide +kernel
theorem dL_acts_167 : decode cL_acts 167 = .ok (.goto 4, 3) := by decide +kernel
theorem dL_acts_170 : decode cL_acts 170 = .ok (.iconst 0, 1) := by decide +kernel
theorem dL_acts_171 : decode cL_acts 171 = .ok (.ireturn, 1) := by decide +kernel
