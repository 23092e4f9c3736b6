theorem dX3_deed_117 : decode cX3_deed 117 = .ok (.iload 5, 2) := by decide +kernel
theorem dX3_deed_119 : decode cX3_deed 119 = .ok (.iload 6, 2) := by decide +kernel
theorem dX3_deed_121 : decode cX3_deed 121 = .ok (.idiv, 1) := by decide +kernel
theorem dX3_deed_122 : decode cX3_deed 122 = .ok (.invokevirtual 124, 3) := by decide +kernel
theorem dX3_deed_125 : decode cX3_deed 125 = .ok (.iconst 0, 1) := by decide +kernel
theorem dX3_deed_126 : decode cX3_deed 126 = .ok (.ireturn, 1) := by decide +kernel
theorem dX3_deed_111 : decode cX3_deed 111 = .ok (.iload 5, 2) := by decide +kernel
theorem dX3_deed_113 : decode cX3_deed 113 = .ok (.ineg, 1) := by decide +kernel
theorem dX3_deed_114 : decode cX3_deed 114 = .ok (.goto 8, 3) := by decide +kernel
theorem dX3_deed_100 : decode cX3_deed 100 = .ok (.iconst 3, 1) := by decide +kernel
theorem dX3_deed_101 : decode cX3_deed 101 = .ok (.ireturn, 1) := by decide +kernel
theorem dX3_deed_127 : decode cX3_deed 127 = .ok (.iload 4, 2) := by decide +kernel
theorem dX3_deed_129 : decode cX3_deed 129 = .ok (.ifCond .lt 15, 3) := by decide +kernel
theorem dX3_deed_144 : decode cX3_deed 144 = .ok (.iconst 4, 1) := by decide +kernel
theorem dX3_deed_145 : decode cX3_deed 145 = .ok (.ireturn, 1) := by decide +kernel
theorem dX3_deed_132 : decode cX3_deed 132 = .ok (.aload_n 0, 1) := by decide +kernel
theorem dX3_deed_133 : decode cX3_deed 133 = .ok (.getfield 57, 3) := by decide +kernel
theorem dX3_deed_136 : decode cX3_deed 136 = .ok (.iconst 3, 1) := by decide +kernel
theorem dX3_deed_137 : decode cX3_deed 137 = .ok (.iload 4, 2) := by decide +kernel
theorem dX3_deed_139 : decode cX3_deed 139 = .ok (.imul, 1) := by decide +kernel
theorem dX3_deed_140 : decode cX3_deed 140 = .ok (.baload, 1) := by decide +kernel
theorem dX3_deed_141 : decode cX3_deed 141 = .ok (.ifCond .ne 5, 3) := by decide +kernel
theorem dX3_deed_146 : decode cX3_deed 146 = .ok (.aload_n 0, 1) := by decide +kernel
theorem dX3_deed_147 : decode cX3_deed 147 = .ok (.iload_n 1, 1) := by decide +kernel
theorem dX3_deed_148 : decode cX3_deed 148 = .ok (.iconst 0, 1) := by decide +kernel
theorem dX3_deed_149 : decode cX3_deed 149 = .ok (.aload_n 0, 1) := by decide +kernel
theorem dX3_deed_150 : decode cX3_deed 150 = .ok (.getfield 51, 3) := by decide +kernel
theorem dX3_deed_153 : decode cX3_deed 153 = .ok (.iconst 3, 1) := by decide +kernel
theorem dX3_deed_154 : decode cX3_deed 154 = .ok (.iload 4, 2) := by decide +kernel
theorem dX3_deed_156 : decode cX3_deed 156 = .ok (.imul, 1) := by decide +kernel
theorem dX3_deed_157 : decode cX3_deed 157 = .ok (.iaload, 1) := by decide +kernel
theorem dX3_deed_158 : decode cX3_deed 158 = .ok (.iconst 1, 1) := by decide +kernel
theorem dX3_deed_159 : decode cX3_deed 159 = .ok (.iadd, 1) := by decide +kernel
theorem dX3_deed_160 : decode cX3_deed 160 = .ok (.invokevirtual 124, 3) := by decide +kernel
theorem dX3_deed_163 : decode cX3_deed 163 = .ok (.iconst 0, 1) := by decide +kernel
theorem dX3_deed_164 : decode cX3_deed 164 = .ok (.ireturn, 1) := by decide +kernel
theorem dX3_deed_165 : decode cX3_deed 165 = .ok (.aload_n 0, 1) := by decide +kernel
theorem dX3_deed_166 : decode cX3_deed 166 = .ok (.getfield 23, 3) := by decide +kernel
theorem dX3_deed_169 : decode cX3_deed 169 = .ok (.iload_n 3, 1) := by decide +kernel
theorem dX3_deed_170 : decode cX3_deed 170 = .ok (.dup2, 1) := by decide +kernel
theorem dX3_deed_171 : decode cX3_deed 171 = .ok (.laload, 1) := by decide +kernel
theorem dX3_deed_172 : decode cX3_deed 172 = .ok (.lconst 1, 1) := by decide +kernel
theorem dX3_deed_173 : decode cX3_deed 173 = .ok (.ladd, 1) := by decide +kernel
theorem dX3_deed_174 : decode cX3_deed 174 = .ok (.lastore, 1) := by decide +kernel
theorem dX3_deed_175 : decode cX3_deed 175 = .ok (.aload_n 0, 1) := by decide +kernel
theorem dX3_deed_176 : decode cX3_deed 176 = .ok (.iload_n 1, 1) := by decide +kernel
theorem dX3_deed_177 : decode cX3_deed 177 = .ok (.iconst 2, 1) := by decide +kernel
theorem dX3_deed_178 : decode cX3_deed 178 = .ok (.aload_n 0, 1) := by decide +kernel
theorem dX3_deed_179 : decode cX3_deed 179 = .ok (.getfield 23, 3) := by decide +kernel
theorem dX3_deed_182 : decode cX3_deed 182 = .ok (.iload_n 3, 1) := by decide +kernel
theorem dX3_deed_183 : decode cX3_deed 183 = .ok (.laload, 1) := by decide +kernel
theorem dX3_deed_184 : decode cX3_deed 184 = .ok (.l2i, 1) := by decide +kernel
theorem dX3_deed_185 : decode cX3_deed 185 = .ok (.invokevirtual 124, 3) := by decide +kernel
theorem dX3_deed_188 : decode cX3_deed 188 = .ok (.iconst 0, 1) := by decide +kernel
theorem dX3_deed_189 : decode cX3_deed 189 = .ok (.ireturn, 1) := by decide +kernel
theorem dX3_deed_190 : decode cX3_deed 190 = .ok (.aload_n 0, 1) := by decide +kernel
theorem dX3_deed_191 : decode cX3_deed 191 = .ok (.iload_n 1, 1) := by decide +kernel
theorem dX3_deed_192 : decode cX3_deed 192 = .ok (.iconst 0, 1) := by decide +kernel
theorem dX3_deed_193 : decode cX3_deed 193 = .ok (.aload_n 0, 1) := by decide +kernel
theorem dX3_deed_194 : decode cX3_deed 194 = .ok (.getfield 30, 3) := by decide +kernel
theorem dX3_deed_197 : decode cX3_deed 197 = .ok (.iconst 4, 1) := by decide +kernel
theorem dX3_deed_198 : decode cX3_deed 198 = .ok (.iload_n 1, 1) := by decide +kernel
theorem dX3_deed_199 : decode cX3_deed 199 = .ok (.imul, 1) := by decide +kernel
theorem dX3_deed_200 : decode cX3_deed 200 = .ok (.iconst 3, 1) := by decide +kernel
theorem dX3_deed_201 : decode cX3_deed 201 = .ok (.iadd, 1) := by decide +kernel
theorem dX3_deed_202 : decode cX3_deed 202 = .ok (.iaload, 1) := by decide +kernel
theorem dX3_deed_203 : decode cX3_deed 203 = .ok (.iconst 1, 1) := by decide +kernel
theorem dX3_deed_204 : decode cX3_deed 204 = .ok (.if_icmp .ne 9, 3) := by decide +kernel
theorem dX3_deed_213 : decode cX3_deed 213 = .ok (.iload 5, 2) := by decide +kernel
theorem dX3_deed_215 : decode cX3_deed 215 = .ok (.invokevirtual 124, 3) := by decide +kernel
theorem dX3_deed_218 : decode cX3_deed 218 = .ok (.iconst 0, 1) := by decide +kernel
theorem dX3_deed_219 : decode cX3_deed 219 = .ok (.ireturn, 1) := by decide +kernel
theorem dX3_deed_207 : decode cX3_deed 207 = .ok (.iload 5, 2) := by decide +kernel
theorem dX3_deed_209 : decode cX3_deed 209 = .ok (.ineg, 1) := by decide +kernel
theorem dX3_deed_210 : decode cX3_deed 210 = .ok (.goto 5, 3) := by decide +kernel
theorem dX3_deed_220 : decode cX3_deed 220 = .ok (.aload_n 0, 1) := by decide +kernel
theorem dX3_deed_221 : decode cX3_deed 221 = .ok (.dup, 1) := by decide +kernel
theorem dX3_deed_222 : decode cX3_deed 222 = .ok (.getfield 96, 3) := by decide +kernel
theorem dX3_deed_225 : decode cX3_deed 225 = .ok (.aload_n 0, 1) := by decide +kernel
theorem dX3_deed_226 : decode cX3_deed 226 = .ok (.getfield 96, 3) := by decide +kernel
theorem dX3_deed_229 : decode cX3_deed 229 = .ok (.bipush 40, 2) := by decide +kernel
theorem dX3_deed_231 : decode cX3_deed 231 = .ok (.if_icmp .ge 7, 3) := by decide +kernel
theorem dX3_deed_238 : decode cX3_deed 238 = .ok (.iconst 0, 1) := by decide +kernel
theorem dX3_deed_239 : decode cX3_deed 239 = .ok (.iadd, 1) := by decide +kernel
theorem dX3_deed_240 : decode cX3_deed 240 = .ok (.putfield 96, 3) := by decide +kernel
theorem dX3_deed_243 : decode cX3_deed 243 = .ok (.iconst 0, 1) := by decide +kernel
theorem dX3_deed_244 : decode cX3_deed 244 = .ok (.ireturn, 1) := by decide +kernel
theorem dX3_deed_234 : decode cX3_deed 234 = .ok (.iconst 1, 1) := by decide +kernel
theorem dX3_deed_235 : decode cX3_deed 235 = .ok (.goto 4, 3) := by decide +kernel
theorem dX3_deed_245 : decode cX3_deed 245 = .ok (.iconst 0, 1) := by decide +kernel
theorem dX3_deed_246 : decode cX3_deed 246 = .ok (.ireturn, 1) := by decide +kernel
theorem dX3_runOne_0 : decode cX3_runOne 0 = .ok (.aload_n 0, 1) := by decide +kernel
theorem dX3_runOne_1 : decode cX3_runOne 1 = .ok (.aload_n 0, 1) := by decide +kernel
theorem dX3_runOne_2 : decode cX3_runOne 2 = .ok (.getfield 27, 3) := by decide +kernel
theorem dX3_runOne_5 : decode cX3_runOne 5 = .ok (.iload_n 1, 1) := by decide +kernel
theorem dX3_runOne_6 : decode cX3_runOne 6 = .ok (.iaload, 1) := by decide +kernel
theorem dX3_runOne_7 : decode cX3_runOne 7 = .ok (.invokevirtual 91, 3) := by decide +kernel
theorem dX3_runOne_10 : decode cX3_runOne 10 = .ok (.istore_n 2, 1) := by decide +kernel
theorem dX3_runOne_11 : decode cX3_runOne 11 = .ok (.aload_n 0, 1) := by decide +kernel
theorem dX3_runOne_12 : decode cX3_runOne 12 = .ok (.getfield 30, 3) := by decide +kernel
theorem dX3_runOne_15 : decode cX3_runOne 15 = .ok (.iconst 4, 1) := by decide +kernel
theorem dX3_runOne_16 : decode cX3_runOne 16 = .ok (.iload_n 1, 1) := by decide +kernel
theorem dX3_runOne_17 : decode cX3_runOne 17 = .ok (.imul, 1) := by decide +kernel
theorem dX3_runOne_18 : decode cX3_runOne 18 = .ok (.iconst 2, 1) := by decide +kernel
theorem dX3_runOne_19 : decode cX3_runOne 19 = .ok (.iadd, 1) := by decide +kernel
theorem dX3_runOne_20 : decode cX3_runOne 20 = .ok (.iaload, 1) := by decide +kernel
theorem dX3_runOne_21 : decode cX3_runOne 21 = .ok (.iconst 1, 1) := by decide +kernel
theorem dX3_runOne_22 : decode cX3_runOne 22 = .ok (.isub, 1) := by decide +kernel
theorem dX3_runOne_23 : decode cX3_runOne 23 = .ok (.istore_n 3, 1) := by decide +kernel
theorem dX3_runOne_24 : decode cX3_runOne 24 = .ok (.iload_n 3, 1) := by decide +kernel
theorem dX3_runOne_25 : decode cX3_runOne 25 = .ok (.ifCond .lt 30, 3) := by decide +kernel
theorem dX3_runOne_55 : decode cX3_runOne 55 = .ok (.iconst 0, 1) := by decide +kernel
theorem dX3_runOne_56 : decode cX3_runOne 56 = .ok (.istore 4, 2) := by decide +kernel
theorem dX3_runOne_58 : decode cX3_runOne 58 = .ok (.iload 4, 2) := by decide +kernel
theorem dX3_runOne_60 : decode cX3_runOne 60 = .ok (.bipush 8, 2) := by decide +kernel
theorem dX3_runOne_62 : decode cX3_runOne 62 = .ok (.if_icmp .ge 73, 3) := by decide +kernel
theorem dX3_runOne_135 : decode cX3_runOne 135 = .ok (.return_, 1) := by decide +kernel
theorem dX3_runOne_65 : decode cX3_runOne 65 = .ok (.aload_n 0, 1) := by decide +kernel
theorem dX3_runOne_66 : decode cX3_runOne 66 = .ok (.getfield 13, 3) := by decide +kernel
theorem dX3_runOne_69 : decode cX3_runOne 69 = .ok (.aload_n 0, 1) := by decide +kernel
theorem dX3_runOne_70 : decode cX3_runOne 70 = .ok (.getfield 27, 3) := by decide +kernel
theorem dX3_runOne_73 : decode cX3_runOne 73 = .ok (.iload_n 1, 1) := by decide +kernel
theorem dX3_runOne_74 : decode cX3_runOne 74 = .ok (.iaload, 1) := by decide +kernel
theorem dX3_runOne_75 : decode cX3_runOne 75 = .ok (.iaload, 1) := by decide +kernel
theorem dX3_runOne_76 : decode cX3_runOne 76 = .ok (.iload 4, 2) := by decide +kernel
theorem dX3_runOne_78 : decode cX3_runOne 78 = .ok (.ishr, 1) := by decide +kernel
theorem dX3_runOne_79 : decode cX3_runOne 79 = .ok (.iconst 1, 1) := by decide +kernel
theorem dX3_runOne_80 : decode cX3_runOne 80 = .ok (.iand, 1) := by decide +kernel
theorem dX3_runOne_81 : decode cX3_runOne 81 = .ok (.ifCond .ne 6, 3) := by decide +kernel
theorem dX3_runOne_87 : decode cX3_runOne 87 = .ok (.aload_n 0, 1) := by decide +kernel
theorem dX3_runOne_88 : decode cX3_runOne 88 = .ok (.iload_n 1, 1) := by decide +kernel
theorem dX3_runOne_89 : decode cX3_runOne 89 = .ok (.invokevirtual 113, 3) := by decide +kernel
theorem dX3_runOne_92 : decode cX3_runOne 92 = .ok (.ifCond .eq 15, 3) := by decide +kernel
theorem dX3_runOne_107 : decode cX3_runOne 107 = .ok (.iconst 5, 1) := by decide +kernel
theorem dX3_runOne_108 : decode cX3_runOne 108 = .ok (.istore 5, 2) := by decide +kernel
theorem dX3_runOne_110 : decode cX3_runOne 110 = .ok (.iload 5, 2) := by decide +kernel
theorem dX3_runOne_112 : decode cX3_runOne 112 = .ok (.ifCond .ne 6, 3) := by decide +kernel
theorem dX3_runOne_118 : decode cX3_runOne 118 = .ok (.aload_n 0, 1) := by decide +kernel
theorem dX3_runOne_119 : decode cX3_runOne 119 = .ok (.iload_n 1, 1) := by decide +kernel
theorem dX3_runOne_120 : decode cX3_runOne 120 = .ok (.iload 5, 2) := by decide +kernel
theorem dX3_runOne_122 : decode cX3_runOne 122 = .ok (.iload 4, 2) := by decide +kernel
theorem dX3_runOne_124 : decode cX3_runOne 124 = .ok (.iload_n 1, 1) := by decide +kernel
theorem dX3_runOne_125 : decode cX3_runOne 125 = .ok (.invokevirtual 105, 3) := by decide +kernel
theorem dX3_runOne_128 : decode cX3_runOne 128 = .ok (.return_, 1) := by decide +kernel
theorem dX3_runOne_115 : decode cX3_runOne 115 = .ok (.goto 14, 3) := by decide +kernel
theorem dX3_runOne_129 : decode cX3_runOne 129 = .ok (.iinc 4 1, 3) := by decide +kernel
theorem dX3_runOne_132 : decode cX3_runOne 132 = .ok (.goto (-74), 3) := by decide +kernel
theorem dX3_runOne_95 : decode cX3_runOne 95 = .ok (.aload_n 0, 1) := by decide +kernel
theorem dX3_runOne_96 : decode cX3_runOne 96 = .ok (.iload_n 1, 1) := by decide +kernel
theorem dX3_runOne_97 : decode cX3_runOne 97 = .ok (.iload 4, 2) := by decide +kernel
theorem dX3_runOne_99 : decode cX3_runOne 99 = .ok (.iload_n 2, 1) := by decide +kernel
theorem dX3_runOne_100 : decode cX3_runOne 100 = .ok (.iload_n 3, 1) := by decide +kernel
theorem dX3_runOne_101 : decode cX3_runOne 101 = .ok (.invokevirtual 116, 3) := by decide +kernel
theorem dX3_runOne_104 : decode cX3_runOne 104 = .ok (.goto 4, 3) := by decide +kernel
theorem dX3_runOne_84 : decode cX3_runOne 84 = .ok (.goto 45, 3) := by decide +kernel
theorem dX3_runOne_28 : decode cX3_runOne 28 = .ok (.aload_n 0, 1) := by decide +kernel
theorem dX3_runOne_29 : decode cX3_runOne 29 = .ok (.getfield 33, 3) := by decide +kernel
theorem dX3_runOne_32 : decode cX3_runOne 32 = .ok (.iload_n 3, 1) := by decide +kernel
theorem dX3_runOne_33 : decode cX3_runOne 33 = .ok (.iaload, 1) := by decide +kernel
theorem dX3_runOne_34 : decode cX3_runOne 34 = .ok (.ifCond .le 21, 3) := by decide +kernel
theorem dX3_runOne_37 : decode cX3_runOne 37 = .ok (.aload_n 0, 1) := by decide +kernel
theorem dX3_runOne_38 : decode cX3_runOne 38 = .ok (.iload_n 1, 1) := by decide +kernel
theorem dX3_runOne_39 : decode cX3_runOne 39 = .ok (.bipush 6, 2) := by decide +kernel
theorem dX3_runOne_41 : decode cX3_runOne 41 = .ok (.bipush 8, 2) := by decide +kernel
theorem dX3_runOne_43 : decode cX3_runOne 43 = .ok (.aload_n 0, 1) := by decide +kernel
theorem dX3_runOne_44 : decode cX3_runOne 44 = .ok (.getfield 39, 3) := by decide +kernel
theorem dX3_runOne_47 : decode cX3_runOne 47 = .ok (.iload_n 3, 1) := by decide +kernel
theorem dX3_runOne_48 : decode cX3_runOne 48 = .ok (.iaload, 1) := by decide +kernel
theorem dX3_runOne_49 : decode cX3_runOne 49 = .ok (.iconst 1, 1) := by decide +kernel
theorem dX3_runOne_50 : decode cX3_runOne 50 = .ok (.isub, 1) := by decide +kernel
theorem dX3_runOne_51 : decode cX3_runOne 51 = .ok (.invokevirtual 105, 3) := by decide +kernel
theorem dX3_runOne_54 : decode cX3_runOne 54 = .ok (.return_, 1) := by decide +kernel
theorem dX3_runChain_0 : decode cX3_runChain 0 = .ok (.iconst 0, 1) := by decide +kernel
theorem dX3_runChain_1 : decode cX3_runChain 1 = .ok (.istore_n 2, 1) := by decide +kernel
theorem dX3_runChain_2 : decode cX3_runChain 2 = .ok (.iload_n 1, 1) := by decide +kernel
theorem dX3_runChain_3 : decode cX3_runChain 3 = .ok (.istore_n 3, 1) := by decide +kernel
theorem dX3_runChain_4 : decode cX3_runChain 4 = .ok (.iconst 1, 1) := by decide +kernel
theorem dX3_runChain_5 : decode cX3_runChain 5 = .ok (.istore 4, 2) := by decide +kernel
theorem dX3_runChain_7 : decode cX3_runChain 7 = .ok (.iload 4, 2) := by decide +kernel
theorem dX3_runChain_9 : decode cX3_runChain 9 = .ok (.ifCond .eq 85, 3) := by decide +kernel
theorem dX3_runChain_94 : decode cX3_runChain 94 = .ok (.iload_n 2, 1) := by decide +kernel
theorem dX3_runChain_95 : decode cX3_runChain 95 = .ok (.iconst 1, 1) := by decide +kernel
theorem dX3_runChain_96 : decode cX3_runChain 96 = .ok (.isub, 1) := by decide +kernel
theorem dX3_runChain_97 : decode cX3_runChain 97 = .ok (.istore 5, 2) := by decide +kernel
theorem dX3_runChain_99 : decode cX3_runChain 99 = .ok (.iload 5, 2) := by decide +kernel
theorem dX3_runChain_101 : decode cX3_runChain 101 = .ok (.ifCond .lt 35, 3) := by decide +kernel
theorem dX3_runChain_136 : decode cX3_runChain 136 = .ok (.return_, 1) := by decide +kernel
theorem dX3_runChain_104 : decode cX3_runChain 104 = .ok (.aload_n 0, 1) := by decide +kernel
theorem dX3_runChain_105 : decode cX3_runChain 105 = .ok (.getfield 33, 3) := by decide +kernel
theorem dX3_runChain_108 : decode cX3_runChain 108 = .ok (.aload_n 0, 1) := by decide +kernel
theorem dX3_runChain_109 : decode cX3_runChain 109 = .ok (.getfield 48, 3) := by decide +kernel
theorem dX3_runChain_112 : decode cX3_runChain 112 = .ok (.iload 5, 2) := by decide +kernel
theorem dX3_runChain_114 : decode cX3_runChain 114 = .ok (.iaload, 1) := by decide +kernel
theorem dX3_runChain_115 : decode cX3_runChain 115 = .ok (.iaload, 1) := by decide +kernel
theorem dX3_runChain_116 : decode cX3_runChain 116 = .ok (.ifCond .ne 14, 3) := by decide +kernel
theorem dX3_runChain_130 : decode cX3_runChain 130 = .ok (.iinc 5 (-1), 3) := by decide +kernel
theorem dX3_runChain_133 : decode cX3_runChain 133 = .ok (.goto (-34), 3) := by decide +kernel
theorem dX3_runChain_119 : decode cX3_runChain 119 = .ok (.aload_n 0, 1) := by decide +kernel
theorem dX3_runChain_120 : decode cX3_runChain 120 = .ok (.aload_n 0, 1) := by decide +kernel
theorem dX3_runChain_121 : decode cX3_runChain 121 = .ok (.getfield 48, 3) := by decide +kernel
theorem dX3_runChain_124 : decode cX3_runChain 124 = .ok (.iload 5, 2) := by decide +kernel
theorem dX3_runChain_126 : decode cX3_runChain 126 = .ok (.iaload, 1) := by decide +kernel
theorem dX3_runChain_127 : decode cX3_runChain 127 = .ok (.invokevirtual 109, 3) := by decide +kernel
theorem dX3_runChain_12 : decode cX3_runChain 12 = .ok (.aload_n 0, 1) := by decide +kernel
theorem dX3_runChain_13 : decode cX3_runChain 13 = .ok (.getfield 54, 3) := by decide +kernel
theorem dX3_runChain_16 : decode cX3_runChain 16 = .ok (.iload_n 3, 1) := by decide +kernel
theorem dX3_runChain_17 : decode cX3_runChain 17 = .ok (.iconst 1, 1) := by decide +kernel
theorem dX3_runChain_18 : decode cX3_runChain 18 = .ok (.bastore, 1) := by decide +kernel
theorem dX3_runChain_19 : decode cX3_runChain 19 = .ok (.aload_n 0, 1) := by decide +kernel
theorem dX3_runChain_20 : decode cX3_runChain 20 = .ok (.getfield 48, 3) := by decide +kernel
theorem dX3_runChain_23 : decode cX3_runChain 23 = .ok (.iload_n 2, 1) := by decide +kernel
theorem dX3_runChain_24 : decode cX3_runChain 24 = .ok (.iload_n 3, 1) := by decide +kernel
theorem dX3_runChain_25 : decode cX3_runChain 25 = .ok (.iastore, 1) := by decide +kernel
theorem dX3_runChain_26 : decode cX3_runChain 26 = .ok (.iinc 2 1, 3) := by decide +kernel
theorem dX3_runChain_29 : decode cX3_runChain 29 = .ok (.aload_n 0, 1) := by decide +kernel
theorem dX3_runChain_30 : decode cX3_runChain 30 = .ok (.aload_n 0, 1) := by decide +kernel
theorem dX3_runChain_31 : decode cX3_runChain 31 = .ok (.getfield 27, 3) := by decide +kernel
theorem dX3_runChain_34 : decode cX3_runChain 34 = .ok (.iload_n 3, 1) := by decide +kernel
theorem dX3_runChain_35 : decode cX3_runChain 35 = .ok (.iaload, 1) := by decide +kernel
theorem dX3_runChain_36 : decode cX3_runChain 36 = .ok (.invokevirtual 91, 3) := by decide +kernel
theorem dX3_runChain_39 : decode cX3_runChain 39 = .ok (.iconst (-1), 1) := by decide +kernel
theorem dX3_runChain_40 : decode cX3_runChain 40 = .ok (.if_icmp .ne 18, 3) := by decide +kernel
theorem dX3_runChain_58 : decode cX3_runChain 58 = .ok (.aload_n 0, 1) := by decide +kernel
theorem dX3_runChain_59 : decode cX3_runChain 59 = .ok (.getfield 30, 3) := by decide +kernel
theorem dX3_runChain_62 : decode cX3_runChain 62 = .ok (.iconst 4, 1) := by decide +kernel
theorem dX3_runChain_63 : decode cX3_runChain 63 = .ok (.iload_n 3, 1) := by decide +kernel
theorem dX3_runChain_64 : decode cX3_runChain 64 = .ok (.imul, 1) := by decide +kernel
theorem dX3_runChain_65 : decode cX3_runChain 65 = .ok (.iconst 2, 1) := by decide +kernel
theorem dX3_runChain_66 : decode cX3_runChain 66 = .ok (.iadd, 1) := by decide +kernel
theorem dX3_runChain_67 : decode cX3_runChain 67 = .ok (.iaload, 1) := by decide +kernel
theorem dX3_runChain_68 : decode cX3_runChain 68 = .ok (.iconst 1, 1) := by decide +kernel
theorem dX3_runChain_69 : decode cX3_runChain 69 = .ok (.isub, 1) := by decide +kernel
theorem dX3_runChain_70 : decode cX3_runChain 70 = .ok (.istore_n 3, 1) := by decide +kernel
theorem dX3_runChain_71 : decode cX3_runChain 71 = .ok (.iload_n 3, 1) := by decide +kernel
theorem dX3_runChain_72 : decode cX3_runChain 72 = .ok (.ifCond .lt 16, 3) := by decide +kernel
theorem dX3_runChain_88 : decode cX3_runChain 88 = .ok (.iconst 0, 1) := by decide +kernel
theorem dX3_runChain_89 : decode cX3_runChain 89 = .ok (.istore 4, 2) := by decide +kernel
theorem dX3_runChain_91 : decode cX3_runChain 91 = .ok (.goto (-84), 3) := by decide +kernel
theorem dX3_runChain_75 : decode cX3_runChain 75 = .ok (.aload_n 0, 1) := by decide +kernel
theorem dX3_runChain_76 : decode cX3_runChain 76 = .ok (.getfield 54, 3) := by decide +kernel
theorem dX3_runChain_79 : decode cX3_runChain 79 = .ok (.iload_n 3, 1) := by decide +kernel
theorem dX3_runChain_80 : decode cX3_runChain 80 = .ok (.baload, 1) := by decide +kernel
theorem dX3_runChain_81 : decode cX3_runChain 81 = .ok (.ifCond .ne 7, 3) := by decide +kernel
theorem dX3_runChain_84 : decode cX3_runChain 84 = .ok (.iconst 1, 1) := by decide +kernel
theorem dX3_runChain_85 : decode cX3_runChain 85 = .ok (.goto 4, 3) := by decide +kernel
theorem dX3_runChain_43 : decode cX3_runChain 43 = .ok (.aload_n 0, 1) := by decide +kernel
theorem dX3_runChain_44 : decode cX3_runChain 44 = .ok (.iload_n 3, 1) := by decide +kernel
theorem dX3_runChain_45 : decode cX3_runChain 45 = .ok (.iconst 1, 1) := by decide +kernel
theorem dX3_runChain_46 : decode cX3_runChain 46 = .ok (.bipush 8, 2) := by decide +kernel
theorem dX3_runChain_48 : decode cX3_runChain 48 = .ok (.iload_n 3, 1) := by decide +kernel
theorem dX3_runChain_49 : decode cX3_runChain 49 = .ok (.invokevirtual 105, 3) := by decide +kernel
theorem dX3_runChain_52 : decode cX3_runChain 52 = .ok (.iconst 0, 1) := by decide +kernel
theorem dX3_runChain_53 : decode cX3_runChain 53 = .ok (.istore 4, 2) := by decide +kernel
theorem dX3_runChain_55 : decode cX3_runChain 55 = .ok (.goto (-48), 3) := by decide +kernel
theorem dX3_run_0 : decode cX3_run 0 = .ok (.aload_n 0, 1) := by decide +kernel
theorem dX3_run_1 : decode cX3_run 1 = .ok (.iconst 0, 1) := by decide +kernel
theorem dX3_run_2 : decode cX3_run 2 = .ok (.putfield 71, 3) := by decide +kernel
theorem dX3_run_5 : decode cX3_run 5 = .ok (.aload_n 0, 1) := by decide +kernel
theorem dX3_run_6 : decode cX3_run 6 = .ok (.iload_n 1, 1) := by decide +kernel
theorem dX3_run_7 : decode cX3_run 7 = .ok (.invokevirtual 99, 3) := by decide +kernel
theorem dX3_run_10 : decode cX3_run 10 = .ok (.ifCond .ne 5, 3) := by decide +kernel
theorem dX3_run_15 : decode cX3_run 15 = .ok (.aload_n 0, 1) := by decide +kernel
theorem dX3_run_16 : decode cX3_run 16 = .ok (.getfield 54, 3) := by decide +kernel
theorem dX3_run_19 : decode cX3_run 19 = .ok (.iload_n 1, 1) := by decide +kernel
theorem dX3_run_20 : decode cX3_run 20 = .ok (.baload, 1) := by decide +kernel
theorem dX3_run_21 : decode cX3_run 21 = .ok (.ifCond .ne 8, 3) := by decide +kernel
theorem dX3_run_29 : decode cX3_run 29 = .ok (.aload_n 0, 1) := by decide +kernel
theorem dX3_run_30 : decode cX3_run 30 = .ok (.getfield 33, 3) := by decide +kernel
theorem dX3_run_33 : decode cX3_run 33 = .ok (.iload_n 1, 1) := by decide +kernel
theorem dX3_run_34 : decode cX3_run 34 = .ok (.iaload, 1) := by decide +kernel
theorem dX3_run_35 : decode cX3_run 35 = .ok (.ifCond .le 15, 3) := by decide +kernel
theorem dX3_run_50 : decode cX3_run 50 = .ok (.aload_n 0, 1) := by decide +kernel
theorem dX3_run_51 : decode cX3_run 51 = .ok (.getfield 42, 3) := by decide +kernel
theorem dX3_run_54 : decode cX3_run 54 = .ok (.iload_n 1, 1) := by decide +kernel
theorem dX3_run_55 : decode cX3_run 55 = .ok (.iaload, 1) := by decide +kernel
theorem dX3_run_56 : decode cX3_run 56 = .ok (.ireturn, 1) := by decide +kernel
theorem dX3_run_38 : decode cX3_run 38 = .ok (.bipush (-10), 2) := by decide +kernel
theorem dX3_run_40 : decode cX3_run 40 = .ok (.aload_n 0, 1) := by decide +kernel
theorem dX3_run_41 : decode cX3_run 41 = .ok (.getfield 33, 3) := by decide +kernel
theorem dX3_run_44 : decode cX3_run 44 = .ok (.iload_n 1, 1) := by decide +kernel
theorem dX3_run_45 : decode cX3_run 45 = .ok (.iaload, 1) := by decide +kernel
theorem dX3_run_46 : decode cX3_run 46 = .ok (.isub, 1) := by decide +kernel
theorem dX3_run_47 : decode cX3_run 47 = .ok (.goto 9, 3) := by decide +kernel
theorem dX3_run_24 : decode cX3_run 24 = .ok (.aload_n 0, 1) := by decide +kernel
theorem dX3_run_25 : decode cX3_run 25 = .ok (.iload_n 1, 1) := by decide +kernel
theorem dX3_run_26 : decode cX3_run 26 = .ok (.invokevirtual 128, 3) := by decide +kernel
theorem dX3_run_13 : decode cX3_run 13 = .ok (.iconst (-1), 1) := by decide +kernel
theorem dX3_run_14 : decode cX3_run 14 = .ok (.ireturn, 1) := by decide +kernel
theorem dX3_action_0 : decode cX3_action 0 = .ok (.aload_n 0, 1) := by decide +kernel
theorem dX3_action_1 : decode cX3_action 1 = .ok (.iconst 0, 1) := by decide +kernel
theorem dX3_action_2 : decode cX3_action 2 = .ok (.putfield 71, 3) := by decide +kernel
theorem dX3_action_5 : decode cX3_action 5 = .ok (.iload_n 1, 1) := by decide +kernel
theorem dX3_action_6 : decode cX3_action 6 = .ok (.ifCond .lt 11, 3) := by decide +kernel
theorem dX3_action_17 : decode cX3_action 17 = .ok (.iconst (-1), 1) := by decide +kernel
theorem dX3_action_18 : decode cX3_action 18 = .ok (.ireturn, 1) := by decide +kernel
theorem dX3_action_9 : decode cX3_action 9 = .ok (.iload_n 1, 1) := by decide +kernel
theorem dX3_action_10 : decode cX3_action 10 = .ok (.aload_n 0, 1) := by decide +kernel
theorem dX3_action_11 : decode cX3_action 11 = .ok (.getfield 102, 3) := by decide +kernel
theorem dX3_action_14 : decode cX3_action 14 = .ok (.if_icmp .lt 5, 3) := by decide +kernel
theorem dX3_action_19 : decode cX3_action 19 = .ok (.aload_n 0, 1) := by decide +kernel
theorem dX3_action_20 : decode cX3_action 20 = .ok (.getfield 60, 3) := by decide +kernel
theorem dX3_action_23 : decode cX3_action 23 = .ok (.iload_n 1, 1) := by decide +kernel
theorem dX3_action_24 : decode cX3_action 24 = .ok (.iaload, 1) := by decide +kernel
theorem dX3_action_25 : decode cX3_action 25 = .ok (.istore_n 3, 1) := by decide +kernel
theorem dX3_action_26 : decode cX3_action 26 = .ok (.aload_n 0, 1) := by decide +kernel
theorem dX3_action_27 : decode cX3_action 27 = .ok (.getfield 27, 3) := by decide +kernel
theorem dX3_action_30 : decode cX3_action 30 = .ok (.iload_n 3, 1) := by decide +kernel
theorem dX3_action_31 : decode cX3_action 31 = .ok (.iaload, 1) := by decide +kernel
theorem dX3_action_32 : decode cX3_action 32 = .ok (.istore 4, 2) := by decide +kernel
theorem dX3_action_34 : decode cX3_action 34 = .ok (.iload_n 2, 1) := by decide +kernel
theorem dX3_action_35 : decode cX3_action 35 = .ok (.ifCond .ne 7, 3) := by decide +kernel
theorem dX3_action_42 : decode cX3_action 42 = .ok (.iload_n 2, 1) := by decide +kernel
theorem dX3_action_43 : decode cX3_action 43 = .ok (.iconst 1, 1) := by decide +kernel
theorem dX3_action_44 : decode cX3_action 44 = .ok (.if_icmp .ne 12, 3) := by decide +kernel
theorem dX3_action_56 : decode cX3_action 56 = .ok (.iload_n 2, 1) := by decide +kernel
theorem dX3_action_57 : decode cX3_action 57 = .ok (.iconst 2, 1) := by decide +kernel
theorem dX3_action_58 : decode cX3_action 58 = .ok (.if_icmp .ne 39, 3) := by decide +kernel
theorem dX3_action_97 : decode cX3_action 97 = .ok (.bipush (-2), 2) := by decide +kernel
theorem dX3_action_99 : decode cX3_action 99 = .ok (.ireturn, 1) := by decide +kernel
theorem dX3_action_61 : decode cX3_action 61 = .ok (.aload_n 0, 1) := by decide +kernel
theorem dX3_action_62 : decode cX3_action 62 = .ok (.getfield 7, 3) := by decide +kernel
theorem dX3_action_65 : decode cX3_action 65 = .ok (.iload 4, 2) := by decide +kernel
theorem dX3_action_67 : decode cX3_action 67 = .ok (.iaload, 1) := by decide +kernel
theorem dX3_action_68 : decode cX3_action 68 = .ok (.bipush 31, 2) := by decide +kernel
theorem dX3_action_70 : decode cX3_action 70 = .ok (.imul, 1) := by decide +kernel
theorem dX3_action_71 : decode cX3_action 71 = .ok (.aload_n 0, 1) := by decide +kernel
theorem dX3_action_72 : decode cX3_action 72 = .ok (.getfield 13, 3) := by decide +kernel
theorem dX3_action_75 : decode cX3_action 75 = .ok (.iload 4, 2) := by decide +kernel
theorem dX3_action_77 : decode cX3_action 77 = .ok (.iaload, 1) := by decide +kernel
theorem dX3_action_78 : decode cX3_action 78 = .ok (.iadd, 1) := by decide +kernel
theorem dX3_action_79 : decode cX3_action 79 = .ok (.bipush 31, 2) := by decide +kernel
theorem dX3_action_81 : decode cX3_action 81 = .ok (.imul, 1) := by decide +kernel
theorem dX3_action_82 : decode cX3_action 82 = .ok (.iload_n 3, 1) := by decide +kernel
theorem dX3_action_83 : decode cX3_action 83 = .ok (.iadd, 1) := by decide +kernel
theorem dX3_action_84 : decode cX3_action 84 = .ok (.bipush 31, 2) := by decide +kernel
theorem dX3_action_86 : decode cX3_action 86 = .ok (.imul, 1) := by decide +kernel
theorem dX3_action_87 : decode cX3_action 87 = .ok (.aload_n 0, 1) := by decide +kernel
theorem dX3_action_88 : decode cX3_action 88 = .ok (.getfield 63, 3) := by decide +kernel
theorem dX3_action_91 : decode cX3_action 91 = .ok (.iload_n 1, 1) := by decide +kernel
theorem dX3_action_92 : decode cX3_action 92 = .ok (.iaload, 1) := by decide +kernel
theorem dX3_action_93 : decode cX3_action 93 = .ok (.iadd, 1) := by decide +kernel
theorem dX3_action_94 : decode cX3_action 94 = .ok (.goto 5, 3) := by decide +kernel
theorem dX3_action_47 : decode cX3_action 47 = .ok (.aload_n 0, 1) := by decide +kernel
theorem dX3_action_48 : decode cX3_action 48 = .ok (.getfield 63, 3) := by decide +kernel
theorem dX3_action_51 : decode cX3_action 51 = .ok (.iload_n 1, 1) := by decide +kernel
theorem dX3_action_52 : decode cX3_action 52 = .ok (.iaload, 1) := by decide +kernel
theorem dX3_action_53 : decode cX3_action 53 = .ok (.goto 46, 3) := by decide +kernel
theorem dX3_action_38 : decode cX3_action 38 = .ok (.iload_n 3, 1) := by decide +kernel
theorem dX3_action_39 : decode cX3_action 39 = .ok (.goto 60, 3) := by decide +kernel
theorem dX3_provider_0 : decode cX3_provider 0 = .ok (.aload_n 0, 1) := by decide +kernel
theorem dX3_provider_1 : decode cX3_provider 1 = .ok (.iconst 0, 1) := by decide +kernel
theorem dX3_provider_2 : decode cX3_provider 2 = .ok (.putfield 71, 3) := by decide +kernel
theorem dX3_provider_5 : decode cX3_provider 5 = .ok (.aload_n 0, 1) := by decide +kernel
theorem dX3_provider_6 : decode cX3_provider 6 = .ok (.iload_n 1, 1) := by decide +kernel
theorem dX3_provider_7 : decode cX3_provider 7 = .ok (.invokevirtual 99, 3) := by decide +kernel
theorem dX3_provider_10 : decode cX3_provider 10 = .ok (.ifCond .eq 38, 3) := by decide +kernel
theorem dX3_provider_48 : decode cX3_provider 48 = .ok (.iconst 0, 1) := by decide +kernel
theorem dX3_provider_49 : decode cX3_provider 49 = .ok (.ireturn, 1) := by decide +kernel
theorem dX3_provider_13 : decode cX3_provider 13 = .ok (.iload_n 2, 1) := by decide +kernel
theorem dX3_provider_14 : decode cX3_provider 14 = .ok (.ifCond .lt 34, 3) := by decide +kernel
theorem dX3_provider_17 : decode cX3_provider 17 = .ok (.iload_n 2, 1) := by decide +kernel
theorem dX3_provider_18 : decode cX3_provider 18 = .ok (.iconst 3, 1) := by decide +kernel
theorem dX3_provider_19 : decode cX3_provider 19 = .ok (.if_icmp .ge 29, 3) := by decide +kernel
theorem dX3_provider_22 : decode cX3_provider 22 = .ok (.aload_n 0, 1) := by decide +kernel
theorem dX3_provider_23 : decode cX3_provider 23 = .ok (.getfield 57, 3) := by decide +kernel
theorem dX3_provider_26 : decode cX3_provider 26 = .ok (.iconst 3, 1) := by decide +kernel
theorem dX3_provider_27 : decode cX3_provider 27 = .ok (.iload_n 1, 1) := by decide +kernel
theorem dX3_provider_28 : decode cX3_provider 28 = .ok (.imul, 1) := by decide +kernel
theorem dX3_provider_29 : decode cX3_provider 29 = .ok (.iload_n 2, 1) := by decide +kernel
theorem dX3_provider_30 : decode cX3_provider 30 = .ok (.iadd, 1) := by decide +kernel
theorem dX3_provider_31 : decode cX3_provider 31 = .ok (.baload, 1) := by decide +kernel
theorem dX3_provider_32 : decode cX3_provider 32 = .ok (.ifCond .eq 16, 3) := by decide +kernel
theorem dX3_provider_35 : decode cX3_provider 35 = .ok (.aload_n 0, 1) := by decide +kernel
theorem dX3_provider_36 : decode cX3_provider 36 = .ok (.getfield 51, 3) := by decide +kernel
theorem dX3_provider_39 : decode cX3_provider 39 = .ok (.iconst 3, 1) := by decide +kernel
theorem dX3_provider_40 : decode cX3_provider 40 = .ok (.iload_n 1, 1) := by decide +kernel
theorem dX3_provider_41 : decode cX3_provider 41 = .ok (.imul, 1) := by decide +kernel
theorem dX3_provider_42 : decode cX3_provider 42 = .ok (.iload_n 2, 1) := by decide +kernel
theorem dX3_provider_43 : decode cX3_provider 43 = .ok (.iadd, 1) := by decide +kernel
theorem dX3_provider_44 : decode cX3_provider 44 = .ok (.iaload, 1) := by decide +kernel
theorem dX3_provider_45 : decode cX3_provider 45 = .ok (.goto 4, 3) := by decide +kernel
theorem dX3_failed_0 : decode cX3_failed 0 = .ok (.aload_n 0, 1) := by decide +kernel
theorem dX3_failed_1 : decode cX3_failed 1 = .ok (.iconst 0, 1) := by decide +kernel
theorem dX3_failed_2 : decode cX3_failed 2 = .ok (.putfield 71, 3) := by decide +kernel
theorem dX3_failed_5 : decode cX3_failed 5 = .ok (.aload_n 0, 1) := by decide +kernel
theorem dX3_failed_6 : decode cX3_failed 6 = .ok (.iload_n 1, 1) := by decide +kernel
theorem dX3_failed_7 : decode cX3_failed 7 = .ok (.invokevirtual 99, 3) := by decide +kernel
theorem dX3_failed_10 : decode cX3_failed 10 = .ok (.ifCond .ne 5, 3) := by decide +kernel
theorem dX3_failed_15 : decode cX3_failed 15 = .ok (.iload_n 2, 1) := by decide +kernel
theorem dX3_failed_16 : decode cX3_failed 16 = .ok (.ifCond .lt 8, 3) := by decide +kernel
theorem dX3_failed_24 : decode cX3_failed 24 = .ok (.bipush (-2), 2) := by decide +kernel
theorem dX3_failed_26 : decode cX3_failed 26 = .ok (.ireturn, 1) := by decide +kernel
theorem dX3_failed_19 : decode cX3_failed 19 = .ok (.iload_n 2, 1) := by decide +kernel
theorem dX3_failed_20 : decode cX3_failed 20 = .ok (.iconst 2, 1) := by decide +kernel
theorem dX3_failed_21 : decode cX3_failed 21 = .ok (.if_icmp .le 6, 3) := by decide +kernel
theorem dX3_failed_27 : decode cX3_failed 27 = .ok (.aload_n 0, 1) := by decide +kernel
theorem dX3_failed_28 : decode cX3_failed 28 = .ok (.getfield 54, 3) := by decide +kernel
theorem dX3_failed_31 : decode cX3_failed 31 = .ok (.iload_n 1, 1) := by decide +kernel
theorem dX3_failed_32 : decode cX3_failed 32 = .ok (.baload, 1) := by decide +kernel
theorem dX3_failed_33 : decode cX3_failed 33 = .ok (.ifCond .ne 6, 3) := by decide +kernel
theorem dX3_failed_39 : decode cX3_failed 39 = .ok (.iload_n 2, 1) := by decide +kernel
theorem dX3_failed_40 : decode cX3_failed 40 = .ok (.ifCond .ne 12, 3) := by decide +kernel
theorem dX3_failed_52 : decode cX3_failed 52 = .ok (.iload_n 2, 1) := by decide +kernel
theorem dX3_failed_53 : decode cX3_failed 53 = .ok (.iconst 1, 1) := by decide +kernel
theorem dX3_failed_54 : decode cX3_failed 54 = .ok (.if_icmp .ne 12, 3) := by decide +kernel
theorem dX3_failed_66 : decode cX3_failed 66 = .ok (.aload_n 0, 1) := by decide +kernel
theorem dX3_failed_67 : decode cX3_failed 67 = .ok (.getfield 39, 3) := by decide +kernel
theorem dX3_failed_70 : decode cX3_failed 70 = .ok (.iload_n 1, 1) := by decide +kernel
theorem dX3_failed_71 : decode cX3_failed 71 = .ok (.iaload, 1) := by decide +kernel
theorem dX3_failed_72 : decode cX3_failed 72 = .ok (.ireturn, 1) := by decide +kernel
theorem dX3_failed_57 : decode cX3_failed 57 = .ok (.aload_n 0, 1) := by decide +kernel
theorem dX3_failed_58 : decode cX3_failed 58 = .ok (.getfield 36, 3) := by decide +kernel
theorem dX3_failed_61 : decode cX3_failed 61 = .ok (.iload_n 1, 1) := by decide +kernel
theorem dX3_failed_62 : decode cX3_failed 62 = .ok (.iaload, 1) := by decide +kernel
theorem dX3_failed_63 : decode cX3_failed 63 = .ok (.goto 9, 3) := by decide +kernel
theorem dX3_failed_43 : decode cX3_failed 43 = .ok (.aload_n 0, 1) := by decide +kernel
theorem dX3_failed_44 : decode cX3_failed 44 = .ok (.getfield 33, 3) := by decide +kernel
theorem dX3_failed_47 : decode cX3_failed 47 = .ok (.iload_n 1, 1) := by decide +kernel
theorem dX3_failed_48 : decode cX3_failed 48 = .ok (.iaload, 1) := by decide +kernel
theorem dX3_failed_49 : decode cX3_failed 49 = .ok (.goto 23, 3) := by decide +kernel
theorem dX3_failed_36 : decode cX3_failed 36 = .ok (.bipush (-3), 2) := by decide +kernel
theorem dX3_failed_38 : decode cX3_failed 38 = .ok (.ireturn, 1) := by decide +kernel
theorem dX3_failed_13 : decode cX3_failed 13 = .ok (.iconst (-1), 1) := by decide +kernel
theorem dX3_failed_14 : decode cX3_failed 14 = .ok (.ireturn, 1) := by decide +kernel
theorem dX0_divide_0 : decode cX0_divide 0 = .ok (.aload_n 0, 1) := by decide +kernel
theorem dX0_divide_1 : decode cX0_divide 1 = .ok (.iload_n 1, 1) := by decide +kernel
theorem dX0_divide_2 : decode cX0_divide 2 = .ok (.invokevirtual 68, 3) := by decide +kernel
theorem dX0_divide_5 : decode cX0_divide 5 = .ok (.astore 6, 2) := by decide +kernel
theorem dX0_divide_7 : decode cX0_divide 7 = .ok (.aload 6, 2) := by decide +kernel
theorem dX0_divide_9 : decode cX0_divide 9 = .ok (.ifnull 12, 3) := by decide +kernel
theorem dX0_divide_21 : decode cX0_divide 21 = .ok (.lconst 0, 1) := by decide +kernel
theorem dX0_divide_22 : decode cX0_divide 22 = .ok (.lreturn, 1) := by decide +kernel
theorem dX0_divide_12 : decode cX0_divide 12 = .ok (.aload_n 0, 1) := by decide +kernel
theorem dX0_divide_13 : decode cX0_divide 13 = .ok (.aload 6, 2) := by decide +kernel
theorem dX0_divide_15 : decode cX0_divide 15 = .ok (.invokevirtual 72, 3) := by decide +kernel
theorem dX0_divide_18 : decode cX0_divide 18 = .ok (.ifCond .ne 5, 3) := by decide +kernel
theorem dX0_divide_23 : decode cX0_divide 23 = .ok (.aload 6, 2) := by decide +kernel
theorem dX0_divide_25 : decode cX0_divide 25 = .ok (.dup, 1) := by decide +kernel
theorem dX0_divide_26 : decode cX0_divide 26 = .ok (.getfield 128, 3) := by decide +kernel
theorem dX0_divide_29 : decode cX0_divide 29 = .ok (.lconst 1, 1) := by decide +kernel
theorem dX0_divide_30 : decode cX0_divide 30 = .ok (.ladd, 1) := by decide +kernel
theorem dX0_divide_31 : decode cX0_divide 31 = .ok (.putfield 128, 3) := by decide +kernel
theorem dX0_divide_34 : decode cX0_divide 34 = .ok (.lload 4, 2) := by decide +kernel
theorem dX0_divide_36 : decode cX0_divide 36 = .ok (.lconst 0, 1) := by decide +kernel
theorem dX0_divide_37 : decode cX0_divide 37 = .ok (.lcmp, 1) := by decide +kernel
theorem dX0_divide_38 : decode cX0_divide 38 = .ok (.ifCond .ne 13, 3) := by decide +kernel
theorem dX0_divide_51 : decode cX0_divide 51 = .ok (.lload_n 2, 1) := by decide +kernel
theorem dX0_divide_52 : decode cX0_divide 52 = .ok (.lload 4, 2) := by decide +kernel
theorem dX0_divide_54 : decode cX0_divide 54 = .ok (.ldiv, 1) := by decide +kernel
theorem dX0_divide_55 : decode cX0_divide 55 = .ok (.lreturn, 1) := by decide +kernel
theorem dX0_divide_41 : decode cX0_divide 41 = .ok (.new 141, 3) := by decide +kernel
theorem dX0_divide_44 : decode cX0_divide 44 = .ok (.dup, 1) := by decide +kernel
theorem dX0_divide_45 : decode cX0_divide 45 = .ok (.ldc 143, 2) := by decide +kernel
theorem dX0_divide_47 : decode cX0_divide 47 = .ok (.invokespecial 145, 3) := by decide +kernel
theorem dX0_divide_50 : decode cX0_divide 50 = .ok (.athrow, 1) := by decide +kernel
theorem dX0_handle_0 : decode cX0_handle 0 = .ok (.iload_n 1, 1) := by decide +kernel
theorem dX0_handle_1 : decode cX0_handle 1 = .ok (.aload_n 0, 1) := by decide +kernel
theorem dX0_handle_2 : decode cX0_handle 2 = .ok (.getfield 41, 3) := by decide +kernel
theorem dX0_handle_5 : decode cX0_handle 5 = .ok (.iconst 1, 1) := by decide +kernel
theorem dX0_handle_6 : decode cX0_handle 6 = .ok (.isub, 1) := by decide +kernel
theorem dX0_handle_7 : decode cX0_handle 7 = .ok (.invokestatic 57, 3) := by decide +kernel
theorem dX0_handle_10 : decode cX0_handle 10 = .ok (.ifCond .eq 13, 3) := by decide +kernel
theorem dX0_handle_23 : decode cX0_handle 23 = .ok (.iconst (-1), 1) := by decide +kernel
theorem dX0_handle_24 : decode cX0_handle 24 = .ok (.ireturn, 1) := by decide +kernel
theorem dX0_handle_13 : decode cX0_handle 13 = .ok (.new 148, 3) := by decide +kernel
theorem dX0_handle_16 : decode cX0_handle 16 = .ok (.dup, 1) := by decide +kernel
theorem dX0_handle_17 : decode cX0_handle 17 = .ok (.ldc 150, 2) := by decide +kernel
theorem dX0_handle_19 : decode cX0_handle 19 = .ok (.invokespecial 152, 3) := by decide +kernel
theorem dX0_handle_22 : decode cX0_handle 22 = .ok (.athrow, 1) := by decide +kernel
theorem dL_law_0 : decode code 0 = .ok (.new 8, 3) := by decide +kernel
theorem dL_law_3 : decode code 3 = .ok (.dup, 1) := by decide +kernel
theorem dL_law_4 : decode code 4 = .ok (.aload_n 0, 1) := by decide +kernel
theorem dL_law_5 : decode code 5 = .ok (.iconst 0, 1) := by decide +kernel
theorem dL_law_6 : decode code 6 = .ok (.invokestatic 21, 3) := by decide +kernel
theorem dL_law_9 : decode code 9 = .ok (.invokespecial 27, 3) := by decide +kernel
theorem dL_law_12 : decode code 12 = .ok (.astore_n 1, 1) := by decide +kernel
theorem dL_law_13 : decode code 13 = .ok (.new 30, 3) := by decide +kernel
theorem dL_law_16 : decode code 16 = .ok (.dup, 1) := by decide +kernel
theorem dL_law_17 : decode code 17 = .ok (.aload_n 0, 1) := by decide +kernel
theorem dL_law_18 : decode code 18 = .ok (.iconst 0, 1) := by decide +kernel
theorem dL_law_19 : decode code 19 = .ok (.invokestatic 21, 3) := by decide +kernel
theorem dL_law_22 : decode code 22 = .ok (.invokespecial 32, 3) := by decide +kernel
theorem dL_law_25 : decode code 25 = .ok (.astore_n 2, 1) := by decide +kernel
theorem dL_law_26 : decode code 26 = .ok (.iconst 1, 1) := by decide +kernel
theorem dL_law_27 : decode code 27 = .ok (.newarray .long, 2) := by decide +kernel
theorem dL_law_29 : decode code 29 = .ok (.astore_n 3, 1) := by decide +kernel
theorem dL_law_30 : decode code 30 = .ok (.iconst 1, 1) := by decide +kernel
theorem dL_law_31 : decode code 31 = .ok (.istore 4, 2) := by decide +kernel
theorem dL_law_33 : decode code 33 = .ok (.iload 4, 2) := by decide +kernel
theorem dL_law_35 : decode code 35 = .ok (.aload_n 0, 1) := by decide +kernel
theorem dL_law_36 : decode code 36 = .ok (.arraylength, 1) := by decide +kernel
theorem dL_law_37 : decode code 37 = .ok (.bipush 6, 2) := by decide +kernel
theorem dL_law_39 : decode code 39 = .ok (.isub, 1) := by decide +kernel
theorem dL_law_40 : decode code 40 = .ok (.if_icmp .gt 640, 3) := by decide +kernel
theorem dL_law_680 : decode code 680 = .ok (.iconst 1, 1) := by decide +kernel
theorem dL_law_681 : decode code 681 = .ok (.ireturn, 1) := by decide +kernel
theorem dL_law_43 : decode code 43 = .ok (.aload_n 0, 1) := by decide +kernel
theorem dL_law_44 : decode code 44 = .ok (.iload 4, 2) := by decide +kernel
theorem dL_law_46 : decode code 46 = .ok (.iaload, 1) := by decide +kernel
theorem dL_law_47 : decode code 47 = .ok (.bipush 15, 2) := by decide +kernel
