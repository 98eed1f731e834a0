theorem dX11_leafRead_40 : decode cX11_leafRead 40 = .ok (.iconst 1, 1) := by decide +kernel
theorem dX11_leafRead_41 : decode cX11_leafRead 41 = .ok (.putfield 349, 3) := by decide +kernel
theorem dX11_leafRead_44 : decode cX11_leafRead 44 = .ok (.aload_n 0, 1) := by decide +kernel
theorem dX11_leafRead_45 : decode cX11_leafRead 45 = .ok (.invokevirtual 245, 3) := by decide +kernel
theorem dX11_leafRead_48 : decode cX11_leafRead 48 = .ok (.iconst 1, 1) := by decide +kernel
theorem dX11_leafRead_49 : decode cX11_leafRead 49 = .ok (.ireturn, 1) := by decide +kernel
theorem dX11_leafRead_50 : decode cX11_leafRead 50 = .ok (.aload_n 0, 1) := by decide +kernel
theorem dX11_leafRead_51 : decode cX11_leafRead 51 = .ok (.bipush 15, 2) := by decide +kernel
theorem dX11_leafRead_53 : decode cX11_leafRead 53 = .ok (.invokevirtual 293, 3) := by decide +kernel
theorem dX11_leafRead_56 : decode cX11_leafRead 56 = .ok (.ifCond .eq 30, 3) := by decide +kernel
theorem dX11_leafRead_59 : decode cX11_leafRead 59 = .ok (.aload_n 0, 1) := by decide +kernel
theorem dX11_leafRead_60 : decode cX11_leafRead 60 = .ok (.getfield 349, 3) := by decide +kernel
theorem dX11_leafRead_63 : decode cX11_leafRead 63 = .ok (.ifCond .eq 23, 3) := by decide +kernel
theorem dX11_leafRead_66 : decode cX11_leafRead 66 = .ok (.aload_n 0, 1) := by decide +kernel
theorem dX11_leafRead_67 : decode cX11_leafRead 67 = .ok (.invokevirtual 353, 3) := by decide +kernel
theorem dX11_leafRead_70 : decode cX11_leafRead 70 = .ok (.ifCond .ne 5, 3) := by decide +kernel
theorem dX11_leafRead_73 : decode cX11_leafRead 73 = .ok (.iconst 0, 1) := by decide +kernel
theorem dX11_leafRead_74 : decode cX11_leafRead 74 = .ok (.ireturn, 1) := by decide +kernel
theorem dX11_leafRead_75 : decode cX11_leafRead 75 = .ok (.aload_n 0, 1) := by decide +kernel
theorem dX11_leafRead_76 : decode cX11_leafRead 76 = .ok (.iconst 2, 1) := by decide +kernel
theorem dX11_leafRead_77 : decode cX11_leafRead 77 = .ok (.invokevirtual 345, 3) := by decide +kernel
theorem dX11_leafRead_80 : decode cX11_leafRead 80 = .ok (.aload_n 0, 1) := by decide +kernel
theorem dX11_leafRead_81 : decode cX11_leafRead 81 = .ok (.invokevirtual 245, 3) := by decide +kernel
theorem dX11_leafRead_84 : decode cX11_leafRead 84 = .ok (.iconst 1, 1) := by decide +kernel
theorem dX11_leafRead_85 : decode cX11_leafRead 85 = .ok (.ireturn, 1) := by decide +kernel
theorem dX11_leafRead_86 : decode cX11_leafRead 86 = .ok (.aload_n 0, 1) := by decide +kernel
theorem dX11_leafRead_87 : decode cX11_leafRead 87 = .ok (.invokevirtual 356, 3) := by decide +kernel
theorem dX11_leafRead_90 : decode cX11_leafRead 90 = .ok (.istore_n 1, 1) := by decide +kernel
theorem dX11_leafRead_91 : decode cX11_leafRead 91 = .ok (.iload_n 1, 1) := by decide +kernel
theorem dX11_leafRead_92 : decode cX11_leafRead 92 = .ok (.ifCond .ge 17, 3) := by decide +kernel
theorem dX11_leafRead_95 : decode cX11_leafRead 95 = .ok (.aload_n 0, 1) := by decide +kernel
theorem dX11_leafRead_96 : decode cX11_leafRead 96 = .ok (.getfield 211, 3) := by decide +kernel
theorem dX11_leafRead_99 : decode cX11_leafRead 99 = .ok (.iconst 3, 1) := by decide +kernel
theorem dX11_leafRead_100 : decode cX11_leafRead 100 = .ok (.if_icmp .eq 9, 3) := by decide +kernel
theorem dX11_leafRead_103 : decode cX11_leafRead 103 = .ok (.aload_n 0, 1) := by decide +kernel
theorem dX11_leafRead_104 : decode cX11_leafRead 104 = .ok (.iconst 1, 1) := by decide +kernel
theorem dX11_leafRead_105 : decode cX11_leafRead 105 = .ok (.invokevirtual 235, 3) := by decide +kernel
theorem dX11_leafRead_108 : decode cX11_leafRead 108 = .ok (.ireturn, 1) := by decide +kernel
theorem dX11_leafRead_109 : decode cX11_leafRead 109 = .ok (.iload_n 1, 1) := by decide +kernel
theorem dX11_leafRead_110 : decode cX11_leafRead 110 = .ok (.ifCond .ge 19, 3) := by decide +kernel
theorem dX11_leafRead_113 : decode cX11_leafRead 113 = .ok (.aload_n 0, 1) := by decide +kernel
theorem dX11_leafRead_114 : decode cX11_leafRead 114 = .ok (.getfield 222, 3) := by decide +kernel
theorem dX11_leafRead_117 : decode cX11_leafRead 117 = .ok (.sipush 9999, 3) := by decide +kernel
theorem dX11_leafRead_120 : decode cX11_leafRead 120 = .ok (.if_icmp .le 9, 3) := by decide +kernel
theorem dX11_leafRead_123 : decode cX11_leafRead 123 = .ok (.aload_n 0, 1) := by decide +kernel
theorem dX11_leafRead_124 : decode cX11_leafRead 124 = .ok (.iconst 2, 1) := by decide +kernel
theorem dX11_leafRead_125 : decode cX11_leafRead 125 = .ok (.invokevirtual 235, 3) := by decide +kernel
theorem dX11_leafRead_128 : decode cX11_leafRead 128 = .ok (.ireturn, 1) := by decide +kernel
theorem dX11_leafRead_129 : decode cX11_leafRead 129 = .ok (.aload_n 0, 1) := by decide +kernel
theorem dX11_leafRead_130 : decode cX11_leafRead 130 = .ok (.invokevirtual 353, 3) := by decide +kernel
theorem dX11_leafRead_133 : decode cX11_leafRead 133 = .ok (.ifCond .ne 5, 3) := by decide +kernel
theorem dX11_leafRead_136 : decode cX11_leafRead 136 = .ok (.iconst 0, 1) := by decide +kernel
theorem dX11_leafRead_137 : decode cX11_leafRead 137 = .ok (.ireturn, 1) := by decide +kernel
theorem dX11_leafRead_138 : decode cX11_leafRead 138 = .ok (.aload_n 0, 1) := by decide +kernel
theorem dX11_leafRead_139 : decode cX11_leafRead 139 = .ok (.iload_n 1, 1) := by decide +kernel
theorem dX11_leafRead_140 : decode cX11_leafRead 140 = .ok (.ifCond .lt 7, 3) := by decide +kernel
theorem dX11_leafRead_143 : decode cX11_leafRead 143 = .ok (.iconst 1, 1) := by decide +kernel
theorem dX11_leafRead_144 : decode cX11_leafRead 144 = .ok (.goto 4, 3) := by decide +kernel
theorem dX11_leafRead_147 : decode cX11_leafRead 147 = .ok (.iconst 0, 1) := by decide +kernel
theorem dX11_leafRead_148 : decode cX11_leafRead 148 = .ok (.iload_n 1, 1) := by decide +kernel
theorem dX11_leafRead_149 : decode cX11_leafRead 149 = .ok (.ifCond .lt 7, 3) := by decide +kernel
theorem dX11_leafRead_152 : decode cX11_leafRead 152 = .ok (.iload_n 1, 1) := by decide +kernel
theorem dX11_leafRead_153 : decode cX11_leafRead 153 = .ok (.goto 7, 3) := by decide +kernel
theorem dX11_leafRead_156 : decode cX11_leafRead 156 = .ok (.aload_n 0, 1) := by decide +kernel
theorem dX11_leafRead_157 : decode cX11_leafRead 157 = .ok (.getfield 222, 3) := by decide +kernel
theorem dX11_leafRead_160 : decode cX11_leafRead 160 = .ok (.iconst 0, 1) := by decide +kernel
theorem dX11_leafRead_161 : decode cX11_leafRead 161 = .ok (.invokevirtual 338, 3) := by decide +kernel
theorem dX11_leafRead_164 : decode cX11_leafRead 164 = .ok (.aload_n 0, 1) := by decide +kernel
theorem dX11_leafRead_165 : decode cX11_leafRead 165 = .ok (.iconst 0, 1) := by decide +kernel
theorem dX11_leafRead_166 : decode cX11_leafRead 166 = .ok (.putfield 359, 3) := by decide +kernel
theorem dX11_leafRead_169 : decode cX11_leafRead 169 = .ok (.aload_n 0, 1) := by decide +kernel
theorem dX11_leafRead_170 : decode cX11_leafRead 170 = .ok (.invokevirtual 245, 3) := by decide +kernel
theorem dX11_leafRead_173 : decode cX11_leafRead 173 = .ok (.iconst 1, 1) := by decide +kernel
theorem dX11_leafRead_174 : decode cX11_leafRead 174 = .ok (.ireturn, 1) := by decide +kernel
theorem dX11_signs_0 : decode cX11_signs 0 = .ok (.aload_n 0, 1) := by decide +kernel
theorem dX11_signs_1 : decode cX11_signs 1 = .ok (.bipush 41, 2) := by decide +kernel
theorem dX11_signs_3 : decode cX11_signs 3 = .ok (.invokevirtual 248, 3) := by decide +kernel
theorem dX11_signs_6 : decode cX11_signs 6 = .ok (.ifCond .eq 41, 3) := by decide +kernel
theorem dX11_signs_9 : decode cX11_signs 9 = .ok (.aload_n 0, 1) := by decide +kernel
theorem dX11_signs_10 : decode cX11_signs 10 = .ok (.getfield 342, 3) := by decide +kernel
theorem dX11_signs_13 : decode cX11_signs 13 = .ok (.ifCond .le 34, 3) := by decide +kernel
theorem dX11_signs_16 : decode cX11_signs 16 = .ok (.aload_n 0, 1) := by decide +kernel
theorem dX11_signs_17 : decode cX11_signs 17 = .ok (.iconst 1, 1) := by decide +kernel
theorem dX11_signs_18 : decode cX11_signs 18 = .ok (.invokevirtual 362, 3) := by decide +kernel
theorem dX11_signs_21 : decode cX11_signs 21 = .ok (.aload_n 0, 1) := by decide +kernel
theorem dX11_signs_22 : decode cX11_signs 22 = .ok (.dup, 1) := by decide +kernel
theorem dX11_signs_23 : decode cX11_signs 23 = .ok (.getfield 327, 3) := by decide +kernel
theorem dX11_signs_26 : decode cX11_signs 26 = .ok (.iconst 1, 1) := by decide +kernel
theorem dX11_signs_27 : decode cX11_signs 27 = .ok (.isub, 1) := by decide +kernel
theorem dX11_signs_28 : decode cX11_signs 28 = .ok (.putfield 327, 3) := by decide +kernel
theorem dX11_signs_31 : decode cX11_signs 31 = .ok (.aload_n 0, 1) := by decide +kernel
theorem dX11_signs_32 : decode cX11_signs 32 = .ok (.dup, 1) := by decide +kernel
theorem dX11_signs_33 : decode cX11_signs 33 = .ok (.getfield 342, 3) := by decide +kernel
theorem dX11_signs_36 : decode cX11_signs 36 = .ok (.iconst 1, 1) := by decide +kernel
theorem dX11_signs_37 : decode cX11_signs 37 = .ok (.isub, 1) := by decide +kernel
theorem dX11_signs_38 : decode cX11_signs 38 = .ok (.putfield 342, 3) := by decide +kernel
theorem dX11_signs_41 : decode cX11_signs 41 = .ok (.aload_n 0, 1) := by decide +kernel
theorem dX11_signs_42 : decode cX11_signs 42 = .ok (.invokevirtual 245, 3) := by decide +kernel
theorem dX11_signs_45 : decode cX11_signs 45 = .ok (.iconst 1, 1) := by decide +kernel
theorem dX11_signs_46 : decode cX11_signs 46 = .ok (.ireturn, 1) := by decide +kernel
theorem dX11_signs_47 : decode cX11_signs 47 = .ok (.aload_n 0, 1) := by decide +kernel
theorem dX11_signs_48 : decode cX11_signs 48 = .ok (.bipush 13, 2) := by decide +kernel
theorem dX11_signs_50 : decode cX11_signs 50 = .ok (.invokevirtual 293, 3) := by decide +kernel
theorem dX11_signs_53 : decode cX11_signs 53 = .ok (.ifCond .eq 7, 3) := by decide +kernel
theorem dX11_signs_56 : decode cX11_signs 56 = .ok (.iconst 3, 1) := by decide +kernel
theorem dX11_signs_57 : decode cX11_signs 57 = .ok (.goto 90, 3) := by decide +kernel
theorem dX11_signs_60 : decode cX11_signs 60 = .ok (.aload_n 0, 1) := by decide +kernel
theorem dX11_signs_61 : decode cX11_signs 61 = .ok (.bipush 14, 2) := by decide +kernel
theorem dX11_signs_63 : decode cX11_signs 63 = .ok (.invokevirtual 293, 3) := by decide +kernel
theorem dX11_signs_66 : decode cX11_signs 66 = .ok (.ifCond .eq 7, 3) := by decide +kernel
theorem dX11_signs_69 : decode cX11_signs 69 = .ok (.iconst 4, 1) := by decide +kernel
theorem dX11_signs_70 : decode cX11_signs 70 = .ok (.goto 77, 3) := by decide +kernel
theorem dX11_signs_73 : decode cX11_signs 73 = .ok (.aload_n 0, 1) := by decide +kernel
theorem dX11_signs_74 : decode cX11_signs 74 = .ok (.getfield 211, 3) := by decide +kernel
theorem dX11_signs_77 : decode cX11_signs 77 = .ok (.iconst 5, 1) := by decide +kernel
theorem dX11_signs_78 : decode cX11_signs 78 = .ok (.if_icmp .ne 12, 3) := by decide +kernel
theorem dX11_signs_81 : decode cX11_signs 81 = .ok (.iconst 5, 1) := by decide +kernel
theorem dX11_signs_82 : decode cX11_signs 82 = .ok (.aload_n 0, 1) := by decide +kernel
theorem dX11_signs_83 : decode cX11_signs 83 = .ok (.getfield 222, 3) := by decide +kernel
theorem dX11_signs_86 : decode cX11_signs 86 = .ok (.iadd, 1) := by decide +kernel
theorem dX11_signs_87 : decode cX11_signs 87 = .ok (.goto 60, 3) := by decide +kernel
theorem dX11_signs_90 : decode cX11_signs 90 = .ok (.aload_n 0, 1) := by decide +kernel
theorem dX11_signs_91 : decode cX11_signs 91 = .ok (.bipush 43, 2) := by decide +kernel
theorem dX11_signs_93 : decode cX11_signs 93 = .ok (.invokevirtual 248, 3) := by decide +kernel
theorem dX11_signs_96 : decode cX11_signs 96 = .ok (.ifCond .eq 8, 3) := by decide +kernel
theorem dX11_signs_99 : decode cX11_signs 99 = .ok (.bipush 11, 2) := by decide +kernel
theorem dX11_signs_101 : decode cX11_signs 101 = .ok (.goto 46, 3) := by decide +kernel
theorem dX11_signs_104 : decode cX11_signs 104 = .ok (.aload_n 0, 1) := by decide +kernel
theorem dX11_signs_105 : decode cX11_signs 105 = .ok (.bipush 45, 2) := by decide +kernel
theorem dX11_signs_107 : decode cX11_signs 107 = .ok (.invokevirtual 248, 3) := by decide +kernel
theorem dX11_signs_110 : decode cX11_signs 110 = .ok (.ifCond .eq 8, 3) := by decide +kernel
theorem dX11_signs_113 : decode cX11_signs 113 = .ok (.bipush 12, 2) := by decide +kernel
theorem dX11_signs_115 : decode cX11_signs 115 = .ok (.goto 32, 3) := by decide +kernel
theorem dX11_signs_118 : decode cX11_signs 118 = .ok (.aload_n 0, 1) := by decide +kernel
theorem dX11_signs_119 : decode cX11_signs 119 = .ok (.bipush 42, 2) := by decide +kernel
theorem dX11_signs_121 : decode cX11_signs 121 = .ok (.invokevirtual 248, 3) := by decide +kernel
theorem dX11_signs_124 : decode cX11_signs 124 = .ok (.ifCond .eq 8, 3) := by decide +kernel
theorem dX11_signs_127 : decode cX11_signs 127 = .ok (.bipush 13, 2) := by decide +kernel
theorem dX11_signs_129 : decode cX11_signs 129 = .ok (.goto 18, 3) := by decide +kernel
theorem dX11_signs_132 : decode cX11_signs 132 = .ok (.aload_n 0, 1) := by decide +kernel
theorem dX11_signs_133 : decode cX11_signs 133 = .ok (.bipush 47, 2) := by decide +kernel
theorem dX11_signs_135 : decode cX11_signs 135 = .ok (.invokevirtual 248, 3) := by decide +kernel
theorem dX11_signs_138 : decode cX11_signs 138 = .ok (.ifCond .eq 8, 3) := by decide +kernel
theorem dX11_signs_141 : decode cX11_signs 141 = .ok (.bipush 14, 2) := by decide +kernel
theorem dX11_signs_143 : decode cX11_signs 143 = .ok (.goto 4, 3) := by decide +kernel
theorem dX11_signs_146 : decode cX11_signs 146 = .ok (.iconst 0, 1) := by decide +kernel
theorem dX11_signs_147 : decode cX11_signs 147 = .ok (.istore_n 1, 1) := by decide +kernel
theorem dX11_signs_148 : decode cX11_signs 148 = .ok (.iload_n 1, 1) := by decide +kernel
theorem dX11_signs_149 : decode cX11_signs 149 = .ok (.ifCond .ne 9, 3) := by decide +kernel
theorem dX11_signs_152 : decode cX11_signs 152 = .ok (.aload_n 0, 1) := by decide +kernel
theorem dX11_signs_153 : decode cX11_signs 153 = .ok (.iconst 1, 1) := by decide +kernel
theorem dX11_signs_154 : decode cX11_signs 154 = .ok (.invokevirtual 235, 3) := by decide +kernel
theorem dX11_signs_157 : decode cX11_signs 157 = .ok (.ireturn, 1) := by decide +kernel
theorem dX11_signs_158 : decode cX11_signs 158 = .ok (.aload_n 0, 1) := by decide +kernel
theorem dX11_signs_159 : decode cX11_signs 159 = .ok (.iload_n 1, 1) := by decide +kernel
theorem dX11_signs_160 : decode cX11_signs 160 = .ok (.invokestatic 330, 3) := by decide +kernel
theorem dX11_signs_163 : decode cX11_signs 163 = .ok (.iconst 4, 1) := by decide +kernel
theorem dX11_signs_164 : decode cX11_signs 164 = .ok (.if_icmp .ne 7, 3) := by decide +kernel
theorem dX11_signs_167 : decode cX11_signs 167 = .ok (.iconst 5, 1) := by decide +kernel
theorem dX11_signs_168 : decode cX11_signs 168 = .ok (.goto 7, 3) := by decide +kernel
theorem dX11_signs_171 : decode cX11_signs 171 = .ok (.iload_n 1, 1) := by decide +kernel
theorem dX11_signs_172 : decode cX11_signs 172 = .ok (.invokestatic 330, 3) := by decide +kernel
theorem dX11_signs_175 : decode cX11_signs 175 = .ok (.invokevirtual 362, 3) := by decide +kernel
theorem dX11_signs_178 : decode cX11_signs 178 = .ok (.iload_n 1, 1) := by decide +kernel
theorem dX11_signs_179 : decode cX11_signs 179 = .ok (.invokestatic 330, 3) := by decide +kernel
theorem dX11_signs_182 : decode cX11_signs 182 = .ok (.iconst 4, 1) := by decide +kernel
theorem dX11_signs_183 : decode cX11_signs 183 = .ok (.if_icmp .ne 34, 3) := by decide +kernel
theorem dX11_signs_186 : decode cX11_signs 186 = .ok (.aload_n 0, 1) := by decide +kernel
theorem dX11_signs_187 : decode cX11_signs 187 = .ok (.getfield 327, 3) := by decide +kernel
theorem dX11_signs_190 : decode cX11_signs 190 = .ok (.ifCond .le 27, 3) := by decide +kernel
theorem dX11_signs_193 : decode cX11_signs 193 = .ok (.aload_n 0, 1) := by decide +kernel
theorem dX11_signs_194 : decode cX11_signs 194 = .ok (.getfield 87, 3) := by decide +kernel
theorem dX11_signs_197 : decode cX11_signs 197 = .ok (.aload_n 0, 1) := by decide +kernel
theorem dX11_signs_198 : decode cX11_signs 198 = .ok (.getfield 327, 3) := by decide +kernel
theorem dX11_signs_201 : decode cX11_signs 201 = .ok (.iconst 1, 1) := by decide +kernel
theorem dX11_signs_202 : decode cX11_signs 202 = .ok (.isub, 1) := by decide +kernel
theorem dX11_signs_203 : decode cX11_signs 203 = .ok (.iaload, 1) := by decide +kernel
theorem dX11_signs_204 : decode cX11_signs 204 = .ok (.invokestatic 330, 3) := by decide +kernel
theorem dX11_signs_207 : decode cX11_signs 207 = .ok (.iconst 4, 1) := by decide +kernel
theorem dX11_signs_208 : decode cX11_signs 208 = .ok (.if_icmp .ne 9, 3) := by decide +kernel
theorem dX11_signs_211 : decode cX11_signs 211 = .ok (.aload_n 0, 1) := by decide +kernel
theorem dX11_signs_212 : decode cX11_signs 212 = .ok (.iconst 1, 1) := by decide +kernel
theorem dX11_signs_213 : decode cX11_signs 213 = .ok (.invokevirtual 235, 3) := by decide +kernel
theorem dX11_signs_216 : decode cX11_signs 216 = .ok (.ireturn, 1) := by decide +kernel
theorem dX11_signs_217 : decode cX11_signs 217 = .ok (.aload_n 0, 1) := by decide +kernel
theorem dX11_signs_218 : decode cX11_signs 218 = .ok (.invokevirtual 353, 3) := by decide +kernel
theorem dX11_signs_221 : decode cX11_signs 221 = .ok (.ifCond .ne 5, 3) := by decide +kernel
theorem dX11_signs_224 : decode cX11_signs 224 = .ok (.iconst 0, 1) := by decide +kernel
theorem dX11_signs_225 : decode cX11_signs 225 = .ok (.ireturn, 1) := by decide +kernel
theorem dX11_signs_226 : decode cX11_signs 226 = .ok (.aload_n 0, 1) := by decide +kernel
theorem dX11_signs_227 : decode cX11_signs 227 = .ok (.iload_n 1, 1) := by decide +kernel
theorem dX11_signs_228 : decode cX11_signs 228 = .ok (.invokevirtual 345, 3) := by decide +kernel
theorem dX11_signs_231 : decode cX11_signs 231 = .ok (.aload_n 0, 1) := by decide +kernel
theorem dX11_signs_232 : decode cX11_signs 232 = .ok (.iconst 1, 1) := by decide +kernel
theorem dX11_signs_233 : decode cX11_signs 233 = .ok (.putfield 359, 3) := by decide +kernel
theorem dX11_signs_236 : decode cX11_signs 236 = .ok (.aload_n 0, 1) := by decide +kernel
theorem dX11_signs_237 : decode cX11_signs 237 = .ok (.iload_n 1, 1) := by decide +kernel
theorem dX11_signs_238 : decode cX11_signs 238 = .ok (.invokestatic 330, 3) := by decide +kernel
theorem dX11_signs_241 : decode cX11_signs 241 = .ok (.iconst 3, 1) := by decide +kernel
theorem dX11_signs_242 : decode cX11_signs 242 = .ok (.if_icmp .ge 7, 3) := by decide +kernel
theorem dX11_signs_245 : decode cX11_signs 245 = .ok (.iconst 1, 1) := by decide +kernel
theorem dX11_signs_246 : decode cX11_signs 246 = .ok (.goto 4, 3) := by decide +kernel
theorem dX11_signs_249 : decode cX11_signs 249 = .ok (.iconst 0, 1) := by decide +kernel
theorem dX11_signs_250 : decode cX11_signs 250 = .ok (.putfield 349, 3) := by decide +kernel
theorem dX11_signs_253 : decode cX11_signs 253 = .ok (.aload_n 0, 1) := by decide +kernel
theorem dX11_signs_254 : decode cX11_signs 254 = .ok (.invokevirtual 245, 3) := by decide +kernel
theorem dX11_signs_257 : decode cX11_signs 257 = .ok (.iconst 1, 1) := by decide +kernel
theorem dX11_signs_258 : decode cX11_signs 258 = .ok (.ireturn, 1) := by decide +kernel
theorem dX11_sumRead_0 : decode cX11_sumRead 0 = .ok (.aload_n 0, 1) := by decide +kernel
theorem dX11_sumRead_1 : decode cX11_sumRead 1 = .ok (.iconst 0, 1) := by decide +kernel
theorem dX11_sumRead_2 : decode cX11_sumRead 2 = .ok (.putfield 327, 3) := by decide +kernel
theorem dX11_sumRead_5 : decode cX11_sumRead 5 = .ok (.aload_n 0, 1) := by decide +kernel
theorem dX11_sumRead_6 : decode cX11_sumRead 6 = .ok (.iconst 0, 1) := by decide +kernel
theorem dX11_sumRead_7 : decode cX11_sumRead 7 = .ok (.putfield 324, 3) := by decide +kernel
theorem dX11_sumRead_10 : decode cX11_sumRead 10 = .ok (.aload_n 0, 1) := by decide +kernel
theorem dX11_sumRead_11 : decode cX11_sumRead 11 = .ok (.iconst 0, 1) := by decide +kernel
theorem dX11_sumRead_12 : decode cX11_sumRead 12 = .ok (.putfield 342, 3) := by decide +kernel
theorem dX11_sumRead_15 : decode cX11_sumRead 15 = .ok (.aload_n 0, 1) := by decide +kernel
theorem dX11_sumRead_16 : decode cX11_sumRead 16 = .ok (.iconst 1, 1) := by decide +kernel
theorem dX11_sumRead_17 : decode cX11_sumRead 17 = .ok (.putfield 359, 3) := by decide +kernel
theorem dX11_sumRead_20 : decode cX11_sumRead 20 = .ok (.aload_n 0, 1) := by decide +kernel
theorem dX11_sumRead_21 : decode cX11_sumRead 21 = .ok (.iconst 1, 1) := by decide +kernel
theorem dX11_sumRead_22 : decode cX11_sumRead 22 = .ok (.putfield 349, 3) := by decide +kernel
theorem dX11_sumRead_25 : decode cX11_sumRead 25 = .ok (.aload_n 0, 1) := by decide +kernel
theorem dX11_sumRead_26 : decode cX11_sumRead 26 = .ok (.bipush 59, 2) := by decide +kernel
theorem dX11_sumRead_28 : decode cX11_sumRead 28 = .ok (.invokevirtual 248, 3) := by decide +kernel
theorem dX11_sumRead_31 : decode cX11_sumRead 31 = .ok (.ifCond .eq 17, 3) := by decide +kernel
theorem dX11_sumRead_34 : decode cX11_sumRead 34 = .ok (.aload_n 0, 1) := by decide +kernel
theorem dX11_sumRead_35 : decode cX11_sumRead 35 = .ok (.getfield 359, 3) := by decide +kernel
theorem dX11_sumRead_38 : decode cX11_sumRead 38 = .ok (.ifCond .ne 10, 3) := by decide +kernel
theorem dX11_sumRead_41 : decode cX11_sumRead 41 = .ok (.aload_n 0, 1) := by decide +kernel
theorem dX11_sumRead_42 : decode cX11_sumRead 42 = .ok (.getfield 342, 3) := by decide +kernel
theorem dX11_sumRead_45 : decode cX11_sumRead 45 = .ok (.ifCond .le 29, 3) := by decide +kernel
theorem dX11_sumRead_48 : decode cX11_sumRead 48 = .ok (.aload_n 0, 1) := by decide +kernel
theorem dX11_sumRead_49 : decode cX11_sumRead 49 = .ok (.getfield 359, 3) := by decide +kernel
theorem dX11_sumRead_52 : decode cX11_sumRead 52 = .ok (.ifCond .eq 13, 3) := by decide +kernel
theorem dX11_sumRead_55 : decode cX11_sumRead 55 = .ok (.aload_n 0, 1) := by decide +kernel
theorem dX11_sumRead_56 : decode cX11_sumRead 56 = .ok (.invokevirtual 365, 3) := by decide +kernel
theorem dX11_sumRead_59 : decode cX11_sumRead 59 = .ok (.ifCond .eq 13, 3) := by decide +kernel
theorem dX11_sumRead_62 : decode cX11_sumRead 62 = .ok (.goto (-37), 3) := by decide +kernel
theorem dX11_sumRead_65 : decode cX11_sumRead 65 = .ok (.aload_n 0, 1) := by decide +kernel
theorem dX11_sumRead_66 : decode cX11_sumRead 66 = .ok (.invokevirtual 368, 3) := by decide +kernel
theorem dX11_sumRead_69 : decode cX11_sumRead 69 = .ok (.ifCond .ne (-44), 3) := by decide +kernel
theorem dX11_sumRead_72 : decode cX11_sumRead 72 = .ok (.iconst 0, 1) := by decide +kernel
theorem dX11_sumRead_73 : decode cX11_sumRead 73 = .ok (.ireturn, 1) := by decide +kernel
theorem dX11_sumRead_74 : decode cX11_sumRead 74 = .ok (.aload_n 0, 1) := by decide +kernel
theorem dX11_sumRead_75 : decode cX11_sumRead 75 = .ok (.iconst 1, 1) := by decide +kernel
theorem dX11_sumRead_76 : decode cX11_sumRead 76 = .ok (.invokevirtual 362, 3) := by decide +kernel
theorem dX11_sumRead_79 : decode cX11_sumRead 79 = .ok (.iconst 1, 1) := by decide +kernel
theorem dX11_sumRead_80 : decode cX11_sumRead 80 = .ok (.ireturn, 1) := by decide +kernel
theorem dX11_bounded_0 : decode cX11_bounded 0 = .ok (.aload_n 0, 1) := by decide +kernel
theorem dX11_bounded_1 : decode cX11_bounded 1 = .ok (.aload_n 0, 1) := by decide +kernel
theorem dX11_bounded_2 : decode cX11_bounded 2 = .ok (.getfield 371, 3) := by decide +kernel
theorem dX11_bounded_5 : decode cX11_bounded 5 = .ok (.ifCond .ne 19, 3) := by decide +kernel
theorem dX11_bounded_8 : decode cX11_bounded 8 = .ok (.lload_n 1, 1) := by decide +kernel
theorem dX11_bounded_9 : decode cX11_bounded 9 = .ok (.ldc2_w 374, 3) := by decide +kernel
theorem dX11_bounded_12 : decode cX11_bounded 12 = .ok (.lcmp, 1) := by decide +kernel
theorem dX11_bounded_13 : decode cX11_bounded 13 = .ok (.ifCond .gt 11, 3) := by decide +kernel
theorem dX11_bounded_16 : decode cX11_bounded 16 = .ok (.lload_n 1, 1) := by decide +kernel
theorem dX11_bounded_17 : decode cX11_bounded 17 = .ok (.ldc2_w 376, 3) := by decide +kernel
theorem dX11_bounded_20 : decode cX11_bounded 20 = .ok (.lcmp, 1) := by decide +kernel
theorem dX11_bounded_21 : decode cX11_bounded 21 = .ok (.ifCond .ge 7, 3) := by decide +kernel
theorem dX11_bounded_24 : decode cX11_bounded 24 = .ok (.iconst 1, 1) := by decide +kernel
theorem dX11_bounded_25 : decode cX11_bounded 25 = .ok (.goto 4, 3) := by decide +kernel
theorem dX11_bounded_28 : decode cX11_bounded 28 = .ok (.iconst 0, 1) := by decide +kernel
theorem dX11_bounded_29 : decode cX11_bounded 29 = .ok (.putfield 371, 3) := by decide +kernel
theorem dX11_bounded_32 : decode cX11_bounded 32 = .ok (.aload_n 0, 1) := by decide +kernel
theorem dX11_bounded_33 : decode cX11_bounded 33 = .ok (.getfield 371, 3) := by decide +kernel
theorem dX11_bounded_36 : decode cX11_bounded 36 = .ok (.ifCond .eq 7, 3) := by decide +kernel
theorem dX11_bounded_39 : decode cX11_bounded 39 = .ok (.lconst 0, 1) := by decide +kernel
theorem dX11_bounded_40 : decode cX11_bounded 40 = .ok (.goto 4, 3) := by decide +kernel
theorem dX11_bounded_43 : decode cX11_bounded 43 = .ok (.lload_n 1, 1) := by decide +kernel
theorem dX11_bounded_44 : decode cX11_bounded 44 = .ok (.lreturn, 1) := by decide +kernel
theorem dX11_compares_0 : decode cX11_compares 0 = .ok (.iload_n 0, 1) := by decide +kernel
theorem dX11_compares_1 : decode cX11_compares 1 = .ok (.tableswitch 95 5 9 #[35, 47, 59, 71, 83], 35) := by decide +kernel
theorem dX11_compares_36 : decode cX11_compares 36 = .ok (.lload_n 1, 1) := by decide +kernel
theorem dX11_compares_37 : decode cX11_compares 37 = .ok (.lload_n 3, 1) := by decide +kernel
theorem dX11_compares_38 : decode cX11_compares 38 = .ok (.lcmp, 1) := by decide +kernel
theorem dX11_compares_39 : decode cX11_compares 39 = .ok (.ifCond .ge 7, 3) := by decide +kernel
theorem dX11_compares_42 : decode cX11_compares 42 = .ok (.iconst 1, 1) := by decide +kernel
theorem dX11_compares_43 : decode cX11_compares 43 = .ok (.goto 4, 3) := by decide +kernel
theorem dX11_compares_46 : decode cX11_compares 46 = .ok (.iconst 0, 1) := by decide +kernel
theorem dX11_compares_47 : decode cX11_compares 47 = .ok (.ireturn, 1) := by decide +kernel
theorem dX11_compares_48 : decode cX11_compares 48 = .ok (.lload_n 1, 1) := by decide +kernel
theorem dX11_compares_49 : decode cX11_compares 49 = .ok (.lload_n 3, 1) := by decide +kernel
theorem dX11_compares_50 : decode cX11_compares 50 = .ok (.lcmp, 1) := by decide +kernel
theorem dX11_compares_51 : decode cX11_compares 51 = .ok (.ifCond .gt 7, 3) := by decide +kernel
theorem dX11_compares_54 : decode cX11_compares 54 = .ok (.iconst 1, 1) := by decide +kernel
theorem dX11_compares_55 : decode cX11_compares 55 = .ok (.goto 4, 3) := by decide +kernel
theorem dX11_compares_58 : decode cX11_compares 58 = .ok (.iconst 0, 1) := by decide +kernel
theorem dX11_compares_59 : decode cX11_compares 59 = .ok (.ireturn, 1) := by decide +kernel
theorem dX11_compares_60 : decode cX11_compares 60 = .ok (.lload_n 1, 1) := by decide +kernel
theorem dX11_compares_61 : decode cX11_compares 61 = .ok (.lload_n 3, 1) := by decide +kernel
theorem dX11_compares_62 : decode cX11_compares 62 = .ok (.lcmp, 1) := by decide +kernel
theorem dX11_compares_63 : decode cX11_compares 63 = .ok (.ifCond .ne 7, 3) := by decide +kernel
theorem dX11_compares_66 : decode cX11_compares 66 = .ok (.iconst 1, 1) := by decide +kernel
theorem dX11_compares_67 : decode cX11_compares 67 = .ok (.goto 4, 3) := by decide +kernel
theorem dX11_compares_70 : decode cX11_compares 70 = .ok (.iconst 0, 1) := by decide +kernel
theorem dX11_compares_71 : decode cX11_compares 71 = .ok (.ireturn, 1) := by decide +kernel
theorem dX11_compares_72 : decode cX11_compares 72 = .ok (.lload_n 1, 1) := by decide +kernel
theorem dX11_compares_73 : decode cX11_compares 73 = .ok (.lload_n 3, 1) := by decide +kernel
theorem dX11_compares_74 : decode cX11_compares 74 = .ok (.lcmp, 1) := by decide +kernel
theorem dX11_compares_75 : decode cX11_compares 75 = .ok (.ifCond .eq 7, 3) := by decide +kernel
theorem dX11_compares_78 : decode cX11_compares 78 = .ok (.iconst 1, 1) := by decide +kernel
theorem dX11_compares_79 : decode cX11_compares 79 = .ok (.goto 4, 3) := by decide +kernel
theorem dX11_compares_82 : decode cX11_compares 82 = .ok (.iconst 0, 1) := by decide +kernel
theorem dX11_compares_83 : decode cX11_compares 83 = .ok (.ireturn, 1) := by decide +kernel
theorem dX11_compares_84 : decode cX11_compares 84 = .ok (.lload_n 1, 1) := by decide +kernel
theorem dX11_compares_85 : decode cX11_compares 85 = .ok (.lload_n 3, 1) := by decide +kernel
theorem dX11_compares_86 : decode cX11_compares 86 = .ok (.lcmp, 1) := by decide +kernel
theorem dX11_compares_87 : decode cX11_compares 87 = .ok (.ifCond .lt 7, 3) := by decide +kernel
theorem dX11_compares_90 : decode cX11_compares 90 = .ok (.iconst 1, 1) := by decide +kernel
theorem dX11_compares_91 : decode cX11_compares 91 = .ok (.goto 4, 3) := by decide +kernel
theorem dX11_compares_94 : decode cX11_compares 94 = .ok (.iconst 0, 1) := by decide +kernel
theorem dX11_compares_95 : decode cX11_compares 95 = .ok (.ireturn, 1) := by decide +kernel
theorem dX11_compares_96 : decode cX11_compares 96 = .ok (.lload_n 1, 1) := by decide +kernel
theorem dX11_compares_97 : decode cX11_compares 97 = .ok (.lload_n 3, 1) := by decide +kernel
theorem dX11_compares_98 : decode cX11_compares 98 = .ok (.lcmp, 1) := by decide +kernel
theorem dX11_compares_99 : decode cX11_compares 99 = .ok (.ifCond .le 7, 3) := by decide +kernel
theorem dX11_compares_102 : decode cX11_compares 102 = .ok (.iconst 1, 1) := by decide +kernel
theorem dX11_compares_103 : decode cX11_compares 103 = .ok (.goto 4, 3) := by decide +kernel
theorem dX11_compares_106 : decode cX11_compares 106 = .ok (.iconst 0, 1) := by decide +kernel
theorem dX11_compares_107 : decode cX11_compares 107 = .ok (.ireturn, 1) := by decide +kernel
theorem dX11_times_0 : decode cX11_times 0 = .ok (.lload_n 1, 1) := by decide +kernel
theorem dX11_times_1 : decode cX11_times 1 = .ok (.lconst 0, 1) := by decide +kernel
theorem dX11_times_2 : decode cX11_times 2 = .ok (.lcmp, 1) := by decide +kernel
theorem dX11_times_3 : decode cX11_times 3 = .ok (.ifCond .eq 45, 3) := by decide +kernel
theorem dX11_times_6 : decode cX11_times 6 = .ok (.lload_n 3, 1) := by decide +kernel
theorem dX11_times_7 : decode cX11_times 7 = .ok (.lconst 0, 1) := by decide +kernel
theorem dX11_times_8 : decode cX11_times 8 = .ok (.lcmp, 1) := by decide +kernel
theorem dX11_times_9 : decode cX11_times 9 = .ok (.ifCond .eq 39, 3) := by decide +kernel
theorem dX11_times_12 : decode cX11_times 12 = .ok (.lload_n 3, 1) := by decide +kernel
theorem dX11_times_13 : decode cX11_times 13 = .ok (.lconst 0, 1) := by decide +kernel
theorem dX11_times_14 : decode cX11_times 14 = .ok (.lcmp, 1) := by decide +kernel
theorem dX11_times_15 : decode cX11_times 15 = .ok (.ifCond .ge 8, 3) := by decide +kernel
theorem dX11_times_18 : decode cX11_times 18 = .ok (.lload_n 3, 1) := by decide +kernel
theorem dX11_times_19 : decode cX11_times 19 = .ok (.lneg, 1) := by decide +kernel
theorem dX11_times_20 : decode cX11_times 20 = .ok (.goto 4, 3) := by decide +kernel
theorem dX11_times_23 : decode cX11_times 23 = .ok (.lload_n 3, 1) := by decide +kernel
theorem dX11_times_24 : decode cX11_times 24 = .ok (.ldc2_w 374, 3) := by decide +kernel
theorem dX11_times_27 : decode cX11_times 27 = .ok (.lload_n 1, 1) := by decide +kernel
theorem dX11_times_28 : decode cX11_times 28 = .ok (.lconst 0, 1) := by decide +kernel
theorem dX11_times_29 : decode cX11_times 29 = .ok (.lcmp, 1) := by decide +kernel
theorem dX11_times_30 : decode cX11_times 30 = .ok (.ifCond .ge 8, 3) := by decide +kernel
theorem dX11_times_33 : decode cX11_times 33 = .ok (.lload_n 1, 1) := by decide +kernel
theorem dX11_times_34 : decode cX11_times 34 = .ok (.lneg, 1) := by decide +kernel
theorem dX11_times_35 : decode cX11_times 35 = .ok (.goto 4, 3) := by decide +kernel
theorem dX11_times_38 : decode cX11_times 38 = .ok (.lload_n 1, 1) := by decide +kernel
theorem dX11_times_39 : decode cX11_times 39 = .ok (.ldiv, 1) := by decide +kernel
theorem dX11_times_40 : decode cX11_times 40 = .ok (.lcmp, 1) := by decide +kernel
theorem dX11_times_41 : decode cX11_times 41 = .ok (.ifCond .le 7, 3) := by decide +kernel
theorem dX11_times_44 : decode cX11_times 44 = .ok (.iconst 1, 1) := by decide +kernel
theorem dX11_times_45 : decode cX11_times 45 = .ok (.goto 4, 3) := by decide +kernel
theorem dX11_times_48 : decode cX11_times 48 = .ok (.iconst 0, 1) := by decide +kernel
theorem dX11_times_49 : decode cX11_times 49 = .ok (.istore 5, 2) := by decide +kernel
theorem dX11_times_51 : decode cX11_times 51 = .ok (.aload_n 0, 1) := by decide +kernel
theorem dX11_times_52 : decode cX11_times 52 = .ok (.aload_n 0, 1) := by decide +kernel
theorem dX11_times_53 : decode cX11_times 53 = .ok (.getfield 371, 3) := by decide +kernel
theorem dX11_times_56 : decode cX11_times 56 = .ok (.ifCond .ne 8, 3) := by decide +kernel
theorem dX11_times_59 : decode cX11_times 59 = .ok (.iload 5, 2) := by decide +kernel
theorem dX11_times_61 : decode cX11_times 61 = .ok (.ifCond .eq 7, 3) := by decide +kernel
theorem dX11_times_64 : decode cX11_times 64 = .ok (.iconst 1, 1) := by decide +kernel
theorem dX11_times_65 : decode cX11_times 65 = .ok (.goto 4, 3) := by decide +kernel
theorem dX11_times_68 : decode cX11_times 68 = .ok (.iconst 0, 1) := by decide +kernel
theorem dX11_times_69 : decode cX11_times 69 = .ok (.putfield 371, 3) := by decide +kernel
theorem dX11_times_72 : decode cX11_times 72 = .ok (.aload_n 0, 1) := by decide +kernel
theorem dX11_times_73 : decode cX11_times 73 = .ok (.getfield 371, 3) := by decide +kernel
theorem dX11_times_76 : decode cX11_times 76 = .ok (.ifCond .eq 7, 3) := by decide +kernel
theorem dX11_times_79 : decode cX11_times 79 = .ok (.lconst 0, 1) := by decide +kernel
theorem dX11_times_80 : decode cX11_times 80 = .ok (.goto 6, 3) := by decide +kernel
theorem dX11_times_83 : decode cX11_times 83 = .ok (.lload_n 1, 1) := by decide +kernel
theorem dX11_times_84 : decode cX11_times 84 = .ok (.lload_n 3, 1) := by decide +kernel
theorem dX11_times_85 : decode cX11_times 85 = .ok (.lmul, 1) := by decide +kernel
theorem dX11_times_86 : decode cX11_times 86 = .ok (.lreturn, 1) := by decide +kernel
theorem dX11_valueOf_0 : decode cX11_valueOf 0 = .ok (.aload_n 0, 1) := by decide +kernel
theorem dX11_valueOf_1 : decode cX11_valueOf 1 = .ok (.getfield 78, 3) := by decide +kernel
theorem dX11_valueOf_4 : decode cX11_valueOf 4 = .ok (.iload_n 1, 1) := by decide +kernel
theorem dX11_valueOf_5 : decode cX11_valueOf 5 = .ok (.iaload, 1) := by decide +kernel
theorem dX11_valueOf_6 : decode cX11_valueOf 6 = .ok (.ifCond .ne 11, 3) := by decide +kernel
theorem dX11_valueOf_9 : decode cX11_valueOf 9 = .ok (.aload_n 0, 1) := by decide +kernel
theorem dX11_valueOf_10 : decode cX11_valueOf 10 = .ok (.getfield 81, 3) := by decide +kernel
theorem dX11_valueOf_13 : decode cX11_valueOf 13 = .ok (.iload_n 1, 1) := by decide +kernel
theorem dX11_valueOf_14 : decode cX11_valueOf 14 = .ok (.iaload, 1) := by decide +kernel
theorem dX11_valueOf_15 : decode cX11_valueOf 15 = .ok (.i2l, 1) := by decide +kernel
theorem dX11_valueOf_16 : decode cX11_valueOf 16 = .ok (.lreturn, 1) := by decide +kernel
theorem dX11_valueOf_17 : decode cX11_valueOf 17 = .ok (.aload_n 0, 1) := by decide +kernel
theorem dX11_valueOf_18 : decode cX11_valueOf 18 = .ok (.getfield 78, 3) := by decide +kernel
theorem dX11_valueOf_21 : decode cX11_valueOf 21 = .ok (.iload_n 1, 1) := by decide +kernel
theorem dX11_valueOf_22 : decode cX11_valueOf 22 = .ok (.iaload, 1) := by decide +kernel
theorem dX11_valueOf_23 : decode cX11_valueOf 23 = .ok (.iconst 1, 1) := by decide +kernel
theorem dX11_valueOf_24 : decode cX11_valueOf 24 = .ok (.if_icmp .ne 15, 3) := by decide +kernel
theorem dX11_valueOf_27 : decode cX11_valueOf 27 = .ok (.aload_n 0, 1) := by decide +kernel
theorem dX11_valueOf_28 : decode cX11_valueOf 28 = .ok (.getfield 93, 3) := by decide +kernel
theorem dX11_valueOf_31 : decode cX11_valueOf 31 = .ok (.aload_n 0, 1) := by decide +kernel
theorem dX11_valueOf_32 : decode cX11_valueOf 32 = .ok (.getfield 81, 3) := by decide +kernel
theorem dX11_valueOf_35 : decode cX11_valueOf 35 = .ok (.iload_n 1, 1) := by decide +kernel
theorem dX11_valueOf_36 : decode cX11_valueOf 36 = .ok (.iaload, 1) := by decide +kernel
theorem dX11_valueOf_37 : decode cX11_valueOf 37 = .ok (.laload, 1) := by decide +kernel
theorem dX11_valueOf_38 : decode cX11_valueOf 38 = .ok (.lreturn, 1) := by decide +kernel
theorem dX11_valueOf_39 : decode cX11_valueOf 39 = .ok (.aload_n 0, 1) := by decide +kernel
theorem dX11_valueOf_40 : decode cX11_valueOf 40 = .ok (.getfield 97, 3) := by decide +kernel
theorem dX11_valueOf_43 : decode cX11_valueOf 43 = .ok (.aload_n 0, 1) := by decide +kernel
theorem dX11_valueOf_44 : decode cX11_valueOf 44 = .ok (.getfield 81, 3) := by decide +kernel
theorem dX11_valueOf_47 : decode cX11_valueOf 47 = .ok (.iload_n 1, 1) := by decide +kernel
theorem dX11_valueOf_48 : decode cX11_valueOf 48 = .ok (.iaload, 1) := by decide +kernel
theorem dX11_valueOf_49 : decode cX11_valueOf 49 = .ok (.laload, 1) := by decide +kernel
theorem dX11_valueOf_50 : decode cX11_valueOf 50 = .ok (.lstore_n 2, 1) := by decide +kernel
theorem dX11_valueOf_51 : decode cX11_valueOf 51 = .ok (.aload_n 0, 1) := by decide +kernel
theorem dX11_valueOf_52 : decode cX11_valueOf 52 = .ok (.getfield 78, 3) := by decide +kernel
theorem dX11_valueOf_55 : decode cX11_valueOf 55 = .ok (.iload_n 1, 1) := by decide +kernel
theorem dX11_valueOf_56 : decode cX11_valueOf 56 = .ok (.iaload, 1) := by decide +kernel
theorem dX11_valueOf_57 : decode cX11_valueOf 57 = .ok (.iconst 2, 1) := by decide +kernel
theorem dX11_valueOf_58 : decode cX11_valueOf 58 = .ok (.if_icmp .ne 15, 3) := by decide +kernel
theorem dX11_valueOf_61 : decode cX11_valueOf 61 = .ok (.lload_n 2, 1) := by decide +kernel
theorem dX11_valueOf_62 : decode cX11_valueOf 62 = .ok (.lconst 0, 1) := by decide +kernel
theorem dX11_valueOf_63 : decode cX11_valueOf 63 = .ok (.lcmp, 1) := by decide +kernel
theorem dX11_valueOf_64 : decode cX11_valueOf 64 = .ok (.ifCond .ne 7, 3) := by decide +kernel
theorem dX11_valueOf_67 : decode cX11_valueOf 67 = .ok (.lconst 1, 1) := by decide +kernel
theorem dX11_valueOf_68 : decode cX11_valueOf 68 = .ok (.goto 4, 3) := by decide +kernel
theorem dX11_valueOf_71 : decode cX11_valueOf 71 = .ok (.lconst 0, 1) := by decide +kernel
theorem dX11_valueOf_72 : decode cX11_valueOf 72 = .ok (.lreturn, 1) := by decide +kernel
theorem dX11_valueOf_73 : decode cX11_valueOf 73 = .ok (.aload_n 0, 1) := by decide +kernel
theorem dX11_valueOf_74 : decode cX11_valueOf 74 = .ok (.getfield 97, 3) := by decide +kernel
theorem dX11_valueOf_77 : decode cX11_valueOf 77 = .ok (.aload_n 0, 1) := by decide +kernel
theorem dX11_valueOf_78 : decode cX11_valueOf 78 = .ok (.getfield 84, 3) := by decide +kernel
theorem dX11_valueOf_81 : decode cX11_valueOf 81 = .ok (.iload_n 1, 1) := by decide +kernel
theorem dX11_valueOf_82 : decode cX11_valueOf 82 = .ok (.iaload, 1) := by decide +kernel
theorem dX11_valueOf_83 : decode cX11_valueOf 83 = .ok (.laload, 1) := by decide +kernel
theorem dX11_valueOf_84 : decode cX11_valueOf 84 = .ok (.lstore 4, 2) := by decide +kernel
theorem dX11_valueOf_86 : decode cX11_valueOf 86 = .ok (.aload_n 0, 1) := by decide +kernel
theorem dX11_valueOf_87 : decode cX11_valueOf 87 = .ok (.getfield 78, 3) := by decide +kernel
theorem dX11_valueOf_90 : decode cX11_valueOf 90 = .ok (.iload_n 1, 1) := by decide +kernel
theorem dX11_valueOf_91 : decode cX11_valueOf 91 = .ok (.iaload, 1) := by decide +kernel
theorem dX11_valueOf_92 : decode cX11_valueOf 92 = .ok (.tableswitch 167 3 14 #[64, 83, 167, 167, 167, 167, 167, 167, 102, 111, 120, 128], 64) := by decide +kernel
theorem dX11_valueOf_156 : decode cX11_valueOf 156 = .ok (.lload_n 2, 1) := by decide +kernel
theorem dX11_valueOf_157 : decode cX11_valueOf 157 = .ok (.lconst 0, 1) := by decide +kernel
theorem dX11_valueOf_158 : decode cX11_valueOf 158 = .ok (.lcmp, 1) := by decide +kernel
theorem dX11_valueOf_159 : decode cX11_valueOf 159 = .ok (.ifCond .eq 14, 3) := by decide +kernel
theorem dX11_valueOf_162 : decode cX11_valueOf 162 = .ok (.lload 4, 2) := by decide +kernel
theorem dX11_valueOf_164 : decode cX11_valueOf 164 = .ok (.lconst 0, 1) := by decide +kernel
theorem dX11_valueOf_165 : decode cX11_valueOf 165 = .ok (.lcmp, 1) := by decide +kernel
theorem dX11_valueOf_166 : decode cX11_valueOf 166 = .ok (.ifCond .eq 7, 3) := by decide +kernel
theorem dX11_valueOf_169 : decode cX11_valueOf 169 = .ok (.lconst 1, 1) := by decide +kernel
theorem dX11_valueOf_170 : decode cX11_valueOf 170 = .ok (.goto 4, 3) := by decide +kernel
theorem dX11_valueOf_173 : decode cX11_valueOf 173 = .ok (.lconst 0, 1) := by decide +kernel
theorem dX11_valueOf_174 : decode cX11_valueOf 174 = .ok (.lreturn, 1) := by decide +kernel
theorem dX11_valueOf_175 : decode cX11_valueOf 175 = .ok (.lload_n 2, 1) := by decide +kernel
theorem dX11_valueOf_176 : decode cX11_valueOf 176 = .ok (.lconst 0, 1) := by decide +kernel
theorem dX11_valueOf_177 : decode cX11_valueOf 177 = .ok (.lcmp, 1) := by decide +kernel
theorem dX11_valueOf_178 : decode cX11_valueOf 178 = .ok (.ifCond .ne 10, 3) := by decide +kernel
theorem dX11_valueOf_181 : decode cX11_valueOf 181 = .ok (.lload 4, 2) := by decide +kernel
theorem dX11_valueOf_183 : decode cX11_valueOf 183 = .ok (.lconst 0, 1) := by decide +kernel
theorem dX11_valueOf_184 : decode cX11_valueOf 184 = .ok (.lcmp, 1) := by decide +kernel
theorem dX11_valueOf_185 : decode cX11_valueOf 185 = .ok (.ifCond .eq 7, 3) := by decide +kernel
theorem dX11_valueOf_188 : decode cX11_valueOf 188 = .ok (.lconst 1, 1) := by decide +kernel
theorem dX11_valueOf_189 : decode cX11_valueOf 189 = .ok (.goto 4, 3) := by decide +kernel
theorem dX11_valueOf_192 : decode cX11_valueOf 192 = .ok (.lconst 0, 1) := by decide +kernel
theorem dX11_valueOf_193 : decode cX11_valueOf 193 = .ok (.lreturn, 1) := by decide +kernel
theorem dX11_valueOf_194 : decode cX11_valueOf 194 = .ok (.aload_n 0, 1) := by decide +kernel
theorem dX11_valueOf_195 : decode cX11_valueOf 195 = .ok (.lload_n 2, 1) := by decide +kernel
theorem dX11_valueOf_196 : decode cX11_valueOf 196 = .ok (.lload 4, 2) := by decide +kernel
theorem dX11_valueOf_198 : decode cX11_valueOf 198 = .ok (.ladd, 1) := by decide +kernel
theorem dX11_valueOf_199 : decode cX11_valueOf 199 = .ok (.invokevirtual 378, 3) := by decide +kernel
theorem dX11_valueOf_202 : decode cX11_valueOf 202 = .ok (.lreturn, 1) := by decide +kernel
theorem dX11_valueOf_203 : decode cX11_valueOf 203 = .ok (.aload_n 0, 1) := by decide +kernel
theorem dX11_valueOf_204 : decode cX11_valueOf 204 = .ok (.lload_n 2, 1) := by decide +kernel
theorem dX11_valueOf_205 : decode cX11_valueOf 205 = .ok (.lload 4, 2) := by decide +kernel
theorem dX11_valueOf_207 : decode cX11_valueOf 207 = .ok (.lsub, 1) := by decide +kernel
theorem dX11_valueOf_208 : decode cX11_valueOf 208 = .ok (.invokevirtual 378, 3) := by decide +kernel
theorem dX11_valueOf_211 : decode cX11_valueOf 211 = .ok (.lreturn, 1) := by decide +kernel
theorem dX11_valueOf_212 : decode cX11_valueOf 212 = .ok (.aload_n 0, 1) := by decide +kernel
theorem dX11_valueOf_213 : decode cX11_valueOf 213 = .ok (.lload_n 2, 1) := by decide +kernel
theorem dX11_valueOf_214 : decode cX11_valueOf 214 = .ok (.lload 4, 2) := by decide +kernel
theorem dX11_valueOf_216 : decode cX11_valueOf 216 = .ok (.invokevirtual 382, 3) := by decide +kernel
theorem dX11_valueOf_219 : decode cX11_valueOf 219 = .ok (.lreturn, 1) := by decide +kernel
theorem dX11_valueOf_220 : decode cX11_valueOf 220 = .ok (.aload_n 0, 1) := by decide +kernel
theorem dX11_valueOf_221 : decode cX11_valueOf 221 = .ok (.aload_n 0, 1) := by decide +kernel
theorem dX11_valueOf_222 : decode cX11_valueOf 222 = .ok (.getfield 371, 3) := by decide +kernel
theorem dX11_valueOf_225 : decode cX11_valueOf 225 = .ok (.ifCond .ne 10, 3) := by decide +kernel
theorem dX11_valueOf_228 : decode cX11_valueOf 228 = .ok (.lload 4, 2) := by decide +kernel
theorem dX11_valueOf_230 : decode cX11_valueOf 230 = .ok (.lconst 0, 1) := by decide +kernel
theorem dX11_valueOf_231 : decode cX11_valueOf 231 = .ok (.lcmp, 1) := by decide +kernel
theorem dX11_valueOf_232 : decode cX11_valueOf 232 = .ok (.ifCond .ne 7, 3) := by decide +kernel
theorem dX11_valueOf_235 : decode cX11_valueOf 235 = .ok (.iconst 1, 1) := by decide +kernel
theorem dX11_valueOf_236 : decode cX11_valueOf 236 = .ok (.goto 4, 3) := by decide +kernel
theorem dX11_valueOf_239 : decode cX11_valueOf 239 = .ok (.iconst 0, 1) := by decide +kernel
theorem dX11_valueOf_240 : decode cX11_valueOf 240 = .ok (.putfield 371, 3) := by decide +kernel
theorem dX11_valueOf_243 : decode cX11_valueOf 243 = .ok (.aload_n 0, 1) := by decide +kernel
theorem dX11_valueOf_244 : decode cX11_valueOf 244 = .ok (.getfield 371, 3) := by decide +kernel
theorem dX11_valueOf_247 : decode cX11_valueOf 247 = .ok (.ifCond .eq 7, 3) := by decide +kernel
theorem dX11_valueOf_250 : decode cX11_valueOf 250 = .ok (.lconst 0, 1) := by decide +kernel
theorem dX11_valueOf_251 : decode cX11_valueOf 251 = .ok (.goto 7, 3) := by decide +kernel
theorem dX11_valueOf_254 : decode cX11_valueOf 254 = .ok (.lload_n 2, 1) := by decide +kernel
theorem dX11_valueOf_255 : decode cX11_valueOf 255 = .ok (.lload 4, 2) := by decide +kernel
theorem dX11_valueOf_257 : decode cX11_valueOf 257 = .ok (.ldiv, 1) := by decide +kernel
theorem dX11_valueOf_258 : decode cX11_valueOf 258 = .ok (.lreturn, 1) := by decide +kernel
theorem dX11_valueOf_259 : decode cX11_valueOf 259 = .ok (.aload_n 0, 1) := by decide +kernel
theorem dX11_valueOf_260 : decode cX11_valueOf 260 = .ok (.getfield 78, 3) := by decide +kernel
theorem dX11_valueOf_263 : decode cX11_valueOf 263 = .ok (.iload_n 1, 1) := by decide +kernel
theorem dX11_valueOf_264 : decode cX11_valueOf 264 = .ok (.iaload, 1) := by decide +kernel
theorem dX11_valueOf_265 : decode cX11_valueOf 265 = .ok (.lload_n 2, 1) := by decide +kernel
theorem dX11_valueOf_266 : decode cX11_valueOf 266 = .ok (.lload 4, 2) := by decide +kernel
theorem dX11_valueOf_268 : decode cX11_valueOf 268 = .ok (.invokestatic 386, 3) := by decide +kernel
theorem dX11_valueOf_271 : decode cX11_valueOf 271 = .ok (.ifCond .eq 7, 3) := by decide +kernel
theorem dX11_valueOf_274 : decode cX11_valueOf 274 = .ok (.lconst 1, 1) := by decide +kernel
theorem dX11_valueOf_275 : decode cX11_valueOf 275 = .ok (.goto 4, 3) := by decide +kernel
theorem dX11_valueOf_278 : decode cX11_valueOf 278 = .ok (.lconst 0, 1) := by decide +kernel
theorem dX11_valueOf_279 : decode cX11_valueOf 279 = .ok (.lreturn, 1) := by decide +kernel
theorem dX11_begin_0 : decode cX11_begin 0 = .ok (.aload_n 0, 1) := by decide +kernel
theorem dX11_begin_1 : decode cX11_begin 1 = .ok (.iconst 0, 1) := by decide +kernel
theorem dX11_begin_2 : decode cX11_begin 2 = .ok (.invokevirtual 390, 3) := by decide +kernel
theorem dX11_begin_5 : decode cX11_begin 5 = .ok (.aload_n 0, 1) := by decide +kernel
theorem dX11_begin_6 : decode cX11_begin 6 = .ok (.aload_n 0, 1) := by decide +kernel
theorem dX11_begin_7 : decode cX11_begin 7 = .ok (.getfield 24, 3) := by decide +kernel
theorem dX11_begin_10 : decode cX11_begin 10 = .ok (.iconst 1, 1) := by decide +kernel
theorem dX11_begin_11 : decode cX11_begin 11 = .ok (.iaload, 1) := by decide +kernel
theorem dX11_begin_12 : decode cX11_begin 12 = .ok (.i2l, 1) := by decide +kernel
theorem dX11_begin_13 : decode cX11_begin 13 = .ok (.putfield 393, 3) := by decide +kernel
theorem dX11_begin_16 : decode cX11_begin 16 = .ok (.aload_n 0, 1) := by decide +kernel
theorem dX11_begin_17 : decode cX11_begin 17 = .ok (.invokevirtual 397, 3) := by decide +kernel
theorem dX11_begin_20 : decode cX11_begin 20 = .ok (.aload_n 0, 1) := by decide +kernel
theorem dX11_begin_21 : decode cX11_begin 21 = .ok (.iconst 0, 1) := by decide +kernel
theorem dX11_begin_22 : decode cX11_begin 22 = .ok (.putfield 400, 3) := by decide +kernel
theorem dX11_begin_25 : decode cX11_begin 25 = .ok (.aload_n 0, 1) := by decide +kernel
theorem dX11_begin_26 : decode cX11_begin 26 = .ok (.iconst (-1), 1) := by decide +kernel
theorem dX11_begin_27 : decode cX11_begin 27 = .ok (.putfield 157, 3) := by decide +kernel
theorem dX11_begin_30 : decode cX11_begin 30 = .ok (.aload_n 0, 1) := by decide +kernel
theorem dX11_begin_31 : decode cX11_begin 31 = .ok (.iconst 0, 1) := by decide +kernel
theorem dX11_begin_32 : decode cX11_begin 32 = .ok (.putfield 403, 3) := by decide +kernel
theorem dX11_begin_35 : decode cX11_begin 35 = .ok (.aload_n 0, 1) := by decide +kernel
theorem dX11_begin_36 : decode cX11_begin 36 = .ok (.iconst 0, 1) := by decide +kernel
theorem dX11_begin_37 : decode cX11_begin 37 = .ok (.putfield 406, 3) := by decide +kernel
theorem dX11_begin_40 : decode cX11_begin 40 = .ok (.return_, 1) := by decide +kernel
theorem dX11_plainTried_0 : decode cX11_plainTried 0 = .ok (.aload_n 0, 1) := by decide +kernel
theorem dX11_plainTried_1 : decode cX11_plainTried 1 = .ok (.iconst 0, 1) := by decide +kernel
theorem dX11_plainTried_2 : decode cX11_plainTried 2 = .ok (.putfield 409, 3) := by decide +kernel
theorem dX11_plainTried_5 : decode cX11_plainTried 5 = .ok (.aload_n 0, 1) := by decide +kernel
theorem dX11_plainTried_6 : decode cX11_plainTried 6 = .ok (.iconst 0, 1) := by decide +kernel
theorem dX11_plainTried_7 : decode cX11_plainTried 7 = .ok (.putfield 412, 3) := by decide +kernel
theorem dX11_plainTried_10 : decode cX11_plainTried 10 = .ok (.aload_n 0, 1) := by decide +kernel
theorem dX11_plainTried_11 : decode cX11_plainTried 11 = .ok (.iconst 0, 1) := by decide +kernel
theorem dX11_plainTried_12 : decode cX11_plainTried 12 = .ok (.putfield 415, 3) := by decide +kernel
theorem dX11_plainTried_15 : decode cX11_plainTried 15 = .ok (.return_, 1) := by decide +kernel
theorem dX11_atFirst_0 : decode cX11_atFirst 0 = .ok (.iconst 0, 1) := by decide +kernel
theorem dX11_atFirst_1 : decode cX11_atFirst 1 = .ok (.istore_n 2, 1) := by decide +kernel
theorem dX11_atFirst_2 : decode cX11_atFirst 2 = .ok (.iload_n 2, 1) := by decide +kernel
theorem dX11_atFirst_3 : decode cX11_atFirst 3 = .ok (.bipush 6, 2) := by decide +kernel
theorem dX11_atFirst_5 : decode cX11_atFirst 5 = .ok (.if_icmp .ge 43, 3) := by decide +kernel
theorem dX11_atFirst_8 : decode cX11_atFirst 8 = .ok (.aload_n 0, 1) := by decide +kernel
theorem dX11_atFirst_9 : decode cX11_atFirst 9 = .ok (.getfield 100, 3) := by decide +kernel
theorem dX11_atFirst_12 : decode cX11_atFirst 12 = .ok (.bipush 6, 2) := by decide +kernel
theorem dX11_atFirst_14 : decode cX11_atFirst 14 = .ok (.iload_n 1, 1) := by decide +kernel
theorem dX11_atFirst_15 : decode cX11_atFirst 15 = .ok (.imul, 1) := by decide +kernel
theorem dX11_atFirst_16 : decode cX11_atFirst 16 = .ok (.iload_n 2, 1) := by decide +kernel
theorem dX11_atFirst_17 : decode cX11_atFirst 17 = .ok (.iadd, 1) := by decide +kernel
theorem dX11_atFirst_18 : decode cX11_atFirst 18 = .ok (.aload_n 0, 1) := by decide +kernel
theorem dX11_atFirst_19 : decode cX11_atFirst 19 = .ok (.getfield 33, 3) := by decide +kernel
theorem dX11_atFirst_22 : decode cX11_atFirst 22 = .ok (.iload_n 2, 1) := by decide +kernel
theorem dX11_atFirst_23 : decode cX11_atFirst 23 = .ok (.iaload, 1) := by decide +kernel
theorem dX11_atFirst_24 : decode cX11_atFirst 24 = .ok (.iastore, 1) := by decide +kernel
theorem dX11_atFirst_25 : decode cX11_atFirst 25 = .ok (.aload_n 0, 1) := by decide +kernel
theorem dX11_atFirst_26 : decode cX11_atFirst 26 = .ok (.getfield 103, 3) := by decide +kernel
theorem dX11_atFirst_29 : decode cX11_atFirst 29 = .ok (.bipush 6, 2) := by decide +kernel
theorem dX11_atFirst_31 : decode cX11_atFirst 31 = .ok (.iload_n 1, 1) := by decide +kernel
theorem dX11_atFirst_32 : decode cX11_atFirst 32 = .ok (.imul, 1) := by decide +kernel
theorem dX11_atFirst_33 : decode cX11_atFirst 33 = .ok (.iload_n 2, 1) := by decide +kernel
theorem dX11_atFirst_34 : decode cX11_atFirst 34 = .ok (.iadd, 1) := by decide +kernel
theorem dX11_atFirst_35 : decode cX11_atFirst 35 = .ok (.aload_n 0, 1) := by decide +kernel
theorem dX11_atFirst_36 : decode cX11_atFirst 36 = .ok (.getfield 30, 3) := by decide +kernel
theorem dX11_atFirst_39 : decode cX11_atFirst 39 = .ok (.iload_n 2, 1) := by decide +kernel
theorem dX11_atFirst_40 : decode cX11_atFirst 40 = .ok (.iaload, 1) := by decide +kernel
theorem dX11_atFirst_41 : decode cX11_atFirst 41 = .ok (.iastore, 1) := by decide +kernel
theorem dX11_atFirst_42 : decode cX11_atFirst 42 = .ok (.iinc 2 1, 3) := by decide +kernel
theorem dX11_atFirst_45 : decode cX11_atFirst 45 = .ok (.goto (-43), 3) := by decide +kernel
theorem dX11_atFirst_48 : decode cX11_atFirst 48 = .ok (.aload_n 0, 1) := by decide +kernel
theorem dX11_atFirst_49 : decode cX11_atFirst 49 = .ok (.getfield 106, 3) := by decide +kernel
theorem dX11_atFirst_52 : decode cX11_atFirst 52 = .ok (.iload_n 1, 1) := by decide +kernel
theorem dX11_atFirst_53 : decode cX11_atFirst 53 = .ok (.aload_n 0, 1) := by decide +kernel
theorem dX11_atFirst_54 : decode cX11_atFirst 54 = .ok (.getfield 273, 3) := by decide +kernel
theorem dX11_atFirst_57 : decode cX11_atFirst 57 = .ok (.iastore, 1) := by decide +kernel
theorem dX11_atFirst_58 : decode cX11_atFirst 58 = .ok (.iconst 0, 1) := by decide +kernel
theorem dX11_atFirst_59 : decode cX11_atFirst 59 = .ok (.istore_n 2, 1) := by decide +kernel
theorem dX11_atFirst_60 : decode cX11_atFirst 60 = .ok (.iload_n 2, 1) := by decide +kernel
theorem dX11_atFirst_61 : decode cX11_atFirst 61 = .ok (.aload_n 0, 1) := by decide +kernel
theorem dX11_atFirst_62 : decode cX11_atFirst 62 = .ok (.getfield 273, 3) := by decide +kernel
theorem dX11_atFirst_65 : decode cX11_atFirst 65 = .ok (.if_icmp .ge 136, 3) := by decide +kernel
theorem dX11_atFirst_68 : decode cX11_atFirst 68 = .ok (.iload_n 1, 1) := by decide +kernel
theorem dX11_atFirst_69 : decode cX11_atFirst 69 = .ok (.ifCond .ne 46, 3) := by decide +kernel
theorem dX11_atFirst_72 : decode cX11_atFirst 72 = .ok (.aload_n 0, 1) := by decide +kernel
theorem dX11_atFirst_73 : decode cX11_atFirst 73 = .ok (.getfield 109, 3) := by decide +kernel
theorem dX11_atFirst_76 : decode cX11_atFirst 76 = .ok (.iload_n 2, 1) := by decide +kernel
theorem dX11_atFirst_77 : decode cX11_atFirst 77 = .ok (.aload_n 0, 1) := by decide +kernel
theorem dX11_atFirst_78 : decode cX11_atFirst 78 = .ok (.getfield 39, 3) := by decide +kernel
theorem dX11_atFirst_81 : decode cX11_atFirst 81 = .ok (.iload_n 2, 1) := by decide +kernel
theorem dX11_atFirst_82 : decode cX11_atFirst 82 = .ok (.iaload, 1) := by decide +kernel
theorem dX11_atFirst_83 : decode cX11_atFirst 83 = .ok (.iastore, 1) := by decide +kernel
theorem dX11_atFirst_84 : decode cX11_atFirst 84 = .ok (.aload_n 0, 1) := by decide +kernel
theorem dX11_atFirst_85 : decode cX11_atFirst 85 = .ok (.getfield 112, 3) := by decide +kernel
theorem dX11_atFirst_88 : decode cX11_atFirst 88 = .ok (.iload_n 2, 1) := by decide +kernel
theorem dX11_atFirst_89 : decode cX11_atFirst 89 = .ok (.aload_n 0, 1) := by decide +kernel
theorem dX11_atFirst_90 : decode cX11_atFirst 90 = .ok (.getfield 42, 3) := by decide +kernel
theorem dX11_atFirst_93 : decode cX11_atFirst 93 = .ok (.iload_n 2, 1) := by decide +kernel
theorem dX11_atFirst_94 : decode cX11_atFirst 94 = .ok (.iaload, 1) := by decide +kernel
theorem dX11_atFirst_95 : decode cX11_atFirst 95 = .ok (.iastore, 1) := by decide +kernel
theorem dX11_atFirst_96 : decode cX11_atFirst 96 = .ok (.aload_n 0, 1) := by decide +kernel
theorem dX11_atFirst_97 : decode cX11_atFirst 97 = .ok (.getfield 115, 3) := by decide +kernel
theorem dX11_atFirst_100 : decode cX11_atFirst 100 = .ok (.iload_n 2, 1) := by decide +kernel
theorem dX11_atFirst_101 : decode cX11_atFirst 101 = .ok (.iconst 0, 1) := by decide +kernel
theorem dX11_atFirst_102 : decode cX11_atFirst 102 = .ok (.iastore, 1) := by decide +kernel
theorem dX11_atFirst_103 : decode cX11_atFirst 103 = .ok (.aload_n 0, 1) := by decide +kernel
theorem dX11_atFirst_104 : decode cX11_atFirst 104 = .ok (.getfield 118, 3) := by decide +kernel
theorem dX11_atFirst_107 : decode cX11_atFirst 107 = .ok (.iload_n 2, 1) := by decide +kernel
theorem dX11_atFirst_108 : decode cX11_atFirst 108 = .ok (.aload_n 0, 1) := by decide +kernel
theorem dX11_atFirst_109 : decode cX11_atFirst 109 = .ok (.getfield 51, 3) := by decide +kernel
theorem dX11_atFirst_112 : decode cX11_atFirst 112 = .ok (.iload_n 2, 1) := by decide +kernel
theorem dX11_atFirst_113 : decode cX11_atFirst 113 = .ok (.iaload, 1) := by decide +kernel
theorem dX11_atFirst_114 : decode cX11_atFirst 114 = .ok (.iastore, 1) := by decide +kernel
theorem dX11_atFirst_115 : decode cX11_atFirst 115 = .ok (.aload_n 0, 1) := by decide +kernel
theorem dX11_atFirst_116 : decode cX11_atFirst 116 = .ok (.getfield 121, 3) := by decide +kernel
theorem dX11_atFirst_119 : decode cX11_atFirst 119 = .ok (.bipush 12, 2) := by decide +kernel
theorem dX11_atFirst_121 : decode cX11_atFirst 121 = .ok (.iload_n 1, 1) := by decide +kernel
theorem dX11_atFirst_122 : decode cX11_atFirst 122 = .ok (.imul, 1) := by decide +kernel
theorem dX11_atFirst_123 : decode cX11_atFirst 123 = .ok (.iload_n 2, 1) := by decide +kernel
theorem dX11_atFirst_124 : decode cX11_atFirst 124 = .ok (.iadd, 1) := by decide +kernel
theorem dX11_atFirst_125 : decode cX11_atFirst 125 = .ok (.aload_n 0, 1) := by decide +kernel
theorem dX11_atFirst_126 : decode cX11_atFirst 126 = .ok (.getfield 45, 3) := by decide +kernel
theorem dX11_atFirst_129 : decode cX11_atFirst 129 = .ok (.iload_n 2, 1) := by decide +kernel
theorem dX11_atFirst_130 : decode cX11_atFirst 130 = .ok (.iaload, 1) := by decide +kernel
theorem dX11_atFirst_131 : decode cX11_atFirst 131 = .ok (.iastore, 1) := by decide +kernel
theorem dX11_atFirst_132 : decode cX11_atFirst 132 = .ok (.aload_n 0, 1) := by decide +kernel
theorem dX11_atFirst_133 : decode cX11_atFirst 133 = .ok (.getfield 124, 3) := by decide +kernel
theorem dX11_atFirst_136 : decode cX11_atFirst 136 = .ok (.bipush 12, 2) := by decide +kernel
theorem dX11_atFirst_138 : decode cX11_atFirst 138 = .ok (.iload_n 1, 1) := by decide +kernel
theorem dX11_atFirst_139 : decode cX11_atFirst 139 = .ok (.imul, 1) := by decide +kernel
theorem dX11_atFirst_140 : decode cX11_atFirst 140 = .ok (.iload_n 2, 1) := by decide +kernel
theorem dX11_atFirst_141 : decode cX11_atFirst 141 = .ok (.iadd, 1) := by decide +kernel
theorem dX11_atFirst_142 : decode cX11_atFirst 142 = .ok (.aload_n 0, 1) := by decide +kernel
theorem dX11_atFirst_143 : decode cX11_atFirst 143 = .ok (.getfield 48, 3) := by decide +kernel
theorem dX11_atFirst_146 : decode cX11_atFirst 146 = .ok (.iload_n 2, 1) := by decide +kernel
theorem dX11_atFirst_147 : decode cX11_atFirst 147 = .ok (.iaload, 1) := by decide +kernel
theorem dX11_atFirst_148 : decode cX11_atFirst 148 = .ok (.iastore, 1) := by decide +kernel
theorem dX11_atFirst_149 : decode cX11_atFirst 149 = .ok (.aload_n 0, 1) := by decide +kernel
theorem dX11_atFirst_150 : decode cX11_atFirst 150 = .ok (.getfield 127, 3) := by decide +kernel
theorem dX11_atFirst_153 : decode cX11_atFirst 153 = .ok (.bipush 12, 2) := by decide +kernel
theorem dX11_atFirst_155 : decode cX11_atFirst 155 = .ok (.iload_n 1, 1) := by decide +kernel
theorem dX11_atFirst_156 : decode cX11_atFirst 156 = .ok (.imul, 1) := by decide +kernel
theorem dX11_atFirst_157 : decode cX11_atFirst 157 = .ok (.iload_n 2, 1) := by decide +kernel
theorem dX11_atFirst_158 : decode cX11_atFirst 158 = .ok (.iadd, 1) := by decide +kernel
theorem dX11_atFirst_159 : decode cX11_atFirst 159 = .ok (.iconst 0, 1) := by decide +kernel
theorem dX11_atFirst_160 : decode cX11_atFirst 160 = .ok (.iastore, 1) := by decide +kernel
theorem dX11_atFirst_161 : decode cX11_atFirst 161 = .ok (.aload_n 0, 1) := by decide +kernel
theorem dX11_atFirst_162 : decode cX11_atFirst 162 = .ok (.getfield 130, 3) := by decide +kernel
theorem dX11_atFirst_165 : decode cX11_atFirst 165 = .ok (.bipush 12, 2) := by decide +kernel
theorem dX11_atFirst_167 : decode cX11_atFirst 167 = .ok (.iload_n 1, 1) := by decide +kernel
theorem dX11_atFirst_168 : decode cX11_atFirst 168 = .ok (.imul, 1) := by decide +kernel
theorem dX11_atFirst_169 : decode cX11_atFirst 169 = .ok (.iload_n 2, 1) := by decide +kernel
theorem dX11_atFirst_170 : decode cX11_atFirst 170 = .ok (.iadd, 1) := by decide +kernel
theorem dX11_atFirst_171 : decode cX11_atFirst 171 = .ok (.aload_n 0, 1) := by decide +kernel
theorem dX11_atFirst_172 : decode cX11_atFirst 172 = .ok (.getfield 57, 3) := by decide +kernel
theorem dX11_atFirst_175 : decode cX11_atFirst 175 = .ok (.iload_n 2, 1) := by decide +kernel
theorem dX11_atFirst_176 : decode cX11_atFirst 176 = .ok (.iaload, 1) := by decide +kernel
theorem dX11_atFirst_177 : decode cX11_atFirst 177 = .ok (.iastore, 1) := by decide +kernel
theorem dX11_atFirst_178 : decode cX11_atFirst 178 = .ok (.aload_n 0, 1) := by decide +kernel
theorem dX11_atFirst_179 : decode cX11_atFirst 179 = .ok (.getfield 133, 3) := by decide +kernel
theorem dX11_atFirst_182 : decode cX11_atFirst 182 = .ok (.bipush 12, 2) := by decide +kernel
theorem dX11_atFirst_184 : decode cX11_atFirst 184 = .ok (.iload_n 1, 1) := by decide +kernel
theorem dX11_atFirst_185 : decode cX11_atFirst 185 = .ok (.imul, 1) := by decide +kernel
theorem dX11_atFirst_186 : decode cX11_atFirst 186 = .ok (.iload_n 2, 1) := by decide +kernel
theorem dX11_atFirst_187 : decode cX11_atFirst 187 = .ok (.iadd, 1) := by decide +kernel
theorem dX11_atFirst_188 : decode cX11_atFirst 188 = .ok (.aload_n 0, 1) := by decide +kernel
theorem dX11_atFirst_189 : decode cX11_atFirst 189 = .ok (.getfield 54, 3) := by decide +kernel
theorem dX11_atFirst_192 : decode cX11_atFirst 192 = .ok (.iload_n 2, 1) := by decide +kernel
theorem dX11_atFirst_193 : decode cX11_atFirst 193 = .ok (.iaload, 1) := by decide +kernel
theorem dX11_atFirst_194 : decode cX11_atFirst 194 = .ok (.iastore, 1) := by decide +kernel
theorem dX11_atFirst_195 : decode cX11_atFirst 195 = .ok (.iinc 2 1, 3) := by decide +kernel
theorem dX11_atFirst_198 : decode cX11_atFirst 198 = .ok (.goto (-138), 3) := by decide +kernel
theorem dX11_atFirst_201 : decode cX11_atFirst 201 = .ok (.iconst 0, 1) := by decide +kernel
theorem dX11_atFirst_202 : decode cX11_atFirst 202 = .ok (.istore_n 2, 1) := by decide +kernel
theorem dX11_atFirst_203 : decode cX11_atFirst 203 = .ok (.iload_n 2, 1) := by decide +kernel
theorem dX11_atFirst_204 : decode cX11_atFirst 204 = .ok (.bipush 8, 2) := by decide +kernel
theorem dX11_atFirst_206 : decode cX11_atFirst 206 = .ok (.if_icmp .ge 21, 3) := by decide +kernel
theorem dX11_atFirst_209 : decode cX11_atFirst 209 = .ok (.aload_n 0, 1) := by decide +kernel
theorem dX11_atFirst_210 : decode cX11_atFirst 210 = .ok (.getfield 136, 3) := by decide +kernel
theorem dX11_atFirst_213 : decode cX11_atFirst 213 = .ok (.bipush 8, 2) := by decide +kernel
theorem dX11_atFirst_215 : decode cX11_atFirst 215 = .ok (.iload_n 1, 1) := by decide +kernel
theorem dX11_atFirst_216 : decode cX11_atFirst 216 = .ok (.imul, 1) := by decide +kernel
theorem dX11_atFirst_217 : decode cX11_atFirst 217 = .ok (.iload_n 2, 1) := by decide +kernel
theorem dX11_atFirst_218 : decode cX11_atFirst 218 = .ok (.iadd, 1) := by decide +kernel
theorem dX11_atFirst_219 : decode cX11_atFirst 219 = .ok (.iconst 0, 1) := by decide +kernel
theorem dX11_atFirst_220 : decode cX11_atFirst 220 = .ok (.iastore, 1) := by decide +kernel
theorem dX11_atFirst_221 : decode cX11_atFirst 221 = .ok (.iinc 2 1, 3) := by decide +kernel
theorem dX11_atFirst_224 : decode cX11_atFirst 224 = .ok (.goto (-21), 3) := by decide +kernel
theorem dX11_atFirst_227 : decode cX11_atFirst 227 = .ok (.aload_n 0, 1) := by decide +kernel
theorem dX11_atFirst_228 : decode cX11_atFirst 228 = .ok (.getfield 139, 3) := by decide +kernel
theorem dX11_atFirst_231 : decode cX11_atFirst 231 = .ok (.iload_n 1, 1) := by decide +kernel
theorem dX11_atFirst_232 : decode cX11_atFirst 232 = .ok (.iconst 0, 1) := by decide +kernel
theorem dX11_atFirst_233 : decode cX11_atFirst 233 = .ok (.iastore, 1) := by decide +kernel
theorem dX11_atFirst_234 : decode cX11_atFirst 234 = .ok (.aload_n 0, 1) := by decide +kernel
theorem dX11_atFirst_235 : decode cX11_atFirst 235 = .ok (.getfield 142, 3) := by decide +kernel
theorem dX11_atFirst_238 : decode cX11_atFirst 238 = .ok (.iload_n 1, 1) := by decide +kernel
theorem dX11_atFirst_239 : decode cX11_atFirst 239 = .ok (.aload_n 0, 1) := by decide +kernel
theorem dX11_atFirst_240 : decode cX11_atFirst 240 = .ok (.getfield 24, 3) := by decide +kernel
theorem dX11_atFirst_243 : decode cX11_atFirst 243 = .ok (.iconst 0, 1) := by decide +kernel
theorem dX11_atFirst_244 : decode cX11_atFirst 244 = .ok (.iaload, 1) := by decide +kernel
theorem dX11_atFirst_245 : decode cX11_atFirst 245 = .ok (.iastore, 1) := by decide +kernel
theorem dX11_atFirst_246 : decode cX11_atFirst 246 = .ok (.return_, 1) := by decide +kernel
theorem dX11_layTried_0 : decode cX11_layTried 0 = .ok (.iconst 0, 1) := by decide +kernel
theorem dX11_layTried_1 : decode cX11_layTried 1 = .ok (.istore_n 1, 1) := by decide +kernel
theorem dX11_layTried_2 : decode cX11_layTried 2 = .ok (.iload_n 1, 1) := by decide +kernel
theorem dX11_layTried_3 : decode cX11_layTried 3 = .ok (.bipush 6, 2) := by decide +kernel
theorem dX11_layTried_5 : decode cX11_layTried 5 = .ok (.if_icmp .ge 39, 3) := by decide +kernel
theorem dX11_layTried_8 : decode cX11_layTried 8 = .ok (.aload_n 0, 1) := by decide +kernel
theorem dX11_layTried_9 : decode cX11_layTried 9 = .ok (.getfield 100, 3) := by decide +kernel
theorem dX11_layTried_12 : decode cX11_layTried 12 = .ok (.bipush 6, 2) := by decide +kernel
theorem dX11_layTried_14 : decode cX11_layTried 14 = .ok (.iload_n 1, 1) := by decide +kernel
theorem dX11_layTried_15 : decode cX11_layTried 15 = .ok (.iadd, 1) := by decide +kernel
theorem dX11_layTried_16 : decode cX11_layTried 16 = .ok (.aload_n 0, 1) := by decide +kernel
theorem dX11_layTried_17 : decode cX11_layTried 17 = .ok (.getfield 100, 3) := by decide +kernel
theorem dX11_layTried_20 : decode cX11_layTried 20 = .ok (.iload_n 1, 1) := by decide +kernel
theorem dX11_layTried_21 : decode cX11_layTried 21 = .ok (.iaload, 1) := by decide +kernel
theorem dX11_layTried_22 : decode cX11_layTried 22 = .ok (.iastore, 1) := by decide +kernel
theorem dX11_layTried_23 : decode cX11_layTried 23 = .ok (.aload_n 0, 1) := by decide +kernel
theorem dX11_layTried_24 : decode cX11_layTried 24 = .ok (.getfield 103, 3) := by decide +kernel
theorem dX11_layTried_27 : decode cX11_layTried 27 = .ok (.bipush 6, 2) := by decide +kernel
theorem dX11_layTried_29 : decode cX11_layTried 29 = .ok (.iload_n 1, 1) := by decide +kernel
theorem dX11_layTried_30 : decode cX11_layTried 30 = .ok (.iadd, 1) := by decide +kernel
theorem dX11_layTried_31 : decode cX11_layTried 31 = .ok (.aload_n 0, 1) := by decide +kernel
theorem dX11_layTried_32 : decode cX11_layTried 32 = .ok (.getfield 103, 3) := by decide +kernel
theorem dX11_layTried_35 : decode cX11_layTried 35 = .ok (.iload_n 1, 1) := by decide +kernel
theorem dX11_layTried_36 : decode cX11_layTried 36 = .ok (.iaload, 1) := by decide +kernel
theorem dX11_layTried_37 : decode cX11_layTried 37 = .ok (.iastore, 1) := by decide +kernel
theorem dX11_layTried_38 : decode cX11_layTried 38 = .ok (.iinc 1 1, 3) := by decide +kernel
theorem dX11_layTried_41 : decode cX11_layTried 41 = .ok (.goto (-39), 3) := by decide +kernel
theorem dX11_layTried_44 : decode cX11_layTried 44 = .ok (.aload_n 0, 1) := by decide +kernel
theorem dX11_layTried_45 : decode cX11_layTried 45 = .ok (.getfield 106, 3) := by decide +kernel
theorem dX11_layTried_48 : decode cX11_layTried 48 = .ok (.iconst 1, 1) := by decide +kernel
theorem dX11_layTried_49 : decode cX11_layTried 49 = .ok (.aload_n 0, 1) := by decide +kernel
theorem dX11_layTried_50 : decode cX11_layTried 50 = .ok (.getfield 106, 3) := by decide +kernel
theorem dX11_layTried_53 : decode cX11_layTried 53 = .ok (.iconst 0, 1) := by decide +kernel
theorem dX11_layTried_54 : decode cX11_layTried 54 = .ok (.iaload, 1) := by decide +kernel
theorem dX11_layTried_55 : decode cX11_layTried 55 = .ok (.iastore, 1) := by decide +kernel
theorem dX11_layTried_56 : decode cX11_layTried 56 = .ok (.iconst 0, 1) := by decide +kernel
theorem dX11_layTried_57 : decode cX11_layTried 57 = .ok (.istore_n 1, 1) := by decide +kernel
theorem dX11_layTried_58 : decode cX11_layTried 58 = .ok (.iload_n 1, 1) := by decide +kernel
theorem dX11_layTried_59 : decode cX11_layTried 59 = .ok (.bipush 12, 2) := by decide +kernel
theorem dX11_layTried_61 : decode cX11_layTried 61 = .ok (.if_icmp .ge 84, 3) := by decide +kernel
theorem dX11_layTried_64 : decode cX11_layTried 64 = .ok (.aload_n 0, 1) := by decide +kernel
theorem dX11_layTried_65 : decode cX11_layTried 65 = .ok (.getfield 121, 3) := by decide +kernel
theorem dX11_layTried_68 : decode cX11_layTried 68 = .ok (.bipush 12, 2) := by decide +kernel
theorem dX11_layTried_70 : decode cX11_layTried 70 = .ok (.iload_n 1, 1) := by decide +kernel
theorem dX11_layTried_71 : decode cX11_layTried 71 = .ok (.iadd, 1) := by decide +kernel
theorem dX11_layTried_72 : decode cX11_layTried 72 = .ok (.aload_n 0, 1) := by decide +kernel
theorem dX11_layTried_73 : decode cX11_layTried 73 = .ok (.getfield 121, 3) := by decide +kernel
theorem dX11_layTried_76 : decode cX11_layTried 76 = .ok (.iload_n 1, 1) := by decide +kernel
theorem dX11_layTried_77 : decode cX11_layTried 77 = .ok (.iaload, 1) := by decide +kernel
theorem dX11_layTried_78 : decode cX11_layTried 78 = .ok (.iastore, 1) := by decide +kernel
theorem dX11_layTried_79 : decode cX11_layTried 79 = .ok (.aload_n 0, 1) := by decide +kernel
theorem dX11_layTried_80 : decode cX11_layTried 80 = .ok (.getfield 124, 3) := by decide +kernel
theorem dX11_layTried_83 : decode cX11_layTried 83 = .ok (.bipush 12, 2) := by decide +kernel
theorem dX11_layTried_85 : decode cX11_layTried 85 = .ok (.iload_n 1, 1) := by decide +kernel
theorem dX11_layTried_86 : decode cX11_layTried 86 = .ok (.iadd, 1) := by decide +kernel
theorem dX11_layTried_87 : decode cX11_layTried 87 = .ok (.aload_n 0, 1) := by decide +kernel
theorem dX11_layTried_88 : decode cX11_layTried 88 = .ok (.getfield 124, 3) := by decide +kernel
theorem dX11_layTried_91 : decode cX11_layTried 91 = .ok (.iload_n 1, 1) := by decide +kernel
theorem dX11_layTried_92 : decode cX11_layTried 92 = .ok (.iaload, 1) := by decide +kernel
theorem dX11_layTried_93 : decode cX11_layTried 93 = .ok (.iastore, 1) := by decide +kernel
theorem dX11_layTried_94 : decode cX11_layTried 94 = .ok (.aload_n 0, 1) := by decide +kernel
theorem dX11_layTried_95 : decode cX11_layTried 95 = .ok (.getfield 127, 3) := by decide +kernel
theorem dX11_layTried_98 : decode cX11_layTried 98 = .ok (.bipush 12, 2) := by decide +kernel
theorem dX11_layTried_100 : decode cX11_layTried 100 = .ok (.iload_n 1, 1) := by decide +kernel
theorem dX11_layTried_101 : decode cX11_layTried 101 = .ok (.iadd, 1) := by decide +kernel
theorem dX11_layTried_102 : decode cX11_layTried 102 = .ok (.aload_n 0, 1) := by decide +kernel
theorem dX11_layTried_103 : decode cX11_layTried 103 = .ok (.getfield 127, 3) := by decide +kernel
theorem dX11_layTried_106 : decode cX11_layTried 106 = .ok (.iload_n 1, 1) := by decide +kernel
theorem dX11_layTried_107 : decode cX11_layTried 107 = .ok (.iaload, 1) := by decide +kernel
theorem dX11_layTried_108 : decode cX11_layTried 108 = .ok (.iastore, 1) := by decide +kernel
theorem dX11_layTried_109 : decode cX11_layTried 109 = .ok (.aload_n 0, 1) := by decide +kernel
theorem dX11_layTried_110 : decode cX11_layTried 110 = .ok (.getfield 130, 3) := by decide +kernel
theorem dX11_layTried_113 : decode cX11_layTried 113 = .ok (.bipush 12, 2) := by decide +kernel
theorem dX11_layTried_115 : decode cX11_layTried 115 = .ok (.iload_n 1, 1) := by decide +kernel
theorem dX11_layTried_116 : decode cX11_layTried 116 = .ok (.iadd, 1) := by decide +kernel
theorem dX11_layTried_117 : decode cX11_layTried 117 = .ok (.aload_n 0, 1) := by decide +kernel
theorem dX11_layTried_118 : decode cX11_layTried 118 = .ok (.getfield 130, 3) := by decide +kernel
theorem dX11_layTried_121 : decode cX11_layTried 121 = .ok (.iload_n 1, 1) := by decide +kernel
theorem dX11_layTried_122 : decode cX11_layTried 122 = .ok (.iaload, 1) := by decide +kernel
theorem dX11_layTried_123 : decode cX11_layTried 123 = .ok (.iastore, 1) := by decide +kernel
theorem dX11_layTried_124 : decode cX11_layTried 124 = .ok (.aload_n 0, 1) := by decide +kernel
theorem dX11_layTried_125 : decode cX11_layTried 125 = .ok (.getfield 133, 3) := by decide +kernel
theorem dX11_layTried_128 : decode cX11_layTried 128 = .ok (.bipush 12, 2) := by decide +kernel
theorem dX11_layTried_130 : decode cX11_layTried 130 = .ok (.iload_n 1, 1) := by decide +kernel
theorem dX11_layTried_131 : decode cX11_layTried 131 = .ok (.iadd, 1) := by decide +kernel
theorem dX11_layTried_132 : decode cX11_layTried 132 = .ok (.aload_n 0, 1) := by decide +kernel
theorem dX11_layTried_133 : decode cX11_layTried 133 = .ok (.getfield 133, 3) := by decide +kernel
theorem dX11_layTried_136 : decode cX11_layTried 136 = .ok (.iload_n 1, 1) := by decide +kernel
theorem dX11_layTried_137 : decode cX11_layTried 137 = .ok (.iaload, 1) := by decide +kernel
theorem dX11_layTried_138 : decode cX11_layTried 138 = .ok (.iastore, 1) := by decide +kernel
theorem dX11_layTried_139 : decode cX11_layTried 139 = .ok (.iinc 1 1, 3) := by decide +kernel
theorem dX11_layTried_142 : decode cX11_layTried 142 = .ok (.goto (-84), 3) := by decide +kernel
theorem dX11_layTried_145 : decode cX11_layTried 145 = .ok (.iconst 0, 1) := by decide +kernel
theorem dX11_layTried_146 : decode cX11_layTried 146 = .ok (.istore_n 1, 1) := by decide +kernel
theorem dX11_layTried_147 : decode cX11_layTried 147 = .ok (.iload_n 1, 1) := by decide +kernel
theorem dX11_layTried_148 : decode cX11_layTried 148 = .ok (.bipush 8, 2) := by decide +kernel
theorem dX11_layTried_150 : decode cX11_layTried 150 = .ok (.if_icmp .ge 24, 3) := by decide +kernel
theorem dX11_layTried_153 : decode cX11_layTried 153 = .ok (.aload_n 0, 1) := by decide +kernel
theorem dX11_layTried_154 : decode cX11_layTried 154 = .ok (.getfield 136, 3) := by decide +kernel
theorem dX11_layTried_157 : decode cX11_layTried 157 = .ok (.bipush 8, 2) := by decide +kernel
theorem dX11_layTried_159 : decode cX11_layTried 159 = .ok (.iload_n 1, 1) := by decide +kernel
theorem dX11_layTried_160 : decode cX11_layTried 160 = .ok (.iadd, 1) := by decide +kernel
theorem dX11_layTried_161 : decode cX11_layTried 161 = .ok (.aload_n 0, 1) := by decide +kernel
theorem dX11_layTried_162 : decode cX11_layTried 162 = .ok (.getfield 136, 3) := by decide +kernel
theorem dX11_layTried_165 : decode cX11_layTried 165 = .ok (.iload_n 1, 1) := by decide +kernel
theorem dX11_layTried_166 : decode cX11_layTried 166 = .ok (.iaload, 1) := by decide +kernel
theorem dX11_layTried_167 : decode cX11_layTried 167 = .ok (.iastore, 1) := by decide +kernel
theorem dX11_layTried_168 : decode cX11_layTried 168 = .ok (.iinc 1 1, 3) := by decide +kernel
theorem dX11_layTried_171 : decode cX11_layTried 171 = .ok (.goto (-24), 3) := by decide +kernel
theorem dX11_layTried_174 : decode cX11_layTried 174 = .ok (.aload_n 0, 1) := by decide +kernel
theorem dX11_layTried_175 : decode cX11_layTried 175 = .ok (.getfield 139, 3) := by decide +kernel
theorem dX11_layTried_178 : decode cX11_layTried 178 = .ok (.iconst 1, 1) := by decide +kernel
theorem dX11_layTried_179 : decode cX11_layTried 179 = .ok (.aload_n 0, 1) := by decide +kernel
theorem dX11_layTried_180 : decode cX11_layTried 180 = .ok (.getfield 139, 3) := by decide +kernel
theorem dX11_layTried_183 : decode cX11_layTried 183 = .ok (.iconst 0, 1) := by decide +kernel
theorem dX11_layTried_184 : decode cX11_layTried 184 = .ok (.iaload, 1) := by decide +kernel
theorem dX11_layTried_185 : decode cX11_layTried 185 = .ok (.iastore, 1) := by decide +kernel
theorem dX11_layTried_186 : decode cX11_layTried 186 = .ok (.aload_n 0, 1) := by decide +kernel
theorem dX11_layTried_187 : decode cX11_layTried 187 = .ok (.getfield 142, 3) := by decide +kernel
theorem dX11_layTried_190 : decode cX11_layTried 190 = .ok (.iconst 1, 1) := by decide +kernel
theorem dX11_layTried_191 : decode cX11_layTried 191 = .ok (.aload_n 0, 1) := by decide +kernel
theorem dX11_layTried_192 : decode cX11_layTried 192 = .ok (.getfield 142, 3) := by decide +kernel
theorem dX11_layTried_195 : decode cX11_layTried 195 = .ok (.iconst 0, 1) := by decide +kernel
theorem dX11_layTried_196 : decode cX11_layTried 196 = .ok (.iaload, 1) := by decide +kernel
theorem dX11_layTried_197 : decode cX11_layTried 197 = .ok (.iastore, 1) := by decide +kernel
theorem dX11_layTried_198 : decode cX11_layTried 198 = .ok (.aload_n 0, 1) := by decide +kernel
theorem dX11_layTried_199 : decode cX11_layTried 199 = .ok (.invokevirtual 397, 3) := by decide +kernel
theorem dX11_layTried_202 : decode cX11_layTried 202 = .ok (.return_, 1) := by decide +kernel
theorem dX11_isPerson_0 : decode cX11_isPerson 0 = .ok (.iload_n 1, 1) := by decide +kernel
theorem dX11_isPerson_1 : decode cX11_isPerson 1 = .ok (.ifCond .lt 15, 3) := by decide +kernel
theorem dX11_isPerson_4 : decode cX11_isPerson 4 = .ok (.iload_n 1, 1) := by decide +kernel
theorem dX11_isPerson_5 : decode cX11_isPerson 5 = .ok (.aload_n 0, 1) := by decide +kernel
theorem dX11_isPerson_6 : decode cX11_isPerson 6 = .ok (.getfield 270, 3) := by decide +kernel
theorem dX11_isPerson_9 : decode cX11_isPerson 9 = .ok (.if_icmp .ge 7, 3) := by decide +kernel
theorem dX11_isPerson_12 : decode cX11_isPerson 12 = .ok (.iconst 1, 1) := by decide +kernel
theorem dX11_isPerson_13 : decode cX11_isPerson 13 = .ok (.goto 4, 3) := by decide +kernel
theorem dX11_isPerson_16 : decode cX11_isPerson 16 = .ok (.iconst 0, 1) := by decide +kernel
theorem dX11_isPerson_17 : decode cX11_isPerson 17 = .ok (.ireturn, 1) := by decide +kernel
theorem dX11_isStrand_0 : decode cX11_isStrand 0 = .ok (.iload_n 1, 1) := by decide +kernel
theorem dX11_isStrand_1 : decode cX11_isStrand 1 = .ok (.ifCond .lt 17, 3) := by decide +kernel
theorem dX11_isStrand_4 : decode cX11_isStrand 4 = .ok (.iload_n 1, 1) := by decide +kernel
theorem dX11_isStrand_5 : decode cX11_isStrand 5 = .ok (.aload_n 0, 1) := by decide +kernel
theorem dX11_isStrand_6 : decode cX11_isStrand 6 = .ok (.getfield 106, 3) := by decide +kernel
theorem dX11_isStrand_9 : decode cX11_isStrand 9 = .ok (.iconst 0, 1) := by decide +kernel
theorem dX11_isStrand_10 : decode cX11_isStrand 10 = .ok (.iaload, 1) := by decide +kernel
theorem dX11_isStrand_11 : decode cX11_isStrand 11 = .ok (.if_icmp .ge 7, 3) := by decide +kernel
theorem dX11_isStrand_14 : decode cX11_isStrand 14 = .ok (.iconst 1, 1) := by decide +kernel
theorem dX11_isStrand_15 : decode cX11_isStrand 15 = .ok (.goto 4, 3) := by decide +kernel
theorem dX11_isStrand_18 : decode cX11_isStrand 18 = .ok (.iconst 0, 1) := by decide +kernel
theorem dX11_isStrand_19 : decode cX11_isStrand 19 = .ok (.ireturn, 1) := by decide +kernel
theorem dX11_isThere_0 : decode cX11_isThere 0 = .ok (.aload_n 0, 1) := by decide +kernel
theorem dX11_isThere_1 : decode cX11_isThere 1 = .ok (.getfield 127, 3) := by decide +kernel
theorem dX11_isThere_4 : decode cX11_isThere 4 = .ok (.bipush 12, 2) := by decide +kernel
theorem dX11_isThere_6 : decode cX11_isThere 6 = .ok (.iload_n 1, 1) := by decide +kernel
theorem dX11_isThere_7 : decode cX11_isThere 7 = .ok (.imul, 1) := by decide +kernel
theorem dX11_isThere_8 : decode cX11_isThere 8 = .ok (.iload_n 2, 1) := by decide +kernel
theorem dX11_isThere_9 : decode cX11_isThere 9 = .ok (.iadd, 1) := by decide +kernel
theorem dX11_isThere_10 : decode cX11_isThere 10 = .ok (.iaload, 1) := by decide +kernel
theorem dX11_isThere_11 : decode cX11_isThere 11 = .ok (.ifCond .ne 7, 3) := by decide +kernel
theorem dX11_isThere_14 : decode cX11_isThere 14 = .ok (.iconst 1, 1) := by decide +kernel
theorem dX11_isThere_15 : decode cX11_isThere 15 = .ok (.goto 4, 3) := by decide +kernel
theorem dX11_isThere_18 : decode cX11_isThere 18 = .ok (.iconst 0, 1) := by decide +kernel
theorem dX11_isThere_19 : decode cX11_isThere 19 = .ok (.ireturn, 1) := by decide +kernel
theorem dX11_twinOf_0 : decode cX11_twinOf 0 = .ok (.aload_n 0, 1) := by decide +kernel
theorem dX11_twinOf_1 : decode cX11_twinOf 1 = .ok (.getfield 130, 3) := by decide +kernel
theorem dX11_twinOf_4 : decode cX11_twinOf 4 = .ok (.bipush 12, 2) := by decide +kernel
theorem dX11_twinOf_6 : decode cX11_twinOf 6 = .ok (.iload_n 1, 1) := by decide +kernel
theorem dX11_twinOf_7 : decode cX11_twinOf 7 = .ok (.imul, 1) := by decide +kernel
theorem dX11_twinOf_8 : decode cX11_twinOf 8 = .ok (.iload_n 2, 1) := by decide +kernel
theorem dX11_twinOf_9 : decode cX11_twinOf 9 = .ok (.iadd, 1) := by decide +kernel
theorem dX11_twinOf_10 : decode cX11_twinOf 10 = .ok (.iaload, 1) := by decide +kernel
theorem dX11_twinOf_11 : decode cX11_twinOf 11 = .ok (.istore_n 3, 1) := by decide +kernel
theorem dX11_twinOf_12 : decode cX11_twinOf 12 = .ok (.iload_n 3, 1) := by decide +kernel
theorem dX11_twinOf_13 : decode cX11_twinOf 13 = .ok (.ifCond .lt 26, 3) := by decide +kernel
theorem dX11_twinOf_16 : decode cX11_twinOf 16 = .ok (.iload_n 3, 1) := by decide +kernel
theorem dX11_twinOf_17 : decode cX11_twinOf 17 = .ok (.aload_n 0, 1) := by decide +kernel
theorem dX11_twinOf_18 : decode cX11_twinOf 18 = .ok (.getfield 106, 3) := by decide +kernel
theorem dX11_twinOf_21 : decode cX11_twinOf 21 = .ok (.iload_n 1, 1) := by decide +kernel
theorem dX11_twinOf_22 : decode cX11_twinOf 22 = .ok (.iaload, 1) := by decide +kernel
theorem dX11_twinOf_23 : decode cX11_twinOf 23 = .ok (.if_icmp .ge 16, 3) := by decide +kernel
theorem dX11_twinOf_26 : decode cX11_twinOf 26 = .ok (.aload_n 0, 1) := by decide +kernel
theorem dX11_twinOf_27 : decode cX11_twinOf 27 = .ok (.iload_n 1, 1) := by decide +kernel
theorem dX11_twinOf_28 : decode cX11_twinOf 28 = .ok (.iload_n 3, 1) := by decide +kernel
theorem dX11_twinOf_29 : decode cX11_twinOf 29 = .ok (.invokevirtual 418, 3) := by decide +kernel
theorem dX11_twinOf_32 : decode cX11_twinOf 32 = .ok (.ifCond .eq 7, 3) := by decide +kernel
theorem dX11_twinOf_35 : decode cX11_twinOf 35 = .ok (.iload_n 3, 1) := by decide +kernel
theorem dX11_twinOf_36 : decode cX11_twinOf 36 = .ok (.goto 4, 3) := by decide +kernel
theorem dX11_twinOf_39 : decode cX11_twinOf 39 = .ok (.iconst (-1), 1) := by decide +kernel
theorem dX11_twinOf_40 : decode cX11_twinOf 40 = .ok (.ireturn, 1) := by decide +kernel
theorem dX11_layNames_0 : decode cX11_layNames 0 = .ok (.aload_n 0, 1) := by decide +kernel
theorem dX11_layNames_1 : decode cX11_layNames 1 = .ok (.getfield 93, 3) := by decide +kernel
theorem dX11_layNames_4 : decode cX11_layNames 4 = .ok (.iconst 0, 1) := by decide +kernel
theorem dX11_layNames_5 : decode cX11_layNames 5 = .ok (.aload_n 0, 1) := by decide +kernel
theorem dX11_layNames_6 : decode cX11_layNames 6 = .ok (.getfield 121, 3) := by decide +kernel
theorem dX11_layNames_9 : decode cX11_layNames 9 = .ok (.bipush 12, 2) := by decide +kernel
theorem dX11_layNames_11 : decode cX11_layNames 11 = .ok (.iload_n 1, 1) := by decide +kernel
theorem dX11_layNames_12 : decode cX11_layNames 12 = .ok (.imul, 1) := by decide +kernel
theorem dX11_layNames_13 : decode cX11_layNames 13 = .ok (.iload_n 2, 1) := by decide +kernel
theorem dX11_layNames_14 : decode cX11_layNames 14 = .ok (.iadd, 1) := by decide +kernel
theorem dX11_layNames_15 : decode cX11_layNames 15 = .ok (.iaload, 1) := by decide +kernel
theorem dX11_layNames_16 : decode cX11_layNames 16 = .ok (.i2l, 1) := by decide +kernel
theorem dX11_layNames_17 : decode cX11_layNames 17 = .ok (.lastore, 1) := by decide +kernel
theorem dX11_layNames_18 : decode cX11_layNames 18 = .ok (.aload_n 0, 1) := by decide +kernel
theorem dX11_layNames_19 : decode cX11_layNames 19 = .ok (.getfield 93, 3) := by decide +kernel
theorem dX11_layNames_22 : decode cX11_layNames 22 = .ok (.iconst 1, 1) := by decide +kernel
theorem dX11_layNames_23 : decode cX11_layNames 23 = .ok (.aload_n 0, 1) := by decide +kernel
theorem dX11_layNames_24 : decode cX11_layNames 24 = .ok (.getfield 124, 3) := by decide +kernel
theorem dX11_layNames_27 : decode cX11_layNames 27 = .ok (.bipush 12, 2) := by decide +kernel
theorem dX11_layNames_29 : decode cX11_layNames 29 = .ok (.iload_n 1, 1) := by decide +kernel
theorem dX11_layNames_30 : decode cX11_layNames 30 = .ok (.imul, 1) := by decide +kernel
theorem dX11_layNames_31 : decode cX11_layNames 31 = .ok (.iload_n 2, 1) := by decide +kernel
theorem dX11_layNames_32 : decode cX11_layNames 32 = .ok (.iadd, 1) := by decide +kernel
theorem dX11_layNames_33 : decode cX11_layNames 33 = .ok (.iaload, 1) := by decide +kernel
theorem dX11_layNames_34 : decode cX11_layNames 34 = .ok (.i2l, 1) := by decide +kernel
theorem dX11_layNames_35 : decode cX11_layNames 35 = .ok (.lastore, 1) := by decide +kernel
theorem dX11_layNames_36 : decode cX11_layNames 36 = .ok (.aload_n 0, 1) := by decide +kernel
theorem dX11_layNames_37 : decode cX11_layNames 37 = .ok (.getfield 93, 3) := by decide +kernel
theorem dX11_layNames_40 : decode cX11_layNames 40 = .ok (.iconst 2, 1) := by decide +kernel
theorem dX11_layNames_41 : decode cX11_layNames 41 = .ok (.aload_n 0, 1) := by decide +kernel
theorem dX11_layNames_42 : decode cX11_layNames 42 = .ok (.getfield 139, 3) := by decide +kernel
theorem dX11_layNames_45 : decode cX11_layNames 45 = .ok (.iload_n 1, 1) := by decide +kernel
theorem dX11_layNames_46 : decode cX11_layNames 46 = .ok (.iaload, 1) := by decide +kernel
theorem dX11_layNames_47 : decode cX11_layNames 47 = .ok (.aload_n 0, 1) := by decide +kernel
theorem dX11_layNames_48 : decode cX11_layNames 48 = .ok (.getfield 115, 3) := by decide +kernel
theorem dX11_layNames_51 : decode cX11_layNames 51 = .ok (.iload_n 2, 1) := by decide +kernel
theorem dX11_layNames_52 : decode cX11_layNames 52 = .ok (.iaload, 1) := by decide +kernel
theorem dX11_layNames_53 : decode cX11_layNames 53 = .ok (.isub, 1) := by decide +kernel
theorem dX11_layNames_54 : decode cX11_layNames 54 = .ok (.i2l, 1) := by decide +kernel
theorem dX11_layNames_55 : decode cX11_layNames 55 = .ok (.lastore, 1) := by decide +kernel
theorem dX11_layNames_56 : decode cX11_layNames 56 = .ok (.aload_n 0, 1) := by decide +kernel
theorem dX11_layNames_57 : decode cX11_layNames 57 = .ok (.getfield 93, 3) := by decide +kernel
theorem dX11_layNames_60 : decode cX11_layNames 60 = .ok (.iconst 3, 1) := by decide +kernel
theorem dX11_layNames_61 : decode cX11_layNames 61 = .ok (.aload_n 0, 1) := by decide +kernel
theorem dX11_layNames_62 : decode cX11_layNames 62 = .ok (.getfield 118, 3) := by decide +kernel
theorem dX11_layNames_65 : decode cX11_layNames 65 = .ok (.iload_n 2, 1) := by decide +kernel
theorem dX11_layNames_66 : decode cX11_layNames 66 = .ok (.iaload, 1) := by decide +kernel
theorem dX11_layNames_67 : decode cX11_layNames 67 = .ok (.i2l, 1) := by decide +kernel
theorem dX11_layNames_68 : decode cX11_layNames 68 = .ok (.lastore, 1) := by decide +kernel
theorem dX11_layNames_69 : decode cX11_layNames 69 = .ok (.aload_n 0, 1) := by decide +kernel
theorem dX11_layNames_70 : decode cX11_layNames 70 = .ok (.getfield 93, 3) := by decide +kernel
theorem dX11_layNames_73 : decode cX11_layNames 73 = .ok (.iconst 4, 1) := by decide +kernel
theorem dX11_layNames_74 : decode cX11_layNames 74 = .ok (.aload_n 0, 1) := by decide +kernel
theorem dX11_layNames_75 : decode cX11_layNames 75 = .ok (.getfield 139, 3) := by decide +kernel
theorem dX11_layNames_78 : decode cX11_layNames 78 = .ok (.iload_n 1, 1) := by decide +kernel
theorem dX11_layNames_79 : decode cX11_layNames 79 = .ok (.iaload, 1) := by decide +kernel
theorem dX11_layNames_80 : decode cX11_layNames 80 = .ok (.i2l, 1) := by decide +kernel
theorem dX11_layNames_81 : decode cX11_layNames 81 = .ok (.lastore, 1) := by decide +kernel
theorem dX11_layNames_82 : decode cX11_layNames 82 = .ok (.aload_n 0, 1) := by decide +kernel
theorem dX11_layNames_83 : decode cX11_layNames 83 = .ok (.getfield 93, 3) := by decide +kernel
theorem dX11_layNames_86 : decode cX11_layNames 86 = .ok (.iconst 5, 1) := by decide +kernel
theorem dX11_layNames_87 : decode cX11_layNames 87 = .ok (.aload_n 0, 1) := by decide +kernel
theorem dX11_layNames_88 : decode cX11_layNames 88 = .ok (.getfield 100, 3) := by decide +kernel
theorem dX11_layNames_91 : decode cX11_layNames 91 = .ok (.bipush 6, 2) := by decide +kernel
theorem dX11_layNames_93 : decode cX11_layNames 93 = .ok (.iload_n 1, 1) := by decide +kernel
theorem dX11_layNames_94 : decode cX11_layNames 94 = .ok (.imul, 1) := by decide +kernel
theorem dX11_layNames_95 : decode cX11_layNames 95 = .ok (.aload_n 0, 1) := by decide +kernel
theorem dX11_layNames_96 : decode cX11_layNames 96 = .ok (.getfield 109, 3) := by decide +kernel
theorem dX11_layNames_99 : decode cX11_layNames 99 = .ok (.iload_n 2, 1) := by decide +kernel
theorem dX11_layNames_100 : decode cX11_layNames 100 = .ok (.iaload, 1) := by decide +kernel
theorem dX11_layNames_101 : decode cX11_layNames 101 = .ok (.iadd, 1) := by decide +kernel
theorem dX11_layNames_102 : decode cX11_layNames 102 = .ok (.iaload, 1) := by decide +kernel
theorem dX11_layNames_103 : decode cX11_layNames 103 = .ok (.i2l, 1) := by decide +kernel
theorem dX11_layNames_104 : decode cX11_layNames 104 = .ok (.lastore, 1) := by decide +kernel
theorem dX11_layNames_105 : decode cX11_layNames 105 = .ok (.aload_n 0, 1) := by decide +kernel
theorem dX11_layNames_106 : decode cX11_layNames 106 = .ok (.getfield 93, 3) := by decide +kernel
theorem dX11_layNames_109 : decode cX11_layNames 109 = .ok (.bipush 6, 2) := by decide +kernel
theorem dX11_layNames_111 : decode cX11_layNames 111 = .ok (.iload_n 3, 1) := by decide +kernel
theorem dX11_layNames_112 : decode cX11_layNames 112 = .ok (.ifCond .ne 16, 3) := by decide +kernel
theorem dX11_layNames_115 : decode cX11_layNames 115 = .ok (.aload_n 0, 1) := by decide +kernel
theorem dX11_layNames_116 : decode cX11_layNames 116 = .ok (.iload_n 1, 1) := by decide +kernel
theorem dX11_layNames_117 : decode cX11_layNames 117 = .ok (.iload_n 2, 1) := by decide +kernel
theorem dX11_layNames_118 : decode cX11_layNames 118 = .ok (.invokevirtual 421, 3) := by decide +kernel
theorem dX11_layNames_121 : decode cX11_layNames 121 = .ok (.ifCond .lt 7, 3) := by decide +kernel
theorem dX11_layNames_124 : decode cX11_layNames 124 = .ok (.lconst 1, 1) := by decide +kernel
theorem dX11_layNames_125 : decode cX11_layNames 125 = .ok (.goto 4, 3) := by decide +kernel
theorem dX11_layNames_128 : decode cX11_layNames 128 = .ok (.lconst 0, 1) := by decide +kernel
theorem dX11_layNames_129 : decode cX11_layNames 129 = .ok (.lastore, 1) := by decide +kernel
theorem dX11_layNames_130 : decode cX11_layNames 130 = .ok (.return_, 1) := by decide +kernel
theorem dX11_lawOf_0 : decode cX11_lawOf 0 = .ok (.aload_n 0, 1) := by decide +kernel
theorem dX11_lawOf_1 : decode cX11_lawOf 1 = .ok (.iconst 0, 1) := by decide +kernel
theorem dX11_lawOf_2 : decode cX11_lawOf 2 = .ok (.putfield 371, 3) := by decide +kernel
theorem dX11_lawOf_5 : decode cX11_lawOf 5 = .ok (.aload_n 0, 1) := by decide +kernel
theorem dX11_lawOf_6 : decode cX11_lawOf 6 = .ok (.getfield 72, 3) := by decide +kernel
theorem dX11_lawOf_9 : decode cX11_lawOf 9 = .ok (.iload_n 1, 1) := by decide +kernel
theorem dX11_lawOf_10 : decode cX11_lawOf 10 = .ok (.iaload, 1) := by decide +kernel
theorem dX11_lawOf_11 : decode cX11_lawOf 11 = .ok (.istore_n 2, 1) := by decide +kernel
theorem dX11_lawOf_12 : decode cX11_lawOf 12 = .ok (.iload_n 2, 1) := by decide +kernel
theorem dX11_lawOf_13 : decode cX11_lawOf 13 = .ok (.aload_n 0, 1) := by decide +kernel
theorem dX11_lawOf_14 : decode cX11_lawOf 14 = .ok (.getfield 75, 3) := by decide +kernel
theorem dX11_lawOf_17 : decode cX11_lawOf 17 = .ok (.iload_n 1, 1) := by decide +kernel
theorem dX11_lawOf_18 : decode cX11_lawOf 18 = .ok (.iaload, 1) := by decide +kernel
theorem dX11_lawOf_19 : decode cX11_lawOf 19 = .ok (.if_icmp .ge 20, 3) := by decide +kernel
theorem dX11_lawOf_22 : decode cX11_lawOf 22 = .ok (.aload_n 0, 1) := by decide +kernel
theorem dX11_lawOf_23 : decode cX11_lawOf 23 = .ok (.getfield 97, 3) := by decide +kernel
theorem dX11_lawOf_26 : decode cX11_lawOf 26 = .ok (.iload_n 2, 1) := by decide +kernel
theorem dX11_lawOf_27 : decode cX11_lawOf 27 = .ok (.aload_n 0, 1) := by decide +kernel
theorem dX11_lawOf_28 : decode cX11_lawOf 28 = .ok (.iload_n 2, 1) := by decide +kernel
theorem dX11_lawOf_29 : decode cX11_lawOf 29 = .ok (.invokevirtual 424, 3) := by decide +kernel
theorem dX11_lawOf_32 : decode cX11_lawOf 32 = .ok (.lastore, 1) := by decide +kernel
theorem dX11_lawOf_33 : decode cX11_lawOf 33 = .ok (.iinc 2 1, 3) := by decide +kernel
theorem dX11_lawOf_36 : decode cX11_lawOf 36 = .ok (.goto (-24), 3) := by decide +kernel
theorem dX11_lawOf_39 : decode cX11_lawOf 39 = .ok (.aload_n 0, 1) := by decide +kernel
theorem dX11_lawOf_40 : decode cX11_lawOf 40 = .ok (.getfield 371, 3) := by decide +kernel
theorem dX11_lawOf_43 : decode cX11_lawOf 43 = .ok (.ifCond .eq 7, 3) := by decide +kernel
theorem dX11_lawOf_46 : decode cX11_lawOf 46 = .ok (.lconst 0, 1) := by decide +kernel
theorem dX11_lawOf_47 : decode cX11_lawOf 47 = .ok (.goto 16, 3) := by decide +kernel
theorem dX11_lawOf_50 : decode cX11_lawOf 50 = .ok (.aload_n 0, 1) := by decide +kernel
theorem dX11_lawOf_51 : decode cX11_lawOf 51 = .ok (.getfield 97, 3) := by decide +kernel
theorem dX11_lawOf_54 : decode cX11_lawOf 54 = .ok (.aload_n 0, 1) := by decide +kernel
theorem dX11_lawOf_55 : decode cX11_lawOf 55 = .ok (.getfield 75, 3) := by decide +kernel
theorem dX11_lawOf_58 : decode cX11_lawOf 58 = .ok (.iload_n 1, 1) := by decide +kernel
theorem dX11_lawOf_59 : decode cX11_lawOf 59 = .ok (.iaload, 1) := by decide +kernel
theorem dX11_lawOf_60 : decode cX11_lawOf 60 = .ok (.iconst 1, 1) := by decide +kernel
theorem dX11_lawOf_61 : decode cX11_lawOf 61 = .ok (.isub, 1) := by decide +kernel
theorem dX11_lawOf_62 : decode cX11_lawOf 62 = .ok (.laload, 1) := by decide +kernel
theorem dX11_lawOf_63 : decode cX11_lawOf 63 = .ok (.lreturn, 1) := by decide +kernel
theorem dX11_boundLaw_0 : decode cX11_boundLaw 0 = .ok (.aload_n 0, 1) := by decide +kernel
theorem dX11_boundLaw_1 : decode cX11_boundLaw 1 = .ok (.getfield 69, 3) := by decide +kernel
theorem dX11_boundLaw_4 : decode cX11_boundLaw 4 = .ok (.iload_n 1, 1) := by decide +kernel
theorem dX11_boundLaw_5 : decode cX11_boundLaw 5 = .ok (.baload, 1) := by decide +kernel
theorem dX11_boundLaw_6 : decode cX11_boundLaw 6 = .ok (.ifCond .ne 5, 3) := by decide +kernel
theorem dX11_boundLaw_9 : decode cX11_boundLaw 9 = .ok (.iload_n 2, 1) := by decide +kernel
theorem dX11_boundLaw_10 : decode cX11_boundLaw 10 = .ok (.ireturn, 1) := by decide +kernel
theorem dX11_boundLaw_11 : decode cX11_boundLaw 11 = .ok (.aload_n 0, 1) := by decide +kernel
theorem dX11_boundLaw_12 : decode cX11_boundLaw 12 = .ok (.iload_n 1, 1) := by decide +kernel
theorem dX11_boundLaw_13 : decode cX11_boundLaw 13 = .ok (.invokevirtual 428, 3) := by decide +kernel
theorem dX11_boundLaw_16 : decode cX11_boundLaw 16 = .ok (.lstore 4, 2) := by decide +kernel
theorem dX11_boundLaw_18 : decode cX11_boundLaw 18 = .ok (.aload_n 0, 1) := by decide +kernel
theorem dX11_boundLaw_19 : decode cX11_boundLaw 19 = .ok (.getfield 371, 3) := by decide +kernel
theorem dX11_boundLaw_22 : decode cX11_boundLaw 22 = .ok (.ifCond .eq 5, 3) := by decide +kernel
theorem dX11_boundLaw_25 : decode cX11_boundLaw 25 = .ok (.iload_n 2, 1) := by decide +kernel
theorem dX11_boundLaw_26 : decode cX11_boundLaw 26 = .ok (.ireturn, 1) := by decide +kernel
theorem dX11_boundLaw_27 : decode cX11_boundLaw 27 = .ok (.lload 4, 2) := by decide +kernel
theorem dX11_boundLaw_29 : decode cX11_boundLaw 29 = .ok (.lconst 0, 1) := by decide +kernel
theorem dX11_boundLaw_30 : decode cX11_boundLaw 30 = .ok (.lcmp, 1) := by decide +kernel
theorem dX11_boundLaw_31 : decode cX11_boundLaw 31 = .ok (.ifCond .ge 7, 3) := by decide +kernel
theorem dX11_boundLaw_34 : decode cX11_boundLaw 34 = .ok (.iconst 0, 1) := by decide +kernel
theorem dX11_boundLaw_35 : decode cX11_boundLaw 35 = .ok (.goto 18, 3) := by decide +kernel
theorem dX11_boundLaw_38 : decode cX11_boundLaw 38 = .ok (.lload 4, 2) := by decide +kernel
theorem dX11_boundLaw_40 : decode cX11_boundLaw 40 = .ok (.iload_n 3, 1) := by decide +kernel
theorem dX11_boundLaw_41 : decode cX11_boundLaw 41 = .ok (.i2l, 1) := by decide +kernel
theorem dX11_boundLaw_42 : decode cX11_boundLaw 42 = .ok (.lcmp, 1) := by decide +kernel
theorem dX11_boundLaw_43 : decode cX11_boundLaw 43 = .ok (.ifCond .le 7, 3) := by decide +kernel
theorem dX11_boundLaw_46 : decode cX11_boundLaw 46 = .ok (.iload_n 3, 1) := by decide +kernel
theorem dX11_boundLaw_47 : decode cX11_boundLaw 47 = .ok (.goto 6, 3) := by decide +kernel
theorem dX11_boundLaw_50 : decode cX11_boundLaw 50 = .ok (.lload 4, 2) := by decide +kernel
theorem dX11_boundLaw_52 : decode cX11_boundLaw 52 = .ok (.l2i, 1) := by decide +kernel
theorem dX11_boundLaw_53 : decode cX11_boundLaw 53 = .ok (.ireturn, 1) := by decide +kernel
theorem dX11_bearOf_0 : decode cX11_bearOf 0 = .ok (.aload_n 0, 1) := by decide +kernel
theorem dX11_bearOf_1 : decode cX11_bearOf 1 = .ok (.iload_n 1, 1) := by decide +kernel
theorem dX11_bearOf_2 : decode cX11_bearOf 2 = .ok (.iload_n 2, 1) := by decide +kernel
theorem dX11_bearOf_3 : decode cX11_bearOf 3 = .ok (.invokevirtual 418, 3) := by decide +kernel
theorem dX11_bearOf_6 : decode cX11_bearOf 6 = .ok (.ifCond .eq 18, 3) := by decide +kernel
theorem dX11_bearOf_9 : decode cX11_bearOf 9 = .ok (.aload_n 0, 1) := by decide +kernel
theorem dX11_bearOf_10 : decode cX11_bearOf 10 = .ok (.getfield 133, 3) := by decide +kernel
theorem dX11_bearOf_13 : decode cX11_bearOf 13 = .ok (.bipush 12, 2) := by decide +kernel
theorem dX11_bearOf_15 : decode cX11_bearOf 15 = .ok (.iload_n 1, 1) := by decide +kernel
theorem dX11_bearOf_16 : decode cX11_bearOf 16 = .ok (.imul, 1) := by decide +kernel
theorem dX11_bearOf_17 : decode cX11_bearOf 17 = .ok (.iload_n 2, 1) := by decide +kernel
theorem dX11_bearOf_18 : decode cX11_bearOf 18 = .ok (.iadd, 1) := by decide +kernel
theorem dX11_bearOf_19 : decode cX11_bearOf 19 = .ok (.iaload, 1) := by decide +kernel
theorem dX11_bearOf_20 : decode cX11_bearOf 20 = .ok (.iconst 1, 1) := by decide +kernel
theorem dX11_bearOf_21 : decode cX11_bearOf 21 = .ok (.if_icmp .ne 5, 3) := by decide +kernel
theorem dX11_bearOf_24 : decode cX11_bearOf 24 = .ok (.iconst 0, 1) := by decide +kernel
theorem dX11_bearOf_25 : decode cX11_bearOf 25 = .ok (.ireturn, 1) := by decide +kernel
theorem dX11_bearOf_26 : decode cX11_bearOf 26 = .ok (.aload_n 0, 1) := by decide +kernel
theorem dX11_bearOf_27 : decode cX11_bearOf 27 = .ok (.getfield 121, 3) := by decide +kernel
theorem dX11_bearOf_30 : decode cX11_bearOf 30 = .ok (.bipush 12, 2) := by decide +kernel
theorem dX11_bearOf_32 : decode cX11_bearOf 32 = .ok (.iload_n 1, 1) := by decide +kernel
theorem dX11_bearOf_33 : decode cX11_bearOf 33 = .ok (.imul, 1) := by decide +kernel
theorem dX11_bearOf_34 : decode cX11_bearOf 34 = .ok (.iload_n 2, 1) := by decide +kernel
theorem dX11_bearOf_35 : decode cX11_bearOf 35 = .ok (.iadd, 1) := by decide +kernel
theorem dX11_bearOf_36 : decode cX11_bearOf 36 = .ok (.iaload, 1) := by decide +kernel
theorem dX11_bearOf_37 : decode cX11_bearOf 37 = .ok (.istore 4, 2) := by decide +kernel
theorem dX11_bearOf_39 : decode cX11_bearOf 39 = .ok (.aload_n 0, 1) := by decide +kernel
theorem dX11_bearOf_40 : decode cX11_bearOf 40 = .ok (.iload_n 1, 1) := by decide +kernel
theorem dX11_bearOf_41 : decode cX11_bearOf 41 = .ok (.iload_n 2, 1) := by decide +kernel
theorem dX11_bearOf_42 : decode cX11_bearOf 42 = .ok (.iload_n 3, 1) := by decide +kernel
theorem dX11_bearOf_43 : decode cX11_bearOf 43 = .ok (.invokevirtual 431, 3) := by decide +kernel
theorem dX11_bearOf_46 : decode cX11_bearOf 46 = .ok (.aload_n 0, 1) := by decide +kernel
theorem dX11_bearOf_47 : decode cX11_bearOf 47 = .ok (.iconst 0, 1) := by decide +kernel
theorem dX11_bearOf_48 : decode cX11_bearOf 48 = .ok (.iload 4, 2) := by decide +kernel
theorem dX11_bearOf_50 : decode cX11_bearOf 50 = .ok (.iload 4, 2) := by decide +kernel
theorem dX11_bearOf_52 : decode cX11_bearOf 52 = .ok (.aload_n 0, 1) := by decide +kernel
theorem dX11_bearOf_53 : decode cX11_bearOf 53 = .ok (.getfield 124, 3) := by decide +kernel
theorem dX11_bearOf_56 : decode cX11_bearOf 56 = .ok (.bipush 12, 2) := by decide +kernel
theorem dX11_bearOf_58 : decode cX11_bearOf 58 = .ok (.iload_n 1, 1) := by decide +kernel
theorem dX11_bearOf_59 : decode cX11_bearOf 59 = .ok (.imul, 1) := by decide +kernel
theorem dX11_bearOf_60 : decode cX11_bearOf 60 = .ok (.iload_n 2, 1) := by decide +kernel
theorem dX11_bearOf_61 : decode cX11_bearOf 61 = .ok (.iadd, 1) := by decide +kernel
theorem dX11_bearOf_62 : decode cX11_bearOf 62 = .ok (.iaload, 1) := by decide +kernel
theorem dX11_bearOf_63 : decode cX11_bearOf 63 = .ok (.imul, 1) := by decide +kernel
theorem dX11_bearOf_64 : decode cX11_bearOf 64 = .ok (.bipush 100, 2) := by decide +kernel
theorem dX11_bearOf_66 : decode cX11_bearOf 66 = .ok (.idiv, 1) := by decide +kernel
theorem dX11_bearOf_67 : decode cX11_bearOf 67 = .ok (.isub, 1) := by decide +kernel
theorem dX11_bearOf_68 : decode cX11_bearOf 68 = .ok (.sipush 9999, 3) := by decide +kernel
theorem dX11_bearOf_71 : decode cX11_bearOf 71 = .ok (.invokevirtual 435, 3) := by decide +kernel
theorem dX11_bearOf_74 : decode cX11_bearOf 74 = .ok (.ireturn, 1) := by decide +kernel
theorem dX11_bridge_0 : decode cX11_bridge 0 = .ok (.aload_n 0, 1) := by decide +kernel
theorem dX11_bridge_1 : decode cX11_bridge 1 = .ok (.getfield 142, 3) := by decide +kernel
theorem dX11_bridge_4 : decode cX11_bridge 4 = .ok (.iload_n 1, 1) := by decide +kernel
theorem dX11_bridge_5 : decode cX11_bridge 5 = .ok (.iaload, 1) := by decide +kernel
theorem dX11_bridge_6 : decode cX11_bridge 6 = .ok (.istore_n 2, 1) := by decide +kernel
theorem dX11_bridge_7 : decode cX11_bridge 7 = .ok (.iconst 0, 1) := by decide +kernel
theorem dX11_bridge_8 : decode cX11_bridge 8 = .ok (.istore_n 3, 1) := by decide +kernel
theorem dX11_bridge_9 : decode cX11_bridge 9 = .ok (.iload_n 3, 1) := by decide +kernel
theorem dX11_bridge_10 : decode cX11_bridge 10 = .ok (.aload_n 0, 1) := by decide +kernel
theorem dX11_bridge_11 : decode cX11_bridge 11 = .ok (.getfield 106, 3) := by decide +kernel
theorem dX11_bridge_14 : decode cX11_bridge 14 = .ok (.iload_n 1, 1) := by decide +kernel
theorem dX11_bridge_15 : decode cX11_bridge 15 = .ok (.iaload, 1) := by decide +kernel
theorem dX11_bridge_16 : decode cX11_bridge 16 = .ok (.if_icmp .ge 80, 3) := by decide +kernel
theorem dX11_bridge_19 : decode cX11_bridge 19 = .ok (.aload_n 0, 1) := by decide +kernel
theorem dX11_bridge_20 : decode cX11_bridge 20 = .ok (.iload_n 1, 1) := by decide +kernel
theorem dX11_bridge_21 : decode cX11_bridge 21 = .ok (.iload_n 3, 1) := by decide +kernel
theorem dX11_bridge_22 : decode cX11_bridge 22 = .ok (.invokevirtual 418, 3) := by decide +kernel
theorem dX11_bridge_25 : decode cX11_bridge 25 = .ok (.ifCond .ne 6, 3) := by decide +kernel
theorem dX11_bridge_28 : decode cX11_bridge 28 = .ok (.goto 62, 3) := by decide +kernel
theorem dX11_bridge_31 : decode cX11_bridge 31 = .ok (.aload_n 0, 1) := by decide +kernel
theorem dX11_bridge_32 : decode cX11_bridge 32 = .ok (.iload_n 1, 1) := by decide +kernel
theorem dX11_bridge_33 : decode cX11_bridge 33 = .ok (.iload_n 3, 1) := by decide +kernel
theorem dX11_bridge_34 : decode cX11_bridge 34 = .ok (.invokevirtual 421, 3) := by decide +kernel
theorem dX11_bridge_37 : decode cX11_bridge 37 = .ok (.istore 4, 2) := by decide +kernel
theorem dX11_bridge_39 : decode cX11_bridge 39 = .ok (.aload_n 0, 1) := by decide +kernel
theorem dX11_bridge_40 : decode cX11_bridge 40 = .ok (.iload_n 1, 1) := by decide +kernel
theorem dX11_bridge_41 : decode cX11_bridge 41 = .ok (.iload_n 3, 1) := by decide +kernel
theorem dX11_bridge_42 : decode cX11_bridge 42 = .ok (.iconst 0, 1) := by decide +kernel
theorem dX11_bridge_43 : decode cX11_bridge 43 = .ok (.invokevirtual 439, 3) := by decide +kernel
theorem dX11_bridge_46 : decode cX11_bridge 46 = .ok (.istore 5, 2) := by decide +kernel
theorem dX11_bridge_48 : decode cX11_bridge 48 = .ok (.iload 4, 2) := by decide +kernel
theorem dX11_bridge_50 : decode cX11_bridge 50 = .ok (.ifCond .ge 11, 3) := by decide +kernel
theorem dX11_bridge_53 : decode cX11_bridge 53 = .ok (.iload_n 2, 1) := by decide +kernel
theorem dX11_bridge_54 : decode cX11_bridge 54 = .ok (.iload 5, 2) := by decide +kernel
theorem dX11_bridge_56 : decode cX11_bridge 56 = .ok (.iadd, 1) := by decide +kernel
theorem dX11_bridge_57 : decode cX11_bridge 57 = .ok (.istore_n 2, 1) := by decide +kernel
theorem dX11_bridge_58 : decode cX11_bridge 58 = .ok (.goto 32, 3) := by decide +kernel
theorem dX11_bridge_61 : decode cX11_bridge 61 = .ok (.iload_n 3, 1) := by decide +kernel
theorem dX11_bridge_62 : decode cX11_bridge 62 = .ok (.iload 4, 2) := by decide +kernel
theorem dX11_bridge_64 : decode cX11_bridge 64 = .ok (.if_icmp .ge 26, 3) := by decide +kernel
theorem dX11_bridge_67 : decode cX11_bridge 67 = .ok (.iload 5, 2) := by decide +kernel
theorem dX11_bridge_69 : decode cX11_bridge 69 = .ok (.aload_n 0, 1) := by decide +kernel
theorem dX11_bridge_70 : decode cX11_bridge 70 = .ok (.iload_n 1, 1) := by decide +kernel
theorem dX11_bridge_71 : decode cX11_bridge 71 = .ok (.iload 4, 2) := by decide +kernel
theorem dX11_bridge_73 : decode cX11_bridge 73 = .ok (.iconst 0, 1) := by decide +kernel
theorem dX11_bridge_74 : decode cX11_bridge 74 = .ok (.invokevirtual 439, 3) := by decide +kernel
theorem dX11_bridge_77 : decode cX11_bridge 77 = .ok (.iadd, 1) := by decide +kernel
theorem dX11_bridge_78 : decode cX11_bridge 78 = .ok (.istore 5, 2) := by decide +kernel
theorem dX11_bridge_80 : decode cX11_bridge 80 = .ok (.iload_n 2, 1) := by decide +kernel
theorem dX11_bridge_81 : decode cX11_bridge 81 = .ok (.iload 5, 2) := by decide +kernel
theorem dX11_bridge_83 : decode cX11_bridge 83 = .ok (.iload 5, 2) := by decide +kernel
theorem dX11_bridge_85 : decode cX11_bridge 85 = .ok (.iconst 2, 1) := by decide +kernel
theorem dX11_bridge_86 : decode cX11_bridge 86 = .ok (.idiv, 1) := by decide +kernel
theorem dX11_bridge_87 : decode cX11_bridge 87 = .ok (.iadd, 1) := by decide +kernel
theorem dX11_bridge_88 : decode cX11_bridge 88 = .ok (.iadd, 1) := by decide +kernel
theorem dX11_bridge_89 : decode cX11_bridge 89 = .ok (.istore_n 2, 1) := by decide +kernel
theorem dX11_bridge_90 : decode cX11_bridge 90 = .ok (.iinc 3 1, 3) := by decide +kernel
theorem dX11_bridge_93 : decode cX11_bridge 93 = .ok (.goto (-84), 3) := by decide +kernel
theorem dX11_bridge_96 : decode cX11_bridge 96 = .ok (.iload_n 2, 1) := by decide +kernel
theorem dX11_bridge_97 : decode cX11_bridge 97 = .ok (.ireturn, 1) := by decide +kernel
theorem dX11_crosses_0 : decode cX11_crosses 0 = .ok (.iconst 0, 1) := by decide +kernel
theorem dX11_crosses_1 : decode cX11_crosses 1 = .ok (.istore_n 2, 1) := by decide +kernel
theorem dX11_crosses_2 : decode cX11_crosses 2 = .ok (.iload_n 2, 1) := by decide +kernel
theorem dX11_crosses_3 : decode cX11_crosses 3 = .ok (.aload_n 0, 1) := by decide +kernel
theorem dX11_crosses_4 : decode cX11_crosses 4 = .ok (.getfield 276, 3) := by decide +kernel
theorem dX11_crosses_7 : decode cX11_crosses 7 = .ok (.if_icmp .ge 112, 3) := by decide +kernel
theorem dX11_crosses_10 : decode cX11_crosses 10 = .ok (.aload_n 0, 1) := by decide +kernel
theorem dX11_crosses_11 : decode cX11_crosses 11 = .ok (.getfield 66, 3) := by decide +kernel
theorem dX11_crosses_14 : decode cX11_crosses 14 = .ok (.iload_n 2, 1) := by decide +kernel
theorem dX11_crosses_15 : decode cX11_crosses 15 = .ok (.iaload, 1) := by decide +kernel
theorem dX11_crosses_16 : decode cX11_crosses 16 = .ok (.aload_n 0, 1) := by decide +kernel
theorem dX11_crosses_17 : decode cX11_crosses 17 = .ok (.getfield 139, 3) := by decide +kernel
theorem dX11_crosses_20 : decode cX11_crosses 20 = .ok (.iload_n 1, 1) := by decide +kernel
theorem dX11_crosses_21 : decode cX11_crosses 21 = .ok (.iaload, 1) := by decide +kernel
theorem dX11_crosses_22 : decode cX11_crosses 22 = .ok (.if_icmp .eq 6, 3) := by decide +kernel
theorem dX11_crosses_25 : decode cX11_crosses 25 = .ok (.goto 88, 3) := by decide +kernel
theorem dX11_crosses_28 : decode cX11_crosses 28 = .ok (.aload_n 0, 1) := by decide +kernel
theorem dX11_crosses_29 : decode cX11_crosses 29 = .ok (.getfield 60, 3) := by decide +kernel
theorem dX11_crosses_32 : decode cX11_crosses 32 = .ok (.iload_n 2, 1) := by decide +kernel
theorem dX11_crosses_33 : decode cX11_crosses 33 = .ok (.iaload, 1) := by decide +kernel
theorem dX11_crosses_34 : decode cX11_crosses 34 = .ok (.istore_n 3, 1) := by decide +kernel
theorem dX11_crosses_35 : decode cX11_crosses 35 = .ok (.aload_n 0, 1) := by decide +kernel
theorem dX11_crosses_36 : decode cX11_crosses 36 = .ok (.getfield 36, 3) := by decide +kernel
theorem dX11_crosses_39 : decode cX11_crosses 39 = .ok (.iload_n 3, 1) := by decide +kernel
theorem dX11_crosses_40 : decode cX11_crosses 40 = .ok (.iaload, 1) := by decide +kernel
theorem dX11_crosses_41 : decode cX11_crosses 41 = .ok (.aload_n 0, 1) := by decide +kernel
theorem dX11_crosses_42 : decode cX11_crosses 42 = .ok (.getfield 63, 3) := by decide +kernel
theorem dX11_crosses_45 : decode cX11_crosses 45 = .ok (.iload_n 2, 1) := by decide +kernel
theorem dX11_crosses_46 : decode cX11_crosses 46 = .ok (.iaload, 1) := by decide +kernel
theorem dX11_crosses_47 : decode cX11_crosses 47 = .ok (.iadd, 1) := by decide +kernel
theorem dX11_crosses_48 : decode cX11_crosses 48 = .ok (.aload_n 0, 1) := by decide +kernel
theorem dX11_crosses_49 : decode cX11_crosses 49 = .ok (.iload_n 1, 1) := by decide +kernel
theorem dX11_crosses_50 : decode cX11_crosses 50 = .ok (.invokevirtual 443, 3) := by decide +kernel
theorem dX11_crosses_53 : decode cX11_crosses 53 = .ok (.if_icmp .gt 7, 3) := by decide +kernel
theorem dX11_crosses_56 : decode cX11_crosses 56 = .ok (.iconst 1, 1) := by decide +kernel
theorem dX11_crosses_57 : decode cX11_crosses 57 = .ok (.goto 4, 3) := by decide +kernel
theorem dX11_crosses_60 : decode cX11_crosses 60 = .ok (.iconst 0, 1) := by decide +kernel
theorem dX11_crosses_61 : decode cX11_crosses 61 = .ok (.istore 4, 2) := by decide +kernel
theorem dX11_crosses_63 : decode cX11_crosses 63 = .ok (.aload_n 0, 1) := by decide +kernel
theorem dX11_crosses_64 : decode cX11_crosses 64 = .ok (.getfield 136, 3) := by decide +kernel
theorem dX11_crosses_67 : decode cX11_crosses 67 = .ok (.bipush 8, 2) := by decide +kernel
theorem dX11_crosses_69 : decode cX11_crosses 69 = .ok (.iload_n 1, 1) := by decide +kernel
theorem dX11_crosses_70 : decode cX11_crosses 70 = .ok (.imul, 1) := by decide +kernel
theorem dX11_crosses_71 : decode cX11_crosses 71 = .ok (.iload_n 2, 1) := by decide +kernel
theorem dX11_crosses_72 : decode cX11_crosses 72 = .ok (.iadd, 1) := by decide +kernel
theorem dX11_crosses_73 : decode cX11_crosses 73 = .ok (.iload 4, 2) := by decide +kernel
theorem dX11_crosses_75 : decode cX11_crosses 75 = .ok (.ifCond .eq 7, 3) := by decide +kernel
theorem dX11_crosses_78 : decode cX11_crosses 78 = .ok (.iconst 1, 1) := by decide +kernel
theorem dX11_crosses_79 : decode cX11_crosses 79 = .ok (.goto 4, 3) := by decide +kernel
theorem dX11_crosses_82 : decode cX11_crosses 82 = .ok (.iconst 2, 1) := by decide +kernel
theorem dX11_crosses_83 : decode cX11_crosses 83 = .ok (.iastore, 1) := by decide +kernel
theorem dX11_crosses_84 : decode cX11_crosses 84 = .ok (.iload 4, 2) := by decide +kernel
theorem dX11_crosses_86 : decode cX11_crosses 86 = .ok (.ifCond .eq 27, 3) := by decide +kernel
theorem dX11_crosses_89 : decode cX11_crosses 89 = .ok (.aload_n 0, 1) := by decide +kernel
theorem dX11_crosses_90 : decode cX11_crosses 90 = .ok (.getfield 103, 3) := by decide +kernel
theorem dX11_crosses_93 : decode cX11_crosses 93 = .ok (.bipush 6, 2) := by decide +kernel
theorem dX11_crosses_95 : decode cX11_crosses 95 = .ok (.iload_n 1, 1) := by decide +kernel
theorem dX11_crosses_96 : decode cX11_crosses 96 = .ok (.imul, 1) := by decide +kernel
theorem dX11_crosses_97 : decode cX11_crosses 97 = .ok (.iload_n 3, 1) := by decide +kernel
theorem dX11_crosses_98 : decode cX11_crosses 98 = .ok (.iadd, 1) := by decide +kernel
theorem dX11_crosses_99 : decode cX11_crosses 99 = .ok (.iconst 1, 1) := by decide +kernel
theorem dX11_crosses_100 : decode cX11_crosses 100 = .ok (.aload_n 0, 1) := by decide +kernel
theorem dX11_crosses_101 : decode cX11_crosses 101 = .ok (.getfield 103, 3) := by decide +kernel
theorem dX11_crosses_104 : decode cX11_crosses 104 = .ok (.bipush 6, 2) := by decide +kernel
theorem dX11_crosses_106 : decode cX11_crosses 106 = .ok (.iload_n 1, 1) := by decide +kernel
theorem dX11_crosses_107 : decode cX11_crosses 107 = .ok (.imul, 1) := by decide +kernel
theorem dX11_crosses_108 : decode cX11_crosses 108 = .ok (.iload_n 3, 1) := by decide +kernel
theorem dX11_crosses_109 : decode cX11_crosses 109 = .ok (.iadd, 1) := by decide +kernel
theorem dX11_crosses_110 : decode cX11_crosses 110 = .ok (.iaload, 1) := by decide +kernel
theorem dX11_crosses_111 : decode cX11_crosses 111 = .ok (.isub, 1) := by decide +kernel
theorem dX11_crosses_112 : decode cX11_crosses 112 = .ok (.iastore, 1) := by decide +kernel
theorem dX11_crosses_113 : decode cX11_crosses 113 = .ok (.iinc 2 1, 3) := by decide +kernel
theorem dX11_crosses_116 : decode cX11_crosses 116 = .ok (.goto (-114), 3) := by decide +kernel
theorem dX11_crosses_119 : decode cX11_crosses 119 = .ok (.return_, 1) := by decide +kernel
theorem dX11_paid_0 : decode cX11_paid 0 = .ok (.aload_n 0, 1) := by decide +kernel
theorem dX11_paid_1 : decode cX11_paid 1 = .ok (.getfield 100, 3) := by decide +kernel
theorem dX11_paid_4 : decode cX11_paid 4 = .ok (.bipush 6, 2) := by decide +kernel
theorem dX11_paid_6 : decode cX11_paid 6 = .ok (.iload_n 1, 1) := by decide +kernel
theorem dX11_paid_7 : decode cX11_paid 7 = .ok (.imul, 1) := by decide +kernel
theorem dX11_paid_8 : decode cX11_paid 8 = .ok (.aload_n 0, 1) := by decide +kernel
theorem dX11_paid_9 : decode cX11_paid 9 = .ok (.getfield 109, 3) := by decide +kernel
theorem dX11_paid_12 : decode cX11_paid 12 = .ok (.iload_n 2, 1) := by decide +kernel
theorem dX11_paid_13 : decode cX11_paid 13 = .ok (.iaload, 1) := by decide +kernel
theorem dX11_paid_14 : decode cX11_paid 14 = .ok (.iadd, 1) := by decide +kernel
theorem dX11_paid_15 : decode cX11_paid 15 = .ok (.dup2, 1) := by decide +kernel
theorem dX11_paid_16 : decode cX11_paid 16 = .ok (.iaload, 1) := by decide +kernel
theorem dX11_paid_17 : decode cX11_paid 17 = .ok (.aload_n 0, 1) := by decide +kernel
theorem dX11_paid_18 : decode cX11_paid 18 = .ok (.getfield 121, 3) := by decide +kernel
theorem dX11_paid_21 : decode cX11_paid 21 = .ok (.bipush 12, 2) := by decide +kernel
theorem dX11_paid_23 : decode cX11_paid 23 = .ok (.iload_n 1, 1) := by decide +kernel
theorem dX11_paid_24 : decode cX11_paid 24 = .ok (.imul, 1) := by decide +kernel
theorem dX11_paid_25 : decode cX11_paid 25 = .ok (.iload_n 2, 1) := by decide +kernel
theorem dX11_paid_26 : decode cX11_paid 26 = .ok (.iadd, 1) := by decide +kernel
theorem dX11_paid_27 : decode cX11_paid 27 = .ok (.iaload, 1) := by decide +kernel
theorem dX11_paid_28 : decode cX11_paid 28 = .ok (.isub, 1) := by decide +kernel
theorem dX11_paid_29 : decode cX11_paid 29 = .ok (.iastore, 1) := by decide +kernel
theorem dX11_paid_30 : decode cX11_paid 30 = .ok (.aload_n 0, 1) := by decide +kernel
theorem dX11_paid_31 : decode cX11_paid 31 = .ok (.getfield 100, 3) := by decide +kernel
theorem dX11_paid_34 : decode cX11_paid 34 = .ok (.bipush 6, 2) := by decide +kernel
theorem dX11_paid_36 : decode cX11_paid 36 = .ok (.iload_n 1, 1) := by decide +kernel
theorem dX11_paid_37 : decode cX11_paid 37 = .ok (.imul, 1) := by decide +kernel
theorem dX11_paid_38 : decode cX11_paid 38 = .ok (.aload_n 0, 1) := by decide +kernel
theorem dX11_paid_39 : decode cX11_paid 39 = .ok (.getfield 112, 3) := by decide +kernel
theorem dX11_paid_42 : decode cX11_paid 42 = .ok (.iload_n 2, 1) := by decide +kernel
theorem dX11_paid_43 : decode cX11_paid 43 = .ok (.iaload, 1) := by decide +kernel
theorem dX11_paid_44 : decode cX11_paid 44 = .ok (.iadd, 1) := by decide +kernel
theorem dX11_paid_45 : decode cX11_paid 45 = .ok (.dup2, 1) := by decide +kernel
theorem dX11_paid_46 : decode cX11_paid 46 = .ok (.iaload, 1) := by decide +kernel
theorem dX11_paid_47 : decode cX11_paid 47 = .ok (.aload_n 0, 1) := by decide +kernel
theorem dX11_paid_48 : decode cX11_paid 48 = .ok (.getfield 121, 3) := by decide +kernel
theorem dX11_paid_51 : decode cX11_paid 51 = .ok (.bipush 12, 2) := by decide +kernel
theorem dX11_paid_53 : decode cX11_paid 53 = .ok (.iload_n 1, 1) := by decide +kernel
theorem dX11_paid_54 : decode cX11_paid 54 = .ok (.imul, 1) := by decide +kernel
theorem dX11_paid_55 : decode cX11_paid 55 = .ok (.iload_n 2, 1) := by decide +kernel
theorem dX11_paid_56 : decode cX11_paid 56 = .ok (.iadd, 1) := by decide +kernel
theorem dX11_paid_57 : decode cX11_paid 57 = .ok (.iaload, 1) := by decide +kernel
theorem dX11_paid_58 : decode cX11_paid 58 = .ok (.iadd, 1) := by decide +kernel
theorem dX11_paid_59 : decode cX11_paid 59 = .ok (.iastore, 1) := by decide +kernel
theorem dX11_paid_60 : decode cX11_paid 60 = .ok (.aload_n 0, 1) := by decide +kernel
theorem dX11_paid_61 : decode cX11_paid 61 = .ok (.getfield 127, 3) := by decide +kernel
theorem dX11_paid_64 : decode cX11_paid 64 = .ok (.bipush 12, 2) := by decide +kernel
theorem dX11_paid_66 : decode cX11_paid 66 = .ok (.iload_n 1, 1) := by decide +kernel
theorem dX11_paid_67 : decode cX11_paid 67 = .ok (.imul, 1) := by decide +kernel
theorem dX11_paid_68 : decode cX11_paid 68 = .ok (.iload_n 2, 1) := by decide +kernel
theorem dX11_paid_69 : decode cX11_paid 69 = .ok (.iadd, 1) := by decide +kernel
theorem dX11_paid_70 : decode cX11_paid 70 = .ok (.iconst 1, 1) := by decide +kernel
theorem dX11_paid_71 : decode cX11_paid 71 = .ok (.iastore, 1) := by decide +kernel
theorem dX11_paid_72 : decode cX11_paid 72 = .ok (.return_, 1) := by decide +kernel
theorem dX11_fraysBy_0 : decode cX11_fraysBy 0 = .ok (.aload_n 0, 1) := by decide +kernel
theorem dX11_fraysBy_1 : decode cX11_fraysBy 1 = .ok (.getfield 124, 3) := by decide +kernel
theorem dX11_fraysBy_4 : decode cX11_fraysBy 4 = .ok (.bipush 12, 2) := by decide +kernel
theorem dX11_fraysBy_6 : decode cX11_fraysBy 6 = .ok (.iload_n 1, 1) := by decide +kernel
theorem dX11_fraysBy_7 : decode cX11_fraysBy 7 = .ok (.imul, 1) := by decide +kernel
theorem dX11_fraysBy_8 : decode cX11_fraysBy 8 = .ok (.iload_n 2, 1) := by decide +kernel
theorem dX11_fraysBy_9 : decode cX11_fraysBy 9 = .ok (.iadd, 1) := by decide +kernel
theorem dX11_fraysBy_10 : decode cX11_fraysBy 10 = .ok (.dup2, 1) := by decide +kernel
theorem dX11_fraysBy_11 : decode cX11_fraysBy 11 = .ok (.iaload, 1) := by decide +kernel
theorem dX11_fraysBy_12 : decode cX11_fraysBy 12 = .ok (.iload_n 3, 1) := by decide +kernel
theorem dX11_fraysBy_13 : decode cX11_fraysBy 13 = .ok (.iadd, 1) := by decide +kernel
theorem dX11_fraysBy_14 : decode cX11_fraysBy 14 = .ok (.iastore, 1) := by decide +kernel
theorem dX11_fraysBy_15 : decode cX11_fraysBy 15 = .ok (.aload_n 0, 1) := by decide +kernel
theorem dX11_fraysBy_16 : decode cX11_fraysBy 16 = .ok (.getfield 124, 3) := by decide +kernel
theorem dX11_fraysBy_19 : decode cX11_fraysBy 19 = .ok (.bipush 12, 2) := by decide +kernel
theorem dX11_fraysBy_21 : decode cX11_fraysBy 21 = .ok (.iload_n 1, 1) := by decide +kernel
theorem dX11_fraysBy_22 : decode cX11_fraysBy 22 = .ok (.imul, 1) := by decide +kernel
theorem dX11_fraysBy_23 : decode cX11_fraysBy 23 = .ok (.iload_n 2, 1) := by decide +kernel
theorem dX11_fraysBy_24 : decode cX11_fraysBy 24 = .ok (.iadd, 1) := by decide +kernel
theorem dX11_fraysBy_25 : decode cX11_fraysBy 25 = .ok (.iaload, 1) := by decide +kernel
theorem dX11_fraysBy_26 : decode cX11_fraysBy 26 = .ok (.bipush 100, 2) := by decide +kernel
theorem dX11_fraysBy_28 : decode cX11_fraysBy 28 = .ok (.if_icmp .lt 15, 3) := by decide +kernel
theorem dX11_fraysBy_31 : decode cX11_fraysBy 31 = .ok (.aload_n 0, 1) := by decide +kernel
theorem dX11_fraysBy_32 : decode cX11_fraysBy 32 = .ok (.getfield 127, 3) := by decide +kernel
theorem dX11_fraysBy_35 : decode cX11_fraysBy 35 = .ok (.bipush 12, 2) := by decide +kernel
theorem dX11_fraysBy_37 : decode cX11_fraysBy 37 = .ok (.iload_n 1, 1) := by decide +kernel
theorem dX11_fraysBy_38 : decode cX11_fraysBy 38 = .ok (.imul, 1) := by decide +kernel
theorem dX11_fraysBy_39 : decode cX11_fraysBy 39 = .ok (.iload_n 2, 1) := by decide +kernel
theorem dX11_fraysBy_40 : decode cX11_fraysBy 40 = .ok (.iadd, 1) := by decide +kernel
theorem dX11_fraysBy_41 : decode cX11_fraysBy 41 = .ok (.iconst 3, 1) := by decide +kernel
theorem dX11_fraysBy_42 : decode cX11_fraysBy 42 = .ok (.iastore, 1) := by decide +kernel
theorem dX11_fraysBy_43 : decode cX11_fraysBy 43 = .ok (.return_, 1) := by decide +kernel
theorem dX11_goOn_0 : decode cX11_goOn 0 = .ok (.aload_n 0, 1) := by decide +kernel
theorem dX11_goOn_1 : decode cX11_goOn 1 = .ok (.iload_n 1, 1) := by decide +kernel
theorem dX11_goOn_2 : decode cX11_goOn 2 = .ok (.invokevirtual 446, 3) := by decide +kernel
theorem dX11_goOn_5 : decode cX11_goOn 5 = .ok (.iconst 0, 1) := by decide +kernel
theorem dX11_goOn_6 : decode cX11_goOn 6 = .ok (.istore_n 2, 1) := by decide +kernel
theorem dX11_goOn_7 : decode cX11_goOn 7 = .ok (.iload_n 2, 1) := by decide +kernel
theorem dX11_goOn_8 : decode cX11_goOn 8 = .ok (.aload_n 0, 1) := by decide +kernel
theorem dX11_goOn_9 : decode cX11_goOn 9 = .ok (.getfield 106, 3) := by decide +kernel
theorem dX11_goOn_12 : decode cX11_goOn 12 = .ok (.iload_n 1, 1) := by decide +kernel
theorem dX11_goOn_13 : decode cX11_goOn 13 = .ok (.iaload, 1) := by decide +kernel
theorem dX11_goOn_14 : decode cX11_goOn 14 = .ok (.if_icmp .ge 49, 3) := by decide +kernel
theorem dX11_goOn_17 : decode cX11_goOn 17 = .ok (.aload_n 0, 1) := by decide +kernel
theorem dX11_goOn_18 : decode cX11_goOn 18 = .ok (.getfield 409, 3) := by decide +kernel
theorem dX11_goOn_21 : decode cX11_goOn 21 = .ok (.ifCond .ne 42, 3) := by decide +kernel
theorem dX11_goOn_24 : decode cX11_goOn 24 = .ok (.aload_n 0, 1) := by decide +kernel
theorem dX11_goOn_25 : decode cX11_goOn 25 = .ok (.iload_n 1, 1) := by decide +kernel
theorem dX11_goOn_26 : decode cX11_goOn 26 = .ok (.iload_n 2, 1) := by decide +kernel
theorem dX11_goOn_27 : decode cX11_goOn 27 = .ok (.invokevirtual 418, 3) := by decide +kernel
theorem dX11_goOn_30 : decode cX11_goOn 30 = .ok (.ifCond .ne 6, 3) := by decide +kernel
theorem dX11_goOn_33 : decode cX11_goOn 33 = .ok (.goto 24, 3) := by decide +kernel
theorem dX11_goOn_36 : decode cX11_goOn 36 = .ok (.aload_n 0, 1) := by decide +kernel
theorem dX11_goOn_37 : decode cX11_goOn 37 = .ok (.iload_n 1, 1) := by decide +kernel
theorem dX11_goOn_38 : decode cX11_goOn 38 = .ok (.iload_n 2, 1) := by decide +kernel
theorem dX11_goOn_39 : decode cX11_goOn 39 = .ok (.iconst 0, 1) := by decide +kernel
theorem dX11_goOn_40 : decode cX11_goOn 40 = .ok (.invokevirtual 431, 3) := by decide +kernel
theorem dX11_goOn_43 : decode cX11_goOn 43 = .ok (.aload_n 0, 1) := by decide +kernel
theorem dX11_goOn_44 : decode cX11_goOn 44 = .ok (.iload_n 1, 1) := by decide +kernel
theorem dX11_goOn_45 : decode cX11_goOn 45 = .ok (.iload_n 2, 1) := by decide +kernel
theorem dX11_goOn_46 : decode cX11_goOn 46 = .ok (.aload_n 0, 1) := by decide +kernel
theorem dX11_goOn_47 : decode cX11_goOn 47 = .ok (.iconst 1, 1) := by decide +kernel
theorem dX11_goOn_48 : decode cX11_goOn 48 = .ok (.iconst 2, 1) := by decide +kernel
theorem dX11_goOn_49 : decode cX11_goOn 49 = .ok (.bipush 99, 2) := by decide +kernel
theorem dX11_goOn_51 : decode cX11_goOn 51 = .ok (.invokevirtual 435, 3) := by decide +kernel
theorem dX11_goOn_54 : decode cX11_goOn 54 = .ok (.invokevirtual 449, 3) := by decide +kernel
theorem dX11_goOn_57 : decode cX11_goOn 57 = .ok (.iinc 2 1, 3) := by decide +kernel
theorem dX11_goOn_60 : decode cX11_goOn 60 = .ok (.goto (-53), 3) := by decide +kernel
theorem dX11_goOn_63 : decode cX11_goOn 63 = .ok (.iconst 0, 1) := by decide +kernel
theorem dX11_goOn_64 : decode cX11_goOn 64 = .ok (.istore_n 2, 1) := by decide +kernel
theorem dX11_goOn_65 : decode cX11_goOn 65 = .ok (.iload_n 2, 1) := by decide +kernel
theorem dX11_goOn_66 : decode cX11_goOn 66 = .ok (.aload_n 0, 1) := by decide +kernel
theorem dX11_goOn_67 : decode cX11_goOn 67 = .ok (.getfield 106, 3) := by decide +kernel
theorem dX11_goOn_70 : decode cX11_goOn 70 = .ok (.iload_n 1, 1) := by decide +kernel
theorem dX11_goOn_71 : decode cX11_goOn 71 = .ok (.iaload, 1) := by decide +kernel
theorem dX11_goOn_72 : decode cX11_goOn 72 = .ok (.if_icmp .ge 81, 3) := by decide +kernel
theorem dX11_goOn_75 : decode cX11_goOn 75 = .ok (.aload_n 0, 1) := by decide +kernel
theorem dX11_goOn_76 : decode cX11_goOn 76 = .ok (.getfield 415, 3) := by decide +kernel
theorem dX11_goOn_79 : decode cX11_goOn 79 = .ok (.ifCond .ne 74, 3) := by decide +kernel
theorem dX11_goOn_82 : decode cX11_goOn 82 = .ok (.aload_n 0, 1) := by decide +kernel
theorem dX11_goOn_83 : decode cX11_goOn 83 = .ok (.iload_n 1, 1) := by decide +kernel
theorem dX11_goOn_84 : decode cX11_goOn 84 = .ok (.iload_n 2, 1) := by decide +kernel
theorem dX11_goOn_85 : decode cX11_goOn 85 = .ok (.invokevirtual 418, 3) := by decide +kernel
theorem dX11_goOn_88 : decode cX11_goOn 88 = .ok (.ifCond .ne 6, 3) := by decide +kernel
theorem dX11_goOn_91 : decode cX11_goOn 91 = .ok (.goto 56, 3) := by decide +kernel
theorem dX11_goOn_94 : decode cX11_goOn 94 = .ok (.aload_n 0, 1) := by decide +kernel
theorem dX11_goOn_95 : decode cX11_goOn 95 = .ok (.iload_n 1, 1) := by decide +kernel
theorem dX11_goOn_96 : decode cX11_goOn 96 = .ok (.iload_n 2, 1) := by decide +kernel
theorem dX11_goOn_97 : decode cX11_goOn 97 = .ok (.iconst 0, 1) := by decide +kernel
theorem dX11_goOn_98 : decode cX11_goOn 98 = .ok (.invokevirtual 431, 3) := by decide +kernel
theorem dX11_goOn_101 : decode cX11_goOn 101 = .ok (.aload_n 0, 1) := by decide +kernel
theorem dX11_goOn_102 : decode cX11_goOn 102 = .ok (.getfield 121, 3) := by decide +kernel
theorem dX11_goOn_105 : decode cX11_goOn 105 = .ok (.bipush 12, 2) := by decide +kernel
theorem dX11_goOn_107 : decode cX11_goOn 107 = .ok (.iload_n 1, 1) := by decide +kernel
theorem dX11_goOn_108 : decode cX11_goOn 108 = .ok (.imul, 1) := by decide +kernel
theorem dX11_goOn_109 : decode cX11_goOn 109 = .ok (.iload_n 2, 1) := by decide +kernel
theorem dX11_goOn_110 : decode cX11_goOn 110 = .ok (.iadd, 1) := by decide +kernel
theorem dX11_goOn_111 : decode cX11_goOn 111 = .ok (.iaload, 1) := by decide +kernel
theorem dX11_goOn_112 : decode cX11_goOn 112 = .ok (.aload_n 0, 1) := by decide +kernel
theorem dX11_goOn_113 : decode cX11_goOn 113 = .ok (.iconst 2, 1) := by decide +kernel
theorem dX11_goOn_114 : decode cX11_goOn 114 = .ok (.iconst 0, 1) := by decide +kernel
theorem dX11_goOn_115 : decode cX11_goOn 115 = .ok (.bipush 99, 2) := by decide +kernel
theorem dX11_goOn_117 : decode cX11_goOn 117 = .ok (.invokevirtual 435, 3) := by decide +kernel
theorem dX11_goOn_120 : decode cX11_goOn 120 = .ok (.iadd, 1) := by decide +kernel
theorem dX11_goOn_121 : decode cX11_goOn 121 = .ok (.istore_n 3, 1) := by decide +kernel
theorem dX11_goOn_122 : decode cX11_goOn 122 = .ok (.aload_n 0, 1) := by decide +kernel
theorem dX11_goOn_123 : decode cX11_goOn 123 = .ok (.getfield 121, 3) := by decide +kernel
theorem dX11_goOn_126 : decode cX11_goOn 126 = .ok (.bipush 12, 2) := by decide +kernel
theorem dX11_goOn_128 : decode cX11_goOn 128 = .ok (.iload_n 1, 1) := by decide +kernel
theorem dX11_goOn_129 : decode cX11_goOn 129 = .ok (.imul, 1) := by decide +kernel
theorem dX11_goOn_130 : decode cX11_goOn 130 = .ok (.iload_n 2, 1) := by decide +kernel
theorem dX11_goOn_131 : decode cX11_goOn 131 = .ok (.iadd, 1) := by decide +kernel
theorem dX11_goOn_132 : decode cX11_goOn 132 = .ok (.iload_n 3, 1) := by decide +kernel
theorem dX11_goOn_133 : decode cX11_goOn 133 = .ok (.sipush 9999, 3) := by decide +kernel
theorem dX11_goOn_136 : decode cX11_goOn 136 = .ok (.if_icmp .le 9, 3) := by decide +kernel
theorem dX11_goOn_139 : decode cX11_goOn 139 = .ok (.sipush 9999, 3) := by decide +kernel
theorem dX11_goOn_142 : decode cX11_goOn 142 = .ok (.goto 4, 3) := by decide +kernel
theorem dX11_goOn_145 : decode cX11_goOn 145 = .ok (.iload_n 3, 1) := by decide +kernel
theorem dX11_goOn_146 : decode cX11_goOn 146 = .ok (.iastore, 1) := by decide +kernel
theorem dX11_goOn_147 : decode cX11_goOn 147 = .ok (.iinc 2 1, 3) := by decide +kernel
theorem dX11_goOn_150 : decode cX11_goOn 150 = .ok (.goto (-85), 3) := by decide +kernel
theorem dX11_goOn_153 : decode cX11_goOn 153 = .ok (.iconst 0, 1) := by decide +kernel
theorem dX11_goOn_154 : decode cX11_goOn 154 = .ok (.istore_n 2, 1) := by decide +kernel
theorem dX11_goOn_155 : decode cX11_goOn 155 = .ok (.iload_n 2, 1) := by decide +kernel
theorem dX11_goOn_156 : decode cX11_goOn 156 = .ok (.aload_n 0, 1) := by decide +kernel
theorem dX11_goOn_157 : decode cX11_goOn 157 = .ok (.getfield 106, 3) := by decide +kernel
theorem dX11_goOn_160 : decode cX11_goOn 160 = .ok (.iload_n 1, 1) := by decide +kernel
theorem dX11_goOn_161 : decode cX11_goOn 161 = .ok (.iaload, 1) := by decide +kernel
theorem dX11_goOn_162 : decode cX11_goOn 162 = .ok (.if_icmp .ge 76, 3) := by decide +kernel
theorem dX11_goOn_165 : decode cX11_goOn 165 = .ok (.aload_n 0, 1) := by decide +kernel
theorem dX11_goOn_166 : decode cX11_goOn 166 = .ok (.getfield 412, 3) := by decide +kernel
theorem dX11_goOn_169 : decode cX11_goOn 169 = .ok (.ifCond .ne 69, 3) := by decide +kernel
theorem dX11_goOn_172 : decode cX11_goOn 172 = .ok (.aload_n 0, 1) := by decide +kernel
theorem dX11_goOn_173 : decode cX11_goOn 173 = .ok (.iload_n 1, 1) := by decide +kernel
theorem dX11_goOn_174 : decode cX11_goOn 174 = .ok (.iload_n 2, 1) := by decide +kernel
theorem dX11_goOn_175 : decode cX11_goOn 175 = .ok (.invokevirtual 418, 3) := by decide +kernel
theorem dX11_goOn_178 : decode cX11_goOn 178 = .ok (.ifCond .eq 54, 3) := by decide +kernel
theorem dX11_goOn_181 : decode cX11_goOn 181 = .ok (.aload_n 0, 1) := by decide +kernel
theorem dX11_goOn_182 : decode cX11_goOn 182 = .ok (.getfield 118, 3) := by decide +kernel
theorem dX11_goOn_185 : decode cX11_goOn 185 = .ok (.iload_n 2, 1) := by decide +kernel
theorem dX11_goOn_186 : decode cX11_goOn 186 = .ok (.iaload, 1) := by decide +kernel
theorem dX11_goOn_187 : decode cX11_goOn 187 = .ok (.aload_n 0, 1) := by decide +kernel
theorem dX11_goOn_188 : decode cX11_goOn 188 = .ok (.getfield 139, 3) := by decide +kernel
theorem dX11_goOn_191 : decode cX11_goOn 191 = .ok (.iload_n 1, 1) := by decide +kernel
theorem dX11_goOn_192 : decode cX11_goOn 192 = .ok (.iaload, 1) := by decide +kernel
theorem dX11_goOn_193 : decode cX11_goOn 193 = .ok (.if_icmp .gt 39, 3) := by decide +kernel
theorem dX11_goOn_196 : decode cX11_goOn 196 = .ok (.aload_n 0, 1) := by decide +kernel
theorem dX11_goOn_197 : decode cX11_goOn 197 = .ok (.getfield 100, 3) := by decide +kernel
theorem dX11_goOn_200 : decode cX11_goOn 200 = .ok (.bipush 6, 2) := by decide +kernel
theorem dX11_goOn_202 : decode cX11_goOn 202 = .ok (.iload_n 1, 1) := by decide +kernel
theorem dX11_goOn_203 : decode cX11_goOn 203 = .ok (.imul, 1) := by decide +kernel
theorem dX11_goOn_204 : decode cX11_goOn 204 = .ok (.aload_n 0, 1) := by decide +kernel
theorem dX11_goOn_205 : decode cX11_goOn 205 = .ok (.getfield 109, 3) := by decide +kernel
theorem dX11_goOn_208 : decode cX11_goOn 208 = .ok (.iload_n 2, 1) := by decide +kernel
theorem dX11_goOn_209 : decode cX11_goOn 209 = .ok (.iaload, 1) := by decide +kernel
theorem dX11_goOn_210 : decode cX11_goOn 210 = .ok (.iadd, 1) := by decide +kernel
theorem dX11_goOn_211 : decode cX11_goOn 211 = .ok (.iaload, 1) := by decide +kernel
theorem dX11_goOn_212 : decode cX11_goOn 212 = .ok (.aload_n 0, 1) := by decide +kernel
theorem dX11_goOn_213 : decode cX11_goOn 213 = .ok (.getfield 121, 3) := by decide +kernel
theorem dX11_goOn_216 : decode cX11_goOn 216 = .ok (.bipush 12, 2) := by decide +kernel
theorem dX11_goOn_218 : decode cX11_goOn 218 = .ok (.iload_n 1, 1) := by decide +kernel
theorem dX11_goOn_219 : decode cX11_goOn 219 = .ok (.imul, 1) := by decide +kernel
theorem dX11_goOn_220 : decode cX11_goOn 220 = .ok (.iload_n 2, 1) := by decide +kernel
theorem dX11_goOn_221 : decode cX11_goOn 221 = .ok (.iadd, 1) := by decide +kernel
theorem dX11_goOn_222 : decode cX11_goOn 222 = .ok (.iaload, 1) := by decide +kernel
theorem dX11_goOn_223 : decode cX11_goOn 223 = .ok (.if_icmp .lt 9, 3) := by decide +kernel
theorem dX11_goOn_226 : decode cX11_goOn 226 = .ok (.aload_n 0, 1) := by decide +kernel
theorem dX11_goOn_227 : decode cX11_goOn 227 = .ok (.iload_n 1, 1) := by decide +kernel
theorem dX11_goOn_228 : decode cX11_goOn 228 = .ok (.iload_n 2, 1) := by decide +kernel
theorem dX11_goOn_229 : decode cX11_goOn 229 = .ok (.invokevirtual 452, 3) := by decide +kernel
theorem dX11_goOn_232 : decode cX11_goOn 232 = .ok (.iinc 2 1, 3) := by decide +kernel
theorem dX11_goOn_235 : decode cX11_goOn 235 = .ok (.goto (-80), 3) := by decide +kernel
theorem dX11_goOn_238 : decode cX11_goOn 238 = .ok (.aload_n 0, 1) := by decide +kernel
theorem dX11_goOn_239 : decode cX11_goOn 239 = .ok (.getfield 139, 3) := by decide +kernel
theorem dX11_goOn_242 : decode cX11_goOn 242 = .ok (.iload_n 1, 1) := by decide +kernel
theorem dX11_goOn_243 : decode cX11_goOn 243 = .ok (.dup2, 1) := by decide +kernel
theorem dX11_goOn_244 : decode cX11_goOn 244 = .ok (.iaload, 1) := by decide +kernel
theorem dX11_goOn_245 : decode cX11_goOn 245 = .ok (.iconst 1, 1) := by decide +kernel
theorem dX11_goOn_246 : decode cX11_goOn 246 = .ok (.iadd, 1) := by decide +kernel
theorem dX11_goOn_247 : decode cX11_goOn 247 = .ok (.iastore, 1) := by decide +kernel
theorem dX11_goOn_248 : decode cX11_goOn 248 = .ok (.return_, 1) := by decide +kernel
theorem dX11_fails_0 : decode cX11_fails 0 = .ok (.aload_n 0, 1) := by decide +kernel
theorem dX11_fails_1 : decode cX11_fails 1 = .ok (.iload_n 1, 1) := by decide +kernel
theorem dX11_fails_2 : decode cX11_fails 2 = .ok (.putfield 193, 3) := by decide +kernel
theorem dX11_fails_5 : decode cX11_fails 5 = .ok (.iconst 0, 1) := by decide +kernel
theorem dX11_fails_6 : decode cX11_fails 6 = .ok (.ireturn, 1) := by decide +kernel
theorem dX11_sumOwed_0 : decode cX11_sumOwed 0 = .ok (.iconst 0, 1) := by decide +kernel
theorem dX11_sumOwed_1 : decode cX11_sumOwed 1 = .ok (.istore_n 3, 1) := by decide +kernel
theorem dX11_sumOwed_2 : decode cX11_sumOwed 2 = .ok (.iconst 0, 1) := by decide +kernel
theorem dX11_sumOwed_3 : decode cX11_sumOwed 3 = .ok (.istore 4, 2) := by decide +kernel
theorem dX11_sumOwed_5 : decode cX11_sumOwed 5 = .ok (.iload 4, 2) := by decide +kernel
theorem dX11_sumOwed_7 : decode cX11_sumOwed 7 = .ok (.aload_n 0, 1) := by decide +kernel
theorem dX11_sumOwed_8 : decode cX11_sumOwed 8 = .ok (.getfield 106, 3) := by decide +kernel
theorem dX11_sumOwed_11 : decode cX11_sumOwed 11 = .ok (.iconst 0, 1) := by decide +kernel
theorem dX11_sumOwed_12 : decode cX11_sumOwed 12 = .ok (.iaload, 1) := by decide +kernel
theorem dX11_sumOwed_13 : decode cX11_sumOwed 13 = .ok (.if_icmp .ge 59, 3) := by decide +kernel
theorem dX11_sumOwed_16 : decode cX11_sumOwed 16 = .ok (.aload_n 0, 1) := by decide +kernel
theorem dX11_sumOwed_17 : decode cX11_sumOwed 17 = .ok (.iconst 0, 1) := by decide +kernel
theorem dX11_sumOwed_18 : decode cX11_sumOwed 18 = .ok (.iload 4, 2) := by decide +kernel
theorem dX11_sumOwed_20 : decode cX11_sumOwed 20 = .ok (.invokevirtual 418, 3) := by decide +kernel
theorem dX11_sumOwed_23 : decode cX11_sumOwed 23 = .ok (.ifCond .eq 43, 3) := by decide +kernel
theorem dX11_sumOwed_26 : decode cX11_sumOwed 26 = .ok (.iload_n 1, 1) := by decide +kernel
theorem dX11_sumOwed_27 : decode cX11_sumOwed 27 = .ok (.ifCond .lt 14, 3) := by decide +kernel
theorem dX11_sumOwed_30 : decode cX11_sumOwed 30 = .ok (.aload_n 0, 1) := by decide +kernel
theorem dX11_sumOwed_31 : decode cX11_sumOwed 31 = .ok (.getfield 109, 3) := by decide +kernel
theorem dX11_sumOwed_34 : decode cX11_sumOwed 34 = .ok (.iload 4, 2) := by decide +kernel
theorem dX11_sumOwed_36 : decode cX11_sumOwed 36 = .ok (.iaload, 1) := by decide +kernel
theorem dX11_sumOwed_37 : decode cX11_sumOwed 37 = .ok (.iload_n 1, 1) := by decide +kernel
theorem dX11_sumOwed_38 : decode cX11_sumOwed 38 = .ok (.if_icmp .ne 28, 3) := by decide +kernel
theorem dX11_sumOwed_41 : decode cX11_sumOwed 41 = .ok (.iload_n 2, 1) := by decide +kernel
theorem dX11_sumOwed_42 : decode cX11_sumOwed 42 = .ok (.ifCond .lt 14, 3) := by decide +kernel
theorem dX11_sumOwed_45 : decode cX11_sumOwed 45 = .ok (.aload_n 0, 1) := by decide +kernel
theorem dX11_sumOwed_46 : decode cX11_sumOwed 46 = .ok (.getfield 112, 3) := by decide +kernel
theorem dX11_sumOwed_49 : decode cX11_sumOwed 49 = .ok (.iload 4, 2) := by decide +kernel
theorem dX11_sumOwed_51 : decode cX11_sumOwed 51 = .ok (.iaload, 1) := by decide +kernel
theorem dX11_sumOwed_52 : decode cX11_sumOwed 52 = .ok (.iload_n 2, 1) := by decide +kernel
theorem dX11_sumOwed_53 : decode cX11_sumOwed 53 = .ok (.if_icmp .ne 13, 3) := by decide +kernel
theorem dX11_sumOwed_56 : decode cX11_sumOwed 56 = .ok (.iload_n 3, 1) := by decide +kernel
theorem dX11_sumOwed_57 : decode cX11_sumOwed 57 = .ok (.aload_n 0, 1) := by decide +kernel
theorem dX11_sumOwed_58 : decode cX11_sumOwed 58 = .ok (.getfield 121, 3) := by decide +kernel
theorem dX11_sumOwed_61 : decode cX11_sumOwed 61 = .ok (.iload 4, 2) := by decide +kernel
theorem dX11_sumOwed_63 : decode cX11_sumOwed 63 = .ok (.iaload, 1) := by decide +kernel
theorem dX11_sumOwed_64 : decode cX11_sumOwed 64 = .ok (.iadd, 1) := by decide +kernel
theorem dX11_sumOwed_65 : decode cX11_sumOwed 65 = .ok (.istore_n 3, 1) := by decide +kernel
theorem dX11_sumOwed_66 : decode cX11_sumOwed 66 = .ok (.iinc 4 1, 3) := by decide +kernel
theorem dX11_sumOwed_69 : decode cX11_sumOwed 69 = .ok (.goto (-64), 3) := by decide +kernel
theorem dX11_sumOwed_72 : decode cX11_sumOwed 72 = .ok (.iload_n 3, 1) := by decide +kernel
theorem dX11_sumOwed_73 : decode cX11_sumOwed 73 = .ok (.ireturn, 1) := by decide +kernel
theorem dX11_person_0 : decode cX11_person 0 = .ok (.aload_n 0, 1) := by decide +kernel
theorem dX11_person_1 : decode cX11_person 1 = .ok (.iconst 0, 1) := by decide +kernel
theorem dX11_person_2 : decode cX11_person 2 = .ok (.putfield 193, 3) := by decide +kernel
theorem dX11_person_5 : decode cX11_person 5 = .ok (.aload_n 0, 1) := by decide +kernel
theorem dX11_person_6 : decode cX11_person 6 = .ok (.iload_n 1, 1) := by decide +kernel
theorem dX11_person_7 : decode cX11_person 7 = .ok (.invokevirtual 456, 3) := by decide +kernel
theorem dX11_person_10 : decode cX11_person 10 = .ok (.ifCond .ne 9, 3) := by decide +kernel
theorem dX11_person_13 : decode cX11_person 13 = .ok (.aload_n 0, 1) := by decide +kernel
theorem dX11_person_14 : decode cX11_person 14 = .ok (.iconst 1, 1) := by decide +kernel
theorem dX11_person_15 : decode cX11_person 15 = .ok (.invokevirtual 459, 3) := by decide +kernel
theorem dX11_person_18 : decode cX11_person 18 = .ok (.ireturn, 1) := by decide +kernel
theorem dX11_person_19 : decode cX11_person 19 = .ok (.iload_n 2, 1) := by decide +kernel
theorem dX11_person_20 : decode cX11_person 20 = .ok (.tableswitch 82 0 5 #[40, 47, 54, 61, 68, 75], 40) := by decide +kernel
theorem dX11_person_60 : decode cX11_person 60 = .ok (.aload_n 0, 1) := by decide +kernel
theorem dX11_person_61 : decode cX11_person 61 = .ok (.getfield 100, 3) := by decide +kernel
theorem dX11_person_64 : decode cX11_person 64 = .ok (.iload_n 1, 1) := by decide +kernel
theorem dX11_person_65 : decode cX11_person 65 = .ok (.iaload, 1) := by decide +kernel
theorem dX11_person_66 : decode cX11_person 66 = .ok (.ireturn, 1) := by decide +kernel
theorem dX11_person_67 : decode cX11_person 67 = .ok (.aload_n 0, 1) := by decide +kernel
theorem dX11_person_68 : decode cX11_person 68 = .ok (.getfield 36, 3) := by decide +kernel
theorem dX11_person_71 : decode cX11_person 71 = .ok (.iload_n 1, 1) := by decide +kernel
theorem dX11_person_72 : decode cX11_person 72 = .ok (.iaload, 1) := by decide +kernel
theorem dX11_person_73 : decode cX11_person 73 = .ok (.ireturn, 1) := by decide +kernel
theorem dX11_person_74 : decode cX11_person 74 = .ok (.aload_n 0, 1) := by decide +kernel
theorem dX11_person_75 : decode cX11_person 75 = .ok (.getfield 30, 3) := by decide +kernel
theorem dX11_person_78 : decode cX11_person 78 = .ok (.iload_n 1, 1) := by decide +kernel
theorem dX11_person_79 : decode cX11_person 79 = .ok (.iaload, 1) := by decide +kernel
theorem dX11_person_80 : decode cX11_person 80 = .ok (.ireturn, 1) := by decide +kernel
theorem dX11_person_81 : decode cX11_person 81 = .ok (.aload_n 0, 1) := by decide +kernel
theorem dX11_person_82 : decode cX11_person 82 = .ok (.getfield 103, 3) := by decide +kernel
theorem dX11_person_85 : decode cX11_person 85 = .ok (.iload_n 1, 1) := by decide +kernel
theorem dX11_person_86 : decode cX11_person 86 = .ok (.iaload, 1) := by decide +kernel
theorem dX11_person_87 : decode cX11_person 87 = .ok (.ireturn, 1) := by decide +kernel
theorem dX11_person_88 : decode cX11_person 88 = .ok (.aload_n 0, 1) := by decide +kernel
theorem dX11_person_89 : decode cX11_person 89 = .ok (.iload_n 1, 1) := by decide +kernel
theorem dX11_person_90 : decode cX11_person 90 = .ok (.iconst (-1), 1) := by decide +kernel
theorem dX11_person_91 : decode cX11_person 91 = .ok (.invokevirtual 462, 3) := by decide +kernel
theorem dX11_person_94 : decode cX11_person 94 = .ok (.ireturn, 1) := by decide +kernel
theorem dX11_person_95 : decode cX11_person 95 = .ok (.aload_n 0, 1) := by decide +kernel
theorem dX11_person_96 : decode cX11_person 96 = .ok (.iconst (-1), 1) := by decide +kernel
theorem dX11_person_97 : decode cX11_person 97 = .ok (.iload_n 1, 1) := by decide +kernel
theorem dX11_person_98 : decode cX11_person 98 = .ok (.invokevirtual 462, 3) := by decide +kernel
theorem dX11_person_101 : decode cX11_person 101 = .ok (.ireturn, 1) := by decide +kernel
theorem dX11_person_102 : decode cX11_person 102 = .ok (.aload_n 0, 1) := by decide +kernel
theorem dX11_person_103 : decode cX11_person 103 = .ok (.iconst 2, 1) := by decide +kernel
theorem dX11_person_104 : decode cX11_person 104 = .ok (.invokevirtual 459, 3) := by decide +kernel
theorem dX11_person_107 : decode cX11_person 107 = .ok (.ireturn, 1) := by decide +kernel
theorem dX11_strand_0 : decode cX11_strand 0 = .ok (.aload_n 0, 1) := by decide +kernel
theorem dX11_strand_1 : decode cX11_strand 1 = .ok (.iconst 0, 1) := by decide +kernel
theorem dX11_strand_2 : decode cX11_strand 2 = .ok (.putfield 193, 3) := by decide +kernel
theorem dX11_strand_5 : decode cX11_strand 5 = .ok (.aload_n 0, 1) := by decide +kernel
theorem dX11_strand_6 : decode cX11_strand 6 = .ok (.iload_n 1, 1) := by decide +kernel
theorem dX11_strand_7 : decode cX11_strand 7 = .ok (.invokevirtual 465, 3) := by decide +kernel
theorem dX11_strand_10 : decode cX11_strand 10 = .ok (.ifCond .ne 5, 3) := by decide +kernel
theorem dX11_strand_13 : decode cX11_strand 13 = .ok (.iconst (-1), 1) := by decide +kernel
theorem dX11_strand_14 : decode cX11_strand 14 = .ok (.ireturn, 1) := by decide +kernel
theorem dX11_strand_15 : decode cX11_strand 15 = .ok (.iload_n 2, 1) := by decide +kernel
theorem dX11_strand_16 : decode cX11_strand 16 = .ok (.tableswitch 116 0 8 #[52, 59, 66, 73, 80, 87, 94, 102, 109], 52) := by decide +kernel
theorem dX11_strand_68 : decode cX11_strand 68 = .ok (.aload_n 0, 1) := by decide +kernel
theorem dX11_strand_69 : decode cX11_strand 69 = .ok (.getfield 109, 3) := by decide +kernel
theorem dX11_strand_72 : decode cX11_strand 72 = .ok (.iload_n 1, 1) := by decide +kernel
theorem dX11_strand_73 : decode cX11_strand 73 = .ok (.iaload, 1) := by decide +kernel
theorem dX11_strand_74 : decode cX11_strand 74 = .ok (.ireturn, 1) := by decide +kernel
theorem dX11_strand_75 : decode cX11_strand 75 = .ok (.aload_n 0, 1) := by decide +kernel
theorem dX11_strand_76 : decode cX11_strand 76 = .ok (.getfield 112, 3) := by decide +kernel
theorem dX11_strand_79 : decode cX11_strand 79 = .ok (.iload_n 1, 1) := by decide +kernel
theorem dX11_strand_80 : decode cX11_strand 80 = .ok (.iaload, 1) := by decide +kernel
theorem dX11_strand_81 : decode cX11_strand 81 = .ok (.ireturn, 1) := by decide +kernel
theorem dX11_strand_82 : decode cX11_strand 82 = .ok (.aload_n 0, 1) := by decide +kernel
theorem dX11_strand_83 : decode cX11_strand 83 = .ok (.getfield 121, 3) := by decide +kernel
theorem dX11_strand_86 : decode cX11_strand 86 = .ok (.iload_n 1, 1) := by decide +kernel
theorem dX11_strand_87 : decode cX11_strand 87 = .ok (.iaload, 1) := by decide +kernel
theorem dX11_strand_88 : decode cX11_strand 88 = .ok (.ireturn, 1) := by decide +kernel
theorem dX11_strand_89 : decode cX11_strand 89 = .ok (.aload_n 0, 1) := by decide +kernel
theorem dX11_strand_90 : decode cX11_strand 90 = .ok (.getfield 124, 3) := by decide +kernel
theorem dX11_strand_93 : decode cX11_strand 93 = .ok (.iload_n 1, 1) := by decide +kernel
theorem dX11_strand_94 : decode cX11_strand 94 = .ok (.iaload, 1) := by decide +kernel
theorem dX11_strand_95 : decode cX11_strand 95 = .ok (.ireturn, 1) := by decide +kernel
theorem dX11_strand_96 : decode cX11_strand 96 = .ok (.aload_n 0, 1) := by decide +kernel
theorem dX11_strand_97 : decode cX11_strand 97 = .ok (.getfield 118, 3) := by decide +kernel
theorem dX11_strand_100 : decode cX11_strand 100 = .ok (.iload_n 1, 1) := by decide +kernel
theorem dX11_strand_101 : decode cX11_strand 101 = .ok (.iaload, 1) := by decide +kernel
theorem dX11_strand_102 : decode cX11_strand 102 = .ok (.ireturn, 1) := by decide +kernel
theorem dX11_strand_103 : decode cX11_strand 103 = .ok (.aload_n 0, 1) := by decide +kernel
theorem dX11_strand_104 : decode cX11_strand 104 = .ok (.getfield 127, 3) := by decide +kernel
theorem dX11_strand_107 : decode cX11_strand 107 = .ok (.iload_n 1, 1) := by decide +kernel
theorem dX11_strand_108 : decode cX11_strand 108 = .ok (.iaload, 1) := by decide +kernel
theorem dX11_strand_109 : decode cX11_strand 109 = .ok (.ireturn, 1) := by decide +kernel
theorem dX11_strand_110 : decode cX11_strand 110 = .ok (.aload_n 0, 1) := by decide +kernel
theorem dX11_strand_111 : decode cX11_strand 111 = .ok (.iconst 0, 1) := by decide +kernel
theorem dX11_strand_112 : decode cX11_strand 112 = .ok (.iload_n 1, 1) := by decide +kernel
theorem dX11_strand_113 : decode cX11_strand 113 = .ok (.iconst 0, 1) := by decide +kernel
theorem dX11_strand_114 : decode cX11_strand 114 = .ok (.invokevirtual 439, 3) := by decide +kernel
theorem dX11_strand_117 : decode cX11_strand 117 = .ok (.ireturn, 1) := by decide +kernel
theorem dX11_strand_118 : decode cX11_strand 118 = .ok (.aload_n 0, 1) := by decide +kernel
theorem dX11_strand_119 : decode cX11_strand 119 = .ok (.getfield 130, 3) := by decide +kernel
theorem dX11_strand_122 : decode cX11_strand 122 = .ok (.iload_n 1, 1) := by decide +kernel
theorem dX11_strand_123 : decode cX11_strand 123 = .ok (.iaload, 1) := by decide +kernel
theorem dX11_strand_124 : decode cX11_strand 124 = .ok (.ireturn, 1) := by decide +kernel
theorem dX11_strand_125 : decode cX11_strand 125 = .ok (.aload_n 0, 1) := by decide +kernel
theorem dX11_strand_126 : decode cX11_strand 126 = .ok (.getfield 115, 3) := by decide +kernel
theorem dX11_strand_129 : decode cX11_strand 129 = .ok (.iload_n 1, 1) := by decide +kernel
theorem dX11_strand_130 : decode cX11_strand 130 = .ok (.iaload, 1) := by decide +kernel
theorem dX11_strand_131 : decode cX11_strand 131 = .ok (.ireturn, 1) := by decide +kernel
theorem dX11_strand_132 : decode cX11_strand 132 = .ok (.iconst (-1), 1) := by decide +kernel
theorem dX11_strand_133 : decode cX11_strand 133 = .ok (.ireturn, 1) := by decide +kernel
theorem dX11_crossing_0 : decode cX11_crossing 0 = .ok (.aload_n 0, 1) := by decide +kernel
theorem dX11_crossing_1 : decode cX11_crossing 1 = .ok (.iconst 0, 1) := by decide +kernel
theorem dX11_crossing_2 : decode cX11_crossing 2 = .ok (.putfield 193, 3) := by decide +kernel
theorem dX11_crossing_5 : decode cX11_crossing 5 = .ok (.iload_n 1, 1) := by decide +kernel
theorem dX11_crossing_6 : decode cX11_crossing 6 = .ok (.ifCond .lt 11, 3) := by decide +kernel
theorem dX11_crossing_9 : decode cX11_crossing 9 = .ok (.iload_n 1, 1) := by decide +kernel
theorem dX11_crossing_10 : decode cX11_crossing 10 = .ok (.aload_n 0, 1) := by decide +kernel
theorem dX11_crossing_11 : decode cX11_crossing 11 = .ok (.getfield 276, 3) := by decide +kernel
theorem dX11_crossing_14 : decode cX11_crossing 14 = .ok (.if_icmp .lt 5, 3) := by decide +kernel
theorem dX11_crossing_17 : decode cX11_crossing 17 = .ok (.iconst (-1), 1) := by decide +kernel
theorem dX11_crossing_18 : decode cX11_crossing 18 = .ok (.ireturn, 1) := by decide +kernel
theorem dX11_crossing_19 : decode cX11_crossing 19 = .ok (.iload_n 2, 1) := by decide +kernel
theorem dX11_crossing_20 : decode cX11_crossing 20 = .ok (.ifCond .ne 12, 3) := by decide +kernel
theorem dX11_crossing_23 : decode cX11_crossing 23 = .ok (.aload_n 0, 1) := by decide +kernel
theorem dX11_crossing_24 : decode cX11_crossing 24 = .ok (.getfield 60, 3) := by decide +kernel
theorem dX11_crossing_27 : decode cX11_crossing 27 = .ok (.iload_n 1, 1) := by decide +kernel
theorem dX11_crossing_28 : decode cX11_crossing 28 = .ok (.iaload, 1) := by decide +kernel
theorem dX11_crossing_29 : decode cX11_crossing 29 = .ok (.goto 46, 3) := by decide +kernel
theorem dX11_crossing_32 : decode cX11_crossing 32 = .ok (.iload_n 2, 1) := by decide +kernel
theorem dX11_crossing_33 : decode cX11_crossing 33 = .ok (.iconst 1, 1) := by decide +kernel
theorem dX11_crossing_34 : decode cX11_crossing 34 = .ok (.if_icmp .ne 12, 3) := by decide +kernel
theorem dX11_crossing_37 : decode cX11_crossing 37 = .ok (.aload_n 0, 1) := by decide +kernel
theorem dX11_crossing_38 : decode cX11_crossing 38 = .ok (.getfield 63, 3) := by decide +kernel
theorem dX11_crossing_41 : decode cX11_crossing 41 = .ok (.iload_n 1, 1) := by decide +kernel
theorem dX11_crossing_42 : decode cX11_crossing 42 = .ok (.iaload, 1) := by decide +kernel
theorem dX11_crossing_43 : decode cX11_crossing 43 = .ok (.goto 32, 3) := by decide +kernel
theorem dX11_crossing_46 : decode cX11_crossing 46 = .ok (.iload_n 2, 1) := by decide +kernel
theorem dX11_crossing_47 : decode cX11_crossing 47 = .ok (.iconst 2, 1) := by decide +kernel
theorem dX11_crossing_48 : decode cX11_crossing 48 = .ok (.if_icmp .ne 12, 3) := by decide +kernel
theorem dX11_crossing_51 : decode cX11_crossing 51 = .ok (.aload_n 0, 1) := by decide +kernel
theorem dX11_crossing_52 : decode cX11_crossing 52 = .ok (.getfield 66, 3) := by decide +kernel
theorem dX11_crossing_55 : decode cX11_crossing 55 = .ok (.iload_n 1, 1) := by decide +kernel
theorem dX11_crossing_56 : decode cX11_crossing 56 = .ok (.iaload, 1) := by decide +kernel
theorem dX11_crossing_57 : decode cX11_crossing 57 = .ok (.goto 18, 3) := by decide +kernel
theorem dX11_crossing_60 : decode cX11_crossing 60 = .ok (.iload_n 2, 1) := by decide +kernel
theorem dX11_crossing_61 : decode cX11_crossing 61 = .ok (.iconst 3, 1) := by decide +kernel
theorem dX11_crossing_62 : decode cX11_crossing 62 = .ok (.if_icmp .ne 12, 3) := by decide +kernel
theorem dX11_crossing_65 : decode cX11_crossing 65 = .ok (.aload_n 0, 1) := by decide +kernel
theorem dX11_crossing_66 : decode cX11_crossing 66 = .ok (.getfield 136, 3) := by decide +kernel
theorem dX11_crossing_69 : decode cX11_crossing 69 = .ok (.iload_n 1, 1) := by decide +kernel
theorem dX11_crossing_70 : decode cX11_crossing 70 = .ok (.iaload, 1) := by decide +kernel
theorem dX11_crossing_71 : decode cX11_crossing 71 = .ok (.goto 4, 3) := by decide +kernel
theorem dX11_crossing_74 : decode cX11_crossing 74 = .ok (.iconst (-1), 1) := by decide +kernel
theorem dX11_crossing_75 : decode cX11_crossing 75 = .ok (.ireturn, 1) := by decide +kernel
theorem dX11_law_0 : decode cX11_law 0 = .ok (.aload_n 0, 1) := by decide +kernel
theorem dX11_law_1 : decode cX11_law 1 = .ok (.iconst 0, 1) := by decide +kernel
theorem dX11_law_2 : decode cX11_law 2 = .ok (.putfield 193, 3) := by decide +kernel
theorem dX11_law_5 : decode cX11_law 5 = .ok (.iload_n 1, 1) := by decide +kernel
theorem dX11_law_6 : decode cX11_law 6 = .ok (.iconst 0, 1) := by decide +kernel
theorem dX11_law_7 : decode cX11_law 7 = .ok (.iconst 2, 1) := by decide +kernel
theorem dX11_law_8 : decode cX11_law 8 = .ok (.invokestatic 238, 3) := by decide +kernel
theorem dX11_law_11 : decode cX11_law 11 = .ok (.ifCond .eq 29, 3) := by decide +kernel
theorem dX11_law_14 : decode cX11_law 14 = .ok (.aload_n 0, 1) := by decide +kernel
theorem dX11_law_15 : decode cX11_law 15 = .ok (.getfield 69, 3) := by decide +kernel
theorem dX11_law_18 : decode cX11_law 18 = .ok (.iload_n 1, 1) := by decide +kernel
theorem dX11_law_19 : decode cX11_law 19 = .ok (.baload, 1) := by decide +kernel
theorem dX11_law_20 : decode cX11_law 20 = .ok (.ifCond .eq 20, 3) := by decide +kernel
theorem dX11_law_23 : decode cX11_law 23 = .ok (.aload_n 0, 1) := by decide +kernel
theorem dX11_law_24 : decode cX11_law 24 = .ok (.iload_n 2, 1) := by decide +kernel
theorem dX11_law_25 : decode cX11_law 25 = .ok (.invokevirtual 465, 3) := by decide +kernel
theorem dX11_law_28 : decode cX11_law 28 = .ok (.ifCond .eq 12, 3) := by decide +kernel
theorem dX11_law_31 : decode cX11_law 31 = .ok (.aload_n 0, 1) := by decide +kernel
theorem dX11_law_32 : decode cX11_law 32 = .ok (.iconst 0, 1) := by decide +kernel
theorem dX11_law_33 : decode cX11_law 33 = .ok (.iload_n 2, 1) := by decide +kernel
theorem dX11_law_34 : decode cX11_law 34 = .ok (.invokevirtual 418, 3) := by decide +kernel
theorem dX11_law_37 : decode cX11_law 37 = .ok (.ifCond .ne 7, 3) := by decide +kernel
theorem dX11_law_40 : decode cX11_law 40 = .ok (.ldc2_w 468, 3) := by decide +kernel
theorem dX11_law_43 : decode cX11_law 43 = .ok (.lreturn, 1) := by decide +kernel
theorem dX11_law_44 : decode cX11_law 44 = .ok (.aload_n 0, 1) := by decide +kernel
theorem dX11_law_45 : decode cX11_law 45 = .ok (.iconst 0, 1) := by decide +kernel
theorem dX11_law_46 : decode cX11_law 46 = .ok (.iload_n 2, 1) := by decide +kernel
theorem dX11_law_47 : decode cX11_law 47 = .ok (.iconst 0, 1) := by decide +kernel
theorem dX11_law_48 : decode cX11_law 48 = .ok (.invokevirtual 431, 3) := by decide +kernel
theorem dX11_law_51 : decode cX11_law 51 = .ok (.aload_n 0, 1) := by decide +kernel
theorem dX11_law_52 : decode cX11_law 52 = .ok (.iload_n 1, 1) := by decide +kernel
theorem dX11_law_53 : decode cX11_law 53 = .ok (.invokevirtual 428, 3) := by decide +kernel
theorem dX11_law_56 : decode cX11_law 56 = .ok (.lstore_n 3, 1) := by decide +kernel
theorem dX11_law_57 : decode cX11_law 57 = .ok (.aload_n 0, 1) := by decide +kernel
theorem dX11_law_58 : decode cX11_law 58 = .ok (.getfield 371, 3) := by decide +kernel
theorem dX11_law_61 : decode cX11_law 61 = .ok (.ifCond .eq 9, 3) := by decide +kernel
theorem dX11_law_64 : decode cX11_law 64 = .ok (.ldc2_w 468, 3) := by decide +kernel
theorem dX11_law_67 : decode cX11_law 67 = .ok (.goto 4, 3) := by decide +kernel
theorem dX11_law_70 : decode cX11_law 70 = .ok (.lload_n 3, 1) := by decide +kernel
theorem dX11_law_71 : decode cX11_law 71 = .ok (.lreturn, 1) := by decide +kernel
theorem dX11_bears_0 : decode cX11_bears 0 = .ok (.aload_n 0, 1) := by decide +kernel
theorem dX11_bears_1 : decode cX11_bears 1 = .ok (.iconst 0, 1) := by decide +kernel
theorem dX11_bears_2 : decode cX11_bears 2 = .ok (.putfield 193, 3) := by decide +kernel
theorem dX11_bears_5 : decode cX11_bears 5 = .ok (.aload_n 0, 1) := by decide +kernel
theorem dX11_bears_6 : decode cX11_bears 6 = .ok (.iconst 0, 1) := by decide +kernel
theorem dX11_bears_7 : decode cX11_bears 7 = .ok (.invokevirtual 443, 3) := by decide +kernel
theorem dX11_bears_10 : decode cX11_bears 10 = .ok (.ireturn, 1) := by decide +kernel
theorem dX11_sagOf_0 : decode cX11_sagOf 0 = .ok (.iload_n 2, 1) := by decide +kernel
theorem dX11_sagOf_1 : decode cX11_sagOf 1 = .ok (.ifCond .eq 15, 3) := by decide +kernel
theorem dX11_sagOf_4 : decode cX11_sagOf 4 = .ok (.iload_n 1, 1) := by decide +kernel
theorem dX11_sagOf_5 : decode cX11_sagOf 5 = .ok (.bipush 100, 2) := by decide +kernel
theorem dX11_sagOf_7 : decode cX11_sagOf 7 = .ok (.imul, 1) := by decide +kernel
theorem dX11_sagOf_8 : decode cX11_sagOf 8 = .ok (.iload_n 2, 1) := by decide +kernel
theorem dX11_sagOf_9 : decode cX11_sagOf 9 = .ok (.idiv, 1) := by decide +kernel
theorem dX11_sagOf_10 : decode cX11_sagOf 10 = .ok (.sipush 9999, 3) := by decide +kernel
theorem dX11_sagOf_13 : decode cX11_sagOf 13 = .ok (.if_icmp .le 9, 3) := by decide +kernel
theorem dX11_sagOf_16 : decode cX11_sagOf 16 = .ok (.sipush 9999, 3) := by decide +kernel
theorem dX11_sagOf_19 : decode cX11_sagOf 19 = .ok (.goto 9, 3) := by decide +kernel
theorem dX11_sagOf_22 : decode cX11_sagOf 22 = .ok (.iload_n 1, 1) := by decide +kernel
theorem dX11_sagOf_23 : decode cX11_sagOf 23 = .ok (.bipush 100, 2) := by decide +kernel
theorem dX11_sagOf_25 : decode cX11_sagOf 25 = .ok (.imul, 1) := by decide +kernel
theorem dX11_sagOf_26 : decode cX11_sagOf 26 = .ok (.iload_n 2, 1) := by decide +kernel
theorem dX11_sagOf_27 : decode cX11_sagOf 27 = .ok (.idiv, 1) := by decide +kernel
theorem dX11_sagOf_28 : decode cX11_sagOf 28 = .ok (.ireturn, 1) := by decide +kernel
theorem dX11_sag_0 : decode cX11_sag 0 = .ok (.aload_n 0, 1) := by decide +kernel
theorem dX11_sag_1 : decode cX11_sag 1 = .ok (.iconst 0, 1) := by decide +kernel
theorem dX11_sag_2 : decode cX11_sag 2 = .ok (.putfield 193, 3) := by decide +kernel
theorem dX11_sag_5 : decode cX11_sag 5 = .ok (.iload_n 1, 1) := by decide +kernel
theorem dX11_sag_6 : decode cX11_sag 6 = .ok (.iconst 1, 1) := by decide +kernel
theorem dX11_sag_7 : decode cX11_sag 7 = .ok (.sipush 999, 3) := by decide +kernel
theorem dX11_sag_10 : decode cX11_sag 10 = .ok (.invokestatic 238, 3) := by decide +kernel
theorem dX11_sag_13 : decode cX11_sag 13 = .ok (.ifCond .eq 16, 3) := by decide +kernel
theorem dX11_sag_16 : decode cX11_sag 16 = .ok (.aload_n 0, 1) := by decide +kernel
theorem dX11_sag_17 : decode cX11_sag 17 = .ok (.iload_n 1, 1) := by decide +kernel
theorem dX11_sag_18 : decode cX11_sag 18 = .ok (.aload_n 0, 1) := by decide +kernel
theorem dX11_sag_19 : decode cX11_sag 19 = .ok (.iconst 0, 1) := by decide +kernel
theorem dX11_sag_20 : decode cX11_sag 20 = .ok (.invokevirtual 443, 3) := by decide +kernel
theorem dX11_sag_23 : decode cX11_sag 23 = .ok (.invokevirtual 470, 3) := by decide +kernel
theorem dX11_sag_26 : decode cX11_sag 26 = .ok (.goto 4, 3) := by decide +kernel
theorem dX11_sag_29 : decode cX11_sag 29 = .ok (.iconst (-1), 1) := by decide +kernel
theorem dX11_sag_30 : decode cX11_sag 30 = .ok (.ireturn, 1) := by decide +kernel
theorem dX11_tie_0 : decode cX11_tie 0 = .ok (.aload_n 0, 1) := by decide +kernel
theorem dX11_tie_1 : decode cX11_tie 1 = .ok (.iconst 0, 1) := by decide +kernel
theorem dX11_tie_2 : decode cX11_tie 2 = .ok (.putfield 193, 3) := by decide +kernel
theorem dX11_tie_5 : decode cX11_tie 5 = .ok (.aload_n 0, 1) := by decide +kernel
theorem dX11_tie_6 : decode cX11_tie 6 = .ok (.iload_n 1, 1) := by decide +kernel
theorem dX11_tie_7 : decode cX11_tie 7 = .ok (.invokevirtual 456, 3) := by decide +kernel
theorem dX11_tie_10 : decode cX11_tie 10 = .ok (.ifCond .eq 59, 3) := by decide +kernel
theorem dX11_tie_13 : decode cX11_tie 13 = .ok (.aload_n 0, 1) := by decide +kernel
theorem dX11_tie_14 : decode cX11_tie 14 = .ok (.iload_n 2, 1) := by decide +kernel
theorem dX11_tie_15 : decode cX11_tie 15 = .ok (.invokevirtual 456, 3) := by decide +kernel
theorem dX11_tie_18 : decode cX11_tie 18 = .ok (.ifCond .eq 51, 3) := by decide +kernel
theorem dX11_tie_21 : decode cX11_tie 21 = .ok (.aload_n 0, 1) := by decide +kernel
theorem dX11_tie_22 : decode cX11_tie 22 = .ok (.getfield 30, 3) := by decide +kernel
theorem dX11_tie_25 : decode cX11_tie 25 = .ok (.iload_n 1, 1) := by decide +kernel
theorem dX11_tie_26 : decode cX11_tie 26 = .ok (.iaload, 1) := by decide +kernel
theorem dX11_tie_27 : decode cX11_tie 27 = .ok (.aload_n 0, 1) := by decide +kernel
theorem dX11_tie_28 : decode cX11_tie 28 = .ok (.getfield 30, 3) := by decide +kernel
theorem dX11_tie_31 : decode cX11_tie 31 = .ok (.iload_n 2, 1) := by decide +kernel
theorem dX11_tie_32 : decode cX11_tie 32 = .ok (.iaload, 1) := by decide +kernel
theorem dX11_tie_33 : decode cX11_tie 33 = .ok (.if_icmp .eq 36, 3) := by decide +kernel
theorem dX11_tie_36 : decode cX11_tie 36 = .ok (.iload_n 3, 1) := by decide +kernel
theorem dX11_tie_37 : decode cX11_tie 37 = .ok (.iconst 1, 1) := by decide +kernel
theorem dX11_tie_38 : decode cX11_tie 38 = .ok (.sipush 999, 3) := by decide +kernel
theorem dX11_tie_41 : decode cX11_tie 41 = .ok (.invokestatic 238, 3) := by decide +kernel
theorem dX11_tie_44 : decode cX11_tie 44 = .ok (.ifCond .eq 25, 3) := by decide +kernel
theorem dX11_tie_47 : decode cX11_tie 47 = .ok (.iload 4, 2) := by decide +kernel
theorem dX11_tie_49 : decode cX11_tie 49 = .ok (.iconst 0, 1) := by decide +kernel
theorem dX11_tie_50 : decode cX11_tie 50 = .ok (.bipush 99, 2) := by decide +kernel
theorem dX11_tie_52 : decode cX11_tie 52 = .ok (.invokestatic 238, 3) := by decide +kernel
theorem dX11_tie_55 : decode cX11_tie 55 = .ok (.ifCond .eq 14, 3) := by decide +kernel
theorem dX11_tie_58 : decode cX11_tie 58 = .ok (.aload_n 0, 1) := by decide +kernel
theorem dX11_tie_59 : decode cX11_tie 59 = .ok (.getfield 106, 3) := by decide +kernel
theorem dX11_tie_62 : decode cX11_tie 62 = .ok (.iconst 0, 1) := by decide +kernel
theorem dX11_tie_63 : decode cX11_tie 63 = .ok (.iaload, 1) := by decide +kernel
theorem dX11_tie_64 : decode cX11_tie 64 = .ok (.bipush 12, 2) := by decide +kernel
theorem dX11_tie_66 : decode cX11_tie 66 = .ok (.if_icmp .ne 5, 3) := by decide +kernel
theorem dX11_tie_69 : decode cX11_tie 69 = .ok (.iconst (-1), 1) := by decide +kernel
theorem dX11_tie_70 : decode cX11_tie 70 = .ok (.ireturn, 1) := by decide +kernel
theorem dX11_tie_71 : decode cX11_tie 71 = .ok (.aload_n 0, 1) := by decide +kernel
theorem dX11_tie_72 : decode cX11_tie 72 = .ok (.invokevirtual 473, 3) := by decide +kernel
theorem dX11_tie_75 : decode cX11_tie 75 = .ok (.aload_n 0, 1) := by decide +kernel
theorem dX11_tie_76 : decode cX11_tie 76 = .ok (.getfield 106, 3) := by decide +kernel
theorem dX11_tie_79 : decode cX11_tie 79 = .ok (.iconst 0, 1) := by decide +kernel
theorem dX11_tie_80 : decode cX11_tie 80 = .ok (.iaload, 1) := by decide +kernel
theorem dX11_tie_81 : decode cX11_tie 81 = .ok (.istore 5, 2) := by decide +kernel
theorem dX11_tie_83 : decode cX11_tie 83 = .ok (.aload_n 0, 1) := by decide +kernel
theorem dX11_tie_84 : decode cX11_tie 84 = .ok (.getfield 109, 3) := by decide +kernel
theorem dX11_tie_87 : decode cX11_tie 87 = .ok (.iload 5, 2) := by decide +kernel
theorem dX11_tie_89 : decode cX11_tie 89 = .ok (.iload_n 1, 1) := by decide +kernel
theorem dX11_tie_90 : decode cX11_tie 90 = .ok (.iastore, 1) := by decide +kernel
theorem dX11_tie_91 : decode cX11_tie 91 = .ok (.aload_n 0, 1) := by decide +kernel
theorem dX11_tie_92 : decode cX11_tie 92 = .ok (.getfield 112, 3) := by decide +kernel
theorem dX11_tie_95 : decode cX11_tie 95 = .ok (.iload 5, 2) := by decide +kernel
theorem dX11_tie_97 : decode cX11_tie 97 = .ok (.iload_n 2, 1) := by decide +kernel
theorem dX11_tie_98 : decode cX11_tie 98 = .ok (.iastore, 1) := by decide +kernel
theorem dX11_tie_99 : decode cX11_tie 99 = .ok (.aload_n 0, 1) := by decide +kernel
theorem dX11_tie_100 : decode cX11_tie 100 = .ok (.getfield 115, 3) := by decide +kernel
theorem dX11_tie_103 : decode cX11_tie 103 = .ok (.iload 5, 2) := by decide +kernel
theorem dX11_tie_105 : decode cX11_tie 105 = .ok (.aload_n 0, 1) := by decide +kernel
theorem dX11_tie_106 : decode cX11_tie 106 = .ok (.getfield 139, 3) := by decide +kernel
theorem dX11_tie_109 : decode cX11_tie 109 = .ok (.iconst 0, 1) := by decide +kernel
theorem dX11_tie_110 : decode cX11_tie 110 = .ok (.iaload, 1) := by decide +kernel
theorem dX11_tie_111 : decode cX11_tie 111 = .ok (.iastore, 1) := by decide +kernel
theorem dX11_tie_112 : decode cX11_tie 112 = .ok (.aload_n 0, 1) := by decide +kernel
theorem dX11_tie_113 : decode cX11_tie 113 = .ok (.getfield 118, 3) := by decide +kernel
theorem dX11_tie_116 : decode cX11_tie 116 = .ok (.iload 5, 2) := by decide +kernel
theorem dX11_tie_118 : decode cX11_tie 118 = .ok (.iload 4, 2) := by decide +kernel
theorem dX11_tie_120 : decode cX11_tie 120 = .ok (.iastore, 1) := by decide +kernel
theorem dX11_tie_121 : decode cX11_tie 121 = .ok (.aload_n 0, 1) := by decide +kernel
theorem dX11_tie_122 : decode cX11_tie 122 = .ok (.getfield 121, 3) := by decide +kernel
theorem dX11_tie_125 : decode cX11_tie 125 = .ok (.iload 5, 2) := by decide +kernel
theorem dX11_tie_127 : decode cX11_tie 127 = .ok (.iload_n 3, 1) := by decide +kernel
theorem dX11_tie_128 : decode cX11_tie 128 = .ok (.iastore, 1) := by decide +kernel
theorem dX11_tie_129 : decode cX11_tie 129 = .ok (.aload_n 0, 1) := by decide +kernel
theorem dX11_tie_130 : decode cX11_tie 130 = .ok (.getfield 124, 3) := by decide +kernel
theorem dX11_tie_133 : decode cX11_tie 133 = .ok (.iload 5, 2) := by decide +kernel
theorem dX11_tie_135 : decode cX11_tie 135 = .ok (.iconst 0, 1) := by decide +kernel
theorem dX11_tie_136 : decode cX11_tie 136 = .ok (.iastore, 1) := by decide +kernel
theorem dX11_tie_137 : decode cX11_tie 137 = .ok (.aload_n 0, 1) := by decide +kernel
theorem dX11_tie_138 : decode cX11_tie 138 = .ok (.getfield 127, 3) := by decide +kernel
theorem dX11_tie_141 : decode cX11_tie 141 = .ok (.iload 5, 2) := by decide +kernel
theorem dX11_tie_143 : decode cX11_tie 143 = .ok (.iconst 0, 1) := by decide +kernel
theorem dX11_tie_144 : decode cX11_tie 144 = .ok (.iastore, 1) := by decide +kernel
theorem dX11_tie_145 : decode cX11_tie 145 = .ok (.aload_n 0, 1) := by decide +kernel
theorem dX11_tie_146 : decode cX11_tie 146 = .ok (.getfield 130, 3) := by decide +kernel
theorem dX11_tie_149 : decode cX11_tie 149 = .ok (.iload 5, 2) := by decide +kernel
theorem dX11_tie_151 : decode cX11_tie 151 = .ok (.iconst (-1), 1) := by decide +kernel
theorem dX11_tie_152 : decode cX11_tie 152 = .ok (.iastore, 1) := by decide +kernel
theorem dX11_tie_153 : decode cX11_tie 153 = .ok (.aload_n 0, 1) := by decide +kernel
theorem dX11_tie_154 : decode cX11_tie 154 = .ok (.getfield 133, 3) := by decide +kernel
theorem dX11_tie_157 : decode cX11_tie 157 = .ok (.iload 5, 2) := by decide +kernel
theorem dX11_tie_159 : decode cX11_tie 159 = .ok (.iconst 0, 1) := by decide +kernel
theorem dX11_tie_160 : decode cX11_tie 160 = .ok (.iastore, 1) := by decide +kernel
theorem dX11_tie_161 : decode cX11_tie 161 = .ok (.aload_n 0, 1) := by decide +kernel
theorem dX11_tie_162 : decode cX11_tie 162 = .ok (.getfield 106, 3) := by decide +kernel
theorem dX11_tie_165 : decode cX11_tie 165 = .ok (.iconst 0, 1) := by decide +kernel
theorem dX11_tie_166 : decode cX11_tie 166 = .ok (.dup2, 1) := by decide +kernel
theorem dX11_tie_167 : decode cX11_tie 167 = .ok (.iaload, 1) := by decide +kernel
theorem dX11_tie_168 : decode cX11_tie 168 = .ok (.iconst 1, 1) := by decide +kernel
theorem dX11_tie_169 : decode cX11_tie 169 = .ok (.iadd, 1) := by decide +kernel
theorem dX11_tie_170 : decode cX11_tie 170 = .ok (.iastore, 1) := by decide +kernel
theorem dX11_tie_171 : decode cX11_tie 171 = .ok (.iload 5, 2) := by decide +kernel
theorem dX11_tie_173 : decode cX11_tie 173 = .ok (.ireturn, 1) := by decide +kernel
theorem dX11_forgive_0 : decode cX11_forgive 0 = .ok (.aload_n 0, 1) := by decide +kernel
theorem dX11_forgive_1 : decode cX11_forgive 1 = .ok (.iconst 0, 1) := by decide +kernel
theorem dX11_forgive_2 : decode cX11_forgive 2 = .ok (.putfield 193, 3) := by decide +kernel
theorem dX11_forgive_5 : decode cX11_forgive 5 = .ok (.aload_n 0, 1) := by decide +kernel
theorem dX11_forgive_6 : decode cX11_forgive 6 = .ok (.iload_n 1, 1) := by decide +kernel
theorem dX11_forgive_7 : decode cX11_forgive 7 = .ok (.invokevirtual 465, 3) := by decide +kernel
theorem dX11_forgive_10 : decode cX11_forgive 10 = .ok (.ifCond .eq 12, 3) := by decide +kernel
theorem dX11_forgive_13 : decode cX11_forgive 13 = .ok (.aload_n 0, 1) := by decide +kernel
theorem dX11_forgive_14 : decode cX11_forgive 14 = .ok (.iconst 0, 1) := by decide +kernel
theorem dX11_forgive_15 : decode cX11_forgive 15 = .ok (.iload_n 1, 1) := by decide +kernel
theorem dX11_forgive_16 : decode cX11_forgive 16 = .ok (.invokevirtual 418, 3) := by decide +kernel
theorem dX11_forgive_19 : decode cX11_forgive 19 = .ok (.ifCond .ne 5, 3) := by decide +kernel
theorem dX11_forgive_22 : decode cX11_forgive 22 = .ok (.iconst 0, 1) := by decide +kernel
theorem dX11_forgive_23 : decode cX11_forgive 23 = .ok (.ireturn, 1) := by decide +kernel
theorem dX11_forgive_24 : decode cX11_forgive 24 = .ok (.aload_n 0, 1) := by decide +kernel
theorem dX11_forgive_25 : decode cX11_forgive 25 = .ok (.invokevirtual 473, 3) := by decide +kernel
theorem dX11_forgive_28 : decode cX11_forgive 28 = .ok (.aload_n 0, 1) := by decide +kernel
theorem dX11_forgive_29 : decode cX11_forgive 29 = .ok (.getfield 127, 3) := by decide +kernel
theorem dX11_forgive_32 : decode cX11_forgive 32 = .ok (.iload_n 1, 1) := by decide +kernel
theorem dX11_forgive_33 : decode cX11_forgive 33 = .ok (.iconst 2, 1) := by decide +kernel
theorem dX11_forgive_34 : decode cX11_forgive 34 = .ok (.iastore, 1) := by decide +kernel
theorem dX11_forgive_35 : decode cX11_forgive 35 = .ok (.iconst 1, 1) := by decide +kernel
theorem dX11_forgive_36 : decode cX11_forgive 36 = .ok (.ireturn, 1) := by decide +kernel
theorem dX11_pay_0 : decode cX11_pay 0 = .ok (.aload_n 0, 1) := by decide +kernel
theorem dX11_pay_1 : decode cX11_pay 1 = .ok (.iconst 0, 1) := by decide +kernel
theorem dX11_pay_2 : decode cX11_pay 2 = .ok (.putfield 193, 3) := by decide +kernel
theorem dX11_pay_5 : decode cX11_pay 5 = .ok (.aload_n 0, 1) := by decide +kernel
theorem dX11_pay_6 : decode cX11_pay 6 = .ok (.iload_n 1, 1) := by decide +kernel
theorem dX11_pay_7 : decode cX11_pay 7 = .ok (.invokevirtual 465, 3) := by decide +kernel
theorem dX11_pay_10 : decode cX11_pay 10 = .ok (.ifCond .eq 32, 3) := by decide +kernel
theorem dX11_pay_13 : decode cX11_pay 13 = .ok (.aload_n 0, 1) := by decide +kernel
theorem dX11_pay_14 : decode cX11_pay 14 = .ok (.iconst 0, 1) := by decide +kernel
theorem dX11_pay_15 : decode cX11_pay 15 = .ok (.iload_n 1, 1) := by decide +kernel
theorem dX11_pay_16 : decode cX11_pay 16 = .ok (.invokevirtual 418, 3) := by decide +kernel
theorem dX11_pay_19 : decode cX11_pay 19 = .ok (.ifCond .eq 23, 3) := by decide +kernel
theorem dX11_pay_22 : decode cX11_pay 22 = .ok (.aload_n 0, 1) := by decide +kernel
theorem dX11_pay_23 : decode cX11_pay 23 = .ok (.getfield 100, 3) := by decide +kernel
theorem dX11_pay_26 : decode cX11_pay 26 = .ok (.aload_n 0, 1) := by decide +kernel
theorem dX11_pay_27 : decode cX11_pay 27 = .ok (.getfield 109, 3) := by decide +kernel
theorem dX11_pay_30 : decode cX11_pay 30 = .ok (.iload_n 1, 1) := by decide +kernel
theorem dX11_pay_31 : decode cX11_pay 31 = .ok (.iaload, 1) := by decide +kernel
theorem dX11_pay_32 : decode cX11_pay 32 = .ok (.iaload, 1) := by decide +kernel
theorem dX11_pay_33 : decode cX11_pay 33 = .ok (.aload_n 0, 1) := by decide +kernel
theorem dX11_pay_34 : decode cX11_pay 34 = .ok (.getfield 121, 3) := by decide +kernel
theorem dX11_pay_37 : decode cX11_pay 37 = .ok (.iload_n 1, 1) := by decide +kernel
theorem dX11_pay_38 : decode cX11_pay 38 = .ok (.iaload, 1) := by decide +kernel
theorem dX11_pay_39 : decode cX11_pay 39 = .ok (.if_icmp .ge 5, 3) := by decide +kernel
theorem dX11_pay_42 : decode cX11_pay 42 = .ok (.iconst 0, 1) := by decide +kernel
theorem dX11_pay_43 : decode cX11_pay 43 = .ok (.ireturn, 1) := by decide +kernel
theorem dX11_pay_44 : decode cX11_pay 44 = .ok (.aload_n 0, 1) := by decide +kernel
theorem dX11_pay_45 : decode cX11_pay 45 = .ok (.invokevirtual 473, 3) := by decide +kernel
theorem dX11_pay_48 : decode cX11_pay 48 = .ok (.aload_n 0, 1) := by decide +kernel
theorem dX11_pay_49 : decode cX11_pay 49 = .ok (.iconst 0, 1) := by decide +kernel
theorem dX11_pay_50 : decode cX11_pay 50 = .ok (.iload_n 1, 1) := by decide +kernel
theorem dX11_pay_51 : decode cX11_pay 51 = .ok (.invokevirtual 452, 3) := by decide +kernel
theorem dX11_pay_54 : decode cX11_pay 54 = .ok (.iconst 1, 1) := by decide +kernel
theorem dX11_pay_55 : decode cX11_pay 55 = .ok (.ireturn, 1) := by decide +kernel
theorem dX11_untwists_0 : decode cX11_untwists 0 = .ok (.aload_n 0, 1) := by decide +kernel
theorem dX11_untwists_1 : decode cX11_untwists 1 = .ok (.getfield 130, 3) := by decide +kernel
theorem dX11_untwists_4 : decode cX11_untwists 4 = .ok (.iload_n 1, 1) := by decide +kernel
theorem dX11_untwists_5 : decode cX11_untwists 5 = .ok (.iaload, 1) := by decide +kernel
theorem dX11_untwists_6 : decode cX11_untwists 6 = .ok (.istore_n 2, 1) := by decide +kernel
theorem dX11_untwists_7 : decode cX11_untwists 7 = .ok (.aload_n 0, 1) := by decide +kernel
theorem dX11_untwists_8 : decode cX11_untwists 8 = .ok (.getfield 130, 3) := by decide +kernel
theorem dX11_untwists_11 : decode cX11_untwists 11 = .ok (.iload_n 1, 1) := by decide +kernel
theorem dX11_untwists_12 : decode cX11_untwists 12 = .ok (.iconst (-1), 1) := by decide +kernel
theorem dX11_untwists_13 : decode cX11_untwists 13 = .ok (.iastore, 1) := by decide +kernel
theorem dX11_untwists_14 : decode cX11_untwists 14 = .ok (.iload_n 2, 1) := by decide +kernel
theorem dX11_untwists_15 : decode cX11_untwists 15 = .ok (.ifCond .lt 10, 3) := by decide +kernel
theorem dX11_untwists_18 : decode cX11_untwists 18 = .ok (.aload_n 0, 1) := by decide +kernel
theorem dX11_untwists_19 : decode cX11_untwists 19 = .ok (.getfield 130, 3) := by decide +kernel
theorem dX11_untwists_22 : decode cX11_untwists 22 = .ok (.iload_n 2, 1) := by decide +kernel
theorem dX11_untwists_23 : decode cX11_untwists 23 = .ok (.iconst (-1), 1) := by decide +kernel
theorem dX11_untwists_24 : decode cX11_untwists 24 = .ok (.iastore, 1) := by decide +kernel
theorem dX11_untwists_25 : decode cX11_untwists 25 = .ok (.return_, 1) := by decide +kernel
theorem dX11_twist_0 : decode cX11_twist 0 = .ok (.aload_n 0, 1) := by decide +kernel
theorem dX11_twist_1 : decode cX11_twist 1 = .ok (.iconst 0, 1) := by decide +kernel
theorem dX11_twist_2 : decode cX11_twist 2 = .ok (.putfield 193, 3) := by decide +kernel
theorem dX11_twist_5 : decode cX11_twist 5 = .ok (.aload_n 0, 1) := by decide +kernel
theorem dX11_twist_6 : decode cX11_twist 6 = .ok (.iload_n 1, 1) := by decide +kernel
theorem dX11_twist_7 : decode cX11_twist 7 = .ok (.invokevirtual 465, 3) := by decide +kernel
theorem dX11_twist_10 : decode cX11_twist 10 = .ok (.ifCond .eq 29, 3) := by decide +kernel
theorem dX11_twist_13 : decode cX11_twist 13 = .ok (.aload_n 0, 1) := by decide +kernel
theorem dX11_twist_14 : decode cX11_twist 14 = .ok (.iload_n 2, 1) := by decide +kernel
theorem dX11_twist_15 : decode cX11_twist 15 = .ok (.invokevirtual 465, 3) := by decide +kernel
theorem dX11_twist_18 : decode cX11_twist 18 = .ok (.ifCond .eq 21, 3) := by decide +kernel
theorem dX11_twist_21 : decode cX11_twist 21 = .ok (.aload_n 0, 1) := by decide +kernel
theorem dX11_twist_22 : decode cX11_twist 22 = .ok (.iconst 0, 1) := by decide +kernel
theorem dX11_twist_23 : decode cX11_twist 23 = .ok (.iload_n 1, 1) := by decide +kernel
theorem dX11_twist_24 : decode cX11_twist 24 = .ok (.invokevirtual 418, 3) := by decide +kernel
theorem dX11_twist_27 : decode cX11_twist 27 = .ok (.ifCond .eq 12, 3) := by decide +kernel
theorem dX11_twist_30 : decode cX11_twist 30 = .ok (.aload_n 0, 1) := by decide +kernel
theorem dX11_twist_31 : decode cX11_twist 31 = .ok (.iconst 0, 1) := by decide +kernel
theorem dX11_twist_32 : decode cX11_twist 32 = .ok (.iload_n 2, 1) := by decide +kernel
theorem dX11_twist_33 : decode cX11_twist 33 = .ok (.invokevirtual 418, 3) := by decide +kernel
theorem dX11_twist_36 : decode cX11_twist 36 = .ok (.ifCond .ne 5, 3) := by decide +kernel
theorem dX11_twist_39 : decode cX11_twist 39 = .ok (.iconst 0, 1) := by decide +kernel
theorem dX11_twist_40 : decode cX11_twist 40 = .ok (.ireturn, 1) := by decide +kernel
theorem dX11_twist_41 : decode cX11_twist 41 = .ok (.iload_n 1, 1) := by decide +kernel
theorem dX11_twist_42 : decode cX11_twist 42 = .ok (.iload_n 2, 1) := by decide +kernel
theorem dX11_twist_43 : decode cX11_twist 43 = .ok (.if_icmp .ne 15, 3) := by decide +kernel
theorem dX11_twist_46 : decode cX11_twist 46 = .ok (.aload_n 0, 1) := by decide +kernel
theorem dX11_twist_47 : decode cX11_twist 47 = .ok (.getfield 130, 3) := by decide +kernel
theorem dX11_twist_50 : decode cX11_twist 50 = .ok (.iload_n 1, 1) := by decide +kernel
theorem dX11_twist_51 : decode cX11_twist 51 = .ok (.iaload, 1) := by decide +kernel
theorem dX11_twist_52 : decode cX11_twist 52 = .ok (.ifCond .ge 18, 3) := by decide +kernel
theorem dX11_twist_55 : decode cX11_twist 55 = .ok (.goto 13, 3) := by decide +kernel
theorem dX11_twist_58 : decode cX11_twist 58 = .ok (.aload_n 0, 1) := by decide +kernel
theorem dX11_twist_59 : decode cX11_twist 59 = .ok (.getfield 130, 3) := by decide +kernel
theorem dX11_twist_62 : decode cX11_twist 62 = .ok (.iload_n 1, 1) := by decide +kernel
theorem dX11_twist_63 : decode cX11_twist 63 = .ok (.iaload, 1) := by decide +kernel
theorem dX11_twist_64 : decode cX11_twist 64 = .ok (.iload_n 2, 1) := by decide +kernel
theorem dX11_twist_65 : decode cX11_twist 65 = .ok (.if_icmp .ne 5, 3) := by decide +kernel
theorem dX11_twist_68 : decode cX11_twist 68 = .ok (.iconst 0, 1) := by decide +kernel
theorem dX11_twist_69 : decode cX11_twist 69 = .ok (.ireturn, 1) := by decide +kernel
theorem dX11_twist_70 : decode cX11_twist 70 = .ok (.aload_n 0, 1) := by decide +kernel
theorem dX11_twist_71 : decode cX11_twist 71 = .ok (.invokevirtual 473, 3) := by decide +kernel
theorem dX11_twist_74 : decode cX11_twist 74 = .ok (.aload_n 0, 1) := by decide +kernel
theorem dX11_twist_75 : decode cX11_twist 75 = .ok (.iload_n 1, 1) := by decide +kernel
theorem dX11_twist_76 : decode cX11_twist 76 = .ok (.invokevirtual 476, 3) := by decide +kernel
theorem dX11_twist_79 : decode cX11_twist 79 = .ok (.aload_n 0, 1) := by decide +kernel
theorem dX11_twist_80 : decode cX11_twist 80 = .ok (.iload_n 2, 1) := by decide +kernel
theorem dX11_twist_81 : decode cX11_twist 81 = .ok (.invokevirtual 476, 3) := by decide +kernel
theorem dX11_twist_84 : decode cX11_twist 84 = .ok (.iload_n 1, 1) := by decide +kernel
theorem dX11_twist_85 : decode cX11_twist 85 = .ok (.iload_n 2, 1) := by decide +kernel
theorem dX11_twist_86 : decode cX11_twist 86 = .ok (.if_icmp .ne 5, 3) := by decide +kernel
theorem dX11_twist_89 : decode cX11_twist 89 = .ok (.iconst 1, 1) := by decide +kernel
theorem dX11_twist_90 : decode cX11_twist 90 = .ok (.ireturn, 1) := by decide +kernel
theorem dX11_twist_91 : decode cX11_twist 91 = .ok (.aload_n 0, 1) := by decide +kernel
theorem dX11_twist_92 : decode cX11_twist 92 = .ok (.getfield 130, 3) := by decide +kernel
theorem dX11_twist_95 : decode cX11_twist 95 = .ok (.iload_n 1, 1) := by decide +kernel
theorem dX11_twist_96 : decode cX11_twist 96 = .ok (.iload_n 2, 1) := by decide +kernel
theorem dX11_twist_97 : decode cX11_twist 97 = .ok (.iastore, 1) := by decide +kernel
theorem dX11_twist_98 : decode cX11_twist 98 = .ok (.aload_n 0, 1) := by decide +kernel
theorem dX11_twist_99 : decode cX11_twist 99 = .ok (.getfield 130, 3) := by decide +kernel
theorem dX11_twist_102 : decode cX11_twist 102 = .ok (.iload_n 2, 1) := by decide +kernel
theorem dX11_twist_103 : decode cX11_twist 103 = .ok (.iload_n 1, 1) := by decide +kernel
theorem dX11_twist_104 : decode cX11_twist 104 = .ok (.iastore, 1) := by decide +kernel
theorem dX11_twist_105 : decode cX11_twist 105 = .ok (.iconst 1, 1) := by decide +kernel
theorem dX11_twist_106 : decode cX11_twist 106 = .ok (.ireturn, 1) := by decide +kernel
theorem dX11_cross_0 : decode cX11_cross 0 = .ok (.aload_n 0, 1) := by decide +kernel
theorem dX11_cross_1 : decode cX11_cross 1 = .ok (.iconst 0, 1) := by decide +kernel
theorem dX11_cross_2 : decode cX11_cross 2 = .ok (.putfield 193, 3) := by decide +kernel
theorem dX11_cross_5 : decode cX11_cross 5 = .ok (.aload_n 0, 1) := by decide +kernel
theorem dX11_cross_6 : decode cX11_cross 6 = .ok (.iload_n 1, 1) := by decide +kernel
theorem dX11_cross_7 : decode cX11_cross 7 = .ok (.invokevirtual 456, 3) := by decide +kernel
theorem dX11_cross_10 : decode cX11_cross 10 = .ok (.ifCond .eq 13, 3) := by decide +kernel
theorem dX11_cross_13 : decode cX11_cross 13 = .ok (.iload_n 2, 1) := by decide +kernel
theorem dX11_cross_14 : decode cX11_cross 14 = .ok (.iconst 0, 1) := by decide +kernel
theorem dX11_cross_15 : decode cX11_cross 15 = .ok (.bipush 99, 2) := by decide +kernel
theorem dX11_cross_17 : decode cX11_cross 17 = .ok (.invokestatic 238, 3) := by decide +kernel
theorem dX11_cross_20 : decode cX11_cross 20 = .ok (.ifCond .ne 5, 3) := by decide +kernel
theorem dX11_cross_23 : decode cX11_cross 23 = .ok (.iconst (-1), 1) := by decide +kernel
theorem dX11_cross_24 : decode cX11_cross 24 = .ok (.ireturn, 1) := by decide +kernel
theorem dX11_cross_25 : decode cX11_cross 25 = .ok (.aload_n 0, 1) := by decide +kernel
theorem dX11_cross_26 : decode cX11_cross 26 = .ok (.getfield 36, 3) := by decide +kernel
theorem dX11_cross_29 : decode cX11_cross 29 = .ok (.iload_n 1, 1) := by decide +kernel
theorem dX11_cross_30 : decode cX11_cross 30 = .ok (.iaload, 1) := by decide +kernel
theorem dX11_cross_31 : decode cX11_cross 31 = .ok (.iload_n 2, 1) := by decide +kernel
theorem dX11_cross_32 : decode cX11_cross 32 = .ok (.iadd, 1) := by decide +kernel
theorem dX11_cross_33 : decode cX11_cross 33 = .ok (.aload_n 0, 1) := by decide +kernel
theorem dX11_cross_34 : decode cX11_cross 34 = .ok (.iconst 0, 1) := by decide +kernel
theorem dX11_cross_35 : decode cX11_cross 35 = .ok (.invokevirtual 443, 3) := by decide +kernel
theorem dX11_cross_38 : decode cX11_cross 38 = .ok (.if_icmp .le 5, 3) := by decide +kernel
theorem dX11_cross_41 : decode cX11_cross 41 = .ok (.iconst 0, 1) := by decide +kernel
theorem dX11_cross_42 : decode cX11_cross 42 = .ok (.ireturn, 1) := by decide +kernel
theorem dX11_cross_43 : decode cX11_cross 43 = .ok (.aload_n 0, 1) := by decide +kernel
theorem dX11_cross_44 : decode cX11_cross 44 = .ok (.invokevirtual 473, 3) := by decide +kernel
theorem dX11_cross_47 : decode cX11_cross 47 = .ok (.aload_n 0, 1) := by decide +kernel
theorem dX11_cross_48 : decode cX11_cross 48 = .ok (.getfield 103, 3) := by decide +kernel
theorem dX11_cross_51 : decode cX11_cross 51 = .ok (.iload_n 1, 1) := by decide +kernel
theorem dX11_cross_52 : decode cX11_cross 52 = .ok (.iconst 1, 1) := by decide +kernel
theorem dX11_cross_53 : decode cX11_cross 53 = .ok (.aload_n 0, 1) := by decide +kernel
theorem dX11_cross_54 : decode cX11_cross 54 = .ok (.getfield 103, 3) := by decide +kernel
theorem dX11_cross_57 : decode cX11_cross 57 = .ok (.iload_n 1, 1) := by decide +kernel
theorem dX11_cross_58 : decode cX11_cross 58 = .ok (.iaload, 1) := by decide +kernel
theorem dX11_cross_59 : decode cX11_cross 59 = .ok (.isub, 1) := by decide +kernel
theorem dX11_cross_60 : decode cX11_cross 60 = .ok (.iastore, 1) := by decide +kernel
theorem dX11_cross_61 : decode cX11_cross 61 = .ok (.iconst 1, 1) := by decide +kernel
theorem dX11_cross_62 : decode cX11_cross 62 = .ok (.ireturn, 1) := by decide +kernel
theorem dX11_years_0 : decode cX11_years 0 = .ok (.aload_n 0, 1) := by decide +kernel
theorem dX11_years_1 : decode cX11_years 1 = .ok (.iconst 0, 1) := by decide +kernel
theorem dX11_years_2 : decode cX11_years 2 = .ok (.putfield 193, 3) := by decide +kernel
theorem dX11_years_5 : decode cX11_years 5 = .ok (.iload_n 1, 1) := by decide +kernel
theorem dX11_years_6 : decode cX11_years 6 = .ok (.iconst 0, 1) := by decide +kernel
theorem dX11_years_7 : decode cX11_years 7 = .ok (.bipush 99, 2) := by decide +kernel
theorem dX11_years_9 : decode cX11_years 9 = .ok (.invokestatic 238, 3) := by decide +kernel
theorem dX11_years_12 : decode cX11_years 12 = .ok (.ifCond .eq 17, 3) := by decide +kernel
theorem dX11_years_15 : decode cX11_years 15 = .ok (.aload_n 0, 1) := by decide +kernel
theorem dX11_years_16 : decode cX11_years 16 = .ok (.getfield 139, 3) := by decide +kernel
theorem dX11_years_19 : decode cX11_years 19 = .ok (.iconst 0, 1) := by decide +kernel
theorem dX11_years_20 : decode cX11_years 20 = .ok (.iaload, 1) := by decide +kernel
theorem dX11_years_21 : decode cX11_years 21 = .ok (.iload_n 1, 1) := by decide +kernel
theorem dX11_years_22 : decode cX11_years 22 = .ok (.iadd, 1) := by decide +kernel
theorem dX11_years_23 : decode cX11_years 23 = .ok (.sipush 999, 3) := by decide +kernel
theorem dX11_years_26 : decode cX11_years 26 = .ok (.if_icmp .le 5, 3) := by decide +kernel
theorem dX11_years_29 : decode cX11_years 29 = .ok (.iconst (-1), 1) := by decide +kernel
theorem dX11_years_30 : decode cX11_years 30 = .ok (.ireturn, 1) := by decide +kernel
theorem dX11_years_31 : decode cX11_years 31 = .ok (.aload_n 0, 1) := by decide +kernel
theorem dX11_years_32 : decode cX11_years 32 = .ok (.invokevirtual 397, 3) := by decide +kernel
theorem dX11_years_35 : decode cX11_years 35 = .ok (.iconst 0, 1) := by decide +kernel
theorem dX11_years_36 : decode cX11_years 36 = .ok (.istore_n 2, 1) := by decide +kernel
theorem dX11_years_37 : decode cX11_years 37 = .ok (.iload_n 2, 1) := by decide +kernel
theorem dX11_years_38 : decode cX11_years 38 = .ok (.iload_n 1, 1) := by decide +kernel
theorem dX11_years_39 : decode cX11_years 39 = .ok (.if_icmp .ge 14, 3) := by decide +kernel
theorem dX11_years_42 : decode cX11_years 42 = .ok (.aload_n 0, 1) := by decide +kernel
theorem dX11_years_43 : decode cX11_years 43 = .ok (.iconst 0, 1) := by decide +kernel
theorem dX11_years_44 : decode cX11_years 44 = .ok (.invokevirtual 479, 3) := by decide +kernel
theorem dX11_years_47 : decode cX11_years 47 = .ok (.iinc 2 1, 3) := by decide +kernel
theorem dX11_years_50 : decode cX11_years 50 = .ok (.goto (-13), 3) := by decide +kernel
theorem dX11_years_53 : decode cX11_years 53 = .ok (.aload_n 0, 1) := by decide +kernel
theorem dX11_years_54 : decode cX11_years 54 = .ok (.iload_n 1, 1) := by decide +kernel
theorem dX11_years_55 : decode cX11_years 55 = .ok (.ifCond .le 7, 3) := by decide +kernel
theorem dX11_years_58 : decode cX11_years 58 = .ok (.iconst 0, 1) := by decide +kernel
theorem dX11_years_59 : decode cX11_years 59 = .ok (.goto 7, 3) := by decide +kernel
theorem dX11_years_62 : decode cX11_years 62 = .ok (.aload_n 0, 1) := by decide +kernel
theorem dX11_years_63 : decode cX11_years 63 = .ok (.getfield 403, 3) := by decide +kernel
theorem dX11_years_66 : decode cX11_years 66 = .ok (.putfield 403, 3) := by decide +kernel
theorem dX11_years_69 : decode cX11_years 69 = .ok (.aload_n 0, 1) := by decide +kernel
theorem dX11_years_70 : decode cX11_years 70 = .ok (.getfield 139, 3) := by decide +kernel
theorem dX11_years_73 : decode cX11_years 73 = .ok (.iconst 0, 1) := by decide +kernel
theorem dX11_years_74 : decode cX11_years 74 = .ok (.iaload, 1) := by decide +kernel
theorem dX11_years_75 : decode cX11_years 75 = .ok (.ireturn, 1) := by decide +kernel
theorem dX11_laySet_0 : decode cX11_laySet 0 = .ok (.aload_n 0, 1) := by decide +kernel
theorem dX11_laySet_1 : decode cX11_laySet 1 = .ok (.invokevirtual 482, 3) := by decide +kernel
theorem dX11_laySet_4 : decode cX11_laySet 4 = .ok (.iconst 0, 1) := by decide +kernel
theorem dX11_laySet_5 : decode cX11_laySet 5 = .ok (.istore_n 2, 1) := by decide +kernel
theorem dX11_laySet_6 : decode cX11_laySet 6 = .ok (.iload_n 2, 1) := by decide +kernel
theorem dX11_laySet_7 : decode cX11_laySet 7 = .ok (.aload_n 0, 1) := by decide +kernel
theorem dX11_laySet_8 : decode cX11_laySet 8 = .ok (.getfield 106, 3) := by decide +kernel
theorem dX11_laySet_11 : decode cX11_laySet 11 = .ok (.iconst 1, 1) := by decide +kernel
theorem dX11_laySet_12 : decode cX11_laySet 12 = .ok (.iaload, 1) := by decide +kernel
theorem dX11_laySet_13 : decode cX11_laySet 13 = .ok (.if_icmp .ge 23, 3) := by decide +kernel
theorem dX11_laySet_16 : decode cX11_laySet 16 = .ok (.iload_n 1, 1) := by decide +kernel
theorem dX11_laySet_17 : decode cX11_laySet 17 = .ok (.iload_n 2, 1) := by decide +kernel
theorem dX11_laySet_18 : decode cX11_laySet 18 = .ok (.invokestatic 485, 3) := by decide +kernel
theorem dX11_laySet_21 : decode cX11_laySet 21 = .ok (.ifCond .eq 9, 3) := by decide +kernel
theorem dX11_laySet_24 : decode cX11_laySet 24 = .ok (.aload_n 0, 1) := by decide +kernel
theorem dX11_laySet_25 : decode cX11_laySet 25 = .ok (.iconst 1, 1) := by decide +kernel
theorem dX11_laySet_26 : decode cX11_laySet 26 = .ok (.iload_n 2, 1) := by decide +kernel
theorem dX11_laySet_27 : decode cX11_laySet 27 = .ok (.invokevirtual 452, 3) := by decide +kernel
theorem dX11_laySet_30 : decode cX11_laySet 30 = .ok (.iinc 2 1, 3) := by decide +kernel
theorem dX11_laySet_33 : decode cX11_laySet 33 = .ok (.goto (-27), 3) := by decide +kernel
theorem dX11_laySet_36 : decode cX11_laySet 36 = .ok (.return_, 1) := by decide +kernel
theorem dX11_canPay_0 : decode cX11_canPay 0 = .ok (.aload_n 0, 1) := by decide +kernel
theorem dX11_canPay_1 : decode cX11_canPay 1 = .ok (.iload_n 1, 1) := by decide +kernel
theorem dX11_canPay_2 : decode cX11_canPay 2 = .ok (.invokevirtual 488, 3) := by decide +kernel
theorem dX11_canPay_5 : decode cX11_canPay 5 = .ok (.aload_n 0, 1) := by decide +kernel
theorem dX11_canPay_6 : decode cX11_canPay 6 = .ok (.getfield 100, 3) := by decide +kernel
theorem dX11_canPay_9 : decode cX11_canPay 9 = .ok (.bipush 6, 2) := by decide +kernel
theorem dX11_canPay_11 : decode cX11_canPay 11 = .ok (.aload_n 0, 1) := by decide +kernel
theorem dX11_canPay_12 : decode cX11_canPay 12 = .ok (.getfield 109, 3) := by decide +kernel
theorem dX11_canPay_15 : decode cX11_canPay 15 = .ok (.iload_n 2, 1) := by decide +kernel
theorem dX11_canPay_16 : decode cX11_canPay 16 = .ok (.iaload, 1) := by decide +kernel
theorem dX11_canPay_17 : decode cX11_canPay 17 = .ok (.iadd, 1) := by decide +kernel
theorem dX11_canPay_18 : decode cX11_canPay 18 = .ok (.iaload, 1) := by decide +kernel
theorem dX11_canPay_19 : decode cX11_canPay 19 = .ok (.aload_n 0, 1) := by decide +kernel
theorem dX11_canPay_20 : decode cX11_canPay 20 = .ok (.getfield 121, 3) := by decide +kernel
theorem dX11_canPay_23 : decode cX11_canPay 23 = .ok (.bipush 12, 2) := by decide +kernel
theorem dX11_canPay_25 : decode cX11_canPay 25 = .ok (.iload_n 2, 1) := by decide +kernel
theorem dX11_canPay_26 : decode cX11_canPay 26 = .ok (.iadd, 1) := by decide +kernel
theorem dX11_canPay_27 : decode cX11_canPay 27 = .ok (.iaload, 1) := by decide +kernel
theorem dX11_canPay_28 : decode cX11_canPay 28 = .ok (.if_icmp .ge 5, 3) := by decide +kernel
theorem dX11_canPay_31 : decode cX11_canPay 31 = .ok (.iconst 0, 1) := by decide +kernel
theorem dX11_canPay_32 : decode cX11_canPay 32 = .ok (.ireturn, 1) := by decide +kernel
theorem dX11_canPay_33 : decode cX11_canPay 33 = .ok (.aload_n 0, 1) := by decide +kernel
theorem dX11_canPay_34 : decode cX11_canPay 34 = .ok (.iconst 1, 1) := by decide +kernel
theorem dX11_canPay_35 : decode cX11_canPay 35 = .ok (.iload_n 2, 1) := by decide +kernel
theorem dX11_canPay_36 : decode cX11_canPay 36 = .ok (.invokevirtual 452, 3) := by decide +kernel
theorem dX11_canPay_39 : decode cX11_canPay 39 = .ok (.aload_n 0, 1) := by decide +kernel
theorem dX11_canPay_40 : decode cX11_canPay 40 = .ok (.iconst 1, 1) := by decide +kernel
theorem dX11_canPay_41 : decode cX11_canPay 41 = .ok (.invokevirtual 443, 3) := by decide +kernel
theorem dX11_canPay_44 : decode cX11_canPay 44 = .ok (.iload_n 3, 1) := by decide +kernel
theorem dX11_canPay_45 : decode cX11_canPay 45 = .ok (.if_icmp .lt 7, 3) := by decide +kernel
theorem dX11_canPay_48 : decode cX11_canPay 48 = .ok (.iconst 1, 1) := by decide +kernel
theorem dX11_canPay_49 : decode cX11_canPay 49 = .ok (.goto 4, 3) := by decide +kernel
theorem dX11_canPay_52 : decode cX11_canPay 52 = .ok (.iconst 0, 1) := by decide +kernel
theorem dX11_canPay_53 : decode cX11_canPay 53 = .ok (.ireturn, 1) := by decide +kernel
theorem dX11_layOrder_0 : decode cX11_layOrder 0 = .ok (.sipush 4095, 3) := by decide +kernel
theorem dX11_layOrder_3 : decode cX11_layOrder 3 = .ok (.istore_n 3, 1) := by decide +kernel
theorem dX11_layOrder_4 : decode cX11_layOrder 4 = .ok (.iload_n 3, 1) := by decide +kernel
theorem dX11_layOrder_5 : decode cX11_layOrder 5 = .ok (.ifCond .lt 111, 3) := by decide +kernel
theorem dX11_layOrder_8 : decode cX11_layOrder 8 = .ok (.aload_n 0, 1) := by decide +kernel
theorem dX11_layOrder_9 : decode cX11_layOrder 9 = .ok (.getfield 145, 3) := by decide +kernel
theorem dX11_layOrder_12 : decode cX11_layOrder 12 = .ok (.iload_n 3, 1) := by decide +kernel
theorem dX11_layOrder_13 : decode cX11_layOrder 13 = .ok (.iload_n 3, 1) := by decide +kernel
theorem dX11_layOrder_14 : decode cX11_layOrder 14 = .ok (.iload_n 1, 1) := by decide +kernel
theorem dX11_layOrder_15 : decode cX11_layOrder 15 = .ok (.if_icmp .ne 7, 3) := by decide +kernel
theorem dX11_layOrder_18 : decode cX11_layOrder 18 = .ok (.iconst 1, 1) := by decide +kernel
theorem dX11_layOrder_19 : decode cX11_layOrder 19 = .ok (.goto 4, 3) := by decide +kernel
theorem dX11_layOrder_22 : decode cX11_layOrder 22 = .ok (.iconst 0, 1) := by decide +kernel
theorem dX11_layOrder_23 : decode cX11_layOrder 23 = .ok (.bastore, 1) := by decide +kernel
theorem dX11_layOrder_24 : decode cX11_layOrder 24 = .ok (.iload_n 3, 1) := by decide +kernel
theorem dX11_layOrder_25 : decode cX11_layOrder 25 = .ok (.iload_n 1, 1) := by decide +kernel
theorem dX11_layOrder_26 : decode cX11_layOrder 26 = .ok (.iconst (-1), 1) := by decide +kernel
theorem dX11_layOrder_27 : decode cX11_layOrder 27 = .ok (.ixor, 1) := by decide +kernel
theorem dX11_layOrder_28 : decode cX11_layOrder 28 = .ok (.iand, 1) := by decide +kernel
theorem dX11_layOrder_29 : decode cX11_layOrder 29 = .ok (.ifCond .eq 6, 3) := by decide +kernel
theorem dX11_layOrder_32 : decode cX11_layOrder 32 = .ok (.goto 78, 3) := by decide +kernel
theorem dX11_layOrder_35 : decode cX11_layOrder 35 = .ok (.iconst 0, 1) := by decide +kernel
theorem dX11_layOrder_36 : decode cX11_layOrder 36 = .ok (.istore 4, 2) := by decide +kernel
theorem dX11_layOrder_38 : decode cX11_layOrder 38 = .ok (.iload 4, 2) := by decide +kernel
theorem dX11_layOrder_40 : decode cX11_layOrder 40 = .ok (.aload_n 0, 1) := by decide +kernel
theorem dX11_layOrder_41 : decode cX11_layOrder 41 = .ok (.getfield 106, 3) := by decide +kernel
theorem dX11_layOrder_44 : decode cX11_layOrder 44 = .ok (.iconst 0, 1) := by decide +kernel
theorem dX11_layOrder_45 : decode cX11_layOrder 45 = .ok (.iaload, 1) := by decide +kernel
theorem dX11_layOrder_46 : decode cX11_layOrder 46 = .ok (.if_icmp .ge 64, 3) := by decide +kernel
theorem dX11_layOrder_49 : decode cX11_layOrder 49 = .ok (.aload_n 0, 1) := by decide +kernel
theorem dX11_layOrder_50 : decode cX11_layOrder 50 = .ok (.getfield 145, 3) := by decide +kernel
theorem dX11_layOrder_53 : decode cX11_layOrder 53 = .ok (.iload_n 3, 1) := by decide +kernel
theorem dX11_layOrder_54 : decode cX11_layOrder 54 = .ok (.baload, 1) := by decide +kernel
theorem dX11_layOrder_55 : decode cX11_layOrder 55 = .ok (.ifCond .ne 55, 3) := by decide +kernel
theorem dX11_layOrder_58 : decode cX11_layOrder 58 = .ok (.iload_n 1, 1) := by decide +kernel
theorem dX11_layOrder_59 : decode cX11_layOrder 59 = .ok (.iload 4, 2) := by decide +kernel
theorem dX11_layOrder_61 : decode cX11_layOrder 61 = .ok (.invokestatic 485, 3) := by decide +kernel
theorem dX11_layOrder_64 : decode cX11_layOrder 64 = .ok (.ifCond .eq 40, 3) := by decide +kernel
theorem dX11_layOrder_67 : decode cX11_layOrder 67 = .ok (.iload_n 3, 1) := by decide +kernel
theorem dX11_layOrder_68 : decode cX11_layOrder 68 = .ok (.iload 4, 2) := by decide +kernel
theorem dX11_layOrder_70 : decode cX11_layOrder 70 = .ok (.invokestatic 485, 3) := by decide +kernel
theorem dX11_layOrder_73 : decode cX11_layOrder 73 = .ok (.ifCond .ne 31, 3) := by decide +kernel
theorem dX11_layOrder_76 : decode cX11_layOrder 76 = .ok (.aload_n 0, 1) := by decide +kernel
theorem dX11_layOrder_77 : decode cX11_layOrder 77 = .ok (.getfield 145, 3) := by decide +kernel
theorem dX11_layOrder_80 : decode cX11_layOrder 80 = .ok (.iload_n 3, 1) := by decide +kernel
theorem dX11_layOrder_81 : decode cX11_layOrder 81 = .ok (.iconst 1, 1) := by decide +kernel
theorem dX11_layOrder_82 : decode cX11_layOrder 82 = .ok (.iload 4, 2) := by decide +kernel
theorem dX11_layOrder_84 : decode cX11_layOrder 84 = .ok (.ishl, 1) := by decide +kernel
theorem dX11_layOrder_85 : decode cX11_layOrder 85 = .ok (.ior, 1) := by decide +kernel
theorem dX11_layOrder_86 : decode cX11_layOrder 86 = .ok (.baload, 1) := by decide +kernel
theorem dX11_layOrder_87 : decode cX11_layOrder 87 = .ok (.ifCond .eq 17, 3) := by decide +kernel
theorem dX11_layOrder_90 : decode cX11_layOrder 90 = .ok (.aload_n 0, 1) := by decide +kernel
theorem dX11_layOrder_91 : decode cX11_layOrder 91 = .ok (.getfield 145, 3) := by decide +kernel
theorem dX11_layOrder_94 : decode cX11_layOrder 94 = .ok (.iload_n 3, 1) := by decide +kernel
theorem dX11_layOrder_95 : decode cX11_layOrder 95 = .ok (.aload_n 0, 1) := by decide +kernel
theorem dX11_layOrder_96 : decode cX11_layOrder 96 = .ok (.iload_n 3, 1) := by decide +kernel
theorem dX11_layOrder_97 : decode cX11_layOrder 97 = .ok (.iload 4, 2) := by decide +kernel
theorem dX11_layOrder_99 : decode cX11_layOrder 99 = .ok (.iload_n 2, 1) := by decide +kernel
theorem dX11_layOrder_100 : decode cX11_layOrder 100 = .ok (.invokevirtual 491, 3) := by decide +kernel
theorem dX11_layOrder_103 : decode cX11_layOrder 103 = .ok (.bastore, 1) := by decide +kernel
theorem dX11_layOrder_104 : decode cX11_layOrder 104 = .ok (.iinc 4 1, 3) := by decide +kernel
theorem dX11_layOrder_107 : decode cX11_layOrder 107 = .ok (.goto (-69), 3) := by decide +kernel
theorem dX11_layOrder_110 : decode cX11_layOrder 110 = .ok (.iinc 3 (-1), 3) := by decide +kernel
theorem dX11_layOrder_113 : decode cX11_layOrder 113 = .ok (.goto (-109), 3) := by decide +kernel
theorem dX11_layOrder_116 : decode cX11_layOrder 116 = .ok (.return_, 1) := by decide +kernel
theorem dX11_areThere_0 : decode cX11_areThere 0 = .ok (.iload_n 1, 1) := by decide +kernel
theorem dX11_areThere_1 : decode cX11_areThere 1 = .ok (.ifCond .lt 14, 3) := by decide +kernel
theorem dX11_areThere_4 : decode cX11_areThere 4 = .ok (.iload_n 1, 1) := by decide +kernel
theorem dX11_areThere_5 : decode cX11_areThere 5 = .ok (.aload_n 0, 1) := by decide +kernel
theorem dX11_areThere_6 : decode cX11_areThere 6 = .ok (.getfield 106, 3) := by decide +kernel
theorem dX11_areThere_9 : decode cX11_areThere 9 = .ok (.iconst 0, 1) := by decide +kernel
theorem dX11_areThere_10 : decode cX11_areThere 10 = .ok (.iaload, 1) := by decide +kernel
theorem dX11_areThere_11 : decode cX11_areThere 11 = .ok (.ishr, 1) := by decide +kernel
theorem dX11_areThere_12 : decode cX11_areThere 12 = .ok (.ifCond .eq 5, 3) := by decide +kernel
theorem dX11_areThere_15 : decode cX11_areThere 15 = .ok (.iconst 0, 1) := by decide +kernel
theorem dX11_areThere_16 : decode cX11_areThere 16 = .ok (.ireturn, 1) := by decide +kernel
theorem dX11_areThere_17 : decode cX11_areThere 17 = .ok (.iconst 0, 1) := by decide +kernel
theorem dX11_areThere_18 : decode cX11_areThere 18 = .ok (.istore_n 2, 1) := by decide +kernel
theorem dX11_areThere_19 : decode cX11_areThere 19 = .ok (.iload_n 2, 1) := by decide +kernel
theorem dX11_areThere_20 : decode cX11_areThere 20 = .ok (.aload_n 0, 1) := by decide +kernel
theorem dX11_areThere_21 : decode cX11_areThere 21 = .ok (.getfield 106, 3) := by decide +kernel
theorem dX11_areThere_24 : decode cX11_areThere 24 = .ok (.iconst 0, 1) := by decide +kernel
theorem dX11_areThere_25 : decode cX11_areThere 25 = .ok (.iaload, 1) := by decide +kernel
theorem dX11_areThere_26 : decode cX11_areThere 26 = .ok (.if_icmp .ge 28, 3) := by decide +kernel
theorem dX11_areThere_29 : decode cX11_areThere 29 = .ok (.iload_n 1, 1) := by decide +kernel
theorem dX11_areThere_30 : decode cX11_areThere 30 = .ok (.iload_n 2, 1) := by decide +kernel
theorem dX11_areThere_31 : decode cX11_areThere 31 = .ok (.invokestatic 485, 3) := by decide +kernel
theorem dX11_areThere_34 : decode cX11_areThere 34 = .ok (.ifCond .eq 14, 3) := by decide +kernel
theorem dX11_areThere_37 : decode cX11_areThere 37 = .ok (.aload_n 0, 1) := by decide +kernel
theorem dX11_areThere_38 : decode cX11_areThere 38 = .ok (.iconst 0, 1) := by decide +kernel
theorem dX11_areThere_39 : decode cX11_areThere 39 = .ok (.iload_n 2, 1) := by decide +kernel
theorem dX11_areThere_40 : decode cX11_areThere 40 = .ok (.invokevirtual 418, 3) := by decide +kernel
theorem dX11_areThere_43 : decode cX11_areThere 43 = .ok (.ifCond .ne 5, 3) := by decide +kernel
theorem dX11_areThere_46 : decode cX11_areThere 46 = .ok (.iconst 0, 1) := by decide +kernel
theorem dX11_areThere_47 : decode cX11_areThere 47 = .ok (.ireturn, 1) := by decide +kernel
theorem dX11_areThere_48 : decode cX11_areThere 48 = .ok (.iinc 2 1, 3) := by decide +kernel
theorem dX11_areThere_51 : decode cX11_areThere 51 = .ok (.goto (-32), 3) := by decide +kernel
theorem dX11_areThere_54 : decode cX11_areThere 54 = .ok (.iconst 1, 1) := by decide +kernel
theorem dX11_areThere_55 : decode cX11_areThere 55 = .ok (.ireturn, 1) := by decide +kernel
theorem dX11_order_0 : decode cX11_order 0 = .ok (.aload_n 0, 1) := by decide +kernel
theorem dX11_order_1 : decode cX11_order 1 = .ok (.iconst 0, 1) := by decide +kernel
theorem dX11_order_2 : decode cX11_order 2 = .ok (.putfield 193, 3) := by decide +kernel
theorem dX11_order_5 : decode cX11_order 5 = .ok (.aload_n 0, 1) := by decide +kernel
theorem dX11_order_6 : decode cX11_order 6 = .ok (.iload_n 1, 1) := by decide +kernel
theorem dX11_order_7 : decode cX11_order 7 = .ok (.invokevirtual 494, 3) := by decide +kernel
theorem dX11_order_10 : decode cX11_order 10 = .ok (.ifCond .eq 18, 3) := by decide +kernel
theorem dX11_order_13 : decode cX11_order 13 = .ok (.iload_n 2, 1) := by decide +kernel
theorem dX11_order_14 : decode cX11_order 14 = .ok (.iconst 0, 1) := by decide +kernel
theorem dX11_order_15 : decode cX11_order 15 = .ok (.sipush 9999, 3) := by decide +kernel
theorem dX11_order_18 : decode cX11_order 18 = .ok (.invokestatic 238, 3) := by decide +kernel
theorem dX11_order_21 : decode cX11_order 21 = .ok (.ifCond .eq 7, 3) := by decide +kernel
theorem dX11_order_24 : decode cX11_order 24 = .ok (.iload_n 3, 1) := by decide +kernel
theorem dX11_order_25 : decode cX11_order 25 = .ok (.ifCond .ge 5, 3) := by decide +kernel
theorem dX11_order_28 : decode cX11_order 28 = .ok (.iconst (-1), 1) := by decide +kernel
theorem dX11_order_29 : decode cX11_order 29 = .ok (.ireturn, 1) := by decide +kernel
theorem dX11_order_30 : decode cX11_order 30 = .ok (.aload_n 0, 1) := by decide +kernel
theorem dX11_order_31 : decode cX11_order 31 = .ok (.iload_n 1, 1) := by decide +kernel
theorem dX11_order_32 : decode cX11_order 32 = .ok (.iload_n 2, 1) := by decide +kernel
theorem dX11_order_33 : decode cX11_order 33 = .ok (.invokevirtual 497, 3) := by decide +kernel
theorem dX11_order_36 : decode cX11_order 36 = .ok (.aload_n 0, 1) := by decide +kernel
theorem dX11_order_37 : decode cX11_order 37 = .ok (.getfield 145, 3) := by decide +kernel
theorem dX11_order_40 : decode cX11_order 40 = .ok (.iconst 0, 1) := by decide +kernel
theorem dX11_order_41 : decode cX11_order 41 = .ok (.baload, 1) := by decide +kernel
theorem dX11_order_42 : decode cX11_order 42 = .ok (.ifCond .ne 6, 3) := by decide +kernel
theorem dX11_order_45 : decode cX11_order 45 = .ok (.bipush (-2), 2) := by decide +kernel
theorem dX11_order_47 : decode cX11_order 47 = .ok (.ireturn, 1) := by decide +kernel
theorem dX11_order_48 : decode cX11_order 48 = .ok (.iconst 0, 1) := by decide +kernel
theorem dX11_order_49 : decode cX11_order 49 = .ok (.istore 4, 2) := by decide +kernel
theorem dX11_order_51 : decode cX11_order 51 = .ok (.iconst 0, 1) := by decide +kernel
theorem dX11_order_52 : decode cX11_order 52 = .ok (.istore 5, 2) := by decide +kernel
theorem dX11_order_54 : decode cX11_order 54 = .ok (.iload 5, 2) := by decide +kernel
theorem dX11_order_56 : decode cX11_order 56 = .ok (.iload_n 3, 1) := by decide +kernel
theorem dX11_order_57 : decode cX11_order 57 = .ok (.if_icmp .gt 91, 3) := by decide +kernel
theorem dX11_order_60 : decode cX11_order 60 = .ok (.iload 4, 2) := by decide +kernel
theorem dX11_order_62 : decode cX11_order 62 = .ok (.iload_n 1, 1) := by decide +kernel
theorem dX11_order_63 : decode cX11_order 63 = .ok (.if_icmp .ne 6, 3) := by decide +kernel
theorem dX11_order_66 : decode cX11_order 66 = .ok (.bipush (-2), 2) := by decide +kernel
theorem dX11_order_68 : decode cX11_order 68 = .ok (.ireturn, 1) := by decide +kernel
theorem dX11_order_69 : decode cX11_order 69 = .ok (.iconst 0, 1) := by decide +kernel
theorem dX11_order_70 : decode cX11_order 70 = .ok (.istore 6, 2) := by decide +kernel
theorem dX11_order_72 : decode cX11_order 72 = .ok (.iload_n 1, 1) := by decide +kernel
theorem dX11_order_73 : decode cX11_order 73 = .ok (.iload 6, 2) := by decide +kernel
theorem dX11_order_75 : decode cX11_order 75 = .ok (.invokestatic 485, 3) := by decide +kernel
theorem dX11_order_78 : decode cX11_order 78 = .ok (.ifCond .eq 40, 3) := by decide +kernel
theorem dX11_order_81 : decode cX11_order 81 = .ok (.iload 4, 2) := by decide +kernel
theorem dX11_order_83 : decode cX11_order 83 = .ok (.iload 6, 2) := by decide +kernel
theorem dX11_order_85 : decode cX11_order 85 = .ok (.invokestatic 485, 3) := by decide +kernel
theorem dX11_order_88 : decode cX11_order 88 = .ok (.ifCond .ne 30, 3) := by decide +kernel
theorem dX11_order_91 : decode cX11_order 91 = .ok (.aload_n 0, 1) := by decide +kernel
theorem dX11_order_92 : decode cX11_order 92 = .ok (.getfield 145, 3) := by decide +kernel
theorem dX11_order_95 : decode cX11_order 95 = .ok (.iload 4, 2) := by decide +kernel
theorem dX11_order_97 : decode cX11_order 97 = .ok (.iconst 1, 1) := by decide +kernel
theorem dX11_order_98 : decode cX11_order 98 = .ok (.iload 6, 2) := by decide +kernel
theorem dX11_order_100 : decode cX11_order 100 = .ok (.ishl, 1) := by decide +kernel
theorem dX11_order_101 : decode cX11_order 101 = .ok (.ior, 1) := by decide +kernel
theorem dX11_order_102 : decode cX11_order 102 = .ok (.baload, 1) := by decide +kernel
theorem dX11_order_103 : decode cX11_order 103 = .ok (.ifCond .eq 15, 3) := by decide +kernel
theorem dX11_order_106 : decode cX11_order 106 = .ok (.aload_n 0, 1) := by decide +kernel
theorem dX11_order_107 : decode cX11_order 107 = .ok (.iload 4, 2) := by decide +kernel
theorem dX11_order_109 : decode cX11_order 109 = .ok (.iload 6, 2) := by decide +kernel
theorem dX11_order_111 : decode cX11_order 111 = .ok (.iload_n 2, 1) := by decide +kernel
theorem dX11_order_112 : decode cX11_order 112 = .ok (.invokevirtual 491, 3) := by decide +kernel
theorem dX11_order_115 : decode cX11_order 115 = .ok (.ifCond .ne 9, 3) := by decide +kernel
theorem dX11_order_118 : decode cX11_order 118 = .ok (.iinc 6 1, 3) := by decide +kernel
theorem dX11_order_121 : decode cX11_order 121 = .ok (.goto (-49), 3) := by decide +kernel
theorem dX11_order_124 : decode cX11_order 124 = .ok (.iload 4, 2) := by decide +kernel
theorem dX11_order_126 : decode cX11_order 126 = .ok (.iconst 1, 1) := by decide +kernel
theorem dX11_order_127 : decode cX11_order 127 = .ok (.iload 6, 2) := by decide +kernel
