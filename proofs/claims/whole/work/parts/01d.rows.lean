theorem dX10_oldField_84 : decode cX10_oldField 84 = .ok (.getfield 7, 3) := by decide +kernel
theorem dX10_oldField_87 : decode cX10_oldField 87 = .ok (.iload 7, 2) := by decide +kernel
theorem dX10_oldField_89 : decode cX10_oldField 89 = .ok (.iconst 4, 1) := by decide +kernel
theorem dX10_oldField_90 : decode cX10_oldField 90 = .ok (.iadd, 1) := by decide +kernel
theorem dX10_oldField_91 : decode cX10_oldField 91 = .ok (.iload 4, 2) := by decide +kernel
theorem dX10_oldField_93 : decode cX10_oldField 93 = .ok (.iadd, 1) := by decide +kernel
theorem dX10_oldField_94 : decode cX10_oldField 94 = .ok (.iaload, 1) := by decide +kernel
theorem dX10_oldField_95 : decode cX10_oldField 95 = .ok (.ireturn, 1) := by decide +kernel
theorem dX10_oldField_96 : decode cX10_oldField 96 = .ok (.iinc 6 1, 3) := by decide +kernel
theorem dX10_oldField_99 : decode cX10_oldField 99 = .ok (.goto (-86), 3) := by decide +kernel
theorem dX10_oldField_102 : decode cX10_oldField 102 = .ok (.iinc 5 1, 3) := by decide +kernel
theorem dX10_oldField_105 : decode cX10_oldField 105 = .ok (.goto (-102), 3) := by decide +kernel
theorem dX10_oldField_108 : decode cX10_oldField 108 = .ok (.iconst (-1), 1) := by decide +kernel
theorem dX10_oldField_109 : decode cX10_oldField 109 = .ok (.ireturn, 1) := by decide +kernel
theorem dX10_made_0 : decode cX10_made 0 = .ok (.iload_n 0, 1) := by decide +kernel
theorem dX10_made_1 : decode cX10_made 1 = .ok (.tableswitch 71 0 5 #[39, 41, 45, 49, 54, 68], 39) := by decide +kernel
theorem dX10_made_40 : decode cX10_made 40 = .ok (.iload_n 1, 1) := by decide +kernel
theorem dX10_made_41 : decode cX10_made 41 = .ok (.ireturn, 1) := by decide +kernel
theorem dX10_made_42 : decode cX10_made 42 = .ok (.iload_n 2, 1) := by decide +kernel
theorem dX10_made_43 : decode cX10_made 43 = .ok (.iload_n 1, 1) := by decide +kernel
theorem dX10_made_44 : decode cX10_made 44 = .ok (.iadd, 1) := by decide +kernel
theorem dX10_made_45 : decode cX10_made 45 = .ok (.ireturn, 1) := by decide +kernel
theorem dX10_made_46 : decode cX10_made 46 = .ok (.iload_n 3, 1) := by decide +kernel
theorem dX10_made_47 : decode cX10_made 47 = .ok (.iload_n 1, 1) := by decide +kernel
theorem dX10_made_48 : decode cX10_made 48 = .ok (.iadd, 1) := by decide +kernel
theorem dX10_made_49 : decode cX10_made 49 = .ok (.ireturn, 1) := by decide +kernel
theorem dX10_made_50 : decode cX10_made 50 = .ok (.iload 4, 2) := by decide +kernel
theorem dX10_made_52 : decode cX10_made 52 = .ok (.iload_n 1, 1) := by decide +kernel
theorem dX10_made_53 : decode cX10_made 53 = .ok (.iadd, 1) := by decide +kernel
theorem dX10_made_54 : decode cX10_made 54 = .ok (.ireturn, 1) := by decide +kernel
theorem dX10_made_55 : decode cX10_made 55 = .ok (.iload 5, 2) := by decide +kernel
theorem dX10_made_57 : decode cX10_made 57 = .ok (.ifCond .ge 7, 3) := by decide +kernel
theorem dX10_made_60 : decode cX10_made 60 = .ok (.iconst 0, 1) := by decide +kernel
theorem dX10_made_61 : decode cX10_made 61 = .ok (.goto 7, 3) := by decide +kernel
theorem dX10_made_64 : decode cX10_made 64 = .ok (.iload 5, 2) := by decide +kernel
theorem dX10_made_66 : decode cX10_made 66 = .ok (.iload_n 1, 1) := by decide +kernel
theorem dX10_made_67 : decode cX10_made 67 = .ok (.iadd, 1) := by decide +kernel
theorem dX10_made_68 : decode cX10_made 68 = .ok (.ireturn, 1) := by decide +kernel
theorem dX10_made_69 : decode cX10_made 69 = .ok (.iload 6, 2) := by decide +kernel
theorem dX10_made_71 : decode cX10_made 71 = .ok (.ireturn, 1) := by decide +kernel
theorem dX10_made_72 : decode cX10_made 72 = .ok (.sipush (-1000), 3) := by decide +kernel
theorem dX10_made_75 : decode cX10_made 75 = .ok (.ireturn, 1) := by decide +kernel
set_option maxRecDepth 20000 in
theorem ggX10_say_X10_isIn : GoodIn wsX10_say wsX10_isIn := goodIn_r _ [5] (by decide +kernel) (by decide +kernel)
set_option maxRecDepth 20000 in
theorem gX10_say_X10_isIn : GoodIn wsX10_say (va_wsS RX10 47 yX10_isIn wsX10_isIn) := goodIn_app (goodIn_of _ (by decide +kernel)) ggX10_say_X10_isIn
set_option maxRecDepth 20000 in
theorem ggX10_say_X10_oldField : GoodIn wsX10_say wsX10_oldField := goodIn_r _ [9, 1, 13, 14, 15, 16, 17, 18, 19, 20, 21, 22, 23, 24, 25, 26, 27] (by decide +kernel) (by decide +kernel)
set_option maxRecDepth 20000 in
theorem gX10_say_X10_oldField : GoodIn wsX10_say (wsV RX10 121 RX10 yX10_oldField wsX10_oldField) := goodIn_app (goodIn_of _ (by decide +kernel)) ggX10_say_X10_oldField
set_option maxRecDepth 20000 in
theorem ggX10_say_X10_made : GoodIn wsX10_say wsX10_made := goodIn_r _ [12] (by decide +kernel) (by decide +kernel)
set_option maxRecDepth 20000 in
theorem gX10_say_X10_made : GoodIn wsX10_say (va_wsS RX10 125 yX10_made wsX10_made) := goodIn_app (goodIn_of _ (by decide +kernel)) ggX10_say_X10_made
theorem dX10_say_0 : decode cX10_say 0 = .ok (.aload_n 0, 1) := by decide +kernel
theorem dX10_say_1 : decode cX10_say 1 = .ok (.getfield 7, 3) := by decide +kernel
theorem dX10_say_4 : decode cX10_say 4 = .ok (.iconst 1, 1) := by decide +kernel
theorem dX10_say_5 : decode cX10_say 5 = .ok (.iaload, 1) := by decide +kernel
theorem dX10_say_6 : decode cX10_say 6 = .ok (.ifCond .eq 23, 3) := by decide +kernel
theorem dX10_say_9 : decode cX10_say 9 = .ok (.iload_n 1, 1) := by decide +kernel
theorem dX10_say_10 : decode cX10_say 10 = .ok (.iconst 0, 1) := by decide +kernel
theorem dX10_say_11 : decode cX10_say 11 = .ok (.iconst 2, 1) := by decide +kernel
theorem dX10_say_12 : decode cX10_say 12 = .ok (.invokestatic 47, 3) := by decide +kernel
theorem dX10_say_15 : decode cX10_say 15 = .ok (.ifCond .eq 14, 3) := by decide +kernel
theorem dX10_say_18 : decode cX10_say 18 = .ok (.iload_n 2, 1) := by decide +kernel
theorem dX10_say_19 : decode cX10_say 19 = .ok (.iconst 0, 1) := by decide +kernel
theorem dX10_say_20 : decode cX10_say 20 = .ok (.sipush 9999, 3) := by decide +kernel
theorem dX10_say_23 : decode cX10_say 23 = .ok (.invokestatic 47, 3) := by decide +kernel
theorem dX10_say_26 : decode cX10_say 26 = .ok (.ifCond .ne 5, 3) := by decide +kernel
theorem dX10_say_29 : decode cX10_say 29 = .ok (.iconst (-1), 1) := by decide +kernel
theorem dX10_say_30 : decode cX10_say 30 = .ok (.ireturn, 1) := by decide +kernel
theorem dX10_say_31 : decode cX10_say 31 = .ok (.iload_n 2, 1) := by decide +kernel
theorem dX10_say_32 : decode cX10_say 32 = .ok (.bipush 100, 2) := by decide +kernel
theorem dX10_say_34 : decode cX10_say 34 = .ok (.idiv, 1) := by decide +kernel
theorem dX10_say_35 : decode cX10_say 35 = .ok (.istore_n 3, 1) := by decide +kernel
theorem dX10_say_36 : decode cX10_say 36 = .ok (.iload_n 2, 1) := by decide +kernel
theorem dX10_say_37 : decode cX10_say 37 = .ok (.bipush 100, 2) := by decide +kernel
theorem dX10_say_39 : decode cX10_say 39 = .ok (.irem, 1) := by decide +kernel
theorem dX10_say_40 : decode cX10_say 40 = .ok (.istore 4, 2) := by decide +kernel
theorem dX10_say_42 : decode cX10_say 42 = .ok (.iconst 3, 1) := by decide +kernel
theorem dX10_say_43 : decode cX10_say 43 = .ok (.aload_n 0, 1) := by decide +kernel
theorem dX10_say_44 : decode cX10_say 44 = .ok (.getfield 7, 3) := by decide +kernel
theorem dX10_say_47 : decode cX10_say 47 = .ok (.iconst 2, 1) := by decide +kernel
theorem dX10_say_48 : decode cX10_say 48 = .ok (.iaload, 1) := by decide +kernel
theorem dX10_say_49 : decode cX10_say 49 = .ok (.imul, 1) := by decide +kernel
theorem dX10_say_50 : decode cX10_say 50 = .ok (.iload_n 1, 1) := by decide +kernel
theorem dX10_say_51 : decode cX10_say 51 = .ok (.iadd, 1) := by decide +kernel
theorem dX10_say_52 : decode cX10_say 52 = .ok (.istore 5, 2) := by decide +kernel
theorem dX10_say_54 : decode cX10_say 54 = .ok (.sipush 1220, 3) := by decide +kernel
theorem dX10_say_57 : decode cX10_say 57 = .ok (.iconst 4, 1) := by decide +kernel
theorem dX10_say_58 : decode cX10_say 58 = .ok (.iload_n 1, 1) := by decide +kernel
theorem dX10_say_59 : decode cX10_say 59 = .ok (.imul, 1) := by decide +kernel
theorem dX10_say_60 : decode cX10_say 60 = .ok (.iadd, 1) := by decide +kernel
theorem dX10_say_61 : decode cX10_say 61 = .ok (.istore 6, 2) := by decide +kernel
theorem dX10_say_63 : decode cX10_say 63 = .ok (.aload_n 0, 1) := by decide +kernel
theorem dX10_say_64 : decode cX10_say 64 = .ok (.getfield 7, 3) := by decide +kernel
theorem dX10_say_67 : decode cX10_say 67 = .ok (.sipush 1190, 3) := by decide +kernel
theorem dX10_say_70 : decode cX10_say 70 = .ok (.iload 5, 2) := by decide +kernel
theorem dX10_say_72 : decode cX10_say 72 = .ok (.iadd, 1) := by decide +kernel
theorem dX10_say_73 : decode cX10_say 73 = .ok (.iaload, 1) := by decide +kernel
theorem dX10_say_74 : decode cX10_say 74 = .ok (.ifCond .lt 7, 3) := by decide +kernel
theorem dX10_say_77 : decode cX10_say 77 = .ok (.iconst 1, 1) := by decide +kernel
theorem dX10_say_78 : decode cX10_say 78 = .ok (.goto 4, 3) := by decide +kernel
theorem dX10_say_81 : decode cX10_say 81 = .ok (.iconst 0, 1) := by decide +kernel
theorem dX10_say_82 : decode cX10_say 82 = .ok (.istore 7, 2) := by decide +kernel
theorem dX10_say_84 : decode cX10_say 84 = .ok (.iconst 0, 1) := by decide +kernel
theorem dX10_say_85 : decode cX10_say 85 = .ok (.istore 8, 2) := by decide +kernel
theorem dX10_say_87 : decode cX10_say 87 = .ok (.iload 8, 2) := by decide +kernel
theorem dX10_say_89 : decode cX10_say 89 = .ok (.iconst 2, 1) := by decide +kernel
theorem dX10_say_90 : decode cX10_say 90 = .ok (.if_icmp .ge 50, 3) := by decide +kernel
theorem dX10_say_93 : decode cX10_say 93 = .ok (.iload 7, 2) := by decide +kernel
theorem dX10_say_95 : decode cX10_say 95 = .ok (.ifCond .eq 36, 3) := by decide +kernel
theorem dX10_say_98 : decode cX10_say 98 = .ok (.aload_n 0, 1) := by decide +kernel
theorem dX10_say_99 : decode cX10_say 99 = .ok (.getfield 7, 3) := by decide +kernel
theorem dX10_say_102 : decode cX10_say 102 = .ok (.iload 6, 2) := by decide +kernel
theorem dX10_say_104 : decode cX10_say 104 = .ok (.iconst 2, 1) := by decide +kernel
theorem dX10_say_105 : decode cX10_say 105 = .ok (.iload 8, 2) := by decide +kernel
theorem dX10_say_107 : decode cX10_say 107 = .ok (.imul, 1) := by decide +kernel
theorem dX10_say_108 : decode cX10_say 108 = .ok (.iadd, 1) := by decide +kernel
theorem dX10_say_109 : decode cX10_say 109 = .ok (.iaload, 1) := by decide +kernel
theorem dX10_say_110 : decode cX10_say 110 = .ok (.iconst 5, 1) := by decide +kernel
theorem dX10_say_111 : decode cX10_say 111 = .ok (.if_icmp .ne 16, 3) := by decide +kernel
theorem dX10_say_114 : decode cX10_say 114 = .ok (.aload_n 0, 1) := by decide +kernel
theorem dX10_say_115 : decode cX10_say 115 = .ok (.iload_n 1, 1) := by decide +kernel
theorem dX10_say_116 : decode cX10_say 116 = .ok (.iload_n 3, 1) := by decide +kernel
theorem dX10_say_117 : decode cX10_say 117 = .ok (.iload 4, 2) := by decide +kernel
theorem dX10_say_119 : decode cX10_say 119 = .ok (.iload 8, 2) := by decide +kernel
theorem dX10_say_121 : decode cX10_say 121 = .ok (.invokevirtual 121, 3) := by decide +kernel
theorem dX10_say_124 : decode cX10_say 124 = .ok (.ifCond .lt 7, 3) := by decide +kernel
theorem dX10_say_127 : decode cX10_say 127 = .ok (.iconst 1, 1) := by decide +kernel
theorem dX10_say_128 : decode cX10_say 128 = .ok (.goto 4, 3) := by decide +kernel
theorem dX10_say_131 : decode cX10_say 131 = .ok (.iconst 0, 1) := by decide +kernel
theorem dX10_say_132 : decode cX10_say 132 = .ok (.istore 7, 2) := by decide +kernel
theorem dX10_say_134 : decode cX10_say 134 = .ok (.iinc 8 1, 3) := by decide +kernel
theorem dX10_say_137 : decode cX10_say 137 = .ok (.goto (-50), 3) := by decide +kernel
theorem dX10_say_140 : decode cX10_say 140 = .ok (.iload 7, 2) := by decide +kernel
theorem dX10_say_142 : decode cX10_say 142 = .ok (.ifCond .ne 16, 3) := by decide +kernel
theorem dX10_say_145 : decode cX10_say 145 = .ok (.aload_n 0, 1) := by decide +kernel
theorem dX10_say_146 : decode cX10_say 146 = .ok (.getfield 7, 3) := by decide +kernel
theorem dX10_say_149 : decode cX10_say 149 = .ok (.iconst 4, 1) := by decide +kernel
theorem dX10_say_150 : decode cX10_say 150 = .ok (.dup2, 1) := by decide +kernel
theorem dX10_say_151 : decode cX10_say 151 = .ok (.iaload, 1) := by decide +kernel
theorem dX10_say_152 : decode cX10_say 152 = .ok (.iconst 1, 1) := by decide +kernel
theorem dX10_say_153 : decode cX10_say 153 = .ok (.iadd, 1) := by decide +kernel
theorem dX10_say_154 : decode cX10_say 154 = .ok (.iastore, 1) := by decide +kernel
theorem dX10_say_155 : decode cX10_say 155 = .ok (.bipush (-2), 2) := by decide +kernel
theorem dX10_say_157 : decode cX10_say 157 = .ok (.ireturn, 1) := by decide +kernel
theorem dX10_say_158 : decode cX10_say 158 = .ok (.iconst 0, 1) := by decide +kernel
theorem dX10_say_159 : decode cX10_say 159 = .ok (.istore 8, 2) := by decide +kernel
theorem dX10_say_161 : decode cX10_say 161 = .ok (.iload 8, 2) := by decide +kernel
theorem dX10_say_163 : decode cX10_say 163 = .ok (.iconst 2, 1) := by decide +kernel
theorem dX10_say_164 : decode cX10_say 164 = .ok (.if_icmp .ge 82, 3) := by decide +kernel
theorem dX10_say_167 : decode cX10_say 167 = .ok (.aload_n 0, 1) := by decide +kernel
theorem dX10_say_168 : decode cX10_say 168 = .ok (.getfield 7, 3) := by decide +kernel
theorem dX10_say_171 : decode cX10_say 171 = .ok (.iconst 5, 1) := by decide +kernel
theorem dX10_say_172 : decode cX10_say 172 = .ok (.iload 8, 2) := by decide +kernel
theorem dX10_say_174 : decode cX10_say 174 = .ok (.iadd, 1) := by decide +kernel
theorem dX10_say_175 : decode cX10_say 175 = .ok (.aload_n 0, 1) := by decide +kernel
theorem dX10_say_176 : decode cX10_say 176 = .ok (.getfield 7, 3) := by decide +kernel
theorem dX10_say_179 : decode cX10_say 179 = .ok (.iload 6, 2) := by decide +kernel
theorem dX10_say_181 : decode cX10_say 181 = .ok (.iconst 2, 1) := by decide +kernel
theorem dX10_say_182 : decode cX10_say 182 = .ok (.iload 8, 2) := by decide +kernel
theorem dX10_say_184 : decode cX10_say 184 = .ok (.imul, 1) := by decide +kernel
theorem dX10_say_185 : decode cX10_say 185 = .ok (.iadd, 1) := by decide +kernel
theorem dX10_say_186 : decode cX10_say 186 = .ok (.iaload, 1) := by decide +kernel
theorem dX10_say_187 : decode cX10_say 187 = .ok (.aload_n 0, 1) := by decide +kernel
theorem dX10_say_188 : decode cX10_say 188 = .ok (.getfield 7, 3) := by decide +kernel
theorem dX10_say_191 : decode cX10_say 191 = .ok (.iload 6, 2) := by decide +kernel
theorem dX10_say_193 : decode cX10_say 193 = .ok (.iconst 2, 1) := by decide +kernel
theorem dX10_say_194 : decode cX10_say 194 = .ok (.iload 8, 2) := by decide +kernel
theorem dX10_say_196 : decode cX10_say 196 = .ok (.imul, 1) := by decide +kernel
theorem dX10_say_197 : decode cX10_say 197 = .ok (.iadd, 1) := by decide +kernel
theorem dX10_say_198 : decode cX10_say 198 = .ok (.iconst 1, 1) := by decide +kernel
theorem dX10_say_199 : decode cX10_say 199 = .ok (.iadd, 1) := by decide +kernel
theorem dX10_say_200 : decode cX10_say 200 = .ok (.iaload, 1) := by decide +kernel
theorem dX10_say_201 : decode cX10_say 201 = .ok (.iload_n 3, 1) := by decide +kernel
theorem dX10_say_202 : decode cX10_say 202 = .ok (.iload 4, 2) := by decide +kernel
theorem dX10_say_204 : decode cX10_say 204 = .ok (.aload_n 0, 1) := by decide +kernel
theorem dX10_say_205 : decode cX10_say 205 = .ok (.getfield 7, 3) := by decide +kernel
theorem dX10_say_208 : decode cX10_say 208 = .ok (.sipush 1340, 3) := by decide +kernel
theorem dX10_say_211 : decode cX10_say 211 = .ok (.iload_n 1, 1) := by decide +kernel
theorem dX10_say_212 : decode cX10_say 212 = .ok (.iadd, 1) := by decide +kernel
theorem dX10_say_213 : decode cX10_say 213 = .ok (.iaload, 1) := by decide +kernel
theorem dX10_say_214 : decode cX10_say 214 = .ok (.aload_n 0, 1) := by decide +kernel
theorem dX10_say_215 : decode cX10_say 215 = .ok (.getfield 7, 3) := by decide +kernel
theorem dX10_say_218 : decode cX10_say 218 = .ok (.sipush 1240, 3) := by decide +kernel
theorem dX10_say_221 : decode cX10_say 221 = .ok (.iload_n 3, 1) := by decide +kernel
theorem dX10_say_222 : decode cX10_say 222 = .ok (.iadd, 1) := by decide +kernel
theorem dX10_say_223 : decode cX10_say 223 = .ok (.iaload, 1) := by decide +kernel
theorem dX10_say_224 : decode cX10_say 224 = .ok (.iconst 1, 1) := by decide +kernel
theorem dX10_say_225 : decode cX10_say 225 = .ok (.isub, 1) := by decide +kernel
theorem dX10_say_226 : decode cX10_say 226 = .ok (.aload_n 0, 1) := by decide +kernel
theorem dX10_say_227 : decode cX10_say 227 = .ok (.iload_n 1, 1) := by decide +kernel
theorem dX10_say_228 : decode cX10_say 228 = .ok (.iload_n 3, 1) := by decide +kernel
theorem dX10_say_229 : decode cX10_say 229 = .ok (.iload 4, 2) := by decide +kernel
theorem dX10_say_231 : decode cX10_say 231 = .ok (.iload 8, 2) := by decide +kernel
theorem dX10_say_233 : decode cX10_say 233 = .ok (.invokevirtual 121, 3) := by decide +kernel
theorem dX10_say_236 : decode cX10_say 236 = .ok (.invokestatic 125, 3) := by decide +kernel
theorem dX10_say_239 : decode cX10_say 239 = .ok (.iastore, 1) := by decide +kernel
theorem dX10_say_240 : decode cX10_say 240 = .ok (.iinc 8 1, 3) := by decide +kernel
theorem dX10_say_243 : decode cX10_say 243 = .ok (.goto (-82), 3) := by decide +kernel
theorem dX10_say_246 : decode cX10_say 246 = .ok (.aload_n 0, 1) := by decide +kernel
theorem dX10_say_247 : decode cX10_say 247 = .ok (.getfield 7, 3) := by decide +kernel
theorem dX10_say_250 : decode cX10_say 250 = .ok (.sipush 1240, 3) := by decide +kernel
theorem dX10_say_253 : decode cX10_say 253 = .ok (.iload_n 3, 1) := by decide +kernel
theorem dX10_say_254 : decode cX10_say 254 = .ok (.iadd, 1) := by decide +kernel
theorem dX10_say_255 : decode cX10_say 255 = .ok (.iload 4, 2) := by decide +kernel
theorem dX10_say_257 : decode cX10_say 257 = .ok (.iconst 1, 1) := by decide +kernel
theorem dX10_say_258 : decode cX10_say 258 = .ok (.iadd, 1) := by decide +kernel
theorem dX10_say_259 : decode cX10_say 259 = .ok (.iastore, 1) := by decide +kernel
theorem dX10_say_260 : decode cX10_say 260 = .ok (.aload_n 0, 1) := by decide +kernel
theorem dX10_say_261 : decode cX10_say 261 = .ok (.getfield 7, 3) := by decide +kernel
theorem dX10_say_264 : decode cX10_say 264 = .ok (.sipush 1340, 3) := by decide +kernel
theorem dX10_say_267 : decode cX10_say 267 = .ok (.iload_n 1, 1) := by decide +kernel
theorem dX10_say_268 : decode cX10_say 268 = .ok (.iadd, 1) := by decide +kernel
theorem dX10_say_269 : decode cX10_say 269 = .ok (.dup2, 1) := by decide +kernel
theorem dX10_say_270 : decode cX10_say 270 = .ok (.iaload, 1) := by decide +kernel
theorem dX10_say_271 : decode cX10_say 271 = .ok (.iconst 1, 1) := by decide +kernel
theorem dX10_say_272 : decode cX10_say 272 = .ok (.iadd, 1) := by decide +kernel
theorem dX10_say_273 : decode cX10_say 273 = .ok (.iastore, 1) := by decide +kernel
theorem dX10_say_274 : decode cX10_say 274 = .ok (.aload_n 0, 1) := by decide +kernel
theorem dX10_say_275 : decode cX10_say 275 = .ok (.getfield 7, 3) := by decide +kernel
theorem dX10_say_278 : decode cX10_say 278 = .ok (.iconst 3, 1) := by decide +kernel
theorem dX10_say_279 : decode cX10_say 279 = .ok (.dup2, 1) := by decide +kernel
theorem dX10_say_280 : decode cX10_say 280 = .ok (.iaload, 1) := by decide +kernel
theorem dX10_say_281 : decode cX10_say 281 = .ok (.iconst 1, 1) := by decide +kernel
theorem dX10_say_282 : decode cX10_say 282 = .ok (.iadd, 1) := by decide +kernel
theorem dX10_say_283 : decode cX10_say 283 = .ok (.iastore, 1) := by decide +kernel
theorem dX10_say_284 : decode cX10_say 284 = .ok (.aload_n 0, 1) := by decide +kernel
theorem dX10_say_285 : decode cX10_say 285 = .ok (.getfield 7, 3) := by decide +kernel
theorem dX10_say_288 : decode cX10_say 288 = .ok (.iconst 2, 1) := by decide +kernel
theorem dX10_say_289 : decode cX10_say 289 = .ok (.aload_n 0, 1) := by decide +kernel
theorem dX10_say_290 : decode cX10_say 290 = .ok (.getfield 7, 3) := by decide +kernel
theorem dX10_say_293 : decode cX10_say 293 = .ok (.sipush 1190, 3) := by decide +kernel
theorem dX10_say_296 : decode cX10_say 296 = .ok (.iload 5, 2) := by decide +kernel
theorem dX10_say_298 : decode cX10_say 298 = .ok (.iadd, 1) := by decide +kernel
theorem dX10_say_299 : decode cX10_say 299 = .ok (.iaload, 1) := by decide +kernel
theorem dX10_say_300 : decode cX10_say 300 = .ok (.iastore, 1) := by decide +kernel
theorem dX10_say_301 : decode cX10_say 301 = .ok (.aload_n 0, 1) := by decide +kernel
theorem dX10_say_302 : decode cX10_say 302 = .ok (.getfield 7, 3) := by decide +kernel
theorem dX10_say_305 : decode cX10_say 305 = .ok (.sipush 1202, 3) := by decide +kernel
theorem dX10_say_308 : decode cX10_say 308 = .ok (.iload 5, 2) := by decide +kernel
theorem dX10_say_310 : decode cX10_say 310 = .ok (.iadd, 1) := by decide +kernel
theorem dX10_say_311 : decode cX10_say 311 = .ok (.iaload, 1) := by decide +kernel
theorem dX10_say_312 : decode cX10_say 312 = .ok (.ireturn, 1) := by decide +kernel
set_option maxRecDepth 20000 in
theorem ggX10_field_X10_isIn : GoodIn wsX10_field wsX10_isIn := goodIn_r _ [5] (by decide +kernel) (by decide +kernel)
set_option maxRecDepth 20000 in
theorem gX10_field_X10_isIn : GoodIn wsX10_field (va_wsS RX10 47 yX10_isIn wsX10_isIn) := goodIn_app (goodIn_of _ (by decide +kernel)) ggX10_field_X10_isIn
theorem dX10_field_0 : decode cX10_field 0 = .ok (.iload_n 1, 1) := by decide +kernel
theorem dX10_field_1 : decode cX10_field 1 = .ok (.iconst 0, 1) := by decide +kernel
theorem dX10_field_2 : decode cX10_field 2 = .ok (.iconst 1, 1) := by decide +kernel
theorem dX10_field_3 : decode cX10_field 3 = .ok (.invokestatic 47, 3) := by decide +kernel
theorem dX10_field_6 : decode cX10_field 6 = .ok (.ifCond .eq 14, 3) := by decide +kernel
theorem dX10_field_9 : decode cX10_field 9 = .ok (.aload_n 0, 1) := by decide +kernel
theorem dX10_field_10 : decode cX10_field 10 = .ok (.getfield 7, 3) := by decide +kernel
theorem dX10_field_13 : decode cX10_field 13 = .ok (.iconst 5, 1) := by decide +kernel
theorem dX10_field_14 : decode cX10_field 14 = .ok (.iload_n 1, 1) := by decide +kernel
theorem dX10_field_15 : decode cX10_field 15 = .ok (.iadd, 1) := by decide +kernel
theorem dX10_field_16 : decode cX10_field 16 = .ok (.iaload, 1) := by decide +kernel
theorem dX10_field_17 : decode cX10_field 17 = .ok (.goto 6, 3) := by decide +kernel
theorem dX10_field_20 : decode cX10_field 20 = .ok (.sipush (-1000), 3) := by decide +kernel
theorem dX10_field_23 : decode cX10_field 23 = .ok (.ireturn, 1) := by decide +kernel
set_option maxRecDepth 20000 in
theorem ggX10_ran_X10_isIn : GoodIn wsX10_ran wsX10_isIn := goodIn_r _ [5] (by decide +kernel) (by decide +kernel)
set_option maxRecDepth 20000 in
theorem gX10_ran_X10_isIn : GoodIn wsX10_ran (va_wsS RX10 47 yX10_isIn wsX10_isIn) := goodIn_app (goodIn_of _ (by decide +kernel)) ggX10_ran_X10_isIn
theorem dX10_ran_0 : decode cX10_ran 0 = .ok (.aload_n 0, 1) := by decide +kernel
theorem dX10_ran_1 : decode cX10_ran 1 = .ok (.getfield 7, 3) := by decide +kernel
theorem dX10_ran_4 : decode cX10_ran 4 = .ok (.iconst 1, 1) := by decide +kernel
theorem dX10_ran_5 : decode cX10_ran 5 = .ok (.iaload, 1) := by decide +kernel
theorem dX10_ran_6 : decode cX10_ran 6 = .ok (.iconst 1, 1) := by decide +kernel
theorem dX10_ran_7 : decode cX10_ran 7 = .ok (.if_icmp .ne 23, 3) := by decide +kernel
theorem dX10_ran_10 : decode cX10_ran 10 = .ok (.iload_n 1, 1) := by decide +kernel
theorem dX10_ran_11 : decode cX10_ran 11 = .ok (.iconst 0, 1) := by decide +kernel
theorem dX10_ran_12 : decode cX10_ran 12 = .ok (.iconst 2, 1) := by decide +kernel
theorem dX10_ran_13 : decode cX10_ran 13 = .ok (.invokestatic 47, 3) := by decide +kernel
theorem dX10_ran_16 : decode cX10_ran 16 = .ok (.ifCond .eq 14, 3) := by decide +kernel
theorem dX10_ran_19 : decode cX10_ran 19 = .ok (.aload_n 0, 1) := by decide +kernel
theorem dX10_ran_20 : decode cX10_ran 20 = .ok (.getfield 7, 3) := by decide +kernel
theorem dX10_ran_23 : decode cX10_ran 23 = .ok (.iconst 2, 1) := by decide +kernel
theorem dX10_ran_24 : decode cX10_ran 24 = .ok (.iload_n 1, 1) := by decide +kernel
theorem dX10_ran_25 : decode cX10_ran 25 = .ok (.iadd, 1) := by decide +kernel
theorem dX10_ran_26 : decode cX10_ran 26 = .ok (.iaload, 1) := by decide +kernel
theorem dX10_ran_27 : decode cX10_ran 27 = .ok (.goto 4, 3) := by decide +kernel
theorem dX10_ran_30 : decode cX10_ran 30 = .ok (.iconst (-1), 1) := by decide +kernel
theorem dX10_ran_31 : decode cX10_ran 31 = .ok (.ireturn, 1) := by decide +kernel
set_option maxRecDepth 20000 in
theorem ggX10_fieldOf_X10_sizeOf : GoodIn wsX10_fieldOf wsX10_sizeOf := goodIn_r _ [6, 1, 11, 12, 13, 14, 15, 16, 17, 18, 19, 20, 21, 22, 23, 24, 25] (by decide +kernel) (by decide +kernel)
set_option maxRecDepth 20000 in
theorem gX10_fieldOf_X10_sizeOf : GoodIn wsX10_fieldOf (wsV RX10 56 RX10 yX10_sizeOf wsX10_sizeOf) := goodIn_app (goodIn_of _ (by decide +kernel)) ggX10_fieldOf_X10_sizeOf
set_option maxRecDepth 20000 in
theorem ggX10_fieldOf_X10_of : GoodIn wsX10_fieldOf wsX10_of := goodIn_r _ [10, 1, 11, 12, 13, 14, 15, 16, 17, 18, 19, 20, 21, 22, 23, 24, 25] (by decide +kernel) (by decide +kernel)
set_option maxRecDepth 20000 in
theorem gX10_fieldOf_X10_of : GoodIn wsX10_fieldOf (wsV RX10 60 RX10 yX10_of wsX10_of) := goodIn_app (goodIn_of _ (by decide +kernel)) ggX10_fieldOf_X10_of
theorem dX10_fieldOf_0 : decode cX10_fieldOf 0 = .ok (.iconst 0, 1) := by decide +kernel
theorem dX10_fieldOf_1 : decode cX10_fieldOf 1 = .ok (.istore 6, 2) := by decide +kernel
theorem dX10_fieldOf_3 : decode cX10_fieldOf 3 = .ok (.iload 6, 2) := by decide +kernel
theorem dX10_fieldOf_5 : decode cX10_fieldOf 5 = .ok (.aload_n 0, 1) := by decide +kernel
theorem dX10_fieldOf_6 : decode cX10_fieldOf 6 = .ok (.getfield 7, 3) := by decide +kernel
theorem dX10_fieldOf_9 : decode cX10_fieldOf 9 = .ok (.iconst 0, 1) := by decide +kernel
theorem dX10_fieldOf_10 : decode cX10_fieldOf 10 = .ok (.iaload, 1) := by decide +kernel
theorem dX10_fieldOf_11 : decode cX10_fieldOf 11 = .ok (.if_icmp .ge 88, 3) := by decide +kernel
theorem dX10_fieldOf_14 : decode cX10_fieldOf 14 = .ok (.iconst 0, 1) := by decide +kernel
theorem dX10_fieldOf_15 : decode cX10_fieldOf 15 = .ok (.istore 7, 2) := by decide +kernel
theorem dX10_fieldOf_17 : decode cX10_fieldOf 17 = .ok (.iload 7, 2) := by decide +kernel
theorem dX10_fieldOf_19 : decode cX10_fieldOf 19 = .ok (.aload_n 0, 1) := by decide +kernel
theorem dX10_fieldOf_20 : decode cX10_fieldOf 20 = .ok (.iload 6, 2) := by decide +kernel
theorem dX10_fieldOf_22 : decode cX10_fieldOf 22 = .ok (.invokevirtual 56, 3) := by decide +kernel
theorem dX10_fieldOf_25 : decode cX10_fieldOf 25 = .ok (.if_icmp .ge 68, 3) := by decide +kernel
theorem dX10_fieldOf_28 : decode cX10_fieldOf 28 = .ok (.iload 6, 2) := by decide +kernel
theorem dX10_fieldOf_30 : decode cX10_fieldOf 30 = .ok (.iload 5, 2) := by decide +kernel
theorem dX10_fieldOf_32 : decode cX10_fieldOf 32 = .ok (.if_icmp .eq 61, 3) := by decide +kernel
theorem dX10_fieldOf_35 : decode cX10_fieldOf 35 = .ok (.aload_n 0, 1) := by decide +kernel
theorem dX10_fieldOf_36 : decode cX10_fieldOf 36 = .ok (.iload 6, 2) := by decide +kernel
theorem dX10_fieldOf_38 : decode cX10_fieldOf 38 = .ok (.iload 7, 2) := by decide +kernel
theorem dX10_fieldOf_40 : decode cX10_fieldOf 40 = .ok (.iconst 0, 1) := by decide +kernel
theorem dX10_fieldOf_41 : decode cX10_fieldOf 41 = .ok (.invokevirtual 60, 3) := by decide +kernel
theorem dX10_fieldOf_44 : decode cX10_fieldOf 44 = .ok (.iload_n 1, 1) := by decide +kernel
theorem dX10_fieldOf_45 : decode cX10_fieldOf 45 = .ok (.if_icmp .ne 42, 3) := by decide +kernel
theorem dX10_fieldOf_48 : decode cX10_fieldOf 48 = .ok (.aload_n 0, 1) := by decide +kernel
theorem dX10_fieldOf_49 : decode cX10_fieldOf 49 = .ok (.iload 6, 2) := by decide +kernel
theorem dX10_fieldOf_51 : decode cX10_fieldOf 51 = .ok (.iload 7, 2) := by decide +kernel
theorem dX10_fieldOf_53 : decode cX10_fieldOf 53 = .ok (.iconst 1, 1) := by decide +kernel
theorem dX10_fieldOf_54 : decode cX10_fieldOf 54 = .ok (.invokevirtual 60, 3) := by decide +kernel
theorem dX10_fieldOf_57 : decode cX10_fieldOf 57 = .ok (.iload_n 2, 1) := by decide +kernel
theorem dX10_fieldOf_58 : decode cX10_fieldOf 58 = .ok (.if_icmp .ne 29, 3) := by decide +kernel
theorem dX10_fieldOf_61 : decode cX10_fieldOf 61 = .ok (.aload_n 0, 1) := by decide +kernel
theorem dX10_fieldOf_62 : decode cX10_fieldOf 62 = .ok (.iload 6, 2) := by decide +kernel
theorem dX10_fieldOf_64 : decode cX10_fieldOf 64 = .ok (.iload 7, 2) := by decide +kernel
theorem dX10_fieldOf_66 : decode cX10_fieldOf 66 = .ok (.iconst 2, 1) := by decide +kernel
theorem dX10_fieldOf_67 : decode cX10_fieldOf 67 = .ok (.invokevirtual 60, 3) := by decide +kernel
theorem dX10_fieldOf_70 : decode cX10_fieldOf 70 = .ok (.iload_n 3, 1) := by decide +kernel
theorem dX10_fieldOf_71 : decode cX10_fieldOf 71 = .ok (.if_icmp .ne 16, 3) := by decide +kernel
theorem dX10_fieldOf_74 : decode cX10_fieldOf 74 = .ok (.aload_n 0, 1) := by decide +kernel
theorem dX10_fieldOf_75 : decode cX10_fieldOf 75 = .ok (.iload 6, 2) := by decide +kernel
theorem dX10_fieldOf_77 : decode cX10_fieldOf 77 = .ok (.iload 7, 2) := by decide +kernel
theorem dX10_fieldOf_79 : decode cX10_fieldOf 79 = .ok (.iconst 4, 1) := by decide +kernel
theorem dX10_fieldOf_80 : decode cX10_fieldOf 80 = .ok (.iload 4, 2) := by decide +kernel
theorem dX10_fieldOf_82 : decode cX10_fieldOf 82 = .ok (.iadd, 1) := by decide +kernel
theorem dX10_fieldOf_83 : decode cX10_fieldOf 83 = .ok (.invokevirtual 60, 3) := by decide +kernel
theorem dX10_fieldOf_86 : decode cX10_fieldOf 86 = .ok (.ireturn, 1) := by decide +kernel
theorem dX10_fieldOf_87 : decode cX10_fieldOf 87 = .ok (.iinc 7 1, 3) := by decide +kernel
theorem dX10_fieldOf_90 : decode cX10_fieldOf 90 = .ok (.goto (-73), 3) := by decide +kernel
theorem dX10_fieldOf_93 : decode cX10_fieldOf 93 = .ok (.iinc 6 1, 3) := by decide +kernel
theorem dX10_fieldOf_96 : decode cX10_fieldOf 96 = .ok (.goto (-93), 3) := by decide +kernel
theorem dX10_fieldOf_99 : decode cX10_fieldOf 99 = .ok (.iconst (-1), 1) := by decide +kernel
theorem dX10_fieldOf_100 : decode cX10_fieldOf 100 = .ok (.ireturn, 1) := by decide +kernel
set_option maxRecDepth 20000 in
theorem ggX10_differs_X10_of : GoodIn wsX10_differs wsX10_of := goodIn_r _ [8, 9, 29, 30, 31, 32, 33, 34, 35, 36, 37, 38, 39, 40, 41, 42, 43] (by decide +kernel) (by decide +kernel)
set_option maxRecDepth 20000 in
theorem gX10_differs_X10_of : GoodIn wsX10_differs (wsV RX10 60 RX10 yX10_of wsX10_of) := goodIn_app (goodIn_of _ (by decide +kernel)) ggX10_differs_X10_of
set_option maxRecDepth 20000 in
theorem ggX10_differs_X10_fieldOf : GoodIn wsX10_differs wsX10_fieldOf := goodIn_r _ [13, 9, 14, 15, 16, 7, 17, 4, 5, 6, 8, 29, 30, 31, 32, 33, 34, 35, 36, 37, 38, 39, 40, 41, 42, 43] (by decide +kernel) (by decide +kernel)
set_option maxRecDepth 20000 in
theorem gX10_differs_X10_fieldOf : GoodIn wsX10_differs (wsV RX10 129 RX10 yX10_fieldOf wsX10_fieldOf) := goodIn_app (goodIn_of _ (by decide +kernel)) ggX10_differs_X10_fieldOf
set_option maxRecDepth 20000 in
theorem ggX10_differs_X10_ahead : GoodIn wsX10_differs wsX10_ahead := goodIn_r _ [21, 4, 5, 6, 7, 8, 9, 29, 30, 31, 32, 33, 34, 35, 36, 37, 38, 39, 40, 41, 42, 43] (by decide +kernel) (by decide +kernel)
set_option maxRecDepth 20000 in
theorem gX10_differs_X10_ahead : GoodIn wsX10_differs (wsV RX10 68 RX10 yX10_ahead wsX10_ahead) := goodIn_app (goodIn_of _ (by decide +kernel)) ggX10_differs_X10_ahead
set_option maxRecDepth 20000 in
theorem ggX10_differs_X10_latest : GoodIn wsX10_differs wsX10_latest := goodIn_r _ [25, 4, 5, 6, 7, 8, 9, 29, 30, 31, 32, 33, 34, 35, 36, 37, 38, 39, 40, 41, 42, 43] (by decide +kernel) (by decide +kernel)
set_option maxRecDepth 20000 in
theorem gX10_differs_X10_latest : GoodIn wsX10_differs (wsV RX10 71 RX10 yX10_latest wsX10_latest) := goodIn_app (goodIn_of _ (by decide +kernel)) ggX10_differs_X10_latest
set_option maxRecDepth 20000 in
theorem ggX10_differs_X10_made : GoodIn wsX10_differs wsX10_made := goodIn_r _ [28] (by decide +kernel) (by decide +kernel)
set_option maxRecDepth 20000 in
theorem gX10_differs_X10_made : GoodIn wsX10_differs (va_wsS RX10 125 yX10_made wsX10_made) := goodIn_app (goodIn_of _ (by decide +kernel)) ggX10_differs_X10_made
theorem dX10_differs_0 : decode cX10_differs 0 = .ok (.aload_n 0, 1) := by decide +kernel
theorem dX10_differs_1 : decode cX10_differs 1 = .ok (.iload_n 1, 1) := by decide +kernel
theorem dX10_differs_2 : decode cX10_differs 2 = .ok (.iload_n 2, 1) := by decide +kernel
theorem dX10_differs_3 : decode cX10_differs 3 = .ok (.iconst 0, 1) := by decide +kernel
theorem dX10_differs_4 : decode cX10_differs 4 = .ok (.invokevirtual 60, 3) := by decide +kernel
theorem dX10_differs_7 : decode cX10_differs 7 = .ok (.istore 5, 2) := by decide +kernel
theorem dX10_differs_9 : decode cX10_differs 9 = .ok (.aload_n 0, 1) := by decide +kernel
theorem dX10_differs_10 : decode cX10_differs 10 = .ok (.iload_n 1, 1) := by decide +kernel
theorem dX10_differs_11 : decode cX10_differs 11 = .ok (.iload_n 2, 1) := by decide +kernel
theorem dX10_differs_12 : decode cX10_differs 12 = .ok (.iconst 1, 1) := by decide +kernel
theorem dX10_differs_13 : decode cX10_differs 13 = .ok (.invokevirtual 60, 3) := by decide +kernel
theorem dX10_differs_16 : decode cX10_differs 16 = .ok (.istore 6, 2) := by decide +kernel
theorem dX10_differs_18 : decode cX10_differs 18 = .ok (.aload_n 0, 1) := by decide +kernel
theorem dX10_differs_19 : decode cX10_differs 19 = .ok (.iload_n 1, 1) := by decide +kernel
theorem dX10_differs_20 : decode cX10_differs 20 = .ok (.iload_n 2, 1) := by decide +kernel
theorem dX10_differs_21 : decode cX10_differs 21 = .ok (.iconst 2, 1) := by decide +kernel
theorem dX10_differs_22 : decode cX10_differs 22 = .ok (.invokevirtual 60, 3) := by decide +kernel
theorem dX10_differs_25 : decode cX10_differs 25 = .ok (.istore 7, 2) := by decide +kernel
theorem dX10_differs_27 : decode cX10_differs 27 = .ok (.iconst 3, 1) := by decide +kernel
theorem dX10_differs_28 : decode cX10_differs 28 = .ok (.iload_n 3, 1) := by decide +kernel
theorem dX10_differs_29 : decode cX10_differs 29 = .ok (.imul, 1) := by decide +kernel
theorem dX10_differs_30 : decode cX10_differs 30 = .ok (.iload 5, 2) := by decide +kernel
theorem dX10_differs_32 : decode cX10_differs 32 = .ok (.iadd, 1) := by decide +kernel
theorem dX10_differs_33 : decode cX10_differs 33 = .ok (.istore 8, 2) := by decide +kernel
theorem dX10_differs_35 : decode cX10_differs 35 = .ok (.aload_n 0, 1) := by decide +kernel
theorem dX10_differs_36 : decode cX10_differs 36 = .ok (.getfield 26, 3) := by decide +kernel
theorem dX10_differs_39 : decode cX10_differs 39 = .ok (.iload 8, 2) := by decide +kernel
theorem dX10_differs_41 : decode cX10_differs 41 = .ok (.iaload, 1) := by decide +kernel
theorem dX10_differs_42 : decode cX10_differs 42 = .ok (.ifCond .ge 5, 3) := by decide +kernel
theorem dX10_differs_45 : decode cX10_differs 45 = .ok (.iconst 0, 1) := by decide +kernel
theorem dX10_differs_46 : decode cX10_differs 46 = .ok (.ireturn, 1) := by decide +kernel
theorem dX10_differs_47 : decode cX10_differs 47 = .ok (.iconst 0, 1) := by decide +kernel
theorem dX10_differs_48 : decode cX10_differs 48 = .ok (.istore 9, 2) := by decide +kernel
theorem dX10_differs_50 : decode cX10_differs 50 = .ok (.iload 9, 2) := by decide +kernel
theorem dX10_differs_52 : decode cX10_differs 52 = .ok (.iconst 2, 1) := by decide +kernel
theorem dX10_differs_53 : decode cX10_differs 53 = .ok (.if_icmp .ge 46, 3) := by decide +kernel
theorem dX10_differs_56 : decode cX10_differs 56 = .ok (.aload_n 0, 1) := by decide +kernel
theorem dX10_differs_57 : decode cX10_differs 57 = .ok (.getfield 17, 3) := by decide +kernel
theorem dX10_differs_60 : decode cX10_differs 60 = .ok (.iconst 4, 1) := by decide +kernel
theorem dX10_differs_61 : decode cX10_differs 61 = .ok (.iload 5, 2) := by decide +kernel
theorem dX10_differs_63 : decode cX10_differs 63 = .ok (.imul, 1) := by decide +kernel
theorem dX10_differs_64 : decode cX10_differs 64 = .ok (.iconst 2, 1) := by decide +kernel
theorem dX10_differs_65 : decode cX10_differs 65 = .ok (.iload 9, 2) := by decide +kernel
theorem dX10_differs_67 : decode cX10_differs 67 = .ok (.imul, 1) := by decide +kernel
theorem dX10_differs_68 : decode cX10_differs 68 = .ok (.iadd, 1) := by decide +kernel
theorem dX10_differs_69 : decode cX10_differs 69 = .ok (.iaload, 1) := by decide +kernel
theorem dX10_differs_70 : decode cX10_differs 70 = .ok (.iconst 5, 1) := by decide +kernel
theorem dX10_differs_71 : decode cX10_differs 71 = .ok (.if_icmp .ne 22, 3) := by decide +kernel
theorem dX10_differs_74 : decode cX10_differs 74 = .ok (.aload_n 0, 1) := by decide +kernel
theorem dX10_differs_75 : decode cX10_differs 75 = .ok (.iload 5, 2) := by decide +kernel
theorem dX10_differs_77 : decode cX10_differs 77 = .ok (.iload 6, 2) := by decide +kernel
theorem dX10_differs_79 : decode cX10_differs 79 = .ok (.iload 7, 2) := by decide +kernel
theorem dX10_differs_81 : decode cX10_differs 81 = .ok (.iload 9, 2) := by decide +kernel
theorem dX10_differs_83 : decode cX10_differs 83 = .ok (.iload 4, 2) := by decide +kernel
theorem dX10_differs_85 : decode cX10_differs 85 = .ok (.invokevirtual 129, 3) := by decide +kernel
theorem dX10_differs_88 : decode cX10_differs 88 = .ok (.ifCond .ge 5, 3) := by decide +kernel
theorem dX10_differs_91 : decode cX10_differs 91 = .ok (.iconst 0, 1) := by decide +kernel
theorem dX10_differs_92 : decode cX10_differs 92 = .ok (.ireturn, 1) := by decide +kernel
theorem dX10_differs_93 : decode cX10_differs 93 = .ok (.iinc 9 1, 3) := by decide +kernel
theorem dX10_differs_96 : decode cX10_differs 96 = .ok (.goto (-46), 3) := by decide +kernel
theorem dX10_differs_99 : decode cX10_differs 99 = .ok (.aload_n 0, 1) := by decide +kernel
theorem dX10_differs_100 : decode cX10_differs 100 = .ok (.getfield 29, 3) := by decide +kernel
theorem dX10_differs_103 : decode cX10_differs 103 = .ok (.iload 8, 2) := by decide +kernel
theorem dX10_differs_105 : decode cX10_differs 105 = .ok (.iaload, 1) := by decide +kernel
theorem dX10_differs_106 : decode cX10_differs 106 = .ok (.aload_n 0, 1) := by decide +kernel
theorem dX10_differs_107 : decode cX10_differs 107 = .ok (.iload_n 1, 1) := by decide +kernel
theorem dX10_differs_108 : decode cX10_differs 108 = .ok (.iload_n 2, 1) := by decide +kernel
theorem dX10_differs_109 : decode cX10_differs 109 = .ok (.iconst 3, 1) := by decide +kernel
theorem dX10_differs_110 : decode cX10_differs 110 = .ok (.invokevirtual 60, 3) := by decide +kernel
theorem dX10_differs_113 : decode cX10_differs 113 = .ok (.if_icmp .eq 5, 3) := by decide +kernel
theorem dX10_differs_116 : decode cX10_differs 116 = .ok (.iconst 1, 1) := by decide +kernel
theorem dX10_differs_117 : decode cX10_differs 117 = .ok (.ireturn, 1) := by decide +kernel
theorem dX10_differs_118 : decode cX10_differs 118 = .ok (.iconst 0, 1) := by decide +kernel
theorem dX10_differs_119 : decode cX10_differs 119 = .ok (.istore 9, 2) := by decide +kernel
theorem dX10_differs_121 : decode cX10_differs 121 = .ok (.iload 9, 2) := by decide +kernel
theorem dX10_differs_123 : decode cX10_differs 123 = .ok (.iconst 2, 1) := by decide +kernel
theorem dX10_differs_124 : decode cX10_differs 124 = .ok (.if_icmp .ge 105, 3) := by decide +kernel
theorem dX10_differs_127 : decode cX10_differs 127 = .ok (.aload_n 0, 1) := by decide +kernel
theorem dX10_differs_128 : decode cX10_differs 128 = .ok (.getfield 17, 3) := by decide +kernel
theorem dX10_differs_131 : decode cX10_differs 131 = .ok (.iconst 4, 1) := by decide +kernel
theorem dX10_differs_132 : decode cX10_differs 132 = .ok (.iload 5, 2) := by decide +kernel
theorem dX10_differs_134 : decode cX10_differs 134 = .ok (.imul, 1) := by decide +kernel
theorem dX10_differs_135 : decode cX10_differs 135 = .ok (.iconst 2, 1) := by decide +kernel
theorem dX10_differs_136 : decode cX10_differs 136 = .ok (.iload 9, 2) := by decide +kernel
theorem dX10_differs_138 : decode cX10_differs 138 = .ok (.imul, 1) := by decide +kernel
theorem dX10_differs_139 : decode cX10_differs 139 = .ok (.iadd, 1) := by decide +kernel
theorem dX10_differs_140 : decode cX10_differs 140 = .ok (.iaload, 1) := by decide +kernel
theorem dX10_differs_141 : decode cX10_differs 141 = .ok (.istore 10, 2) := by decide +kernel
theorem dX10_differs_143 : decode cX10_differs 143 = .ok (.iload 10, 2) := by decide +kernel
theorem dX10_differs_145 : decode cX10_differs 145 = .ok (.aload_n 0, 1) := by decide +kernel
theorem dX10_differs_146 : decode cX10_differs 146 = .ok (.getfield 17, 3) := by decide +kernel
theorem dX10_differs_149 : decode cX10_differs 149 = .ok (.iconst 4, 1) := by decide +kernel
theorem dX10_differs_150 : decode cX10_differs 150 = .ok (.iload 5, 2) := by decide +kernel
theorem dX10_differs_152 : decode cX10_differs 152 = .ok (.imul, 1) := by decide +kernel
theorem dX10_differs_153 : decode cX10_differs 153 = .ok (.iconst 2, 1) := by decide +kernel
theorem dX10_differs_154 : decode cX10_differs 154 = .ok (.iload 9, 2) := by decide +kernel
theorem dX10_differs_156 : decode cX10_differs 156 = .ok (.imul, 1) := by decide +kernel
theorem dX10_differs_157 : decode cX10_differs 157 = .ok (.iadd, 1) := by decide +kernel
theorem dX10_differs_158 : decode cX10_differs 158 = .ok (.iconst 1, 1) := by decide +kernel
theorem dX10_differs_159 : decode cX10_differs 159 = .ok (.iadd, 1) := by decide +kernel
theorem dX10_differs_160 : decode cX10_differs 160 = .ok (.iaload, 1) := by decide +kernel
theorem dX10_differs_161 : decode cX10_differs 161 = .ok (.iload 6, 2) := by decide +kernel
theorem dX10_differs_163 : decode cX10_differs 163 = .ok (.iload 7, 2) := by decide +kernel
theorem dX10_differs_165 : decode cX10_differs 165 = .ok (.aload_n 0, 1) := by decide +kernel
theorem dX10_differs_166 : decode cX10_differs 166 = .ok (.iload_n 1, 1) := by decide +kernel
theorem dX10_differs_167 : decode cX10_differs 167 = .ok (.iload_n 2, 1) := by decide +kernel
theorem dX10_differs_168 : decode cX10_differs 168 = .ok (.invokevirtual 68, 3) := by decide +kernel
theorem dX10_differs_171 : decode cX10_differs 171 = .ok (.aload_n 0, 1) := by decide +kernel
theorem dX10_differs_172 : decode cX10_differs 172 = .ok (.iload_n 1, 1) := by decide +kernel
theorem dX10_differs_173 : decode cX10_differs 173 = .ok (.iload_n 2, 1) := by decide +kernel
theorem dX10_differs_174 : decode cX10_differs 174 = .ok (.invokevirtual 71, 3) := by decide +kernel
theorem dX10_differs_177 : decode cX10_differs 177 = .ok (.aload_n 0, 1) := by decide +kernel
theorem dX10_differs_178 : decode cX10_differs 178 = .ok (.iload 5, 2) := by decide +kernel
theorem dX10_differs_180 : decode cX10_differs 180 = .ok (.iload 6, 2) := by decide +kernel
theorem dX10_differs_182 : decode cX10_differs 182 = .ok (.iload 7, 2) := by decide +kernel
theorem dX10_differs_184 : decode cX10_differs 184 = .ok (.iload 9, 2) := by decide +kernel
theorem dX10_differs_186 : decode cX10_differs 186 = .ok (.iload 4, 2) := by decide +kernel
theorem dX10_differs_188 : decode cX10_differs 188 = .ok (.invokevirtual 129, 3) := by decide +kernel
theorem dX10_differs_191 : decode cX10_differs 191 = .ok (.invokestatic 125, 3) := by decide +kernel
theorem dX10_differs_194 : decode cX10_differs 194 = .ok (.istore 11, 2) := by decide +kernel
theorem dX10_differs_196 : decode cX10_differs 196 = .ok (.iload 10, 2) := by decide +kernel
theorem dX10_differs_198 : decode cX10_differs 198 = .ok (.bipush 6, 2) := by decide +kernel
theorem dX10_differs_200 : decode cX10_differs 200 = .ok (.if_icmp .eq 23, 3) := by decide +kernel
theorem dX10_differs_203 : decode cX10_differs 203 = .ok (.iload 11, 2) := by decide +kernel
theorem dX10_differs_205 : decode cX10_differs 205 = .ok (.aload_n 0, 1) := by decide +kernel
theorem dX10_differs_206 : decode cX10_differs 206 = .ok (.iload_n 1, 1) := by decide +kernel
theorem dX10_differs_207 : decode cX10_differs 207 = .ok (.iload_n 2, 1) := by decide +kernel
theorem dX10_differs_208 : decode cX10_differs 208 = .ok (.iconst 4, 1) := by decide +kernel
theorem dX10_differs_209 : decode cX10_differs 209 = .ok (.iload 9, 2) := by decide +kernel
theorem dX10_differs_211 : decode cX10_differs 211 = .ok (.iadd, 1) := by decide +kernel
theorem dX10_differs_212 : decode cX10_differs 212 = .ok (.invokevirtual 60, 3) := by decide +kernel
theorem dX10_differs_215 : decode cX10_differs 215 = .ok (.if_icmp .eq 8, 3) := by decide +kernel
theorem dX10_differs_218 : decode cX10_differs 218 = .ok (.iconst 2, 1) := by decide +kernel
theorem dX10_differs_219 : decode cX10_differs 219 = .ok (.iload 9, 2) := by decide +kernel
theorem dX10_differs_221 : decode cX10_differs 221 = .ok (.iadd, 1) := by decide +kernel
theorem dX10_differs_222 : decode cX10_differs 222 = .ok (.ireturn, 1) := by decide +kernel
theorem dX10_differs_223 : decode cX10_differs 223 = .ok (.iinc 9 1, 3) := by decide +kernel
theorem dX10_differs_226 : decode cX10_differs 226 = .ok (.goto (-105), 3) := by decide +kernel
theorem dX10_differs_229 : decode cX10_differs 229 = .ok (.iconst (-1), 1) := by decide +kernel
theorem dX10_differs_230 : decode cX10_differs 230 = .ok (.ireturn, 1) := by decide +kernel
set_option maxRecDepth 20000 in
theorem ggX10_parts_X10_isRow : GoodIn wsX10_parts wsX10_isRow := goodIn_r _ [6, 7, 8, 9, 5, 10, 90, 91, 92, 93, 94, 95, 96, 97, 98, 99, 100, 101, 102, 103, 104] (by decide +kernel) (by decide +kernel)
set_option maxRecDepth 20000 in
theorem gX10_parts_X10_isRow : GoodIn wsX10_parts (wsV RX10 51 RX10 yX10_isRow wsX10_isRow) := goodIn_app (goodIn_of _ (by decide +kernel)) ggX10_parts_X10_isRow
set_option maxRecDepth 20000 in
theorem ggX10_parts_X10_machine : GoodIn wsX10_parts wsX10_machine := goodIn_r _ [14, 1, 15, 16, 17, 18, 19, 5, 20, 7, 21, 22, 23, 24, 25, 26, 27, 28, 29, 30, 31, 32, 33, 34, 35, 36, 37, 38, 39, 40, 41, 42, 43, 44, 90, 91, 92, 93, 94, 95, 96, 97, 98, 99, 100, 101, 102, 103, 104] (by decide +kernel) (by decide +kernel)
set_option maxRecDepth 20000 in
theorem gX10_parts_X10_machine : GoodIn wsX10_parts (wsV RX10 115 RX10 yX10_machine wsX10_machine) := goodIn_app (goodIn_of _ (by decide +kernel)) ggX10_parts_X10_machine
set_option maxRecDepth 20000 in
theorem ggX10_parts_X10_rulesBut : GoodIn wsX10_parts wsX10_rulesBut := goodIn_r _ [48, 49, 50, 51, 5, 52, 53, 54, 55, 56, 57, 58, 7, 23, 24, 25, 26, 37, 38, 39, 40, 59, 60, 61, 62, 63, 64, 65, 66, 67, 68, 69, 70, 71, 72, 73, 74, 75, 76, 77, 78, 90, 91, 92, 93, 94, 95, 96, 97, 98, 99, 100, 101, 102, 103, 104] (by decide +kernel) (by decide +kernel)
set_option maxRecDepth 20000 in
theorem gX10_parts_X10_rulesBut : GoodIn wsX10_parts (wsV RX10 118 RX10 yX10_rulesBut wsX10_rulesBut) := goodIn_app (goodIn_of _ (by decide +kernel)) ggX10_parts_X10_rulesBut
set_option maxRecDepth 20000 in
theorem ggX10_parts_X10_sizeOf : GoodIn wsX10_parts wsX10_sizeOf := goodIn_r _ [26, 7, 90, 91, 92, 93, 94, 95, 96, 97, 98, 99, 100, 101, 102, 103, 104] (by decide +kernel) (by decide +kernel)
set_option maxRecDepth 20000 in
theorem gX10_parts_X10_sizeOf : GoodIn wsX10_parts (wsV RX10 56 RX10 yX10_sizeOf wsX10_sizeOf) := goodIn_app (goodIn_of _ (by decide +kernel)) ggX10_parts_X10_sizeOf
set_option maxRecDepth 20000 in
theorem ggX10_parts_X10_differs : GoodIn wsX10_parts wsX10_differs := goodIn_r _ [82, 1, 53, 15, 37, 38, 39, 5, 40, 7, 83, 84, 85, 86, 23, 24, 25, 26, 71, 72, 73, 74, 75, 76, 77, 78, 87, 88, 89, 90, 91, 92, 93, 94, 95, 96, 97, 98, 99, 100, 101, 102, 103, 104] (by decide +kernel) (by decide +kernel)
set_option maxRecDepth 20000 in
theorem gX10_parts_X10_differs : GoodIn wsX10_parts (wsV RX10 133 RX10 yX10_differs wsX10_differs) := goodIn_app (goodIn_of _ (by decide +kernel)) ggX10_parts_X10_differs
set_option maxRecDepth 20000 in
theorem ggX10_parts_X10_of : GoodIn wsX10_parts wsX10_of := goodIn_r _ [40, 7, 90, 91, 92, 93, 94, 95, 96, 97, 98, 99, 100, 101, 102, 103, 104] (by decide +kernel) (by decide +kernel)
set_option maxRecDepth 20000 in
theorem gX10_parts_X10_of : GoodIn wsX10_parts (wsV RX10 60 RX10 yX10_of wsX10_of) := goodIn_app (goodIn_of _ (by decide +kernel)) ggX10_parts_X10_of
theorem dX10_parts_0 : decode cX10_parts 0 = .ok (.aload_n 0, 1) := by decide +kernel
theorem dX10_parts_1 : decode cX10_parts 1 = .ok (.iload_n 1, 1) := by decide +kernel
theorem dX10_parts_2 : decode cX10_parts 2 = .ok (.invokevirtual 51, 3) := by decide +kernel
theorem dX10_parts_5 : decode cX10_parts 5 = .ok (.ifCond .eq 12, 3) := by decide +kernel
theorem dX10_parts_8 : decode cX10_parts 8 = .ok (.aload_n 0, 1) := by decide +kernel
theorem dX10_parts_9 : decode cX10_parts 9 = .ok (.iload_n 2, 1) := by decide +kernel
theorem dX10_parts_10 : decode cX10_parts 10 = .ok (.invokevirtual 115, 3) := by decide +kernel
theorem dX10_parts_13 : decode cX10_parts 13 = .ok (.iconst 1, 1) := by decide +kernel
theorem dX10_parts_14 : decode cX10_parts 14 = .ok (.if_icmp .ge 5, 3) := by decide +kernel
theorem dX10_parts_17 : decode cX10_parts 17 = .ok (.iconst (-1), 1) := by decide +kernel
theorem dX10_parts_18 : decode cX10_parts 18 = .ok (.ireturn, 1) := by decide +kernel
theorem dX10_parts_19 : decode cX10_parts 19 = .ok (.aload_n 0, 1) := by decide +kernel
theorem dX10_parts_20 : decode cX10_parts 20 = .ok (.iload_n 2, 1) := by decide +kernel
theorem dX10_parts_21 : decode cX10_parts 21 = .ok (.invokevirtual 118, 3) := by decide +kernel
theorem dX10_parts_24 : decode cX10_parts 24 = .ok (.iconst 0, 1) := by decide +kernel
theorem dX10_parts_25 : decode cX10_parts 25 = .ok (.istore_n 3, 1) := by decide +kernel
theorem dX10_parts_26 : decode cX10_parts 26 = .ok (.iconst 0, 1) := by decide +kernel
theorem dX10_parts_27 : decode cX10_parts 27 = .ok (.istore 4, 2) := by decide +kernel
theorem dX10_parts_29 : decode cX10_parts 29 = .ok (.iload 4, 2) := by decide +kernel
theorem dX10_parts_31 : decode cX10_parts 31 = .ok (.aload_n 0, 1) := by decide +kernel
theorem dX10_parts_32 : decode cX10_parts 32 = .ok (.iload_n 1, 1) := by decide +kernel
theorem dX10_parts_33 : decode cX10_parts 33 = .ok (.invokevirtual 56, 3) := by decide +kernel
theorem dX10_parts_36 : decode cX10_parts 36 = .ok (.if_icmp .ge 51, 3) := by decide +kernel
theorem dX10_parts_39 : decode cX10_parts 39 = .ok (.aload_n 0, 1) := by decide +kernel
theorem dX10_parts_40 : decode cX10_parts 40 = .ok (.iload_n 1, 1) := by decide +kernel
theorem dX10_parts_41 : decode cX10_parts 41 = .ok (.iload 4, 2) := by decide +kernel
theorem dX10_parts_43 : decode cX10_parts 43 = .ok (.iload_n 3, 1) := by decide +kernel
theorem dX10_parts_44 : decode cX10_parts 44 = .ok (.iload_n 2, 1) := by decide +kernel
theorem dX10_parts_45 : decode cX10_parts 45 = .ok (.invokevirtual 133, 3) := by decide +kernel
theorem dX10_parts_48 : decode cX10_parts 48 = .ok (.istore 5, 2) := by decide +kernel
theorem dX10_parts_50 : decode cX10_parts 50 = .ok (.iload 5, 2) := by decide +kernel
theorem dX10_parts_52 : decode cX10_parts 52 = .ok (.ifCond .lt 11, 3) := by decide +kernel
theorem dX10_parts_55 : decode cX10_parts 55 = .ok (.iconst 4, 1) := by decide +kernel
theorem dX10_parts_56 : decode cX10_parts 56 = .ok (.iload 4, 2) := by decide +kernel
theorem dX10_parts_58 : decode cX10_parts 58 = .ok (.imul, 1) := by decide +kernel
theorem dX10_parts_59 : decode cX10_parts 59 = .ok (.iload 5, 2) := by decide +kernel
theorem dX10_parts_61 : decode cX10_parts 61 = .ok (.iadd, 1) := by decide +kernel
theorem dX10_parts_62 : decode cX10_parts 62 = .ok (.ireturn, 1) := by decide +kernel
theorem dX10_parts_63 : decode cX10_parts 63 = .ok (.aload_n 0, 1) := by decide +kernel
theorem dX10_parts_64 : decode cX10_parts 64 = .ok (.getfield 26, 3) := by decide +kernel
theorem dX10_parts_67 : decode cX10_parts 67 = .ok (.iconst 3, 1) := by decide +kernel
theorem dX10_parts_68 : decode cX10_parts 68 = .ok (.iload_n 3, 1) := by decide +kernel
theorem dX10_parts_69 : decode cX10_parts 69 = .ok (.imul, 1) := by decide +kernel
theorem dX10_parts_70 : decode cX10_parts 70 = .ok (.aload_n 0, 1) := by decide +kernel
theorem dX10_parts_71 : decode cX10_parts 71 = .ok (.iload_n 1, 1) := by decide +kernel
theorem dX10_parts_72 : decode cX10_parts 72 = .ok (.iload 4, 2) := by decide +kernel
theorem dX10_parts_74 : decode cX10_parts 74 = .ok (.iconst 0, 1) := by decide +kernel
theorem dX10_parts_75 : decode cX10_parts 75 = .ok (.invokevirtual 60, 3) := by decide +kernel
theorem dX10_parts_78 : decode cX10_parts 78 = .ok (.iadd, 1) := by decide +kernel
theorem dX10_parts_79 : decode cX10_parts 79 = .ok (.iaload, 1) := by decide +kernel
theorem dX10_parts_80 : decode cX10_parts 80 = .ok (.istore_n 3, 1) := by decide +kernel
theorem dX10_parts_81 : decode cX10_parts 81 = .ok (.iinc 4 1, 3) := by decide +kernel
theorem dX10_parts_84 : decode cX10_parts 84 = .ok (.goto (-55), 3) := by decide +kernel
theorem dX10_parts_87 : decode cX10_parts 87 = .ok (.iconst (-1), 1) := by decide +kernel
theorem dX10_parts_88 : decode cX10_parts 88 = .ok (.ireturn, 1) := by decide +kernel
theorem dX10_part_0 : decode cX10_part 0 = .ok (.iload_n 0, 1) := by decide +kernel
theorem dX10_part_1 : decode cX10_part 1 = .ok (.ifCond .ge 7, 3) := by decide +kernel
theorem dX10_part_4 : decode cX10_part 4 = .ok (.iconst (-1), 1) := by decide +kernel
theorem dX10_part_5 : decode cX10_part 5 = .ok (.goto 25, 3) := by decide +kernel
theorem dX10_part_8 : decode cX10_part 8 = .ok (.iload_n 1, 1) := by decide +kernel
theorem dX10_part_9 : decode cX10_part 9 = .ok (.ifCond .ne 9, 3) := by decide +kernel
theorem dX10_part_12 : decode cX10_part 12 = .ok (.iload_n 0, 1) := by decide +kernel
theorem dX10_part_13 : decode cX10_part 13 = .ok (.iconst 4, 1) := by decide +kernel
theorem dX10_part_14 : decode cX10_part 14 = .ok (.idiv, 1) := by decide +kernel
theorem dX10_part_15 : decode cX10_part 15 = .ok (.goto 15, 3) := by decide +kernel
theorem dX10_part_18 : decode cX10_part 18 = .ok (.iload_n 1, 1) := by decide +kernel
theorem dX10_part_19 : decode cX10_part 19 = .ok (.iconst 1, 1) := by decide +kernel
theorem dX10_part_20 : decode cX10_part 20 = .ok (.if_icmp .ne 9, 3) := by decide +kernel
theorem dX10_part_23 : decode cX10_part 23 = .ok (.iload_n 0, 1) := by decide +kernel
theorem dX10_part_24 : decode cX10_part 24 = .ok (.iconst 4, 1) := by decide +kernel
theorem dX10_part_25 : decode cX10_part 25 = .ok (.irem, 1) := by decide +kernel
theorem dX10_part_26 : decode cX10_part 26 = .ok (.goto 4, 3) := by decide +kernel
theorem dX10_part_29 : decode cX10_part 29 = .ok (.iconst (-1), 1) := by decide +kernel
theorem dX10_part_30 : decode cX10_part 30 = .ok (.ireturn, 1) := by decide +kernel
set_option maxRecDepth 20000 in
theorem ggX10_held_X10_parts : GoodIn wsX10_held wsX10_parts := goodIn_r _ [5, 6, 7, 8, 9, 4, 10, 11, 12, 13, 14, 15, 16, 17, 18, 19, 20, 21, 22, 23, 24, 25, 26, 27, 28, 29, 30, 31, 32, 33, 34, 35, 36, 37, 38, 39, 40, 41, 42, 43, 44, 45, 46, 47, 48, 49, 50, 51, 52, 53, 54, 55, 56, 57, 58, 59, 60, 61, 62, 63, 64, 65, 66, 67, 68, 69, 70, 71, 72, 73, 74, 75, 76, 77, 78, 79, 80, 81, 82, 83, 84, 85, 86, 87, 88, 89, 90, 91, 92, 93, 97, 98, 99, 100, 101, 102, 103, 104, 105, 106, 107, 108, 109, 110, 111] (by decide +kernel) (by decide +kernel)
set_option maxRecDepth 20000 in
theorem gX10_held_X10_parts : GoodIn wsX10_held (wsV RX10 136 RX10 yX10_parts wsX10_parts) := goodIn_app (goodIn_of _ (by decide +kernel)) ggX10_held_X10_parts
set_option maxRecDepth 20000 in
theorem ggX10_held_X10_part : GoodIn wsX10_held wsX10_part := goodIn_r _ [96] (by decide +kernel) (by decide +kernel)
set_option maxRecDepth 20000 in
theorem gX10_held_X10_part : GoodIn wsX10_held (va_wsS RX10 139 yX10_part wsX10_part) := goodIn_app (goodIn_of _ (by decide +kernel)) ggX10_held_X10_part
theorem dX10_held_0 : decode cX10_held 0 = .ok (.aload_n 0, 1) := by decide +kernel
theorem dX10_held_1 : decode cX10_held 1 = .ok (.iload_n 1, 1) := by decide +kernel
theorem dX10_held_2 : decode cX10_held 2 = .ok (.iconst (-1), 1) := by decide +kernel
theorem dX10_held_3 : decode cX10_held 3 = .ok (.invokevirtual 136, 3) := by decide +kernel
theorem dX10_held_6 : decode cX10_held 6 = .ok (.iload_n 2, 1) := by decide +kernel
theorem dX10_held_7 : decode cX10_held 7 = .ok (.invokestatic 139, 3) := by decide +kernel
theorem dX10_held_10 : decode cX10_held 10 = .ok (.ireturn, 1) := by decide +kernel
set_option maxRecDepth 20000 in
theorem ggX10_fresh_X10_parts : GoodIn wsX10_fresh wsX10_parts := goodIn_r _ [5, 6, 7, 8, 9, 4, 10, 11, 12, 13, 14, 15, 16, 17, 18, 19, 20, 21, 22, 23, 24, 25, 26, 27, 28, 29, 30, 31, 32, 33, 34, 35, 36, 37, 38, 39, 40, 41, 42, 43, 44, 45, 46, 47, 48, 49, 50, 51, 52, 53, 54, 55, 56, 57, 58, 59, 60, 61, 62, 63, 64, 65, 66, 67, 68, 69, 70, 71, 72, 73, 74, 75, 76, 77, 78, 79, 80, 81, 82, 83, 84, 85, 86, 87, 88, 89, 90, 91, 92, 93, 97, 98, 99, 100, 101, 102, 103, 104, 105, 106, 107, 108, 109, 110, 111] (by decide +kernel) (by decide +kernel)
set_option maxRecDepth 20000 in
theorem gX10_fresh_X10_parts : GoodIn wsX10_fresh (wsV RX10 136 RX10 yX10_parts wsX10_parts) := goodIn_app (goodIn_of _ (by decide +kernel)) ggX10_fresh_X10_parts
set_option maxRecDepth 20000 in
theorem ggX10_fresh_X10_part : GoodIn wsX10_fresh wsX10_part := goodIn_r _ [96] (by decide +kernel) (by decide +kernel)
set_option maxRecDepth 20000 in
theorem gX10_fresh_X10_part : GoodIn wsX10_fresh (va_wsS RX10 139 yX10_part wsX10_part) := goodIn_app (goodIn_of _ (by decide +kernel)) ggX10_fresh_X10_part
theorem dX10_fresh_0 : decode cX10_fresh 0 = .ok (.aload_n 0, 1) := by decide +kernel
theorem dX10_fresh_1 : decode cX10_fresh 1 = .ok (.iload_n 1, 1) := by decide +kernel
theorem dX10_fresh_2 : decode cX10_fresh 2 = .ok (.iload_n 1, 1) := by decide +kernel
theorem dX10_fresh_3 : decode cX10_fresh 3 = .ok (.invokevirtual 136, 3) := by decide +kernel
theorem dX10_fresh_6 : decode cX10_fresh 6 = .ok (.iload_n 2, 1) := by decide +kernel
theorem dX10_fresh_7 : decode cX10_fresh 7 = .ok (.invokestatic 139, 3) := by decide +kernel
theorem dX10_fresh_10 : decode cX10_fresh 10 = .ok (.ireturn, 1) := by decide +kernel
set_option maxRecDepth 20000 in
theorem ggX10_count_X10_sizeOf : GoodIn wsX10_count wsX10_sizeOf := goodIn_r _ [6, 1, 18, 19, 20, 21, 22, 23, 24, 25, 26, 27, 28, 29, 30, 31, 32] (by decide +kernel) (by decide +kernel)
set_option maxRecDepth 20000 in
theorem gX10_count_X10_sizeOf : GoodIn wsX10_count (wsV RX10 56 RX10 yX10_sizeOf wsX10_sizeOf) := goodIn_app (goodIn_of _ (by decide +kernel)) ggX10_count_X10_sizeOf
set_option maxRecDepth 20000 in
theorem ggX10_count_X10_of : GoodIn wsX10_count wsX10_of := goodIn_r _ [10, 1, 18, 19, 20, 21, 22, 23, 24, 25, 26, 27, 28, 29, 30, 31, 32] (by decide +kernel) (by decide +kernel)
set_option maxRecDepth 20000 in
theorem gX10_count_X10_of : GoodIn wsX10_count (wsV RX10 60 RX10 yX10_of wsX10_of) := goodIn_app (goodIn_of _ (by decide +kernel)) ggX10_count_X10_of
set_option maxRecDepth 20000 in
theorem ggX10_count_X10_isFirst : GoodIn wsX10_count wsX10_isFirst := goodIn_r _ [14, 2, 3, 4, 5, 6, 1, 7, 8, 9, 10, 18, 19, 20, 21, 22, 23, 24, 25, 26, 27, 28, 29, 30, 31, 32] (by decide +kernel) (by decide +kernel)
set_option maxRecDepth 20000 in
theorem gX10_count_X10_isFirst : GoodIn wsX10_count (wsV RX10 142 RX10 yX10_isFirst wsX10_isFirst) := goodIn_app (goodIn_of _ (by decide +kernel)) ggX10_count_X10_isFirst
set_option maxRecDepth 20000 in
theorem ggX10_count_X10_isIn : GoodIn wsX10_count wsX10_isIn := goodIn_r _ [17] (by decide +kernel) (by decide +kernel)
set_option maxRecDepth 20000 in
theorem gX10_count_X10_isIn : GoodIn wsX10_count (va_wsS RX10 47 yX10_isIn wsX10_isIn) := goodIn_app (goodIn_of _ (by decide +kernel)) ggX10_count_X10_isIn
theorem dX10_count_0 : decode cX10_count 0 = .ok (.iconst 0, 1) := by decide +kernel
theorem dX10_count_1 : decode cX10_count 1 = .ok (.istore_n 2, 1) := by decide +kernel
theorem dX10_count_2 : decode cX10_count 2 = .ok (.iconst 0, 1) := by decide +kernel
theorem dX10_count_3 : decode cX10_count 3 = .ok (.istore_n 3, 1) := by decide +kernel
theorem dX10_count_4 : decode cX10_count 4 = .ok (.iconst 0, 1) := by decide +kernel
theorem dX10_count_5 : decode cX10_count 5 = .ok (.istore 4, 2) := by decide +kernel
theorem dX10_count_7 : decode cX10_count 7 = .ok (.iload 4, 2) := by decide +kernel
theorem dX10_count_9 : decode cX10_count 9 = .ok (.aload_n 0, 1) := by decide +kernel
theorem dX10_count_10 : decode cX10_count 10 = .ok (.getfield 7, 3) := by decide +kernel
theorem dX10_count_13 : decode cX10_count 13 = .ok (.iconst 0, 1) := by decide +kernel
theorem dX10_count_14 : decode cX10_count 14 = .ok (.iaload, 1) := by decide +kernel
theorem dX10_count_15 : decode cX10_count 15 = .ok (.if_icmp .ge 81, 3) := by decide +kernel
theorem dX10_count_18 : decode cX10_count 18 = .ok (.iconst 0, 1) := by decide +kernel
theorem dX10_count_19 : decode cX10_count 19 = .ok (.istore 5, 2) := by decide +kernel
theorem dX10_count_21 : decode cX10_count 21 = .ok (.iload 5, 2) := by decide +kernel
theorem dX10_count_23 : decode cX10_count 23 = .ok (.aload_n 0, 1) := by decide +kernel
theorem dX10_count_24 : decode cX10_count 24 = .ok (.iload 4, 2) := by decide +kernel
theorem dX10_count_26 : decode cX10_count 26 = .ok (.invokevirtual 56, 3) := by decide +kernel
theorem dX10_count_29 : decode cX10_count 29 = .ok (.if_icmp .ge 61, 3) := by decide +kernel
theorem dX10_count_32 : decode cX10_count 32 = .ok (.iload_n 2, 1) := by decide +kernel
theorem dX10_count_33 : decode cX10_count 33 = .ok (.iload_n 1, 1) := by decide +kernel
theorem dX10_count_34 : decode cX10_count 34 = .ok (.iconst 2, 1) := by decide +kernel
theorem dX10_count_35 : decode cX10_count 35 = .ok (.if_icmp .lt 23, 3) := by decide +kernel
theorem dX10_count_38 : decode cX10_count 38 = .ok (.iload_n 1, 1) := by decide +kernel
theorem dX10_count_39 : decode cX10_count 39 = .ok (.iconst 4, 1) := by decide +kernel
theorem dX10_count_40 : decode cX10_count 40 = .ok (.if_icmp .gt 18, 3) := by decide +kernel
theorem dX10_count_43 : decode cX10_count 43 = .ok (.aload_n 0, 1) := by decide +kernel
theorem dX10_count_44 : decode cX10_count 44 = .ok (.iload 4, 2) := by decide +kernel
theorem dX10_count_46 : decode cX10_count 46 = .ok (.iload 5, 2) := by decide +kernel
theorem dX10_count_48 : decode cX10_count 48 = .ok (.iconst 0, 1) := by decide +kernel
theorem dX10_count_49 : decode cX10_count 49 = .ok (.invokevirtual 60, 3) := by decide +kernel
theorem dX10_count_52 : decode cX10_count 52 = .ok (.iload_n 1, 1) := by decide +kernel
theorem dX10_count_53 : decode cX10_count 53 = .ok (.iconst 2, 1) := by decide +kernel
theorem dX10_count_54 : decode cX10_count 54 = .ok (.isub, 1) := by decide +kernel
theorem dX10_count_55 : decode cX10_count 55 = .ok (.if_icmp .ne 7, 3) := by decide +kernel
theorem dX10_count_58 : decode cX10_count 58 = .ok (.iconst 1, 1) := by decide +kernel
theorem dX10_count_59 : decode cX10_count 59 = .ok (.goto 4, 3) := by decide +kernel
theorem dX10_count_62 : decode cX10_count 62 = .ok (.iconst 0, 1) := by decide +kernel
theorem dX10_count_63 : decode cX10_count 63 = .ok (.iadd, 1) := by decide +kernel
theorem dX10_count_64 : decode cX10_count 64 = .ok (.istore_n 2, 1) := by decide +kernel
theorem dX10_count_65 : decode cX10_count 65 = .ok (.iload_n 3, 1) := by decide +kernel
theorem dX10_count_66 : decode cX10_count 66 = .ok (.aload_n 0, 1) := by decide +kernel
theorem dX10_count_67 : decode cX10_count 67 = .ok (.iload 4, 2) := by decide +kernel
theorem dX10_count_69 : decode cX10_count 69 = .ok (.iload 5, 2) := by decide +kernel
theorem dX10_count_71 : decode cX10_count 71 = .ok (.invokevirtual 142, 3) := by decide +kernel
theorem dX10_count_74 : decode cX10_count 74 = .ok (.ifCond .eq 7, 3) := by decide +kernel
theorem dX10_count_77 : decode cX10_count 77 = .ok (.iconst 1, 1) := by decide +kernel
theorem dX10_count_78 : decode cX10_count 78 = .ok (.goto 4, 3) := by decide +kernel
theorem dX10_count_81 : decode cX10_count 81 = .ok (.iconst 0, 1) := by decide +kernel
theorem dX10_count_82 : decode cX10_count 82 = .ok (.iadd, 1) := by decide +kernel
theorem dX10_count_83 : decode cX10_count 83 = .ok (.istore_n 3, 1) := by decide +kernel
theorem dX10_count_84 : decode cX10_count 84 = .ok (.iinc 5 1, 3) := by decide +kernel
theorem dX10_count_87 : decode cX10_count 87 = .ok (.goto (-66), 3) := by decide +kernel
theorem dX10_count_90 : decode cX10_count 90 = .ok (.iinc 4 1, 3) := by decide +kernel
theorem dX10_count_93 : decode cX10_count 93 = .ok (.goto (-86), 3) := by decide +kernel
theorem dX10_count_96 : decode cX10_count 96 = .ok (.iload_n 1, 1) := by decide +kernel
theorem dX10_count_97 : decode cX10_count 97 = .ok (.ifCond .ne 12, 3) := by decide +kernel
theorem dX10_count_100 : decode cX10_count 100 = .ok (.aload_n 0, 1) := by decide +kernel
theorem dX10_count_101 : decode cX10_count 101 = .ok (.getfield 7, 3) := by decide +kernel
theorem dX10_count_104 : decode cX10_count 104 = .ok (.iconst 0, 1) := by decide +kernel
theorem dX10_count_105 : decode cX10_count 105 = .ok (.iaload, 1) := by decide +kernel
theorem dX10_count_106 : decode cX10_count 106 = .ok (.goto 26, 3) := by decide +kernel
theorem dX10_count_109 : decode cX10_count 109 = .ok (.iload_n 1, 1) := by decide +kernel
theorem dX10_count_110 : decode cX10_count 110 = .ok (.iconst 1, 1) := by decide +kernel
theorem dX10_count_111 : decode cX10_count 111 = .ok (.iconst 4, 1) := by decide +kernel
theorem dX10_count_112 : decode cX10_count 112 = .ok (.invokestatic 47, 3) := by decide +kernel
theorem dX10_count_115 : decode cX10_count 115 = .ok (.ifCond .eq 7, 3) := by decide +kernel
theorem dX10_count_118 : decode cX10_count 118 = .ok (.iload_n 2, 1) := by decide +kernel
theorem dX10_count_119 : decode cX10_count 119 = .ok (.goto 13, 3) := by decide +kernel
theorem dX10_count_122 : decode cX10_count 122 = .ok (.iload_n 1, 1) := by decide +kernel
theorem dX10_count_123 : decode cX10_count 123 = .ok (.iconst 5, 1) := by decide +kernel
theorem dX10_count_124 : decode cX10_count 124 = .ok (.if_icmp .ne 7, 3) := by decide +kernel
theorem dX10_count_127 : decode cX10_count 127 = .ok (.iload_n 3, 1) := by decide +kernel
theorem dX10_count_128 : decode cX10_count 128 = .ok (.goto 4, 3) := by decide +kernel
theorem dX10_count_131 : decode cX10_count 131 = .ok (.iconst (-1), 1) := by decide +kernel
theorem dX10_count_132 : decode cX10_count 132 = .ok (.ireturn, 1) := by decide +kernel
set_option maxRecDepth 20000 in
theorem ggX10_isFirst_X10_sizeOf : GoodIn wsX10_isFirst wsX10_sizeOf := goodIn_r _ [5, 6, 11, 12, 13, 14, 15, 16, 17, 18, 19, 20, 21, 22, 23, 24, 25] (by decide +kernel) (by decide +kernel)
set_option maxRecDepth 20000 in
theorem gX10_isFirst_X10_sizeOf : GoodIn wsX10_isFirst (wsV RX10 56 RX10 yX10_sizeOf wsX10_sizeOf) := goodIn_app (goodIn_of _ (by decide +kernel)) ggX10_isFirst_X10_sizeOf
set_option maxRecDepth 20000 in
theorem ggX10_isFirst_X10_of : GoodIn wsX10_isFirst wsX10_of := goodIn_r _ [10, 6, 11, 12, 13, 14, 15, 16, 17, 18, 19, 20, 21, 22, 23, 24, 25] (by decide +kernel) (by decide +kernel)
set_option maxRecDepth 20000 in
theorem gX10_isFirst_X10_of : GoodIn wsX10_isFirst (wsV RX10 60 RX10 yX10_of wsX10_of) := goodIn_app (goodIn_of _ (by decide +kernel)) ggX10_isFirst_X10_of
theorem dX10_isFirst_0 : decode cX10_isFirst 0 = .ok (.iconst 0, 1) := by decide +kernel
theorem dX10_isFirst_1 : decode cX10_isFirst 1 = .ok (.istore_n 3, 1) := by decide +kernel
theorem dX10_isFirst_2 : decode cX10_isFirst 2 = .ok (.iload_n 3, 1) := by decide +kernel
theorem dX10_isFirst_3 : decode cX10_isFirst 3 = .ok (.iload_n 1, 1) := by decide +kernel
theorem dX10_isFirst_4 : decode cX10_isFirst 4 = .ok (.if_icmp .gt 93, 3) := by decide +kernel
theorem dX10_isFirst_7 : decode cX10_isFirst 7 = .ok (.iconst 0, 1) := by decide +kernel
theorem dX10_isFirst_8 : decode cX10_isFirst 8 = .ok (.istore 4, 2) := by decide +kernel
theorem dX10_isFirst_10 : decode cX10_isFirst 10 = .ok (.iload 4, 2) := by decide +kernel
theorem dX10_isFirst_12 : decode cX10_isFirst 12 = .ok (.iload_n 3, 1) := by decide +kernel
theorem dX10_isFirst_13 : decode cX10_isFirst 13 = .ok (.iload_n 1, 1) := by decide +kernel
theorem dX10_isFirst_14 : decode cX10_isFirst 14 = .ok (.if_icmp .ne 7, 3) := by decide +kernel
theorem dX10_isFirst_17 : decode cX10_isFirst 17 = .ok (.iload_n 2, 1) := by decide +kernel
theorem dX10_isFirst_18 : decode cX10_isFirst 18 = .ok (.goto 8, 3) := by decide +kernel
theorem dX10_isFirst_21 : decode cX10_isFirst 21 = .ok (.aload_n 0, 1) := by decide +kernel
theorem dX10_isFirst_22 : decode cX10_isFirst 22 = .ok (.iload_n 3, 1) := by decide +kernel
theorem dX10_isFirst_23 : decode cX10_isFirst 23 = .ok (.invokevirtual 56, 3) := by decide +kernel
theorem dX10_isFirst_26 : decode cX10_isFirst 26 = .ok (.if_icmp .ge 65, 3) := by decide +kernel
theorem dX10_isFirst_29 : decode cX10_isFirst 29 = .ok (.aload_n 0, 1) := by decide +kernel
theorem dX10_isFirst_30 : decode cX10_isFirst 30 = .ok (.iload_n 3, 1) := by decide +kernel
theorem dX10_isFirst_31 : decode cX10_isFirst 31 = .ok (.iload 4, 2) := by decide +kernel
theorem dX10_isFirst_33 : decode cX10_isFirst 33 = .ok (.iconst 0, 1) := by decide +kernel
theorem dX10_isFirst_34 : decode cX10_isFirst 34 = .ok (.invokevirtual 60, 3) := by decide +kernel
theorem dX10_isFirst_37 : decode cX10_isFirst 37 = .ok (.aload_n 0, 1) := by decide +kernel
theorem dX10_isFirst_38 : decode cX10_isFirst 38 = .ok (.iload_n 1, 1) := by decide +kernel
theorem dX10_isFirst_39 : decode cX10_isFirst 39 = .ok (.iload_n 2, 1) := by decide +kernel
theorem dX10_isFirst_40 : decode cX10_isFirst 40 = .ok (.iconst 0, 1) := by decide +kernel
theorem dX10_isFirst_41 : decode cX10_isFirst 41 = .ok (.invokevirtual 60, 3) := by decide +kernel
theorem dX10_isFirst_44 : decode cX10_isFirst 44 = .ok (.if_icmp .ne 41, 3) := by decide +kernel
theorem dX10_isFirst_47 : decode cX10_isFirst 47 = .ok (.aload_n 0, 1) := by decide +kernel
theorem dX10_isFirst_48 : decode cX10_isFirst 48 = .ok (.iload_n 3, 1) := by decide +kernel
theorem dX10_isFirst_49 : decode cX10_isFirst 49 = .ok (.iload 4, 2) := by decide +kernel
theorem dX10_isFirst_51 : decode cX10_isFirst 51 = .ok (.iconst 1, 1) := by decide +kernel
theorem dX10_isFirst_52 : decode cX10_isFirst 52 = .ok (.invokevirtual 60, 3) := by decide +kernel
theorem dX10_isFirst_55 : decode cX10_isFirst 55 = .ok (.aload_n 0, 1) := by decide +kernel
theorem dX10_isFirst_56 : decode cX10_isFirst 56 = .ok (.iload_n 1, 1) := by decide +kernel
theorem dX10_isFirst_57 : decode cX10_isFirst 57 = .ok (.iload_n 2, 1) := by decide +kernel
theorem dX10_isFirst_58 : decode cX10_isFirst 58 = .ok (.iconst 1, 1) := by decide +kernel
theorem dX10_isFirst_59 : decode cX10_isFirst 59 = .ok (.invokevirtual 60, 3) := by decide +kernel
theorem dX10_isFirst_62 : decode cX10_isFirst 62 = .ok (.if_icmp .ne 23, 3) := by decide +kernel
theorem dX10_isFirst_65 : decode cX10_isFirst 65 = .ok (.aload_n 0, 1) := by decide +kernel
theorem dX10_isFirst_66 : decode cX10_isFirst 66 = .ok (.iload_n 3, 1) := by decide +kernel
theorem dX10_isFirst_67 : decode cX10_isFirst 67 = .ok (.iload 4, 2) := by decide +kernel
theorem dX10_isFirst_69 : decode cX10_isFirst 69 = .ok (.iconst 2, 1) := by decide +kernel
theorem dX10_isFirst_70 : decode cX10_isFirst 70 = .ok (.invokevirtual 60, 3) := by decide +kernel
theorem dX10_isFirst_73 : decode cX10_isFirst 73 = .ok (.aload_n 0, 1) := by decide +kernel
theorem dX10_isFirst_74 : decode cX10_isFirst 74 = .ok (.iload_n 1, 1) := by decide +kernel
theorem dX10_isFirst_75 : decode cX10_isFirst 75 = .ok (.iload_n 2, 1) := by decide +kernel
theorem dX10_isFirst_76 : decode cX10_isFirst 76 = .ok (.iconst 2, 1) := by decide +kernel
theorem dX10_isFirst_77 : decode cX10_isFirst 77 = .ok (.invokevirtual 60, 3) := by decide +kernel
theorem dX10_isFirst_80 : decode cX10_isFirst 80 = .ok (.if_icmp .ne 5, 3) := by decide +kernel
theorem dX10_isFirst_83 : decode cX10_isFirst 83 = .ok (.iconst 0, 1) := by decide +kernel
theorem dX10_isFirst_84 : decode cX10_isFirst 84 = .ok (.ireturn, 1) := by decide +kernel
theorem dX10_isFirst_85 : decode cX10_isFirst 85 = .ok (.iinc 4 1, 3) := by decide +kernel
theorem dX10_isFirst_88 : decode cX10_isFirst 88 = .ok (.goto (-78), 3) := by decide +kernel
theorem dX10_isFirst_91 : decode cX10_isFirst 91 = .ok (.iinc 3 1, 3) := by decide +kernel
theorem dX10_isFirst_94 : decode cX10_isFirst 94 = .ok (.goto (-92), 3) := by decide +kernel
theorem dX10_isFirst_97 : decode cX10_isFirst 97 = .ok (.iconst 1, 1) := by decide +kernel
theorem dX10_isFirst_98 : decode cX10_isFirst 98 = .ok (.ireturn, 1) := by decide +kernel
set_option maxRecDepth 20000 in
theorem ggX10_image_X10_isIn : GoodIn wsX10_image wsX10_isIn := goodIn_r _ [6] (by decide +kernel) (by decide +kernel)
set_option maxRecDepth 20000 in
theorem gX10_image_X10_isIn : GoodIn wsX10_image (va_wsS RX10 47 yX10_isIn wsX10_isIn) := goodIn_app (goodIn_of _ (by decide +kernel)) ggX10_image_X10_isIn
theorem dX10_image_0 : decode cX10_image 0 = .ok (.iload_n 1, 1) := by decide +kernel
theorem dX10_image_1 : decode cX10_image 1 = .ok (.iconst 0, 1) := by decide +kernel
theorem dX10_image_2 : decode cX10_image 2 = .ok (.iconst 2, 1) := by decide +kernel
theorem dX10_image_3 : decode cX10_image 3 = .ok (.invokestatic 47, 3) := by decide +kernel
theorem dX10_image_6 : decode cX10_image 6 = .ok (.ifCond .ne 5, 3) := by decide +kernel
theorem dX10_image_9 : decode cX10_image 9 = .ok (.iconst 0, 1) := by decide +kernel
theorem dX10_image_10 : decode cX10_image 10 = .ok (.ireturn, 1) := by decide +kernel
theorem dX10_image_11 : decode cX10_image 11 = .ok (.aload_n 0, 1) := by decide +kernel
theorem dX10_image_12 : decode cX10_image 12 = .ok (.getfield 13, 3) := by decide +kernel
theorem dX10_image_15 : decode cX10_image 15 = .ok (.iload_n 1, 1) := by decide +kernel
theorem dX10_image_16 : decode cX10_image 16 = .ok (.iconst 1, 1) := by decide +kernel
theorem dX10_image_17 : decode cX10_image 17 = .ok (.bastore, 1) := by decide +kernel
theorem dX10_image_18 : decode cX10_image 18 = .ok (.iconst 0, 1) := by decide +kernel
theorem dX10_image_19 : decode cX10_image 19 = .ok (.istore_n 2, 1) := by decide +kernel
theorem dX10_image_20 : decode cX10_image 20 = .ok (.iload_n 2, 1) := by decide +kernel
theorem dX10_image_21 : decode cX10_image 21 = .ok (.sipush 1350, 3) := by decide +kernel
theorem dX10_image_24 : decode cX10_image 24 = .ok (.if_icmp .ge 29, 3) := by decide +kernel
theorem dX10_image_27 : decode cX10_image 27 = .ok (.aload_n 0, 1) := by decide +kernel
theorem dX10_image_28 : decode cX10_image 28 = .ok (.getfield 7, 3) := by decide +kernel
theorem dX10_image_31 : decode cX10_image 31 = .ok (.sipush 1350, 3) := by decide +kernel
theorem dX10_image_34 : decode cX10_image 34 = .ok (.iload_n 1, 1) := by decide +kernel
theorem dX10_image_35 : decode cX10_image 35 = .ok (.iconst 1, 1) := by decide +kernel
theorem dX10_image_36 : decode cX10_image 36 = .ok (.iadd, 1) := by decide +kernel
theorem dX10_image_37 : decode cX10_image 37 = .ok (.imul, 1) := by decide +kernel
theorem dX10_image_38 : decode cX10_image 38 = .ok (.iload_n 2, 1) := by decide +kernel
theorem dX10_image_39 : decode cX10_image 39 = .ok (.iadd, 1) := by decide +kernel
theorem dX10_image_40 : decode cX10_image 40 = .ok (.aload_n 0, 1) := by decide +kernel
theorem dX10_image_41 : decode cX10_image 41 = .ok (.getfield 7, 3) := by decide +kernel
theorem dX10_image_44 : decode cX10_image 44 = .ok (.iload_n 2, 1) := by decide +kernel
theorem dX10_image_45 : decode cX10_image 45 = .ok (.iaload, 1) := by decide +kernel
theorem dX10_image_46 : decode cX10_image 46 = .ok (.iastore, 1) := by decide +kernel
theorem dX10_image_47 : decode cX10_image 47 = .ok (.iinc 2 1, 3) := by decide +kernel
theorem dX10_image_50 : decode cX10_image 50 = .ok (.goto (-30), 3) := by decide +kernel
theorem dX10_image_53 : decode cX10_image 53 = .ok (.iconst 1, 1) := by decide +kernel
theorem dX10_image_54 : decode cX10_image 54 = .ok (.ireturn, 1) := by decide +kernel
set_option maxRecDepth 20000 in
theorem ggX10_again_X10_isIn : GoodIn wsX10_again wsX10_isIn := goodIn_r _ [6] (by decide +kernel) (by decide +kernel)
set_option maxRecDepth 20000 in
theorem gX10_again_X10_isIn : GoodIn wsX10_again (va_wsS RX10 47 yX10_isIn wsX10_isIn) := goodIn_app (goodIn_of _ (by decide +kernel)) ggX10_again_X10_isIn
theorem dX10_again_0 : decode cX10_again 0 = .ok (.iload_n 1, 1) := by decide +kernel
theorem dX10_again_1 : decode cX10_again 1 = .ok (.iconst 0, 1) := by decide +kernel
theorem dX10_again_2 : decode cX10_again 2 = .ok (.iconst 2, 1) := by decide +kernel
theorem dX10_again_3 : decode cX10_again 3 = .ok (.invokestatic 47, 3) := by decide +kernel
theorem dX10_again_6 : decode cX10_again 6 = .ok (.ifCond .eq 12, 3) := by decide +kernel
theorem dX10_again_9 : decode cX10_again 9 = .ok (.aload_n 0, 1) := by decide +kernel
theorem dX10_again_10 : decode cX10_again 10 = .ok (.getfield 13, 3) := by decide +kernel
theorem dX10_again_13 : decode cX10_again 13 = .ok (.iload_n 1, 1) := by decide +kernel
theorem dX10_again_14 : decode cX10_again 14 = .ok (.baload, 1) := by decide +kernel
theorem dX10_again_15 : decode cX10_again 15 = .ok (.ifCond .ne 5, 3) := by decide +kernel
theorem dX10_again_18 : decode cX10_again 18 = .ok (.iconst 0, 1) := by decide +kernel
theorem dX10_again_19 : decode cX10_again 19 = .ok (.ireturn, 1) := by decide +kernel
theorem dX10_again_20 : decode cX10_again 20 = .ok (.iconst 0, 1) := by decide +kernel
theorem dX10_again_21 : decode cX10_again 21 = .ok (.istore_n 2, 1) := by decide +kernel
theorem dX10_again_22 : decode cX10_again 22 = .ok (.iload_n 2, 1) := by decide +kernel
theorem dX10_again_23 : decode cX10_again 23 = .ok (.sipush 1350, 3) := by decide +kernel
theorem dX10_again_26 : decode cX10_again 26 = .ok (.if_icmp .ge 29, 3) := by decide +kernel
theorem dX10_again_29 : decode cX10_again 29 = .ok (.aload_n 0, 1) := by decide +kernel
theorem dX10_again_30 : decode cX10_again 30 = .ok (.getfield 7, 3) := by decide +kernel
theorem dX10_again_33 : decode cX10_again 33 = .ok (.iload_n 2, 1) := by decide +kernel
theorem dX10_again_34 : decode cX10_again 34 = .ok (.aload_n 0, 1) := by decide +kernel
theorem dX10_again_35 : decode cX10_again 35 = .ok (.getfield 7, 3) := by decide +kernel
theorem dX10_again_38 : decode cX10_again 38 = .ok (.sipush 1350, 3) := by decide +kernel
theorem dX10_again_41 : decode cX10_again 41 = .ok (.iload_n 1, 1) := by decide +kernel
theorem dX10_again_42 : decode cX10_again 42 = .ok (.iconst 1, 1) := by decide +kernel
theorem dX10_again_43 : decode cX10_again 43 = .ok (.iadd, 1) := by decide +kernel
theorem dX10_again_44 : decode cX10_again 44 = .ok (.imul, 1) := by decide +kernel
theorem dX10_again_45 : decode cX10_again 45 = .ok (.iload_n 2, 1) := by decide +kernel
theorem dX10_again_46 : decode cX10_again 46 = .ok (.iadd, 1) := by decide +kernel
theorem dX10_again_47 : decode cX10_again 47 = .ok (.iaload, 1) := by decide +kernel
theorem dX10_again_48 : decode cX10_again 48 = .ok (.iastore, 1) := by decide +kernel
theorem dX10_again_49 : decode cX10_again 49 = .ok (.iinc 2 1, 3) := by decide +kernel
theorem dX10_again_52 : decode cX10_again 52 = .ok (.goto (-30), 3) := by decide +kernel
theorem dX10_again_55 : decode cX10_again 55 = .ok (.iconst 1, 1) := by decide +kernel
theorem dX10_again_56 : decode cX10_again 56 = .ok (.ireturn, 1) := by decide +kernel
theorem dJ9_max_7cf53_0 : decode cJ9_max_7cf53 0 = .ok (.iload_n 0, 1) := by decide +kernel
theorem dJ9_max_7cf53_1 : decode cJ9_max_7cf53 1 = .ok (.iload_n 1, 1) := by decide +kernel
theorem dJ9_max_7cf53_2 : decode cJ9_max_7cf53 2 = .ok (.if_icmp .lt 7, 3) := by decide +kernel
theorem dJ9_max_7cf53_5 : decode cJ9_max_7cf53 5 = .ok (.iload_n 0, 1) := by decide +kernel
theorem dJ9_max_7cf53_6 : decode cJ9_max_7cf53 6 = .ok (.goto 4, 3) := by decide +kernel
theorem dJ9_max_7cf53_9 : decode cJ9_max_7cf53 9 = .ok (.iload_n 1, 1) := by decide +kernel
theorem dJ9_max_7cf53_10 : decode cJ9_max_7cf53 10 = .ok (.ireturn, 1) := by decide +kernel
theorem dJ9_min_7cf53_0 : decode cJ9_min_7cf53 0 = .ok (.iload_n 0, 1) := by decide +kernel
theorem dJ9_min_7cf53_1 : decode cJ9_min_7cf53 1 = .ok (.iload_n 1, 1) := by decide +kernel
theorem dJ9_min_7cf53_2 : decode cJ9_min_7cf53 2 = .ok (.if_icmp .gt 7, 3) := by decide +kernel
theorem dJ9_min_7cf53_5 : decode cJ9_min_7cf53 5 = .ok (.iload_n 0, 1) := by decide +kernel
theorem dJ9_min_7cf53_6 : decode cJ9_min_7cf53 6 = .ok (.goto 4, 3) := by decide +kernel
theorem dJ9_min_7cf53_9 : decode cJ9_min_7cf53 9 = .ok (.iload_n 1, 1) := by decide +kernel
theorem dJ9_min_7cf53_10 : decode cJ9_min_7cf53 10 = .ok (.ireturn, 1) := by decide +kernel
theorem dJ7_fill_53178_0 : decode cJ7_fill_53178 0 = .ok (.iconst 0, 1) := by decide +kernel
theorem dJ7_fill_53178_1 : decode cJ7_fill_53178 1 = .ok (.istore_n 2, 1) := by decide +kernel
theorem dJ7_fill_53178_2 : decode cJ7_fill_53178 2 = .ok (.aload_n 0, 1) := by decide +kernel
theorem dJ7_fill_53178_3 : decode cJ7_fill_53178 3 = .ok (.arraylength, 1) := by decide +kernel
theorem dJ7_fill_53178_4 : decode cJ7_fill_53178 4 = .ok (.istore_n 3, 1) := by decide +kernel
theorem dJ7_fill_53178_5 : decode cJ7_fill_53178 5 = .ok (.iload_n 2, 1) := by decide +kernel
theorem dJ7_fill_53178_6 : decode cJ7_fill_53178 6 = .ok (.iload_n 3, 1) := by decide +kernel
theorem dJ7_fill_53178_7 : decode cJ7_fill_53178 7 = .ok (.if_icmp .ge 13, 3) := by decide +kernel
theorem dJ7_fill_53178_10 : decode cJ7_fill_53178 10 = .ok (.aload_n 0, 1) := by decide +kernel
theorem dJ7_fill_53178_11 : decode cJ7_fill_53178 11 = .ok (.iload_n 2, 1) := by decide +kernel
theorem dJ7_fill_53178_12 : decode cJ7_fill_53178 12 = .ok (.iload_n 1, 1) := by decide +kernel
theorem dJ7_fill_53178_13 : decode cJ7_fill_53178 13 = .ok (.iastore, 1) := by decide +kernel
theorem dJ7_fill_53178_14 : decode cJ7_fill_53178 14 = .ok (.iinc 2 1, 3) := by decide +kernel
theorem dJ7_fill_53178_17 : decode cJ7_fill_53178 17 = .ok (.goto (-12), 3) := by decide +kernel
theorem dJ7_fill_53178_20 : decode cJ7_fill_53178 20 = .ok (.return_, 1) := by decide +kernel
set_option maxRecDepth 20000 in
theorem ggL_law_X9_init : GoodIn wsL_law wsX9_init := goodIn_r _ [8, 9, 10, 11, 12, 13, 14, 15, 16, 17, 18, 19, 20, 21, 22, 23, 24, 25, 26, 27, 28, 29, 30, 31, 32, 33, 34, 35, 36, 37, 38, 39, 40, 41, 42, 43, 44, 45, 46, 47, 48, 49, 50, 51, 52, 53, 54, 55, 56, 57, 58, 59, 60, 61, 62, 63, 64, 65, 66, 67, 68, 69, 70, 71, 72, 73, 74, 75, 76, 77, 78, 79, 80, 81, 82, 83, 84, 85, 86, 87, 88, 89, 90, 91, 92, 93, 94, 95, 96, 97, 98, 99, 100, 101, 102, 103, 104, 105, 106, 107, 108, 109, 714, 715, 694, 695, 696, 697, 698, 716, 717, 718, 719, 720, 721, 722, 723, 724, 725, 726, 727, 728, 729, 730, 731, 732, 733, 734, 735, 736, 737, 738, 739, 740, 741, 742, 743, 744, 745, 746, 747, 748, 749, 750, 751, 752, 753, 754, 755, 756, 757, 758] (by decide +kernel) (by decide +kernel)
set_option maxRecDepth 20000 in
theorem gL_law_X9_init : GoodIn wsL_law (wsX9_init) := ggL_law_X9_init
set_option maxRecDepth 20000 in
theorem ggL_law_X10_init : GoodIn wsL_law wsX10_init := goodIn_r _ [112, 113, 10, 11, 38, 114, 115, 116, 117, 118, 119, 120, 121, 122, 123, 124, 125, 126, 127, 128, 5, 129, 699, 700, 701, 702, 703, 704, 705, 706, 707, 708, 709, 710, 711, 712, 713] (by decide +kernel) (by decide +kernel)
set_option maxRecDepth 20000 in
theorem gL_law_X10_init : GoodIn wsL_law (wsX10_init) := ggL_law_X10_init
set_option maxRecDepth 20000 in
theorem ggL_law_X9_row : GoodIn wsL_law wsX9_row := goodIn_r _ [133, 15, 134, 135, 136, 31, 137, 138, 39, 694, 695, 696, 697, 698, 714, 715, 731, 732, 733, 734, 735] (by decide +kernel) (by decide +kernel)
set_option maxRecDepth 20000 in
theorem gL_law_X9_row : GoodIn wsL_law (wsV RL 13 RX9 yX9_row wsX9_row) := goodIn_app (goodIn_of _ (by decide +kernel)) ggL_law_X9_row
set_option maxRecDepth 20000 in
theorem ggL_law_X10_row : GoodIn wsL_law wsX10_row := goodIn_r _ [142, 114, 699, 700, 701, 702, 703, 704, 705, 706, 707, 708, 709, 710, 711, 712, 713] (by decide +kernel) (by decide +kernel)
set_option maxRecDepth 20000 in
theorem gL_law_X10_row : GoodIn wsL_law (wsV RL 17 RX10 yX10_row wsX10_row) := goodIn_app (goodIn_of _ (by decide +kernel)) ggL_law_X10_row
set_option maxRecDepth 20000 in
theorem ggL_law_X9_exchange : GoodIn wsL_law wsX9_exchange := goodIn_r _ [146, 147, 15, 148, 149, 2, 150, 151, 152, 153, 31, 154, 39, 40, 41, 42, 155, 156, 157, 158, 138, 159, 160, 161, 162, 20, 21, 163, 164, 165, 19, 166, 167, 168, 694, 695, 696, 697, 698, 714, 715, 731, 732, 733, 734, 735, 716, 717, 718, 719, 720, 721, 722] (by decide +kernel) (by decide +kernel)
set_option maxRecDepth 20000 in
theorem gL_law_X9_exchange : GoodIn wsL_law (wsV RL 18 RX9 yX9_exchange wsX9_exchange) := goodIn_app (goodIn_of _ (by decide +kernel)) ggL_law_X9_exchange
set_option maxRecDepth 20000 in
theorem ggL_law_X10_exchange : GoodIn wsL_law wsX10_exchange := goodIn_r _ [172, 173, 114, 174, 175, 176, 5, 177, 178, 179, 180, 181, 182, 183, 184, 699, 700, 701, 702, 703, 704, 705, 706, 707, 708, 709, 710, 711, 712, 713] (by decide +kernel) (by decide +kernel)
set_option maxRecDepth 20000 in
theorem gL_law_X10_exchange : GoodIn wsL_law (wsV RL 22 RX10 yX10_exchange wsX10_exchange) := goodIn_app (goodIn_of _ (by decide +kernel)) ggL_law_X10_exchange
set_option maxRecDepth 20000 in
theorem ggL_law_X9_cut : GoodIn wsL_law wsX9_cut := goodIn_r _ [188, 15, 189, 190, 191, 31, 192, 39, 155, 156, 157, 158, 138, 159, 160, 161, 2, 162, 20, 21, 163, 164, 165, 19, 166, 167, 168, 694, 695, 696, 697, 698, 714, 715, 731, 732, 733, 734, 735, 716, 717, 718, 719, 720, 721, 722] (by decide +kernel) (by decide +kernel)
set_option maxRecDepth 20000 in
theorem gL_law_X9_cut : GoodIn wsL_law (wsV RL 23 RX9 yX9_cut wsX9_cut) := goodIn_app (goodIn_of _ (by decide +kernel)) ggL_law_X9_cut
set_option maxRecDepth 20000 in
theorem ggL_law_X10_cut : GoodIn wsL_law wsX10_cut := goodIn_r _ [196, 114, 174, 175, 176, 5, 177, 178, 179, 180, 181, 182, 183, 184, 699, 700, 701, 702, 703, 704, 705, 706, 707, 708, 709, 710, 711, 712, 713] (by decide +kernel) (by decide +kernel)
set_option maxRecDepth 20000 in
theorem gL_law_X10_cut : GoodIn wsL_law (wsV RL 27 RX10 yX10_cut wsX10_cut) := goodIn_app (goodIn_of _ (by decide +kernel)) ggL_law_X10_cut
set_option maxRecDepth 20000 in
theorem ggL_law_X9_tell : GoodIn wsL_law wsX9_tell := goodIn_r _ [200, 15, 201, 202, 203, 31, 204, 138, 39, 148, 149, 2, 150, 205, 206, 207, 208, 41, 209, 210, 211, 212, 42, 213, 214, 215, 216, 40, 217, 218, 219, 220, 221, 222, 694, 695, 696, 697, 698, 714, 715, 731, 732, 733, 734, 735] (by decide +kernel) (by decide +kernel)
set_option maxRecDepth 20000 in
theorem gL_law_X9_tell : GoodIn wsL_law (wsV RL 28 RX9 yX9_tell wsX9_tell) := goodIn_app (goodIn_of _ (by decide +kernel)) ggL_law_X9_tell
set_option maxRecDepth 20000 in
theorem ggL_law_X10_tell : GoodIn wsL_law wsX10_tell := goodIn_r _ [226, 174, 175, 176, 5, 177, 114, 178, 179, 180, 181, 182, 183, 184, 227, 228, 229, 230, 699, 700, 701, 702, 703, 704, 705, 706, 707, 708, 709, 710, 711, 712, 713] (by decide +kernel) (by decide +kernel)
set_option maxRecDepth 20000 in
theorem gL_law_X10_tell : GoodIn wsL_law (wsV RL 32 RX10 yX10_tell wsX10_tell) := goodIn_app (goodIn_of _ (by decide +kernel)) ggL_law_X10_tell
set_option maxRecDepth 20000 in
theorem ggL_law_X9_quarrel : GoodIn wsL_law wsX9_quarrel := goodIn_r _ [234, 15, 235, 236, 237, 31, 238, 138, 239, 240, 241, 242, 39, 243, 244, 245, 246, 247, 214, 215, 216, 40, 248, 210, 211, 212, 42, 218, 2, 219, 249, 250, 251, 694, 695, 696, 697, 698, 714, 715, 731, 732, 733, 734, 735] (by decide +kernel) (by decide +kernel)
set_option maxRecDepth 20000 in
theorem gL_law_X9_quarrel : GoodIn wsL_law (wsV RL 33 RX9 yX9_quarrel wsX9_quarrel) := goodIn_app (goodIn_of _ (by decide +kernel)) ggL_law_X9_quarrel
set_option maxRecDepth 20000 in
theorem ggL_law_X10_quarrel : GoodIn wsL_law wsX10_quarrel := goodIn_r _ [255, 114, 178, 179, 5, 180, 256, 257, 258, 259, 181, 182, 183, 184, 227, 228, 229, 230, 699, 700, 701, 702, 703, 704, 705, 706, 707, 708, 709, 710, 711, 712, 713] (by decide +kernel) (by decide +kernel)
set_option maxRecDepth 20000 in
theorem gL_law_X10_quarrel : GoodIn wsL_law (wsV RL 37 RX10 yX10_quarrel wsX10_quarrel) := goodIn_app (goodIn_of _ (by decide +kernel)) ggL_law_X10_quarrel
set_option maxRecDepth 20000 in
theorem ggL_law_X9_rule : GoodIn wsL_law wsX9_rule := goodIn_r _ [263, 20, 15, 148, 149, 2, 150, 264, 265, 266, 19, 267, 168, 86, 91, 90, 268, 269, 270, 85, 271, 108, 272, 109, 273, 274, 275, 276, 277, 278, 279, 52, 280, 67, 68, 281, 282, 283, 236, 237, 31, 238, 138, 284, 285, 286, 287, 107, 288, 289, 290, 291, 56, 292, 74, 75, 293, 294, 202, 203, 204, 39, 295, 214, 215, 216, 40, 296, 206, 207, 208, 41, 297, 210, 211, 212, 42, 298, 299, 300, 301, 70, 69, 302, 303, 304, 305, 221, 222, 306, 307, 308, 309, 310, 311, 312, 313, 314, 315, 316, 317, 318, 319, 320, 321, 322, 323, 324, 325, 326, 327, 328, 329, 330, 331, 332, 333, 694, 695, 696, 697, 698, 714, 715, 716, 717, 718, 719, 720, 721, 722, 756, 757, 758, 739, 740, 741, 742, 743, 731, 732, 733, 734, 735, 744, 745] (by decide +kernel) (by decide +kernel)
set_option maxRecDepth 20000 in
theorem gL_law_X9_rule : GoodIn wsL_law (wsV RL 38 RX9 yX9_rule wsX9_rule) := goodIn_app (goodIn_of _ (by decide +kernel)) ggL_law_X9_rule
set_option maxRecDepth 20000 in
theorem ggL_law_X10_rule : GoodIn wsL_law wsX10_rule := goodIn_r _ [337, 117, 178, 179, 5, 180, 338, 339, 340, 341, 342, 343, 344, 345, 346, 114, 181, 182, 183, 184, 227, 228, 229, 230, 347, 348, 349, 350, 351, 352, 353, 354, 355, 356, 357, 358, 359, 360, 361, 362, 363, 364, 365, 366, 699, 700, 701, 702, 703, 704, 705, 706, 707, 708, 709, 710, 711, 712, 713] (by decide +kernel) (by decide +kernel)
set_option maxRecDepth 20000 in
theorem gL_law_X10_rule : GoodIn wsL_law (wsV RL 42 RX10 yX10_rule wsX10_rule) := goodIn_app (goodIn_of _ (by decide +kernel)) ggL_law_X10_rule
set_option maxRecDepth 20000 in
theorem ggL_law_X9_by : GoodIn wsL_law wsX9_by := goodIn_r _ [370, 20, 15, 148, 149, 2, 150, 264, 265, 266, 19, 267, 168, 86, 91, 90, 268, 269, 270, 85, 271, 108, 272, 109, 273, 274, 275, 276, 277, 278, 279, 52, 280, 67, 68, 281, 282, 283, 236, 237, 31, 238, 138, 284, 285, 286, 287, 107, 288, 289, 290, 291, 56, 292, 74, 75, 293, 294, 202, 203, 204, 39, 295, 214, 215, 216, 40, 296, 206, 207, 208, 41, 297, 210, 211, 212, 42, 298, 299, 300, 301, 70, 69, 302, 303, 304, 305, 221, 222, 306, 307, 308, 309, 310, 311, 312, 313, 314, 315, 316, 317, 318, 319, 320, 321, 322, 323, 324, 325, 326, 327, 328, 329, 371, 372, 373, 374, 694, 695, 696, 697, 698, 714, 715, 716, 717, 718, 719, 720, 721, 722, 756, 757, 758, 739, 740, 741, 742, 743, 731, 732, 733, 734, 735, 744, 745] (by decide +kernel) (by decide +kernel)
set_option maxRecDepth 20000 in
theorem gL_law_X9_by : GoodIn wsL_law (wsV RL 43 RX9 yX9_by wsX9_by) := goodIn_app (goodIn_of _ (by decide +kernel)) ggL_law_X9_by
set_option maxRecDepth 20000 in
theorem ggL_law_X10_by : GoodIn wsL_law wsX10_by := goodIn_r _ [378, 117, 178, 179, 5, 180, 338, 339, 340, 341, 342, 343, 344, 345, 346, 114, 181, 182, 183, 184, 227, 228, 229, 230, 347, 348, 349, 350, 351, 352, 353, 354, 355, 356, 357, 358, 359, 360, 361, 362, 363, 364, 365, 366, 699, 700, 701, 702, 703, 704, 705, 706, 707, 708, 709, 710, 711, 712, 713] (by decide +kernel) (by decide +kernel)
set_option maxRecDepth 20000 in
theorem gL_law_X10_by : GoodIn wsL_law (wsV RL 46 RX10 yX10_by wsX10_by) := goodIn_app (goodIn_of _ (by decide +kernel)) ggL_law_X10_by
set_option maxRecDepth 20000 in
theorem ggL_law_X9_states : GoodIn wsL_law wsX9_states := goodIn_r _ [382, 20, 15, 383, 384, 385, 19, 386, 167, 82, 91, 88, 387, 388, 389, 81, 390, 391, 392, 101, 393, 394, 395, 396, 99, 100, 98, 397, 274, 275, 276, 398, 236, 237, 31, 238, 138, 399, 400, 401, 402, 97, 403, 202, 203, 204, 39, 404, 210, 211, 212, 42, 218, 2, 219, 405, 214, 215, 216, 40, 406, 407, 408, 409, 95, 96, 410, 411, 412, 48, 413, 62, 63, 414, 415, 416, 417, 418, 419, 102, 420, 421, 422, 423, 424, 425, 245, 426, 427, 428, 429, 430, 431, 432, 433, 434, 435, 436, 437, 438, 694, 695, 696, 697, 698, 714, 715, 716, 717, 718, 719, 720, 721, 722, 746, 747, 748, 749, 750, 751, 752, 753, 754, 755, 731, 732, 733, 734, 735, 736, 737, 738] (by decide +kernel) (by decide +kernel)
set_option maxRecDepth 20000 in
theorem gL_law_X9_states : GoodIn wsL_law (wsV RL 47 RX9 yX9_states wsX9_states) := goodIn_app (goodIn_of _ (by decide +kernel)) ggL_law_X9_states
set_option maxRecDepth 20000 in
theorem ggL_law_X10_states : GoodIn wsL_law wsX10_states := goodIn_r _ [442, 443, 444, 445, 5, 446, 120, 121, 447, 448, 449, 450, 451, 114, 118, 119, 181, 182, 183, 184, 452, 453, 454, 455, 456, 457, 122, 123, 124, 125, 227, 228, 229, 230, 458, 459, 460, 461, 699, 700, 701, 702, 703, 704, 705, 706, 707, 708, 709, 710, 711, 712, 713] (by decide +kernel) (by decide +kernel)
set_option maxRecDepth 20000 in
theorem gL_law_X10_states : GoodIn wsL_law (wsV RL 50 RX10 yX10_states wsX10_states) := goodIn_app (goodIn_of _ (by decide +kernel)) ggL_law_X10_states
set_option maxRecDepth 20000 in
theorem ggL_law_X9_leads : GoodIn wsL_law wsX9_leads := goodIn_r _ [465, 20, 15, 148, 149, 2, 150, 383, 384, 385, 19, 386, 167, 82, 91, 88, 387, 388, 389, 81, 390, 391, 392, 101, 393, 394, 395, 396, 99, 100, 98, 397, 274, 275, 276, 398, 236, 237, 31, 238, 138, 399, 400, 401, 402, 97, 403, 202, 203, 204, 39, 404, 210, 211, 212, 42, 218, 219, 405, 214, 215, 216, 40, 406, 407, 408, 409, 95, 96, 410, 411, 412, 48, 413, 62, 63, 414, 415, 416, 417, 418, 419, 102, 420, 421, 422, 423, 424, 425, 245, 426, 427, 428, 429, 430, 431, 432, 433, 434, 466, 467, 468, 469, 470, 471, 472, 473, 694, 695, 696, 697, 698, 714, 715, 716, 717, 718, 719, 720, 721, 722, 746, 747, 748, 749, 750, 751, 752, 753, 754, 755, 731, 732, 733, 734, 735, 736, 737, 738] (by decide +kernel) (by decide +kernel)
set_option maxRecDepth 20000 in
theorem gL_law_X9_leads : GoodIn wsL_law (wsV RL 51 RX9 yX9_leads wsX9_leads) := goodIn_app (goodIn_of _ (by decide +kernel)) ggL_law_X9_leads
set_option maxRecDepth 20000 in
theorem ggL_law_X10_leads : GoodIn wsL_law wsX10_leads := goodIn_r _ [477, 120, 121, 178, 179, 5, 180, 443, 444, 445, 446, 447, 448, 449, 450, 451, 114, 118, 119, 181, 182, 183, 184, 452, 453, 454, 455, 456, 457, 122, 123, 124, 125, 227, 228, 229, 230, 458, 459, 460, 461, 699, 700, 701, 702, 703, 704, 705, 706, 707, 708, 709, 710, 711, 712, 713] (by decide +kernel) (by decide +kernel)
set_option maxRecDepth 20000 in
theorem gL_law_X10_leads : GoodIn wsL_law (wsV RL 54 RX10 yX10_leads wsX10_leads) := goodIn_app (goodIn_of _ (by decide +kernel)) ggL_law_X10_leads
set_option maxRecDepth 20000 in
theorem ggL_law_X9_begin : GoodIn wsL_law wsX9_begin := goodIn_r _ [481, 20, 15, 383, 384, 385, 19, 386, 167, 82, 91, 88, 387, 388, 389, 81, 390, 391, 392, 101, 393, 394, 395, 396, 99, 100, 98, 397, 274, 275, 276, 398, 236, 237, 31, 238, 138, 399, 400, 401, 402, 97, 403, 202, 203, 204, 39, 404, 210, 211, 212, 42, 218, 2, 219, 405, 214, 215, 216, 40, 406, 407, 408, 409, 95, 96, 410, 411, 412, 48, 413, 62, 63, 414, 415, 416, 417, 418, 419, 102, 420, 421, 422, 423, 424, 425, 245, 426, 427, 428, 429, 430, 431, 432, 433, 434, 482, 483, 484, 485, 486, 487, 488, 24, 489, 490, 264, 265, 266, 267, 168, 86, 90, 268, 269, 270, 85, 271, 108, 272, 109, 273, 277, 278, 279, 52, 280, 67, 68, 281, 282, 283, 284, 285, 286, 287, 107, 288, 289, 290, 291, 56, 292, 74, 75, 293, 294, 295, 296, 206, 207, 208, 41, 297, 298, 299, 300, 301, 70, 69, 302, 303, 304, 305, 221, 222, 306, 307, 308, 309, 310, 311, 312, 313, 314, 315, 316, 317, 318, 319, 320, 321, 322, 323, 324, 325, 326, 327, 328, 329, 491, 492, 493, 494, 49, 53, 57, 58, 495, 496, 497, 498, 499, 500, 501, 502, 503, 504, 505, 506, 507, 508, 509, 510, 511, 512, 694, 695, 696, 697, 698, 714, 715, 716, 717, 718, 719, 720, 721, 722, 746, 747, 748, 749, 750, 751, 752, 753, 754, 755, 731, 732, 733, 734, 735, 736, 737, 738, 723, 724, 725, 726, 727, 728, 729, 730, 756, 757, 758, 739, 740, 741, 742, 743, 744, 745] (by decide +kernel) (by decide +kernel)
set_option maxRecDepth 20000 in
theorem gL_law_X9_begin : GoodIn wsL_law (wsV RL 55 RX9 yX9_begin wsX9_begin) := goodIn_app (goodIn_of _ (by decide +kernel)) ggL_law_X9_begin
set_option maxRecDepth 20000 in
theorem ggL_law_X10_begin : GoodIn wsL_law wsX10_begin := goodIn_r _ [516, 114, 120, 121, 117, 126, 127, 128, 5, 129, 443, 444, 445, 446, 447, 448, 449, 450, 451, 118, 119, 181, 182, 183, 184, 452, 453, 454, 455, 456, 457, 122, 123, 124, 125, 227, 228, 229, 230, 458, 459, 460, 461, 517, 518, 519, 520, 338, 339, 340, 341, 342, 343, 344, 345, 346, 347, 348, 349, 350, 351, 352, 353, 354, 355, 356, 357, 358, 359, 360, 361, 362, 363, 364, 365, 366, 699, 700, 701, 702, 703, 704, 705, 706, 707, 708, 709, 710, 711, 712, 713] (by decide +kernel) (by decide +kernel)
set_option maxRecDepth 20000 in
theorem gL_law_X10_begin : GoodIn wsL_law (wsV RL 59 RX10 yX10_begin wsX10_begin) := goodIn_app (goodIn_of _ (by decide +kernel)) ggL_law_X10_begin
set_option maxRecDepth 20000 in
theorem ggL_law_X9_say : GoodIn wsL_law wsX9_say := goodIn_r _ [524, 15, 525, 526, 527, 24, 528, 490, 148, 149, 2, 150, 529, 530, 531, 532, 49, 495, 53, 497, 58, 57, 496, 533, 471, 472, 48, 473, 63, 534, 535, 536, 52, 537, 538, 331, 332, 333, 67, 302, 303, 304, 305, 281, 69, 539, 540, 541, 542, 70, 221, 222, 543, 311, 312, 56, 313, 74, 75, 544, 372, 373, 374, 68, 545, 319, 320, 321, 546, 467, 468, 469, 62, 694, 695, 696, 697, 698, 714, 715, 723, 724, 725, 726, 727, 728, 729, 730, 736, 737, 738, 739, 740, 741, 742, 743, 744, 745] (by decide +kernel) (by decide +kernel)
set_option maxRecDepth 20000 in
theorem gL_law_X9_say : GoodIn wsL_law (wsV RL 60 RX9 yX9_say wsX9_say) := goodIn_app (goodIn_of _ (by decide +kernel)) ggL_law_X9_say
set_option maxRecDepth 20000 in
theorem ggL_law_X10_say : GoodIn wsL_law wsX10_say := goodIn_r _ [550, 114, 178, 179, 5, 180, 551, 552, 553, 554, 555, 556, 557, 699, 700, 701, 702, 703, 704, 705, 706, 707, 708, 709, 710, 711, 712, 713] (by decide +kernel) (by decide +kernel)
set_option maxRecDepth 20000 in
theorem gL_law_X10_say : GoodIn wsL_law (wsV RL 63 RX10 yX10_say wsX10_say) := goodIn_app (goodIn_of _ (by decide +kernel)) ggL_law_X10_say
set_option maxRecDepth 20000 in
theorem ggL_law_X9_field : GoodIn wsL_law wsX9_field := goodIn_r _ [561, 15, 525, 526, 527, 24, 528, 490, 148, 149, 2, 150, 562, 563, 564, 565, 58, 694, 695, 696, 697, 698, 714, 715, 723, 724, 725, 726, 727, 728, 729, 730] (by decide +kernel) (by decide +kernel)
set_option maxRecDepth 20000 in
theorem gL_law_X9_field : GoodIn wsL_law (wsV RL 64 RX9 yX9_field wsX9_field) := goodIn_app (goodIn_of _ (by decide +kernel)) ggL_law_X9_field
set_option maxRecDepth 20000 in
theorem ggL_law_X10_field : GoodIn wsL_law wsX10_field := goodIn_r _ [569, 114, 178, 179, 5, 180, 699, 700, 701, 702, 703, 704, 705, 706, 707, 708, 709, 710, 711, 712, 713] (by decide +kernel) (by decide +kernel)
set_option maxRecDepth 20000 in
theorem gL_law_X10_field : GoodIn wsL_law (wsV RL 67 RX10 yX10_field wsX10_field) := goodIn_app (goodIn_of _ (by decide +kernel)) ggL_law_X10_field
set_option maxRecDepth 20000 in
theorem ggL_law_X9_ran : GoodIn wsL_law wsX9_ran := goodIn_r _ [573, 15, 525, 526, 527, 24, 528, 490, 574, 575, 576, 577, 495, 578, 579, 580, 581, 496, 582, 583, 584, 585, 497, 249, 250, 2, 251, 694, 695, 696, 697, 698, 714, 715, 723, 724, 725, 726, 727, 728, 729, 730] (by decide +kernel) (by decide +kernel)
set_option maxRecDepth 20000 in
theorem gL_law_X9_ran : GoodIn wsL_law (wsV RL 68 RX9 yX9_ran wsX9_ran) := goodIn_app (goodIn_of _ (by decide +kernel)) ggL_law_X9_ran
set_option maxRecDepth 20000 in
theorem ggL_law_X10_ran : GoodIn wsL_law wsX10_ran := goodIn_r _ [589, 114, 178, 179, 5, 180, 699, 700, 701, 702, 703, 704, 705, 706, 707, 708, 709, 710, 711, 712, 713] (by decide +kernel) (by decide +kernel)
set_option maxRecDepth 20000 in
theorem gL_law_X10_ran : GoodIn wsL_law (wsV RL 71 RX10 yX10_ran wsX10_ran) := goodIn_app (goodIn_of _ (by decide +kernel)) ggL_law_X10_ran
set_option maxRecDepth 20000 in
theorem ggL_law_X9_held : GoodIn wsL_law wsX9_held := goodIn_r _ [593, 20, 594, 595, 596, 2, 597, 15, 25, 598, 156, 157, 31, 158, 138, 148, 149, 150, 383, 384, 385, 19, 386, 167, 82, 91, 88, 387, 388, 389, 81, 390, 391, 392, 101, 393, 394, 395, 396, 99, 100, 98, 397, 274, 275, 276, 398, 236, 237, 238, 399, 400, 401, 402, 97, 403, 202, 203, 204, 39, 404, 210, 211, 212, 42, 218, 219, 405, 214, 215, 216, 40, 406, 407, 408, 409, 95, 96, 410, 411, 412, 48, 413, 62, 63, 414, 415, 416, 417, 418, 419, 102, 420, 421, 422, 423, 424, 425, 245, 426, 427, 428, 429, 430, 431, 432, 433, 434, 482, 483, 484, 485, 264, 265, 266, 267, 168, 86, 90, 268, 269, 270, 85, 271, 108, 272, 109, 273, 277, 278, 279, 52, 280, 67, 68, 281, 282, 283, 284, 285, 286, 287, 107, 288, 289, 290, 291, 56, 292, 74, 75, 293, 294, 295, 296, 206, 207, 208, 41, 297, 298, 299, 300, 301, 70, 69, 302, 303, 304, 305, 221, 222, 306, 307, 308, 309, 310, 311, 312, 313, 314, 315, 316, 317, 318, 319, 320, 321, 322, 323, 324, 325, 326, 327, 328, 329, 491, 492, 493, 24, 494, 49, 53, 57, 58, 490, 495, 496, 497, 498, 499, 500, 501, 502, 503, 504, 505, 506, 507, 508, 509, 510, 511, 512, 201, 599, 600, 601, 602, 213, 205, 529, 530, 531, 532, 533, 471, 472, 473, 534, 535, 536, 537, 538, 331, 332, 333, 539, 540, 541, 542, 543, 544, 372, 373, 374, 545, 546, 467, 468, 469, 209, 217, 562, 563, 564, 565, 220, 694, 695, 696, 697, 698, 714, 715, 731, 732, 733, 734, 735, 716, 717, 718, 719, 720, 721, 722, 746, 747, 748, 749, 750, 751, 752, 753, 754, 755, 736, 737, 738, 756, 757, 758, 739, 740, 741, 742, 743, 744, 745, 723, 724, 725, 726, 727, 728, 729, 730] (by decide +kernel) (by decide +kernel)
set_option maxRecDepth 20000 in
theorem gL_law_X9_held : GoodIn wsL_law (wsV RL 72 RX9 yX9_held wsX9_held) := goodIn_app (goodIn_of _ (by decide +kernel)) ggL_law_X9_held
set_option maxRecDepth 20000 in
theorem ggL_law_X10_held : GoodIn wsL_law wsX10_held := goodIn_r _ [606, 607, 608, 609, 5, 610, 120, 174, 175, 176, 177, 114, 178, 179, 180, 443, 444, 445, 446, 121, 447, 448, 449, 450, 451, 118, 119, 181, 182, 183, 184, 452, 453, 454, 455, 456, 457, 122, 123, 124, 125, 227, 228, 229, 230, 458, 459, 460, 461, 517, 518, 519, 520, 338, 339, 340, 341, 117, 342, 343, 344, 345, 346, 347, 348, 349, 350, 351, 352, 353, 354, 355, 356, 357, 358, 359, 360, 361, 362, 363, 364, 365, 366, 611, 612, 613, 614, 615, 616, 617, 618, 555, 556, 557, 619, 620, 621, 699, 700, 701, 702, 703, 704, 705, 706, 707, 708, 709, 710, 711, 712, 713] (by decide +kernel) (by decide +kernel)
set_option maxRecDepth 20000 in
theorem gL_law_X10_held : GoodIn wsL_law (wsV RL 75 RX10 yX10_held wsX10_held) := goodIn_app (goodIn_of _ (by decide +kernel)) ggL_law_X10_held
set_option maxRecDepth 20000 in
theorem ggL_law_X9_fresh : GoodIn wsL_law wsX9_fresh := goodIn_r _ [625, 15, 21, 598, 156, 157, 31, 158, 138, 626, 627, 628, 19, 629, 91, 630, 164, 165, 166, 167, 168, 594, 595, 596, 2, 597, 25, 148, 149, 150, 383, 384, 385, 386, 82, 88, 387, 388, 389, 81, 390, 391, 392, 101, 393, 394, 395, 396, 99, 100, 98, 397, 274, 275, 276, 398, 236, 237, 238, 399, 400, 401, 402, 97, 403, 202, 203, 204, 39, 404, 210, 211, 212, 42, 218, 219, 405, 214, 215, 216, 40, 406, 407, 408, 409, 95, 96, 410, 411, 412, 48, 413, 62, 63, 414, 415, 416, 417, 418, 419, 102, 420, 421, 422, 423, 424, 425, 245, 426, 427, 428, 429, 430, 431, 432, 433, 434, 482, 483, 484, 485, 264, 265, 266, 267, 86, 90, 268, 269, 270, 85, 271, 108, 272, 109, 273, 277, 278, 279, 52, 280, 67, 68, 281, 282, 283, 284, 285, 286, 287, 107, 288, 289, 290, 291, 56, 292, 74, 75, 293, 294, 295, 296, 206, 207, 208, 41, 297, 298, 299, 300, 301, 70, 69, 302, 303, 304, 305, 221, 222, 306, 307, 308, 309, 310, 311, 312, 313, 314, 315, 316, 317, 318, 319, 320, 321, 322, 323, 324, 325, 326, 327, 328, 329, 491, 492, 493, 24, 494, 49, 53, 57, 58, 490, 495, 496, 497, 498, 499, 500, 501, 502, 503, 504, 505, 506, 507, 508, 509, 510, 511, 512, 201, 599, 600, 601, 602, 213, 205, 529, 530, 531, 532, 533, 471, 472, 473, 534, 535, 536, 537, 538, 331, 332, 333, 539, 540, 541, 542, 543, 544, 372, 373, 374, 545, 546, 467, 468, 469, 209, 217, 562, 563, 564, 565, 220, 694, 695, 696, 697, 698, 714, 715, 731, 732, 733, 734, 735, 716, 717, 718, 719, 720, 721, 722, 746, 747, 748, 749, 750, 751, 752, 753, 754, 755, 736, 737, 738, 756, 757, 758, 739, 740, 741, 742, 743, 744, 745, 723, 724, 725, 726, 727, 728, 729, 730] (by decide +kernel) (by decide +kernel)
set_option maxRecDepth 20000 in
theorem gL_law_X9_fresh : GoodIn wsL_law (wsV RL 76 RX9 yX9_fresh wsX9_fresh) := goodIn_app (goodIn_of _ (by decide +kernel)) ggL_law_X9_fresh
set_option maxRecDepth 20000 in
theorem ggL_law_X10_fresh : GoodIn wsL_law wsX10_fresh := goodIn_r _ [634, 607, 608, 609, 5, 610, 120, 174, 175, 176, 177, 114, 178, 179, 180, 443, 444, 445, 446, 121, 447, 448, 449, 450, 451, 118, 119, 181, 182, 183, 184, 452, 453, 454, 455, 456, 457, 122, 123, 124, 125, 227, 228, 229, 230, 458, 459, 460, 461, 517, 518, 519, 520, 338, 339, 340, 341, 117, 342, 343, 344, 345, 346, 347, 348, 349, 350, 351, 352, 353, 354, 355, 356, 357, 358, 359, 360, 361, 362, 363, 364, 365, 366, 611, 612, 613, 614, 615, 616, 617, 618, 555, 556, 557, 619, 620, 621, 699, 700, 701, 702, 703, 704, 705, 706, 707, 708, 709, 710, 711, 712, 713] (by decide +kernel) (by decide +kernel)
set_option maxRecDepth 20000 in
theorem gL_law_X10_fresh : GoodIn wsL_law (wsV RL 79 RX10 yX10_fresh wsX10_fresh) := goodIn_app (goodIn_of _ (by decide +kernel)) ggL_law_X10_fresh
set_option maxRecDepth 20000 in
theorem ggL_law_X9_count : GoodIn wsL_law wsX9_count := goodIn_r _ [638, 15, 20, 235, 236, 237, 31, 238, 138, 639, 640, 641, 642, 39, 643, 644, 645, 646, 247, 214, 215, 216, 40, 264, 265, 266, 19, 267, 168, 86, 91, 90, 268, 269, 270, 85, 271, 108, 272, 109, 273, 274, 275, 276, 277, 278, 279, 52, 280, 67, 68, 281, 282, 283, 284, 285, 286, 287, 107, 288, 289, 290, 291, 56, 292, 74, 75, 293, 294, 202, 203, 204, 295, 296, 206, 207, 208, 41, 297, 210, 211, 212, 42, 298, 299, 300, 301, 70, 69, 302, 303, 304, 305, 221, 2, 222, 306, 307, 308, 309, 310, 311, 312, 313, 314, 315, 316, 317, 318, 319, 320, 321, 322, 323, 324, 325, 326, 327, 328, 329, 647, 648, 649, 650, 694, 695, 696, 697, 698, 714, 715, 731, 732, 733, 734, 735, 716, 717, 718, 719, 720, 721, 722, 756, 757, 758, 739, 740, 741, 742, 743, 744, 745] (by decide +kernel) (by decide +kernel)
set_option maxRecDepth 20000 in
theorem gL_law_X9_count : GoodIn wsL_law (wsV RL 80 RX9 yX9_count wsX9_count) := goodIn_app (goodIn_of _ (by decide +kernel)) ggL_law_X9_count
set_option maxRecDepth 20000 in
theorem ggL_law_X10_count : GoodIn wsL_law wsX10_count := goodIn_r _ [654, 114, 181, 182, 183, 5, 184, 227, 228, 229, 230, 655, 656, 657, 658, 178, 179, 180, 699, 700, 701, 702, 703, 704, 705, 706, 707, 708, 709, 710, 711, 712, 713] (by decide +kernel) (by decide +kernel)
set_option maxRecDepth 20000 in
theorem gL_law_X10_count : GoodIn wsL_law (wsV RL 83 RX10 yX10_count wsX10_count) := goodIn_app (goodIn_of _ (by decide +kernel)) ggL_law_X10_count
set_option maxRecDepth 20000 in
theorem ggL_law_X9_image : GoodIn wsL_law wsX9_image := goodIn_r _ [662, 16, 12, 13, 14, 15, 148, 149, 2, 150, 26, 27, 28, 10, 11, 29, 30, 31, 32, 33, 23, 24, 34, 35, 36, 37, 38, 39, 40, 41, 42, 43, 44, 45, 46, 47, 48, 49, 50, 51, 52, 53, 54, 55, 56, 57, 58, 59, 60, 61, 62, 63, 64, 65, 66, 67, 68, 69, 70, 71, 72, 73, 74, 75, 663, 664, 665, 666, 667, 668, 669, 670, 671, 503, 504, 505, 138, 672, 673, 674, 675, 676, 490, 495, 496, 497, 498, 499, 500, 501, 502, 414, 506, 507, 508, 509, 510, 281, 677, 678, 679, 680, 681, 694, 695, 696, 697, 698, 714, 715, 731, 732, 733, 734, 735, 723, 724, 725, 726, 727, 728, 729, 730, 736, 737, 738, 739, 740, 741, 742, 743, 744, 745] (by decide +kernel) (by decide +kernel)
set_option maxRecDepth 20000 in
theorem gL_law_X9_image : GoodIn wsL_law (wsV RL 84 RX9 yX9_image wsX9_image) := goodIn_app (goodIn_of _ (by decide +kernel)) ggL_law_X9_image
set_option maxRecDepth 20000 in
theorem ggL_law_X10_image : GoodIn wsL_law wsX10_image := goodIn_r _ [685, 116, 114, 178, 179, 5, 180, 699, 700, 701, 702, 703, 704, 705, 706, 707, 708, 709, 710, 711, 712, 713] (by decide +kernel) (by decide +kernel)
set_option maxRecDepth 20000 in
theorem gL_law_X10_image : GoodIn wsL_law (wsV RL 88 RX10 yX10_image wsX10_image) := goodIn_app (goodIn_of _ (by decide +kernel)) ggL_law_X10_image
set_option maxRecDepth 20000 in
theorem ggL_law_X9_again : GoodIn wsL_law wsX9_again := goodIn_r _ [689, 16, 15, 148, 149, 2, 150, 663, 664, 665, 14, 666, 32, 34, 667, 668, 669, 31, 670, 39, 671, 503, 504, 505, 40, 41, 42, 138, 672, 673, 674, 24, 675, 49, 53, 57, 58, 676, 490, 495, 496, 497, 498, 499, 500, 48, 501, 62, 502, 63, 414, 506, 507, 508, 52, 509, 67, 510, 68, 69, 70, 281, 677, 678, 679, 56, 680, 74, 681, 75, 159, 160, 161, 162, 20, 21, 163, 164, 165, 19, 166, 167, 168, 694, 695, 696, 697, 698, 714, 715, 731, 732, 733, 734, 735, 723, 724, 725, 726, 727, 728, 729, 730, 736, 737, 738, 739, 740, 741, 742, 743, 744, 745, 716, 717, 718, 719, 720, 721, 722] (by decide +kernel) (by decide +kernel)
set_option maxRecDepth 20000 in
theorem gL_law_X9_again : GoodIn wsL_law (wsV RL 89 RX9 yX9_again wsX9_again) := goodIn_app (goodIn_of _ (by decide +kernel)) ggL_law_X9_again
set_option maxRecDepth 20000 in
theorem ggL_law_X10_again : GoodIn wsL_law wsX10_again := goodIn_r _ [693, 116, 114, 178, 179, 5, 180, 699, 700, 701, 702, 703, 704, 705, 706, 707, 708, 709, 710, 711, 712, 713] (by decide +kernel) (by decide +kernel)
set_option maxRecDepth 20000 in
theorem gL_law_X10_again : GoodIn wsL_law (wsV RL 92 RX10 yX10_again wsX10_again) := goodIn_app (goodIn_of _ (by decide +kernel)) ggL_law_X10_again
theorem dL_law_0 : decode cL_law 0 = .ok (.new 7, 3) := by decide +kernel
theorem dL_law_3 : decode cL_law 3 = .ok (.dup, 1) := by decide +kernel
theorem dL_law_4 : decode cL_law 4 = .ok (.invokespecial 9, 3) := by decide +kernel
theorem dL_law_7 : decode cL_law 7 = .ok (.astore_n 1, 1) := by decide +kernel
theorem dL_law_8 : decode cL_law 8 = .ok (.new 10, 3) := by decide +kernel
theorem dL_law_11 : decode cL_law 11 = .ok (.dup, 1) := by decide +kernel
theorem dL_law_12 : decode cL_law 12 = .ok (.invokespecial 12, 3) := by decide +kernel
theorem dL_law_15 : decode cL_law 15 = .ok (.astore_n 2, 1) := by decide +kernel
theorem dL_law_16 : decode cL_law 16 = .ok (.iconst 0, 1) := by decide +kernel
theorem dL_law_17 : decode cL_law 17 = .ok (.istore_n 3, 1) := by decide +kernel
theorem dL_law_18 : decode cL_law 18 = .ok (.iload_n 3, 1) := by decide +kernel
theorem dL_law_19 : decode cL_law 19 = .ok (.aload_n 0, 1) := by decide +kernel
theorem dL_law_20 : decode cL_law 20 = .ok (.arraylength, 1) := by decide +kernel
theorem dL_law_21 : decode cL_law 21 = .ok (.iconst 5, 1) := by decide +kernel
theorem dL_law_22 : decode cL_law 22 = .ok (.isub, 1) := by decide +kernel
theorem dL_law_23 : decode cL_law 23 = .ok (.if_icmp .gt 617, 3) := by decide +kernel
theorem dL_law_26 : decode cL_law 26 = .ok (.aload_n 0, 1) := by decide +kernel
theorem dL_law_27 : decode cL_law 27 = .ok (.iload_n 3, 1) := by decide +kernel
theorem dL_law_28 : decode cL_law 28 = .ok (.iaload, 1) := by decide +kernel
theorem dL_law_29 : decode cL_law 29 = .ok (.bipush 31, 2) := by decide +kernel
theorem dL_law_31 : decode cL_law 31 = .ok (.iand, 1) := by decide +kernel
theorem dL_law_32 : decode cL_law 32 = .ok (.tableswitch 602 0 17 #[88, 101, 154, 187, 230, 253, 286, 319, 332, 375, 388, 421, 444, 467, 500, 533, 556, 579], 88) := by decide +kernel
theorem dL_law_120 : decode cL_law 120 = .ok (.aload_n 1, 1) := by decide +kernel
theorem dL_law_121 : decode cL_law 121 = .ok (.invokevirtual 13, 3) := by decide +kernel
theorem dL_law_124 : decode cL_law 124 = .ok (.aload_n 2, 1) := by decide +kernel
theorem dL_law_125 : decode cL_law 125 = .ok (.invokevirtual 17, 3) := by decide +kernel
theorem dL_law_128 : decode cL_law 128 = .ok (.if_icmp .eq 506, 3) := by decide +kernel
theorem dL_law_131 : decode cL_law 131 = .ok (.iconst 0, 1) := by decide +kernel
theorem dL_law_132 : decode cL_law 132 = .ok (.ireturn, 1) := by decide +kernel
theorem dL_law_133 : decode cL_law 133 = .ok (.aload_n 1, 1) := by decide +kernel
theorem dL_law_134 : decode cL_law 134 = .ok (.aload_n 0, 1) := by decide +kernel
theorem dL_law_135 : decode cL_law 135 = .ok (.iload_n 3, 1) := by decide +kernel
theorem dL_law_136 : decode cL_law 136 = .ok (.iconst 1, 1) := by decide +kernel
theorem dL_law_137 : decode cL_law 137 = .ok (.iadd, 1) := by decide +kernel
theorem dL_law_138 : decode cL_law 138 = .ok (.iaload, 1) := by decide +kernel
theorem dL_law_139 : decode cL_law 139 = .ok (.aload_n 0, 1) := by decide +kernel
theorem dL_law_140 : decode cL_law 140 = .ok (.iload_n 3, 1) := by decide +kernel
theorem dL_law_141 : decode cL_law 141 = .ok (.iconst 2, 1) := by decide +kernel
theorem dL_law_142 : decode cL_law 142 = .ok (.iadd, 1) := by decide +kernel
theorem dL_law_143 : decode cL_law 143 = .ok (.iaload, 1) := by decide +kernel
theorem dL_law_144 : decode cL_law 144 = .ok (.aload_n 0, 1) := by decide +kernel
theorem dL_law_145 : decode cL_law 145 = .ok (.iload_n 3, 1) := by decide +kernel
theorem dL_law_146 : decode cL_law 146 = .ok (.iconst 3, 1) := by decide +kernel
theorem dL_law_147 : decode cL_law 147 = .ok (.iadd, 1) := by decide +kernel
theorem dL_law_148 : decode cL_law 148 = .ok (.iaload, 1) := by decide +kernel
theorem dL_law_149 : decode cL_law 149 = .ok (.aload_n 0, 1) := by decide +kernel
theorem dL_law_150 : decode cL_law 150 = .ok (.iload_n 3, 1) := by decide +kernel
theorem dL_law_151 : decode cL_law 151 = .ok (.iconst 4, 1) := by decide +kernel
theorem dL_law_152 : decode cL_law 152 = .ok (.iadd, 1) := by decide +kernel
theorem dL_law_153 : decode cL_law 153 = .ok (.iaload, 1) := by decide +kernel
theorem dL_law_154 : decode cL_law 154 = .ok (.invokevirtual 18, 3) := by decide +kernel
theorem dL_law_157 : decode cL_law 157 = .ok (.aload_n 2, 1) := by decide +kernel
theorem dL_law_158 : decode cL_law 158 = .ok (.aload_n 0, 1) := by decide +kernel
theorem dL_law_159 : decode cL_law 159 = .ok (.iload_n 3, 1) := by decide +kernel
theorem dL_law_160 : decode cL_law 160 = .ok (.iconst 1, 1) := by decide +kernel
theorem dL_law_161 : decode cL_law 161 = .ok (.iadd, 1) := by decide +kernel
theorem dL_law_162 : decode cL_law 162 = .ok (.iaload, 1) := by decide +kernel
theorem dL_law_163 : decode cL_law 163 = .ok (.aload_n 0, 1) := by decide +kernel
theorem dL_law_164 : decode cL_law 164 = .ok (.iload_n 3, 1) := by decide +kernel
theorem dL_law_165 : decode cL_law 165 = .ok (.iconst 2, 1) := by decide +kernel
theorem dL_law_166 : decode cL_law 166 = .ok (.iadd, 1) := by decide +kernel
theorem dL_law_167 : decode cL_law 167 = .ok (.iaload, 1) := by decide +kernel
theorem dL_law_168 : decode cL_law 168 = .ok (.aload_n 0, 1) := by decide +kernel
theorem dL_law_169 : decode cL_law 169 = .ok (.iload_n 3, 1) := by decide +kernel
theorem dL_law_170 : decode cL_law 170 = .ok (.iconst 3, 1) := by decide +kernel
theorem dL_law_171 : decode cL_law 171 = .ok (.iadd, 1) := by decide +kernel
theorem dL_law_172 : decode cL_law 172 = .ok (.iaload, 1) := by decide +kernel
theorem dL_law_173 : decode cL_law 173 = .ok (.aload_n 0, 1) := by decide +kernel
theorem dL_law_174 : decode cL_law 174 = .ok (.iload_n 3, 1) := by decide +kernel
theorem dL_law_175 : decode cL_law 175 = .ok (.iconst 4, 1) := by decide +kernel
theorem dL_law_176 : decode cL_law 176 = .ok (.iadd, 1) := by decide +kernel
theorem dL_law_177 : decode cL_law 177 = .ok (.iaload, 1) := by decide +kernel
theorem dL_law_178 : decode cL_law 178 = .ok (.invokevirtual 22, 3) := by decide +kernel
theorem dL_law_181 : decode cL_law 181 = .ok (.if_icmp .eq 453, 3) := by decide +kernel
theorem dL_law_184 : decode cL_law 184 = .ok (.iconst 0, 1) := by decide +kernel
theorem dL_law_185 : decode cL_law 185 = .ok (.ireturn, 1) := by decide +kernel
theorem dL_law_186 : decode cL_law 186 = .ok (.aload_n 1, 1) := by decide +kernel
theorem dL_law_187 : decode cL_law 187 = .ok (.aload_n 0, 1) := by decide +kernel
theorem dL_law_188 : decode cL_law 188 = .ok (.iload_n 3, 1) := by decide +kernel
theorem dL_law_189 : decode cL_law 189 = .ok (.iconst 1, 1) := by decide +kernel
theorem dL_law_190 : decode cL_law 190 = .ok (.iadd, 1) := by decide +kernel
theorem dL_law_191 : decode cL_law 191 = .ok (.iaload, 1) := by decide +kernel
theorem dL_law_192 : decode cL_law 192 = .ok (.aload_n 0, 1) := by decide +kernel
theorem dL_law_193 : decode cL_law 193 = .ok (.iload_n 3, 1) := by decide +kernel
theorem dL_law_194 : decode cL_law 194 = .ok (.iconst 2, 1) := by decide +kernel
theorem dL_law_195 : decode cL_law 195 = .ok (.iadd, 1) := by decide +kernel
theorem dL_law_196 : decode cL_law 196 = .ok (.iaload, 1) := by decide +kernel
theorem dL_law_197 : decode cL_law 197 = .ok (.invokevirtual 23, 3) := by decide +kernel
theorem dL_law_200 : decode cL_law 200 = .ok (.aload_n 2, 1) := by decide +kernel
theorem dL_law_201 : decode cL_law 201 = .ok (.aload_n 0, 1) := by decide +kernel
theorem dL_law_202 : decode cL_law 202 = .ok (.iload_n 3, 1) := by decide +kernel
theorem dL_law_203 : decode cL_law 203 = .ok (.iconst 1, 1) := by decide +kernel
theorem dL_law_204 : decode cL_law 204 = .ok (.iadd, 1) := by decide +kernel
theorem dL_law_205 : decode cL_law 205 = .ok (.iaload, 1) := by decide +kernel
theorem dL_law_206 : decode cL_law 206 = .ok (.aload_n 0, 1) := by decide +kernel
theorem dL_law_207 : decode cL_law 207 = .ok (.iload_n 3, 1) := by decide +kernel
theorem dL_law_208 : decode cL_law 208 = .ok (.iconst 2, 1) := by decide +kernel
theorem dL_law_209 : decode cL_law 209 = .ok (.iadd, 1) := by decide +kernel
theorem dL_law_210 : decode cL_law 210 = .ok (.iaload, 1) := by decide +kernel
theorem dL_law_211 : decode cL_law 211 = .ok (.invokevirtual 27, 3) := by decide +kernel
theorem dL_law_214 : decode cL_law 214 = .ok (.if_icmp .eq 420, 3) := by decide +kernel
theorem dL_law_217 : decode cL_law 217 = .ok (.iconst 0, 1) := by decide +kernel
theorem dL_law_218 : decode cL_law 218 = .ok (.ireturn, 1) := by decide +kernel
theorem dL_law_219 : decode cL_law 219 = .ok (.aload_n 1, 1) := by decide +kernel
theorem dL_law_220 : decode cL_law 220 = .ok (.aload_n 0, 1) := by decide +kernel
theorem dL_law_221 : decode cL_law 221 = .ok (.iload_n 3, 1) := by decide +kernel
theorem dL_law_222 : decode cL_law 222 = .ok (.iconst 1, 1) := by decide +kernel
theorem dL_law_223 : decode cL_law 223 = .ok (.iadd, 1) := by decide +kernel
theorem dL_law_224 : decode cL_law 224 = .ok (.iaload, 1) := by decide +kernel
theorem dL_law_225 : decode cL_law 225 = .ok (.aload_n 0, 1) := by decide +kernel
theorem dL_law_226 : decode cL_law 226 = .ok (.iload_n 3, 1) := by decide +kernel
theorem dL_law_227 : decode cL_law 227 = .ok (.iconst 2, 1) := by decide +kernel
theorem dL_law_228 : decode cL_law 228 = .ok (.iadd, 1) := by decide +kernel
theorem dL_law_229 : decode cL_law 229 = .ok (.iaload, 1) := by decide +kernel
theorem dL_law_230 : decode cL_law 230 = .ok (.aload_n 0, 1) := by decide +kernel
theorem dL_law_231 : decode cL_law 231 = .ok (.iload_n 3, 1) := by decide +kernel
theorem dL_law_232 : decode cL_law 232 = .ok (.iconst 3, 1) := by decide +kernel
theorem dL_law_233 : decode cL_law 233 = .ok (.iadd, 1) := by decide +kernel
theorem dL_law_234 : decode cL_law 234 = .ok (.iaload, 1) := by decide +kernel
theorem dL_law_235 : decode cL_law 235 = .ok (.invokevirtual 28, 3) := by decide +kernel
theorem dL_law_238 : decode cL_law 238 = .ok (.aload_n 2, 1) := by decide +kernel
theorem dL_law_239 : decode cL_law 239 = .ok (.aload_n 0, 1) := by decide +kernel
theorem dL_law_240 : decode cL_law 240 = .ok (.iload_n 3, 1) := by decide +kernel
theorem dL_law_241 : decode cL_law 241 = .ok (.iconst 1, 1) := by decide +kernel
theorem dL_law_242 : decode cL_law 242 = .ok (.iadd, 1) := by decide +kernel
theorem dL_law_243 : decode cL_law 243 = .ok (.iaload, 1) := by decide +kernel
theorem dL_law_244 : decode cL_law 244 = .ok (.aload_n 0, 1) := by decide +kernel
theorem dL_law_245 : decode cL_law 245 = .ok (.iload_n 3, 1) := by decide +kernel
theorem dL_law_246 : decode cL_law 246 = .ok (.iconst 2, 1) := by decide +kernel
theorem dL_law_247 : decode cL_law 247 = .ok (.iadd, 1) := by decide +kernel
theorem dL_law_248 : decode cL_law 248 = .ok (.iaload, 1) := by decide +kernel
theorem dL_law_249 : decode cL_law 249 = .ok (.aload_n 0, 1) := by decide +kernel
theorem dL_law_250 : decode cL_law 250 = .ok (.iload_n 3, 1) := by decide +kernel
theorem dL_law_251 : decode cL_law 251 = .ok (.iconst 3, 1) := by decide +kernel
theorem dL_law_252 : decode cL_law 252 = .ok (.iadd, 1) := by decide +kernel
theorem dL_law_253 : decode cL_law 253 = .ok (.iaload, 1) := by decide +kernel
theorem dL_law_254 : decode cL_law 254 = .ok (.invokevirtual 32, 3) := by decide +kernel
theorem dL_law_257 : decode cL_law 257 = .ok (.if_icmp .eq 377, 3) := by decide +kernel
theorem dL_law_260 : decode cL_law 260 = .ok (.iconst 0, 1) := by decide +kernel
theorem dL_law_261 : decode cL_law 261 = .ok (.ireturn, 1) := by decide +kernel
theorem dL_law_262 : decode cL_law 262 = .ok (.aload_n 1, 1) := by decide +kernel
theorem dL_law_263 : decode cL_law 263 = .ok (.aload_n 0, 1) := by decide +kernel
theorem dL_law_264 : decode cL_law 264 = .ok (.iload_n 3, 1) := by decide +kernel
theorem dL_law_265 : decode cL_law 265 = .ok (.iconst 1, 1) := by decide +kernel
theorem dL_law_266 : decode cL_law 266 = .ok (.iadd, 1) := by decide +kernel
theorem dL_law_267 : decode cL_law 267 = .ok (.iaload, 1) := by decide +kernel
theorem dL_law_268 : decode cL_law 268 = .ok (.invokevirtual 33, 3) := by decide +kernel
theorem dL_law_271 : decode cL_law 271 = .ok (.aload_n 2, 1) := by decide +kernel
theorem dL_law_272 : decode cL_law 272 = .ok (.aload_n 0, 1) := by decide +kernel
theorem dL_law_273 : decode cL_law 273 = .ok (.iload_n 3, 1) := by decide +kernel
theorem dL_law_274 : decode cL_law 274 = .ok (.iconst 1, 1) := by decide +kernel
theorem dL_law_275 : decode cL_law 275 = .ok (.iadd, 1) := by decide +kernel
theorem dL_law_276 : decode cL_law 276 = .ok (.iaload, 1) := by decide +kernel
theorem dL_law_277 : decode cL_law 277 = .ok (.invokevirtual 37, 3) := by decide +kernel
theorem dL_law_280 : decode cL_law 280 = .ok (.if_icmp .eq 354, 3) := by decide +kernel
theorem dL_law_283 : decode cL_law 283 = .ok (.iconst 0, 1) := by decide +kernel
theorem dL_law_284 : decode cL_law 284 = .ok (.ireturn, 1) := by decide +kernel
theorem dL_law_285 : decode cL_law 285 = .ok (.aload_n 1, 1) := by decide +kernel
theorem dL_law_286 : decode cL_law 286 = .ok (.aload_n 0, 1) := by decide +kernel
theorem dL_law_287 : decode cL_law 287 = .ok (.iload_n 3, 1) := by decide +kernel
theorem dL_law_288 : decode cL_law 288 = .ok (.iconst 1, 1) := by decide +kernel
theorem dL_law_289 : decode cL_law 289 = .ok (.iadd, 1) := by decide +kernel
theorem dL_law_290 : decode cL_law 290 = .ok (.iaload, 1) := by decide +kernel
theorem dL_law_291 : decode cL_law 291 = .ok (.aload_n 0, 1) := by decide +kernel
theorem dL_law_292 : decode cL_law 292 = .ok (.iload_n 3, 1) := by decide +kernel
theorem dL_law_293 : decode cL_law 293 = .ok (.iconst 2, 1) := by decide +kernel
theorem dL_law_294 : decode cL_law 294 = .ok (.iadd, 1) := by decide +kernel
theorem dL_law_295 : decode cL_law 295 = .ok (.iaload, 1) := by decide +kernel
theorem dL_law_296 : decode cL_law 296 = .ok (.invokevirtual 38, 3) := by decide +kernel
theorem dL_law_299 : decode cL_law 299 = .ok (.aload_n 2, 1) := by decide +kernel
theorem dL_law_300 : decode cL_law 300 = .ok (.aload_n 0, 1) := by decide +kernel
theorem dL_law_301 : decode cL_law 301 = .ok (.iload_n 3, 1) := by decide +kernel
theorem dL_law_302 : decode cL_law 302 = .ok (.iconst 1, 1) := by decide +kernel
theorem dL_law_303 : decode cL_law 303 = .ok (.iadd, 1) := by decide +kernel
theorem dL_law_304 : decode cL_law 304 = .ok (.iaload, 1) := by decide +kernel
theorem dL_law_305 : decode cL_law 305 = .ok (.aload_n 0, 1) := by decide +kernel
theorem dL_law_306 : decode cL_law 306 = .ok (.iload_n 3, 1) := by decide +kernel
theorem dL_law_307 : decode cL_law 307 = .ok (.iconst 2, 1) := by decide +kernel
theorem dL_law_308 : decode cL_law 308 = .ok (.iadd, 1) := by decide +kernel
theorem dL_law_309 : decode cL_law 309 = .ok (.iaload, 1) := by decide +kernel
theorem dL_law_310 : decode cL_law 310 = .ok (.invokevirtual 42, 3) := by decide +kernel
theorem dL_law_313 : decode cL_law 313 = .ok (.if_icmp .eq 321, 3) := by decide +kernel
theorem dL_law_316 : decode cL_law 316 = .ok (.iconst 0, 1) := by decide +kernel
theorem dL_law_317 : decode cL_law 317 = .ok (.ireturn, 1) := by decide +kernel
theorem dL_law_318 : decode cL_law 318 = .ok (.aload_n 1, 1) := by decide +kernel
theorem dL_law_319 : decode cL_law 319 = .ok (.aload_n 0, 1) := by decide +kernel
theorem dL_law_320 : decode cL_law 320 = .ok (.iload_n 3, 1) := by decide +kernel
theorem dL_law_321 : decode cL_law 321 = .ok (.iconst 1, 1) := by decide +kernel
theorem dL_law_322 : decode cL_law 322 = .ok (.iadd, 1) := by decide +kernel
theorem dL_law_323 : decode cL_law 323 = .ok (.iaload, 1) := by decide +kernel
theorem dL_law_324 : decode cL_law 324 = .ok (.aload_n 0, 1) := by decide +kernel
theorem dL_law_325 : decode cL_law 325 = .ok (.iload_n 3, 1) := by decide +kernel
theorem dL_law_326 : decode cL_law 326 = .ok (.iconst 2, 1) := by decide +kernel
theorem dL_law_327 : decode cL_law 327 = .ok (.iadd, 1) := by decide +kernel
theorem dL_law_328 : decode cL_law 328 = .ok (.iaload, 1) := by decide +kernel
theorem dL_law_329 : decode cL_law 329 = .ok (.invokevirtual 43, 3) := by decide +kernel
theorem dL_law_332 : decode cL_law 332 = .ok (.aload_n 2, 1) := by decide +kernel
theorem dL_law_333 : decode cL_law 333 = .ok (.aload_n 0, 1) := by decide +kernel
theorem dL_law_334 : decode cL_law 334 = .ok (.iload_n 3, 1) := by decide +kernel
theorem dL_law_335 : decode cL_law 335 = .ok (.iconst 1, 1) := by decide +kernel
theorem dL_law_336 : decode cL_law 336 = .ok (.iadd, 1) := by decide +kernel
theorem dL_law_337 : decode cL_law 337 = .ok (.iaload, 1) := by decide +kernel
theorem dL_law_338 : decode cL_law 338 = .ok (.aload_n 0, 1) := by decide +kernel
theorem dL_law_339 : decode cL_law 339 = .ok (.iload_n 3, 1) := by decide +kernel
theorem dL_law_340 : decode cL_law 340 = .ok (.iconst 2, 1) := by decide +kernel
theorem dL_law_341 : decode cL_law 341 = .ok (.iadd, 1) := by decide +kernel
theorem dL_law_342 : decode cL_law 342 = .ok (.iaload, 1) := by decide +kernel
theorem dL_law_343 : decode cL_law 343 = .ok (.invokevirtual 46, 3) := by decide +kernel
theorem dL_law_346 : decode cL_law 346 = .ok (.if_icmp .eq 288, 3) := by decide +kernel
theorem dL_law_349 : decode cL_law 349 = .ok (.iconst 0, 1) := by decide +kernel
theorem dL_law_350 : decode cL_law 350 = .ok (.ireturn, 1) := by decide +kernel
theorem dL_law_351 : decode cL_law 351 = .ok (.aload_n 1, 1) := by decide +kernel
theorem dL_law_352 : decode cL_law 352 = .ok (.invokevirtual 47, 3) := by decide +kernel
theorem dL_law_355 : decode cL_law 355 = .ok (.aload_n 2, 1) := by decide +kernel
theorem dL_law_356 : decode cL_law 356 = .ok (.invokevirtual 50, 3) := by decide +kernel
theorem dL_law_359 : decode cL_law 359 = .ok (.if_icmp .eq 275, 3) := by decide +kernel
theorem dL_law_362 : decode cL_law 362 = .ok (.iconst 0, 1) := by decide +kernel
theorem dL_law_363 : decode cL_law 363 = .ok (.ireturn, 1) := by decide +kernel
theorem dL_law_364 : decode cL_law 364 = .ok (.aload_n 1, 1) := by decide +kernel
theorem dL_law_365 : decode cL_law 365 = .ok (.aload_n 0, 1) := by decide +kernel
theorem dL_law_366 : decode cL_law 366 = .ok (.iload_n 3, 1) := by decide +kernel
theorem dL_law_367 : decode cL_law 367 = .ok (.iconst 1, 1) := by decide +kernel
theorem dL_law_368 : decode cL_law 368 = .ok (.iadd, 1) := by decide +kernel
theorem dL_law_369 : decode cL_law 369 = .ok (.iaload, 1) := by decide +kernel
theorem dL_law_370 : decode cL_law 370 = .ok (.aload_n 0, 1) := by decide +kernel
theorem dL_law_371 : decode cL_law 371 = .ok (.iload_n 3, 1) := by decide +kernel
theorem dL_law_372 : decode cL_law 372 = .ok (.iconst 2, 1) := by decide +kernel
theorem dL_law_373 : decode cL_law 373 = .ok (.iadd, 1) := by decide +kernel
theorem dL_law_374 : decode cL_law 374 = .ok (.iaload, 1) := by decide +kernel
theorem dL_law_375 : decode cL_law 375 = .ok (.aload_n 0, 1) := by decide +kernel
theorem dL_law_376 : decode cL_law 376 = .ok (.iload_n 3, 1) := by decide +kernel
theorem dL_law_377 : decode cL_law 377 = .ok (.iconst 3, 1) := by decide +kernel
theorem dL_law_378 : decode cL_law 378 = .ok (.iadd, 1) := by decide +kernel
theorem dL_law_379 : decode cL_law 379 = .ok (.iaload, 1) := by decide +kernel
theorem dL_law_380 : decode cL_law 380 = .ok (.invokevirtual 51, 3) := by decide +kernel
theorem dL_law_383 : decode cL_law 383 = .ok (.aload_n 2, 1) := by decide +kernel
theorem dL_law_384 : decode cL_law 384 = .ok (.aload_n 0, 1) := by decide +kernel
theorem dL_law_385 : decode cL_law 385 = .ok (.iload_n 3, 1) := by decide +kernel
theorem dL_law_386 : decode cL_law 386 = .ok (.iconst 1, 1) := by decide +kernel
theorem dL_law_387 : decode cL_law 387 = .ok (.iadd, 1) := by decide +kernel
theorem dL_law_388 : decode cL_law 388 = .ok (.iaload, 1) := by decide +kernel
theorem dL_law_389 : decode cL_law 389 = .ok (.aload_n 0, 1) := by decide +kernel
theorem dL_law_390 : decode cL_law 390 = .ok (.iload_n 3, 1) := by decide +kernel
theorem dL_law_391 : decode cL_law 391 = .ok (.iconst 2, 1) := by decide +kernel
theorem dL_law_392 : decode cL_law 392 = .ok (.iadd, 1) := by decide +kernel
theorem dL_law_393 : decode cL_law 393 = .ok (.iaload, 1) := by decide +kernel
theorem dL_law_394 : decode cL_law 394 = .ok (.aload_n 0, 1) := by decide +kernel
theorem dL_law_395 : decode cL_law 395 = .ok (.iload_n 3, 1) := by decide +kernel
theorem dL_law_396 : decode cL_law 396 = .ok (.iconst 3, 1) := by decide +kernel
theorem dL_law_397 : decode cL_law 397 = .ok (.iadd, 1) := by decide +kernel
theorem dL_law_398 : decode cL_law 398 = .ok (.iaload, 1) := by decide +kernel
theorem dL_law_399 : decode cL_law 399 = .ok (.invokevirtual 54, 3) := by decide +kernel
theorem dL_law_402 : decode cL_law 402 = .ok (.if_icmp .eq 232, 3) := by decide +kernel
theorem dL_law_405 : decode cL_law 405 = .ok (.iconst 0, 1) := by decide +kernel
theorem dL_law_406 : decode cL_law 406 = .ok (.ireturn, 1) := by decide +kernel
theorem dL_law_407 : decode cL_law 407 = .ok (.aload_n 1, 1) := by decide +kernel
theorem dL_law_408 : decode cL_law 408 = .ok (.invokevirtual 55, 3) := by decide +kernel
theorem dL_law_411 : decode cL_law 411 = .ok (.aload_n 2, 1) := by decide +kernel
theorem dL_law_412 : decode cL_law 412 = .ok (.invokevirtual 59, 3) := by decide +kernel
theorem dL_law_415 : decode cL_law 415 = .ok (.if_icmp .eq 219, 3) := by decide +kernel
theorem dL_law_418 : decode cL_law 418 = .ok (.iconst 0, 1) := by decide +kernel
theorem dL_law_419 : decode cL_law 419 = .ok (.ireturn, 1) := by decide +kernel
theorem dL_law_420 : decode cL_law 420 = .ok (.aload_n 1, 1) := by decide +kernel
theorem dL_law_421 : decode cL_law 421 = .ok (.aload_n 0, 1) := by decide +kernel
theorem dL_law_422 : decode cL_law 422 = .ok (.iload_n 3, 1) := by decide +kernel
theorem dL_law_423 : decode cL_law 423 = .ok (.iconst 1, 1) := by decide +kernel
theorem dL_law_424 : decode cL_law 424 = .ok (.iadd, 1) := by decide +kernel
theorem dL_law_425 : decode cL_law 425 = .ok (.iaload, 1) := by decide +kernel
theorem dL_law_426 : decode cL_law 426 = .ok (.aload_n 0, 1) := by decide +kernel
theorem dL_law_427 : decode cL_law 427 = .ok (.iload_n 3, 1) := by decide +kernel
theorem dL_law_428 : decode cL_law 428 = .ok (.iconst 2, 1) := by decide +kernel
theorem dL_law_429 : decode cL_law 429 = .ok (.iadd, 1) := by decide +kernel
theorem dL_law_430 : decode cL_law 430 = .ok (.iaload, 1) := by decide +kernel
theorem dL_law_431 : decode cL_law 431 = .ok (.invokevirtual 60, 3) := by decide +kernel
theorem dL_law_434 : decode cL_law 434 = .ok (.aload_n 2, 1) := by decide +kernel
theorem dL_law_435 : decode cL_law 435 = .ok (.aload_n 0, 1) := by decide +kernel
theorem dL_law_436 : decode cL_law 436 = .ok (.iload_n 3, 1) := by decide +kernel
theorem dL_law_437 : decode cL_law 437 = .ok (.iconst 1, 1) := by decide +kernel
theorem dL_law_438 : decode cL_law 438 = .ok (.iadd, 1) := by decide +kernel
theorem dL_law_439 : decode cL_law 439 = .ok (.iaload, 1) := by decide +kernel
theorem dL_law_440 : decode cL_law 440 = .ok (.aload_n 0, 1) := by decide +kernel
theorem dL_law_441 : decode cL_law 441 = .ok (.iload_n 3, 1) := by decide +kernel
theorem dL_law_442 : decode cL_law 442 = .ok (.iconst 2, 1) := by decide +kernel
theorem dL_law_443 : decode cL_law 443 = .ok (.iadd, 1) := by decide +kernel
theorem dL_law_444 : decode cL_law 444 = .ok (.iaload, 1) := by decide +kernel
theorem dL_law_445 : decode cL_law 445 = .ok (.invokevirtual 63, 3) := by decide +kernel
theorem dL_law_448 : decode cL_law 448 = .ok (.if_icmp .eq 186, 3) := by decide +kernel
theorem dL_law_451 : decode cL_law 451 = .ok (.iconst 0, 1) := by decide +kernel
theorem dL_law_452 : decode cL_law 452 = .ok (.ireturn, 1) := by decide +kernel
theorem dL_law_453 : decode cL_law 453 = .ok (.aload_n 1, 1) := by decide +kernel
theorem dL_law_454 : decode cL_law 454 = .ok (.aload_n 0, 1) := by decide +kernel
theorem dL_law_455 : decode cL_law 455 = .ok (.iload_n 3, 1) := by decide +kernel
theorem dL_law_456 : decode cL_law 456 = .ok (.iconst 1, 1) := by decide +kernel
theorem dL_law_457 : decode cL_law 457 = .ok (.iadd, 1) := by decide +kernel
theorem dL_law_458 : decode cL_law 458 = .ok (.iaload, 1) := by decide +kernel
theorem dL_law_459 : decode cL_law 459 = .ok (.invokevirtual 64, 3) := by decide +kernel
theorem dL_law_462 : decode cL_law 462 = .ok (.aload_n 2, 1) := by decide +kernel
theorem dL_law_463 : decode cL_law 463 = .ok (.aload_n 0, 1) := by decide +kernel
theorem dL_law_464 : decode cL_law 464 = .ok (.iload_n 3, 1) := by decide +kernel
theorem dL_law_465 : decode cL_law 465 = .ok (.iconst 1, 1) := by decide +kernel
theorem dL_law_466 : decode cL_law 466 = .ok (.iadd, 1) := by decide +kernel
theorem dL_law_467 : decode cL_law 467 = .ok (.iaload, 1) := by decide +kernel
theorem dL_law_468 : decode cL_law 468 = .ok (.invokevirtual 67, 3) := by decide +kernel
theorem dL_law_471 : decode cL_law 471 = .ok (.if_icmp .eq 163, 3) := by decide +kernel
theorem dL_law_474 : decode cL_law 474 = .ok (.iconst 0, 1) := by decide +kernel
theorem dL_law_475 : decode cL_law 475 = .ok (.ireturn, 1) := by decide +kernel
theorem dL_law_476 : decode cL_law 476 = .ok (.aload_n 1, 1) := by decide +kernel
theorem dL_law_477 : decode cL_law 477 = .ok (.aload_n 0, 1) := by decide +kernel
theorem dL_law_478 : decode cL_law 478 = .ok (.iload_n 3, 1) := by decide +kernel
theorem dL_law_479 : decode cL_law 479 = .ok (.iconst 1, 1) := by decide +kernel
theorem dL_law_480 : decode cL_law 480 = .ok (.iadd, 1) := by decide +kernel
theorem dL_law_481 : decode cL_law 481 = .ok (.iaload, 1) := by decide +kernel
theorem dL_law_482 : decode cL_law 482 = .ok (.invokevirtual 68, 3) := by decide +kernel
theorem dL_law_485 : decode cL_law 485 = .ok (.aload_n 2, 1) := by decide +kernel
theorem dL_law_486 : decode cL_law 486 = .ok (.aload_n 0, 1) := by decide +kernel
theorem dL_law_487 : decode cL_law 487 = .ok (.iload_n 3, 1) := by decide +kernel
theorem dL_law_488 : decode cL_law 488 = .ok (.iconst 1, 1) := by decide +kernel
theorem dL_law_489 : decode cL_law 489 = .ok (.iadd, 1) := by decide +kernel
theorem dL_law_490 : decode cL_law 490 = .ok (.iaload, 1) := by decide +kernel
theorem dL_law_491 : decode cL_law 491 = .ok (.invokevirtual 71, 3) := by decide +kernel
theorem dL_law_494 : decode cL_law 494 = .ok (.if_icmp .eq 140, 3) := by decide +kernel
theorem dL_law_497 : decode cL_law 497 = .ok (.iconst 0, 1) := by decide +kernel
theorem dL_law_498 : decode cL_law 498 = .ok (.ireturn, 1) := by decide +kernel
theorem dL_law_499 : decode cL_law 499 = .ok (.aload_n 1, 1) := by decide +kernel
theorem dL_law_500 : decode cL_law 500 = .ok (.aload_n 0, 1) := by decide +kernel
theorem dL_law_501 : decode cL_law 501 = .ok (.iload_n 3, 1) := by decide +kernel
theorem dL_law_502 : decode cL_law 502 = .ok (.iconst 1, 1) := by decide +kernel
theorem dL_law_503 : decode cL_law 503 = .ok (.iadd, 1) := by decide +kernel
theorem dL_law_504 : decode cL_law 504 = .ok (.iaload, 1) := by decide +kernel
theorem dL_law_505 : decode cL_law 505 = .ok (.aload_n 0, 1) := by decide +kernel
theorem dL_law_506 : decode cL_law 506 = .ok (.iload_n 3, 1) := by decide +kernel
theorem dL_law_507 : decode cL_law 507 = .ok (.iconst 2, 1) := by decide +kernel
theorem dL_law_508 : decode cL_law 508 = .ok (.iadd, 1) := by decide +kernel
theorem dL_law_509 : decode cL_law 509 = .ok (.iaload, 1) := by decide +kernel
theorem dL_law_510 : decode cL_law 510 = .ok (.invokevirtual 72, 3) := by decide +kernel
theorem dL_law_513 : decode cL_law 513 = .ok (.aload_n 2, 1) := by decide +kernel
theorem dL_law_514 : decode cL_law 514 = .ok (.aload_n 0, 1) := by decide +kernel
theorem dL_law_515 : decode cL_law 515 = .ok (.iload_n 3, 1) := by decide +kernel
theorem dL_law_516 : decode cL_law 516 = .ok (.iconst 1, 1) := by decide +kernel
theorem dL_law_517 : decode cL_law 517 = .ok (.iadd, 1) := by decide +kernel
theorem dL_law_518 : decode cL_law 518 = .ok (.iaload, 1) := by decide +kernel
theorem dL_law_519 : decode cL_law 519 = .ok (.aload_n 0, 1) := by decide +kernel
theorem dL_law_520 : decode cL_law 520 = .ok (.iload_n 3, 1) := by decide +kernel
theorem dL_law_521 : decode cL_law 521 = .ok (.iconst 2, 1) := by decide +kernel
theorem dL_law_522 : decode cL_law 522 = .ok (.iadd, 1) := by decide +kernel
theorem dL_law_523 : decode cL_law 523 = .ok (.iaload, 1) := by decide +kernel
theorem dL_law_524 : decode cL_law 524 = .ok (.invokevirtual 75, 3) := by decide +kernel
theorem dL_law_527 : decode cL_law 527 = .ok (.if_icmp .eq 107, 3) := by decide +kernel
theorem dL_law_530 : decode cL_law 530 = .ok (.iconst 0, 1) := by decide +kernel
theorem dL_law_531 : decode cL_law 531 = .ok (.ireturn, 1) := by decide +kernel
theorem dL_law_532 : decode cL_law 532 = .ok (.aload_n 1, 1) := by decide +kernel
theorem dL_law_533 : decode cL_law 533 = .ok (.aload_n 0, 1) := by decide +kernel
theorem dL_law_534 : decode cL_law 534 = .ok (.iload_n 3, 1) := by decide +kernel
theorem dL_law_535 : decode cL_law 535 = .ok (.iconst 1, 1) := by decide +kernel
theorem dL_law_536 : decode cL_law 536 = .ok (.iadd, 1) := by decide +kernel
theorem dL_law_537 : decode cL_law 537 = .ok (.iaload, 1) := by decide +kernel
theorem dL_law_538 : decode cL_law 538 = .ok (.aload_n 0, 1) := by decide +kernel
theorem dL_law_539 : decode cL_law 539 = .ok (.iload_n 3, 1) := by decide +kernel
theorem dL_law_540 : decode cL_law 540 = .ok (.iconst 2, 1) := by decide +kernel
theorem dL_law_541 : decode cL_law 541 = .ok (.iadd, 1) := by decide +kernel
theorem dL_law_542 : decode cL_law 542 = .ok (.iaload, 1) := by decide +kernel
theorem dL_law_543 : decode cL_law 543 = .ok (.invokevirtual 76, 3) := by decide +kernel
theorem dL_law_546 : decode cL_law 546 = .ok (.aload_n 2, 1) := by decide +kernel
theorem dL_law_547 : decode cL_law 547 = .ok (.aload_n 0, 1) := by decide +kernel
theorem dL_law_548 : decode cL_law 548 = .ok (.iload_n 3, 1) := by decide +kernel
theorem dL_law_549 : decode cL_law 549 = .ok (.iconst 1, 1) := by decide +kernel
theorem dL_law_550 : decode cL_law 550 = .ok (.iadd, 1) := by decide +kernel
theorem dL_law_551 : decode cL_law 551 = .ok (.iaload, 1) := by decide +kernel
theorem dL_law_552 : decode cL_law 552 = .ok (.aload_n 0, 1) := by decide +kernel
theorem dL_law_553 : decode cL_law 553 = .ok (.iload_n 3, 1) := by decide +kernel
theorem dL_law_554 : decode cL_law 554 = .ok (.iconst 2, 1) := by decide +kernel
theorem dL_law_555 : decode cL_law 555 = .ok (.iadd, 1) := by decide +kernel
theorem dL_law_556 : decode cL_law 556 = .ok (.iaload, 1) := by decide +kernel
theorem dL_law_557 : decode cL_law 557 = .ok (.invokevirtual 79, 3) := by decide +kernel
theorem dL_law_560 : decode cL_law 560 = .ok (.if_icmp .eq 74, 3) := by decide +kernel
theorem dL_law_563 : decode cL_law 563 = .ok (.iconst 0, 1) := by decide +kernel
theorem dL_law_564 : decode cL_law 564 = .ok (.ireturn, 1) := by decide +kernel
theorem dL_law_565 : decode cL_law 565 = .ok (.aload_n 1, 1) := by decide +kernel
theorem dL_law_566 : decode cL_law 566 = .ok (.aload_n 0, 1) := by decide +kernel
theorem dL_law_567 : decode cL_law 567 = .ok (.iload_n 3, 1) := by decide +kernel
theorem dL_law_568 : decode cL_law 568 = .ok (.iconst 1, 1) := by decide +kernel
theorem dL_law_569 : decode cL_law 569 = .ok (.iadd, 1) := by decide +kernel
theorem dL_law_570 : decode cL_law 570 = .ok (.iaload, 1) := by decide +kernel
theorem dL_law_571 : decode cL_law 571 = .ok (.invokevirtual 80, 3) := by decide +kernel
theorem dL_law_574 : decode cL_law 574 = .ok (.aload_n 2, 1) := by decide +kernel
theorem dL_law_575 : decode cL_law 575 = .ok (.aload_n 0, 1) := by decide +kernel
theorem dL_law_576 : decode cL_law 576 = .ok (.iload_n 3, 1) := by decide +kernel
theorem dL_law_577 : decode cL_law 577 = .ok (.iconst 1, 1) := by decide +kernel
theorem dL_law_578 : decode cL_law 578 = .ok (.iadd, 1) := by decide +kernel
theorem dL_law_579 : decode cL_law 579 = .ok (.iaload, 1) := by decide +kernel
theorem dL_law_580 : decode cL_law 580 = .ok (.invokevirtual 83, 3) := by decide +kernel
theorem dL_law_583 : decode cL_law 583 = .ok (.if_icmp .eq 51, 3) := by decide +kernel
theorem dL_law_586 : decode cL_law 586 = .ok (.iconst 0, 1) := by decide +kernel
theorem dL_law_587 : decode cL_law 587 = .ok (.ireturn, 1) := by decide +kernel
theorem dL_law_588 : decode cL_law 588 = .ok (.aload_n 1, 1) := by decide +kernel
theorem dL_law_589 : decode cL_law 589 = .ok (.aload_n 0, 1) := by decide +kernel
theorem dL_law_590 : decode cL_law 590 = .ok (.iload_n 3, 1) := by decide +kernel
theorem dL_law_591 : decode cL_law 591 = .ok (.iconst 1, 1) := by decide +kernel
theorem dL_law_592 : decode cL_law 592 = .ok (.iadd, 1) := by decide +kernel
theorem dL_law_593 : decode cL_law 593 = .ok (.iaload, 1) := by decide +kernel
theorem dL_law_594 : decode cL_law 594 = .ok (.invokevirtual 84, 3) := by decide +kernel
theorem dL_law_597 : decode cL_law 597 = .ok (.aload_n 2, 1) := by decide +kernel
theorem dL_law_598 : decode cL_law 598 = .ok (.aload_n 0, 1) := by decide +kernel
theorem dL_law_599 : decode cL_law 599 = .ok (.iload_n 3, 1) := by decide +kernel
theorem dL_law_600 : decode cL_law 600 = .ok (.iconst 1, 1) := by decide +kernel
theorem dL_law_601 : decode cL_law 601 = .ok (.iadd, 1) := by decide +kernel
theorem dL_law_602 : decode cL_law 602 = .ok (.iaload, 1) := by decide +kernel
theorem dL_law_603 : decode cL_law 603 = .ok (.invokevirtual 88, 3) := by decide +kernel
theorem dL_law_606 : decode cL_law 606 = .ok (.if_icmp .eq 28, 3) := by decide +kernel
theorem dL_law_609 : decode cL_law 609 = .ok (.iconst 0, 1) := by decide +kernel
theorem dL_law_610 : decode cL_law 610 = .ok (.ireturn, 1) := by decide +kernel
theorem dL_law_611 : decode cL_law 611 = .ok (.aload_n 1, 1) := by decide +kernel
theorem dL_law_612 : decode cL_law 612 = .ok (.aload_n 0, 1) := by decide +kernel
theorem dL_law_613 : decode cL_law 613 = .ok (.iload_n 3, 1) := by decide +kernel
theorem dL_law_614 : decode cL_law 614 = .ok (.iconst 1, 1) := by decide +kernel
theorem dL_law_615 : decode cL_law 615 = .ok (.iadd, 1) := by decide +kernel
theorem dL_law_616 : decode cL_law 616 = .ok (.iaload, 1) := by decide +kernel
theorem dL_law_617 : decode cL_law 617 = .ok (.invokevirtual 89, 3) := by decide +kernel
theorem dL_law_620 : decode cL_law 620 = .ok (.aload_n 2, 1) := by decide +kernel
theorem dL_law_621 : decode cL_law 621 = .ok (.aload_n 0, 1) := by decide +kernel
theorem dL_law_622 : decode cL_law 622 = .ok (.iload_n 3, 1) := by decide +kernel
theorem dL_law_623 : decode cL_law 623 = .ok (.iconst 1, 1) := by decide +kernel
theorem dL_law_624 : decode cL_law 624 = .ok (.iadd, 1) := by decide +kernel
theorem dL_law_625 : decode cL_law 625 = .ok (.iaload, 1) := by decide +kernel
theorem dL_law_626 : decode cL_law 626 = .ok (.invokevirtual 92, 3) := by decide +kernel
theorem dL_law_629 : decode cL_law 629 = .ok (.if_icmp .eq 5, 3) := by decide +kernel
theorem dL_law_632 : decode cL_law 632 = .ok (.iconst 0, 1) := by decide +kernel
theorem dL_law_633 : decode cL_law 633 = .ok (.ireturn, 1) := by decide +kernel
theorem dL_law_634 : decode cL_law 634 = .ok (.iinc 3 5, 3) := by decide +kernel
theorem dL_law_637 : decode cL_law 637 = .ok (.goto (-619), 3) := by decide +kernel
theorem dL_law_640 : decode cL_law 640 = .ok (.iconst 1, 1) := by decide +kernel
theorem dL_law_641 : decode cL_law 641 = .ok (.ireturn, 1) := by decide +kernel
