theorem dX10_oldField_71 : decode cX10_oldField 71 = .ok (.getfield 7, 3) := by decide +kernel
theorem dX10_oldField_74 : decode cX10_oldField 74 = .ok (.iload 7, 2) := by decide +kernel
theorem dX10_oldField_76 : decode cX10_oldField 76 = .ok (.iconst 2, 1) := by decide +kernel
theorem dX10_oldField_77 : decode cX10_oldField 77 = .ok (.iadd, 1) := by decide +kernel
theorem dX10_oldField_78 : decode cX10_oldField 78 = .ok (.iaload, 1) := by decide +kernel
theorem dX10_oldField_79 : decode cX10_oldField 79 = .ok (.iload_n 3, 1) := by decide +kernel
theorem dX10_oldField_80 : decode cX10_oldField 80 = .ok (.if_icmp .ne 16, 3) := by decide +kernel
theorem dX10_oldField_83 : decode cX10_oldField 83 = .ok (.aload_n 0, 1) := by decide +kernel
theorem dX10_oldField_84 : decode cX10_oldField 84 = .ok (.getfield 7, 3) := by decide +kernel
theorem dX10_oldField_87 : decode cX10_oldField 87 = .ok (.iload 7, 2) := by decide +kernel
theorem dX10_oldField_89 : decode cX10_oldField 89 = .ok (.iconst 4, 1) := by decide +kernel
theorem dX10_oldField_90 : decode cX10_oldField 90 = .ok (.iadd, 1) := by decide +kernel
theorem dX10_oldField_91 : decode cX10_oldField 91 = .ok (.iload 4, 2) := by decide +kernel
theorem dX10_oldField_93 : decode cX10_oldField 93 = .ok (.iadd, 1) := by decide +kernel
theorem dX10_oldField_94 : decode cX10_oldField 94 = .ok (.iaload, 1) := by decide +kernel
theorem dX10_oldField_95 : decode cX10_oldField 95 = .ok (.ireturn, 1) := by decide +kernel
theorem dX10_oldField_96 : decode cX10_oldField 96 = .ok (.iinc 6 1, 3) := by decide +kernel
theorem dX10_oldField_99 : decode cX10_oldField 99 = .ok (.goto (-86), 3) := by decide +kernel
theorem dX10_oldField_102 : decode cX10_oldField 102 = .ok (.iinc 5 1, 3) := by decide +kernel
theorem dX10_oldField_105 : decode cX10_oldField 105 = .ok (.goto (-102), 3) := by decide +kernel
theorem dX10_oldField_108 : decode cX10_oldField 108 = .ok (.iconst (-1), 1) := by decide +kernel
theorem dX10_oldField_109 : decode cX10_oldField 109 = .ok (.ireturn, 1) := by decide +kernel
theorem dX10_made_0 : decode cX10_made 0 = .ok (.iload_n 0, 1) := by decide +kernel
theorem dX10_made_1 : decode cX10_made 1 = .ok (.tableswitch 71 0 5 #[39, 41, 45, 49, 54, 68], 39) := by decide +kernel
theorem dX10_made_40 : decode cX10_made 40 = .ok (.iload_n 1, 1) := by decide +kernel
theorem dX10_made_41 : decode cX10_made 41 = .ok (.ireturn, 1) := by decide +kernel
theorem dX10_made_42 : decode cX10_made 42 = .ok (.iload_n 2, 1) := by decide +kernel
theorem dX10_made_43 : decode cX10_made 43 = .ok (.iload_n 1, 1) := by decide +kernel
theorem dX10_made_44 : decode cX10_made 44 = .ok (.iadd, 1) := by decide +kernel
theorem dX10_made_45 : decode cX10_made 45 = .ok (.ireturn, 1) := by decide +kernel
theorem dX10_made_46 : decode cX10_made 46 = .ok (.iload_n 3, 1) := by decide +kernel
theorem dX10_made_47 : decode cX10_made 47 = .ok (.iload_n 1, 1) := by decide +kernel
theorem dX10_made_48 : decode cX10_made 48 = .ok (.iadd, 1) := by decide +kernel
theorem dX10_made_49 : decode cX10_made 49 = .ok (.ireturn, 1) := by decide +kernel
theorem dX10_made_50 : decode cX10_made 50 = .ok (.iload 4, 2) := by decide +kernel
theorem dX10_made_52 : decode cX10_made 52 = .ok (.iload_n 1, 1) := by decide +kernel
theorem dX10_made_53 : decode cX10_made 53 = .ok (.iadd, 1) := by decide +kernel
theorem dX10_made_54 : decode cX10_made 54 = .ok (.ireturn, 1) := by decide +kernel
theorem dX10_made_55 : decode cX10_made 55 = .ok (.iload 5, 2) := by decide +kernel
theorem dX10_made_57 : decode cX10_made 57 = .ok (.ifCond .ge 7, 3) := by decide +kernel
theorem dX10_made_60 : decode cX10_made 60 = .ok (.iconst 0, 1) := by decide +kernel
theorem dX10_made_61 : decode cX10_made 61 = .ok (.goto 7, 3) := by decide +kernel
theorem dX10_made_64 : decode cX10_made 64 = .ok (.iload 5, 2) := by decide +kernel
theorem dX10_made_66 : decode cX10_made 66 = .ok (.iload_n 1, 1) := by decide +kernel
theorem dX10_made_67 : decode cX10_made 67 = .ok (.iadd, 1) := by decide +kernel
theorem dX10_made_68 : decode cX10_made 68 = .ok (.ireturn, 1) := by decide +kernel
theorem dX10_made_69 : decode cX10_made 69 = .ok (.iload 6, 2) := by decide +kernel
theorem dX10_made_71 : decode cX10_made 71 = .ok (.ireturn, 1) := by decide +kernel
theorem dX10_made_72 : decode cX10_made 72 = .ok (.sipush (-1000), 3) := by decide +kernel
theorem dX10_made_75 : decode cX10_made 75 = .ok (.ireturn, 1) := by decide +kernel
set_option maxRecDepth 20000 in
theorem ggX10_say_X10_isIn : GoodIn wsX10_say wsX10_isIn := goodIn_r _ [5] (by decide +kernel) (by decide +kernel)
set_option maxRecDepth 20000 in
theorem gX10_say_X10_isIn : GoodIn wsX10_say (va_wsS RX10 47 yX10_isIn wsX10_isIn) := goodIn_app (goodIn_of _ (by decide +kernel)) ggX10_say_X10_isIn
set_option maxRecDepth 20000 in
theorem ggX10_say_X10_oldField : GoodIn wsX10_say wsX10_oldField := goodIn_r _ [9, 1, 13, 14, 15, 16, 17, 18, 19, 20, 21, 22, 23, 24, 25, 26, 27] (by decide +kernel) (by decide +kernel)
set_option maxRecDepth 20000 in
theorem gX10_say_X10_oldField : GoodIn wsX10_say (wsV RX10 121 RX10 yX10_oldField wsX10_oldField) := goodIn_app (goodIn_of _ (by decide +kernel)) ggX10_say_X10_oldField
set_option maxRecDepth 20000 in
theorem ggX10_say_X10_made : GoodIn wsX10_say wsX10_made := goodIn_r _ [12] (by decide +kernel) (by decide +kernel)
set_option maxRecDepth 20000 in
theorem gX10_say_X10_made : GoodIn wsX10_say (va_wsS RX10 125 yX10_made wsX10_made) := goodIn_app (goodIn_of _ (by decide +kernel)) ggX10_say_X10_made
theorem dX10_say_0 : decode cX10_say 0 = .ok (.aload_n 0, 1) := by decide +kernel
theorem dX10_say_1 : decode cX10_say 1 = .ok (.getfield 7, 3) := by decide +kernel
theorem dX10_say_4 : decode cX10_say 4 = .ok (.iconst 1, 1) := by decide +kernel
theorem dX10_say_5 : decode cX10_say 5 = .ok (.iaload, 1) := by decide +kernel
theorem dX10_say_6 : decode cX10_say 6 = .ok (.ifCond .eq 23, 3) := by decide +kernel
theorem dX10_say_9 : decode cX10_say 9 = .ok (.iload_n 1, 1) := by decide +kernel
theorem dX10_say_10 : decode cX10_say 10 = .ok (.iconst 0, 1) := by decide +kernel
theorem dX10_say_11 : decode cX10_say 11 = .ok (.iconst 2, 1) := by decide +kernel
theorem dX10_say_12 : decode cX10_say 12 = .ok (.invokestatic 47, 3) := by decide +kernel
theorem dX10_say_15 : decode cX10_say 15 = .ok (.ifCond .eq 14, 3) := by decide +kernel
theorem dX10_say_18 : decode cX10_say 18 = .ok (.iload_n 2, 1) := by decide +kernel
theorem dX10_say_19 : decode cX10_say 19 = .ok (.iconst 0, 1) := by decide +kernel
theorem dX10_say_20 : decode cX10_say 20 = .ok (.sipush 9999, 3) := by decide +kernel
theorem dX10_say_23 : decode cX10_say 23 = .ok (.invokestatic 47, 3) := by decide +kernel
theorem dX10_say_26 : decode cX10_say 26 = .ok (.ifCond .ne 5, 3) := by decide +kernel
theorem dX10_say_29 : decode cX10_say 29 = .ok (.iconst (-1), 1) := by decide +kernel
theorem dX10_say_30 : decode cX10_say 30 = .ok (.ireturn, 1) := by decide +kernel
theorem dX10_say_31 : decode cX10_say 31 = .ok (.iload_n 2, 1) := by decide +kernel
theorem dX10_say_32 : decode cX10_say 32 = .ok (.bipush 100, 2) := by decide +kernel
theorem dX10_say_34 : decode cX10_say 34 = .ok (.idiv, 1) := by decide +kernel
theorem dX10_say_35 : decode cX10_say 35 = .ok (.istore_n 3, 1) := by decide +kernel
theorem dX10_say_36 : decode cX10_say 36 = .ok (.iload_n 2, 1) := by decide +kernel
theorem dX10_say_37 : decode cX10_say 37 = .ok (.bipush 100, 2) := by decide +kernel
theorem dX10_say_39 : decode cX10_say 39 = .ok (.irem, 1) := by decide +kernel
theorem dX10_say_40 : decode cX10_say 40 = .ok (.istore 4, 2) := by decide +kernel
theorem dX10_say_42 : decode cX10_say 42 = .ok (.iconst 3, 1) := by decide +kernel
theorem dX10_say_43 : decode cX10_say 43 = .ok (.aload_n 0, 1) := by decide +kernel
theorem dX10_say_44 : decode cX10_say 44 = .ok (.getfield 7, 3) := by decide +kernel
theorem dX10_say_47 : decode cX10_say 47 = .ok (.iconst 2, 1) := by decide +kernel
theorem dX10_say_48 : decode cX10_say 48 = .ok (.iaload, 1) := by decide +kernel
theorem dX10_say_49 : decode cX10_say 49 = .ok (.imul, 1) := by decide +kernel
theorem dX10_say_50 : decode cX10_say 50 = .ok (.iload_n 1, 1) := by decide +kernel
theorem dX10_say_51 : decode cX10_say 51 = .ok (.iadd, 1) := by decide +kernel
theorem dX10_say_52 : decode cX10_say 52 = .ok (.istore 5, 2) := by decide +kernel
theorem dX10_say_54 : decode cX10_say 54 = .ok (.sipush 1220, 3) := by decide +kernel
theorem dX10_say_57 : decode cX10_say 57 = .ok (.iconst 4, 1) := by decide +kernel
theorem dX10_say_58 : decode cX10_say 58 = .ok (.iload_n 1, 1) := by decide +kernel
theorem dX10_say_59 : decode cX10_say 59 = .ok (.imul, 1) := by decide +kernel
theorem dX10_say_60 : decode cX10_say 60 = .ok (.iadd, 1) := by decide +kernel
theorem dX10_say_61 : decode cX10_say 61 = .ok (.istore 6, 2) := by decide +kernel
theorem dX10_say_63 : decode cX10_say 63 = .ok (.aload_n 0, 1) := by decide +kernel
theorem dX10_say_64 : decode cX10_say 64 = .ok (.getfield 7, 3) := by decide +kernel
theorem dX10_say_67 : decode cX10_say 67 = .ok (.sipush 1190, 3) := by decide +kernel
theorem dX10_say_70 : decode cX10_say 70 = .ok (.iload 5, 2) := by decide +kernel
theorem dX10_say_72 : decode cX10_say 72 = .ok (.iadd, 1) := by decide +kernel
theorem dX10_say_73 : decode cX10_say 73 = .ok (.iaload, 1) := by decide +kernel
theorem dX10_say_74 : decode cX10_say 74 = .ok (.ifCond .lt 7, 3) := by decide +kernel
theorem dX10_say_77 : decode cX10_say 77 = .ok (.iconst 1, 1) := by decide +kernel
theorem dX10_say_78 : decode cX10_say 78 = .ok (.goto 4, 3) := by decide +kernel
theorem dX10_say_81 : decode cX10_say 81 = .ok (.iconst 0, 1) := by decide +kernel
theorem dX10_say_82 : decode cX10_say 82 = .ok (.istore 7, 2) := by decide +kernel
theorem dX10_say_84 : decode cX10_say 84 = .ok (.iconst 0, 1) := by decide +kernel
theorem dX10_say_85 : decode cX10_say 85 = .ok (.istore 8, 2) := by decide +kernel
theorem dX10_say_87 : decode cX10_say 87 = .ok (.iload 8, 2) := by decide +kernel
theorem dX10_say_89 : decode cX10_say 89 = .ok (.iconst 2, 1) := by decide +kernel
theorem dX10_say_90 : decode cX10_say 90 = .ok (.if_icmp .ge 50, 3) := by decide +kernel
theorem dX10_say_93 : decode cX10_say 93 = .ok (.iload 7, 2) := by decide +kernel
theorem dX10_say_95 : decode cX10_say 95 = .ok (.ifCond .eq 36, 3) := by decide +kernel
theorem dX10_say_98 : decode cX10_say 98 = .ok (.aload_n 0, 1) := by decide +kernel
theorem dX10_say_99 : decode cX10_say 99 = .ok (.getfield 7, 3) := by decide +kernel
theorem dX10_say_102 : decode cX10_say 102 = .ok (.iload 6, 2) := by decide +kernel
theorem dX10_say_104 : decode cX10_say 104 = .ok (.iconst 2, 1) := by decide +kernel
theorem dX10_say_105 : decode cX10_say 105 = .ok (.iload 8, 2) := by decide +kernel
theorem dX10_say_107 : decode cX10_say 107 = .ok (.imul, 1) := by decide +kernel
theorem dX10_say_108 : decode cX10_say 108 = .ok (.iadd, 1) := by decide +kernel
theorem dX10_say_109 : decode cX10_say 109 = .ok (.iaload, 1) := by decide +kernel
theorem dX10_say_110 : decode cX10_say 110 = .ok (.iconst 5, 1) := by decide +kernel
theorem dX10_say_111 : decode cX10_say 111 = .ok (.if_icmp .ne 16, 3) := by decide +kernel
theorem dX10_say_114 : decode cX10_say 114 = .ok (.aload_n 0, 1) := by decide +kernel
theorem dX10_say_115 : decode cX10_say 115 = .ok (.iload_n 1, 1) := by decide +kernel
theorem dX10_say_116 : decode cX10_say 116 = .ok (.iload_n 3, 1) := by decide +kernel
theorem dX10_say_117 : decode cX10_say 117 = .ok (.iload 4, 2) := by decide +kernel
theorem dX10_say_119 : decode cX10_say 119 = .ok (.iload 8, 2) := by decide +kernel
theorem dX10_say_121 : decode cX10_say 121 = .ok (.invokevirtual 121, 3) := by decide +kernel
theorem dX10_say_124 : decode cX10_say 124 = .ok (.ifCond .lt 7, 3) := by decide +kernel
theorem dX10_say_127 : decode cX10_say 127 = .ok (.iconst 1, 1) := by decide +kernel
theorem dX10_say_128 : decode cX10_say 128 = .ok (.goto 4, 3) := by decide +kernel
theorem dX10_say_131 : decode cX10_say 131 = .ok (.iconst 0, 1) := by decide +kernel
theorem dX10_say_132 : decode cX10_say 132 = .ok (.istore 7, 2) := by decide +kernel
theorem dX10_say_134 : decode cX10_say 134 = .ok (.iinc 8 1, 3) := by decide +kernel
theorem dX10_say_137 : decode cX10_say 137 = .ok (.goto (-50), 3) := by decide +kernel
theorem dX10_say_140 : decode cX10_say 140 = .ok (.iload 7, 2) := by decide +kernel
theorem dX10_say_142 : decode cX10_say 142 = .ok (.ifCond .ne 16, 3) := by decide +kernel
theorem dX10_say_145 : decode cX10_say 145 = .ok (.aload_n 0, 1) := by decide +kernel
theorem dX10_say_146 : decode cX10_say 146 = .ok (.getfield 7, 3) := by decide +kernel
theorem dX10_say_149 : decode cX10_say 149 = .ok (.iconst 4, 1) := by decide +kernel
theorem dX10_say_150 : decode cX10_say 150 = .ok (.dup2, 1) := by decide +kernel
theorem dX10_say_151 : decode cX10_say 151 = .ok (.iaload, 1) := by decide +kernel
theorem dX10_say_152 : decode cX10_say 152 = .ok (.iconst 1, 1) := by decide +kernel
theorem dX10_say_153 : decode cX10_say 153 = .ok (.iadd, 1) := by decide +kernel
theorem dX10_say_154 : decode cX10_say 154 = .ok (.iastore, 1) := by decide +kernel
theorem dX10_say_155 : decode cX10_say 155 = .ok (.bipush (-2), 2) := by decide +kernel
theorem dX10_say_157 : decode cX10_say 157 = .ok (.ireturn, 1) := by decide +kernel
theorem dX10_say_158 : decode cX10_say 158 = .ok (.iconst 0, 1) := by decide +kernel
theorem dX10_say_159 : decode cX10_say 159 = .ok (.istore 8, 2) := by decide +kernel
theorem dX10_say_161 : decode cX10_say 161 = .ok (.iload 8, 2) := by decide +kernel
theorem dX10_say_163 : decode cX10_say 163 = .ok (.iconst 2, 1) := by decide +kernel
theorem dX10_say_164 : decode cX10_say 164 = .ok (.if_icmp .ge 82, 3) := by decide +kernel
theorem dX10_say_167 : decode cX10_say 167 = .ok (.aload_n 0, 1) := by decide +kernel
theorem dX10_say_168 : decode cX10_say 168 = .ok (.getfield 7, 3) := by decide +kernel
theorem dX10_say_171 : decode cX10_say 171 = .ok (.iconst 5, 1) := by decide +kernel
theorem dX10_say_172 : decode cX10_say 172 = .ok (.iload 8, 2) := by decide +kernel
theorem dX10_say_174 : decode cX10_say 174 = .ok (.iadd, 1) := by decide +kernel
theorem dX10_say_175 : decode cX10_say 175 = .ok (.aload_n 0, 1) := by decide +kernel
theorem dX10_say_176 : decode cX10_say 176 = .ok (.getfield 7, 3) := by decide +kernel
theorem dX10_say_179 : decode cX10_say 179 = .ok (.iload 6, 2) := by decide +kernel
theorem dX10_say_181 : decode cX10_say 181 = .ok (.iconst 2, 1) := by decide +kernel
theorem dX10_say_182 : decode cX10_say 182 = .ok (.iload 8, 2) := by decide +kernel
theorem dX10_say_184 : decode cX10_say 184 = .ok (.imul, 1) := by decide +kernel
theorem dX10_say_185 : decode cX10_say 185 = .ok (.iadd, 1) := by decide +kernel
theorem dX10_say_186 : decode cX10_say 186 = .ok (.iaload, 1) := by decide +kernel
theorem dX10_say_187 : decode cX10_say 187 = .ok (.aload_n 0, 1) := by decide +kernel
theorem dX10_say_188 : decode cX10_say 188 = .ok (.getfield 7, 3) := by decide +kernel
theorem dX10_say_191 : decode cX10_say 191 = .ok (.iload 6, 2) := by decide +kernel
theorem dX10_say_193 : decode cX10_say 193 = .ok (.iconst 2, 1) := by decide +kernel
theorem dX10_say_194 : decode cX10_say 194 = .ok (.iload 8, 2) := by decide +kernel
theorem dX10_say_196 : decode cX10_say 196 = .ok (.imul, 1) := by decide +kernel
theorem dX10_say_197 : decode cX10_say 197 = .ok (.iadd, 1) := by decide +kernel
theorem dX10_say_198 : decode cX10_say 198 = .ok (.iconst 1, 1) := by decide +kernel
theorem dX10_say_199 : decode cX10_say 199 = .ok (.iadd, 1) := by decide +kernel
theorem dX10_say_200 : decode cX10_say 200 = .ok (.iaload, 1) := by decide +kernel
theorem dX10_say_201 : decode cX10_say 201 = .ok (.iload_n 3, 1) := by decide +kernel
theorem dX10_say_202 : decode cX10_say 202 = .ok (.iload 4, 2) := by decide +kernel
theorem dX10_say_204 : decode cX10_say 204 = .ok (.aload_n 0, 1) := by decide +kernel
theorem dX10_say_205 : decode cX10_say 205 = .ok (.getfield 7, 3) := by decide +kernel
theorem dX10_say_208 : decode cX10_say 208 = .ok (.sipush 1340, 3) := by decide +kernel
theorem dX10_say_211 : decode cX10_say 211 = .ok (.iload_n 1, 1) := by decide +kernel
theorem dX10_say_212 : decode cX10_say 212 = .ok (.iadd, 1) := by decide +kernel
theorem dX10_say_213 : decode cX10_say 213 = .ok (.iaload, 1) := by decide +kernel
theorem dX10_say_214 : decode cX10_say 214 = .ok (.aload_n 0, 1) := by decide +kernel
theorem dX10_say_215 : decode cX10_say 215 = .ok (.getfield 7, 3) := by decide +kernel
theorem dX10_say_218 : decode cX10_say 218 = .ok (.sipush 1240, 3) := by decide +kernel
theorem dX10_say_221 : decode cX10_say 221 = .ok (.iload_n 3, 1) := by decide +kernel
theorem dX10_say_222 : decode cX10_say 222 = .ok (.iadd, 1) := by decide +kernel
theorem dX10_say_223 : decode cX10_say 223 = .ok (.iaload, 1) := by decide +kernel
theorem dX10_say_224 : decode cX10_say 224 = .ok (.iconst 1, 1) := by decide +kernel
theorem dX10_say_225 : decode cX10_say 225 = .ok (.isub, 1) := by decide +kernel
theorem dX10_say_226 : decode cX10_say 226 = .ok (.aload_n 0, 1) := by decide +kernel
theorem dX10_say_227 : decode cX10_say 227 = .ok (.iload_n 1, 1) := by decide +kernel
theorem dX10_say_228 : decode cX10_say 228 = .ok (.iload_n 3, 1) := by decide +kernel
theorem dX10_say_229 : decode cX10_say 229 = .ok (.iload 4, 2) := by decide +kernel
theorem dX10_say_231 : decode cX10_say 231 = .ok (.iload 8, 2) := by decide +kernel
theorem dX10_say_233 : decode cX10_say 233 = .ok (.invokevirtual 121, 3) := by decide +kernel
theorem dX10_say_236 : decode cX10_say 236 = .ok (.invokestatic 125, 3) := by decide +kernel
theorem dX10_say_239 : decode cX10_say 239 = .ok (.iastore, 1) := by decide +kernel
theorem dX10_say_240 : decode cX10_say 240 = .ok (.iinc 8 1, 3) := by decide +kernel
theorem dX10_say_243 : decode cX10_say 243 = .ok (.goto (-82), 3) := by decide +kernel
theorem dX10_say_246 : decode cX10_say 246 = .ok (.aload_n 0, 1) := by decide +kernel
theorem dX10_say_247 : decode cX10_say 247 = .ok (.getfield 7, 3) := by decide +kernel
theorem dX10_say_250 : decode cX10_say 250 = .ok (.sipush 1240, 3) := by decide +kernel
theorem dX10_say_253 : decode cX10_say 253 = .ok (.iload_n 3, 1) := by decide +kernel
theorem dX10_say_254 : decode cX10_say 254 = .ok (.iadd, 1) := by decide +kernel
theorem dX10_say_255 : decode cX10_say 255 = .ok (.iload 4, 2) := by decide +kernel
theorem dX10_say_257 : decode cX10_say 257 = .ok (.iconst 1, 1) := by decide +kernel
theorem dX10_say_258 : decode cX10_say 258 = .ok (.iadd, 1) := by decide +kernel
theorem dX10_say_259 : decode cX10_say 259 = .ok (.iastore, 1) := by decide +kernel
theorem dX10_say_260 : decode cX10_say 260 = .ok (.aload_n 0, 1) := by decide +kernel
theorem dX10_say_261 : decode cX10_say 261 = .ok (.getfield 7, 3) := by decide +kernel
theorem dX10_say_264 : decode cX10_say 264 = .ok (.sipush 1340, 3) := by decide +kernel
theorem dX10_say_267 : decode cX10_say 267 = .ok (.iload_n 1, 1) := by decide +kernel
theorem dX10_say_268 : decode cX10_say 268 = .ok (.iadd, 1) := by decide +kernel
theorem dX10_say_269 : decode cX10_say 269 = .ok (.dup2, 1) := by decide +kernel
theorem dX10_say_270 : decode cX10_say 270 = .ok (.iaload, 1) := by decide +kernel
theorem dX10_say_271 : decode cX10_say 271 = .ok (.iconst 1, 1) := by decide +kernel
theorem dX10_say_272 : decode cX10_say 272 = .ok (.iadd, 1) := by decide +kernel
theorem dX10_say_273 : decode cX10_say 273 = .ok (.iastore, 1) := by decide +kernel
theorem dX10_say_274 : decode cX10_say 274 = .ok (.aload_n 0, 1) := by decide +kernel
theorem dX10_say_275 : decode cX10_say 275 = .ok (.getfield 7, 3) := by decide +kernel
theorem dX10_say_278 : decode cX10_say 278 = .ok (.iconst 3, 1) := by decide +kernel
theorem dX10_say_279 : decode cX10_say 279 = .ok (.dup2, 1) := by decide +kernel
theorem dX10_say_280 : decode cX10_say 280 = .ok (.iaload, 1) := by decide +kernel
theorem dX10_say_281 : decode cX10_say 281 = .ok (.iconst 1, 1) := by decide +kernel
theorem dX10_say_282 : decode cX10_say 282 = .ok (.iadd, 1) := by decide +kernel
theorem dX10_say_283 : decode cX10_say 283 = .ok (.iastore, 1) := by decide +kernel
theorem dX10_say_284 : decode cX10_say 284 = .ok (.aload_n 0, 1) := by decide +kernel
theorem dX10_say_285 : decode cX10_say 285 = .ok (.getfield 7, 3) := by decide +kernel
theorem dX10_say_288 : decode cX10_say 288 = .ok (.iconst 2, 1) := by decide +kernel
theorem dX10_say_289 : decode cX10_say 289 = .ok (.aload_n 0, 1) := by decide +kernel
theorem dX10_say_290 : decode cX10_say 290 = .ok (.getfield 7, 3) := by decide +kernel
theorem dX10_say_293 : decode cX10_say 293 = .ok (.sipush 1190, 3) := by decide +kernel
theorem dX10_say_296 : decode cX10_say 296 = .ok (.iload 5, 2) := by decide +kernel
theorem dX10_say_298 : decode cX10_say 298 = .ok (.iadd, 1) := by decide +kernel
theorem dX10_say_299 : decode cX10_say 299 = .ok (.iaload, 1) := by decide +kernel
theorem dX10_say_300 : decode cX10_say 300 = .ok (.iastore, 1) := by decide +kernel
theorem dX10_say_301 : decode cX10_say 301 = .ok (.aload_n 0, 1) := by decide +kernel
theorem dX10_say_302 : decode cX10_say 302 = .ok (.getfield 7, 3) := by decide +kernel
theorem dX10_say_305 : decode cX10_say 305 = .ok (.sipush 1202, 3) := by decide +kernel
theorem dX10_say_308 : decode cX10_say 308 = .ok (.iload 5, 2) := by decide +kernel
theorem dX10_say_310 : decode cX10_say 310 = .ok (.iadd, 1) := by decide +kernel
theorem dX10_say_311 : decode cX10_say 311 = .ok (.iaload, 1) := by decide +kernel
theorem dX10_say_312 : decode cX10_say 312 = .ok (.ireturn, 1) := by decide +kernel
set_option maxRecDepth 20000 in
theorem ggX10_field_X10_isIn : GoodIn wsX10_field wsX10_isIn := goodIn_r _ [5] (by decide +kernel) (by decide +kernel)
set_option maxRecDepth 20000 in
theorem gX10_field_X10_isIn : GoodIn wsX10_field (va_wsS RX10 47 yX10_isIn wsX10_isIn) := goodIn_app (goodIn_of _ (by decide +kernel)) ggX10_field_X10_isIn
theorem dX10_field_0 : decode cX10_field 0 = .ok (.iload_n 1, 1) := by decide +kernel
theorem dX10_field_1 : decode cX10_field 1 = .ok (.iconst 0, 1) := by decide +kernel
theorem dX10_field_2 : decode cX10_field 2 = .ok (.iconst 1, 1) := by decide +kernel
theorem dX10_field_3 : decode cX10_field 3 = .ok (.invokestatic 47, 3) := by decide +kernel
theorem dX10_field_6 : decode cX10_field 6 = .ok (.ifCond .eq 14, 3) := by decide +kernel
theorem dX10_field_9 : decode cX10_field 9 = .ok (.aload_n 0, 1) := by decide +kernel
theorem dX10_field_10 : decode cX10_field 10 = .ok (.getfield 7, 3) := by decide +kernel
theorem dX10_field_13 : decode cX10_field 13 = .ok (.iconst 5, 1) := by decide +kernel
theorem dX10_field_14 : decode cX10_field 14 = .ok (.iload_n 1, 1) := by decide +kernel
theorem dX10_field_15 : decode cX10_field 15 = .ok (.iadd, 1) := by decide +kernel
theorem dX10_field_16 : decode cX10_field 16 = .ok (.iaload, 1) := by decide +kernel
theorem dX10_field_17 : decode cX10_field 17 = .ok (.goto 6, 3) := by decide +kernel
theorem dX10_field_20 : decode cX10_field 20 = .ok (.sipush (-1000), 3) := by decide +kernel
theorem dX10_field_23 : decode cX10_field 23 = .ok (.ireturn, 1) := by decide +kernel
set_option maxRecDepth 20000 in
theorem ggX10_ran_X10_isIn : GoodIn wsX10_ran wsX10_isIn := goodIn_r _ [5] (by decide +kernel) (by decide +kernel)
set_option maxRecDepth 20000 in
theorem gX10_ran_X10_isIn : GoodIn wsX10_ran (va_wsS RX10 47 yX10_isIn wsX10_isIn) := goodIn_app (goodIn_of _ (by decide +kernel)) ggX10_ran_X10_isIn
theorem dX10_ran_0 : decode cX10_ran 0 = .ok (.aload_n 0, 1) := by decide +kernel
theorem dX10_ran_1 : decode cX10_ran 1 = .ok (.getfield 7, 3) := by decide +kernel
theorem dX10_ran_4 : decode cX10_ran 4 = .ok (.iconst 1, 1) := by decide +kernel
theorem dX10_ran_5 : decode cX10_ran 5 = .ok (.iaload, 1) := by decide +kernel
theorem dX10_ran_6 : decode cX10_ran 6 = .ok (.iconst 1, 1) := by decide +kernel
theorem dX10_ran_7 : decode cX10_ran 7 = .ok (.if_icmp .ne 23, 3) := by decide +kernel
theorem dX10_ran_10 : decode cX10_ran 10 = .ok (.iload_n 1, 1) := by decide +kernel
theorem dX10_ran_11 : decode cX10_ran 11 = .ok (.iconst 0, 1) := by decide +kernel
theorem dX10_ran_12 : decode cX10_ran 12 = .ok (.iconst 2, 1) := by decide +kernel
theorem dX10_ran_13 : decode cX10_ran 13 = .ok (.invokestatic 47, 3) := by decide +kernel
theorem dX10_ran_16 : decode cX10_ran 16 = .ok (.ifCond .eq 14, 3) := by decide +kernel
theorem dX10_ran_19 : decode cX10_ran 19 = .ok (.aload_n 0, 1) := by decide +kernel
theorem dX10_ran_20 : decode cX10_ran 20 = .ok (.getfield 7, 3) := by decide +kernel
theorem dX10_ran_23 : decode cX10_ran 23 = .ok (.iconst 2, 1) := by decide +kernel
theorem dX10_ran_24 : decode cX10_ran 24 = .ok (.iload_n 1, 1) := by decide +kernel
theorem dX10_ran_25 : decode cX10_ran 25 = .ok (.iadd, 1) := by decide +kernel
theorem dX10_ran_26 : decode cX10_ran 26 = .ok (.iaload, 1) := by decide +kernel
theorem dX10_ran_27 : decode cX10_ran 27 = .ok (.goto 4, 3) := by decide +kernel
theorem dX10_ran_30 : decode cX10_ran 30 = .ok (.iconst (-1), 1) := by decide +kernel
theorem dX10_ran_31 : decode cX10_ran 31 = .ok (.ireturn, 1) := by decide +kernel
set_option maxRecDepth 20000 in
theorem ggX10_fieldOf_X10_sizeOf : GoodIn wsX10_fieldOf wsX10_sizeOf := goodIn_r _ [6, 1, 11, 12, 13, 14, 15, 16, 17, 18, 19, 20, 21, 22, 23, 24, 25] (by decide +kernel) (by decide +kernel)
set_option maxRecDepth 20000 in
theorem gX10_fieldOf_X10_sizeOf : GoodIn wsX10_fieldOf (wsV RX10 56 RX10 yX10_sizeOf wsX10_sizeOf) := goodIn_app (goodIn_of _ (by decide +kernel)) ggX10_fieldOf_X10_sizeOf
set_option maxRecDepth 20000 in
theorem ggX10_fieldOf_X10_of : GoodIn wsX10_fieldOf wsX10_of := goodIn_r _ [10, 1, 11, 12, 13, 14, 15, 16, 17, 18, 19, 20, 21, 22, 23, 24, 25] (by decide +kernel) (by decide +kernel)
set_option maxRecDepth 20000 in
theorem gX10_fieldOf_X10_of : GoodIn wsX10_fieldOf (wsV RX10 60 RX10 yX10_of wsX10_of) := goodIn_app (goodIn_of _ (by decide +kernel)) ggX10_fieldOf_X10_of
theorem dX10_fieldOf_0 : decode cX10_fieldOf 0 = .ok (.iconst 0, 1) := by decide +kernel
theorem dX10_fieldOf_1 : decode cX10_fieldOf 1 = .ok (.istore 6, 2) := by decide +kernel
theorem dX10_fieldOf_3 : decode cX10_fieldOf 3 = .ok (.iload 6, 2) := by decide +kernel
theorem dX10_fieldOf_5 : decode cX10_fieldOf 5 = .ok (.aload_n 0, 1) := by decide +kernel
theorem dX10_fieldOf_6 : decode cX10_fieldOf 6 = .ok (.getfield 7, 3) := by decide +kernel
theorem dX10_fieldOf_9 : decode cX10_fieldOf 9 = .ok (.iconst 0, 1) := by decide +kernel
theorem dX10_fieldOf_10 : decode cX10_fieldOf 10 = .ok (.iaload, 1) := by decide +kernel
theorem dX10_fieldOf_11 : decode cX10_fieldOf 11 = .ok (.if_icmp .ge 88, 3) := by decide +kernel
theorem dX10_fieldOf_14 : decode cX10_fieldOf 14 = .ok (.iconst 0, 1) := by decide +kernel
theorem dX10_fieldOf_15 : decode cX10_fieldOf 15 = .ok (.istore 7, 2) := by decide +kernel
theorem dX10_fieldOf_17 : decode cX10_fieldOf 17 = .ok (.iload 7, 2) := by decide +kernel
theorem dX10_fieldOf_19 : decode cX10_fieldOf 19 = .ok (.aload_n 0, 1) := by decide +kernel
theorem dX10_fieldOf_20 : decode cX10_fieldOf 20 = .ok (.iload 6, 2) := by decide +kernel
theorem dX10_fieldOf_22 : decode cX10_fieldOf 22 = .ok (.invokevirtual 56, 3) := by decide +kernel
theorem dX10_fieldOf_25 : decode cX10_fieldOf 25 = .ok (.if_icmp .ge 68, 3) := by decide +kernel
theorem dX10_fieldOf_28 : decode cX10_fieldOf 28 = .ok (.iload 6, 2) := by decide +kernel
theorem dX10_fieldOf_30 : decode cX10_fieldOf 30 = .ok (.iload 5, 2) := by decide +kernel
theorem dX10_fieldOf_32 : decode cX10_fieldOf 32 = .ok (.if_icmp .eq 61, 3) := by decide +kernel
theorem dX10_fieldOf_35 : decode cX10_fieldOf 35 = .ok (.aload_n 0, 1) := by decide +kernel
theorem dX10_fieldOf_36 : decode cX10_fieldOf 36 = .ok (.iload 6, 2) := by decide +kernel
theorem dX10_fieldOf_38 : decode cX10_fieldOf 38 = .ok (.iload 7, 2) := by decide +kernel
theorem dX10_fieldOf_40 : decode cX10_fieldOf 40 = .ok (.iconst 0, 1) := by decide +kernel
theorem dX10_fieldOf_41 : decode cX10_fieldOf 41 = .ok (.invokevirtual 60, 3) := by decide +kernel
theorem dX10_fieldOf_44 : decode cX10_fieldOf 44 = .ok (.iload_n 1, 1) := by decide +kernel
theorem dX10_fieldOf_45 : decode cX10_fieldOf 45 = .ok (.if_icmp .ne 42, 3) := by decide +kernel
theorem dX10_fieldOf_48 : decode cX10_fieldOf 48 = .ok (.aload_n 0, 1) := by decide +kernel
theorem dX10_fieldOf_49 : decode cX10_fieldOf 49 = .ok (.iload 6, 2) := by decide +kernel
theorem dX10_fieldOf_51 : decode cX10_fieldOf 51 = .ok (.iload 7, 2) := by decide +kernel
theorem dX10_fieldOf_53 : decode cX10_fieldOf 53 = .ok (.iconst 1, 1) := by decide +kernel
theorem dX10_fieldOf_54 : decode cX10_fieldOf 54 = .ok (.invokevirtual 60, 3) := by decide +kernel
theorem dX10_fieldOf_57 : decode cX10_fieldOf 57 = .ok (.iload_n 2, 1) := by decide +kernel
theorem dX10_fieldOf_58 : decode cX10_fieldOf 58 = .ok (.if_icmp .ne 29, 3) := by decide +kernel
theorem dX10_fieldOf_61 : decode cX10_fieldOf 61 = .ok (.aload_n 0, 1) := by decide +kernel
theorem dX10_fieldOf_62 : decode cX10_fieldOf 62 = .ok (.iload 6, 2) := by decide +kernel
theorem dX10_fieldOf_64 : decode cX10_fieldOf 64 = .ok (.iload 7, 2) := by decide +kernel
theorem dX10_fieldOf_66 : decode cX10_fieldOf 66 = .ok (.iconst 2, 1) := by decide +kernel
theorem dX10_fieldOf_67 : decode cX10_fieldOf 67 = .ok (.invokevirtual 60, 3) := by decide +kernel
theorem dX10_fieldOf_70 : decode cX10_fieldOf 70 = .ok (.iload_n 3, 1) := by decide +kernel
theorem dX10_fieldOf_71 : decode cX10_fieldOf 71 = .ok (.if_icmp .ne 16, 3) := by decide +kernel
theorem dX10_fieldOf_74 : decode cX10_fieldOf 74 = .ok (.aload_n 0, 1) := by decide +kernel
theorem dX10_fieldOf_75 : decode cX10_fieldOf 75 = .ok (.iload 6, 2) := by decide +kernel
theorem dX10_fieldOf_77 : decode cX10_fieldOf 77 = .ok (.iload 7, 2) := by decide +kernel
theorem dX10_fieldOf_79 : decode cX10_fieldOf 79 = .ok (.iconst 4, 1) := by decide +kernel
theorem dX10_fieldOf_80 : decode cX10_fieldOf 80 = .ok (.iload 4, 2) := by decide +kernel
theorem dX10_fieldOf_82 : decode cX10_fieldOf 82 = .ok (.iadd, 1) := by decide +kernel
theorem dX10_fieldOf_83 : decode cX10_fieldOf 83 = .ok (.invokevirtual 60, 3) := by decide +kernel
theorem dX10_fieldOf_86 : decode cX10_fieldOf 86 = .ok (.ireturn, 1) := by decide +kernel
theorem dX10_fieldOf_87 : decode cX10_fieldOf 87 = .ok (.iinc 7 1, 3) := by decide +kernel
theorem dX10_fieldOf_90 : decode cX10_fieldOf 90 = .ok (.goto (-73), 3) := by decide +kernel
theorem dX10_fieldOf_93 : decode cX10_fieldOf 93 = .ok (.iinc 6 1, 3) := by decide +kernel
theorem dX10_fieldOf_96 : decode cX10_fieldOf 96 = .ok (.goto (-93), 3) := by decide +kernel
theorem dX10_fieldOf_99 : decode cX10_fieldOf 99 = .ok (.iconst (-1), 1) := by decide +kernel
theorem dX10_fieldOf_100 : decode cX10_fieldOf 100 = .ok (.ireturn, 1) := by decide +kernel
set_option maxRecDepth 20000 in
theorem ggX10_differs_X10_of : GoodIn wsX10_differs wsX10_of := goodIn_r _ [8, 9, 29, 30, 31, 32, 33, 34, 35, 36, 37, 38, 39, 40, 41, 42, 43] (by decide +kernel) (by decide +kernel)
set_option maxRecDepth 20000 in
theorem gX10_differs_X10_of : GoodIn wsX10_differs (wsV RX10 60 RX10 yX10_of wsX10_of) := goodIn_app (goodIn_of _ (by decide +kernel)) ggX10_differs_X10_of
set_option maxRecDepth 20000 in
theorem ggX10_differs_X10_fieldOf : GoodIn wsX10_differs wsX10_fieldOf := goodIn_r _ [13, 9, 14, 15, 16, 7, 17, 4, 5, 6, 8, 29, 30, 31, 32, 33, 34, 35, 36, 37, 38, 39, 40, 41, 42, 43] (by decide +kernel) (by decide +kernel)
set_option maxRecDepth 20000 in
theorem gX10_differs_X10_fieldOf : GoodIn wsX10_differs (wsV RX10 129 RX10 yX10_fieldOf wsX10_fieldOf) := goodIn_app (goodIn_of _ (by decide +kernel)) ggX10_differs_X10_fieldOf
set_option maxRecDepth 20000 in
theorem ggX10_differs_X10_ahead : GoodIn wsX10_differs wsX10_ahead := goodIn_r _ [21, 4, 5, 6, 7, 8, 9, 29, 30, 31, 32, 33, 34, 35, 36, 37, 38, 39, 40, 41, 42, 43] (by decide +kernel) (by decide +kernel)
set_option maxRecDepth 20000 in
theorem gX10_differs_X10_ahead : GoodIn wsX10_differs (wsV RX10 68 RX10 yX10_ahead wsX10_ahead) := goodIn_app (goodIn_of _ (by decide +kernel)) ggX10_differs_X10_ahead
set_option maxRecDepth 20000 in
theorem ggX10_differs_X10_latest : GoodIn wsX10_differs wsX10_latest := goodIn_r _ [25, 4, 5, 6, 7, 8, 9, 29, 30, 31, 32, 33, 34, 35, 36, 37, 38, 39, 40, 41, 42, 43] (by decide +kernel) (by decide +kernel)
set_option maxRecDepth 20000 in
theorem gX10_differs_X10_latest : GoodIn wsX10_differs (wsV RX10 71 RX10 yX10_latest wsX10_latest) := goodIn_app (goodIn_of _ (by decide +kernel)) ggX10_differs_X10_latest
set_option maxRecDepth 20000 in
theorem ggX10_differs_X10_made : GoodIn wsX10_differs wsX10_made := goodIn_r _ [28] (by decide +kernel) (by decide +kernel)
set_option maxRecDepth 20000 in
theorem gX10_differs_X10_made : GoodIn wsX10_differs (va_wsS RX10 125 yX10_made wsX10_made) := goodIn_app (goodIn_of _ (by decide +kernel)) ggX10_differs_X10_made
theorem dX10_differs_0 : decode cX10_differs 0 = .ok (.aload_n 0, 1) := by decide +kernel
theorem dX10_differs_1 : decode cX10_differs 1 = .ok (.iload_n 1, 1) := by decide +kernel
theorem dX10_differs_2 : decode cX10_differs 2 = .ok (.iload_n 2, 1) := by decide +kernel
theorem dX10_differs_3 : decode cX10_differs 3 = .ok (.iconst 0, 1) := by decide +kernel
theorem dX10_differs_4 : decode cX10_differs 4 = .ok (.invokevirtual 60, 3) := by decide +kernel
theorem dX10_differs_7 : decode cX10_differs 7 = .ok (.istore 5, 2) := by decide +kernel
theorem dX10_differs_9 : decode cX10_differs 9 = .ok (.aload_n 0, 1) := by decide +kernel
theorem dX10_differs_10 : decode cX10_differs 10 = .ok (.iload_n 1, 1) := by decide +kernel
theorem dX10_differs_11 : decode cX10_differs 11 = .ok (.iload_n 2, 1) := by decide +kernel
theorem dX10_differs_12 : decode cX10_differs 12 = .ok (.iconst 1, 1) := by decide +kernel
theorem dX10_differs_13 : decode cX10_differs 13 = .ok (.invokevirtual 60, 3) := by decide +kernel
theorem dX10_differs_16 : decode cX10_differs 16 = .ok (.istore 6, 2) := by decide +kernel
theorem dX10_differs_18 : decode cX10_differs 18 = .ok (.aload_n 0, 1) := by decide +kernel
theorem dX10_differs_19 : decode cX10_differs 19 = .ok (.iload_n 1, 1) := by decide +kernel
theorem dX10_differs_20 : decode cX10_differs 20 = .ok (.iload_n 2, 1) := by decide +kernel
theorem dX10_differs_21 : decode cX10_differs 21 = .ok (.iconst 2, 1) := by decide +kernel
theorem dX10_differs_22 : decode cX10_differs 22 = .ok (.invokevirtual 60, 3) := by decide +kernel
theorem dX10_differs_25 : decode cX10_differs 25 = .ok (.istore 7, 2) := by decide +kernel
theorem dX10_differs_27 : decode cX10_differs 27 = .ok (.iconst 3, 1) := by decide +kernel
theorem dX10_differs_28 : decode cX10_differs 28 = .ok (.iload_n 3, 1) := by decide +kernel
theorem dX10_differs_29 : decode cX10_differs 29 = .ok (.imul, 1) := by decide +kernel
theorem dX10_differs_30 : decode cX10_differs 30 = .ok (.iload 5, 2) := by decide +kernel
theorem dX10_differs_32 : decode cX10_differs 32 = .ok (.iadd, 1) := by decide +kernel
theorem dX10_differs_33 : decode cX10_differs 33 = .ok (.istore 8, 2) := by decide +kernel
theorem dX10_differs_35 : decode cX10_differs 35 = .ok (.aload_n 0, 1) := by decide +kernel
theorem dX10_differs_36 : decode cX10_differs 36 = .ok (.getfield 26, 3) := by decide +kernel
theorem dX10_differs_39 : decode cX10_differs 39 = .ok (.iload 8, 2) := by decide +kernel
theorem dX10_differs_41 : decode cX10_differs 41 = .ok (.iaload, 1) := by decide +kernel
theorem dX10_differs_42 : decode cX10_differs 42 = .ok (.ifCond .ge 5, 3) := by decide +kernel
theorem dX10_differs_45 : decode cX10_differs 45 = .ok (.iconst 0, 1) := by decide +kernel
theorem dX10_differs_46 : decode cX10_differs 46 = .ok (.ireturn, 1) := by decide +kernel
theorem dX10_differs_47 : decode cX10_differs 47 = .ok (.iconst 0, 1) := by decide +kernel
theorem dX10_differs_48 : decode cX10_differs 48 = .ok (.istore 9, 2) := by decide +kernel
theorem dX10_differs_50 : decode cX10_differs 50 = .ok (.iload 9, 2) := by decide +kernel
theorem dX10_differs_52 : decode cX10_differs 52 = .ok (.iconst 2, 1) := by decide +kernel
theorem dX10_differs_53 : decode cX10_differs 53 = .ok (.if_icmp .ge 46, 3) := by decide +kernel
theorem dX10_differs_56 : decode cX10_differs 56 = .ok (.aload_n 0, 1) := by decide +kernel
theorem dX10_differs_57 : decode cX10_differs 57 = .ok (.getfield 17, 3) := by decide +kernel
theorem dX10_differs_60 : decode cX10_differs 60 = .ok (.iconst 4, 1) := by decide +kernel
theorem dX10_differs_61 : decode cX10_differs 61 = .ok (.iload 5, 2) := by decide +kernel
theorem dX10_differs_63 : decode cX10_differs 63 = .ok (.imul, 1) := by decide +kernel
theorem dX10_differs_64 : decode cX10_differs 64 = .ok (.iconst 2, 1) := by decide +kernel
theorem dX10_differs_65 : decode cX10_differs 65 = .ok (.iload 9, 2) := by decide +kernel
theorem dX10_differs_67 : decode cX10_differs 67 = .ok (.imul, 1) := by decide +kernel
theorem dX10_differs_68 : decode cX10_differs 68 = .ok (.iadd, 1) := by decide +kernel
theorem dX10_differs_69 : decode cX10_differs 69 = .ok (.iaload, 1) := by decide +kernel
theorem dX10_differs_70 : decode cX10_differs 70 = .ok (.iconst 5, 1) := by decide +kernel
theorem dX10_differs_71 : decode cX10_differs 71 = .ok (.if_icmp .ne 22, 3) := by decide +kernel
theorem dX10_differs_74 : decode cX10_differs 74 = .ok (.aload_n 0, 1) := by decide +kernel
theorem dX10_differs_75 : decode cX10_differs 75 = .ok (.iload 5, 2) := by decide +kernel
theorem dX10_differs_77 : decode cX10_differs 77 = .ok (.iload 6, 2) := by decide +kernel
theorem dX10_differs_79 : decode cX10_differs 79 = .ok (.iload 7, 2) := by decide +kernel
theorem dX10_differs_81 : decode cX10_differs 81 = .ok (.iload 9, 2) := by decide +kernel
theorem dX10_differs_83 : decode cX10_differs 83 = .ok (.iload 4, 2) := by decide +kernel
theorem dX10_differs_85 : decode cX10_differs 85 = .ok (.invokevirtual 129, 3) := by decide +kernel
theorem dX10_differs_88 : decode cX10_differs 88 = .ok (.ifCond .ge 5, 3) := by decide +kernel
theorem dX10_differs_91 : decode cX10_differs 91 = .ok (.iconst 0, 1) := by decide +kernel
theorem dX10_differs_92 : decode cX10_differs 92 = .ok (.ireturn, 1) := by decide +kernel
theorem dX10_differs_93 : decode cX10_differs 93 = .ok (.iinc 9 1, 3) := by decide +kernel
theorem dX10_differs_96 : decode cX10_differs 96 = .ok (.goto (-46), 3) := by decide +kernel
theorem dX10_differs_99 : decode cX10_differs 99 = .ok (.aload_n 0, 1) := by decide +kernel
theorem dX10_differs_100 : decode cX10_differs 100 = .ok (.getfield 29, 3) := by decide +kernel
theorem dX10_differs_103 : decode cX10_differs 103 = .ok (.iload 8, 2) := by decide +kernel
theorem dX10_differs_105 : decode cX10_differs 105 = .ok (.iaload, 1) := by decide +kernel
theorem dX10_differs_106 : decode cX10_differs 106 = .ok (.aload_n 0, 1) := by decide +kernel
theorem dX10_differs_107 : decode cX10_differs 107 = .ok (.iload_n 1, 1) := by decide +kernel
theorem dX10_differs_108 : decode cX10_differs 108 = .ok (.iload_n 2, 1) := by decide +kernel
theorem dX10_differs_109 : decode cX10_differs 109 = .ok (.iconst 3, 1) := by decide +kernel
theorem dX10_differs_110 : decode cX10_differs 110 = .ok (.invokevirtual 60, 3) := by decide +kernel
theorem dX10_differs_113 : decode cX10_differs 113 = .ok (.if_icmp .eq 5, 3) := by decide +kernel
theorem dX10_differs_116 : decode cX10_differs 116 = .ok (.iconst 1, 1) := by decide +kernel
theorem dX10_differs_117 : decode cX10_differs 117 = .ok (.ireturn, 1) := by decide +kernel
theorem dX10_differs_118 : decode cX10_differs 118 = .ok (.iconst 0, 1) := by decide +kernel
theorem dX10_differs_119 : decode cX10_differs 119 = .ok (.istore 9, 2) := by decide +kernel
theorem dX10_differs_121 : decode cX10_differs 121 = .ok (.iload 9, 2) := by decide +kernel
theorem dX10_differs_123 : decode cX10_differs 123 = .ok (.iconst 2, 1) := by decide +kernel
theorem dX10_differs_124 : decode cX10_differs 124 = .ok (.if_icmp .ge 105, 3) := by decide +kernel
theorem dX10_differs_127 : decode cX10_differs 127 = .ok (.aload_n 0, 1) := by decide +kernel
theorem dX10_differs_128 : decode cX10_differs 128 = .ok (.getfield 17, 3) := by decide +kernel
theorem dX10_differs_131 : decode cX10_differs 131 = .ok (.iconst 4, 1) := by decide +kernel
theorem dX10_differs_132 : decode cX10_differs 132 = .ok (.iload 5, 2) := by decide +kernel
theorem dX10_differs_134 : decode cX10_differs 134 = .ok (.imul, 1) := by decide +kernel
theorem dX10_differs_135 : decode cX10_differs 135 = .ok (.iconst 2, 1) := by decide +kernel
theorem dX10_differs_136 : decode cX10_differs 136 = .ok (.iload 9, 2) := by decide +kernel
theorem dX10_differs_138 : decode cX10_differs 138 = .ok (.imul, 1) := by decide +kernel
theorem dX10_differs_139 : decode cX10_differs 139 = .ok (.iadd, 1) := by decide +kernel
theorem dX10_differs_140 : decode cX10_differs 140 = .ok (.iaload, 1) := by decide +kernel
theorem dX10_differs_141 : decode cX10_differs 141 = .ok (.istore 10, 2) := by decide +kernel
theorem dX10_differs_143 : decode cX10_differs 143 = .ok (.iload 10, 2) := by decide +kernel
theorem dX10_differs_145 : decode cX10_differs 145 = .ok (.aload_n 0, 1) := by decide +kernel
theorem dX10_differs_146 : decode cX10_differs 146 = .ok (.getfield 17, 3) := by decide +kernel
theorem dX10_differs_149 : decode cX10_differs 149 = .ok (.iconst 4, 1) := by decide +kernel
theorem dX10_differs_150 : decode cX10_differs 150 = .ok (.iload 5, 2) := by decide +kernel
theorem dX10_differs_152 : decode cX10_differs 152 = .ok (.imul, 1) := by decide +kernel
theorem dX10_differs_153 : decode cX10_differs 153 = .ok (.iconst 2, 1) := by decide +kernel
theorem dX10_differs_154 : decode cX10_differs 154 = .ok (.iload 9, 2) := by decide +kernel
theorem dX10_differs_156 : decode cX10_differs 156 = .ok (.imul, 1) := by decide +kernel
theorem dX10_differs_157 : decode cX10_differs 157 = .ok (.iadd, 1) := by decide +kernel
theorem dX10_differs_158 : decode cX10_differs 158 = .ok (.iconst 1, 1) := by decide +kernel
theorem dX10_differs_159 : decode cX10_differs 159 = .ok (.iadd, 1) := by decide +kernel
theorem dX10_differs_160 : decode cX10_differs 160 = .ok (.iaload, 1) := by decide +kernel
theorem dX10_differs_161 : decode cX10_differs 161 = .ok (.iload 6, 2) := by decide +kernel
theorem dX10_differs_163 : decode cX10_differs 163 = .ok (.iload 7, 2) := by decide +kernel
theorem dX10_differs_165 : decode cX10_differs 165 = .ok (.aload_n 0, 1) := by decide +kernel
theorem dX10_differs_166 : decode cX10_differs 166 = .ok (.iload_n 1, 1) := by decide +kernel
theorem dX10_differs_167 : decode cX10_differs 167 = .ok (.iload_n 2, 1) := by decide +kernel
theorem dX10_differs_168 : decode cX10_differs 168 = .ok (.invokevirtual 68, 3) := by decide +kernel
theorem dX10_differs_171 : decode cX10_differs 171 = .ok (.aload_n 0, 1) := by decide +kernel
theorem dX10_differs_172 : decode cX10_differs 172 = .ok (.iload_n 1, 1) := by decide +kernel
theorem dX10_differs_173 : decode cX10_differs 173 = .ok (.iload_n 2, 1) := by decide +kernel
theorem dX10_differs_174 : decode cX10_differs 174 = .ok (.invokevirtual 71, 3) := by decide +kernel
theorem dX10_differs_177 : decode cX10_differs 177 = .ok (.aload_n 0, 1) := by decide +kernel
theorem dX10_differs_178 : decode cX10_differs 178 = .ok (.iload 5, 2) := by decide +kernel
theorem dX10_differs_180 : decode cX10_differs 180 = .ok (.iload 6, 2) := by decide +kernel
theorem dX10_differs_182 : decode cX10_differs 182 = .ok (.iload 7, 2) := by decide +kernel
theorem dX10_differs_184 : decode cX10_differs 184 = .ok (.iload 9, 2) := by decide +kernel
theorem dX10_differs_186 : decode cX10_differs 186 = .ok (.iload 4, 2) := by decide +kernel
theorem dX10_differs_188 : decode cX10_differs 188 = .ok (.invokevirtual 129, 3) := by decide +kernel
theorem dX10_differs_191 : decode cX10_differs 191 = .ok (.invokestatic 125, 3) := by decide +kernel
theorem dX10_differs_194 : decode cX10_differs 194 = .ok (.istore 11, 2) := by decide +kernel
theorem dX10_differs_196 : decode cX10_differs 196 = .ok (.iload 10, 2) := by decide +kernel
theorem dX10_differs_198 : decode cX10_differs 198 = .ok (.bipush 6, 2) := by decide +kernel
theorem dX10_differs_200 : decode cX10_differs 200 = .ok (.if_icmp .eq 23, 3) := by decide +kernel
theorem dX10_differs_203 : decode cX10_differs 203 = .ok (.iload 11, 2) := by decide +kernel
theorem dX10_differs_205 : decode cX10_differs 205 = .ok (.aload_n 0, 1) := by decide +kernel
theorem dX10_differs_206 : decode cX10_differs 206 = .ok (.iload_n 1, 1) := by decide +kernel
theorem dX10_differs_207 : decode cX10_differs 207 = .ok (.iload_n 2, 1) := by decide +kernel
theorem dX10_differs_208 : decode cX10_differs 208 = .ok (.iconst 4, 1) := by decide +kernel
theorem dX10_differs_209 : decode cX10_differs 209 = .ok (.iload 9, 2) := by decide +kernel
theorem dX10_differs_211 : decode cX10_differs 211 = .ok (.iadd, 1) := by decide +kernel
theorem dX10_differs_212 : decode cX10_differs 212 = .ok (.invokevirtual 60, 3) := by decide +kernel
theorem dX10_differs_215 : decode cX10_differs 215 = .ok (.if_icmp .eq 8, 3) := by decide +kernel
theorem dX10_differs_218 : decode cX10_differs 218 = .ok (.iconst 2, 1) := by decide +kernel
theorem dX10_differs_219 : decode cX10_differs 219 = .ok (.iload 9, 2) := by decide +kernel
theorem dX10_differs_221 : decode cX10_differs 221 = .ok (.iadd, 1) := by decide +kernel
theorem dX10_differs_222 : decode cX10_differs 222 = .ok (.ireturn, 1) := by decide +kernel
theorem dX10_differs_223 : decode cX10_differs 223 = .ok (.iinc 9 1, 3) := by decide +kernel
theorem dX10_differs_226 : decode cX10_differs 226 = .ok (.goto (-105), 3) := by decide +kernel
theorem dX10_differs_229 : decode cX10_differs 229 = .ok (.iconst (-1), 1) := by decide +kernel
theorem dX10_differs_230 : decode cX10_differs 230 = .ok (.ireturn, 1) := by decide +kernel
set_option maxRecDepth 20000 in
theorem ggX10_parts_X10_isRow : GoodIn wsX10_parts wsX10_isRow := goodIn_r _ [6, 7, 8, 9, 5, 10, 90, 91, 92, 93, 94, 95, 96, 97, 98, 99, 100, 101, 102, 103, 104] (by decide +kernel) (by decide +kernel)
set_option maxRecDepth 20000 in
theorem gX10_parts_X10_isRow : GoodIn wsX10_parts (wsV RX10 51 RX10 yX10_isRow wsX10_isRow) := goodIn_app (goodIn_of _ (by decide +kernel)) ggX10_parts_X10_isRow
set_option maxRecDepth 20000 in
theorem ggX10_parts_X10_machine : GoodIn wsX10_parts wsX10_machine := goodIn_r _ [14, 1, 15, 16, 17, 18, 19, 5, 20, 7, 21, 22, 23, 24, 25, 26, 27, 28, 29, 30, 31, 32, 33, 34, 35, 36, 37, 38, 39, 40, 41, 42, 43, 44, 90, 91, 92, 93, 94, 95, 96, 97, 98, 99, 100, 101, 102, 103, 104] (by decide +kernel) (by decide +kernel)
set_option maxRecDepth 20000 in
theorem gX10_parts_X10_machine : GoodIn wsX10_parts (wsV RX10 115 RX10 yX10_machine wsX10_machine) := goodIn_app (goodIn_of _ (by decide +kernel)) ggX10_parts_X10_machine
set_option maxRecDepth 20000 in
theorem ggX10_parts_X10_rulesBut : GoodIn wsX10_parts wsX10_rulesBut := goodIn_r _ [48, 49, 50, 51, 5, 52, 53, 54, 55, 56, 57, 58, 7, 23, 24, 25, 26, 37, 38, 39, 40, 59, 60, 61, 62, 63, 64, 65, 66, 67, 68, 69, 70, 71, 72, 73, 74, 75, 76, 77, 78, 90, 91, 92, 93, 94, 95, 96, 97, 98, 99, 100, 101, 102, 103, 104] (by decide +kernel) (by decide +kernel)
set_option maxRecDepth 20000 in
theorem gX10_parts_X10_rulesBut : GoodIn wsX10_parts (wsV RX10 118 RX10 yX10_rulesBut wsX10_rulesBut) := goodIn_app (goodIn_of _ (by decide +kernel)) ggX10_parts_X10_rulesBut
set_option maxRecDepth 20000 in
theorem ggX10_parts_X10_sizeOf : GoodIn wsX10_parts wsX10_sizeOf := goodIn_r _ [26, 7, 90, 91, 92, 93, 94, 95, 96, 97, 98, 99, 100, 101, 102, 103, 104] (by decide +kernel) (by decide +kernel)
set_option maxRecDepth 20000 in
theorem gX10_parts_X10_sizeOf : GoodIn wsX10_parts (wsV RX10 56 RX10 yX10_sizeOf wsX10_sizeOf) := goodIn_app (goodIn_of _ (by decide +kernel)) ggX10_parts_X10_sizeOf
set_option maxRecDepth 20000 in
theorem ggX10_parts_X10_differs : GoodIn wsX10_parts wsX10_differs := goodIn_r _ [82, 1, 53, 15, 37, 38, 39, 5, 40, 7, 83, 84, 85, 86, 23, 24, 25, 26, 71, 72, 73, 74, 75, 76, 77, 78, 87, 88, 89, 90, 91, 92, 93, 94, 95, 96, 97, 98, 99, 100, 101, 102, 103, 104] (by decide +kernel) (by decide +kernel)
set_option maxRecDepth 20000 in
theorem gX10_parts_X10_differs : GoodIn wsX10_parts (wsV RX10 133 RX10 yX10_differs wsX10_differs) := goodIn_app (goodIn_of _ (by decide +kernel)) ggX10_parts_X10_differs
set_option maxRecDepth 20000 in
theorem ggX10_parts_X10_of : GoodIn wsX10_parts wsX10_of := goodIn_r _ [40, 7, 90, 91, 92, 93, 94, 95, 96, 97, 98, 99, 100, 101, 102, 103, 104] (by decide +kernel) (by decide +kernel)
set_option maxRecDepth 20000 in
theorem gX10_parts_X10_of : GoodIn wsX10_parts (wsV RX10 60 RX10 yX10_of wsX10_of) := goodIn_app (goodIn_of _ (by decide +kernel)) ggX10_parts_X10_of
theorem dX10_parts_0 : decode cX10_parts 0 = .ok (.aload_n 0, 1) := by decide +kernel
theorem dX10_parts_1 : decode cX10_parts 1 = .ok (.iload_n 1, 1) := by decide +kernel
theorem dX10_parts_2 : decode cX10_parts 2 = .ok (.invokevirtual 51, 3) := by decide +kernel
theorem dX10_parts_5 : decode cX10_parts 5 = .ok (.ifCond .eq 12, 3) := by decide +kernel
theorem dX10_parts_8 : decode cX10_parts 8 = .ok (.aload_n 0, 1) := by decide +kernel
theorem dX10_parts_9 : decode cX10_parts 9 = .ok (.iload_n 2, 1) := by decide +kernel
theorem dX10_parts_10 : decode cX10_parts 10 = .ok (.invokevirtual 115, 3) := by decide +kernel
theorem dX10_parts_13 : decode cX10_parts 13 = .ok (.iconst 1, 1) := by decide +kernel
theorem dX10_parts_14 : decode cX10_parts 14 = .ok (.if_icmp .ge 5, 3) := by decide +kernel
theorem dX10_parts_17 : decode cX10_parts 17 = .ok (.iconst (-1), 1) := by decide +kernel
theorem dX10_parts_18 : decode cX10_parts 18 = .ok (.ireturn, 1) := by decide +kernel
theorem dX10_parts_19 : decode cX10_parts 19 = .ok (.aload_n 0, 1) := by decide +kernel
theorem dX10_parts_20 : decode cX10_parts 20 = .ok (.iload_n 2, 1) := by decide +kernel
theorem dX10_parts_21 : decode cX10_parts 21 = .ok (.invokevirtual 118, 3) := by decide +kernel
theorem dX10_parts_24 : decode cX10_parts 24 = .ok (.iconst 0, 1) := by decide +kernel
theorem dX10_parts_25 : decode cX10_parts 25 = .ok (.istore_n 3, 1) := by decide +kernel
theorem dX10_parts_26 : decode cX10_parts 26 = .ok (.iconst 0, 1) := by decide +kernel
theorem dX10_parts_27 : decode cX10_parts 27 = .ok (.istore 4, 2) := by decide +kernel
theorem dX10_parts_29 : decode cX10_parts 29 = .ok (.iload 4, 2) := by decide +kernel
theorem dX10_parts_31 : decode cX10_parts 31 = .ok (.aload_n 0, 1) := by decide +kernel
theorem dX10_parts_32 : decode cX10_parts 32 = .ok (.iload_n 1, 1) := by decide +kernel
theorem dX10_parts_33 : decode cX10_parts 33 = .ok (.invokevirtual 56, 3) := by decide +kernel
theorem dX10_parts_36 : decode cX10_parts 36 = .ok (.if_icmp .ge 51, 3) := by decide +kernel
theorem dX10_parts_39 : decode cX10_parts 39 = .ok (.aload_n 0, 1) := by decide +kernel
theorem dX10_parts_40 : decode cX10_parts 40 = .ok (.iload_n 1, 1) := by decide +kernel
theorem dX10_parts_41 : decode cX10_parts 41 = .ok (.iload 4, 2) := by decide +kernel
theorem dX10_parts_43 : decode cX10_parts 43 = .ok (.iload_n 3, 1) := by decide +kernel
theorem dX10_parts_44 : decode cX10_parts 44 = .ok (.iload_n 2, 1) := by decide +kernel
theorem dX10_parts_45 : decode cX10_parts 45 = .ok (.invokevirtual 133, 3) := by decide +kernel
theorem dX10_parts_48 : decode cX10_parts 48 = .ok (.istore 5, 2) := by decide +kernel
theorem dX10_parts_50 : decode cX10_parts 50 = .ok (.iload 5, 2) := by decide +kernel
theorem dX10_parts_52 : decode cX10_parts 52 = .ok (.ifCond .lt 11, 3) := by decide +kernel
theorem dX10_parts_55 : decode cX10_parts 55 = .ok (.iconst 4, 1) := by decide +kernel
theorem dX10_parts_56 : decode cX10_parts 56 = .ok (.iload 4, 2) := by decide +kernel
theorem dX10_parts_58 : decode cX10_parts 58 = .ok (.imul, 1) := by decide +kernel
theorem dX10_parts_59 : decode cX10_parts 59 = .ok (.iload 5, 2) := by decide +kernel
theorem dX10_parts_61 : decode cX10_parts 61 = .ok (.iadd, 1) := by decide +kernel
theorem dX10_parts_62 : decode cX10_parts 62 = .ok (.ireturn, 1) := by decide +kernel
theorem dX10_parts_63 : decode cX10_parts 63 = .ok (.aload_n 0, 1) := by decide +kernel
theorem dX10_parts_64 : decode cX10_parts 64 = .ok (.getfield 26, 3) := by decide +kernel
theorem dX10_parts_67 : decode cX10_parts 67 = .ok (.iconst 3, 1) := by decide +kernel
theorem dX10_parts_68 : decode cX10_parts 68 = .ok (.iload_n 3, 1) := by decide +kernel
theorem dX10_parts_69 : decode cX10_parts 69 = .ok (.imul, 1) := by decide +kernel
theorem dX10_parts_70 : decode cX10_parts 70 = .ok (.aload_n 0, 1) := by decide +kernel
theorem dX10_parts_71 : decode cX10_parts 71 = .ok (.iload_n 1, 1) := by decide +kernel
theorem dX10_parts_72 : decode cX10_parts 72 = .ok (.iload 4, 2) := by decide +kernel
theorem dX10_parts_74 : decode cX10_parts 74 = .ok (.iconst 0, 1) := by decide +kernel
theorem dX10_parts_75 : decode cX10_parts 75 = .ok (.invokevirtual 60, 3) := by decide +kernel
theorem dX10_parts_78 : decode cX10_parts 78 = .ok (.iadd, 1) := by decide +kernel
theorem dX10_parts_79 : decode cX10_parts 79 = .ok (.iaload, 1) := by decide +kernel
theorem dX10_parts_80 : decode cX10_parts 80 = .ok (.istore_n 3, 1) := by decide +kernel
theorem dX10_parts_81 : decode cX10_parts 81 = .ok (.iinc 4 1, 3) := by decide +kernel
theorem dX10_parts_84 : decode cX10_parts 84 = .ok (.goto (-55), 3) := by decide +kernel
theorem dX10_parts_87 : decode cX10_parts 87 = .ok (.iconst (-1), 1) := by decide +kernel
theorem dX10_parts_88 : decode cX10_parts 88 = .ok (.ireturn, 1) := by decide +kernel
theorem dX10_part_0 : decode cX10_part 0 = .ok (.iload_n 0, 1) := by decide +kernel
theorem dX10_part_1 : decode cX10_part 1 = .ok (.ifCond .ge 7, 3) := by decide +kernel
theorem dX10_part_4 : decode cX10_part 4 = .ok (.iconst (-1), 1) := by decide +kernel
theorem dX10_part_5 : decode cX10_part 5 = .ok (.goto 25, 3) := by decide +kernel
theorem dX10_part_8 : decode cX10_part 8 = .ok (.iload_n 1, 1) := by decide +kernel
theorem dX10_part_9 : decode cX10_part 9 = .ok (.ifCond .ne 9, 3) := by decide +kernel
theorem dX10_part_12 : decode cX10_part 12 = .ok (.iload_n 0, 1) := by decide +kernel
theorem dX10_part_13 : decode cX10_part 13 = .ok (.iconst 4, 1) := by decide +kernel
theorem dX10_part_14 : decode cX10_part 14 = .ok (.idiv, 1) := by decide +kernel
theorem dX10_part_15 : decode cX10_part 15 = .ok (.goto 15, 3) := by decide +kernel
theorem dX10_part_18 : decode cX10_part 18 = .ok (.iload_n 1, 1) := by decide +kernel
theorem dX10_part_19 : decode cX10_part 19 = .ok (.iconst 1, 1) := by decide +kernel
theorem dX10_part_20 : decode cX10_part 20 = .ok (.if_icmp .ne 9, 3) := by decide +kernel
theorem dX10_part_23 : decode cX10_part 23 = .ok (.iload_n 0, 1) := by decide +kernel
theorem dX10_part_24 : decode cX10_part 24 = .ok (.iconst 4, 1) := by decide +kernel
theorem dX10_part_25 : decode cX10_part 25 = .ok (.irem, 1) := by decide +kernel
theorem dX10_part_26 : decode cX10_part 26 = .ok (.goto 4, 3) := by decide +kernel
theorem dX10_part_29 : decode cX10_part 29 = .ok (.iconst (-1), 1) := by decide +kernel
theorem dX10_part_30 : decode cX10_part 30 = .ok (.ireturn, 1) := by decide +kernel
set_option maxRecDepth 20000 in
theorem ggX10_held_X10_parts_p0 : GoodIn wsX10_held ((wsX10_parts.drop 0).take 40) := goodIn_r _ [5, 6, 7, 8, 9, 4, 10, 11, 12, 13, 14, 15, 16, 17, 18, 19, 20, 21, 22, 23, 24, 25, 26, 27, 28, 29, 30, 31, 32, 33, 34, 35, 36, 37, 38, 39, 40, 41, 42, 43] (by decide +kernel) (by decide +kernel)
set_option maxRecDepth 20000 in
theorem ggX10_held_X10_parts_p1 : GoodIn wsX10_held ((wsX10_parts.drop 40).take 40) := goodIn_r _ [44, 45, 46, 47, 48, 49, 50, 51, 52, 53, 54, 55, 56, 57, 58, 59, 60, 61, 62, 63, 64, 65, 66, 67, 68, 69, 70, 71, 72, 73, 74, 75, 76, 77, 78, 79, 80, 81, 82, 83] (by decide +kernel) (by decide +kernel)
set_option maxRecDepth 20000 in
theorem ggX10_held_X10_parts_p2 : GoodIn wsX10_held (wsX10_parts.drop 80) := goodIn_r _ [84, 85, 86, 87, 88, 89, 90, 91, 92, 93, 97, 98, 99, 100, 101, 102, 103, 104, 105, 106, 107, 108, 109, 110, 111] (by decide +kernel) (by decide +kernel)
theorem ggX10_held_X10_parts : GoodIn wsX10_held wsX10_parts := (goodIn_td 0 40 ggX10_held_X10_parts_p0 (goodIn_td 40 40 ggX10_held_X10_parts_p1 ggX10_held_X10_parts_p2))
set_option maxRecDepth 20000 in
theorem gX10_held_X10_parts : GoodIn wsX10_held (wsV RX10 136 RX10 yX10_parts wsX10_parts) := goodIn_app (goodIn_of _ (by decide +kernel)) ggX10_held_X10_parts
set_option maxRecDepth 20000 in
theorem ggX10_held_X10_part : GoodIn wsX10_held wsX10_part := goodIn_r _ [96] (by decide +kernel) (by decide +kernel)
set_option maxRecDepth 20000 in
theorem gX10_held_X10_part : GoodIn wsX10_held (va_wsS RX10 139 yX10_part wsX10_part) := goodIn_app (goodIn_of _ (by decide +kernel)) ggX10_held_X10_part
theorem dX10_held_0 : decode cX10_held 0 = .ok (.aload_n 0, 1) := by decide +kernel
theorem dX10_held_1 : decode cX10_held 1 = .ok (.iload_n 1, 1) := by decide +kernel
theorem dX10_held_2 : decode cX10_held 2 = .ok (.iconst (-1), 1) := by decide +kernel
theorem dX10_held_3 : decode cX10_held 3 = .ok (.invokevirtual 136, 3) := by decide +kernel
theorem dX10_held_6 : decode cX10_held 6 = .ok (.iload_n 2, 1) := by decide +kernel
theorem dX10_held_7 : decode cX10_held 7 = .ok (.invokestatic 139, 3) := by decide +kernel
theorem dX10_held_10 : decode cX10_held 10 = .ok (.ireturn, 1) := by decide +kernel
set_option maxRecDepth 20000 in
theorem ggX10_fresh_X10_parts_p0 : GoodIn wsX10_fresh ((wsX10_parts.drop 0).take 40) := goodIn_r _ [5, 6, 7, 8, 9, 4, 10, 11, 12, 13, 14, 15, 16, 17, 18, 19, 20, 21, 22, 23, 24, 25, 26, 27, 28, 29, 30, 31, 32, 33, 34, 35, 36, 37, 38, 39, 40, 41, 42, 43] (by decide +kernel) (by decide +kernel)
set_option maxRecDepth 20000 in
theorem ggX10_fresh_X10_parts_p1 : GoodIn wsX10_fresh ((wsX10_parts.drop 40).take 40) := goodIn_r _ [44, 45, 46, 47, 48, 49, 50, 51, 52, 53, 54, 55, 56, 57, 58, 59, 60, 61, 62, 63, 64, 65, 66, 67, 68, 69, 70, 71, 72, 73, 74, 75, 76, 77, 78, 79, 80, 81, 82, 83] (by decide +kernel) (by decide +kernel)
set_option maxRecDepth 20000 in
theorem ggX10_fresh_X10_parts_p2 : GoodIn wsX10_fresh (wsX10_parts.drop 80) := goodIn_r _ [84, 85, 86, 87, 88, 89, 90, 91, 92, 93, 97, 98, 99, 100, 101, 102, 103, 104, 105, 106, 107, 108, 109, 110, 111] (by decide +kernel) (by decide +kernel)
theorem ggX10_fresh_X10_parts : GoodIn wsX10_fresh wsX10_parts := (goodIn_td 0 40 ggX10_fresh_X10_parts_p0 (goodIn_td 40 40 ggX10_fresh_X10_parts_p1 ggX10_fresh_X10_parts_p2))
set_option maxRecDepth 20000 in
theorem gX10_fresh_X10_parts : GoodIn wsX10_fresh (wsV RX10 136 RX10 yX10_parts wsX10_parts) := goodIn_app (goodIn_of _ (by decide +kernel)) ggX10_fresh_X10_parts
set_option maxRecDepth 20000 in
theorem ggX10_fresh_X10_part : GoodIn wsX10_fresh wsX10_part := goodIn_r _ [96] (by decide +kernel) (by decide +kernel)
set_option maxRecDepth 20000 in
theorem gX10_fresh_X10_part : GoodIn wsX10_fresh (va_wsS RX10 139 yX10_part wsX10_part) := goodIn_app (goodIn_of _ (by decide +kernel)) ggX10_fresh_X10_part
theorem dX10_fresh_0 : decode cX10_fresh 0 = .ok (.aload_n 0, 1) := by decide +kernel
theorem dX10_fresh_1 : decode cX10_fresh 1 = .ok (.iload_n 1, 1) := by decide +kernel
theorem dX10_fresh_2 : decode cX10_fresh 2 = .ok (.iload_n 1, 1) := by decide +kernel
theorem dX10_fresh_3 : decode cX10_fresh 3 = .ok (.invokevirtual 136, 3) := by decide +kernel
theorem dX10_fresh_6 : decode cX10_fresh 6 = .ok (.iload_n 2, 1) := by decide +kernel
theorem dX10_fresh_7 : decode cX10_fresh 7 = .ok (.invokestatic 139, 3) := by decide +kernel
theorem dX10_fresh_10 : decode cX10_fresh 10 = .ok (.ireturn, 1) := by decide +kernel
set_option maxRecDepth 20000 in
theorem ggX10_count_X10_sizeOf : GoodIn wsX10_count wsX10_sizeOf := goodIn_r _ [6, 1, 18, 19, 20, 21, 22, 23, 24, 25, 26, 27, 28, 29, 30, 31, 32] (by decide +kernel) (by decide +kernel)
set_option maxRecDepth 20000 in
theorem gX10_count_X10_sizeOf : GoodIn wsX10_count (wsV RX10 56 RX10 yX10_sizeOf wsX10_sizeOf) := goodIn_app (goodIn_of _ (by decide +kernel)) ggX10_count_X10_sizeOf
set_option maxRecDepth 20000 in
theorem ggX10_count_X10_of : GoodIn wsX10_count wsX10_of := goodIn_r _ [10, 1, 18, 19, 20, 21, 22, 23, 24, 25, 26, 27, 28, 29, 30, 31, 32] (by decide +kernel) (by decide +kernel)
set_option maxRecDepth 20000 in
theorem gX10_count_X10_of : GoodIn wsX10_count (wsV RX10 60 RX10 yX10_of wsX10_of) := goodIn_app (goodIn_of _ (by decide +kernel)) ggX10_count_X10_of
set_option maxRecDepth 20000 in
theorem ggX10_count_X10_isFirst : GoodIn wsX10_count wsX10_isFirst := goodIn_r _ [14, 2, 3, 4, 5, 6, 1, 7, 8, 9, 10, 18, 19, 20, 21, 22, 23, 24, 25, 26, 27, 28, 29, 30, 31, 32] (by decide +kernel) (by decide +kernel)
set_option maxRecDepth 20000 in
theorem gX10_count_X10_isFirst : GoodIn wsX10_count (wsV RX10 142 RX10 yX10_isFirst wsX10_isFirst) := goodIn_app (goodIn_of _ (by decide +kernel)) ggX10_count_X10_isFirst
set_option maxRecDepth 20000 in
theorem ggX10_count_X10_isIn : GoodIn wsX10_count wsX10_isIn := goodIn_r _ [17] (by decide +kernel) (by decide +kernel)
set_option maxRecDepth 20000 in
theorem gX10_count_X10_isIn : GoodIn wsX10_count (va_wsS RX10 47 yX10_isIn wsX10_isIn) := goodIn_app (goodIn_of _ (by decide +kernel)) ggX10_count_X10_isIn
theorem dX10_count_0 : decode cX10_count 0 = .ok (.iconst 0, 1) := by decide +kernel
theorem dX10_count_1 : decode cX10_count 1 = .ok (.istore_n 2, 1) := by decide +kernel
theorem dX10_count_2 : decode cX10_count 2 = .ok (.iconst 0, 1) := by decide +kernel
theorem dX10_count_3 : decode cX10_count 3 = .ok (.istore_n 3, 1) := by decide +kernel
theorem dX10_count_4 : decode cX10_count 4 = .ok (.iconst 0, 1) := by decide +kernel
theorem dX10_count_5 : decode cX10_count 5 = .ok (.istore 4, 2) := by decide +kernel
theorem dX10_count_7 : decode cX10_count 7 = .ok (.iload 4, 2) := by decide +kernel
theorem dX10_count_9 : decode cX10_count 9 = .ok (.aload_n 0, 1) := by decide +kernel
theorem dX10_count_10 : decode cX10_count 10 = .ok (.getfield 7, 3) := by decide +kernel
theorem dX10_count_13 : decode cX10_count 13 = .ok (.iconst 0, 1) := by decide +kernel
theorem dX10_count_14 : decode cX10_count 14 = .ok (.iaload, 1) := by decide +kernel
theorem dX10_count_15 : decode cX10_count 15 = .ok (.if_icmp .ge 81, 3) := by decide +kernel
theorem dX10_count_18 : decode cX10_count 18 = .ok (.iconst 0, 1) := by decide +kernel
theorem dX10_count_19 : decode cX10_count 19 = .ok (.istore 5, 2) := by decide +kernel
theorem dX10_count_21 : decode cX10_count 21 = .ok (.iload 5, 2) := by decide +kernel
theorem dX10_count_23 : decode cX10_count 23 = .ok (.aload_n 0, 1) := by decide +kernel
theorem dX10_count_24 : decode cX10_count 24 = .ok (.iload 4, 2) := by decide +kernel
theorem dX10_count_26 : decode cX10_count 26 = .ok (.invokevirtual 56, 3) := by decide +kernel
theorem dX10_count_29 : decode cX10_count 29 = .ok (.if_icmp .ge 61, 3) := by decide +kernel
theorem dX10_count_32 : decode cX10_count 32 = .ok (.iload_n 2, 1) := by decide +kernel
theorem dX10_count_33 : decode cX10_count 33 = .ok (.iload_n 1, 1) := by decide +kernel
theorem dX10_count_34 : decode cX10_count 34 = .ok (.iconst 2, 1) := by decide +kernel
theorem dX10_count_35 : decode cX10_count 35 = .ok (.if_icmp .lt 23, 3) := by decide +kernel
theorem dX10_count_38 : decode cX10_count 38 = .ok (.iload_n 1, 1) := by decide +kernel
theorem dX10_count_39 : decode cX10_count 39 = .ok (.iconst 4, 1) := by decide +kernel
theorem dX10_count_40 : decode cX10_count 40 = .ok (.if_icmp .gt 18, 3) := by decide +kernel
theorem dX10_count_43 : decode cX10_count 43 = .ok (.aload_n 0, 1) := by decide +kernel
theorem dX10_count_44 : decode cX10_count 44 = .ok (.iload 4, 2) := by decide +kernel
theorem dX10_count_46 : decode cX10_count 46 = .ok (.iload 5, 2) := by decide +kernel
theorem dX10_count_48 : decode cX10_count 48 = .ok (.iconst 0, 1) := by decide +kernel
theorem dX10_count_49 : decode cX10_count 49 = .ok (.invokevirtual 60, 3) := by decide +kernel
theorem dX10_count_52 : decode cX10_count 52 = .ok (.iload_n 1, 1) := by decide +kernel
theorem dX10_count_53 : decode cX10_count 53 = .ok (.iconst 2, 1) := by decide +kernel
theorem dX10_count_54 : decode cX10_count 54 = .ok (.isub, 1) := by decide +kernel
theorem dX10_count_55 : decode cX10_count 55 = .ok (.if_icmp .ne 7, 3) := by decide +kernel
theorem dX10_count_58 : decode cX10_count 58 = .ok (.iconst 1, 1) := by decide +kernel
theorem dX10_count_59 : decode cX10_count 59 = .ok (.goto 4, 3) := by decide +kernel
theorem dX10_count_62 : decode cX10_count 62 = .ok (.iconst 0, 1) := by decide +kernel
theorem dX10_count_63 : decode cX10_count 63 = .ok (.iadd, 1) := by decide +kernel
theorem dX10_count_64 : decode cX10_count 64 = .ok (.istore_n 2, 1) := by decide +kernel
theorem dX10_count_65 : decode cX10_count 65 = .ok (.iload_n 3, 1) := by decide +kernel
theorem dX10_count_66 : decode cX10_count 66 = .ok (.aload_n 0, 1) := by decide +kernel
theorem dX10_count_67 : decode cX10_count 67 = .ok (.iload 4, 2) := by decide +kernel
theorem dX10_count_69 : decode cX10_count 69 = .ok (.iload 5, 2) := by decide +kernel
theorem dX10_count_71 : decode cX10_count 71 = .ok (.invokevirtual 142, 3) := by decide +kernel
theorem dX10_count_74 : decode cX10_count 74 = .ok (.ifCond .eq 7, 3) := by decide +kernel
theorem dX10_count_77 : decode cX10_count 77 = .ok (.iconst 1, 1) := by decide +kernel
theorem dX10_count_78 : decode cX10_count 78 = .ok (.goto 4, 3) := by decide +kernel
theorem dX10_count_81 : decode cX10_count 81 = .ok (.iconst 0, 1) := by decide +kernel
theorem dX10_count_82 : decode cX10_count 82 = .ok (.iadd, 1) := by decide +kernel
theorem dX10_count_83 : decode cX10_count 83 = .ok (.istore_n 3, 1) := by decide +kernel
theorem dX10_count_84 : decode cX10_count 84 = .ok (.iinc 5 1, 3) := by decide +kernel
theorem dX10_count_87 : decode cX10_count 87 = .ok (.goto (-66), 3) := by decide +kernel
theorem dX10_count_90 : decode cX10_count 90 = .ok (.iinc 4 1, 3) := by decide +kernel
theorem dX10_count_93 : decode cX10_count 93 = .ok (.goto (-86), 3) := by decide +kernel
theorem dX10_count_96 : decode cX10_count 96 = .ok (.iload_n 1, 1) := by decide +kernel
theorem dX10_count_97 : decode cX10_count 97 = .ok (.ifCond .ne 12, 3) := by decide +kernel
theorem dX10_count_100 : decode cX10_count 100 = .ok (.aload_n 0, 1) := by decide +kernel
theorem dX10_count_101 : decode cX10_count 101 = .ok (.getfield 7, 3) := by decide +kernel
theorem dX10_count_104 : decode cX10_count 104 = .ok (.iconst 0, 1) := by decide +kernel
theorem dX10_count_105 : decode cX10_count 105 = .ok (.iaload, 1) := by decide +kernel
theorem dX10_count_106 : decode cX10_count 106 = .ok (.goto 26, 3) := by decide +kernel
theorem dX10_count_109 : decode cX10_count 109 = .ok (.iload_n 1, 1) := by decide +kernel
theorem dX10_count_110 : decode cX10_count 110 = .ok (.iconst 1, 1) := by decide +kernel
theorem dX10_count_111 : decode cX10_count 111 = .ok (.iconst 4, 1) := by decide +kernel
theorem dX10_count_112 : decode cX10_count 112 = .ok (.invokestatic 47, 3) := by decide +kernel
theorem dX10_count_115 : decode cX10_count 115 = .ok (.ifCond .eq 7, 3) := by decide +kernel
theorem dX10_count_118 : decode cX10_count 118 = .ok (.iload_n 2, 1) := by decide +kernel
theorem dX10_count_119 : decode cX10_count 119 = .ok (.goto 13, 3) := by decide +kernel
theorem dX10_count_122 : decode cX10_count 122 = .ok (.iload_n 1, 1) := by decide +kernel
theorem dX10_count_123 : decode cX10_count 123 = .ok (.iconst 5, 1) := by decide +kernel
theorem dX10_count_124 : decode cX10_count 124 = .ok (.if_icmp .ne 7, 3) := by decide +kernel
theorem dX10_count_127 : decode cX10_count 127 = .ok (.iload_n 3, 1) := by decide +kernel
theorem dX10_count_128 : decode cX10_count 128 = .ok (.goto 4, 3) := by decide +kernel
theorem dX10_count_131 : decode cX10_count 131 = .ok (.iconst (-1), 1) := by decide +kernel
theorem dX10_count_132 : decode cX10_count 132 = .ok (.ireturn, 1) := by decide +kernel
set_option maxRecDepth 20000 in
theorem ggX10_isFirst_X10_sizeOf : GoodIn wsX10_isFirst wsX10_sizeOf := goodIn_r _ [5, 6, 11, 12, 13, 14, 15, 16, 17, 18, 19, 20, 21, 22, 23, 24, 25] (by decide +kernel) (by decide +kernel)
set_option maxRecDepth 20000 in
theorem gX10_isFirst_X10_sizeOf : GoodIn wsX10_isFirst (wsV RX10 56 RX10 yX10_sizeOf wsX10_sizeOf) := goodIn_app (goodIn_of _ (by decide +kernel)) ggX10_isFirst_X10_sizeOf
set_option maxRecDepth 20000 in
theorem ggX10_isFirst_X10_of : GoodIn wsX10_isFirst wsX10_of := goodIn_r _ [10, 6, 11, 12, 13, 14, 15, 16, 17, 18, 19, 20, 21, 22, 23, 24, 25] (by decide +kernel) (by decide +kernel)
set_option maxRecDepth 20000 in
theorem gX10_isFirst_X10_of : GoodIn wsX10_isFirst (wsV RX10 60 RX10 yX10_of wsX10_of) := goodIn_app (goodIn_of _ (by decide +kernel)) ggX10_isFirst_X10_of
theorem dX10_isFirst_0 : decode cX10_isFirst 0 = .ok (.iconst 0, 1) := by decide +kernel
theorem dX10_isFirst_1 : decode cX10_isFirst 1 = .ok (.istore_n 3, 1) := by decide +kernel
theorem dX10_isFirst_2 : decode cX10_isFirst 2 = .ok (.iload_n 3, 1) := by decide +kernel
theorem dX10_isFirst_3 : decode cX10_isFirst 3 = .ok (.iload_n 1, 1) := by decide +kernel
theorem dX10_isFirst_4 : decode cX10_isFirst 4 = .ok (.if_icmp .gt 93, 3) := by decide +kernel
theorem dX10_isFirst_7 : decode cX10_isFirst 7 = .ok (.iconst 0, 1) := by decide +kernel
theorem dX10_isFirst_8 : decode cX10_isFirst 8 = .ok (.istore 4, 2) := by decide +kernel
theorem dX10_isFirst_10 : decode cX10_isFirst 10 = .ok (.iload 4, 2) := by decide +kernel
theorem dX10_isFirst_12 : decode cX10_isFirst 12 = .ok (.iload_n 3, 1) := by decide +kernel
theorem dX10_isFirst_13 : decode cX10_isFirst 13 = .ok (.iload_n 1, 1) := by decide +kernel
theorem dX10_isFirst_14 : decode cX10_isFirst 14 = .ok (.if_icmp .ne 7, 3) := by decide +kernel
theorem dX10_isFirst_17 : decode cX10_isFirst 17 = .ok (.iload_n 2, 1) := by decide +kernel
theorem dX10_isFirst_18 : decode cX10_isFirst 18 = .ok (.goto 8, 3) := by decide +kernel
theorem dX10_isFirst_21 : decode cX10_isFirst 21 = .ok (.aload_n 0, 1) := by decide +kernel
theorem dX10_isFirst_22 : decode cX10_isFirst 22 = .ok (.iload_n 3, 1) := by decide +kernel
theorem dX10_isFirst_23 : decode cX10_isFirst 23 = .ok (.invokevirtual 56, 3) := by decide +kernel
theorem dX10_isFirst_26 : decode cX10_isFirst 26 = .ok (.if_icmp .ge 65, 3) := by decide +kernel
theorem dX10_isFirst_29 : decode cX10_isFirst 29 = .ok (.aload_n 0, 1) := by decide +kernel
theorem dX10_isFirst_30 : decode cX10_isFirst 30 = .ok (.iload_n 3, 1) := by decide +kernel
theorem dX10_isFirst_31 : decode cX10_isFirst 31 = .ok (.iload 4, 2) := by decide +kernel
theorem dX10_isFirst_33 : decode cX10_isFirst 33 = .ok (.iconst 0, 1) := by decide +kernel
theorem dX10_isFirst_34 : decode cX10_isFirst 34 = .ok (.invokevirtual 60, 3) := by decide +kernel
theorem dX10_isFirst_37 : decode cX10_isFirst 37 = .ok (.aload_n 0, 1) := by decide +kernel
theorem dX10_isFirst_38 : decode cX10_isFirst 38 = .ok (.iload_n 1, 1) := by decide +kernel
theorem dX10_isFirst_39 : decode cX10_isFirst 39 = .ok (.iload_n 2, 1) := by decide +kernel
theorem dX10_isFirst_40 : decode cX10_isFirst 40 = .ok (.iconst 0, 1) := by decide +kernel
theorem dX10_isFirst_41 : decode cX10_isFirst 41 = .ok (.invokevirtual 60, 3) := by decide +kernel
theorem dX10_isFirst_44 : decode cX10_isFirst 44 = .ok (.if_icmp .ne 41, 3) := by decide +kernel
theorem dX10_isFirst_47 : decode cX10_isFirst 47 = .ok (.aload_n 0, 1) := by decide +kernel
theorem dX10_isFirst_48 : decode cX10_isFirst 48 = .ok (.iload_n 3, 1) := by decide +kernel
theorem dX10_isFirst_49 : decode cX10_isFirst 49 = .ok (.iload 4, 2) := by decide +kernel
theorem dX10_isFirst_51 : decode cX10_isFirst 51 = .ok (.iconst 1, 1) := by decide +kernel
theorem dX10_isFirst_52 : decode cX10_isFirst 52 = .ok (.invokevirtual 60, 3) := by decide +kernel
theorem dX10_isFirst_55 : decode cX10_isFirst 55 = .ok (.aload_n 0, 1) := by decide +kernel
theorem dX10_isFirst_56 : decode cX10_isFirst 56 = .ok (.iload_n 1, 1) := by decide +kernel
theorem dX10_isFirst_57 : decode cX10_isFirst 57 = .ok (.iload_n 2, 1) := by decide +kernel
theorem dX10_isFirst_58 : decode cX10_isFirst 58 = .ok (.iconst 1, 1) := by decide +kernel
theorem dX10_isFirst_59 : decode cX10_isFirst 59 = .ok (.invokevirtual 60, 3) := by decide +kernel
theorem dX10_isFirst_62 : decode cX10_isFirst 62 = .ok (.if_icmp .ne 23, 3) := by decide +kernel
theorem dX10_isFirst_65 : decode cX10_isFirst 65 = .ok (.aload_n 0, 1) := by decide +kernel
theorem dX10_isFirst_66 : decode cX10_isFirst 66 = .ok (.iload_n 3, 1) := by decide +kernel
theorem dX10_isFirst_67 : decode cX10_isFirst 67 = .ok (.iload 4, 2) := by decide +kernel
theorem dX10_isFirst_69 : decode cX10_isFirst 69 = .ok (.iconst 2, 1) := by decide +kernel
theorem dX10_isFirst_70 : decode cX10_isFirst 70 = .ok (.invokevirtual 60, 3) := by decide +kernel
theorem dX10_isFirst_73 : decode cX10_isFirst 73 = .ok (.aload_n 0, 1) := by decide +kernel
theorem dX10_isFirst_74 : decode cX10_isFirst 74 = .ok (.iload_n 1, 1) := by decide +kernel
theorem dX10_isFirst_75 : decode cX10_isFirst 75 = .ok (.iload_n 2, 1) := by decide +kernel
theorem dX10_isFirst_76 : decode cX10_isFirst 76 = .ok (.iconst 2, 1) := by decide +kernel
theorem dX10_isFirst_77 : decode cX10_isFirst 77 = .ok (.invokevirtual 60, 3) := by decide +kernel
theorem dX10_isFirst_80 : decode cX10_isFirst 80 = .ok (.if_icmp .ne 5, 3) := by decide +kernel
theorem dX10_isFirst_83 : decode cX10_isFirst 83 = .ok (.iconst 0, 1) := by decide +kernel
theorem dX10_isFirst_84 : decode cX10_isFirst 84 = .ok (.ireturn, 1) := by decide +kernel
theorem dX10_isFirst_85 : decode cX10_isFirst 85 = .ok (.iinc 4 1, 3) := by decide +kernel
theorem dX10_isFirst_88 : decode cX10_isFirst 88 = .ok (.goto (-78), 3) := by decide +kernel
theorem dX10_isFirst_91 : decode cX10_isFirst 91 = .ok (.iinc 3 1, 3) := by decide +kernel
theorem dX10_isFirst_94 : decode cX10_isFirst 94 = .ok (.goto (-92), 3) := by decide +kernel
theorem dX10_isFirst_97 : decode cX10_isFirst 97 = .ok (.iconst 1, 1) := by decide +kernel
theorem dX10_isFirst_98 : decode cX10_isFirst 98 = .ok (.ireturn, 1) := by decide +kernel
set_option maxRecDepth 20000 in
theorem ggX10_image_X10_isIn : GoodIn wsX10_image wsX10_isIn := goodIn_r _ [6] (by decide +kernel) (by decide +kernel)
set_option maxRecDepth 20000 in
theorem gX10_image_X10_isIn : GoodIn wsX10_image (va_wsS RX10 47 yX10_isIn wsX10_isIn) := goodIn_app (goodIn_of _ (by decide +kernel)) ggX10_image_X10_isIn
theorem dX10_image_0 : decode cX10_image 0 = .ok (.iload_n 1, 1) := by decide +kernel
theorem dX10_image_1 : decode cX10_image 1 = .ok (.iconst 0, 1) := by decide +kernel
theorem dX10_image_2 : decode cX10_image 2 = .ok (.iconst 2, 1) := by decide +kernel
theorem dX10_image_3 : decode cX10_image 3 = .ok (.invokestatic 47, 3) := by decide +kernel
theorem dX10_image_6 : decode cX10_image 6 = .ok (.ifCond .ne 5, 3) := by decide +kernel
theorem dX10_image_9 : decode cX10_image 9 = .ok (.iconst 0, 1) := by decide +kernel
theorem dX10_image_10 : decode cX10_image 10 = .ok (.ireturn, 1) := by decide +kernel
theorem dX10_image_11 : decode cX10_image 11 = .ok (.aload_n 0, 1) := by decide +kernel
theorem dX10_image_12 : decode cX10_image 12 = .ok (.getfield 13, 3) := by decide +kernel
theorem dX10_image_15 : decode cX10_image 15 = .ok (.iload_n 1, 1) := by decide +kernel
theorem dX10_image_16 : decode cX10_image 16 = .ok (.iconst 1, 1) := by decide +kernel
theorem dX10_image_17 : decode cX10_image 17 = .ok (.bastore, 1) := by decide +kernel
theorem dX10_image_18 : decode cX10_image 18 = .ok (.iconst 0, 1) := by decide +kernel
theorem dX10_image_19 : decode cX10_image 19 = .ok (.istore_n 2, 1) := by decide +kernel
theorem dX10_image_20 : decode cX10_image 20 = .ok (.iload_n 2, 1) := by decide +kernel
theorem dX10_image_21 : decode cX10_image 21 = .ok (.sipush 1350, 3) := by decide +kernel
theorem dX10_image_24 : decode cX10_image 24 = .ok (.if_icmp .ge 29, 3) := by decide +kernel
theorem dX10_image_27 : decode cX10_image 27 = .ok (.aload_n 0, 1) := by decide +kernel
theorem dX10_image_28 : decode cX10_image 28 = .ok (.getfield 7, 3) := by decide +kernel
theorem dX10_image_31 : decode cX10_image 31 = .ok (.sipush 1350, 3) := by decide +kernel
theorem dX10_image_34 : decode cX10_image 34 = .ok (.iload_n 1, 1) := by decide +kernel
theorem dX10_image_35 : decode cX10_image 35 = .ok (.iconst 1, 1) := by decide +kernel
theorem dX10_image_36 : decode cX10_image 36 = .ok (.iadd, 1) := by decide +kernel
theorem dX10_image_37 : decode cX10_image 37 = .ok (.imul, 1) := by decide +kernel
theorem dX10_image_38 : decode cX10_image 38 = .ok (.iload_n 2, 1) := by decide +kernel
theorem dX10_image_39 : decode cX10_image 39 = .ok (.iadd, 1) := by decide +kernel
theorem dX10_image_40 : decode cX10_image 40 = .ok (.aload_n 0, 1) := by decide +kernel
theorem dX10_image_41 : decode cX10_image 41 = .ok (.getfield 7, 3) := by decide +kernel
theorem dX10_image_44 : decode cX10_image 44 = .ok (.iload_n 2, 1) := by decide +kernel
theorem dX10_image_45 : decode cX10_image 45 = .ok (.iaload, 1) := by decide +kernel
theorem dX10_image_46 : decode cX10_image 46 = .ok (.iastore, 1) := by decide +kernel
theorem dX10_image_47 : decode cX10_image 47 = .ok (.iinc 2 1, 3) := by decide +kernel
theorem dX10_image_50 : decode cX10_image 50 = .ok (.goto (-30), 3) := by decide +kernel
theorem dX10_image_53 : decode cX10_image 53 = .ok (.iconst 1, 1) := by decide +kernel
theorem dX10_image_54 : decode cX10_image 54 = .ok (.ireturn, 1) := by decide +kernel
set_option maxRecDepth 20000 in
theorem ggX10_again_X10_isIn : GoodIn wsX10_again wsX10_isIn := goodIn_r _ [6] (by decide +kernel) (by decide +kernel)
set_option maxRecDepth 20000 in
theorem gX10_again_X10_isIn : GoodIn wsX10_again (va_wsS RX10 47 yX10_isIn wsX10_isIn) := goodIn_app (goodIn_of _ (by decide +kernel)) ggX10_again_X10_isIn
theorem dX10_again_0 : decode cX10_again 0 = .ok (.iload_n 1, 1) := by decide +kernel
theorem dX10_again_1 : decode cX10_again 1 = .ok (.iconst 0, 1) := by decide +kernel
theorem dX10_again_2 : decode cX10_again 2 = .ok (.iconst 2, 1) := by decide +kernel
theorem dX10_again_3 : decode cX10_again 3 = .ok (.invokestatic 47, 3) := by decide +kernel
theorem dX10_again_6 : decode cX10_again 6 = .ok (.ifCond .eq 12, 3) := by decide +kernel
theorem dX10_again_9 : decode cX10_again 9 = .ok (.aload_n 0, 1) := by decide +kernel
theorem dX10_again_10 : decode cX10_again 10 = .ok (.getfield 13, 3) := by decide +kernel
theorem dX10_again_13 : decode cX10_again 13 = .ok (.iload_n 1, 1) := by decide +kernel
theorem dX10_again_14 : decode cX10_again 14 = .ok (.baload, 1) := by decide +kernel
theorem dX10_again_15 : decode cX10_again 15 = .ok (.ifCond .ne 5, 3) := by decide +kernel
theorem dX10_again_18 : decode cX10_again 18 = .ok (.iconst 0, 1) := by decide +kernel
theorem dX10_again_19 : decode cX10_again 19 = .ok (.ireturn, 1) := by decide +kernel
theorem dX10_again_20 : decode cX10_again 20 = .ok (.iconst 0, 1) := by decide +kernel
theorem dX10_again_21 : decode cX10_again 21 = .ok (.istore_n 2, 1) := by decide +kernel
theorem dX10_again_22 : decode cX10_again 22 = .ok (.iload_n 2, 1) := by decide +kernel
theorem dX10_again_23 : decode cX10_again 23 = .ok (.sipush 1350, 3) := by decide +kernel
theorem dX10_again_26 : decode cX10_again 26 = .ok (.if_icmp .ge 29, 3) := by decide +kernel
theorem dX10_again_29 : decode cX10_again 29 = .ok (.aload_n 0, 1) := by decide +kernel
theorem dX10_again_30 : decode cX10_again 30 = .ok (.getfield 7, 3) := by decide +kernel
theorem dX10_again_33 : decode cX10_again 33 = .ok (.iload_n 2, 1) := by decide +kernel
theorem dX10_again_34 : decode cX10_again 34 = .ok (.aload_n 0, 1) := by decide +kernel
theorem dX10_again_35 : decode cX10_again 35 = .ok (.getfield 7, 3) := by decide +kernel
theorem dX10_again_38 : decode cX10_again 38 = .ok (.sipush 1350, 3) := by decide +kernel
theorem dX10_again_41 : decode cX10_again 41 = .ok (.iload_n 1, 1) := by decide +kernel
theorem dX10_again_42 : decode cX10_again 42 = .ok (.iconst 1, 1) := by decide +kernel
theorem dX10_again_43 : decode cX10_again 43 = .ok (.iadd, 1) := by decide +kernel
theorem dX10_again_44 : decode cX10_again 44 = .ok (.imul, 1) := by decide +kernel
theorem dX10_again_45 : decode cX10_again 45 = .ok (.iload_n 2, 1) := by decide +kernel
theorem dX10_again_46 : decode cX10_again 46 = .ok (.iadd, 1) := by decide +kernel
theorem dX10_again_47 : decode cX10_again 47 = .ok (.iaload, 1) := by decide +kernel
theorem dX10_again_48 : decode cX10_again 48 = .ok (.iastore, 1) := by decide +kernel
theorem dX10_again_49 : decode cX10_again 49 = .ok (.iinc 2 1, 3) := by decide +kernel
theorem dX10_again_52 : decode cX10_again 52 = .ok (.goto (-30), 3) := by decide +kernel
theorem dX10_again_55 : decode cX10_again 55 = .ok (.iconst 1, 1) := by decide +kernel
theorem dX10_again_56 : decode cX10_again 56 = .ok (.ireturn, 1) := by decide +kernel
theorem dJ9_max_7cf53_0 : decode cJ9_max_7cf53 0 = .ok (.iload_n 0, 1) := by decide +kernel
theorem dJ9_max_7cf53_1 : decode cJ9_max_7cf53 1 = .ok (.iload_n 1, 1) := by decide +kernel
theorem dJ9_max_7cf53_2 : decode cJ9_max_7cf53 2 = .ok (.if_icmp .lt 7, 3) := by decide +kernel
theorem dJ9_max_7cf53_5 : decode cJ9_max_7cf53 5 = .ok (.iload_n 0, 1) := by decide +kernel
theorem dJ9_max_7cf53_6 : decode cJ9_max_7cf53 6 = .ok (.goto 4, 3) := by decide +kernel
theorem dJ9_max_7cf53_9 : decode cJ9_max_7cf53 9 = .ok (.iload_n 1, 1) := by decide +kernel
theorem dJ9_max_7cf53_10 : decode cJ9_max_7cf53 10 = .ok (.ireturn, 1) := by decide +kernel
theorem dJ9_min_7cf53_0 : decode cJ9_min_7cf53 0 = .ok (.iload_n 0, 1) := by decide +kernel
theorem dJ9_min_7cf53_1 : decode cJ9_min_7cf53 1 = .ok (.iload_n 1, 1) := by decide +kernel
theorem dJ9_min_7cf53_2 : decode cJ9_min_7cf53 2 = .ok (.if_icmp .gt 7, 3) := by decide +kernel
theorem dJ9_min_7cf53_5 : decode cJ9_min_7cf53 5 = .ok (.iload_n 0, 1) := by decide +kernel
theorem dJ9_min_7cf53_6 : decode cJ9_min_7cf53 6 = .ok (.goto 4, 3) := by decide +kernel
theorem dJ9_min_7cf53_9 : decode cJ9_min_7cf53 9 = .ok (.iload_n 1, 1) := by decide +kernel
theorem dJ9_min_7cf53_10 : decode cJ9_min_7cf53 10 = .ok (.ireturn, 1) := by decide +kernel
theorem dJ7_fill_53178_0 : decode cJ7_fill_53178 0 = .ok (.iconst 0, 1) := by decide +kernel
theorem dJ7_fill_53178_1 : decode cJ7_fill_53178 1 = .ok (.istore_n 2, 1) := by decide +kernel
theorem dJ7_fill_53178_2 : decode cJ7_fill_53178 2 = .ok (.aload_n 0, 1) := by decide +kernel
theorem dJ7_fill_53178_3 : decode cJ7_fill_53178 3 = .ok (.arraylength, 1) := by decide +kernel
theorem dJ7_fill_53178_4 : decode cJ7_fill_53178 4 = .ok (.istore_n 3, 1) := by decide +kernel
theorem dJ7_fill_53178_5 : decode cJ7_fill_53178 5 = .ok (.iload_n 2, 1) := by decide +kernel
theorem dJ7_fill_53178_6 : decode cJ7_fill_53178 6 = .ok (.iload_n 3, 1) := by decide +kernel
theorem dJ7_fill_53178_7 : decode cJ7_fill_53178 7 = .ok (.if_icmp .ge 13, 3) := by decide +kernel
theorem dJ7_fill_53178_10 : decode cJ7_fill_53178 10 = .ok (.aload_n 0, 1) := by decide +kernel
theorem dJ7_fill_53178_11 : decode cJ7_fill_53178 11 = .ok (.iload_n 2, 1) := by decide +kernel
theorem dJ7_fill_53178_12 : decode cJ7_fill_53178 12 = .ok (.iload_n 1, 1) := by decide +kernel
theorem dJ7_fill_53178_13 : decode cJ7_fill_53178 13 = .ok (.iastore, 1) := by decide +kernel
theorem dJ7_fill_53178_14 : decode cJ7_fill_53178 14 = .ok (.iinc 2 1, 3) := by decide +kernel
theorem dJ7_fill_53178_17 : decode cJ7_fill_53178 17 = .ok (.goto (-12), 3) := by decide +kernel
theorem dJ7_fill_53178_20 : decode cJ7_fill_53178 20 = .ok (.return_, 1) := by decide +kernel
