theorem dX8_tongue_20 : decode cX8_tongue 20 = .ok (.aload_n 0, 1) := by decide +kernel
theorem dX8_tongue_21 : decode cX8_tongue 21 = .ok (.dup, 1) := by decide +kernel
theorem dX8_tongue_22 : decode cX8_tongue 22 = .ok (.getfield 133, 3) := by decide +kernel
theorem dX8_tongue_25 : decode cX8_tongue 25 = .ok (.iconst 1, 1) := by decide +kernel
theorem dX8_tongue_26 : decode cX8_tongue 26 = .ok (.iadd, 1) := by decide +kernel
theorem dX8_tongue_27 : decode cX8_tongue 27 = .ok (.putfield 133, 3) := by decide +kernel
theorem dX8_tongue_30 : decode cX8_tongue 30 = .ok (.aload_n 0, 1) := by decide +kernel
theorem dX8_tongue_31 : decode cX8_tongue 31 = .ok (.aload_n 0, 1) := by decide +kernel
theorem dX8_tongue_32 : decode cX8_tongue 32 = .ok (.getfield 133, 3) := by decide +kernel
theorem dX8_tongue_35 : decode cX8_tongue 35 = .ok (.iconst 1, 1) := by decide +kernel
theorem dX8_tongue_36 : decode cX8_tongue 36 = .ok (.isub, 1) := by decide +kernel
theorem dX8_tongue_37 : decode cX8_tongue 37 = .ok (.invokevirtual 139, 3) := by decide +kernel
theorem dX8_tongue_40 : decode cX8_tongue 40 = .ok (.ireturn, 1) := by decide +kernel
set_option maxRecDepth 100000 in
theorem ggX8_learn_X8_isTongue : GoodIn wsX8_learn wsX8_isTongue := goodIn_r _ [17, 18, 64, 65, 66, 67, 68, 69, 70, 71, 72, 73, 74, 75, 76, 77, 78, 79, 80, 81, 82, 83, 84, 85, 86, 87, 88, 89, 90, 91, 92, 93, 94, 95, 96, 97, 98, 99, 100, 101] (by rfl) (by decide +kernel)
set_option maxRecDepth 20000 in
theorem gX8_learn_X8_isTongue : GoodIn wsX8_learn (wsV RX8 142 RX8 yX8_isTongue wsX8_isTongue) := goodIn_app (goodIn_of _ (by decide +kernel)) ggX8_learn_X8_isTongue
set_option maxRecDepth 100000 in
theorem ggX8_learn_X8_refused : GoodIn wsX8_learn wsX8_refused := goodIn_r _ [22, 23, 64, 65, 66, 67, 68, 69, 70, 71, 72, 73, 74, 75, 76, 77, 78, 79, 80, 81, 82, 83, 84, 85, 86, 87, 88, 89, 90, 91, 92, 93, 94, 95, 96, 97, 98, 99, 100, 101] (by rfl) (by decide +kernel)
set_option maxRecDepth 20000 in
theorem gX8_learn_X8_refused : GoodIn wsX8_learn (wsV RX8 136 RX8 yX8_refused wsX8_refused) := goodIn_app (goodIn_of _ (by decide +kernel)) ggX8_learn_X8_refused
set_option maxRecDepth 100000 in
theorem ggX8_learn_X8_isTaped : GoodIn wsX8_learn wsX8_isTaped := goodIn_r _ [27, 2, 64, 65, 66, 67, 68, 69, 70, 71, 72, 73, 74, 75, 76, 77, 78, 79, 80, 81, 82, 83, 84, 85, 86, 87, 88, 89, 90, 91, 92, 93, 94, 95, 96, 97, 98, 99, 100, 101] (by rfl) (by decide +kernel)
set_option maxRecDepth 20000 in
theorem gX8_learn_X8_isTaped : GoodIn wsX8_learn (wsV RX8 145 RX8 yX8_isTaped wsX8_isTaped) := goodIn_app (goodIn_of _ (by decide +kernel)) ggX8_learn_X8_isTaped
set_option maxRecDepth 100000 in
theorem ggX8_learn_X8_cut : GoodIn wsX8_learn wsX8_cut := goodIn_r _ [31, 6, 7, 5, 32, 33, 16, 34, 35, 36, 37, 64, 65, 66, 67, 68, 69, 70, 71, 72, 73, 74, 75, 76, 77, 78, 79, 80, 81, 82, 83, 84, 85, 86, 87, 88, 89, 90, 91, 92, 93, 94, 95, 96, 97, 98, 99, 100, 101] (by rfl) (by decide +kernel)
set_option maxRecDepth 20000 in
theorem gX8_learn_X8_cut : GoodIn wsX8_learn (wsV RX8 148 RX8 yX8_cut wsX8_cut) := goodIn_app (goodIn_of _ (by decide +kernel)) ggX8_learn_X8_cut
set_option maxRecDepth 100000 in
theorem ggX8_learn_X8_nameOf : GoodIn wsX8_learn wsX8_nameOf := goodIn_r _ [41, 42, 43, 44, 45, 46, 16, 47, 48, 49, 50, 51, 52, 53, 54, 35, 36, 37, 64, 65, 66, 67, 68, 69, 70, 71, 72, 73, 74, 75, 76, 77, 78, 79, 80, 81, 82, 83, 84, 85, 86, 87, 88, 89, 90, 91, 92, 93, 94, 95, 96, 97, 98, 99, 100, 101] (by rfl) (by decide +kernel)
set_option maxRecDepth 20000 in
theorem gX8_learn_X8_nameOf : GoodIn wsX8_learn (wsV RX8 155 RX8 yX8_nameOf wsX8_nameOf) := goodIn_app (goodIn_of _ (by decide +kernel)) ggX8_learn_X8_nameOf
set_option maxRecDepth 100000 in
theorem ggX8_learn_X8_most : GoodIn wsX8_learn wsX8_most := goodIn_r _ [47, 48, 49, 50, 51] (by rfl) (by decide +kernel)
set_option maxRecDepth 20000 in
theorem gX8_learn_X8_most : GoodIn wsX8_learn (va_wsS RX8 123 yX8_most wsX8_most) := goodIn_app (goodIn_of _ (by decide +kernel)) ggX8_learn_X8_most
set_option maxRecDepth 100000 in
theorem ggX8_learn_X8_signOf : GoodIn wsX8_learn wsX8_signOf := goodIn_r _ [37] (by rfl) (by decide +kernel)
set_option maxRecDepth 20000 in
theorem gX8_learn_X8_signOf : GoodIn wsX8_learn (va_wsS RX8 110 yX8_signOf wsX8_signOf) := goodIn_app (goodIn_of _ (by decide +kernel)) ggX8_learn_X8_signOf
set_option maxRecDepth 100000 in
theorem ggX8_learn_X8_adds : GoodIn wsX8_learn wsX8_adds := goodIn_r _ [58, 12, 59, 11, 8, 64, 65, 66, 67, 68, 69, 70, 71, 72, 73, 74, 75, 76, 77, 78, 79, 80, 81, 82, 83, 84, 85, 86, 87, 88, 89, 90, 91, 92, 93, 94, 95, 96, 97, 98, 99, 100, 101] (by rfl) (by decide +kernel)
set_option maxRecDepth 20000 in
theorem gX8_learn_X8_adds : GoodIn wsX8_learn (wsV RX8 162 RX8 yX8_adds wsX8_adds) := goodIn_app (goodIn_of _ (by decide +kernel)) ggX8_learn_X8_adds
set_option maxRecDepth 100000 in
theorem ggX8_learn_X8_done : GoodIn wsX8_learn wsX8_done := goodIn_r _ [63, 23, 64, 65, 66, 67, 68, 69, 70, 71, 72, 73, 74, 75, 76, 77, 78, 79, 80, 81, 82, 83, 84, 85, 86, 87, 88, 89, 90, 91, 92, 93, 94, 95, 96, 97, 98, 99, 100, 101] (by rfl) (by decide +kernel)
set_option maxRecDepth 20000 in
theorem gX8_learn_X8_done : GoodIn wsX8_learn (wsV RX8 139 RX8 yX8_done wsX8_done) := goodIn_app (goodIn_of _ (by decide +kernel)) ggX8_learn_X8_done
theorem dX8_learn_0 : decode cX8_learn 0 = .ok (.aload_n 0, 1) := by decide +kernel
theorem dX8_learn_1 : decode cX8_learn 1 = .ok (.iconst 0, 1) := by decide +kernel
theorem dX8_learn_2 : decode cX8_learn 2 = .ok (.putfield 97, 3) := by decide +kernel
theorem dX8_learn_5 : decode cX8_learn 5 = .ok (.aload_n 0, 1) := by decide +kernel
theorem dX8_learn_6 : decode cX8_learn 6 = .ok (.iload_n 1, 1) := by decide +kernel
theorem dX8_learn_7 : decode cX8_learn 7 = .ok (.invokevirtual 142, 3) := by decide +kernel
theorem dX8_learn_10 : decode cX8_learn 10 = .ok (.ifCond .ne 9, 3) := by decide +kernel
theorem dX8_learn_13 : decode cX8_learn 13 = .ok (.aload_n 0, 1) := by decide +kernel
theorem dX8_learn_14 : decode cX8_learn 14 = .ok (.iconst 1, 1) := by decide +kernel
theorem dX8_learn_15 : decode cX8_learn 15 = .ok (.invokevirtual 136, 3) := by decide +kernel
theorem dX8_learn_18 : decode cX8_learn 18 = .ok (.ireturn, 1) := by decide +kernel
theorem dX8_learn_19 : decode cX8_learn 19 = .ok (.aload_n 0, 1) := by decide +kernel
theorem dX8_learn_20 : decode cX8_learn 20 = .ok (.iload_n 2, 1) := by decide +kernel
theorem dX8_learn_21 : decode cX8_learn 21 = .ok (.invokevirtual 145, 3) := by decide +kernel
theorem dX8_learn_24 : decode cX8_learn 24 = .ok (.ifCond .ne 9, 3) := by decide +kernel
theorem dX8_learn_27 : decode cX8_learn 27 = .ok (.aload_n 0, 1) := by decide +kernel
theorem dX8_learn_28 : decode cX8_learn 28 = .ok (.iconst 2, 1) := by decide +kernel
theorem dX8_learn_29 : decode cX8_learn 29 = .ok (.invokevirtual 136, 3) := by decide +kernel
theorem dX8_learn_32 : decode cX8_learn 32 = .ok (.ireturn, 1) := by decide +kernel
theorem dX8_learn_33 : decode cX8_learn 33 = .ok (.aload_n 0, 1) := by decide +kernel
theorem dX8_learn_34 : decode cX8_learn 34 = .ok (.iconst 0, 1) := by decide +kernel
theorem dX8_learn_35 : decode cX8_learn 35 = .ok (.putfield 103, 3) := by decide +kernel
theorem dX8_learn_38 : decode cX8_learn 38 = .ok (.aload_n 0, 1) := by decide +kernel
theorem dX8_learn_39 : decode cX8_learn 39 = .ok (.aload_n 0, 1) := by decide +kernel
theorem dX8_learn_40 : decode cX8_learn 40 = .ok (.getfield 11, 3) := by decide +kernel
theorem dX8_learn_43 : decode cX8_learn 43 = .ok (.iload_n 2, 1) := by decide +kernel
theorem dX8_learn_44 : decode cX8_learn 44 = .ok (.invokevirtual 148, 3) := by decide +kernel
theorem dX8_learn_47 : decode cX8_learn 47 = .ok (.istore_n 3, 1) := by decide +kernel
theorem dX8_learn_48 : decode cX8_learn 48 = .ok (.aload_n 0, 1) := by decide +kernel
theorem dX8_learn_49 : decode cX8_learn 49 = .ok (.getfield 152, 3) := by decide +kernel
theorem dX8_learn_52 : decode cX8_learn 52 = .ok (.bipush 100, 2) := by decide +kernel
theorem dX8_learn_54 : decode cX8_learn 54 = .ok (.if_icmp .eq 9, 3) := by decide +kernel
theorem dX8_learn_57 : decode cX8_learn 57 = .ok (.iload_n 3, 1) := by decide +kernel
theorem dX8_learn_58 : decode cX8_learn 58 = .ok (.bipush 60, 2) := by decide +kernel
theorem dX8_learn_60 : decode cX8_learn 60 = .ok (.if_icmp .le 9, 3) := by decide +kernel
theorem dX8_learn_63 : decode cX8_learn 63 = .ok (.aload_n 0, 1) := by decide +kernel
theorem dX8_learn_64 : decode cX8_learn 64 = .ok (.iconst 3, 1) := by decide +kernel
theorem dX8_learn_65 : decode cX8_learn 65 = .ok (.invokevirtual 136, 3) := by decide +kernel
theorem dX8_learn_68 : decode cX8_learn 68 = .ok (.ireturn, 1) := by decide +kernel
theorem dX8_learn_69 : decode cX8_learn 69 = .ok (.iconst 0, 1) := by decide +kernel
theorem dX8_learn_70 : decode cX8_learn 70 = .ok (.istore 4, 2) := by decide +kernel
theorem dX8_learn_72 : decode cX8_learn 72 = .ok (.iconst 0, 1) := by decide +kernel
theorem dX8_learn_73 : decode cX8_learn 73 = .ok (.istore 5, 2) := by decide +kernel
theorem dX8_learn_75 : decode cX8_learn 75 = .ok (.iload 5, 2) := by decide +kernel
theorem dX8_learn_77 : decode cX8_learn 77 = .ok (.iload_n 3, 1) := by decide +kernel
theorem dX8_learn_78 : decode cX8_learn 78 = .ok (.if_icmp .ge 152, 3) := by decide +kernel
theorem dX8_learn_81 : decode cX8_learn 81 = .ok (.aload_n 0, 1) := by decide +kernel
theorem dX8_learn_82 : decode cX8_learn 82 = .ok (.getfield 22, 3) := by decide +kernel
theorem dX8_learn_85 : decode cX8_learn 85 = .ok (.iload 5, 2) := by decide +kernel
theorem dX8_learn_87 : decode cX8_learn 87 = .ok (.baload, 1) := by decide +kernel
theorem dX8_learn_88 : decode cX8_learn 88 = .ok (.ifCond .ne 136, 3) := by decide +kernel
theorem dX8_learn_91 : decode cX8_learn 91 = .ok (.aload_n 0, 1) := by decide +kernel
theorem dX8_learn_92 : decode cX8_learn 92 = .ok (.aload_n 0, 1) := by decide +kernel
theorem dX8_learn_93 : decode cX8_learn 93 = .ok (.getfield 11, 3) := by decide +kernel
theorem dX8_learn_96 : decode cX8_learn 96 = .ok (.aload_n 0, 1) := by decide +kernel
theorem dX8_learn_97 : decode cX8_learn 97 = .ok (.getfield 15, 3) := by decide +kernel
theorem dX8_learn_100 : decode cX8_learn 100 = .ok (.iload 5, 2) := by decide +kernel
theorem dX8_learn_102 : decode cX8_learn 102 = .ok (.iaload, 1) := by decide +kernel
theorem dX8_learn_103 : decode cX8_learn 103 = .ok (.aload_n 0, 1) := by decide +kernel
theorem dX8_learn_104 : decode cX8_learn 104 = .ok (.getfield 19, 3) := by decide +kernel
theorem dX8_learn_107 : decode cX8_learn 107 = .ok (.iload 5, 2) := by decide +kernel
theorem dX8_learn_109 : decode cX8_learn 109 = .ok (.iaload, 1) := by decide +kernel
theorem dX8_learn_110 : decode cX8_learn 110 = .ok (.invokevirtual 155, 3) := by decide +kernel
theorem dX8_learn_113 : decode cX8_learn 113 = .ok (.iconst (-1), 1) := by decide +kernel
theorem dX8_learn_114 : decode cX8_learn 114 = .ok (.if_icmp .eq 6, 3) := by decide +kernel
theorem dX8_learn_117 : decode cX8_learn 117 = .ok (.goto 107, 3) := by decide +kernel
theorem dX8_learn_120 : decode cX8_learn 120 = .ok (.bipush 27, 2) := by decide +kernel
theorem dX8_learn_122 : decode cX8_learn 122 = .ok (.istore 6, 2) := by decide +kernel
theorem dX8_learn_124 : decode cX8_learn 124 = .ok (.iconst 0, 1) := by decide +kernel
theorem dX8_learn_125 : decode cX8_learn 125 = .ok (.istore 7, 2) := by decide +kernel
theorem dX8_learn_127 : decode cX8_learn 127 = .ok (.iload 7, 2) := by decide +kernel
theorem dX8_learn_129 : decode cX8_learn 129 = .ok (.aload_n 0, 1) := by decide +kernel
theorem dX8_learn_130 : decode cX8_learn 130 = .ok (.getfield 19, 3) := by decide +kernel
theorem dX8_learn_133 : decode cX8_learn 133 = .ok (.iload 5, 2) := by decide +kernel
theorem dX8_learn_135 : decode cX8_learn 135 = .ok (.iaload, 1) := by decide +kernel
theorem dX8_learn_136 : decode cX8_learn 136 = .ok (.invokestatic 123, 3) := by decide +kernel
theorem dX8_learn_139 : decode cX8_learn 139 = .ok (.if_icmp .gt 85, 3) := by decide +kernel
theorem dX8_learn_142 : decode cX8_learn 142 = .ok (.iload 7, 2) := by decide +kernel
theorem dX8_learn_144 : decode cX8_learn 144 = .ok (.aload_n 0, 1) := by decide +kernel
theorem dX8_learn_145 : decode cX8_learn 145 = .ok (.getfield 19, 3) := by decide +kernel
theorem dX8_learn_148 : decode cX8_learn 148 = .ok (.iload 5, 2) := by decide +kernel
theorem dX8_learn_150 : decode cX8_learn 150 = .ok (.iaload, 1) := by decide +kernel
theorem dX8_learn_151 : decode cX8_learn 151 = .ok (.invokestatic 123, 3) := by decide +kernel
theorem dX8_learn_154 : decode cX8_learn 154 = .ok (.if_icmp .ne 8, 3) := by decide +kernel
theorem dX8_learn_157 : decode cX8_learn 157 = .ok (.bipush 27, 2) := by decide +kernel
theorem dX8_learn_159 : decode cX8_learn 159 = .ok (.goto 25, 3) := by decide +kernel
theorem dX8_learn_162 : decode cX8_learn 162 = .ok (.aload_n 0, 1) := by decide +kernel
theorem dX8_learn_163 : decode cX8_learn 163 = .ok (.getfield 11, 3) := by decide +kernel
theorem dX8_learn_166 : decode cX8_learn 166 = .ok (.aload_n 0, 1) := by decide +kernel
theorem dX8_learn_167 : decode cX8_learn 167 = .ok (.getfield 15, 3) := by decide +kernel
theorem dX8_learn_170 : decode cX8_learn 170 = .ok (.iload 5, 2) := by decide +kernel
theorem dX8_learn_172 : decode cX8_learn 172 = .ok (.iaload, 1) := by decide +kernel
theorem dX8_learn_173 : decode cX8_learn 173 = .ok (.iload 7, 2) := by decide +kernel
theorem dX8_learn_175 : decode cX8_learn 175 = .ok (.iadd, 1) := by decide +kernel
theorem dX8_learn_176 : decode cX8_learn 176 = .ok (.baload, 1) := by decide +kernel
theorem dX8_learn_177 : decode cX8_learn 177 = .ok (.sipush 255, 3) := by decide +kernel
theorem dX8_learn_180 : decode cX8_learn 180 = .ok (.iand, 1) := by decide +kernel
theorem dX8_learn_181 : decode cX8_learn 181 = .ok (.invokestatic 110, 3) := by decide +kernel
theorem dX8_learn_184 : decode cX8_learn 184 = .ok (.istore 8, 2) := by decide +kernel
theorem dX8_learn_186 : decode cX8_learn 186 = .ok (.aload_n 0, 1) := by decide +kernel
theorem dX8_learn_187 : decode cX8_learn 187 = .ok (.getfield 54, 3) := by decide +kernel
theorem dX8_learn_190 : decode cX8_learn 190 = .ok (.sipush 660, 3) := by decide +kernel
theorem dX8_learn_193 : decode cX8_learn 193 = .ok (.aload_n 0, 1) := by decide +kernel
theorem dX8_learn_194 : decode cX8_learn 194 = .ok (.getfield 152, 3) := by decide +kernel
theorem dX8_learn_197 : decode cX8_learn 197 = .ok (.imul, 1) := by decide +kernel
theorem dX8_learn_198 : decode cX8_learn 198 = .ok (.iload 4, 2) := by decide +kernel
theorem dX8_learn_200 : decode cX8_learn 200 = .ok (.iadd, 1) := by decide +kernel
theorem dX8_learn_201 : decode cX8_learn 201 = .ok (.bipush 28, 2) := by decide +kernel
theorem dX8_learn_203 : decode cX8_learn 203 = .ok (.iload 6, 2) := by decide +kernel
theorem dX8_learn_205 : decode cX8_learn 205 = .ok (.imul, 1) := by decide +kernel
theorem dX8_learn_206 : decode cX8_learn 206 = .ok (.iload 8, 2) := by decide +kernel
theorem dX8_learn_208 : decode cX8_learn 208 = .ok (.iadd, 1) := by decide +kernel
theorem dX8_learn_209 : decode cX8_learn 209 = .ok (.i2s, 1) := by decide +kernel
theorem dX8_learn_210 : decode cX8_learn 210 = .ok (.sastore, 1) := by decide +kernel
theorem dX8_learn_211 : decode cX8_learn 211 = .ok (.iinc 4 1, 3) := by decide +kernel
theorem dX8_learn_214 : decode cX8_learn 214 = .ok (.iload 8, 2) := by decide +kernel
theorem dX8_learn_216 : decode cX8_learn 216 = .ok (.istore 6, 2) := by decide +kernel
theorem dX8_learn_218 : decode cX8_learn 218 = .ok (.iinc 7 1, 3) := by decide +kernel
theorem dX8_learn_221 : decode cX8_learn 221 = .ok (.goto (-94), 3) := by decide +kernel
theorem dX8_learn_224 : decode cX8_learn 224 = .ok (.iinc 5 1, 3) := by decide +kernel
theorem dX8_learn_227 : decode cX8_learn 227 = .ok (.goto (-152), 3) := by decide +kernel
theorem dX8_learn_230 : decode cX8_learn 230 = .ok (.aload_n 0, 1) := by decide +kernel
theorem dX8_learn_231 : decode cX8_learn 231 = .ok (.getfield 44, 3) := by decide +kernel
theorem dX8_learn_234 : decode cX8_learn 234 = .ok (.aload_n 0, 1) := by decide +kernel
theorem dX8_learn_235 : decode cX8_learn 235 = .ok (.getfield 152, 3) := by decide +kernel
theorem dX8_learn_238 : decode cX8_learn 238 = .ok (.aload_n 0, 1) := by decide +kernel
theorem dX8_learn_239 : decode cX8_learn 239 = .ok (.getfield 159, 3) := by decide +kernel
theorem dX8_learn_242 : decode cX8_learn 242 = .ok (.iastore, 1) := by decide +kernel
theorem dX8_learn_243 : decode cX8_learn 243 = .ok (.aload_n 0, 1) := by decide +kernel
theorem dX8_learn_244 : decode cX8_learn 244 = .ok (.getfield 47, 3) := by decide +kernel
theorem dX8_learn_247 : decode cX8_learn 247 = .ok (.aload_n 0, 1) := by decide +kernel
theorem dX8_learn_248 : decode cX8_learn 248 = .ok (.getfield 152, 3) := by decide +kernel
theorem dX8_learn_251 : decode cX8_learn 251 = .ok (.iload_n 1, 1) := by decide +kernel
theorem dX8_learn_252 : decode cX8_learn 252 = .ok (.iastore, 1) := by decide +kernel
theorem dX8_learn_253 : decode cX8_learn 253 = .ok (.aload_n 0, 1) := by decide +kernel
theorem dX8_learn_254 : decode cX8_learn 254 = .ok (.getfield 50, 3) := by decide +kernel
theorem dX8_learn_257 : decode cX8_learn 257 = .ok (.aload_n 0, 1) := by decide +kernel
theorem dX8_learn_258 : decode cX8_learn 258 = .ok (.getfield 152, 3) := by decide +kernel
theorem dX8_learn_261 : decode cX8_learn 261 = .ok (.iload 4, 2) := by decide +kernel
theorem dX8_learn_263 : decode cX8_learn 263 = .ok (.iastore, 1) := by decide +kernel
theorem dX8_learn_264 : decode cX8_learn 264 = .ok (.aload_n 0, 1) := by decide +kernel
theorem dX8_learn_265 : decode cX8_learn 265 = .ok (.aload_n 0, 1) := by decide +kernel
theorem dX8_learn_266 : decode cX8_learn 266 = .ok (.getfield 152, 3) := by decide +kernel
theorem dX8_learn_269 : decode cX8_learn 269 = .ok (.iconst 1, 1) := by decide +kernel
theorem dX8_learn_270 : decode cX8_learn 270 = .ok (.invokevirtual 162, 3) := by decide +kernel
theorem dX8_learn_273 : decode cX8_learn 273 = .ok (.aload_n 0, 1) := by decide +kernel
theorem dX8_learn_274 : decode cX8_learn 274 = .ok (.dup, 1) := by decide +kernel
theorem dX8_learn_275 : decode cX8_learn 275 = .ok (.getfield 152, 3) := by decide +kernel
theorem dX8_learn_278 : decode cX8_learn 278 = .ok (.iconst 1, 1) := by decide +kernel
theorem dX8_learn_279 : decode cX8_learn 279 = .ok (.iadd, 1) := by decide +kernel
theorem dX8_learn_280 : decode cX8_learn 280 = .ok (.putfield 152, 3) := by decide +kernel
theorem dX8_learn_283 : decode cX8_learn 283 = .ok (.aload_n 0, 1) := by decide +kernel
theorem dX8_learn_284 : decode cX8_learn 284 = .ok (.dup, 1) := by decide +kernel
theorem dX8_learn_285 : decode cX8_learn 285 = .ok (.getfield 159, 3) := by decide +kernel
theorem dX8_learn_288 : decode cX8_learn 288 = .ok (.iconst 1, 1) := by decide +kernel
theorem dX8_learn_289 : decode cX8_learn 289 = .ok (.iadd, 1) := by decide +kernel
theorem dX8_learn_290 : decode cX8_learn 290 = .ok (.putfield 159, 3) := by decide +kernel
theorem dX8_learn_293 : decode cX8_learn 293 = .ok (.aload_n 0, 1) := by decide +kernel
theorem dX8_learn_294 : decode cX8_learn 294 = .ok (.aload_n 0, 1) := by decide +kernel
theorem dX8_learn_295 : decode cX8_learn 295 = .ok (.getfield 159, 3) := by decide +kernel
theorem dX8_learn_298 : decode cX8_learn 298 = .ok (.iconst 1, 1) := by decide +kernel
theorem dX8_learn_299 : decode cX8_learn 299 = .ok (.isub, 1) := by decide +kernel
theorem dX8_learn_300 : decode cX8_learn 300 = .ok (.invokevirtual 139, 3) := by decide +kernel
theorem dX8_learn_303 : decode cX8_learn 303 = .ok (.ireturn, 1) := by decide +kernel
theorem dX8_adds_0 : decode cX8_adds 0 = .ok (.iconst 0, 1) := by decide +kernel
theorem dX8_adds_1 : decode cX8_adds 1 = .ok (.istore_n 3, 1) := by decide +kernel
theorem dX8_adds_2 : decode cX8_adds 2 = .ok (.iload_n 3, 1) := by decide +kernel
theorem dX8_adds_3 : decode cX8_adds 3 = .ok (.aload_n 0, 1) := by decide +kernel
theorem dX8_adds_4 : decode cX8_adds 4 = .ok (.getfield 50, 3) := by decide +kernel
theorem dX8_adds_7 : decode cX8_adds 7 = .ok (.iload_n 1, 1) := by decide +kernel
theorem dX8_adds_8 : decode cX8_adds 8 = .ok (.iaload, 1) := by decide +kernel
theorem dX8_adds_9 : decode cX8_adds 9 = .ok (.if_icmp .ge 41, 3) := by decide +kernel
theorem dX8_adds_12 : decode cX8_adds 12 = .ok (.aload_n 0, 1) := by decide +kernel
theorem dX8_adds_13 : decode cX8_adds 13 = .ok (.getfield 41, 3) := by decide +kernel
theorem dX8_adds_16 : decode cX8_adds 16 = .ok (.sipush 784, 3) := by decide +kernel
theorem dX8_adds_19 : decode cX8_adds 19 = .ok (.aload_n 0, 1) := by decide +kernel
theorem dX8_adds_20 : decode cX8_adds 20 = .ok (.getfield 47, 3) := by decide +kernel
theorem dX8_adds_23 : decode cX8_adds 23 = .ok (.iload_n 1, 1) := by decide +kernel
theorem dX8_adds_24 : decode cX8_adds 24 = .ok (.iaload, 1) := by decide +kernel
theorem dX8_adds_25 : decode cX8_adds 25 = .ok (.imul, 1) := by decide +kernel
theorem dX8_adds_26 : decode cX8_adds 26 = .ok (.aload_n 0, 1) := by decide +kernel
theorem dX8_adds_27 : decode cX8_adds 27 = .ok (.getfield 54, 3) := by decide +kernel
theorem dX8_adds_30 : decode cX8_adds 30 = .ok (.sipush 660, 3) := by decide +kernel
theorem dX8_adds_33 : decode cX8_adds 33 = .ok (.iload_n 1, 1) := by decide +kernel
theorem dX8_adds_34 : decode cX8_adds 34 = .ok (.imul, 1) := by decide +kernel
theorem dX8_adds_35 : decode cX8_adds 35 = .ok (.iload_n 3, 1) := by decide +kernel
theorem dX8_adds_36 : decode cX8_adds 36 = .ok (.iadd, 1) := by decide +kernel
theorem dX8_adds_37 : decode cX8_adds 37 = .ok (.saload, 1) := by decide +kernel
theorem dX8_adds_38 : decode cX8_adds 38 = .ok (.iadd, 1) := by decide +kernel
theorem dX8_adds_39 : decode cX8_adds 39 = .ok (.dup2, 1) := by decide +kernel
theorem dX8_adds_40 : decode cX8_adds 40 = .ok (.iaload, 1) := by decide +kernel
theorem dX8_adds_41 : decode cX8_adds 41 = .ok (.iload_n 2, 1) := by decide +kernel
theorem dX8_adds_42 : decode cX8_adds 42 = .ok (.iadd, 1) := by decide +kernel
theorem dX8_adds_43 : decode cX8_adds 43 = .ok (.iastore, 1) := by decide +kernel
theorem dX8_adds_44 : decode cX8_adds 44 = .ok (.iinc 3 1, 3) := by decide +kernel
theorem dX8_adds_47 : decode cX8_adds 47 = .ok (.goto (-45), 3) := by decide +kernel
theorem dX8_adds_50 : decode cX8_adds 50 = .ok (.return_, 1) := by decide +kernel
set_option maxRecDepth 100000 in
theorem ggX8_forget_X8_adds : GoodIn wsX8_forget wsX8_adds := goodIn_r _ [12, 6, 13, 5, 7, 14, 15, 16, 17, 18, 19, 20, 21, 22, 23, 24, 25, 26, 27, 28, 29, 30, 31, 32, 33, 34, 35, 36, 37, 38, 39, 40, 41, 42, 43, 44, 45, 46, 47, 48, 49, 50, 51] (by rfl) (by decide +kernel)
set_option maxRecDepth 20000 in
theorem gX8_forget_X8_adds : GoodIn wsX8_forget (wsV RX8 162 RX8 yX8_adds wsX8_adds) := goodIn_app (goodIn_of _ (by decide +kernel)) ggX8_forget_X8_adds
theorem dX8_forget_0 : decode cX8_forget 0 = .ok (.aload_n 0, 1) := by decide +kernel
theorem dX8_forget_1 : decode cX8_forget 1 = .ok (.iconst 0, 1) := by decide +kernel
theorem dX8_forget_2 : decode cX8_forget 2 = .ok (.putfield 97, 3) := by decide +kernel
theorem dX8_forget_5 : decode cX8_forget 5 = .ok (.iconst 0, 1) := by decide +kernel
theorem dX8_forget_6 : decode cX8_forget 6 = .ok (.istore_n 2, 1) := by decide +kernel
theorem dX8_forget_7 : decode cX8_forget 7 = .ok (.iload_n 2, 1) := by decide +kernel
theorem dX8_forget_8 : decode cX8_forget 8 = .ok (.aload_n 0, 1) := by decide +kernel
theorem dX8_forget_9 : decode cX8_forget 9 = .ok (.getfield 152, 3) := by decide +kernel
theorem dX8_forget_12 : decode cX8_forget 12 = .ok (.if_icmp .ge 19, 3) := by decide +kernel
theorem dX8_forget_15 : decode cX8_forget 15 = .ok (.aload_n 0, 1) := by decide +kernel
theorem dX8_forget_16 : decode cX8_forget 16 = .ok (.getfield 44, 3) := by decide +kernel
theorem dX8_forget_19 : decode cX8_forget 19 = .ok (.iload_n 2, 1) := by decide +kernel
theorem dX8_forget_20 : decode cX8_forget 20 = .ok (.iaload, 1) := by decide +kernel
theorem dX8_forget_21 : decode cX8_forget 21 = .ok (.iload_n 1, 1) := by decide +kernel
theorem dX8_forget_22 : decode cX8_forget 22 = .ok (.if_icmp .eq 9, 3) := by decide +kernel
theorem dX8_forget_25 : decode cX8_forget 25 = .ok (.iinc 2 1, 3) := by decide +kernel
theorem dX8_forget_28 : decode cX8_forget 28 = .ok (.goto (-21), 3) := by decide +kernel
theorem dX8_forget_31 : decode cX8_forget 31 = .ok (.aload_n 0, 1) := by decide +kernel
theorem dX8_forget_32 : decode cX8_forget 32 = .ok (.iload_n 2, 1) := by decide +kernel
theorem dX8_forget_33 : decode cX8_forget 33 = .ok (.aload_n 0, 1) := by decide +kernel
theorem dX8_forget_34 : decode cX8_forget 34 = .ok (.getfield 152, 3) := by decide +kernel
theorem dX8_forget_37 : decode cX8_forget 37 = .ok (.if_icmp .ge 7, 3) := by decide +kernel
theorem dX8_forget_40 : decode cX8_forget 40 = .ok (.iconst 0, 1) := by decide +kernel
theorem dX8_forget_41 : decode cX8_forget 41 = .ok (.goto 4, 3) := by decide +kernel
theorem dX8_forget_44 : decode cX8_forget 44 = .ok (.iconst 1, 1) := by decide +kernel
theorem dX8_forget_45 : decode cX8_forget 45 = .ok (.putfield 100, 3) := by decide +kernel
theorem dX8_forget_48 : decode cX8_forget 48 = .ok (.aload_n 0, 1) := by decide +kernel
theorem dX8_forget_49 : decode cX8_forget 49 = .ok (.getfield 100, 3) := by decide +kernel
theorem dX8_forget_52 : decode cX8_forget 52 = .ok (.ifCond .le 5, 3) := by decide +kernel
theorem dX8_forget_55 : decode cX8_forget 55 = .ok (.iconst 0, 1) := by decide +kernel
theorem dX8_forget_56 : decode cX8_forget 56 = .ok (.ireturn, 1) := by decide +kernel
theorem dX8_forget_57 : decode cX8_forget 57 = .ok (.aload_n 0, 1) := by decide +kernel
theorem dX8_forget_58 : decode cX8_forget 58 = .ok (.iload_n 2, 1) := by decide +kernel
theorem dX8_forget_59 : decode cX8_forget 59 = .ok (.iconst (-1), 1) := by decide +kernel
theorem dX8_forget_60 : decode cX8_forget 60 = .ok (.invokevirtual 162, 3) := by decide +kernel
theorem dX8_forget_63 : decode cX8_forget 63 = .ok (.aload_n 0, 1) := by decide +kernel
theorem dX8_forget_64 : decode cX8_forget 64 = .ok (.getfield 152, 3) := by decide +kernel
theorem dX8_forget_67 : decode cX8_forget 67 = .ok (.iconst 1, 1) := by decide +kernel
theorem dX8_forget_68 : decode cX8_forget 68 = .ok (.isub, 1) := by decide +kernel
theorem dX8_forget_69 : decode cX8_forget 69 = .ok (.istore_n 3, 1) := by decide +kernel
theorem dX8_forget_70 : decode cX8_forget 70 = .ok (.aload_n 0, 1) := by decide +kernel
theorem dX8_forget_71 : decode cX8_forget 71 = .ok (.getfield 44, 3) := by decide +kernel
theorem dX8_forget_74 : decode cX8_forget 74 = .ok (.iload_n 2, 1) := by decide +kernel
theorem dX8_forget_75 : decode cX8_forget 75 = .ok (.aload_n 0, 1) := by decide +kernel
theorem dX8_forget_76 : decode cX8_forget 76 = .ok (.getfield 44, 3) := by decide +kernel
theorem dX8_forget_79 : decode cX8_forget 79 = .ok (.iload_n 3, 1) := by decide +kernel
theorem dX8_forget_80 : decode cX8_forget 80 = .ok (.iaload, 1) := by decide +kernel
theorem dX8_forget_81 : decode cX8_forget 81 = .ok (.iastore, 1) := by decide +kernel
theorem dX8_forget_82 : decode cX8_forget 82 = .ok (.aload_n 0, 1) := by decide +kernel
theorem dX8_forget_83 : decode cX8_forget 83 = .ok (.getfield 47, 3) := by decide +kernel
theorem dX8_forget_86 : decode cX8_forget 86 = .ok (.iload_n 2, 1) := by decide +kernel
theorem dX8_forget_87 : decode cX8_forget 87 = .ok (.aload_n 0, 1) := by decide +kernel
theorem dX8_forget_88 : decode cX8_forget 88 = .ok (.getfield 47, 3) := by decide +kernel
theorem dX8_forget_91 : decode cX8_forget 91 = .ok (.iload_n 3, 1) := by decide +kernel
theorem dX8_forget_92 : decode cX8_forget 92 = .ok (.iaload, 1) := by decide +kernel
theorem dX8_forget_93 : decode cX8_forget 93 = .ok (.iastore, 1) := by decide +kernel
theorem dX8_forget_94 : decode cX8_forget 94 = .ok (.aload_n 0, 1) := by decide +kernel
theorem dX8_forget_95 : decode cX8_forget 95 = .ok (.getfield 50, 3) := by decide +kernel
theorem dX8_forget_98 : decode cX8_forget 98 = .ok (.iload_n 2, 1) := by decide +kernel
theorem dX8_forget_99 : decode cX8_forget 99 = .ok (.aload_n 0, 1) := by decide +kernel
theorem dX8_forget_100 : decode cX8_forget 100 = .ok (.getfield 50, 3) := by decide +kernel
theorem dX8_forget_103 : decode cX8_forget 103 = .ok (.iload_n 3, 1) := by decide +kernel
theorem dX8_forget_104 : decode cX8_forget 104 = .ok (.iaload, 1) := by decide +kernel
theorem dX8_forget_105 : decode cX8_forget 105 = .ok (.iastore, 1) := by decide +kernel
theorem dX8_forget_106 : decode cX8_forget 106 = .ok (.iconst 0, 1) := by decide +kernel
theorem dX8_forget_107 : decode cX8_forget 107 = .ok (.istore 4, 2) := by decide +kernel
theorem dX8_forget_109 : decode cX8_forget 109 = .ok (.iload 4, 2) := by decide +kernel
theorem dX8_forget_111 : decode cX8_forget 111 = .ok (.aload_n 0, 1) := by decide +kernel
theorem dX8_forget_112 : decode cX8_forget 112 = .ok (.getfield 50, 3) := by decide +kernel
theorem dX8_forget_115 : decode cX8_forget 115 = .ok (.iload_n 3, 1) := by decide +kernel
theorem dX8_forget_116 : decode cX8_forget 116 = .ok (.iaload, 1) := by decide +kernel
theorem dX8_forget_117 : decode cX8_forget 117 = .ok (.if_icmp .ge 35, 3) := by decide +kernel
theorem dX8_forget_120 : decode cX8_forget 120 = .ok (.aload_n 0, 1) := by decide +kernel
theorem dX8_forget_121 : decode cX8_forget 121 = .ok (.getfield 54, 3) := by decide +kernel
theorem dX8_forget_124 : decode cX8_forget 124 = .ok (.sipush 660, 3) := by decide +kernel
theorem dX8_forget_127 : decode cX8_forget 127 = .ok (.iload_n 2, 1) := by decide +kernel
theorem dX8_forget_128 : decode cX8_forget 128 = .ok (.imul, 1) := by decide +kernel
theorem dX8_forget_129 : decode cX8_forget 129 = .ok (.iload 4, 2) := by decide +kernel
theorem dX8_forget_131 : decode cX8_forget 131 = .ok (.iadd, 1) := by decide +kernel
theorem dX8_forget_132 : decode cX8_forget 132 = .ok (.aload_n 0, 1) := by decide +kernel
theorem dX8_forget_133 : decode cX8_forget 133 = .ok (.getfield 54, 3) := by decide +kernel
theorem dX8_forget_136 : decode cX8_forget 136 = .ok (.sipush 660, 3) := by decide +kernel
theorem dX8_forget_139 : decode cX8_forget 139 = .ok (.iload_n 3, 1) := by decide +kernel
theorem dX8_forget_140 : decode cX8_forget 140 = .ok (.imul, 1) := by decide +kernel
theorem dX8_forget_141 : decode cX8_forget 141 = .ok (.iload 4, 2) := by decide +kernel
theorem dX8_forget_143 : decode cX8_forget 143 = .ok (.iadd, 1) := by decide +kernel
theorem dX8_forget_144 : decode cX8_forget 144 = .ok (.saload, 1) := by decide +kernel
theorem dX8_forget_145 : decode cX8_forget 145 = .ok (.sastore, 1) := by decide +kernel
theorem dX8_forget_146 : decode cX8_forget 146 = .ok (.iinc 4 1, 3) := by decide +kernel
theorem dX8_forget_149 : decode cX8_forget 149 = .ok (.goto (-40), 3) := by decide +kernel
theorem dX8_forget_152 : decode cX8_forget 152 = .ok (.aload_n 0, 1) := by decide +kernel
theorem dX8_forget_153 : decode cX8_forget 153 = .ok (.dup, 1) := by decide +kernel
theorem dX8_forget_154 : decode cX8_forget 154 = .ok (.getfield 152, 3) := by decide +kernel
theorem dX8_forget_157 : decode cX8_forget 157 = .ok (.iconst 1, 1) := by decide +kernel
theorem dX8_forget_158 : decode cX8_forget 158 = .ok (.isub, 1) := by decide +kernel
theorem dX8_forget_159 : decode cX8_forget 159 = .ok (.putfield 152, 3) := by decide +kernel
theorem dX8_forget_162 : decode cX8_forget 162 = .ok (.iconst 1, 1) := by decide +kernel
theorem dX8_forget_163 : decode cX8_forget 163 = .ok (.ireturn, 1) := by decide +kernel
set_option maxRecDepth 100000 in
theorem ggX8_isOne_X8_cut : GoodIn wsX8_isOne wsX8_cut := goodIn_r _ [7, 8, 9, 2, 10, 11, 6, 12, 13, 14, 15, 16, 17, 18, 19, 20, 21, 22, 23, 24, 25, 26, 27, 28, 29, 30, 31, 32, 33, 34, 35, 36, 37, 38, 39, 40, 41, 42, 43, 44, 45, 46, 47, 48, 49, 50, 51, 52, 53] (by rfl) (by decide +kernel)
set_option maxRecDepth 20000 in
theorem gX8_isOne_X8_cut : GoodIn wsX8_isOne (wsV RX8 148 RX8 yX8_cut wsX8_cut) := goodIn_app (goodIn_of _ (by decide +kernel)) ggX8_isOne_X8_cut
theorem dX8_isOne_0 : decode cX8_isOne 0 = .ok (.aload_n 0, 1) := by decide +kernel
theorem dX8_isOne_1 : decode cX8_isOne 1 = .ok (.aload_n 0, 1) := by decide +kernel
theorem dX8_isOne_2 : decode cX8_isOne 2 = .ok (.getfield 11, 3) := by decide +kernel
theorem dX8_isOne_5 : decode cX8_isOne 5 = .ok (.iload_n 1, 1) := by decide +kernel
theorem dX8_isOne_6 : decode cX8_isOne 6 = .ok (.invokevirtual 148, 3) := by decide +kernel
theorem dX8_isOne_9 : decode cX8_isOne 9 = .ok (.iconst 1, 1) := by decide +kernel
theorem dX8_isOne_10 : decode cX8_isOne 10 = .ok (.if_icmp .ne 16, 3) := by decide +kernel
theorem dX8_isOne_13 : decode cX8_isOne 13 = .ok (.aload_n 0, 1) := by decide +kernel
theorem dX8_isOne_14 : decode cX8_isOne 14 = .ok (.getfield 22, 3) := by decide +kernel
theorem dX8_isOne_17 : decode cX8_isOne 17 = .ok (.iconst 0, 1) := by decide +kernel
theorem dX8_isOne_18 : decode cX8_isOne 18 = .ok (.baload, 1) := by decide +kernel
theorem dX8_isOne_19 : decode cX8_isOne 19 = .ok (.ifCond .ne 7, 3) := by decide +kernel
theorem dX8_isOne_22 : decode cX8_isOne 22 = .ok (.iconst 1, 1) := by decide +kernel
theorem dX8_isOne_23 : decode cX8_isOne 23 = .ok (.goto 4, 3) := by decide +kernel
theorem dX8_isOne_26 : decode cX8_isOne 26 = .ok (.iconst 0, 1) := by decide +kernel
theorem dX8_isOne_27 : decode cX8_isOne 27 = .ok (.ireturn, 1) := by decide +kernel
set_option maxRecDepth 100000 in
theorem ggX8_keyword_X8_isTongue : GoodIn wsX8_keyword wsX8_isTongue := goodIn_r _ [14, 15, 58, 59, 60, 61, 62, 63, 64, 65, 66, 67, 68, 69, 70, 71, 72, 73, 74, 75, 76, 77, 78, 79, 80, 81, 82, 83, 84, 85, 86, 87, 88, 89, 90, 91, 92, 93, 94, 95] (by rfl) (by decide +kernel)
set_option maxRecDepth 20000 in
theorem gX8_keyword_X8_isTongue : GoodIn wsX8_keyword (wsV RX8 142 RX8 yX8_isTongue wsX8_isTongue) := goodIn_app (goodIn_of _ (by decide +kernel)) ggX8_keyword_X8_isTongue
set_option maxRecDepth 100000 in
theorem ggX8_keyword_X8_refused : GoodIn wsX8_keyword wsX8_refused := goodIn_r _ [19, 20, 58, 59, 60, 61, 62, 63, 64, 65, 66, 67, 68, 69, 70, 71, 72, 73, 74, 75, 76, 77, 78, 79, 80, 81, 82, 83, 84, 85, 86, 87, 88, 89, 90, 91, 92, 93, 94, 95] (by rfl) (by decide +kernel)
set_option maxRecDepth 20000 in
theorem gX8_keyword_X8_refused : GoodIn wsX8_keyword (wsV RX8 136 RX8 yX8_refused wsX8_refused) := goodIn_app (goodIn_of _ (by decide +kernel)) ggX8_keyword_X8_refused
set_option maxRecDepth 100000 in
theorem ggX8_keyword_X8_isTaped : GoodIn wsX8_keyword wsX8_isTaped := goodIn_r _ [24, 2, 58, 59, 60, 61, 62, 63, 64, 65, 66, 67, 68, 69, 70, 71, 72, 73, 74, 75, 76, 77, 78, 79, 80, 81, 82, 83, 84, 85, 86, 87, 88, 89, 90, 91, 92, 93, 94, 95] (by rfl) (by decide +kernel)
set_option maxRecDepth 20000 in
theorem gX8_keyword_X8_isTaped : GoodIn wsX8_keyword (wsV RX8 145 RX8 yX8_isTaped wsX8_isTaped) := goodIn_app (goodIn_of _ (by decide +kernel)) ggX8_keyword_X8_isTaped
set_option maxRecDepth 100000 in
theorem ggX8_keyword_X8_isOne : GoodIn wsX8_keyword wsX8_isOne := goodIn_r _ [28, 3, 29, 30, 31, 32, 13, 33, 4, 5, 34, 35, 36, 37, 38, 39, 58, 59, 60, 61, 62, 63, 64, 65, 66, 67, 68, 69, 70, 71, 72, 73, 74, 75, 76, 77, 78, 79, 80, 81, 82, 83, 84, 85, 86, 87, 88, 89, 90, 91, 92, 93, 94, 95] (by rfl) (by decide +kernel)
set_option maxRecDepth 20000 in
theorem gX8_keyword_X8_isOne : GoodIn wsX8_keyword (wsV RX8 166 RX8 yX8_isOne wsX8_isOne) := goodIn_app (goodIn_of _ (by decide +kernel)) ggX8_keyword_X8_isOne
set_option maxRecDepth 100000 in
theorem ggX8_keyword_X8_keywordAt : GoodIn wsX8_keyword wsX8_keywordAt := goodIn_r _ [43, 7, 9, 8, 44, 45, 13, 46, 47, 48, 49, 50, 51, 52, 53, 37, 38, 39, 58, 59, 60, 61, 62, 63, 64, 65, 66, 67, 68, 69, 70, 71, 72, 73, 74, 75, 76, 77, 78, 79, 80, 81, 82, 83, 84, 85, 86, 87, 88, 89, 90, 91, 92, 93, 94, 95] (by rfl) (by decide +kernel)
set_option maxRecDepth 20000 in
theorem gX8_keyword_X8_keywordAt : GoodIn wsX8_keyword (wsV RX8 169 RX8 yX8_keywordAt wsX8_keywordAt) := goodIn_app (goodIn_of _ (by decide +kernel)) ggX8_keyword_X8_keywordAt
set_option maxRecDepth 100000 in
theorem ggX8_keyword_X8_most : GoodIn wsX8_keyword wsX8_most := goodIn_r _ [46, 47, 48, 49, 50] (by rfl) (by decide +kernel)
set_option maxRecDepth 20000 in
theorem gX8_keyword_X8_most : GoodIn wsX8_keyword (va_wsS RX8 123 yX8_most wsX8_most) := goodIn_app (goodIn_of _ (by decide +kernel)) ggX8_keyword_X8_most
set_option maxRecDepth 100000 in
theorem ggX8_keyword_X8_signOf : GoodIn wsX8_keyword wsX8_signOf := goodIn_r _ [39] (by rfl) (by decide +kernel)
set_option maxRecDepth 20000 in
theorem gX8_keyword_X8_signOf : GoodIn wsX8_keyword (va_wsS RX8 110 yX8_signOf wsX8_signOf) := goodIn_app (goodIn_of _ (by decide +kernel)) ggX8_keyword_X8_signOf
set_option maxRecDepth 100000 in
theorem ggX8_keyword_X8_done : GoodIn wsX8_keyword wsX8_done := goodIn_r _ [57, 20, 58, 59, 60, 61, 62, 63, 64, 65, 66, 67, 68, 69, 70, 71, 72, 73, 74, 75, 76, 77, 78, 79, 80, 81, 82, 83, 84, 85, 86, 87, 88, 89, 90, 91, 92, 93, 94, 95] (by rfl) (by decide +kernel)
set_option maxRecDepth 20000 in
theorem gX8_keyword_X8_done : GoodIn wsX8_keyword (wsV RX8 139 RX8 yX8_done wsX8_done) := goodIn_app (goodIn_of _ (by decide +kernel)) ggX8_keyword_X8_done
theorem dX8_keyword_0 : decode cX8_keyword 0 = .ok (.aload_n 0, 1) := by decide +kernel
theorem dX8_keyword_1 : decode cX8_keyword 1 = .ok (.iconst 0, 1) := by decide +kernel
theorem dX8_keyword_2 : decode cX8_keyword 2 = .ok (.putfield 97, 3) := by decide +kernel
theorem dX8_keyword_5 : decode cX8_keyword 5 = .ok (.aload_n 0, 1) := by decide +kernel
theorem dX8_keyword_6 : decode cX8_keyword 6 = .ok (.iload_n 1, 1) := by decide +kernel
theorem dX8_keyword_7 : decode cX8_keyword 7 = .ok (.invokevirtual 142, 3) := by decide +kernel
theorem dX8_keyword_10 : decode cX8_keyword 10 = .ok (.ifCond .ne 9, 3) := by decide +kernel
theorem dX8_keyword_13 : decode cX8_keyword 13 = .ok (.aload_n 0, 1) := by decide +kernel
theorem dX8_keyword_14 : decode cX8_keyword 14 = .ok (.iconst 1, 1) := by decide +kernel
theorem dX8_keyword_15 : decode cX8_keyword 15 = .ok (.invokevirtual 136, 3) := by decide +kernel
theorem dX8_keyword_18 : decode cX8_keyword 18 = .ok (.ireturn, 1) := by decide +kernel
theorem dX8_keyword_19 : decode cX8_keyword 19 = .ok (.aload_n 0, 1) := by decide +kernel
theorem dX8_keyword_20 : decode cX8_keyword 20 = .ok (.iload_n 2, 1) := by decide +kernel
theorem dX8_keyword_21 : decode cX8_keyword 21 = .ok (.invokevirtual 145, 3) := by decide +kernel
theorem dX8_keyword_24 : decode cX8_keyword 24 = .ok (.ifCond .ne 9, 3) := by decide +kernel
theorem dX8_keyword_27 : decode cX8_keyword 27 = .ok (.aload_n 0, 1) := by decide +kernel
theorem dX8_keyword_28 : decode cX8_keyword 28 = .ok (.iconst 2, 1) := by decide +kernel
theorem dX8_keyword_29 : decode cX8_keyword 29 = .ok (.invokevirtual 136, 3) := by decide +kernel
theorem dX8_keyword_32 : decode cX8_keyword 32 = .ok (.ireturn, 1) := by decide +kernel
theorem dX8_keyword_33 : decode cX8_keyword 33 = .ok (.aload_n 0, 1) := by decide +kernel
theorem dX8_keyword_34 : decode cX8_keyword 34 = .ok (.iconst 0, 1) := by decide +kernel
theorem dX8_keyword_35 : decode cX8_keyword 35 = .ok (.putfield 103, 3) := by decide +kernel
theorem dX8_keyword_38 : decode cX8_keyword 38 = .ok (.aload_n 0, 1) := by decide +kernel
theorem dX8_keyword_39 : decode cX8_keyword 39 = .ok (.iload_n 2, 1) := by decide +kernel
theorem dX8_keyword_40 : decode cX8_keyword 40 = .ok (.invokevirtual 166, 3) := by decide +kernel
theorem dX8_keyword_43 : decode cX8_keyword 43 = .ok (.ifCond .ne 9, 3) := by decide +kernel
theorem dX8_keyword_46 : decode cX8_keyword 46 = .ok (.aload_n 0, 1) := by decide +kernel
theorem dX8_keyword_47 : decode cX8_keyword 47 = .ok (.iconst 2, 1) := by decide +kernel
theorem dX8_keyword_48 : decode cX8_keyword 48 = .ok (.invokevirtual 136, 3) := by decide +kernel
theorem dX8_keyword_51 : decode cX8_keyword 51 = .ok (.ireturn, 1) := by decide +kernel
theorem dX8_keyword_52 : decode cX8_keyword 52 = .ok (.aload_n 0, 1) := by decide +kernel
theorem dX8_keyword_53 : decode cX8_keyword 53 = .ok (.aload_n 0, 1) := by decide +kernel
theorem dX8_keyword_54 : decode cX8_keyword 54 = .ok (.getfield 11, 3) := by decide +kernel
theorem dX8_keyword_57 : decode cX8_keyword 57 = .ok (.aload_n 0, 1) := by decide +kernel
theorem dX8_keyword_58 : decode cX8_keyword 58 = .ok (.getfield 15, 3) := by decide +kernel
theorem dX8_keyword_61 : decode cX8_keyword 61 = .ok (.iconst 0, 1) := by decide +kernel
theorem dX8_keyword_62 : decode cX8_keyword 62 = .ok (.iaload, 1) := by decide +kernel
theorem dX8_keyword_63 : decode cX8_keyword 63 = .ok (.aload_n 0, 1) := by decide +kernel
theorem dX8_keyword_64 : decode cX8_keyword 64 = .ok (.getfield 19, 3) := by decide +kernel
theorem dX8_keyword_67 : decode cX8_keyword 67 = .ok (.iconst 0, 1) := by decide +kernel
theorem dX8_keyword_68 : decode cX8_keyword 68 = .ok (.iaload, 1) := by decide +kernel
theorem dX8_keyword_69 : decode cX8_keyword 69 = .ok (.invokevirtual 169, 3) := by decide +kernel
theorem dX8_keyword_72 : decode cX8_keyword 72 = .ok (.istore_n 3, 1) := by decide +kernel
theorem dX8_keyword_73 : decode cX8_keyword 73 = .ok (.iload_n 3, 1) := by decide +kernel
theorem dX8_keyword_74 : decode cX8_keyword 74 = .ok (.iconst (-1), 1) := by decide +kernel
theorem dX8_keyword_75 : decode cX8_keyword 75 = .ok (.if_icmp .eq 23, 3) := by decide +kernel
theorem dX8_keyword_78 : decode cX8_keyword 78 = .ok (.aload_n 0, 1) := by decide +kernel
theorem dX8_keyword_79 : decode cX8_keyword 79 = .ok (.getfield 35, 3) := by decide +kernel
theorem dX8_keyword_82 : decode cX8_keyword 82 = .ok (.iload_n 3, 1) := by decide +kernel
theorem dX8_keyword_83 : decode cX8_keyword 83 = .ok (.iaload, 1) := by decide +kernel
theorem dX8_keyword_84 : decode cX8_keyword 84 = .ok (.iload_n 1, 1) := by decide +kernel
theorem dX8_keyword_85 : decode cX8_keyword 85 = .ok (.ishr, 1) := by decide +kernel
theorem dX8_keyword_86 : decode cX8_keyword 86 = .ok (.iconst 1, 1) := by decide +kernel
theorem dX8_keyword_87 : decode cX8_keyword 87 = .ok (.iand, 1) := by decide +kernel
theorem dX8_keyword_88 : decode cX8_keyword 88 = .ok (.iconst 1, 1) := by decide +kernel
theorem dX8_keyword_89 : decode cX8_keyword 89 = .ok (.if_icmp .ne 9, 3) := by decide +kernel
theorem dX8_keyword_92 : decode cX8_keyword 92 = .ok (.aload_n 0, 1) := by decide +kernel
theorem dX8_keyword_93 : decode cX8_keyword 93 = .ok (.iconst 4, 1) := by decide +kernel
theorem dX8_keyword_94 : decode cX8_keyword 94 = .ok (.invokevirtual 136, 3) := by decide +kernel
theorem dX8_keyword_97 : decode cX8_keyword 97 = .ok (.ireturn, 1) := by decide +kernel
theorem dX8_keyword_98 : decode cX8_keyword 98 = .ok (.iload_n 3, 1) := by decide +kernel
theorem dX8_keyword_99 : decode cX8_keyword 99 = .ok (.iconst (-1), 1) := by decide +kernel
theorem dX8_keyword_100 : decode cX8_keyword 100 = .ok (.if_icmp .ne 18, 3) := by decide +kernel
theorem dX8_keyword_103 : decode cX8_keyword 103 = .ok (.aload_n 0, 1) := by decide +kernel
theorem dX8_keyword_104 : decode cX8_keyword 104 = .ok (.getfield 130, 3) := by decide +kernel
theorem dX8_keyword_107 : decode cX8_keyword 107 = .ok (.bipush 60, 2) := by decide +kernel
theorem dX8_keyword_109 : decode cX8_keyword 109 = .ok (.if_icmp .ne 9, 3) := by decide +kernel
theorem dX8_keyword_112 : decode cX8_keyword 112 = .ok (.aload_n 0, 1) := by decide +kernel
theorem dX8_keyword_113 : decode cX8_keyword 113 = .ok (.iconst 3, 1) := by decide +kernel
theorem dX8_keyword_114 : decode cX8_keyword 114 = .ok (.invokevirtual 136, 3) := by decide +kernel
theorem dX8_keyword_117 : decode cX8_keyword 117 = .ok (.ireturn, 1) := by decide +kernel
theorem dX8_keyword_118 : decode cX8_keyword 118 = .ok (.iload_n 3, 1) := by decide +kernel
theorem dX8_keyword_119 : decode cX8_keyword 119 = .ok (.iconst (-1), 1) := by decide +kernel
theorem dX8_keyword_120 : decode cX8_keyword 120 = .ok (.if_icmp .ne 94, 3) := by decide +kernel
theorem dX8_keyword_123 : decode cX8_keyword 123 = .ok (.aload_n 0, 1) := by decide +kernel
theorem dX8_keyword_124 : decode cX8_keyword 124 = .ok (.getfield 130, 3) := by decide +kernel
theorem dX8_keyword_127 : decode cX8_keyword 127 = .ok (.istore_n 3, 1) := by decide +kernel
theorem dX8_keyword_128 : decode cX8_keyword 128 = .ok (.aload_n 0, 1) := by decide +kernel
theorem dX8_keyword_129 : decode cX8_keyword 129 = .ok (.getfield 32, 3) := by decide +kernel
theorem dX8_keyword_132 : decode cX8_keyword 132 = .ok (.iload_n 3, 1) := by decide +kernel
theorem dX8_keyword_133 : decode cX8_keyword 133 = .ok (.aload_n 0, 1) := by decide +kernel
theorem dX8_keyword_134 : decode cX8_keyword 134 = .ok (.getfield 19, 3) := by decide +kernel
theorem dX8_keyword_137 : decode cX8_keyword 137 = .ok (.iconst 0, 1) := by decide +kernel
theorem dX8_keyword_138 : decode cX8_keyword 138 = .ok (.iaload, 1) := by decide +kernel
theorem dX8_keyword_139 : decode cX8_keyword 139 = .ok (.invokestatic 123, 3) := by decide +kernel
theorem dX8_keyword_142 : decode cX8_keyword 142 = .ok (.iastore, 1) := by decide +kernel
theorem dX8_keyword_143 : decode cX8_keyword 143 = .ok (.iconst 0, 1) := by decide +kernel
theorem dX8_keyword_144 : decode cX8_keyword 144 = .ok (.istore 4, 2) := by decide +kernel
theorem dX8_keyword_146 : decode cX8_keyword 146 = .ok (.iload 4, 2) := by decide +kernel
theorem dX8_keyword_148 : decode cX8_keyword 148 = .ok (.aload_n 0, 1) := by decide +kernel
theorem dX8_keyword_149 : decode cX8_keyword 149 = .ok (.getfield 32, 3) := by decide +kernel
theorem dX8_keyword_152 : decode cX8_keyword 152 = .ok (.iload_n 3, 1) := by decide +kernel
theorem dX8_keyword_153 : decode cX8_keyword 153 = .ok (.iaload, 1) := by decide +kernel
theorem dX8_keyword_154 : decode cX8_keyword 154 = .ok (.if_icmp .ge 43, 3) := by decide +kernel
theorem dX8_keyword_157 : decode cX8_keyword 157 = .ok (.aload_n 0, 1) := by decide +kernel
theorem dX8_keyword_158 : decode cX8_keyword 158 = .ok (.getfield 26, 3) := by decide +kernel
theorem dX8_keyword_161 : decode cX8_keyword 161 = .ok (.bipush 24, 2) := by decide +kernel
theorem dX8_keyword_163 : decode cX8_keyword 163 = .ok (.iload_n 3, 1) := by decide +kernel
theorem dX8_keyword_164 : decode cX8_keyword 164 = .ok (.imul, 1) := by decide +kernel
theorem dX8_keyword_165 : decode cX8_keyword 165 = .ok (.iload 4, 2) := by decide +kernel
theorem dX8_keyword_167 : decode cX8_keyword 167 = .ok (.iadd, 1) := by decide +kernel
theorem dX8_keyword_168 : decode cX8_keyword 168 = .ok (.aload_n 0, 1) := by decide +kernel
theorem dX8_keyword_169 : decode cX8_keyword 169 = .ok (.getfield 11, 3) := by decide +kernel
theorem dX8_keyword_172 : decode cX8_keyword 172 = .ok (.aload_n 0, 1) := by decide +kernel
theorem dX8_keyword_173 : decode cX8_keyword 173 = .ok (.getfield 15, 3) := by decide +kernel
theorem dX8_keyword_176 : decode cX8_keyword 176 = .ok (.iconst 0, 1) := by decide +kernel
theorem dX8_keyword_177 : decode cX8_keyword 177 = .ok (.iaload, 1) := by decide +kernel
theorem dX8_keyword_178 : decode cX8_keyword 178 = .ok (.iload 4, 2) := by decide +kernel
theorem dX8_keyword_180 : decode cX8_keyword 180 = .ok (.iadd, 1) := by decide +kernel
theorem dX8_keyword_181 : decode cX8_keyword 181 = .ok (.baload, 1) := by decide +kernel
theorem dX8_keyword_182 : decode cX8_keyword 182 = .ok (.sipush 255, 3) := by decide +kernel
theorem dX8_keyword_185 : decode cX8_keyword 185 = .ok (.iand, 1) := by decide +kernel
theorem dX8_keyword_186 : decode cX8_keyword 186 = .ok (.invokestatic 110, 3) := by decide +kernel
theorem dX8_keyword_189 : decode cX8_keyword 189 = .ok (.i2b, 1) := by decide +kernel
theorem dX8_keyword_190 : decode cX8_keyword 190 = .ok (.bastore, 1) := by decide +kernel
theorem dX8_keyword_191 : decode cX8_keyword 191 = .ok (.iinc 4 1, 3) := by decide +kernel
theorem dX8_keyword_194 : decode cX8_keyword 194 = .ok (.goto (-48), 3) := by decide +kernel
theorem dX8_keyword_197 : decode cX8_keyword 197 = .ok (.aload_n 0, 1) := by decide +kernel
theorem dX8_keyword_198 : decode cX8_keyword 198 = .ok (.getfield 35, 3) := by decide +kernel
theorem dX8_keyword_201 : decode cX8_keyword 201 = .ok (.iload_n 3, 1) := by decide +kernel
theorem dX8_keyword_202 : decode cX8_keyword 202 = .ok (.iconst 0, 1) := by decide +kernel
theorem dX8_keyword_203 : decode cX8_keyword 203 = .ok (.iastore, 1) := by decide +kernel
theorem dX8_keyword_204 : decode cX8_keyword 204 = .ok (.aload_n 0, 1) := by decide +kernel
theorem dX8_keyword_205 : decode cX8_keyword 205 = .ok (.dup, 1) := by decide +kernel
theorem dX8_keyword_206 : decode cX8_keyword 206 = .ok (.getfield 130, 3) := by decide +kernel
theorem dX8_keyword_209 : decode cX8_keyword 209 = .ok (.iconst 1, 1) := by decide +kernel
theorem dX8_keyword_210 : decode cX8_keyword 210 = .ok (.iadd, 1) := by decide +kernel
theorem dX8_keyword_211 : decode cX8_keyword 211 = .ok (.putfield 130, 3) := by decide +kernel
theorem dX8_keyword_214 : decode cX8_keyword 214 = .ok (.aload_n 0, 1) := by decide +kernel
theorem dX8_keyword_215 : decode cX8_keyword 215 = .ok (.getfield 35, 3) := by decide +kernel
theorem dX8_keyword_218 : decode cX8_keyword 218 = .ok (.iload_n 3, 1) := by decide +kernel
theorem dX8_keyword_219 : decode cX8_keyword 219 = .ok (.dup2, 1) := by decide +kernel
theorem dX8_keyword_220 : decode cX8_keyword 220 = .ok (.iaload, 1) := by decide +kernel
theorem dX8_keyword_221 : decode cX8_keyword 221 = .ok (.iconst 1, 1) := by decide +kernel
theorem dX8_keyword_222 : decode cX8_keyword 222 = .ok (.iload_n 1, 1) := by decide +kernel
theorem dX8_keyword_223 : decode cX8_keyword 223 = .ok (.ishl, 1) := by decide +kernel
theorem dX8_keyword_224 : decode cX8_keyword 224 = .ok (.ior, 1) := by decide +kernel
theorem dX8_keyword_225 : decode cX8_keyword 225 = .ok (.iastore, 1) := by decide +kernel
theorem dX8_keyword_226 : decode cX8_keyword 226 = .ok (.iconst 0, 1) := by decide +kernel
theorem dX8_keyword_227 : decode cX8_keyword 227 = .ok (.istore 4, 2) := by decide +kernel
theorem dX8_keyword_229 : decode cX8_keyword 229 = .ok (.iconst 0, 1) := by decide +kernel
theorem dX8_keyword_230 : decode cX8_keyword 230 = .ok (.istore 5, 2) := by decide +kernel
theorem dX8_keyword_232 : decode cX8_keyword 232 = .ok (.iload 5, 2) := by decide +kernel
theorem dX8_keyword_234 : decode cX8_keyword 234 = .ok (.bipush 8, 2) := by decide +kernel
theorem dX8_keyword_236 : decode cX8_keyword 236 = .ok (.if_icmp .ge 25, 3) := by decide +kernel
theorem dX8_keyword_239 : decode cX8_keyword 239 = .ok (.iload 4, 2) := by decide +kernel
theorem dX8_keyword_241 : decode cX8_keyword 241 = .ok (.aload_n 0, 1) := by decide +kernel
theorem dX8_keyword_242 : decode cX8_keyword 242 = .ok (.getfield 35, 3) := by decide +kernel
theorem dX8_keyword_245 : decode cX8_keyword 245 = .ok (.iload_n 3, 1) := by decide +kernel
theorem dX8_keyword_246 : decode cX8_keyword 246 = .ok (.iaload, 1) := by decide +kernel
theorem dX8_keyword_247 : decode cX8_keyword 247 = .ok (.iload 5, 2) := by decide +kernel
theorem dX8_keyword_249 : decode cX8_keyword 249 = .ok (.ishr, 1) := by decide +kernel
theorem dX8_keyword_250 : decode cX8_keyword 250 = .ok (.iconst 1, 1) := by decide +kernel
theorem dX8_keyword_251 : decode cX8_keyword 251 = .ok (.iand, 1) := by decide +kernel
theorem dX8_keyword_252 : decode cX8_keyword 252 = .ok (.iadd, 1) := by decide +kernel
theorem dX8_keyword_253 : decode cX8_keyword 253 = .ok (.istore 4, 2) := by decide +kernel
theorem dX8_keyword_255 : decode cX8_keyword 255 = .ok (.iinc 5 1, 3) := by decide +kernel
theorem dX8_keyword_258 : decode cX8_keyword 258 = .ok (.goto (-26), 3) := by decide +kernel
theorem dX8_keyword_261 : decode cX8_keyword 261 = .ok (.aload_n 0, 1) := by decide +kernel
theorem dX8_keyword_262 : decode cX8_keyword 262 = .ok (.iload 4, 2) := by decide +kernel
theorem dX8_keyword_264 : decode cX8_keyword 264 = .ok (.invokevirtual 139, 3) := by decide +kernel
theorem dX8_keyword_267 : decode cX8_keyword 267 = .ok (.ireturn, 1) := by decide +kernel
set_option maxRecDepth 100000 in
theorem ggX8_name_X8_isTaped : GoodIn wsX8_name wsX8_isTaped := goodIn_r _ [13, 2, 52, 53, 54, 55, 56, 57, 58, 59, 60, 61, 62, 63, 64, 65, 66, 67, 68, 69, 70, 71, 72, 73, 74, 75, 76, 77, 78, 79, 80, 81, 82, 83, 84, 85, 86, 87, 88, 89] (by rfl) (by decide +kernel)
set_option maxRecDepth 20000 in
theorem gX8_name_X8_isTaped : GoodIn wsX8_name (wsV RX8 145 RX8 yX8_isTaped wsX8_isTaped) := goodIn_app (goodIn_of _ (by decide +kernel)) ggX8_name_X8_isTaped
set_option maxRecDepth 100000 in
theorem ggX8_name_X8_refused : GoodIn wsX8_name wsX8_refused := goodIn_r _ [17, 18, 52, 53, 54, 55, 56, 57, 58, 59, 60, 61, 62, 63, 64, 65, 66, 67, 68, 69, 70, 71, 72, 73, 74, 75, 76, 77, 78, 79, 80, 81, 82, 83, 84, 85, 86, 87, 88, 89] (by rfl) (by decide +kernel)
set_option maxRecDepth 20000 in
theorem gX8_name_X8_refused : GoodIn wsX8_name (wsV RX8 136 RX8 yX8_refused wsX8_refused) := goodIn_app (goodIn_of _ (by decide +kernel)) ggX8_name_X8_refused
set_option maxRecDepth 100000 in
theorem ggX8_name_X8_isOne : GoodIn wsX8_name wsX8_isOne := goodIn_r _ [22, 3, 23, 24, 25, 26, 12, 27, 4, 5, 28, 29, 30, 31, 32, 33, 52, 53, 54, 55, 56, 57, 58, 59, 60, 61, 62, 63, 64, 65, 66, 67, 68, 69, 70, 71, 72, 73, 74, 75, 76, 77, 78, 79, 80, 81, 82, 83, 84, 85, 86, 87, 88, 89] (by rfl) (by decide +kernel)
set_option maxRecDepth 20000 in
theorem gX8_name_X8_isOne : GoodIn wsX8_name (wsV RX8 166 RX8 yX8_isOne wsX8_isOne) := goodIn_app (goodIn_of _ (by decide +kernel)) ggX8_name_X8_isOne
set_option maxRecDepth 100000 in
theorem ggX8_name_X8_nameOf : GoodIn wsX8_name wsX8_nameOf := goodIn_r _ [37, 6, 8, 7, 38, 39, 12, 40, 41, 42, 43, 44, 45, 46, 47, 31, 32, 33, 52, 53, 54, 55, 56, 57, 58, 59, 60, 61, 62, 63, 64, 65, 66, 67, 68, 69, 70, 71, 72, 73, 74, 75, 76, 77, 78, 79, 80, 81, 82, 83, 84, 85, 86, 87, 88, 89] (by rfl) (by decide +kernel)
set_option maxRecDepth 20000 in
theorem gX8_name_X8_nameOf : GoodIn wsX8_name (wsV RX8 155 RX8 yX8_nameOf wsX8_nameOf) := goodIn_app (goodIn_of _ (by decide +kernel)) ggX8_name_X8_nameOf
set_option maxRecDepth 100000 in
theorem ggX8_name_X8_most : GoodIn wsX8_name wsX8_most := goodIn_r _ [40, 41, 42, 43, 44] (by rfl) (by decide +kernel)
set_option maxRecDepth 20000 in
theorem gX8_name_X8_most : GoodIn wsX8_name (va_wsS RX8 123 yX8_most wsX8_most) := goodIn_app (goodIn_of _ (by decide +kernel)) ggX8_name_X8_most
set_option maxRecDepth 100000 in
theorem ggX8_name_X8_signOf : GoodIn wsX8_name wsX8_signOf := goodIn_r _ [33] (by rfl) (by decide +kernel)
set_option maxRecDepth 20000 in
theorem gX8_name_X8_signOf : GoodIn wsX8_name (va_wsS RX8 110 yX8_signOf wsX8_signOf) := goodIn_app (goodIn_of _ (by decide +kernel)) ggX8_name_X8_signOf
set_option maxRecDepth 100000 in
theorem ggX8_name_X8_done : GoodIn wsX8_name wsX8_done := goodIn_r _ [51, 18, 52, 53, 54, 55, 56, 57, 58, 59, 60, 61, 62, 63, 64, 65, 66, 67, 68, 69, 70, 71, 72, 73, 74, 75, 76, 77, 78, 79, 80, 81, 82, 83, 84, 85, 86, 87, 88, 89] (by rfl) (by decide +kernel)
set_option maxRecDepth 20000 in
theorem gX8_name_X8_done : GoodIn wsX8_name (wsV RX8 139 RX8 yX8_done wsX8_done) := goodIn_app (goodIn_of _ (by decide +kernel)) ggX8_name_X8_done
theorem dX8_name_0 : decode cX8_name 0 = .ok (.aload_n 0, 1) := by decide +kernel
theorem dX8_name_1 : decode cX8_name 1 = .ok (.iconst 0, 1) := by decide +kernel
theorem dX8_name_2 : decode cX8_name 2 = .ok (.putfield 97, 3) := by decide +kernel
theorem dX8_name_5 : decode cX8_name 5 = .ok (.aload_n 0, 1) := by decide +kernel
theorem dX8_name_6 : decode cX8_name 6 = .ok (.iload_n 1, 1) := by decide +kernel
theorem dX8_name_7 : decode cX8_name 7 = .ok (.invokevirtual 145, 3) := by decide +kernel
theorem dX8_name_10 : decode cX8_name 10 = .ok (.ifCond .ne 9, 3) := by decide +kernel
theorem dX8_name_13 : decode cX8_name 13 = .ok (.aload_n 0, 1) := by decide +kernel
theorem dX8_name_14 : decode cX8_name 14 = .ok (.iconst 2, 1) := by decide +kernel
theorem dX8_name_15 : decode cX8_name 15 = .ok (.invokevirtual 136, 3) := by decide +kernel
theorem dX8_name_18 : decode cX8_name 18 = .ok (.ireturn, 1) := by decide +kernel
theorem dX8_name_19 : decode cX8_name 19 = .ok (.aload_n 0, 1) := by decide +kernel
theorem dX8_name_20 : decode cX8_name 20 = .ok (.iconst 0, 1) := by decide +kernel
theorem dX8_name_21 : decode cX8_name 21 = .ok (.putfield 103, 3) := by decide +kernel
theorem dX8_name_24 : decode cX8_name 24 = .ok (.aload_n 0, 1) := by decide +kernel
theorem dX8_name_25 : decode cX8_name 25 = .ok (.iload_n 1, 1) := by decide +kernel
theorem dX8_name_26 : decode cX8_name 26 = .ok (.invokevirtual 166, 3) := by decide +kernel
theorem dX8_name_29 : decode cX8_name 29 = .ok (.ifCond .ne 9, 3) := by decide +kernel
theorem dX8_name_32 : decode cX8_name 32 = .ok (.aload_n 0, 1) := by decide +kernel
theorem dX8_name_33 : decode cX8_name 33 = .ok (.iconst 2, 1) := by decide +kernel
theorem dX8_name_34 : decode cX8_name 34 = .ok (.invokevirtual 136, 3) := by decide +kernel
theorem dX8_name_37 : decode cX8_name 37 = .ok (.ireturn, 1) := by decide +kernel
theorem dX8_name_38 : decode cX8_name 38 = .ok (.aload_n 0, 1) := by decide +kernel
theorem dX8_name_39 : decode cX8_name 39 = .ok (.aload_n 0, 1) := by decide +kernel
theorem dX8_name_40 : decode cX8_name 40 = .ok (.getfield 11, 3) := by decide +kernel
theorem dX8_name_43 : decode cX8_name 43 = .ok (.aload_n 0, 1) := by decide +kernel
theorem dX8_name_44 : decode cX8_name 44 = .ok (.getfield 15, 3) := by decide +kernel
theorem dX8_name_47 : decode cX8_name 47 = .ok (.iconst 0, 1) := by decide +kernel
theorem dX8_name_48 : decode cX8_name 48 = .ok (.iaload, 1) := by decide +kernel
theorem dX8_name_49 : decode cX8_name 49 = .ok (.aload_n 0, 1) := by decide +kernel
theorem dX8_name_50 : decode cX8_name 50 = .ok (.getfield 19, 3) := by decide +kernel
theorem dX8_name_53 : decode cX8_name 53 = .ok (.iconst 0, 1) := by decide +kernel
theorem dX8_name_54 : decode cX8_name 54 = .ok (.iaload, 1) := by decide +kernel
theorem dX8_name_55 : decode cX8_name 55 = .ok (.invokevirtual 155, 3) := by decide +kernel
theorem dX8_name_58 : decode cX8_name 58 = .ok (.iconst (-1), 1) := by decide +kernel
theorem dX8_name_59 : decode cX8_name 59 = .ok (.if_icmp .eq 9, 3) := by decide +kernel
theorem dX8_name_62 : decode cX8_name 62 = .ok (.aload_n 0, 1) := by decide +kernel
theorem dX8_name_63 : decode cX8_name 63 = .ok (.iconst 4, 1) := by decide +kernel
theorem dX8_name_64 : decode cX8_name 64 = .ok (.invokevirtual 136, 3) := by decide +kernel
theorem dX8_name_67 : decode cX8_name 67 = .ok (.ireturn, 1) := by decide +kernel
theorem dX8_name_68 : decode cX8_name 68 = .ok (.aload_n 0, 1) := by decide +kernel
theorem dX8_name_69 : decode cX8_name 69 = .ok (.getfield 120, 3) := by decide +kernel
theorem dX8_name_72 : decode cX8_name 72 = .ok (.bipush 30, 2) := by decide +kernel
theorem dX8_name_74 : decode cX8_name 74 = .ok (.if_icmp .ne 9, 3) := by decide +kernel
theorem dX8_name_77 : decode cX8_name 77 = .ok (.aload_n 0, 1) := by decide +kernel
theorem dX8_name_78 : decode cX8_name 78 = .ok (.iconst 3, 1) := by decide +kernel
theorem dX8_name_79 : decode cX8_name 79 = .ok (.invokevirtual 136, 3) := by decide +kernel
theorem dX8_name_82 : decode cX8_name 82 = .ok (.ireturn, 1) := by decide +kernel
theorem dX8_name_83 : decode cX8_name 83 = .ok (.aload_n 0, 1) := by decide +kernel
theorem dX8_name_84 : decode cX8_name 84 = .ok (.getfield 38, 3) := by decide +kernel
theorem dX8_name_87 : decode cX8_name 87 = .ok (.aload_n 0, 1) := by decide +kernel
theorem dX8_name_88 : decode cX8_name 88 = .ok (.getfield 120, 3) := by decide +kernel
theorem dX8_name_91 : decode cX8_name 91 = .ok (.aload_n 0, 1) := by decide +kernel
theorem dX8_name_92 : decode cX8_name 92 = .ok (.getfield 19, 3) := by decide +kernel
theorem dX8_name_95 : decode cX8_name 95 = .ok (.iconst 0, 1) := by decide +kernel
theorem dX8_name_96 : decode cX8_name 96 = .ok (.iaload, 1) := by decide +kernel
theorem dX8_name_97 : decode cX8_name 97 = .ok (.invokestatic 123, 3) := by decide +kernel
theorem dX8_name_100 : decode cX8_name 100 = .ok (.iastore, 1) := by decide +kernel
theorem dX8_name_101 : decode cX8_name 101 = .ok (.iconst 0, 1) := by decide +kernel
theorem dX8_name_102 : decode cX8_name 102 = .ok (.istore_n 2, 1) := by decide +kernel
theorem dX8_name_103 : decode cX8_name 103 = .ok (.iload_n 2, 1) := by decide +kernel
theorem dX8_name_104 : decode cX8_name 104 = .ok (.aload_n 0, 1) := by decide +kernel
theorem dX8_name_105 : decode cX8_name 105 = .ok (.getfield 38, 3) := by decide +kernel
theorem dX8_name_108 : decode cX8_name 108 = .ok (.aload_n 0, 1) := by decide +kernel
theorem dX8_name_109 : decode cX8_name 109 = .ok (.getfield 120, 3) := by decide +kernel
theorem dX8_name_112 : decode cX8_name 112 = .ok (.iaload, 1) := by decide +kernel
theorem dX8_name_113 : decode cX8_name 113 = .ok (.if_icmp .ge 44, 3) := by decide +kernel
theorem dX8_name_116 : decode cX8_name 116 = .ok (.aload_n 0, 1) := by decide +kernel
theorem dX8_name_117 : decode cX8_name 117 = .ok (.getfield 29, 3) := by decide +kernel
theorem dX8_name_120 : decode cX8_name 120 = .ok (.bipush 24, 2) := by decide +kernel
theorem dX8_name_122 : decode cX8_name 122 = .ok (.aload_n 0, 1) := by decide +kernel
theorem dX8_name_123 : decode cX8_name 123 = .ok (.getfield 120, 3) := by decide +kernel
theorem dX8_name_126 : decode cX8_name 126 = .ok (.imul, 1) := by decide +kernel
theorem dX8_name_127 : decode cX8_name 127 = .ok (.iload_n 2, 1) := by decide +kernel
theorem dX8_name_128 : decode cX8_name 128 = .ok (.iadd, 1) := by decide +kernel
theorem dX8_name_129 : decode cX8_name 129 = .ok (.aload_n 0, 1) := by decide +kernel
theorem dX8_name_130 : decode cX8_name 130 = .ok (.getfield 11, 3) := by decide +kernel
theorem dX8_name_133 : decode cX8_name 133 = .ok (.aload_n 0, 1) := by decide +kernel
theorem dX8_name_134 : decode cX8_name 134 = .ok (.getfield 15, 3) := by decide +kernel
theorem dX8_name_137 : decode cX8_name 137 = .ok (.iconst 0, 1) := by decide +kernel
theorem dX8_name_138 : decode cX8_name 138 = .ok (.iaload, 1) := by decide +kernel
theorem dX8_name_139 : decode cX8_name 139 = .ok (.iload_n 2, 1) := by decide +kernel
theorem dX8_name_140 : decode cX8_name 140 = .ok (.iadd, 1) := by decide +kernel
theorem dX8_name_141 : decode cX8_name 141 = .ok (.baload, 1) := by decide +kernel
theorem dX8_name_142 : decode cX8_name 142 = .ok (.sipush 255, 3) := by decide +kernel
theorem dX8_name_145 : decode cX8_name 145 = .ok (.iand, 1) := by decide +kernel
theorem dX8_name_146 : decode cX8_name 146 = .ok (.invokestatic 110, 3) := by decide +kernel
theorem dX8_name_149 : decode cX8_name 149 = .ok (.i2b, 1) := by decide +kernel
theorem dX8_name_150 : decode cX8_name 150 = .ok (.bastore, 1) := by decide +kernel
theorem dX8_name_151 : decode cX8_name 151 = .ok (.iinc 2 1, 3) := by decide +kernel
theorem dX8_name_154 : decode cX8_name 154 = .ok (.goto (-51), 3) := by decide +kernel
theorem dX8_name_157 : decode cX8_name 157 = .ok (.aload_n 0, 1) := by decide +kernel
theorem dX8_name_158 : decode cX8_name 158 = .ok (.dup, 1) := by decide +kernel
theorem dX8_name_159 : decode cX8_name 159 = .ok (.getfield 120, 3) := by decide +kernel
theorem dX8_name_162 : decode cX8_name 162 = .ok (.iconst 1, 1) := by decide +kernel
theorem dX8_name_163 : decode cX8_name 163 = .ok (.iadd, 1) := by decide +kernel
theorem dX8_name_164 : decode cX8_name 164 = .ok (.putfield 120, 3) := by decide +kernel
theorem dX8_name_167 : decode cX8_name 167 = .ok (.aload_n 0, 1) := by decide +kernel
theorem dX8_name_168 : decode cX8_name 168 = .ok (.aload_n 0, 1) := by decide +kernel
theorem dX8_name_169 : decode cX8_name 169 = .ok (.getfield 120, 3) := by decide +kernel
theorem dX8_name_172 : decode cX8_name 172 = .ok (.invokevirtual 139, 3) := by decide +kernel
theorem dX8_name_175 : decode cX8_name 175 = .ok (.ireturn, 1) := by decide +kernel
theorem dX8_set_0 : decode cX8_set 0 = .ok (.aload_n 0, 1) := by decide +kernel
theorem dX8_set_1 : decode cX8_set 1 = .ok (.iconst 0, 1) := by decide +kernel
theorem dX8_set_2 : decode cX8_set 2 = .ok (.putfield 97, 3) := by decide +kernel
theorem dX8_set_5 : decode cX8_set 5 = .ok (.aload_n 0, 1) := by decide +kernel
theorem dX8_set_6 : decode cX8_set 6 = .ok (.iload_n 1, 1) := by decide +kernel
theorem dX8_set_7 : decode cX8_set 7 = .ok (.ifCond .lt 22, 3) := by decide +kernel
theorem dX8_set_10 : decode cX8_set 10 = .ok (.iload_n 1, 1) := by decide +kernel
theorem dX8_set_11 : decode cX8_set 11 = .ok (.sipush 2000, 3) := by decide +kernel
theorem dX8_set_14 : decode cX8_set 14 = .ok (.if_icmp .gt 15, 3) := by decide +kernel
theorem dX8_set_17 : decode cX8_set 17 = .ok (.iload_n 2, 1) := by decide +kernel
theorem dX8_set_18 : decode cX8_set 18 = .ok (.iconst 1, 1) := by decide +kernel
theorem dX8_set_19 : decode cX8_set 19 = .ok (.if_icmp .lt 10, 3) := by decide +kernel
theorem dX8_set_22 : decode cX8_set 22 = .ok (.iload_n 2, 1) := by decide +kernel
theorem dX8_set_23 : decode cX8_set 23 = .ok (.sipush 5000, 3) := by decide +kernel
theorem dX8_set_26 : decode cX8_set 26 = .ok (.if_icmp .le 7, 3) := by decide +kernel
theorem dX8_set_29 : decode cX8_set 29 = .ok (.iconst 2, 1) := by decide +kernel
theorem dX8_set_30 : decode cX8_set 30 = .ok (.goto 4, 3) := by decide +kernel
theorem dX8_set_33 : decode cX8_set 33 = .ok (.iconst 0, 1) := by decide +kernel
theorem dX8_set_34 : decode cX8_set 34 = .ok (.putfield 100, 3) := by decide +kernel
theorem dX8_set_37 : decode cX8_set 37 = .ok (.aload_n 0, 1) := by decide +kernel
theorem dX8_set_38 : decode cX8_set 38 = .ok (.getfield 100, 3) := by decide +kernel
theorem dX8_set_41 : decode cX8_set 41 = .ok (.ifCond .le 5, 3) := by decide +kernel
theorem dX8_set_44 : decode cX8_set 44 = .ok (.iconst 0, 1) := by decide +kernel
theorem dX8_set_45 : decode cX8_set 45 = .ok (.ireturn, 1) := by decide +kernel
theorem dX8_set_46 : decode cX8_set 46 = .ok (.aload_n 0, 1) := by decide +kernel
theorem dX8_set_47 : decode cX8_set 47 = .ok (.iload_n 1, 1) := by decide +kernel
theorem dX8_set_48 : decode cX8_set 48 = .ok (.putfield 58, 3) := by decide +kernel
theorem dX8_set_51 : decode cX8_set 51 = .ok (.aload_n 0, 1) := by decide +kernel
theorem dX8_set_52 : decode cX8_set 52 = .ok (.iload_n 2, 1) := by decide +kernel
theorem dX8_set_53 : decode cX8_set 53 = .ok (.putfield 62, 3) := by decide +kernel
theorem dX8_set_56 : decode cX8_set 56 = .ok (.iconst 1, 1) := by decide +kernel
theorem dX8_set_57 : decode cX8_set 57 = .ok (.ireturn, 1) := by decide +kernel
set_option maxRecDepth 100000 in
theorem ggX8_pair_X8_isTongue : GoodIn wsX8_pair wsX8_isTongue := goodIn_r _ [7, 8, 9, 10, 11, 12, 13, 14, 15, 16, 17, 18, 19, 20, 21, 22, 23, 24, 25, 26, 27, 28, 29, 30, 31, 32, 33, 34, 35, 36, 37, 38, 39, 40, 41, 42, 43, 44, 45, 46] (by rfl) (by decide +kernel)
set_option maxRecDepth 20000 in
theorem gX8_pair_X8_isTongue : GoodIn wsX8_pair (wsV RX8 142 RX8 yX8_isTongue wsX8_isTongue) := goodIn_app (goodIn_of _ (by decide +kernel)) ggX8_pair_X8_isTongue
theorem dX8_pair_0 : decode cX8_pair 0 = .ok (.aload_n 0, 1) := by decide +kernel
theorem dX8_pair_1 : decode cX8_pair 1 = .ok (.iconst 0, 1) := by decide +kernel
theorem dX8_pair_2 : decode cX8_pair 2 = .ok (.putfield 97, 3) := by decide +kernel
theorem dX8_pair_5 : decode cX8_pair 5 = .ok (.aload_n 0, 1) := by decide +kernel
theorem dX8_pair_6 : decode cX8_pair 6 = .ok (.iload_n 1, 1) := by decide +kernel
theorem dX8_pair_7 : decode cX8_pair 7 = .ok (.invokevirtual 142, 3) := by decide +kernel
theorem dX8_pair_10 : decode cX8_pair 10 = .ok (.ifCond .eq 23, 3) := by decide +kernel
theorem dX8_pair_13 : decode cX8_pair 13 = .ok (.iload_n 2, 1) := by decide +kernel
theorem dX8_pair_14 : decode cX8_pair 14 = .ok (.ifCond .lt 19, 3) := by decide +kernel
theorem dX8_pair_17 : decode cX8_pair 17 = .ok (.iload_n 2, 1) := by decide +kernel
theorem dX8_pair_18 : decode cX8_pair 18 = .ok (.bipush 28, 2) := by decide +kernel
theorem dX8_pair_20 : decode cX8_pair 20 = .ok (.if_icmp .ge 13, 3) := by decide +kernel
theorem dX8_pair_23 : decode cX8_pair 23 = .ok (.iload_n 3, 1) := by decide +kernel
theorem dX8_pair_24 : decode cX8_pair 24 = .ok (.ifCond .lt 9, 3) := by decide +kernel
theorem dX8_pair_27 : decode cX8_pair 27 = .ok (.iload_n 3, 1) := by decide +kernel
theorem dX8_pair_28 : decode cX8_pair 28 = .ok (.bipush 28, 2) := by decide +kernel
theorem dX8_pair_30 : decode cX8_pair 30 = .ok (.if_icmp .lt 5, 3) := by decide +kernel
theorem dX8_pair_33 : decode cX8_pair 33 = .ok (.iconst (-1), 1) := by decide +kernel
theorem dX8_pair_34 : decode cX8_pair 34 = .ok (.ireturn, 1) := by decide +kernel
theorem dX8_pair_35 : decode cX8_pair 35 = .ok (.aload_n 0, 1) := by decide +kernel
theorem dX8_pair_36 : decode cX8_pair 36 = .ok (.getfield 41, 3) := by decide +kernel
theorem dX8_pair_39 : decode cX8_pair 39 = .ok (.bipush 28, 2) := by decide +kernel
theorem dX8_pair_41 : decode cX8_pair 41 = .ok (.bipush 28, 2) := by decide +kernel
theorem dX8_pair_43 : decode cX8_pair 43 = .ok (.iload_n 1, 1) := by decide +kernel
theorem dX8_pair_44 : decode cX8_pair 44 = .ok (.imul, 1) := by decide +kernel
theorem dX8_pair_45 : decode cX8_pair 45 = .ok (.iload_n 2, 1) := by decide +kernel
theorem dX8_pair_46 : decode cX8_pair 46 = .ok (.iadd, 1) := by decide +kernel
theorem dX8_pair_47 : decode cX8_pair 47 = .ok (.imul, 1) := by decide +kernel
theorem dX8_pair_48 : decode cX8_pair 48 = .ok (.iload_n 3, 1) := by decide +kernel
theorem dX8_pair_49 : decode cX8_pair 49 = .ok (.iadd, 1) := by decide +kernel
theorem dX8_pair_50 : decode cX8_pair 50 = .ok (.iaload, 1) := by decide +kernel
theorem dX8_pair_51 : decode cX8_pair 51 = .ok (.ireturn, 1) := by decide +kernel
set_option maxRecDepth 100000 in
theorem ggX8_text_X8_isTaped : GoodIn wsX8_text wsX8_isTaped := goodIn_r _ [12, 2, 35, 36, 37, 38, 39, 40, 41, 42, 43, 44, 45, 46, 47, 48, 49, 50, 51, 52, 53, 54, 55, 56, 57, 58, 59, 60, 61, 62, 63, 64, 65, 66, 67, 68, 69, 70, 71, 72] (by rfl) (by decide +kernel)
set_option maxRecDepth 20000 in
theorem gX8_text_X8_isTaped : GoodIn wsX8_text (wsV RX8 145 RX8 yX8_isTaped wsX8_isTaped) := goodIn_app (goodIn_of _ (by decide +kernel)) ggX8_text_X8_isTaped
set_option maxRecDepth 100000 in
theorem ggX8_text_X8_refused : GoodIn wsX8_text wsX8_refused := goodIn_r _ [16, 17, 35, 36, 37, 38, 39, 40, 41, 42, 43, 44, 45, 46, 47, 48, 49, 50, 51, 52, 53, 54, 55, 56, 57, 58, 59, 60, 61, 62, 63, 64, 65, 66, 67, 68, 69, 70, 71, 72] (by rfl) (by decide +kernel)
set_option maxRecDepth 20000 in
theorem gX8_text_X8_refused : GoodIn wsX8_text (wsV RX8 136 RX8 yX8_refused wsX8_refused) := goodIn_app (goodIn_of _ (by decide +kernel)) ggX8_text_X8_refused
set_option maxRecDepth 100000 in
theorem ggX8_text_X8_cut : GoodIn wsX8_text wsX8_cut := goodIn_r _ [21, 22, 23, 24, 25, 26, 11, 27, 28, 29, 30, 35, 36, 37, 38, 39, 40, 41, 42, 43, 44, 45, 46, 47, 48, 49, 50, 51, 52, 53, 54, 55, 56, 57, 58, 59, 60, 61, 62, 63, 64, 65, 66, 67, 68, 69, 70, 71, 72] (by rfl) (by decide +kernel)
set_option maxRecDepth 20000 in
theorem gX8_text_X8_cut : GoodIn wsX8_text (wsV RX8 148 RX8 yX8_cut wsX8_cut) := goodIn_app (goodIn_of _ (by decide +kernel)) ggX8_text_X8_cut
set_option maxRecDepth 100000 in
theorem ggX8_text_X8_done : GoodIn wsX8_text wsX8_done := goodIn_r _ [34, 17, 35, 36, 37, 38, 39, 40, 41, 42, 43, 44, 45, 46, 47, 48, 49, 50, 51, 52, 53, 54, 55, 56, 57, 58, 59, 60, 61, 62, 63, 64, 65, 66, 67, 68, 69, 70, 71, 72] (by rfl) (by decide +kernel)
set_option maxRecDepth 20000 in
theorem gX8_text_X8_done : GoodIn wsX8_text (wsV RX8 139 RX8 yX8_done wsX8_done) := goodIn_app (goodIn_of _ (by decide +kernel)) ggX8_text_X8_done
theorem dX8_text_0 : decode cX8_text 0 = .ok (.aload_n 0, 1) := by decide +kernel
theorem dX8_text_1 : decode cX8_text 1 = .ok (.iconst 0, 1) := by decide +kernel
theorem dX8_text_2 : decode cX8_text 2 = .ok (.putfield 97, 3) := by decide +kernel
theorem dX8_text_5 : decode cX8_text 5 = .ok (.aload_n 0, 1) := by decide +kernel
theorem dX8_text_6 : decode cX8_text 6 = .ok (.iload_n 1, 1) := by decide +kernel
theorem dX8_text_7 : decode cX8_text 7 = .ok (.invokevirtual 145, 3) := by decide +kernel
theorem dX8_text_10 : decode cX8_text 10 = .ok (.ifCond .ne 9, 3) := by decide +kernel
theorem dX8_text_13 : decode cX8_text 13 = .ok (.aload_n 0, 1) := by decide +kernel
theorem dX8_text_14 : decode cX8_text 14 = .ok (.iconst 2, 1) := by decide +kernel
theorem dX8_text_15 : decode cX8_text 15 = .ok (.invokevirtual 136, 3) := by decide +kernel
theorem dX8_text_18 : decode cX8_text 18 = .ok (.ireturn, 1) := by decide +kernel
theorem dX8_text_19 : decode cX8_text 19 = .ok (.aload_n 0, 1) := by decide +kernel
theorem dX8_text_20 : decode cX8_text 20 = .ok (.iconst 0, 1) := by decide +kernel
theorem dX8_text_21 : decode cX8_text 21 = .ok (.putfield 103, 3) := by decide +kernel
theorem dX8_text_24 : decode cX8_text 24 = .ok (.aload_n 0, 1) := by decide +kernel
theorem dX8_text_25 : decode cX8_text 25 = .ok (.aload_n 0, 1) := by decide +kernel
theorem dX8_text_26 : decode cX8_text 26 = .ok (.getfield 11, 3) := by decide +kernel
theorem dX8_text_29 : decode cX8_text 29 = .ok (.iload_n 1, 1) := by decide +kernel
theorem dX8_text_30 : decode cX8_text 30 = .ok (.invokevirtual 148, 3) := by decide +kernel
theorem dX8_text_33 : decode cX8_text 33 = .ok (.istore_n 2, 1) := by decide +kernel
theorem dX8_text_34 : decode cX8_text 34 = .ok (.iload_n 2, 1) := by decide +kernel
theorem dX8_text_35 : decode cX8_text 35 = .ok (.bipush 60, 2) := by decide +kernel
theorem dX8_text_37 : decode cX8_text 37 = .ok (.if_icmp .le 9, 3) := by decide +kernel
theorem dX8_text_40 : decode cX8_text 40 = .ok (.aload_n 0, 1) := by decide +kernel
