theorem dX9_feed_75 : decode cX9_feed 75 = .ok (.putfield 217, 3) := by decide +kernel
theorem dX9_feed_78 : decode cX9_feed 78 = .ok (.iinc 4 1, 3) := by decide +kernel
theorem dX9_feed_81 : decode cX9_feed 81 = .ok (.goto (-40), 3) := by decide +kernel
theorem dX9_feed_84 : decode cX9_feed 84 = .ok (.aload_n 0, 1) := by decide +kernel
theorem dX9_feed_85 : decode cX9_feed 85 = .ok (.getfield 217, 3) := by decide +kernel
theorem dX9_feed_88 : decode cX9_feed 88 = .ok (.i2l, 1) := by decide +kernel
theorem dX9_feed_89 : decode cX9_feed 89 = .ok (.lreturn, 1) := by decide +kernel
theorem dX9_at_0 : decode cX9_at 0 = .ok (.iload_n 1, 1) := by decide +kernel
theorem dX9_at_1 : decode cX9_at 1 = .ok (.aload_n 0, 1) := by decide +kernel
theorem dX9_at_2 : decode cX9_at 2 = .ok (.getfield 217, 3) := by decide +kernel
theorem dX9_at_5 : decode cX9_at 5 = .ok (.if_icmp .ge 12, 3) := by decide +kernel
theorem dX9_at_8 : decode cX9_at 8 = .ok (.aload_n 0, 1) := by decide +kernel
theorem dX9_at_9 : decode cX9_at 9 = .ok (.getfield 103, 3) := by decide +kernel
theorem dX9_at_12 : decode cX9_at 12 = .ok (.iload_n 1, 1) := by decide +kernel
theorem dX9_at_13 : decode cX9_at 13 = .ok (.iaload, 1) := by decide +kernel
theorem dX9_at_14 : decode cX9_at 14 = .ok (.goto 4, 3) := by decide +kernel
theorem dX9_at_17 : decode cX9_at 17 = .ok (.iconst (-1), 1) := by decide +kernel
theorem dX9_at_18 : decode cX9_at 18 = .ok (.ireturn, 1) := by decide +kernel
theorem dX9_isLetter_0 : decode cX9_isLetter 0 = .ok (.iload_n 0, 1) := by decide +kernel
theorem dX9_isLetter_1 : decode cX9_isLetter 1 = .ok (.bipush 97, 2) := by decide +kernel
theorem dX9_isLetter_3 : decode cX9_isLetter 3 = .ok (.if_icmp .lt 13, 3) := by decide +kernel
theorem dX9_isLetter_6 : decode cX9_isLetter 6 = .ok (.iload_n 0, 1) := by decide +kernel
theorem dX9_isLetter_7 : decode cX9_isLetter 7 = .ok (.bipush 122, 2) := by decide +kernel
theorem dX9_isLetter_9 : decode cX9_isLetter 9 = .ok (.if_icmp .gt 7, 3) := by decide +kernel
theorem dX9_isLetter_12 : decode cX9_isLetter 12 = .ok (.iconst 1, 1) := by decide +kernel
theorem dX9_isLetter_13 : decode cX9_isLetter 13 = .ok (.goto 4, 3) := by decide +kernel
theorem dX9_isLetter_16 : decode cX9_isLetter 16 = .ok (.iconst 0, 1) := by decide +kernel
theorem dX9_isLetter_17 : decode cX9_isLetter 17 = .ok (.ireturn, 1) := by decide +kernel
theorem dX9_isFigure_0 : decode cX9_isFigure 0 = .ok (.iload_n 0, 1) := by decide +kernel
theorem dX9_isFigure_1 : decode cX9_isFigure 1 = .ok (.bipush 48, 2) := by decide +kernel
theorem dX9_isFigure_3 : decode cX9_isFigure 3 = .ok (.if_icmp .lt 13, 3) := by decide +kernel
theorem dX9_isFigure_6 : decode cX9_isFigure 6 = .ok (.iload_n 0, 1) := by decide +kernel
theorem dX9_isFigure_7 : decode cX9_isFigure 7 = .ok (.bipush 57, 2) := by decide +kernel
theorem dX9_isFigure_9 : decode cX9_isFigure 9 = .ok (.if_icmp .gt 7, 3) := by decide +kernel
theorem dX9_isFigure_12 : decode cX9_isFigure 12 = .ok (.iconst 1, 1) := by decide +kernel
theorem dX9_isFigure_13 : decode cX9_isFigure 13 = .ok (.goto 4, 3) := by decide +kernel
theorem dX9_isFigure_16 : decode cX9_isFigure 16 = .ok (.iconst 0, 1) := by decide +kernel
theorem dX9_isFigure_17 : decode cX9_isFigure 17 = .ok (.ireturn, 1) := by decide +kernel
set_option maxRecDepth 20000 in
theorem ggX9_go_X9_at : GoodIn wsX9_go wsX9_at := goodIn_r _ [10, 11, 12, 39, 40, 41, 42, 43, 44, 45, 46, 47, 48, 49, 50, 51, 52, 53, 54, 55, 56, 57, 58, 59, 60, 61, 62, 63, 64, 65, 66, 67, 68, 69, 70, 71, 72, 73, 74, 75, 76, 77, 78, 79, 80, 81, 82, 83, 84, 85, 86, 87, 88, 89, 90, 91, 92, 93] rfl (by decide +kernel)
set_option maxRecDepth 20000 in
theorem gX9_go_X9_at : GoodIn wsX9_go (wsV RX9 225 RX9 yX9_at wsX9_at) := goodIn_app (goodIn_of _ (by decide +kernel)) ggX9_go_X9_at
set_option maxRecDepth 20000 in
theorem ggX9_go_X9_isLetter : GoodIn wsX9_go wsX9_isLetter := goodIn_r _ [15] rfl (by decide +kernel)
set_option maxRecDepth 20000 in
theorem gX9_go_X9_isLetter : GoodIn wsX9_go (va_wsS RX9 238 yX9_isLetter wsX9_isLetter) := goodIn_app (goodIn_of _ (by decide +kernel)) ggX9_go_X9_isLetter
set_option maxRecDepth 20000 in
theorem ggX9_go_X9_letters : GoodIn wsX9_go wsX9_letters := goodIn_r _ [19, 1, 2, 20, 21, 22, 4, 6, 7, 8, 9, 10, 11, 12, 13, 14, 15, 23, 24, 25, 26, 27, 28, 29, 30, 31, 3, 32, 33, 34, 35, 39, 40, 41, 42, 43, 44, 45, 46, 47, 48, 49, 50, 51, 52, 53, 54, 55, 56, 57, 58, 59, 60, 61, 62, 63, 64, 65, 66, 67, 68, 69, 70, 71, 72, 73, 74, 75, 76, 77, 78, 79, 80, 81, 82, 83, 84, 85, 86, 87, 88, 89, 90, 91, 92, 93] rfl (by decide +kernel)
set_option maxRecDepth 20000 in
theorem gX9_go_X9_letters : GoodIn wsX9_go (wsV RX9 241 RX9 yX9_letters wsX9_letters) := goodIn_app (goodIn_of _ (by decide +kernel)) ggX9_go_X9_letters
set_option maxRecDepth 20000 in
theorem ggX9_go_X9_isFigure : GoodIn wsX9_go wsX9_isFigure := goodIn_r _ [38] rfl (by decide +kernel)
set_option maxRecDepth 20000 in
theorem gX9_go_X9_isFigure : GoodIn wsX9_go (va_wsS RX9 244 yX9_isFigure wsX9_isFigure) := goodIn_app (goodIn_of _ (by decide +kernel)) ggX9_go_X9_isFigure
theorem dX9_go_0 : decode cX9_go 0 = .ok (.aload_n 0, 1) := by decide +kernel
theorem dX9_go_1 : decode cX9_go 1 = .ok (.aload_n 0, 1) := by decide +kernel
theorem dX9_go_2 : decode cX9_go 2 = .ok (.getfield 222, 3) := by decide +kernel
theorem dX9_go_5 : decode cX9_go 5 = .ok (.invokevirtual 225, 3) := by decide +kernel
theorem dX9_go_8 : decode cX9_go 8 = .ok (.bipush 32, 2) := by decide +kernel
theorem dX9_go_10 : decode cX9_go 10 = .ok (.if_icmp .ne 16, 3) := by decide +kernel
theorem dX9_go_13 : decode cX9_go 13 = .ok (.aload_n 0, 1) := by decide +kernel
theorem dX9_go_14 : decode cX9_go 14 = .ok (.dup, 1) := by decide +kernel
theorem dX9_go_15 : decode cX9_go 15 = .ok (.getfield 222, 3) := by decide +kernel
theorem dX9_go_18 : decode cX9_go 18 = .ok (.iconst 1, 1) := by decide +kernel
theorem dX9_go_19 : decode cX9_go 19 = .ok (.iadd, 1) := by decide +kernel
theorem dX9_go_20 : decode cX9_go 20 = .ok (.putfield 222, 3) := by decide +kernel
theorem dX9_go_23 : decode cX9_go 23 = .ok (.goto (-23), 3) := by decide +kernel
theorem dX9_go_26 : decode cX9_go 26 = .ok (.aload_n 0, 1) := by decide +kernel
theorem dX9_go_27 : decode cX9_go 27 = .ok (.aload_n 0, 1) := by decide +kernel
theorem dX9_go_28 : decode cX9_go 28 = .ok (.getfield 222, 3) := by decide +kernel
theorem dX9_go_31 : decode cX9_go 31 = .ok (.putfield 229, 3) := by decide +kernel
theorem dX9_go_34 : decode cX9_go 34 = .ok (.aload_n 0, 1) := by decide +kernel
theorem dX9_go_35 : decode cX9_go 35 = .ok (.iconst 0, 1) := by decide +kernel
theorem dX9_go_36 : decode cX9_go 36 = .ok (.putfield 232, 3) := by decide +kernel
theorem dX9_go_39 : decode cX9_go 39 = .ok (.aload_n 0, 1) := by decide +kernel
theorem dX9_go_40 : decode cX9_go 40 = .ok (.aload_n 0, 1) := by decide +kernel
theorem dX9_go_41 : decode cX9_go 41 = .ok (.getfield 222, 3) := by decide +kernel
theorem dX9_go_44 : decode cX9_go 44 = .ok (.invokevirtual 225, 3) := by decide +kernel
theorem dX9_go_47 : decode cX9_go 47 = .ok (.istore_n 1, 1) := by decide +kernel
theorem dX9_go_48 : decode cX9_go 48 = .ok (.iload_n 1, 1) := by decide +kernel
theorem dX9_go_49 : decode cX9_go 49 = .ok (.ifCond .ge 11, 3) := by decide +kernel
theorem dX9_go_52 : decode cX9_go 52 = .ok (.aload_n 0, 1) := by decide +kernel
theorem dX9_go_53 : decode cX9_go 53 = .ok (.iconst 0, 1) := by decide +kernel
theorem dX9_go_54 : decode cX9_go 54 = .ok (.putfield 235, 3) := by decide +kernel
theorem dX9_go_57 : decode cX9_go 57 = .ok (.goto 155, 3) := by decide +kernel
theorem dX9_go_60 : decode cX9_go 60 = .ok (.iload_n 1, 1) := by decide +kernel
theorem dX9_go_61 : decode cX9_go 61 = .ok (.invokestatic 238, 3) := by decide +kernel
theorem dX9_go_64 : decode cX9_go 64 = .ok (.ifCond .eq 10, 3) := by decide +kernel
theorem dX9_go_67 : decode cX9_go 67 = .ok (.aload_n 0, 1) := by decide +kernel
theorem dX9_go_68 : decode cX9_go 68 = .ok (.invokevirtual 241, 3) := by decide +kernel
theorem dX9_go_71 : decode cX9_go 71 = .ok (.goto 141, 3) := by decide +kernel
theorem dX9_go_74 : decode cX9_go 74 = .ok (.iload_n 1, 1) := by decide +kernel
theorem dX9_go_75 : decode cX9_go 75 = .ok (.invokestatic 244, 3) := by decide +kernel
theorem dX9_go_78 : decode cX9_go 78 = .ok (.ifCond .eq 91, 3) := by decide +kernel
theorem dX9_go_81 : decode cX9_go 81 = .ok (.aload_n 0, 1) := by decide +kernel
theorem dX9_go_82 : decode cX9_go 82 = .ok (.aload_n 0, 1) := by decide +kernel
theorem dX9_go_83 : decode cX9_go 83 = .ok (.getfield 222, 3) := by decide +kernel
theorem dX9_go_86 : decode cX9_go 86 = .ok (.invokevirtual 225, 3) := by decide +kernel
theorem dX9_go_89 : decode cX9_go 89 = .ok (.invokestatic 244, 3) := by decide +kernel
theorem dX9_go_92 : decode cX9_go 92 = .ok (.ifCond .eq 55, 3) := by decide +kernel
theorem dX9_go_95 : decode cX9_go 95 = .ok (.aload_n 0, 1) := by decide +kernel
theorem dX9_go_96 : decode cX9_go 96 = .ok (.aload_n 0, 1) := by decide +kernel
theorem dX9_go_97 : decode cX9_go 97 = .ok (.getfield 232, 3) := by decide +kernel
theorem dX9_go_100 : decode cX9_go 100 = .ok (.ldc 247, 2) := by decide +kernel
theorem dX9_go_102 : decode cX9_go 102 = .ok (.if_icmp .le 10, 3) := by decide +kernel
theorem dX9_go_105 : decode cX9_go 105 = .ok (.aload_n 0, 1) := by decide +kernel
theorem dX9_go_106 : decode cX9_go 106 = .ok (.getfield 232, 3) := by decide +kernel
theorem dX9_go_109 : decode cX9_go 109 = .ok (.goto 22, 3) := by decide +kernel
theorem dX9_go_112 : decode cX9_go 112 = .ok (.bipush 10, 2) := by decide +kernel
theorem dX9_go_114 : decode cX9_go 114 = .ok (.aload_n 0, 1) := by decide +kernel
theorem dX9_go_115 : decode cX9_go 115 = .ok (.getfield 232, 3) := by decide +kernel
theorem dX9_go_118 : decode cX9_go 118 = .ok (.imul, 1) := by decide +kernel
theorem dX9_go_119 : decode cX9_go 119 = .ok (.aload_n 0, 1) := by decide +kernel
theorem dX9_go_120 : decode cX9_go 120 = .ok (.aload_n 0, 1) := by decide +kernel
theorem dX9_go_121 : decode cX9_go 121 = .ok (.getfield 222, 3) := by decide +kernel
theorem dX9_go_124 : decode cX9_go 124 = .ok (.invokevirtual 225, 3) := by decide +kernel
theorem dX9_go_127 : decode cX9_go 127 = .ok (.iadd, 1) := by decide +kernel
theorem dX9_go_128 : decode cX9_go 128 = .ok (.bipush 48, 2) := by decide +kernel
theorem dX9_go_130 : decode cX9_go 130 = .ok (.isub, 1) := by decide +kernel
theorem dX9_go_131 : decode cX9_go 131 = .ok (.putfield 232, 3) := by decide +kernel
theorem dX9_go_134 : decode cX9_go 134 = .ok (.aload_n 0, 1) := by decide +kernel
theorem dX9_go_135 : decode cX9_go 135 = .ok (.dup, 1) := by decide +kernel
theorem dX9_go_136 : decode cX9_go 136 = .ok (.getfield 222, 3) := by decide +kernel
theorem dX9_go_139 : decode cX9_go 139 = .ok (.iconst 1, 1) := by decide +kernel
theorem dX9_go_140 : decode cX9_go 140 = .ok (.iadd, 1) := by decide +kernel
theorem dX9_go_141 : decode cX9_go 141 = .ok (.putfield 222, 3) := by decide +kernel
theorem dX9_go_144 : decode cX9_go 144 = .ok (.goto (-63), 3) := by decide +kernel
theorem dX9_go_147 : decode cX9_go 147 = .ok (.aload_n 0, 1) := by decide +kernel
theorem dX9_go_148 : decode cX9_go 148 = .ok (.aload_n 0, 1) := by decide +kernel
theorem dX9_go_149 : decode cX9_go 149 = .ok (.getfield 232, 3) := by decide +kernel
theorem dX9_go_152 : decode cX9_go 152 = .ok (.ldc 247, 2) := by decide +kernel
theorem dX9_go_154 : decode cX9_go 154 = .ok (.if_icmp .le 7, 3) := by decide +kernel
theorem dX9_go_157 : decode cX9_go 157 = .ok (.iconst 1, 1) := by decide +kernel
theorem dX9_go_158 : decode cX9_go 158 = .ok (.goto 5, 3) := by decide +kernel
theorem dX9_go_161 : decode cX9_go 161 = .ok (.bipush 7, 2) := by decide +kernel
theorem dX9_go_163 : decode cX9_go 163 = .ok (.putfield 235, 3) := by decide +kernel
theorem dX9_go_166 : decode cX9_go 166 = .ok (.goto 46, 3) := by decide +kernel
theorem dX9_go_169 : decode cX9_go 169 = .ok (.aload_n 0, 1) := by decide +kernel
theorem dX9_go_170 : decode cX9_go 170 = .ok (.iload_n 1, 1) := by decide +kernel
theorem dX9_go_171 : decode cX9_go 171 = .ok (.bipush 60, 2) := by decide +kernel
theorem dX9_go_173 : decode cX9_go 173 = .ok (.if_icmp .eq 21, 3) := by decide +kernel
theorem dX9_go_176 : decode cX9_go 176 = .ok (.iload_n 1, 1) := by decide +kernel
theorem dX9_go_177 : decode cX9_go 177 = .ok (.bipush 61, 2) := by decide +kernel
theorem dX9_go_179 : decode cX9_go 179 = .ok (.if_icmp .eq 15, 3) := by decide +kernel
theorem dX9_go_182 : decode cX9_go 182 = .ok (.iload_n 1, 1) := by decide +kernel
theorem dX9_go_183 : decode cX9_go 183 = .ok (.bipush 62, 2) := by decide +kernel
theorem dX9_go_185 : decode cX9_go 185 = .ok (.if_icmp .eq 9, 3) := by decide +kernel
theorem dX9_go_188 : decode cX9_go 188 = .ok (.iload_n 1, 1) := by decide +kernel
theorem dX9_go_189 : decode cX9_go 189 = .ok (.bipush 59, 2) := by decide +kernel
theorem dX9_go_191 : decode cX9_go 191 = .ok (.if_icmp .ne 7, 3) := by decide +kernel
theorem dX9_go_194 : decode cX9_go 194 = .ok (.iload_n 1, 1) := by decide +kernel
theorem dX9_go_195 : decode cX9_go 195 = .ok (.goto 4, 3) := by decide +kernel
theorem dX9_go_198 : decode cX9_go 198 = .ok (.iconst 1, 1) := by decide +kernel
theorem dX9_go_199 : decode cX9_go 199 = .ok (.putfield 235, 3) := by decide +kernel
theorem dX9_go_202 : decode cX9_go 202 = .ok (.aload_n 0, 1) := by decide +kernel
theorem dX9_go_203 : decode cX9_go 203 = .ok (.dup, 1) := by decide +kernel
theorem dX9_go_204 : decode cX9_go 204 = .ok (.getfield 222, 3) := by decide +kernel
theorem dX9_go_207 : decode cX9_go 207 = .ok (.iconst 1, 1) := by decide +kernel
theorem dX9_go_208 : decode cX9_go 208 = .ok (.iadd, 1) := by decide +kernel
theorem dX9_go_209 : decode cX9_go 209 = .ok (.putfield 222, 3) := by decide +kernel
theorem dX9_go_212 : decode cX9_go 212 = .ok (.return_, 1) := by decide +kernel
set_option maxRecDepth 20000 in
theorem ggX9_letters_X9_at : GoodIn wsX9_letters wsX9_at := goodIn_r _ [11, 12, 13, 31, 32, 33, 34, 35, 36, 37, 38, 39, 40, 41, 42, 43, 44, 45, 46, 47, 48, 49, 50, 51, 52, 53, 54, 55, 56, 57, 58, 59, 60, 61, 62, 63, 64, 65, 66, 67, 68, 69, 70, 71, 72, 73, 74, 75, 76, 77, 78, 79, 80, 81, 82, 83, 84, 85] rfl (by decide +kernel)
set_option maxRecDepth 20000 in
theorem gX9_letters_X9_at : GoodIn wsX9_letters (wsV RX9 225 RX9 yX9_at wsX9_at) := goodIn_app (goodIn_of _ (by decide +kernel)) ggX9_letters_X9_at
set_option maxRecDepth 20000 in
theorem ggX9_letters_X9_isLetter : GoodIn wsX9_letters wsX9_isLetter := goodIn_r _ [16] rfl (by decide +kernel)
set_option maxRecDepth 20000 in
theorem gX9_letters_X9_isLetter : GoodIn wsX9_letters (va_wsS RX9 238 yX9_isLetter wsX9_isLetter) := goodIn_app (goodIn_of _ (by decide +kernel)) ggX9_letters_X9_isLetter
set_option maxRecDepth 20000 in
theorem ggX9_letters_X9_wordOf : GoodIn wsX9_letters wsX9_wordOf := goodIn_r _ [20, 21, 22, 23, 24, 25, 26, 27, 28, 29, 30, 31, 32, 33, 34, 35, 36, 37, 38, 39, 40, 41, 42, 43, 44, 45, 46, 47, 48, 49, 50, 51, 52, 53, 54, 55, 56, 57, 58, 59, 60, 61, 62, 63, 64, 65, 66, 67, 68, 69, 70, 71, 72, 73, 74, 75, 76, 77, 78, 79, 80, 81, 82, 83, 84, 85] rfl (by decide +kernel)
set_option maxRecDepth 20000 in
theorem gX9_letters_X9_wordOf : GoodIn wsX9_letters (wsV RX9 250 RX9 yX9_wordOf wsX9_wordOf) := goodIn_app (goodIn_of _ (by decide +kernel)) ggX9_letters_X9_wordOf
theorem dX9_letters_0 : decode cX9_letters 0 = .ok (.lconst 0, 1) := by decide +kernel
theorem dX9_letters_1 : decode cX9_letters 1 = .ok (.lstore_n 1, 1) := by decide +kernel
theorem dX9_letters_2 : decode cX9_letters 2 = .ok (.aload_n 0, 1) := by decide +kernel
theorem dX9_letters_3 : decode cX9_letters 3 = .ok (.aload_n 0, 1) := by decide +kernel
theorem dX9_letters_4 : decode cX9_letters 4 = .ok (.getfield 222, 3) := by decide +kernel
theorem dX9_letters_7 : decode cX9_letters 7 = .ok (.invokevirtual 225, 3) := by decide +kernel
theorem dX9_letters_10 : decode cX9_letters 10 = .ok (.invokestatic 238, 3) := by decide +kernel
theorem dX9_letters_13 : decode cX9_letters 13 = .ok (.ifCond .eq 78, 3) := by decide +kernel
theorem dX9_letters_16 : decode cX9_letters 16 = .ok (.aload_n 0, 1) := by decide +kernel
theorem dX9_letters_17 : decode cX9_letters 17 = .ok (.getfield 222, 3) := by decide +kernel
theorem dX9_letters_20 : decode cX9_letters 20 = .ok (.aload_n 0, 1) := by decide +kernel
theorem dX9_letters_21 : decode cX9_letters 21 = .ok (.getfield 229, 3) := by decide +kernel
theorem dX9_letters_24 : decode cX9_letters 24 = .ok (.isub, 1) := by decide +kernel
theorem dX9_letters_25 : decode cX9_letters 25 = .ok (.bipush 12, 2) := by decide +kernel
theorem dX9_letters_27 : decode cX9_letters 27 = .ok (.if_icmp .ge 25, 3) := by decide +kernel
theorem dX9_letters_30 : decode cX9_letters 30 = .ok (.lload_n 1, 1) := by decide +kernel
theorem dX9_letters_31 : decode cX9_letters 31 = .ok (.ldc2_w 163, 3) := by decide +kernel
theorem dX9_letters_34 : decode cX9_letters 34 = .ok (.lmul, 1) := by decide +kernel
theorem dX9_letters_35 : decode cX9_letters 35 = .ok (.aload_n 0, 1) := by decide +kernel
theorem dX9_letters_36 : decode cX9_letters 36 = .ok (.aload_n 0, 1) := by decide +kernel
theorem dX9_letters_37 : decode cX9_letters 37 = .ok (.getfield 222, 3) := by decide +kernel
theorem dX9_letters_40 : decode cX9_letters 40 = .ok (.invokevirtual 225, 3) := by decide +kernel
theorem dX9_letters_43 : decode cX9_letters 43 = .ok (.i2l, 1) := by decide +kernel
theorem dX9_letters_44 : decode cX9_letters 44 = .ok (.ladd, 1) := by decide +kernel
theorem dX9_letters_45 : decode cX9_letters 45 = .ok (.ldc2_w 248, 3) := by decide +kernel
theorem dX9_letters_48 : decode cX9_letters 48 = .ok (.lsub, 1) := by decide +kernel
theorem dX9_letters_49 : decode cX9_letters 49 = .ok (.goto 6, 3) := by decide +kernel
theorem dX9_letters_52 : decode cX9_letters 52 = .ok (.ldc2_w 106, 3) := by decide +kernel
theorem dX9_letters_55 : decode cX9_letters 55 = .ok (.lstore_n 1, 1) := by decide +kernel
theorem dX9_letters_56 : decode cX9_letters 56 = .ok (.aload_n 0, 1) := by decide +kernel
theorem dX9_letters_57 : decode cX9_letters 57 = .ok (.getfield 222, 3) := by decide +kernel
theorem dX9_letters_60 : decode cX9_letters 60 = .ok (.aload_n 0, 1) := by decide +kernel
theorem dX9_letters_61 : decode cX9_letters 61 = .ok (.getfield 229, 3) := by decide +kernel
theorem dX9_letters_64 : decode cX9_letters 64 = .ok (.isub, 1) := by decide +kernel
theorem dX9_letters_65 : decode cX9_letters 65 = .ok (.bipush 12, 2) := by decide +kernel
theorem dX9_letters_67 : decode cX9_letters 67 = .ok (.if_icmp .lt 9, 3) := by decide +kernel
theorem dX9_letters_70 : decode cX9_letters 70 = .ok (.ldc2_w 106, 3) := by decide +kernel
theorem dX9_letters_73 : decode cX9_letters 73 = .ok (.goto 4, 3) := by decide +kernel
theorem dX9_letters_76 : decode cX9_letters 76 = .ok (.lload_n 1, 1) := by decide +kernel
theorem dX9_letters_77 : decode cX9_letters 77 = .ok (.lstore_n 1, 1) := by decide +kernel
theorem dX9_letters_78 : decode cX9_letters 78 = .ok (.aload_n 0, 1) := by decide +kernel
theorem dX9_letters_79 : decode cX9_letters 79 = .ok (.dup, 1) := by decide +kernel
theorem dX9_letters_80 : decode cX9_letters 80 = .ok (.getfield 222, 3) := by decide +kernel
theorem dX9_letters_83 : decode cX9_letters 83 = .ok (.iconst 1, 1) := by decide +kernel
theorem dX9_letters_84 : decode cX9_letters 84 = .ok (.iadd, 1) := by decide +kernel
theorem dX9_letters_85 : decode cX9_letters 85 = .ok (.putfield 222, 3) := by decide +kernel
theorem dX9_letters_88 : decode cX9_letters 88 = .ok (.goto (-86), 3) := by decide +kernel
theorem dX9_letters_91 : decode cX9_letters 91 = .ok (.aload_n 0, 1) := by decide +kernel
theorem dX9_letters_92 : decode cX9_letters 92 = .ok (.aload_n 0, 1) := by decide +kernel
theorem dX9_letters_93 : decode cX9_letters 93 = .ok (.getfield 222, 3) := by decide +kernel
theorem dX9_letters_96 : decode cX9_letters 96 = .ok (.aload_n 0, 1) := by decide +kernel
theorem dX9_letters_97 : decode cX9_letters 97 = .ok (.getfield 229, 3) := by decide +kernel
theorem dX9_letters_100 : decode cX9_letters 100 = .ok (.isub, 1) := by decide +kernel
theorem dX9_letters_101 : decode cX9_letters 101 = .ok (.bipush 12, 2) := by decide +kernel
theorem dX9_letters_103 : decode cX9_letters 103 = .ok (.if_icmp .le 7, 3) := by decide +kernel
theorem dX9_letters_106 : decode cX9_letters 106 = .ok (.iconst 1, 1) := by decide +kernel
theorem dX9_letters_107 : decode cX9_letters 107 = .ok (.goto 8, 3) := by decide +kernel
theorem dX9_letters_110 : decode cX9_letters 110 = .ok (.aload_n 0, 1) := by decide +kernel
theorem dX9_letters_111 : decode cX9_letters 111 = .ok (.lload_n 1, 1) := by decide +kernel
theorem dX9_letters_112 : decode cX9_letters 112 = .ok (.invokevirtual 250, 3) := by decide +kernel
theorem dX9_letters_115 : decode cX9_letters 115 = .ok (.putfield 235, 3) := by decide +kernel
theorem dX9_letters_118 : decode cX9_letters 118 = .ok (.return_, 1) := by decide +kernel
theorem dX9_wordOf_0 : decode cX9_wordOf 0 = .ok (.lload_n 1, 1) := by decide +kernel
theorem dX9_wordOf_1 : decode cX9_wordOf 1 = .ok (.ldc2_w 254, 3) := by decide +kernel
theorem dX9_wordOf_4 : decode cX9_wordOf 4 = .ok (.lcmp, 1) := by decide +kernel
theorem dX9_wordOf_5 : decode cX9_wordOf 5 = .ok (.ifCond .ne 5, 3) := by decide +kernel
theorem dX9_wordOf_8 : decode cX9_wordOf 8 = .ok (.iconst 2, 1) := by decide +kernel
theorem dX9_wordOf_9 : decode cX9_wordOf 9 = .ok (.ireturn, 1) := by decide +kernel
theorem dX9_wordOf_10 : decode cX9_wordOf 10 = .ok (.lload_n 1, 1) := by decide +kernel
theorem dX9_wordOf_11 : decode cX9_wordOf 11 = .ok (.ldc2_w 256, 3) := by decide +kernel
theorem dX9_wordOf_14 : decode cX9_wordOf 14 = .ok (.lcmp, 1) := by decide +kernel
theorem dX9_wordOf_15 : decode cX9_wordOf 15 = .ok (.ifCond .ne 5, 3) := by decide +kernel
theorem dX9_wordOf_18 : decode cX9_wordOf 18 = .ok (.iconst 3, 1) := by decide +kernel
theorem dX9_wordOf_19 : decode cX9_wordOf 19 = .ok (.ireturn, 1) := by decide +kernel
theorem dX9_wordOf_20 : decode cX9_wordOf 20 = .ok (.lload_n 1, 1) := by decide +kernel
theorem dX9_wordOf_21 : decode cX9_wordOf 21 = .ok (.ldc2_w 258, 3) := by decide +kernel
theorem dX9_wordOf_24 : decode cX9_wordOf 24 = .ok (.lcmp, 1) := by decide +kernel
theorem dX9_wordOf_25 : decode cX9_wordOf 25 = .ok (.ifCond .ne 5, 3) := by decide +kernel
theorem dX9_wordOf_28 : decode cX9_wordOf 28 = .ok (.iconst 4, 1) := by decide +kernel
theorem dX9_wordOf_29 : decode cX9_wordOf 29 = .ok (.ireturn, 1) := by decide +kernel
theorem dX9_wordOf_30 : decode cX9_wordOf 30 = .ok (.lload_n 1, 1) := by decide +kernel
theorem dX9_wordOf_31 : decode cX9_wordOf 31 = .ok (.ldc2_w 260, 3) := by decide +kernel
theorem dX9_wordOf_34 : decode cX9_wordOf 34 = .ok (.lcmp, 1) := by decide +kernel
theorem dX9_wordOf_35 : decode cX9_wordOf 35 = .ok (.ifCond .ne 5, 3) := by decide +kernel
theorem dX9_wordOf_38 : decode cX9_wordOf 38 = .ok (.iconst 5, 1) := by decide +kernel
theorem dX9_wordOf_39 : decode cX9_wordOf 39 = .ok (.ireturn, 1) := by decide +kernel
theorem dX9_wordOf_40 : decode cX9_wordOf 40 = .ok (.lload_n 1, 1) := by decide +kernel
theorem dX9_wordOf_41 : decode cX9_wordOf 41 = .ok (.ldc2_w 262, 3) := by decide +kernel
theorem dX9_wordOf_44 : decode cX9_wordOf 44 = .ok (.lcmp, 1) := by decide +kernel
theorem dX9_wordOf_45 : decode cX9_wordOf 45 = .ok (.ifCond .ne 11, 3) := by decide +kernel
theorem dX9_wordOf_48 : decode cX9_wordOf 48 = .ok (.aload_n 0, 1) := by decide +kernel
theorem dX9_wordOf_49 : decode cX9_wordOf 49 = .ok (.iconst 0, 1) := by decide +kernel
theorem dX9_wordOf_50 : decode cX9_wordOf 50 = .ok (.putfield 232, 3) := by decide +kernel
theorem dX9_wordOf_53 : decode cX9_wordOf 53 = .ok (.bipush 6, 2) := by decide +kernel
theorem dX9_wordOf_55 : decode cX9_wordOf 55 = .ok (.ireturn, 1) := by decide +kernel
theorem dX9_wordOf_56 : decode cX9_wordOf 56 = .ok (.lload_n 1, 1) := by decide +kernel
theorem dX9_wordOf_57 : decode cX9_wordOf 57 = .ok (.ldc2_w 264, 3) := by decide +kernel
theorem dX9_wordOf_60 : decode cX9_wordOf 60 = .ok (.lcmp, 1) := by decide +kernel
theorem dX9_wordOf_61 : decode cX9_wordOf 61 = .ok (.ifCond .ne 11, 3) := by decide +kernel
theorem dX9_wordOf_64 : decode cX9_wordOf 64 = .ok (.aload_n 0, 1) := by decide +kernel
theorem dX9_wordOf_65 : decode cX9_wordOf 65 = .ok (.iconst 1, 1) := by decide +kernel
theorem dX9_wordOf_66 : decode cX9_wordOf 66 = .ok (.putfield 232, 3) := by decide +kernel
theorem dX9_wordOf_69 : decode cX9_wordOf 69 = .ok (.bipush 6, 2) := by decide +kernel
theorem dX9_wordOf_71 : decode cX9_wordOf 71 = .ok (.ireturn, 1) := by decide +kernel
theorem dX9_wordOf_72 : decode cX9_wordOf 72 = .ok (.lload_n 1, 1) := by decide +kernel
theorem dX9_wordOf_73 : decode cX9_wordOf 73 = .ok (.ldc2_w 266, 3) := by decide +kernel
theorem dX9_wordOf_76 : decode cX9_wordOf 76 = .ok (.lcmp, 1) := by decide +kernel
theorem dX9_wordOf_77 : decode cX9_wordOf 77 = .ok (.ifCond .ne 11, 3) := by decide +kernel
theorem dX9_wordOf_80 : decode cX9_wordOf 80 = .ok (.aload_n 0, 1) := by decide +kernel
theorem dX9_wordOf_81 : decode cX9_wordOf 81 = .ok (.iconst 2, 1) := by decide +kernel
theorem dX9_wordOf_82 : decode cX9_wordOf 82 = .ok (.putfield 232, 3) := by decide +kernel
theorem dX9_wordOf_85 : decode cX9_wordOf 85 = .ok (.bipush 6, 2) := by decide +kernel
theorem dX9_wordOf_87 : decode cX9_wordOf 87 = .ok (.ireturn, 1) := by decide +kernel
theorem dX9_wordOf_88 : decode cX9_wordOf 88 = .ok (.lload_n 1, 1) := by decide +kernel
theorem dX9_wordOf_89 : decode cX9_wordOf 89 = .ok (.ldc2_w 268, 3) := by decide +kernel
theorem dX9_wordOf_92 : decode cX9_wordOf 92 = .ok (.lcmp, 1) := by decide +kernel
theorem dX9_wordOf_93 : decode cX9_wordOf 93 = .ok (.ifCond .ne 11, 3) := by decide +kernel
theorem dX9_wordOf_96 : decode cX9_wordOf 96 = .ok (.aload_n 0, 1) := by decide +kernel
theorem dX9_wordOf_97 : decode cX9_wordOf 97 = .ok (.iconst 3, 1) := by decide +kernel
theorem dX9_wordOf_98 : decode cX9_wordOf 98 = .ok (.putfield 232, 3) := by decide +kernel
theorem dX9_wordOf_101 : decode cX9_wordOf 101 = .ok (.bipush 6, 2) := by decide +kernel
theorem dX9_wordOf_103 : decode cX9_wordOf 103 = .ok (.ireturn, 1) := by decide +kernel
theorem dX9_wordOf_104 : decode cX9_wordOf 104 = .ok (.lload_n 1, 1) := by decide +kernel
theorem dX9_wordOf_105 : decode cX9_wordOf 105 = .ok (.ldc2_w 270, 3) := by decide +kernel
theorem dX9_wordOf_108 : decode cX9_wordOf 108 = .ok (.lcmp, 1) := by decide +kernel
theorem dX9_wordOf_109 : decode cX9_wordOf 109 = .ok (.ifCond .ne 11, 3) := by decide +kernel
theorem dX9_wordOf_112 : decode cX9_wordOf 112 = .ok (.aload_n 0, 1) := by decide +kernel
theorem dX9_wordOf_113 : decode cX9_wordOf 113 = .ok (.iconst 4, 1) := by decide +kernel
theorem dX9_wordOf_114 : decode cX9_wordOf 114 = .ok (.putfield 232, 3) := by decide +kernel
theorem dX9_wordOf_117 : decode cX9_wordOf 117 = .ok (.bipush 6, 2) := by decide +kernel
theorem dX9_wordOf_119 : decode cX9_wordOf 119 = .ok (.ireturn, 1) := by decide +kernel
theorem dX9_wordOf_120 : decode cX9_wordOf 120 = .ok (.iconst 1, 1) := by decide +kernel
theorem dX9_wordOf_121 : decode cX9_wordOf 121 = .ok (.ireturn, 1) := by decide +kernel
theorem dX9_wrong_0 : decode cX9_wrong 0 = .ok (.aload_n 0, 1) := by decide +kernel
theorem dX9_wrong_1 : decode cX9_wrong 1 = .ok (.aload_n 0, 1) := by decide +kernel
theorem dX9_wrong_2 : decode cX9_wrong 2 = .ok (.getfield 229, 3) := by decide +kernel
theorem dX9_wrong_5 : decode cX9_wrong 5 = .ok (.i2l, 1) := by decide +kernel
theorem dX9_wrong_6 : decode cX9_wrong 6 = .ok (.putfield 108, 3) := by decide +kernel
theorem dX9_wrong_9 : decode cX9_wrong 9 = .ok (.iconst 0, 1) := by decide +kernel
theorem dX9_wrong_10 : decode cX9_wrong 10 = .ok (.ireturn, 1) := by decide +kernel
set_option maxRecDepth 20000 in
theorem ggX9_test_X9_wrong : GoodIn wsX9_test wsX9_wrong := goodIn_r _ [12, 13, 14, 53, 54, 55, 56, 57, 58, 59, 60, 61, 62, 63, 64, 65, 66, 67, 68, 69, 70, 71, 72, 73, 74, 75, 76, 77, 78, 79, 80, 81, 82, 83, 84, 85, 86, 87, 88, 89, 90, 91, 92, 93, 94, 95, 96, 97, 98, 99, 100, 101, 102, 103, 104, 105, 106, 107] rfl (by decide +kernel)
set_option maxRecDepth 20000 in
theorem gX9_test_X9_wrong : GoodIn wsX9_test (wsV RX9 275 RX9 yX9_wrong wsX9_wrong) := goodIn_app (goodIn_of _ (by decide +kernel)) ggX9_test_X9_wrong
set_option maxRecDepth 20000 in
theorem ggX9_test_X9_go : GoodIn wsX9_test wsX9_go := goodIn_r _ [18, 19, 13, 5, 3, 20, 21, 22, 23, 11, 24, 25, 26, 27, 28, 29, 30, 31, 32, 33, 34, 35, 36, 37, 38, 39, 40, 41, 42, 43, 44, 45, 46, 47, 48, 49, 50, 51, 52, 53, 54, 55, 56, 57, 58, 59, 60, 61, 62, 63, 64, 65, 66, 67, 68, 69, 70, 71, 72, 73, 74, 75, 76, 77, 78, 79, 80, 81, 82, 83, 84, 85, 86, 87, 88, 89, 90, 91, 92, 93, 94, 95, 96, 97, 98, 99, 100, 101, 102, 103, 104, 105, 106, 107] rfl (by decide +kernel)
set_option maxRecDepth 20000 in
theorem gX9_test_X9_go : GoodIn wsX9_test (wsV RX9 278 RX9 yX9_go wsX9_go) := goodIn_app (goodIn_of _ (by decide +kernel)) ggX9_test_X9_go
theorem dX9_test_0 : decode cX9_test 0 = .ok (.iconst 4, 1) := by decide +kernel
theorem dX9_test_1 : decode cX9_test 1 = .ok (.aload_n 0, 1) := by decide +kernel
theorem dX9_test_2 : decode cX9_test 2 = .ok (.getfield 272, 3) := by decide +kernel
theorem dX9_test_5 : decode cX9_test 5 = .ok (.iconst 1, 1) := by decide +kernel
theorem dX9_test_6 : decode cX9_test 6 = .ok (.isub, 1) := by decide +kernel
theorem dX9_test_7 : decode cX9_test 7 = .ok (.imul, 1) := by decide +kernel
theorem dX9_test_8 : decode cX9_test 8 = .ok (.aload_n 0, 1) := by decide +kernel
theorem dX9_test_9 : decode cX9_test 9 = .ok (.getfield 91, 3) := by decide +kernel
theorem dX9_test_12 : decode cX9_test 12 = .ok (.aload_n 0, 1) := by decide +kernel
theorem dX9_test_13 : decode cX9_test 13 = .ok (.getfield 272, 3) := by decide +kernel
theorem dX9_test_16 : decode cX9_test 16 = .ok (.iconst 1, 1) := by decide +kernel
theorem dX9_test_17 : decode cX9_test 17 = .ok (.isub, 1) := by decide +kernel
theorem dX9_test_18 : decode cX9_test 18 = .ok (.iaload, 1) := by decide +kernel
theorem dX9_test_19 : decode cX9_test 19 = .ok (.iadd, 1) := by decide +kernel
theorem dX9_test_20 : decode cX9_test 20 = .ok (.istore_n 1, 1) := by decide +kernel
theorem dX9_test_21 : decode cX9_test 21 = .ok (.aload_n 0, 1) := by decide +kernel
theorem dX9_test_22 : decode cX9_test 22 = .ok (.getfield 235, 3) := by decide +kernel
theorem dX9_test_25 : decode cX9_test 25 = .ok (.bipush 6, 2) := by decide +kernel
theorem dX9_test_27 : decode cX9_test 27 = .ok (.if_icmp .eq 8, 3) := by decide +kernel
theorem dX9_test_30 : decode cX9_test 30 = .ok (.aload_n 0, 1) := by decide +kernel
theorem dX9_test_31 : decode cX9_test 31 = .ok (.invokevirtual 275, 3) := by decide +kernel
theorem dX9_test_34 : decode cX9_test 34 = .ok (.ireturn, 1) := by decide +kernel
theorem dX9_test_35 : decode cX9_test 35 = .ok (.aload_n 0, 1) := by decide +kernel
theorem dX9_test_36 : decode cX9_test 36 = .ok (.getfield 94, 3) := by decide +kernel
theorem dX9_test_39 : decode cX9_test 39 = .ok (.iload_n 1, 1) := by decide +kernel
theorem dX9_test_40 : decode cX9_test 40 = .ok (.aload_n 0, 1) := by decide +kernel
theorem dX9_test_41 : decode cX9_test 41 = .ok (.getfield 232, 3) := by decide +kernel
theorem dX9_test_44 : decode cX9_test 44 = .ok (.iastore, 1) := by decide +kernel
theorem dX9_test_45 : decode cX9_test 45 = .ok (.aload_n 0, 1) := by decide +kernel
theorem dX9_test_46 : decode cX9_test 46 = .ok (.invokevirtual 278, 3) := by decide +kernel
theorem dX9_test_49 : decode cX9_test 49 = .ok (.aload_n 0, 1) := by decide +kernel
theorem dX9_test_50 : decode cX9_test 50 = .ok (.getfield 235, 3) := by decide +kernel
theorem dX9_test_53 : decode cX9_test 53 = .ok (.bipush 60, 2) := by decide +kernel
theorem dX9_test_55 : decode cX9_test 55 = .ok (.if_icmp .eq 26, 3) := by decide +kernel
theorem dX9_test_58 : decode cX9_test 58 = .ok (.aload_n 0, 1) := by decide +kernel
theorem dX9_test_59 : decode cX9_test 59 = .ok (.getfield 235, 3) := by decide +kernel
theorem dX9_test_62 : decode cX9_test 62 = .ok (.bipush 61, 2) := by decide +kernel
theorem dX9_test_64 : decode cX9_test 64 = .ok (.if_icmp .eq 17, 3) := by decide +kernel
theorem dX9_test_67 : decode cX9_test 67 = .ok (.aload_n 0, 1) := by decide +kernel
theorem dX9_test_68 : decode cX9_test 68 = .ok (.getfield 235, 3) := by decide +kernel
theorem dX9_test_71 : decode cX9_test 71 = .ok (.bipush 62, 2) := by decide +kernel
theorem dX9_test_73 : decode cX9_test 73 = .ok (.if_icmp .eq 8, 3) := by decide +kernel
theorem dX9_test_76 : decode cX9_test 76 = .ok (.aload_n 0, 1) := by decide +kernel
theorem dX9_test_77 : decode cX9_test 77 = .ok (.invokevirtual 275, 3) := by decide +kernel
theorem dX9_test_80 : decode cX9_test 80 = .ok (.ireturn, 1) := by decide +kernel
theorem dX9_test_81 : decode cX9_test 81 = .ok (.aload_n 0, 1) := by decide +kernel
theorem dX9_test_82 : decode cX9_test 82 = .ok (.getfield 97, 3) := by decide +kernel
theorem dX9_test_85 : decode cX9_test 85 = .ok (.iload_n 1, 1) := by decide +kernel
theorem dX9_test_86 : decode cX9_test 86 = .ok (.aload_n 0, 1) := by decide +kernel
theorem dX9_test_87 : decode cX9_test 87 = .ok (.getfield 235, 3) := by decide +kernel
theorem dX9_test_90 : decode cX9_test 90 = .ok (.iastore, 1) := by decide +kernel
theorem dX9_test_91 : decode cX9_test 91 = .ok (.aload_n 0, 1) := by decide +kernel
theorem dX9_test_92 : decode cX9_test 92 = .ok (.invokevirtual 278, 3) := by decide +kernel
theorem dX9_test_95 : decode cX9_test 95 = .ok (.aload_n 0, 1) := by decide +kernel
theorem dX9_test_96 : decode cX9_test 96 = .ok (.getfield 235, 3) := by decide +kernel
theorem dX9_test_99 : decode cX9_test 99 = .ok (.bipush 7, 2) := by decide +kernel
theorem dX9_test_101 : decode cX9_test 101 = .ok (.if_icmp .eq 8, 3) := by decide +kernel
theorem dX9_test_104 : decode cX9_test 104 = .ok (.aload_n 0, 1) := by decide +kernel
theorem dX9_test_105 : decode cX9_test 105 = .ok (.invokevirtual 275, 3) := by decide +kernel
theorem dX9_test_108 : decode cX9_test 108 = .ok (.ireturn, 1) := by decide +kernel
theorem dX9_test_109 : decode cX9_test 109 = .ok (.aload_n 0, 1) := by decide +kernel
theorem dX9_test_110 : decode cX9_test 110 = .ok (.getfield 100, 3) := by decide +kernel
theorem dX9_test_113 : decode cX9_test 113 = .ok (.iload_n 1, 1) := by decide +kernel
theorem dX9_test_114 : decode cX9_test 114 = .ok (.aload_n 0, 1) := by decide +kernel
theorem dX9_test_115 : decode cX9_test 115 = .ok (.getfield 232, 3) := by decide +kernel
theorem dX9_test_118 : decode cX9_test 118 = .ok (.iastore, 1) := by decide +kernel
theorem dX9_test_119 : decode cX9_test 119 = .ok (.aload_n 0, 1) := by decide +kernel
theorem dX9_test_120 : decode cX9_test 120 = .ok (.getfield 91, 3) := by decide +kernel
theorem dX9_test_123 : decode cX9_test 123 = .ok (.aload_n 0, 1) := by decide +kernel
theorem dX9_test_124 : decode cX9_test 124 = .ok (.getfield 272, 3) := by decide +kernel
theorem dX9_test_127 : decode cX9_test 127 = .ok (.iconst 1, 1) := by decide +kernel
theorem dX9_test_128 : decode cX9_test 128 = .ok (.isub, 1) := by decide +kernel
theorem dX9_test_129 : decode cX9_test 129 = .ok (.dup2, 1) := by decide +kernel
theorem dX9_test_130 : decode cX9_test 130 = .ok (.iaload, 1) := by decide +kernel
theorem dX9_test_131 : decode cX9_test 131 = .ok (.iconst 1, 1) := by decide +kernel
theorem dX9_test_132 : decode cX9_test 132 = .ok (.iadd, 1) := by decide +kernel
theorem dX9_test_133 : decode cX9_test 133 = .ok (.iastore, 1) := by decide +kernel
theorem dX9_test_134 : decode cX9_test 134 = .ok (.aload_n 0, 1) := by decide +kernel
theorem dX9_test_135 : decode cX9_test 135 = .ok (.invokevirtual 278, 3) := by decide +kernel
theorem dX9_test_138 : decode cX9_test 138 = .ok (.iconst 1, 1) := by decide +kernel
theorem dX9_test_139 : decode cX9_test 139 = .ok (.ireturn, 1) := by decide +kernel
set_option maxRecDepth 20000 in
theorem ggX9_clause_X9_wrong : GoodIn wsX9_clause wsX9_wrong := goodIn_r _ [9, 10, 11, 58, 59, 60, 61, 62, 63, 64, 65, 66, 67, 68, 69, 70, 71, 72, 73, 74, 75, 76, 77, 78, 79, 80, 81, 82, 83, 84, 85, 86, 87, 88, 89, 90, 91, 92, 93, 94, 95, 96, 97, 98, 99, 100, 101, 102, 103, 104, 105, 106, 107, 108, 109, 110, 111, 112] rfl (by decide +kernel)
set_option maxRecDepth 20000 in
theorem gX9_clause_X9_wrong : GoodIn wsX9_clause (wsV RX9 275 RX9 yX9_wrong wsX9_wrong) := goodIn_app (goodIn_of _ (by decide +kernel)) ggX9_clause_X9_wrong
set_option maxRecDepth 20000 in
theorem ggX9_clause_X9_go : GoodIn wsX9_clause wsX9_go := goodIn_r _ [15, 16, 10, 17, 1, 18, 19, 20, 21, 8, 22, 23, 24, 25, 26, 27, 28, 29, 30, 31, 32, 33, 34, 35, 36, 37, 38, 39, 40, 41, 42, 43, 44, 45, 46, 47, 48, 49, 50, 58, 59, 60, 61, 62, 63, 64, 65, 66, 67, 68, 69, 70, 71, 72, 73, 74, 75, 76, 77, 78, 79, 80, 81, 82, 83, 84, 85, 86, 87, 88, 89, 90, 91, 92, 93, 94, 95, 96, 97, 98, 99, 100, 101, 102, 103, 104, 105, 106, 107, 108, 109, 110, 111, 112] rfl (by decide +kernel)
set_option maxRecDepth 20000 in
theorem gX9_clause_X9_go : GoodIn wsX9_clause (wsV RX9 278 RX9 yX9_go wsX9_go) := goodIn_app (goodIn_of _ (by decide +kernel)) ggX9_clause_X9_go
set_option maxRecDepth 20000 in
theorem ggX9_clause_X9_test : GoodIn wsX9_clause wsX9_test := goodIn_r _ [54, 3, 4, 1, 55, 17, 56, 57, 5, 6, 7, 8, 9, 10, 11, 12, 13, 14, 15, 16, 18, 19, 20, 21, 22, 23, 24, 25, 26, 27, 28, 29, 30, 31, 32, 33, 34, 35, 36, 37, 38, 39, 40, 41, 42, 43, 44, 45, 46, 47, 48, 49, 50, 58, 59, 60, 61, 62, 63, 64, 65, 66, 67, 68, 69, 70, 71, 72, 73, 74, 75, 76, 77, 78, 79, 80, 81, 82, 83, 84, 85, 86, 87, 88, 89, 90, 91, 92, 93, 94, 95, 96, 97, 98, 99, 100, 101, 102, 103, 104, 105, 106, 107, 108, 109, 110, 111, 112] rfl (by decide +kernel)
set_option maxRecDepth 20000 in
theorem gX9_clause_X9_test : GoodIn wsX9_clause (wsV RX9 281 RX9 yX9_test wsX9_test) := goodIn_app (goodIn_of _ (by decide +kernel)) ggX9_clause_X9_test
theorem dX9_clause_0 : decode cX9_clause 0 = .ok (.aload_n 0, 1) := by decide +kernel
theorem dX9_clause_1 : decode cX9_clause 1 = .ok (.getfield 235, 3) := by decide +kernel
theorem dX9_clause_4 : decode cX9_clause 4 = .ok (.iconst 2, 1) := by decide +kernel
theorem dX9_clause_5 : decode cX9_clause 5 = .ok (.if_icmp .eq 16, 3) := by decide +kernel
theorem dX9_clause_8 : decode cX9_clause 8 = .ok (.aload_n 0, 1) := by decide +kernel
theorem dX9_clause_9 : decode cX9_clause 9 = .ok (.getfield 235, 3) := by decide +kernel
theorem dX9_clause_12 : decode cX9_clause 12 = .ok (.iconst 3, 1) := by decide +kernel
theorem dX9_clause_13 : decode cX9_clause 13 = .ok (.if_icmp .eq 8, 3) := by decide +kernel
theorem dX9_clause_16 : decode cX9_clause 16 = .ok (.aload_n 0, 1) := by decide +kernel
theorem dX9_clause_17 : decode cX9_clause 17 = .ok (.invokevirtual 275, 3) := by decide +kernel
theorem dX9_clause_20 : decode cX9_clause 20 = .ok (.ireturn, 1) := by decide +kernel
theorem dX9_clause_21 : decode cX9_clause 21 = .ok (.aload_n 0, 1) := by decide +kernel
theorem dX9_clause_22 : decode cX9_clause 22 = .ok (.getfield 88, 3) := by decide +kernel
theorem dX9_clause_25 : decode cX9_clause 25 = .ok (.aload_n 0, 1) := by decide +kernel
theorem dX9_clause_26 : decode cX9_clause 26 = .ok (.getfield 272, 3) := by decide +kernel
theorem dX9_clause_29 : decode cX9_clause 29 = .ok (.aload_n 0, 1) := by decide +kernel
theorem dX9_clause_30 : decode cX9_clause 30 = .ok (.getfield 235, 3) := by decide +kernel
theorem dX9_clause_33 : decode cX9_clause 33 = .ok (.iconst 2, 1) := by decide +kernel
theorem dX9_clause_34 : decode cX9_clause 34 = .ok (.if_icmp .ne 7, 3) := by decide +kernel
theorem dX9_clause_37 : decode cX9_clause 37 = .ok (.iconst 1, 1) := by decide +kernel
theorem dX9_clause_38 : decode cX9_clause 38 = .ok (.goto 4, 3) := by decide +kernel
theorem dX9_clause_41 : decode cX9_clause 41 = .ok (.iconst 0, 1) := by decide +kernel
theorem dX9_clause_42 : decode cX9_clause 42 = .ok (.bastore, 1) := by decide +kernel
theorem dX9_clause_43 : decode cX9_clause 43 = .ok (.aload_n 0, 1) := by decide +kernel
theorem dX9_clause_44 : decode cX9_clause 44 = .ok (.getfield 91, 3) := by decide +kernel
theorem dX9_clause_47 : decode cX9_clause 47 = .ok (.aload_n 0, 1) := by decide +kernel
theorem dX9_clause_48 : decode cX9_clause 48 = .ok (.getfield 272, 3) := by decide +kernel
theorem dX9_clause_51 : decode cX9_clause 51 = .ok (.iconst 0, 1) := by decide +kernel
theorem dX9_clause_52 : decode cX9_clause 52 = .ok (.iastore, 1) := by decide +kernel
theorem dX9_clause_53 : decode cX9_clause 53 = .ok (.aload_n 0, 1) := by decide +kernel
theorem dX9_clause_54 : decode cX9_clause 54 = .ok (.dup, 1) := by decide +kernel
theorem dX9_clause_55 : decode cX9_clause 55 = .ok (.getfield 272, 3) := by decide +kernel
theorem dX9_clause_58 : decode cX9_clause 58 = .ok (.iconst 1, 1) := by decide +kernel
theorem dX9_clause_59 : decode cX9_clause 59 = .ok (.iadd, 1) := by decide +kernel
theorem dX9_clause_60 : decode cX9_clause 60 = .ok (.putfield 272, 3) := by decide +kernel
theorem dX9_clause_63 : decode cX9_clause 63 = .ok (.aload_n 0, 1) := by decide +kernel
theorem dX9_clause_64 : decode cX9_clause 64 = .ok (.invokevirtual 278, 3) := by decide +kernel
theorem dX9_clause_67 : decode cX9_clause 67 = .ok (.aload_n 0, 1) := by decide +kernel
theorem dX9_clause_68 : decode cX9_clause 68 = .ok (.getfield 235, 3) := by decide +kernel
theorem dX9_clause_71 : decode cX9_clause 71 = .ok (.iconst 4, 1) := by decide +kernel
theorem dX9_clause_72 : decode cX9_clause 72 = .ok (.if_icmp .eq 5, 3) := by decide +kernel
theorem dX9_clause_75 : decode cX9_clause 75 = .ok (.iconst 1, 1) := by decide +kernel
theorem dX9_clause_76 : decode cX9_clause 76 = .ok (.ireturn, 1) := by decide +kernel
theorem dX9_clause_77 : decode cX9_clause 77 = .ok (.aload_n 0, 1) := by decide +kernel
theorem dX9_clause_78 : decode cX9_clause 78 = .ok (.invokevirtual 278, 3) := by decide +kernel
theorem dX9_clause_81 : decode cX9_clause 81 = .ok (.aload_n 0, 1) := by decide +kernel
theorem dX9_clause_82 : decode cX9_clause 82 = .ok (.invokevirtual 281, 3) := by decide +kernel
theorem dX9_clause_85 : decode cX9_clause 85 = .ok (.istore_n 1, 1) := by decide +kernel
theorem dX9_clause_86 : decode cX9_clause 86 = .ok (.iload_n 1, 1) := by decide +kernel
theorem dX9_clause_87 : decode cX9_clause 87 = .ok (.ifCond .eq 43, 3) := by decide +kernel
theorem dX9_clause_90 : decode cX9_clause 90 = .ok (.aload_n 0, 1) := by decide +kernel
theorem dX9_clause_91 : decode cX9_clause 91 = .ok (.getfield 235, 3) := by decide +kernel
theorem dX9_clause_94 : decode cX9_clause 94 = .ok (.iconst 5, 1) := by decide +kernel
theorem dX9_clause_95 : decode cX9_clause 95 = .ok (.if_icmp .ne 35, 3) := by decide +kernel
theorem dX9_clause_98 : decode cX9_clause 98 = .ok (.aload_n 0, 1) := by decide +kernel
theorem dX9_clause_99 : decode cX9_clause 99 = .ok (.getfield 91, 3) := by decide +kernel
theorem dX9_clause_102 : decode cX9_clause 102 = .ok (.aload_n 0, 1) := by decide +kernel
theorem dX9_clause_103 : decode cX9_clause 103 = .ok (.getfield 272, 3) := by decide +kernel
theorem dX9_clause_106 : decode cX9_clause 106 = .ok (.iconst 1, 1) := by decide +kernel
theorem dX9_clause_107 : decode cX9_clause 107 = .ok (.isub, 1) := by decide +kernel
theorem dX9_clause_108 : decode cX9_clause 108 = .ok (.iaload, 1) := by decide +kernel
theorem dX9_clause_109 : decode cX9_clause 109 = .ok (.iconst 4, 1) := by decide +kernel
theorem dX9_clause_110 : decode cX9_clause 110 = .ok (.if_icmp .ne 8, 3) := by decide +kernel
theorem dX9_clause_113 : decode cX9_clause 113 = .ok (.aload_n 0, 1) := by decide +kernel
theorem dX9_clause_114 : decode cX9_clause 114 = .ok (.invokevirtual 275, 3) := by decide +kernel
theorem dX9_clause_117 : decode cX9_clause 117 = .ok (.ireturn, 1) := by decide +kernel
theorem dX9_clause_118 : decode cX9_clause 118 = .ok (.aload_n 0, 1) := by decide +kernel
theorem dX9_clause_119 : decode cX9_clause 119 = .ok (.invokevirtual 278, 3) := by decide +kernel
theorem dX9_clause_122 : decode cX9_clause 122 = .ok (.aload_n 0, 1) := by decide +kernel
theorem dX9_clause_123 : decode cX9_clause 123 = .ok (.invokevirtual 281, 3) := by decide +kernel
theorem dX9_clause_126 : decode cX9_clause 126 = .ok (.istore_n 1, 1) := by decide +kernel
theorem dX9_clause_127 : decode cX9_clause 127 = .ok (.goto (-41), 3) := by decide +kernel
theorem dX9_clause_130 : decode cX9_clause 130 = .ok (.iload_n 1, 1) := by decide +kernel
theorem dX9_clause_131 : decode cX9_clause 131 = .ok (.ireturn, 1) := by decide +kernel
set_option maxRecDepth 20000 in
theorem ggX9_text_X9_clause : GoodIn wsX9_text wsX9_clause := goodIn_r _ [7, 1, 8, 2, 9, 10, 11, 12, 6, 13, 14, 15, 16, 17, 18, 19, 20, 21, 22, 23, 24, 25, 26, 27, 28, 29, 30, 31, 32, 33, 34, 35, 36, 37, 38, 39, 40, 41, 42, 43, 44, 45, 46, 47, 48, 49, 50, 51, 52, 53, 54, 55, 56, 57, 58, 59, 60, 61, 62, 63, 64, 65, 66, 67, 68, 69, 70, 71, 72, 73, 74, 75, 76, 77, 78, 79, 80, 81, 82, 83, 84, 85, 86, 87, 88, 89, 90, 91, 92, 93, 94, 95, 96, 97, 98, 99, 100, 101, 102, 103, 104, 105, 106, 107, 108, 109, 110, 111, 112, 113, 114, 115, 116] rfl (by decide +kernel)
set_option maxRecDepth 20000 in
theorem gX9_text_X9_clause : GoodIn wsX9_text (wsV RX9 284 RX9 yX9_clause wsX9_clause) := goodIn_app (goodIn_of _ (by decide +kernel)) ggX9_text_X9_clause
set_option maxRecDepth 20000 in
theorem ggX9_text_X9_wrong : GoodIn wsX9_text wsX9_wrong := goodIn_r _ [13, 14, 15, 62, 63, 64, 65, 66, 67, 68, 69, 70, 71, 72, 73, 74, 75, 76, 77, 78, 79, 80, 81, 82, 83, 84, 85, 86, 87, 88, 89, 90, 91, 92, 93, 94, 95, 96, 97, 98, 99, 100, 101, 102, 103, 104, 105, 106, 107, 108, 109, 110, 111, 112, 113, 114, 115, 116] rfl (by decide +kernel)
set_option maxRecDepth 20000 in
theorem gX9_text_X9_wrong : GoodIn wsX9_text (wsV RX9 275 RX9 yX9_wrong wsX9_wrong) := goodIn_app (goodIn_of _ (by decide +kernel)) ggX9_text_X9_wrong
set_option maxRecDepth 20000 in
theorem ggX9_text_X9_go : GoodIn wsX9_text wsX9_go := goodIn_r _ [19, 20, 14, 21, 1, 22, 23, 24, 25, 6, 26, 27, 28, 29, 30, 31, 32, 33, 34, 35, 36, 37, 38, 39, 40, 41, 42, 43, 44, 45, 46, 47, 48, 49, 50, 51, 52, 53, 54, 62, 63, 64, 65, 66, 67, 68, 69, 70, 71, 72, 73, 74, 75, 76, 77, 78, 79, 80, 81, 82, 83, 84, 85, 86, 87, 88, 89, 90, 91, 92, 93, 94, 95, 96, 97, 98, 99, 100, 101, 102, 103, 104, 105, 106, 107, 108, 109, 110, 111, 112, 113, 114, 115, 116] rfl (by decide +kernel)
set_option maxRecDepth 20000 in
theorem gX9_text_X9_go : GoodIn wsX9_text (wsV RX9 278 RX9 yX9_go wsX9_go) := goodIn_app (goodIn_of _ (by decide +kernel)) ggX9_text_X9_go
theorem dX9_text_0 : decode cX9_text 0 = .ok (.aload_n 0, 1) := by decide +kernel
theorem dX9_text_1 : decode cX9_text 1 = .ok (.getfield 235, 3) := by decide +kernel
theorem dX9_text_4 : decode cX9_text 4 = .ok (.ifCond .ne 5, 3) := by decide +kernel
theorem dX9_text_7 : decode cX9_text 7 = .ok (.iconst 1, 1) := by decide +kernel
theorem dX9_text_8 : decode cX9_text 8 = .ok (.ireturn, 1) := by decide +kernel
theorem dX9_text_9 : decode cX9_text 9 = .ok (.aload_n 0, 1) := by decide +kernel
theorem dX9_text_10 : decode cX9_text 10 = .ok (.invokevirtual 284, 3) := by decide +kernel
theorem dX9_text_13 : decode cX9_text 13 = .ok (.istore_n 1, 1) := by decide +kernel
theorem dX9_text_14 : decode cX9_text 14 = .ok (.iload_n 1, 1) := by decide +kernel
theorem dX9_text_15 : decode cX9_text 15 = .ok (.ifCond .eq 38, 3) := by decide +kernel
theorem dX9_text_18 : decode cX9_text 18 = .ok (.aload_n 0, 1) := by decide +kernel
theorem dX9_text_19 : decode cX9_text 19 = .ok (.getfield 235, 3) := by decide +kernel
theorem dX9_text_22 : decode cX9_text 22 = .ok (.bipush 59, 2) := by decide +kernel
theorem dX9_text_24 : decode cX9_text 24 = .ok (.if_icmp .ne 29, 3) := by decide +kernel
theorem dX9_text_27 : decode cX9_text 27 = .ok (.aload_n 0, 1) := by decide +kernel
theorem dX9_text_28 : decode cX9_text 28 = .ok (.getfield 272, 3) := by decide +kernel
theorem dX9_text_31 : decode cX9_text 31 = .ok (.bipush 8, 2) := by decide +kernel
theorem dX9_text_33 : decode cX9_text 33 = .ok (.if_icmp .ne 8, 3) := by decide +kernel
theorem dX9_text_36 : decode cX9_text 36 = .ok (.aload_n 0, 1) := by decide +kernel
theorem dX9_text_37 : decode cX9_text 37 = .ok (.invokevirtual 275, 3) := by decide +kernel
theorem dX9_text_40 : decode cX9_text 40 = .ok (.ireturn, 1) := by decide +kernel
theorem dX9_text_41 : decode cX9_text 41 = .ok (.aload_n 0, 1) := by decide +kernel
theorem dX9_text_42 : decode cX9_text 42 = .ok (.invokevirtual 278, 3) := by decide +kernel
theorem dX9_text_45 : decode cX9_text 45 = .ok (.aload_n 0, 1) := by decide +kernel
theorem dX9_text_46 : decode cX9_text 46 = .ok (.invokevirtual 284, 3) := by decide +kernel
theorem dX9_text_49 : decode cX9_text 49 = .ok (.istore_n 1, 1) := by decide +kernel
theorem dX9_text_50 : decode cX9_text 50 = .ok (.goto (-36), 3) := by decide +kernel
theorem dX9_text_53 : decode cX9_text 53 = .ok (.iload_n 1, 1) := by decide +kernel
theorem dX9_text_54 : decode cX9_text 54 = .ok (.ifCond .eq 21, 3) := by decide +kernel
theorem dX9_text_57 : decode cX9_text 57 = .ok (.aload_n 0, 1) := by decide +kernel
theorem dX9_text_58 : decode cX9_text 58 = .ok (.getfield 235, 3) := by decide +kernel
theorem dX9_text_61 : decode cX9_text 61 = .ok (.ifCond .eq 10, 3) := by decide +kernel
theorem dX9_text_64 : decode cX9_text 64 = .ok (.aload_n 0, 1) := by decide +kernel
theorem dX9_text_65 : decode cX9_text 65 = .ok (.invokevirtual 275, 3) := by decide +kernel
theorem dX9_text_68 : decode cX9_text 68 = .ok (.ifCond .eq 7, 3) := by decide +kernel
theorem dX9_text_71 : decode cX9_text 71 = .ok (.iconst 1, 1) := by decide +kernel
theorem dX9_text_72 : decode cX9_text 72 = .ok (.goto 4, 3) := by decide +kernel
theorem dX9_text_75 : decode cX9_text 75 = .ok (.iconst 0, 1) := by decide +kernel
theorem dX9_text_76 : decode cX9_text 76 = .ok (.ireturn, 1) := by decide +kernel
set_option maxRecDepth 20000 in
theorem ggX9_read_X9_go : GoodIn wsX9_read wsX9_go := goodIn_r _ [22, 4, 23, 24, 25, 26, 27, 28, 29, 21, 30, 5, 31, 32, 33, 34, 35, 36, 37, 38, 39, 40, 1, 41, 42, 43, 44, 45, 46, 47, 48, 49, 50, 51, 52, 53, 54, 55, 56, 79, 80, 81, 82, 83, 84, 85, 86, 87, 88, 89, 90, 91, 92, 93, 94, 95, 96, 97, 98, 99, 100, 101, 102, 103, 104, 105, 106, 107, 108, 109, 110, 111, 112, 113, 114, 115, 116, 117, 118, 119, 120, 121, 122, 123, 124, 125, 126, 127, 128, 129, 130, 131, 132, 133] rfl (by decide +kernel)
set_option maxRecDepth 20000 in
theorem gX9_read_X9_go : GoodIn wsX9_read (wsV RX9 278 RX9 yX9_go wsX9_go) := goodIn_app (goodIn_of _ (by decide +kernel)) ggX9_read_X9_go
set_option maxRecDepth 20000 in
theorem ggX9_read_X9_text : GoodIn wsX9_read wsX9_text := goodIn_r _ [60, 25, 3, 61, 62, 63, 21, 64, 9, 11, 65, 66, 67, 68, 23, 2, 18, 19, 20, 22, 4, 24, 26, 27, 28, 29, 30, 5, 31, 32, 33, 34, 35, 36, 37, 38, 39, 40, 1, 41, 42, 43, 44, 45, 46, 47, 48, 49, 50, 51, 52, 53, 54, 55, 56, 69, 70, 71, 72, 13, 15, 17, 79, 80, 81, 82, 83, 84, 85, 86, 87, 88, 89, 90, 91, 92, 93, 94, 95, 96, 97, 98, 99, 100, 101, 102, 103, 104, 105, 106, 107, 108, 109, 110, 111, 112, 113, 114, 115, 116, 117, 118, 119, 120, 121, 122, 123, 124, 125, 126, 127, 128, 129, 130, 131, 132, 133] rfl (by decide +kernel)
set_option maxRecDepth 20000 in
theorem gX9_read_X9_text : GoodIn wsX9_read (wsV RX9 287 RX9 yX9_text wsX9_text) := goodIn_app (goodIn_of _ (by decide +kernel)) ggX9_read_X9_text
set_option maxRecDepth 20000 in
theorem ggX9_read_X9_finding : GoodIn wsX9_read wsX9_finding := goodIn_r _ [76, 77, 78, 79, 80, 81, 82, 83, 84, 85, 86, 87, 88, 89, 90, 91, 92, 93, 94, 95, 96, 97, 98, 99, 100, 101, 102, 103, 104, 105, 106, 107, 108, 109, 110, 111, 112, 113, 114, 115, 116, 117, 118, 119, 120, 121, 122, 123, 124, 125, 126, 127, 128, 129, 130, 131, 132, 133] rfl (by decide +kernel)
set_option maxRecDepth 20000 in
theorem gX9_read_X9_finding : GoodIn wsX9_read (wsV RX9 154 RX9 yX9_finding wsX9_finding) := goodIn_app (goodIn_of _ (by decide +kernel)) ggX9_read_X9_finding
theorem dX9_read_0 : decode cX9_read 0 = .ok (.aload_n 0, 1) := by decide +kernel
theorem dX9_read_1 : decode cX9_read 1 = .ok (.ldc2_w 106, 3) := by decide +kernel
theorem dX9_read_4 : decode cX9_read 4 = .ok (.putfield 108, 3) := by decide +kernel
theorem dX9_read_7 : decode cX9_read 7 = .ok (.aload_n 0, 1) := by decide +kernel
theorem dX9_read_8 : decode cX9_read 8 = .ok (.iconst 0, 1) := by decide +kernel
theorem dX9_read_9 : decode cX9_read 9 = .ok (.putfield 272, 3) := by decide +kernel
theorem dX9_read_12 : decode cX9_read 12 = .ok (.aload_n 0, 1) := by decide +kernel
theorem dX9_read_13 : decode cX9_read 13 = .ok (.iconst 0, 1) := by decide +kernel
theorem dX9_read_14 : decode cX9_read 14 = .ok (.putfield 222, 3) := by decide +kernel
theorem dX9_read_17 : decode cX9_read 17 = .ok (.aload_n 0, 1) := by decide +kernel
theorem dX9_read_18 : decode cX9_read 18 = .ok (.invokevirtual 278, 3) := by decide +kernel
theorem dX9_read_21 : decode cX9_read 21 = .ok (.aload_n 0, 1) := by decide +kernel
theorem dX9_read_22 : decode cX9_read 22 = .ok (.invokevirtual 287, 3) := by decide +kernel
theorem dX9_read_25 : decode cX9_read 25 = .ok (.istore_n 1, 1) := by decide +kernel
theorem dX9_read_26 : decode cX9_read 26 = .ok (.aload_n 0, 1) := by decide +kernel
theorem dX9_read_27 : decode cX9_read 27 = .ok (.iconst 0, 1) := by decide +kernel
theorem dX9_read_28 : decode cX9_read 28 = .ok (.putfield 217, 3) := by decide +kernel
theorem dX9_read_31 : decode cX9_read 31 = .ok (.iload_n 1, 1) := by decide +kernel
theorem dX9_read_32 : decode cX9_read 32 = .ok (.ifCond .ne 11, 3) := by decide +kernel
theorem dX9_read_35 : decode cX9_read 35 = .ok (.aload_n 0, 1) := by decide +kernel
theorem dX9_read_36 : decode cX9_read 36 = .ok (.ldc2_w 290, 3) := by decide +kernel
theorem dX9_read_39 : decode cX9_read 39 = .ok (.invokevirtual 154, 3) := by decide +kernel
theorem dX9_read_42 : decode cX9_read 42 = .ok (.lreturn, 1) := by decide +kernel
theorem dX9_read_43 : decode cX9_read 43 = .ok (.aload_n 0, 1) := by decide +kernel
theorem dX9_read_44 : decode cX9_read 44 = .ok (.aload_n 0, 1) := by decide +kernel
theorem dX9_read_45 : decode cX9_read 45 = .ok (.getfield 272, 3) := by decide +kernel
theorem dX9_read_48 : decode cX9_read 48 = .ok (.putfield 292, 3) := by decide +kernel
theorem dX9_read_51 : decode cX9_read 51 = .ok (.iconst 0, 1) := by decide +kernel
theorem dX9_read_52 : decode cX9_read 52 = .ok (.istore_n 2, 1) := by decide +kernel
theorem dX9_read_53 : decode cX9_read 53 = .ok (.iload_n 2, 1) := by decide +kernel
theorem dX9_read_54 : decode cX9_read 54 = .ok (.bipush 8, 2) := by decide +kernel
theorem dX9_read_56 : decode cX9_read 56 = .ok (.if_icmp .ge 33, 3) := by decide +kernel
theorem dX9_read_59 : decode cX9_read 59 = .ok (.aload_n 0, 1) := by decide +kernel
theorem dX9_read_60 : decode cX9_read 60 = .ok (.getfield 73, 3) := by decide +kernel
theorem dX9_read_63 : decode cX9_read 63 = .ok (.iload_n 2, 1) := by decide +kernel
theorem dX9_read_64 : decode cX9_read 64 = .ok (.aload_n 0, 1) := by decide +kernel
theorem dX9_read_65 : decode cX9_read 65 = .ok (.getfield 88, 3) := by decide +kernel
theorem dX9_read_68 : decode cX9_read 68 = .ok (.iload_n 2, 1) := by decide +kernel
theorem dX9_read_69 : decode cX9_read 69 = .ok (.baload, 1) := by decide +kernel
theorem dX9_read_70 : decode cX9_read 70 = .ok (.bastore, 1) := by decide +kernel
theorem dX9_read_71 : decode cX9_read 71 = .ok (.aload_n 0, 1) := by decide +kernel
theorem dX9_read_72 : decode cX9_read 72 = .ok (.getfield 76, 3) := by decide +kernel
theorem dX9_read_75 : decode cX9_read 75 = .ok (.iload_n 2, 1) := by decide +kernel
theorem dX9_read_76 : decode cX9_read 76 = .ok (.aload_n 0, 1) := by decide +kernel
theorem dX9_read_77 : decode cX9_read 77 = .ok (.getfield 91, 3) := by decide +kernel
theorem dX9_read_80 : decode cX9_read 80 = .ok (.iload_n 2, 1) := by decide +kernel
theorem dX9_read_81 : decode cX9_read 81 = .ok (.iaload, 1) := by decide +kernel
theorem dX9_read_82 : decode cX9_read 82 = .ok (.iastore, 1) := by decide +kernel
theorem dX9_read_83 : decode cX9_read 83 = .ok (.iinc 2 1, 3) := by decide +kernel
theorem dX9_read_86 : decode cX9_read 86 = .ok (.goto (-33), 3) := by decide +kernel
theorem dX9_read_89 : decode cX9_read 89 = .ok (.iconst 0, 1) := by decide +kernel
theorem dX9_read_90 : decode cX9_read 90 = .ok (.istore_n 2, 1) := by decide +kernel
theorem dX9_read_91 : decode cX9_read 91 = .ok (.iload_n 2, 1) := by decide +kernel
theorem dX9_read_92 : decode cX9_read 92 = .ok (.bipush 32, 2) := by decide +kernel
theorem dX9_read_94 : decode cX9_read 94 = .ok (.if_icmp .ge 45, 3) := by decide +kernel
theorem dX9_read_97 : decode cX9_read 97 = .ok (.aload_n 0, 1) := by decide +kernel
theorem dX9_read_98 : decode cX9_read 98 = .ok (.getfield 79, 3) := by decide +kernel
theorem dX9_read_101 : decode cX9_read 101 = .ok (.iload_n 2, 1) := by decide +kernel
theorem dX9_read_102 : decode cX9_read 102 = .ok (.aload_n 0, 1) := by decide +kernel
theorem dX9_read_103 : decode cX9_read 103 = .ok (.getfield 94, 3) := by decide +kernel
theorem dX9_read_106 : decode cX9_read 106 = .ok (.iload_n 2, 1) := by decide +kernel
theorem dX9_read_107 : decode cX9_read 107 = .ok (.iaload, 1) := by decide +kernel
theorem dX9_read_108 : decode cX9_read 108 = .ok (.iastore, 1) := by decide +kernel
theorem dX9_read_109 : decode cX9_read 109 = .ok (.aload_n 0, 1) := by decide +kernel
theorem dX9_read_110 : decode cX9_read 110 = .ok (.getfield 82, 3) := by decide +kernel
theorem dX9_read_113 : decode cX9_read 113 = .ok (.iload_n 2, 1) := by decide +kernel
theorem dX9_read_114 : decode cX9_read 114 = .ok (.aload_n 0, 1) := by decide +kernel
theorem dX9_read_115 : decode cX9_read 115 = .ok (.getfield 97, 3) := by decide +kernel
theorem dX9_read_118 : decode cX9_read 118 = .ok (.iload_n 2, 1) := by decide +kernel
theorem dX9_read_119 : decode cX9_read 119 = .ok (.iaload, 1) := by decide +kernel
theorem dX9_read_120 : decode cX9_read 120 = .ok (.iastore, 1) := by decide +kernel
theorem dX9_read_121 : decode cX9_read 121 = .ok (.aload_n 0, 1) := by decide +kernel
theorem dX9_read_122 : decode cX9_read 122 = .ok (.getfield 85, 3) := by decide +kernel
theorem dX9_read_125 : decode cX9_read 125 = .ok (.iload_n 2, 1) := by decide +kernel
theorem dX9_read_126 : decode cX9_read 126 = .ok (.aload_n 0, 1) := by decide +kernel
theorem dX9_read_127 : decode cX9_read 127 = .ok (.getfield 100, 3) := by decide +kernel
theorem dX9_read_130 : decode cX9_read 130 = .ok (.iload_n 2, 1) := by decide +kernel
theorem dX9_read_131 : decode cX9_read 131 = .ok (.iaload, 1) := by decide +kernel
theorem dX9_read_132 : decode cX9_read 132 = .ok (.iastore, 1) := by decide +kernel
theorem dX9_read_133 : decode cX9_read 133 = .ok (.iinc 2 1, 3) := by decide +kernel
theorem dX9_read_136 : decode cX9_read 136 = .ok (.goto (-45), 3) := by decide +kernel
theorem dX9_read_139 : decode cX9_read 139 = .ok (.aload_n 0, 1) := by decide +kernel
theorem dX9_read_140 : decode cX9_read 140 = .ok (.getfield 292, 3) := by decide +kernel
theorem dX9_read_143 : decode cX9_read 143 = .ok (.i2l, 1) := by decide +kernel
theorem dX9_read_144 : decode cX9_read 144 = .ok (.lreturn, 1) := by decide +kernel
theorem dX9_fault_0 : decode cX9_fault 0 = .ok (.aload_n 0, 1) := by decide +kernel
theorem dX9_fault_1 : decode cX9_fault 1 = .ok (.getfield 108, 3) := by decide +kernel
theorem dX9_fault_4 : decode cX9_fault 4 = .ok (.lreturn, 1) := by decide +kernel
theorem dX9_isBound_0 : decode cX9_isBound 0 = .ok (.iconst 0, 1) := by decide +kernel
theorem dX9_isBound_1 : decode cX9_isBound 1 = .ok (.istore 7, 2) := by decide +kernel
theorem dX9_isBound_3 : decode cX9_isBound 3 = .ok (.iload 7, 2) := by decide +kernel
theorem dX9_isBound_5 : decode cX9_isBound 5 = .ok (.aload_n 0, 1) := by decide +kernel
theorem dX9_isBound_6 : decode cX9_isBound 6 = .ok (.getfield 292, 3) := by decide +kernel
theorem dX9_isBound_9 : decode cX9_isBound 9 = .ok (.if_icmp .ge 207, 3) := by decide +kernel
theorem dX9_isBound_12 : decode cX9_isBound 12 = .ok (.iconst 1, 1) := by decide +kernel
theorem dX9_isBound_13 : decode cX9_isBound 13 = .ok (.istore 8, 2) := by decide +kernel
theorem dX9_isBound_15 : decode cX9_isBound 15 = .ok (.iconst 4, 1) := by decide +kernel
theorem dX9_isBound_16 : decode cX9_isBound 16 = .ok (.iload 7, 2) := by decide +kernel
theorem dX9_isBound_18 : decode cX9_isBound 18 = .ok (.imul, 1) := by decide +kernel
theorem dX9_isBound_19 : decode cX9_isBound 19 = .ok (.istore 9, 2) := by decide +kernel
theorem dX9_isBound_21 : decode cX9_isBound 21 = .ok (.iload 9, 2) := by decide +kernel
theorem dX9_isBound_23 : decode cX9_isBound 23 = .ok (.iconst 4, 1) := by decide +kernel
theorem dX9_isBound_24 : decode cX9_isBound 24 = .ok (.iload 7, 2) := by decide +kernel
theorem dX9_isBound_26 : decode cX9_isBound 26 = .ok (.imul, 1) := by decide +kernel
theorem dX9_isBound_27 : decode cX9_isBound 27 = .ok (.aload_n 0, 1) := by decide +kernel
theorem dX9_isBound_28 : decode cX9_isBound 28 = .ok (.getfield 76, 3) := by decide +kernel
theorem dX9_isBound_31 : decode cX9_isBound 31 = .ok (.iload 7, 2) := by decide +kernel
theorem dX9_isBound_33 : decode cX9_isBound 33 = .ok (.iaload, 1) := by decide +kernel
theorem dX9_isBound_34 : decode cX9_isBound 34 = .ok (.iadd, 1) := by decide +kernel
theorem dX9_isBound_35 : decode cX9_isBound 35 = .ok (.if_icmp .ge 162, 3) := by decide +kernel
theorem dX9_isBound_38 : decode cX9_isBound 38 = .ok (.aload_n 0, 1) := by decide +kernel
theorem dX9_isBound_39 : decode cX9_isBound 39 = .ok (.getfield 79, 3) := by decide +kernel
theorem dX9_isBound_42 : decode cX9_isBound 42 = .ok (.iload 9, 2) := by decide +kernel
theorem dX9_isBound_44 : decode cX9_isBound 44 = .ok (.iaload, 1) := by decide +kernel
theorem dX9_isBound_45 : decode cX9_isBound 45 = .ok (.ifCond .ne 7, 3) := by decide +kernel
theorem dX9_isBound_48 : decode cX9_isBound 48 = .ok (.lload_n 1, 1) := by decide +kernel
theorem dX9_isBound_49 : decode cX9_isBound 49 = .ok (.goto 56, 3) := by decide +kernel
theorem dX9_isBound_52 : decode cX9_isBound 52 = .ok (.aload_n 0, 1) := by decide +kernel
theorem dX9_isBound_53 : decode cX9_isBound 53 = .ok (.getfield 79, 3) := by decide +kernel
theorem dX9_isBound_56 : decode cX9_isBound 56 = .ok (.iload 9, 2) := by decide +kernel
theorem dX9_isBound_58 : decode cX9_isBound 58 = .ok (.iaload, 1) := by decide +kernel
theorem dX9_isBound_59 : decode cX9_isBound 59 = .ok (.iconst 1, 1) := by decide +kernel
theorem dX9_isBound_60 : decode cX9_isBound 60 = .ok (.if_icmp .ne 8, 3) := by decide +kernel
theorem dX9_isBound_63 : decode cX9_isBound 63 = .ok (.iload_n 3, 1) := by decide +kernel
theorem dX9_isBound_64 : decode cX9_isBound 64 = .ok (.i2l, 1) := by decide +kernel
theorem dX9_isBound_65 : decode cX9_isBound 65 = .ok (.goto 40, 3) := by decide +kernel
theorem dX9_isBound_68 : decode cX9_isBound 68 = .ok (.aload_n 0, 1) := by decide +kernel
theorem dX9_isBound_69 : decode cX9_isBound 69 = .ok (.getfield 79, 3) := by decide +kernel
theorem dX9_isBound_72 : decode cX9_isBound 72 = .ok (.iload 9, 2) := by decide +kernel
theorem dX9_isBound_74 : decode cX9_isBound 74 = .ok (.iaload, 1) := by decide +kernel
theorem dX9_isBound_75 : decode cX9_isBound 75 = .ok (.iconst 2, 1) := by decide +kernel
theorem dX9_isBound_76 : decode cX9_isBound 76 = .ok (.if_icmp .ne 9, 3) := by decide +kernel
theorem dX9_isBound_79 : decode cX9_isBound 79 = .ok (.iload 4, 2) := by decide +kernel
theorem dX9_isBound_81 : decode cX9_isBound 81 = .ok (.i2l, 1) := by decide +kernel
theorem dX9_isBound_82 : decode cX9_isBound 82 = .ok (.goto 23, 3) := by decide +kernel
theorem dX9_isBound_85 : decode cX9_isBound 85 = .ok (.aload_n 0, 1) := by decide +kernel
theorem dX9_isBound_86 : decode cX9_isBound 86 = .ok (.getfield 79, 3) := by decide +kernel
theorem dX9_isBound_89 : decode cX9_isBound 89 = .ok (.iload 9, 2) := by decide +kernel
theorem dX9_isBound_91 : decode cX9_isBound 91 = .ok (.iaload, 1) := by decide +kernel
theorem dX9_isBound_92 : decode cX9_isBound 92 = .ok (.iconst 3, 1) := by decide +kernel
theorem dX9_isBound_93 : decode cX9_isBound 93 = .ok (.if_icmp .ne 9, 3) := by decide +kernel
theorem dX9_isBound_96 : decode cX9_isBound 96 = .ok (.iload 5, 2) := by decide +kernel
theorem dX9_isBound_98 : decode cX9_isBound 98 = .ok (.i2l, 1) := by decide +kernel
theorem dX9_isBound_99 : decode cX9_isBound 99 = .ok (.goto 6, 3) := by decide +kernel
theorem dX9_isBound_102 : decode cX9_isBound 102 = .ok (.iload 6, 2) := by decide +kernel
theorem dX9_isBound_104 : decode cX9_isBound 104 = .ok (.i2l, 1) := by decide +kernel
theorem dX9_isBound_105 : decode cX9_isBound 105 = .ok (.lstore 10, 2) := by decide +kernel
theorem dX9_isBound_107 : decode cX9_isBound 107 = .ok (.iload 8, 2) := by decide +kernel
theorem dX9_isBound_109 : decode cX9_isBound 109 = .ok (.ifCond .eq 79, 3) := by decide +kernel
theorem dX9_isBound_112 : decode cX9_isBound 112 = .ok (.aload_n 0, 1) := by decide +kernel
theorem dX9_isBound_113 : decode cX9_isBound 113 = .ok (.getfield 82, 3) := by decide +kernel
theorem dX9_isBound_116 : decode cX9_isBound 116 = .ok (.iload 9, 2) := by decide +kernel
theorem dX9_isBound_118 : decode cX9_isBound 118 = .ok (.iaload, 1) := by decide +kernel
theorem dX9_isBound_119 : decode cX9_isBound 119 = .ok (.bipush 60, 2) := by decide +kernel
theorem dX9_isBound_121 : decode cX9_isBound 121 = .ok (.if_icmp .ne 20, 3) := by decide +kernel
theorem dX9_isBound_124 : decode cX9_isBound 124 = .ok (.lload 10, 2) := by decide +kernel
theorem dX9_isBound_126 : decode cX9_isBound 126 = .ok (.aload_n 0, 1) := by decide +kernel
theorem dX9_isBound_127 : decode cX9_isBound 127 = .ok (.getfield 85, 3) := by decide +kernel
theorem dX9_isBound_130 : decode cX9_isBound 130 = .ok (.iload 9, 2) := by decide +kernel
theorem dX9_isBound_132 : decode cX9_isBound 132 = .ok (.iaload, 1) := by decide +kernel
theorem dX9_isBound_133 : decode cX9_isBound 133 = .ok (.i2l, 1) := by decide +kernel
theorem dX9_isBound_134 : decode cX9_isBound 134 = .ok (.lcmp, 1) := by decide +kernel
theorem dX9_isBound_135 : decode cX9_isBound 135 = .ok (.ifCond .ge 53, 3) := by decide +kernel
theorem dX9_isBound_138 : decode cX9_isBound 138 = .ok (.goto 46, 3) := by decide +kernel
theorem dX9_isBound_141 : decode cX9_isBound 141 = .ok (.aload_n 0, 1) := by decide +kernel
theorem dX9_isBound_142 : decode cX9_isBound 142 = .ok (.getfield 82, 3) := by decide +kernel
theorem dX9_isBound_145 : decode cX9_isBound 145 = .ok (.iload 9, 2) := by decide +kernel
theorem dX9_isBound_147 : decode cX9_isBound 147 = .ok (.iaload, 1) := by decide +kernel
theorem dX9_isBound_148 : decode cX9_isBound 148 = .ok (.bipush 62, 2) := by decide +kernel
theorem dX9_isBound_150 : decode cX9_isBound 150 = .ok (.if_icmp .ne 20, 3) := by decide +kernel
theorem dX9_isBound_153 : decode cX9_isBound 153 = .ok (.lload 10, 2) := by decide +kernel
theorem dX9_isBound_155 : decode cX9_isBound 155 = .ok (.aload_n 0, 1) := by decide +kernel
theorem dX9_isBound_156 : decode cX9_isBound 156 = .ok (.getfield 85, 3) := by decide +kernel
theorem dX9_isBound_159 : decode cX9_isBound 159 = .ok (.iload 9, 2) := by decide +kernel
theorem dX9_isBound_161 : decode cX9_isBound 161 = .ok (.iaload, 1) := by decide +kernel
theorem dX9_isBound_162 : decode cX9_isBound 162 = .ok (.i2l, 1) := by decide +kernel
theorem dX9_isBound_163 : decode cX9_isBound 163 = .ok (.lcmp, 1) := by decide +kernel
theorem dX9_isBound_164 : decode cX9_isBound 164 = .ok (.ifCond .le 24, 3) := by decide +kernel
theorem dX9_isBound_167 : decode cX9_isBound 167 = .ok (.goto 17, 3) := by decide +kernel
theorem dX9_isBound_170 : decode cX9_isBound 170 = .ok (.lload 10, 2) := by decide +kernel
theorem dX9_isBound_172 : decode cX9_isBound 172 = .ok (.aload_n 0, 1) := by decide +kernel
theorem dX9_isBound_173 : decode cX9_isBound 173 = .ok (.getfield 85, 3) := by decide +kernel
theorem dX9_isBound_176 : decode cX9_isBound 176 = .ok (.iload 9, 2) := by decide +kernel
theorem dX9_isBound_178 : decode cX9_isBound 178 = .ok (.iaload, 1) := by decide +kernel
theorem dX9_isBound_179 : decode cX9_isBound 179 = .ok (.i2l, 1) := by decide +kernel
theorem dX9_isBound_180 : decode cX9_isBound 180 = .ok (.lcmp, 1) := by decide +kernel
theorem dX9_isBound_181 : decode cX9_isBound 181 = .ok (.ifCond .ne 7, 3) := by decide +kernel
theorem dX9_isBound_184 : decode cX9_isBound 184 = .ok (.iconst 1, 1) := by decide +kernel
theorem dX9_isBound_185 : decode cX9_isBound 185 = .ok (.goto 4, 3) := by decide +kernel
theorem dX9_isBound_188 : decode cX9_isBound 188 = .ok (.iconst 0, 1) := by decide +kernel
theorem dX9_isBound_189 : decode cX9_isBound 189 = .ok (.istore 8, 2) := by decide +kernel
theorem dX9_isBound_191 : decode cX9_isBound 191 = .ok (.iinc 9 1, 3) := by decide +kernel
theorem dX9_isBound_194 : decode cX9_isBound 194 = .ok (.goto (-173), 3) := by decide +kernel
theorem dX9_isBound_197 : decode cX9_isBound 197 = .ok (.iload 8, 2) := by decide +kernel
theorem dX9_isBound_199 : decode cX9_isBound 199 = .ok (.ifCond .eq 11, 3) := by decide +kernel
theorem dX9_isBound_202 : decode cX9_isBound 202 = .ok (.aload_n 0, 1) := by decide +kernel
theorem dX9_isBound_203 : decode cX9_isBound 203 = .ok (.getfield 73, 3) := by decide +kernel
theorem dX9_isBound_206 : decode cX9_isBound 206 = .ok (.iload 7, 2) := by decide +kernel
theorem dX9_isBound_208 : decode cX9_isBound 208 = .ok (.baload, 1) := by decide +kernel
theorem dX9_isBound_209 : decode cX9_isBound 209 = .ok (.ireturn, 1) := by decide +kernel
theorem dX9_isBound_210 : decode cX9_isBound 210 = .ok (.iinc 7 1, 3) := by decide +kernel
theorem dX9_isBound_213 : decode cX9_isBound 213 = .ok (.goto (-210), 3) := by decide +kernel
theorem dX9_isBound_216 : decode cX9_isBound 216 = .ok (.iconst 1, 1) := by decide +kernel
theorem dX9_isBound_217 : decode cX9_isBound 217 = .ok (.ireturn, 1) := by decide +kernel
set_option maxRecDepth 20000 in
theorem ggX9_binds_X9_finding : GoodIn wsX9_binds wsX9_finding := goodIn_r _ [6, 7, 8, 19, 20, 21, 22, 23, 24, 25, 26, 27, 28, 29, 30, 31, 32, 33, 34, 35, 36, 37, 38, 39, 40, 41, 42, 43, 44, 45, 46, 47, 48, 49, 50, 51, 52, 53, 54, 55, 56, 57, 58, 59, 60, 61, 62, 63, 64, 65, 66, 67, 68, 69, 70, 71, 72, 73] rfl (by decide +kernel)
set_option maxRecDepth 20000 in
theorem gX9_binds_X9_finding : GoodIn wsX9_binds (wsV RX9 154 RX9 yX9_finding wsX9_finding) := goodIn_app (goodIn_of _ (by decide +kernel)) ggX9_binds_X9_finding
set_option maxRecDepth 20000 in
theorem ggX9_binds_X9_isBound : GoodIn wsX9_binds wsX9_isBound := goodIn_r _ [12, 13, 14, 15, 16, 17, 18, 19, 20, 21, 22, 23, 24, 25, 26, 27, 28, 29, 30, 31, 32, 33, 34, 35, 36, 37, 38, 39, 40, 41, 42, 43, 44, 45, 46, 47, 48, 49, 50, 51, 52, 53, 54, 55, 56, 57, 58, 59, 60, 61, 62, 63, 64, 65, 66, 67, 68, 69, 70, 71, 72, 73] rfl (by decide +kernel)
set_option maxRecDepth 20000 in
theorem gX9_binds_X9_isBound : GoodIn wsX9_binds (wsV RX9 213 RX9 yX9_isBound wsX9_isBound) := goodIn_app (goodIn_of _ (by decide +kernel)) ggX9_binds_X9_isBound
theorem dX9_binds_0 : decode cX9_binds 0 = .ok (.iload_n 1, 1) := by decide +kernel
theorem dX9_binds_1 : decode cX9_binds 1 = .ok (.ifCond .lt 21, 3) := by decide +kernel
theorem dX9_binds_4 : decode cX9_binds 4 = .ok (.iload_n 2, 1) := by decide +kernel
theorem dX9_binds_5 : decode cX9_binds 5 = .ok (.ifCond .lt 17, 3) := by decide +kernel
theorem dX9_binds_8 : decode cX9_binds 8 = .ok (.iload_n 3, 1) := by decide +kernel
theorem dX9_binds_9 : decode cX9_binds 9 = .ok (.ifCond .lt 13, 3) := by decide +kernel
theorem dX9_binds_12 : decode cX9_binds 12 = .ok (.iload 4, 2) := by decide +kernel
theorem dX9_binds_14 : decode cX9_binds 14 = .ok (.ifCond .lt 8, 3) := by decide +kernel
theorem dX9_binds_17 : decode cX9_binds 17 = .ok (.iload 5, 2) := by decide +kernel
theorem dX9_binds_19 : decode cX9_binds 19 = .ok (.ifCond .ge 11, 3) := by decide +kernel
theorem dX9_binds_22 : decode cX9_binds 22 = .ok (.aload_n 0, 1) := by decide +kernel
theorem dX9_binds_23 : decode cX9_binds 23 = .ok (.ldc2_w 152, 3) := by decide +kernel
theorem dX9_binds_26 : decode cX9_binds 26 = .ok (.invokevirtual 154, 3) := by decide +kernel
theorem dX9_binds_29 : decode cX9_binds 29 = .ok (.lreturn, 1) := by decide +kernel
theorem dX9_binds_30 : decode cX9_binds 30 = .ok (.aload_n 0, 1) := by decide +kernel
theorem dX9_binds_31 : decode cX9_binds 31 = .ok (.iload_n 1, 1) := by decide +kernel
theorem dX9_binds_32 : decode cX9_binds 32 = .ok (.i2l, 1) := by decide +kernel
theorem dX9_binds_33 : decode cX9_binds 33 = .ok (.iload_n 2, 1) := by decide +kernel
theorem dX9_binds_34 : decode cX9_binds 34 = .ok (.iload_n 3, 1) := by decide +kernel
theorem dX9_binds_35 : decode cX9_binds 35 = .ok (.iload 4, 2) := by decide +kernel
theorem dX9_binds_37 : decode cX9_binds 37 = .ok (.iload 5, 2) := by decide +kernel
theorem dX9_binds_39 : decode cX9_binds 39 = .ok (.invokevirtual 213, 3) := by decide +kernel
theorem dX9_binds_42 : decode cX9_binds 42 = .ok (.ifCond .eq 7, 3) := by decide +kernel
theorem dX9_binds_45 : decode cX9_binds 45 = .ok (.lconst 1, 1) := by decide +kernel
theorem dX9_binds_46 : decode cX9_binds 46 = .ok (.goto 4, 3) := by decide +kernel
theorem dX9_binds_49 : decode cX9_binds 49 = .ok (.lconst 0, 1) := by decide +kernel
theorem dX9_binds_50 : decode cX9_binds 50 = .ok (.lreturn, 1) := by decide +kernel
set_option maxRecDepth 20000 in
theorem ggX9_owe_X9_isHouse : GoodIn wsX9_owe wsX9_isHouse := goodIn_r _ [8, 9, 10, 7, 11] rfl (by decide +kernel)
set_option maxRecDepth 20000 in
theorem gX9_owe_X9_isHouse : GoodIn wsX9_owe (va_wsS RX9 171 yX9_isHouse wsX9_isHouse) := goodIn_app (goodIn_of _ (by decide +kernel)) ggX9_owe_X9_isHouse
set_option maxRecDepth 20000 in
theorem ggX9_owe_X9_in : GoodIn wsX9_owe wsX9_in := goodIn_r _ [11] rfl (by decide +kernel)
set_option maxRecDepth 20000 in
theorem gX9_owe_X9_in : GoodIn wsX9_owe (va_wsS RX9 141 yX9_in wsX9_in) := goodIn_app (goodIn_of _ (by decide +kernel)) ggX9_owe_X9_in
set_option maxRecDepth 20000 in
theorem ggX9_owe_X9_finding : GoodIn wsX9_owe wsX9_finding := goodIn_r _ [15, 16, 17, 32, 33, 34, 35, 36, 37, 38, 39, 40, 41, 42, 43, 44, 45, 46, 47, 48, 49, 50, 51, 52, 53, 54, 55, 56, 57, 58, 59, 60, 61, 62, 63, 64, 65, 66, 67, 68, 69, 70, 71, 72, 73, 74, 75, 76, 77, 78, 79, 80, 81, 82, 83, 84, 85, 86] rfl (by decide +kernel)
set_option maxRecDepth 20000 in
theorem gX9_owe_X9_finding : GoodIn wsX9_owe (wsV RX9 154 RX9 yX9_finding wsX9_finding) := goodIn_app (goodIn_of _ (by decide +kernel)) ggX9_owe_X9_finding
set_option maxRecDepth 20000 in
theorem ggX9_owe_X9_isTooMuch : GoodIn wsX9_owe wsX9_isTooMuch := goodIn_r _ [21, 22, 23, 24, 25, 26, 7, 27, 4, 32, 33, 34, 35, 36, 37, 38, 39, 40, 41, 42, 43, 44, 45, 46, 47, 48, 49, 50, 51, 52, 53, 54, 55, 56, 57, 58, 59, 60, 61, 62, 63, 64, 65, 66, 67, 68, 69, 70, 71, 72, 73, 74, 75, 76, 77, 78, 79, 80, 81, 82, 83, 84, 85, 86] rfl (by decide +kernel)
set_option maxRecDepth 20000 in
theorem gX9_owe_X9_isTooMuch : GoodIn wsX9_owe (wsV RX9 203 RX9 yX9_isTooMuch wsX9_isTooMuch) := goodIn_app (goodIn_of _ (by decide +kernel)) ggX9_owe_X9_isTooMuch
set_option maxRecDepth 20000 in
theorem ggX9_owe_X9_comesToOwe : GoodIn wsX9_owe wsX9_comesToOwe := goodIn_r _ [31, 4, 24, 25, 26, 7, 27, 32, 33, 34, 35, 36, 37, 38, 39, 40, 41, 42, 43, 44, 45, 46, 47, 48, 49, 50, 51, 52, 53, 54, 55, 56, 57, 58, 59, 60, 61, 62, 63, 64, 65, 66, 67, 68, 69, 70, 71, 72, 73, 74, 75, 76, 77, 78, 79, 80, 81, 82, 83, 84, 85, 86] rfl (by decide +kernel)
set_option maxRecDepth 20000 in
theorem gX9_owe_X9_comesToOwe : GoodIn wsX9_owe (wsV RX9 207 RX9 yX9_comesToOwe wsX9_comesToOwe) := goodIn_app (goodIn_of _ (by decide +kernel)) ggX9_owe_X9_comesToOwe
theorem dX9_owe_0 : decode cX9_owe 0 = .ok (.iload_n 1, 1) := by decide +kernel
theorem dX9_owe_1 : decode cX9_owe 1 = .ok (.invokestatic 171, 3) := by decide +kernel
theorem dX9_owe_4 : decode cX9_owe 4 = .ok (.ifCond .eq 26, 3) := by decide +kernel
theorem dX9_owe_7 : decode cX9_owe 7 = .ok (.iload_n 2, 1) := by decide +kernel
theorem dX9_owe_8 : decode cX9_owe 8 = .ok (.invokestatic 171, 3) := by decide +kernel
theorem dX9_owe_11 : decode cX9_owe 11 = .ok (.ifCond .eq 19, 3) := by decide +kernel
theorem dX9_owe_14 : decode cX9_owe 14 = .ok (.iload_n 1, 1) := by decide +kernel
theorem dX9_owe_15 : decode cX9_owe 15 = .ok (.iload_n 2, 1) := by decide +kernel
theorem dX9_owe_16 : decode cX9_owe 16 = .ok (.if_icmp .eq 14, 3) := by decide +kernel
theorem dX9_owe_19 : decode cX9_owe 19 = .ok (.iload_n 3, 1) := by decide +kernel
theorem dX9_owe_20 : decode cX9_owe 20 = .ok (.iconst 1, 1) := by decide +kernel
theorem dX9_owe_21 : decode cX9_owe 21 = .ok (.ldc_w 295, 3) := by decide +kernel
theorem dX9_owe_24 : decode cX9_owe 24 = .ok (.invokestatic 141, 3) := by decide +kernel
theorem dX9_owe_27 : decode cX9_owe 27 = .ok (.ifCond .ne 11, 3) := by decide +kernel
theorem dX9_owe_30 : decode cX9_owe 30 = .ok (.aload_n 0, 1) := by decide +kernel
theorem dX9_owe_31 : decode cX9_owe 31 = .ok (.ldc2_w 152, 3) := by decide +kernel
theorem dX9_owe_34 : decode cX9_owe 34 = .ok (.invokevirtual 154, 3) := by decide +kernel
theorem dX9_owe_37 : decode cX9_owe 37 = .ok (.lreturn, 1) := by decide +kernel
theorem dX9_owe_38 : decode cX9_owe 38 = .ok (.aload_n 0, 1) := by decide +kernel
theorem dX9_owe_39 : decode cX9_owe 39 = .ok (.iload_n 1, 1) := by decide +kernel
theorem dX9_owe_40 : decode cX9_owe 40 = .ok (.iload_n 2, 1) := by decide +kernel
theorem dX9_owe_41 : decode cX9_owe 41 = .ok (.iload_n 3, 1) := by decide +kernel
theorem dX9_owe_42 : decode cX9_owe 42 = .ok (.i2l, 1) := by decide +kernel
theorem dX9_owe_43 : decode cX9_owe 43 = .ok (.invokevirtual 203, 3) := by decide +kernel
theorem dX9_owe_46 : decode cX9_owe 46 = .ok (.ifCond .eq 11, 3) := by decide +kernel
theorem dX9_owe_49 : decode cX9_owe 49 = .ok (.aload_n 0, 1) := by decide +kernel
theorem dX9_owe_50 : decode cX9_owe 50 = .ok (.ldc2_w 169, 3) := by decide +kernel
theorem dX9_owe_53 : decode cX9_owe 53 = .ok (.invokevirtual 154, 3) := by decide +kernel
theorem dX9_owe_56 : decode cX9_owe 56 = .ok (.lreturn, 1) := by decide +kernel
theorem dX9_owe_57 : decode cX9_owe 57 = .ok (.aload_n 0, 1) := by decide +kernel
theorem dX9_owe_58 : decode cX9_owe 58 = .ok (.iload_n 1, 1) := by decide +kernel
theorem dX9_owe_59 : decode cX9_owe 59 = .ok (.iload_n 2, 1) := by decide +kernel
theorem dX9_owe_60 : decode cX9_owe 60 = .ok (.iload_n 3, 1) := by decide +kernel
theorem dX9_owe_61 : decode cX9_owe 61 = .ok (.i2l, 1) := by decide +kernel
theorem dX9_owe_62 : decode cX9_owe 62 = .ok (.invokevirtual 207, 3) := by decide +kernel
theorem dX9_owe_65 : decode cX9_owe 65 = .ok (.aload_n 0, 1) := by decide +kernel
theorem dX9_owe_66 : decode cX9_owe 66 = .ok (.getfield 52, 3) := by decide +kernel
theorem dX9_owe_69 : decode cX9_owe 69 = .ok (.bipush 10, 2) := by decide +kernel
theorem dX9_owe_71 : decode cX9_owe 71 = .ok (.iload_n 1, 1) := by decide +kernel
theorem dX9_owe_72 : decode cX9_owe 72 = .ok (.imul, 1) := by decide +kernel
theorem dX9_owe_73 : decode cX9_owe 73 = .ok (.iload_n 2, 1) := by decide +kernel
theorem dX9_owe_74 : decode cX9_owe 74 = .ok (.iadd, 1) := by decide +kernel
theorem dX9_owe_75 : decode cX9_owe 75 = .ok (.laload, 1) := by decide +kernel
theorem dX9_owe_76 : decode cX9_owe 76 = .ok (.lreturn, 1) := by decide +kernel
set_option maxRecDepth 20000 in
theorem ggX9_owes_X9_isHouse : GoodIn wsX9_owes wsX9_isHouse := goodIn_r _ [6, 7, 8, 5, 9] rfl (by decide +kernel)
set_option maxRecDepth 20000 in
theorem gX9_owes_X9_isHouse : GoodIn wsX9_owes (va_wsS RX9 171 yX9_isHouse wsX9_isHouse) := goodIn_app (goodIn_of _ (by decide +kernel)) ggX9_owes_X9_isHouse
set_option maxRecDepth 20000 in
theorem ggX9_owes_X9_finding : GoodIn wsX9_owes wsX9_finding := goodIn_r _ [13, 14, 15, 16, 17, 18, 19, 20, 21, 22, 23, 24, 25, 26, 27, 28, 29, 30, 31, 32, 33, 34, 35, 36, 37, 38, 39, 40, 41, 42, 43, 44, 45, 46, 47, 48, 49, 50, 51, 52, 53, 54, 55, 56, 57, 58, 59, 60, 61, 62, 63, 64, 65, 66, 67, 68, 69, 70] rfl (by decide +kernel)
set_option maxRecDepth 20000 in
theorem gX9_owes_X9_finding : GoodIn wsX9_owes (wsV RX9 154 RX9 yX9_finding wsX9_finding) := goodIn_app (goodIn_of _ (by decide +kernel)) ggX9_owes_X9_finding
theorem dX9_owes_0 : decode cX9_owes 0 = .ok (.iload_n 1, 1) := by decide +kernel
theorem dX9_owes_1 : decode cX9_owes 1 = .ok (.invokestatic 171, 3) := by decide +kernel
theorem dX9_owes_4 : decode cX9_owes 4 = .ok (.ifCond .eq 29, 3) := by decide +kernel
theorem dX9_owes_7 : decode cX9_owes 7 = .ok (.iload_n 2, 1) := by decide +kernel
theorem dX9_owes_8 : decode cX9_owes 8 = .ok (.invokestatic 171, 3) := by decide +kernel
theorem dX9_owes_11 : decode cX9_owes 11 = .ok (.ifCond .eq 22, 3) := by decide +kernel
theorem dX9_owes_14 : decode cX9_owes 14 = .ok (.iload_n 1, 1) := by decide +kernel
theorem dX9_owes_15 : decode cX9_owes 15 = .ok (.iload_n 2, 1) := by decide +kernel
theorem dX9_owes_16 : decode cX9_owes 16 = .ok (.if_icmp .eq 17, 3) := by decide +kernel
theorem dX9_owes_19 : decode cX9_owes 19 = .ok (.aload_n 0, 1) := by decide +kernel
theorem dX9_owes_20 : decode cX9_owes 20 = .ok (.getfield 52, 3) := by decide +kernel
theorem dX9_owes_23 : decode cX9_owes 23 = .ok (.bipush 10, 2) := by decide +kernel
theorem dX9_owes_25 : decode cX9_owes 25 = .ok (.iload_n 1, 1) := by decide +kernel
theorem dX9_owes_26 : decode cX9_owes 26 = .ok (.imul, 1) := by decide +kernel
theorem dX9_owes_27 : decode cX9_owes 27 = .ok (.iload_n 2, 1) := by decide +kernel
theorem dX9_owes_28 : decode cX9_owes 28 = .ok (.iadd, 1) := by decide +kernel
theorem dX9_owes_29 : decode cX9_owes 29 = .ok (.laload, 1) := by decide +kernel
theorem dX9_owes_30 : decode cX9_owes 30 = .ok (.goto 10, 3) := by decide +kernel
theorem dX9_owes_33 : decode cX9_owes 33 = .ok (.aload_n 0, 1) := by decide +kernel
theorem dX9_owes_34 : decode cX9_owes 34 = .ok (.ldc2_w 152, 3) := by decide +kernel
theorem dX9_owes_37 : decode cX9_owes 37 = .ok (.invokevirtual 154, 3) := by decide +kernel
theorem dX9_owes_40 : decode cX9_owes 40 = .ok (.lreturn, 1) := by decide +kernel
theorem dX9_netOf_0 : decode cX9_netOf 0 = .ok (.lconst 0, 1) := by decide +kernel
theorem dX9_netOf_1 : decode cX9_netOf 1 = .ok (.lstore_n 2, 1) := by decide +kernel
theorem dX9_netOf_2 : decode cX9_netOf 2 = .ok (.iconst 0, 1) := by decide +kernel
theorem dX9_netOf_3 : decode cX9_netOf 3 = .ok (.istore 4, 2) := by decide +kernel
theorem dX9_netOf_5 : decode cX9_netOf 5 = .ok (.iload 4, 2) := by decide +kernel
theorem dX9_netOf_7 : decode cX9_netOf 7 = .ok (.bipush 10, 2) := by decide +kernel
theorem dX9_netOf_9 : decode cX9_netOf 9 = .ok (.if_icmp .ge 37, 3) := by decide +kernel
theorem dX9_netOf_12 : decode cX9_netOf 12 = .ok (.lload_n 2, 1) := by decide +kernel
theorem dX9_netOf_13 : decode cX9_netOf 13 = .ok (.aload_n 0, 1) := by decide +kernel
theorem dX9_netOf_14 : decode cX9_netOf 14 = .ok (.getfield 52, 3) := by decide +kernel
theorem dX9_netOf_17 : decode cX9_netOf 17 = .ok (.bipush 10, 2) := by decide +kernel
theorem dX9_netOf_19 : decode cX9_netOf 19 = .ok (.iload 4, 2) := by decide +kernel
theorem dX9_netOf_21 : decode cX9_netOf 21 = .ok (.imul, 1) := by decide +kernel
theorem dX9_netOf_22 : decode cX9_netOf 22 = .ok (.iload_n 1, 1) := by decide +kernel
theorem dX9_netOf_23 : decode cX9_netOf 23 = .ok (.iadd, 1) := by decide +kernel
theorem dX9_netOf_24 : decode cX9_netOf 24 = .ok (.laload, 1) := by decide +kernel
theorem dX9_netOf_25 : decode cX9_netOf 25 = .ok (.aload_n 0, 1) := by decide +kernel
theorem dX9_netOf_26 : decode cX9_netOf 26 = .ok (.getfield 52, 3) := by decide +kernel
theorem dX9_netOf_29 : decode cX9_netOf 29 = .ok (.bipush 10, 2) := by decide +kernel
theorem dX9_netOf_31 : decode cX9_netOf 31 = .ok (.iload_n 1, 1) := by decide +kernel
theorem dX9_netOf_32 : decode cX9_netOf 32 = .ok (.imul, 1) := by decide +kernel
theorem dX9_netOf_33 : decode cX9_netOf 33 = .ok (.iload 4, 2) := by decide +kernel
theorem dX9_netOf_35 : decode cX9_netOf 35 = .ok (.iadd, 1) := by decide +kernel
theorem dX9_netOf_36 : decode cX9_netOf 36 = .ok (.laload, 1) := by decide +kernel
theorem dX9_netOf_37 : decode cX9_netOf 37 = .ok (.lsub, 1) := by decide +kernel
theorem dX9_netOf_38 : decode cX9_netOf 38 = .ok (.ladd, 1) := by decide +kernel
theorem dX9_netOf_39 : decode cX9_netOf 39 = .ok (.lstore_n 2, 1) := by decide +kernel
theorem dX9_netOf_40 : decode cX9_netOf 40 = .ok (.iinc 4 1, 3) := by decide +kernel
theorem dX9_netOf_43 : decode cX9_netOf 43 = .ok (.goto (-38), 3) := by decide +kernel
theorem dX9_netOf_46 : decode cX9_netOf 46 = .ok (.lload_n 2, 1) := by decide +kernel
theorem dX9_netOf_47 : decode cX9_netOf 47 = .ok (.lreturn, 1) := by decide +kernel
set_option maxRecDepth 20000 in
theorem ggX9_net_X9_isHouse : GoodIn wsX9_net wsX9_isHouse := goodIn_r _ [5, 6, 7, 4, 8] rfl (by decide +kernel)
set_option maxRecDepth 20000 in
theorem gX9_net_X9_isHouse : GoodIn wsX9_net (va_wsS RX9 171 yX9_isHouse wsX9_isHouse) := goodIn_app (goodIn_of _ (by decide +kernel)) ggX9_net_X9_isHouse
set_option maxRecDepth 20000 in
theorem ggX9_net_X9_netOf : GoodIn wsX9_net wsX9_netOf := goodIn_r _ [12, 13, 20, 21, 22, 23, 24, 25, 26, 27, 28, 29, 30, 31, 32, 33, 34, 35, 36, 37, 38, 39, 40, 41, 42, 43, 44, 45, 46, 47, 48, 49, 50, 51, 52, 53, 54, 55, 56, 57, 58, 59, 60, 61, 62, 63, 64, 65, 66, 67, 68, 69, 70, 71, 72, 73, 74] rfl (by decide +kernel)
set_option maxRecDepth 20000 in
theorem gX9_net_X9_netOf : GoodIn wsX9_net (wsV RX9 296 RX9 yX9_netOf wsX9_netOf) := goodIn_app (goodIn_of _ (by decide +kernel)) ggX9_net_X9_netOf
set_option maxRecDepth 20000 in
theorem ggX9_net_X9_finding : GoodIn wsX9_net wsX9_finding := goodIn_r _ [17, 18, 19, 20, 21, 22, 23, 24, 25, 26, 27, 28, 29, 30, 31, 32, 33, 34, 35, 36, 37, 38, 39, 40, 41, 42, 43, 44, 45, 46, 47, 48, 49, 50, 51, 52, 53, 54, 55, 56, 57, 58, 59, 60, 61, 62, 63, 64, 65, 66, 67, 68, 69, 70, 71, 72, 73, 74] rfl (by decide +kernel)
set_option maxRecDepth 20000 in
theorem gX9_net_X9_finding : GoodIn wsX9_net (wsV RX9 154 RX9 yX9_finding wsX9_finding) := goodIn_app (goodIn_of _ (by decide +kernel)) ggX9_net_X9_finding
theorem dX9_net_0 : decode cX9_net 0 = .ok (.iload_n 1, 1) := by decide +kernel
theorem dX9_net_1 : decode cX9_net 1 = .ok (.invokestatic 171, 3) := by decide +kernel
theorem dX9_net_4 : decode cX9_net 4 = .ok (.ifCond .eq 11, 3) := by decide +kernel
theorem dX9_net_7 : decode cX9_net 7 = .ok (.aload_n 0, 1) := by decide +kernel
theorem dX9_net_8 : decode cX9_net 8 = .ok (.iload_n 1, 1) := by decide +kernel
theorem dX9_net_9 : decode cX9_net 9 = .ok (.invokevirtual 296, 3) := by decide +kernel
theorem dX9_net_12 : decode cX9_net 12 = .ok (.goto 10, 3) := by decide +kernel
theorem dX9_net_15 : decode cX9_net 15 = .ok (.aload_n 0, 1) := by decide +kernel
theorem dX9_net_16 : decode cX9_net 16 = .ok (.ldc2_w 152, 3) := by decide +kernel
theorem dX9_net_19 : decode cX9_net 19 = .ok (.invokevirtual 154, 3) := by decide +kernel
theorem dX9_net_22 : decode cX9_net 22 = .ok (.lreturn, 1) := by decide +kernel
theorem dX9_findMost_0 : decode cX9_findMost 0 = .ok (.iconst 0, 1) := by decide +kernel
theorem dX9_findMost_1 : decode cX9_findMost 1 = .ok (.istore_n 1, 1) := by decide +kernel
theorem dX9_findMost_2 : decode cX9_findMost 2 = .ok (.iload_n 1, 1) := by decide +kernel
theorem dX9_findMost_3 : decode cX9_findMost 3 = .ok (.sipush 1024, 3) := by decide +kernel
theorem dX9_findMost_6 : decode cX9_findMost 6 = .ok (.if_icmp .ge 58, 3) := by decide +kernel
theorem dX9_findMost_9 : decode cX9_findMost 9 = .ok (.aload_n 0, 1) := by decide +kernel
theorem dX9_findMost_10 : decode cX9_findMost 10 = .ok (.getfield 112, 3) := by decide +kernel
theorem dX9_findMost_13 : decode cX9_findMost 13 = .ok (.iload_n 1, 1) := by decide +kernel
theorem dX9_findMost_14 : decode cX9_findMost 14 = .ok (.lconst 0, 1) := by decide +kernel
theorem dX9_findMost_15 : decode cX9_findMost 15 = .ok (.lastore, 1) := by decide +kernel
theorem dX9_findMost_16 : decode cX9_findMost 16 = .ok (.iconst 0, 1) := by decide +kernel
theorem dX9_findMost_17 : decode cX9_findMost 17 = .ok (.istore_n 2, 1) := by decide +kernel
theorem dX9_findMost_18 : decode cX9_findMost 18 = .ok (.iload_n 2, 1) := by decide +kernel
theorem dX9_findMost_19 : decode cX9_findMost 19 = .ok (.bipush 10, 2) := by decide +kernel
theorem dX9_findMost_21 : decode cX9_findMost 21 = .ok (.if_icmp .ge 37, 3) := by decide +kernel
theorem dX9_findMost_24 : decode cX9_findMost 24 = .ok (.aload_n 0, 1) := by decide +kernel
theorem dX9_findMost_25 : decode cX9_findMost 25 = .ok (.getfield 112, 3) := by decide +kernel
theorem dX9_findMost_28 : decode cX9_findMost 28 = .ok (.iload_n 1, 1) := by decide +kernel
theorem dX9_findMost_29 : decode cX9_findMost 29 = .ok (.dup2, 1) := by decide +kernel
theorem dX9_findMost_30 : decode cX9_findMost 30 = .ok (.laload, 1) := by decide +kernel
theorem dX9_findMost_31 : decode cX9_findMost 31 = .ok (.iload_n 1, 1) := by decide +kernel
theorem dX9_findMost_32 : decode cX9_findMost 32 = .ok (.iload_n 2, 1) := by decide +kernel
theorem dX9_findMost_33 : decode cX9_findMost 33 = .ok (.ishr, 1) := by decide +kernel
theorem dX9_findMost_34 : decode cX9_findMost 34 = .ok (.iconst 1, 1) := by decide +kernel
theorem dX9_findMost_35 : decode cX9_findMost 35 = .ok (.iand, 1) := by decide +kernel
theorem dX9_findMost_36 : decode cX9_findMost 36 = .ok (.iconst 1, 1) := by decide +kernel
theorem dX9_findMost_37 : decode cX9_findMost 37 = .ok (.if_icmp .ne 12, 3) := by decide +kernel
theorem dX9_findMost_40 : decode cX9_findMost 40 = .ok (.aload_n 0, 1) := by decide +kernel
theorem dX9_findMost_41 : decode cX9_findMost 41 = .ok (.getfield 130, 3) := by decide +kernel
theorem dX9_findMost_44 : decode cX9_findMost 44 = .ok (.iload_n 2, 1) := by decide +kernel
theorem dX9_findMost_45 : decode cX9_findMost 45 = .ok (.laload, 1) := by decide +kernel
theorem dX9_findMost_46 : decode cX9_findMost 46 = .ok (.goto 4, 3) := by decide +kernel
theorem dX9_findMost_49 : decode cX9_findMost 49 = .ok (.lconst 0, 1) := by decide +kernel
theorem dX9_findMost_50 : decode cX9_findMost 50 = .ok (.ladd, 1) := by decide +kernel
theorem dX9_findMost_51 : decode cX9_findMost 51 = .ok (.lastore, 1) := by decide +kernel
theorem dX9_findMost_52 : decode cX9_findMost 52 = .ok (.iinc 2 1, 3) := by decide +kernel
theorem dX9_findMost_55 : decode cX9_findMost 55 = .ok (.goto (-37), 3) := by decide +kernel
theorem dX9_findMost_58 : decode cX9_findMost 58 = .ok (.iinc 1 1, 3) := by decide +kernel
theorem dX9_findMost_61 : decode cX9_findMost 61 = .ok (.goto (-59), 3) := by decide +kernel
theorem dX9_findMost_64 : decode cX9_findMost 64 = .ok (.aload_n 0, 1) := by decide +kernel
theorem dX9_findMost_65 : decode cX9_findMost 65 = .ok (.getfield 115, 3) := by decide +kernel
theorem dX9_findMost_68 : decode cX9_findMost 68 = .ok (.iconst 0, 1) := by decide +kernel
theorem dX9_findMost_69 : decode cX9_findMost 69 = .ok (.iconst 0, 1) := by decide +kernel
theorem dX9_findMost_70 : decode cX9_findMost 70 = .ok (.iastore, 1) := by decide +kernel
theorem dX9_findMost_71 : decode cX9_findMost 71 = .ok (.iconst 1, 1) := by decide +kernel
theorem dX9_findMost_72 : decode cX9_findMost 72 = .ok (.istore_n 1, 1) := by decide +kernel
theorem dX9_findMost_73 : decode cX9_findMost 73 = .ok (.iload_n 1, 1) := by decide +kernel
theorem dX9_findMost_74 : decode cX9_findMost 74 = .ok (.sipush 1024, 3) := by decide +kernel
theorem dX9_findMost_77 : decode cX9_findMost 77 = .ok (.if_icmp .ge 99, 3) := by decide +kernel
theorem dX9_findMost_80 : decode cX9_findMost 80 = .ok (.aload_n 0, 1) := by decide +kernel
theorem dX9_findMost_81 : decode cX9_findMost 81 = .ok (.getfield 115, 3) := by decide +kernel
theorem dX9_findMost_84 : decode cX9_findMost 84 = .ok (.iload_n 1, 1) := by decide +kernel
theorem dX9_findMost_85 : decode cX9_findMost 85 = .ok (.iconst (-1), 1) := by decide +kernel
theorem dX9_findMost_86 : decode cX9_findMost 86 = .ok (.iastore, 1) := by decide +kernel
theorem dX9_findMost_87 : decode cX9_findMost 87 = .ok (.iload_n 1, 1) := by decide +kernel
theorem dX9_findMost_88 : decode cX9_findMost 88 = .ok (.iload_n 1, 1) := by decide +kernel
theorem dX9_findMost_89 : decode cX9_findMost 89 = .ok (.ineg, 1) := by decide +kernel
theorem dX9_findMost_90 : decode cX9_findMost 90 = .ok (.iand, 1) := by decide +kernel
theorem dX9_findMost_91 : decode cX9_findMost 91 = .ok (.istore_n 2, 1) := by decide +kernel
theorem dX9_findMost_92 : decode cX9_findMost 92 = .ok (.iload_n 1, 1) := by decide +kernel
theorem dX9_findMost_93 : decode cX9_findMost 93 = .ok (.istore_n 3, 1) := by decide +kernel
theorem dX9_findMost_94 : decode cX9_findMost 94 = .ok (.iload_n 3, 1) := by decide +kernel
theorem dX9_findMost_95 : decode cX9_findMost 95 = .ok (.ifCond .le 75, 3) := by decide +kernel
theorem dX9_findMost_98 : decode cX9_findMost 98 = .ok (.iload_n 3, 1) := by decide +kernel
theorem dX9_findMost_99 : decode cX9_findMost 99 = .ok (.iload_n 2, 1) := by decide +kernel
theorem dX9_findMost_100 : decode cX9_findMost 100 = .ok (.iand, 1) := by decide +kernel
theorem dX9_findMost_101 : decode cX9_findMost 101 = .ok (.ifCond .eq 60, 3) := by decide +kernel
theorem dX9_findMost_104 : decode cX9_findMost 104 = .ok (.aload_n 0, 1) := by decide +kernel
theorem dX9_findMost_105 : decode cX9_findMost 105 = .ok (.getfield 112, 3) := by decide +kernel
theorem dX9_findMost_108 : decode cX9_findMost 108 = .ok (.iload_n 3, 1) := by decide +kernel
theorem dX9_findMost_109 : decode cX9_findMost 109 = .ok (.laload, 1) := by decide +kernel
theorem dX9_findMost_110 : decode cX9_findMost 110 = .ok (.lconst 0, 1) := by decide +kernel
theorem dX9_findMost_111 : decode cX9_findMost 111 = .ok (.lcmp, 1) := by decide +kernel
theorem dX9_findMost_112 : decode cX9_findMost 112 = .ok (.ifCond .ne 49, 3) := by decide +kernel
theorem dX9_findMost_115 : decode cX9_findMost 115 = .ok (.aload_n 0, 1) := by decide +kernel
theorem dX9_findMost_116 : decode cX9_findMost 116 = .ok (.getfield 115, 3) := by decide +kernel
theorem dX9_findMost_119 : decode cX9_findMost 119 = .ok (.iload_n 1, 1) := by decide +kernel
theorem dX9_findMost_120 : decode cX9_findMost 120 = .ok (.iload_n 3, 1) := by decide +kernel
theorem dX9_findMost_121 : decode cX9_findMost 121 = .ok (.ixor, 1) := by decide +kernel
theorem dX9_findMost_122 : decode cX9_findMost 122 = .ok (.iaload, 1) := by decide +kernel
theorem dX9_findMost_123 : decode cX9_findMost 123 = .ok (.ifCond .lt 38, 3) := by decide +kernel
theorem dX9_findMost_126 : decode cX9_findMost 126 = .ok (.aload_n 0, 1) := by decide +kernel
theorem dX9_findMost_127 : decode cX9_findMost 127 = .ok (.getfield 115, 3) := by decide +kernel
theorem dX9_findMost_130 : decode cX9_findMost 130 = .ok (.iload_n 1, 1) := by decide +kernel
theorem dX9_findMost_131 : decode cX9_findMost 131 = .ok (.iload_n 3, 1) := by decide +kernel
theorem dX9_findMost_132 : decode cX9_findMost 132 = .ok (.ixor, 1) := by decide +kernel
theorem dX9_findMost_133 : decode cX9_findMost 133 = .ok (.iaload, 1) := by decide +kernel
theorem dX9_findMost_134 : decode cX9_findMost 134 = .ok (.iconst 1, 1) := by decide +kernel
theorem dX9_findMost_135 : decode cX9_findMost 135 = .ok (.iadd, 1) := by decide +kernel
theorem dX9_findMost_136 : decode cX9_findMost 136 = .ok (.aload_n 0, 1) := by decide +kernel
theorem dX9_findMost_137 : decode cX9_findMost 137 = .ok (.getfield 115, 3) := by decide +kernel
theorem dX9_findMost_140 : decode cX9_findMost 140 = .ok (.iload_n 1, 1) := by decide +kernel
theorem dX9_findMost_141 : decode cX9_findMost 141 = .ok (.iaload, 1) := by decide +kernel
theorem dX9_findMost_142 : decode cX9_findMost 142 = .ok (.if_icmp .le 19, 3) := by decide +kernel
theorem dX9_findMost_145 : decode cX9_findMost 145 = .ok (.aload_n 0, 1) := by decide +kernel
theorem dX9_findMost_146 : decode cX9_findMost 146 = .ok (.getfield 115, 3) := by decide +kernel
theorem dX9_findMost_149 : decode cX9_findMost 149 = .ok (.iload_n 1, 1) := by decide +kernel
theorem dX9_findMost_150 : decode cX9_findMost 150 = .ok (.aload_n 0, 1) := by decide +kernel
theorem dX9_findMost_151 : decode cX9_findMost 151 = .ok (.getfield 115, 3) := by decide +kernel
theorem dX9_findMost_154 : decode cX9_findMost 154 = .ok (.iload_n 1, 1) := by decide +kernel
theorem dX9_findMost_155 : decode cX9_findMost 155 = .ok (.iload_n 3, 1) := by decide +kernel
theorem dX9_findMost_156 : decode cX9_findMost 156 = .ok (.ixor, 1) := by decide +kernel
theorem dX9_findMost_157 : decode cX9_findMost 157 = .ok (.iaload, 1) := by decide +kernel
theorem dX9_findMost_158 : decode cX9_findMost 158 = .ok (.iconst 1, 1) := by decide +kernel
theorem dX9_findMost_159 : decode cX9_findMost 159 = .ok (.iadd, 1) := by decide +kernel
theorem dX9_findMost_160 : decode cX9_findMost 160 = .ok (.iastore, 1) := by decide +kernel
theorem dX9_findMost_161 : decode cX9_findMost 161 = .ok (.iload_n 3, 1) := by decide +kernel
theorem dX9_findMost_162 : decode cX9_findMost 162 = .ok (.iconst 1, 1) := by decide +kernel
theorem dX9_findMost_163 : decode cX9_findMost 163 = .ok (.isub, 1) := by decide +kernel
theorem dX9_findMost_164 : decode cX9_findMost 164 = .ok (.iload_n 1, 1) := by decide +kernel
theorem dX9_findMost_165 : decode cX9_findMost 165 = .ok (.iand, 1) := by decide +kernel
theorem dX9_findMost_166 : decode cX9_findMost 166 = .ok (.istore_n 3, 1) := by decide +kernel
theorem dX9_findMost_167 : decode cX9_findMost 167 = .ok (.goto (-73), 3) := by decide +kernel
theorem dX9_findMost_170 : decode cX9_findMost 170 = .ok (.iinc 1 1, 3) := by decide +kernel
theorem dX9_findMost_173 : decode cX9_findMost 173 = .ok (.goto (-100), 3) := by decide +kernel
theorem dX9_findMost_176 : decode cX9_findMost 176 = .ok (.return_, 1) := by decide +kernel
set_option maxRecDepth 20000 in
theorem ggX9_findPlan_X9_netOf : GoodIn wsX9_findPlan wsX9_netOf := goodIn_r _ [11, 12, 32, 33, 34, 35, 36, 37, 38, 39, 40, 41, 42, 43, 44, 45, 46, 47, 48, 49, 50, 51, 52, 53, 54, 55, 56, 57, 58, 59, 60, 61, 62, 63, 64, 65, 66, 67, 68, 69, 70, 71, 72, 73, 74, 75, 76, 77, 78, 79, 80, 81, 82, 83, 84, 85, 86] rfl (by decide +kernel)
set_option maxRecDepth 20000 in
theorem gX9_findPlan_X9_netOf : GoodIn wsX9_findPlan (wsV RX9 296 RX9 yX9_netOf wsX9_netOf) := goodIn_app (goodIn_of _ (by decide +kernel)) ggX9_findPlan_X9_netOf
set_option maxRecDepth 20000 in
theorem ggX9_findPlan_X9_findMost : GoodIn wsX9_findPlan wsX9_findMost := goodIn_r _ [16, 4, 1, 5, 32, 33, 34, 35, 36, 37, 38, 39, 40, 41, 42, 43, 44, 45, 46, 47, 48, 49, 50, 51, 52, 53, 54, 55, 56, 57, 58, 59, 60, 61, 62, 63, 64, 65, 66, 67, 68, 69, 70, 71, 72, 73, 74, 75, 76, 77, 78, 79, 80, 81, 82, 83, 84, 85, 86] rfl (by decide +kernel)
set_option maxRecDepth 20000 in
theorem gX9_findPlan_X9_findMost : GoodIn wsX9_findPlan (wsV RX9 300 RX9 yX9_findMost wsX9_findMost) := goodIn_app (goodIn_of _ (by decide +kernel)) ggX9_findPlan_X9_findMost
set_option maxRecDepth 20000 in
theorem ggX9_findPlan_X9_payOut : GoodIn wsX9_findPlan wsX9_payOut := goodIn_r _ [20, 1, 21, 22, 23, 24, 25, 3, 26, 27, 28, 29, 30, 10, 31, 32, 33, 34, 35, 36, 37, 38, 39, 40, 41, 42, 43, 44, 45, 46, 47, 48, 49, 50, 51, 52, 53, 54, 55, 56, 57, 58, 59, 60, 61, 62, 63, 64, 65, 66, 67, 68, 69, 70, 71, 72, 73, 74, 75, 76, 77, 78, 79, 80, 81, 82, 83, 84, 85, 86] rfl (by decide +kernel)
set_option maxRecDepth 20000 in
theorem gX9_findPlan_X9_payOut : GoodIn wsX9_findPlan (wsV RX9 309 RX9 yX9_payOut wsX9_payOut) := goodIn_app (goodIn_of _ (by decide +kernel)) ggX9_findPlan_X9_payOut
theorem dX9_findPlan_0 : decode cX9_findPlan 0 = .ok (.iconst 0, 1) := by decide +kernel
theorem dX9_findPlan_1 : decode cX9_findPlan 1 = .ok (.istore_n 1, 1) := by decide +kernel
theorem dX9_findPlan_2 : decode cX9_findPlan 2 = .ok (.iconst 0, 1) := by decide +kernel
theorem dX9_findPlan_3 : decode cX9_findPlan 3 = .ok (.istore_n 2, 1) := by decide +kernel
theorem dX9_findPlan_4 : decode cX9_findPlan 4 = .ok (.iload_n 2, 1) := by decide +kernel
theorem dX9_findPlan_5 : decode cX9_findPlan 5 = .ok (.bipush 10, 2) := by decide +kernel
theorem dX9_findPlan_7 : decode cX9_findPlan 7 = .ok (.if_icmp .ge 41, 3) := by decide +kernel
theorem dX9_findPlan_10 : decode cX9_findPlan 10 = .ok (.aload_n 0, 1) := by decide +kernel
theorem dX9_findPlan_11 : decode cX9_findPlan 11 = .ok (.getfield 130, 3) := by decide +kernel
theorem dX9_findPlan_14 : decode cX9_findPlan 14 = .ok (.iload_n 2, 1) := by decide +kernel
theorem dX9_findPlan_15 : decode cX9_findPlan 15 = .ok (.aload_n 0, 1) := by decide +kernel
theorem dX9_findPlan_16 : decode cX9_findPlan 16 = .ok (.iload_n 2, 1) := by decide +kernel
theorem dX9_findPlan_17 : decode cX9_findPlan 17 = .ok (.invokevirtual 296, 3) := by decide +kernel
theorem dX9_findPlan_20 : decode cX9_findPlan 20 = .ok (.lastore, 1) := by decide +kernel
theorem dX9_findPlan_21 : decode cX9_findPlan 21 = .ok (.iload_n 1, 1) := by decide +kernel
theorem dX9_findPlan_22 : decode cX9_findPlan 22 = .ok (.aload_n 0, 1) := by decide +kernel
theorem dX9_findPlan_23 : decode cX9_findPlan 23 = .ok (.getfield 130, 3) := by decide +kernel
theorem dX9_findPlan_26 : decode cX9_findPlan 26 = .ok (.iload_n 2, 1) := by decide +kernel
theorem dX9_findPlan_27 : decode cX9_findPlan 27 = .ok (.laload, 1) := by decide +kernel
theorem dX9_findPlan_28 : decode cX9_findPlan 28 = .ok (.lconst 0, 1) := by decide +kernel
theorem dX9_findPlan_29 : decode cX9_findPlan 29 = .ok (.lcmp, 1) := by decide +kernel
theorem dX9_findPlan_30 : decode cX9_findPlan 30 = .ok (.ifCond .eq 9, 3) := by decide +kernel
theorem dX9_findPlan_33 : decode cX9_findPlan 33 = .ok (.iconst 1, 1) := by decide +kernel
theorem dX9_findPlan_34 : decode cX9_findPlan 34 = .ok (.iload_n 2, 1) := by decide +kernel
theorem dX9_findPlan_35 : decode cX9_findPlan 35 = .ok (.ishl, 1) := by decide +kernel
theorem dX9_findPlan_36 : decode cX9_findPlan 36 = .ok (.goto 4, 3) := by decide +kernel
theorem dX9_findPlan_39 : decode cX9_findPlan 39 = .ok (.iconst 0, 1) := by decide +kernel
theorem dX9_findPlan_40 : decode cX9_findPlan 40 = .ok (.ior, 1) := by decide +kernel
theorem dX9_findPlan_41 : decode cX9_findPlan 41 = .ok (.istore_n 1, 1) := by decide +kernel
theorem dX9_findPlan_42 : decode cX9_findPlan 42 = .ok (.iinc 2 1, 3) := by decide +kernel
theorem dX9_findPlan_45 : decode cX9_findPlan 45 = .ok (.goto (-41), 3) := by decide +kernel
theorem dX9_findPlan_48 : decode cX9_findPlan 48 = .ok (.aload_n 0, 1) := by decide +kernel
theorem dX9_findPlan_49 : decode cX9_findPlan 49 = .ok (.invokevirtual 300, 3) := by decide +kernel
theorem dX9_findPlan_52 : decode cX9_findPlan 52 = .ok (.aload_n 0, 1) := by decide +kernel
theorem dX9_findPlan_53 : decode cX9_findPlan 53 = .ok (.iconst 0, 1) := by decide +kernel
theorem dX9_findPlan_54 : decode cX9_findPlan 54 = .ok (.putfield 303, 3) := by decide +kernel
theorem dX9_findPlan_57 : decode cX9_findPlan 57 = .ok (.aload_n 0, 1) := by decide +kernel
theorem dX9_findPlan_58 : decode cX9_findPlan 58 = .ok (.iconst 0, 1) := by decide +kernel
theorem dX9_findPlan_59 : decode cX9_findPlan 59 = .ok (.putfield 306, 3) := by decide +kernel
theorem dX9_findPlan_62 : decode cX9_findPlan 62 = .ok (.iload_n 1, 1) := by decide +kernel
theorem dX9_findPlan_63 : decode cX9_findPlan 63 = .ok (.ifCond .eq 85, 3) := by decide +kernel
theorem dX9_findPlan_66 : decode cX9_findPlan 66 = .ok (.iconst 1, 1) := by decide +kernel
theorem dX9_findPlan_67 : decode cX9_findPlan 67 = .ok (.istore_n 2, 1) := by decide +kernel
theorem dX9_findPlan_68 : decode cX9_findPlan 68 = .ok (.iload_n 2, 1) := by decide +kernel
theorem dX9_findPlan_69 : decode cX9_findPlan 69 = .ok (.iload_n 1, 1) := by decide +kernel
theorem dX9_findPlan_70 : decode cX9_findPlan 70 = .ok (.iconst (-1), 1) := by decide +kernel
theorem dX9_findPlan_71 : decode cX9_findPlan 71 = .ok (.ixor, 1) := by decide +kernel
theorem dX9_findPlan_72 : decode cX9_findPlan 72 = .ok (.iand, 1) := by decide +kernel
theorem dX9_findPlan_73 : decode cX9_findPlan 73 = .ok (.ifCond .ne 42, 3) := by decide +kernel
theorem dX9_findPlan_76 : decode cX9_findPlan 76 = .ok (.iload_n 2, 1) := by decide +kernel
theorem dX9_findPlan_77 : decode cX9_findPlan 77 = .ok (.iload_n 1, 1) := by decide +kernel
theorem dX9_findPlan_78 : decode cX9_findPlan 78 = .ok (.iload_n 1, 1) := by decide +kernel
theorem dX9_findPlan_79 : decode cX9_findPlan 79 = .ok (.ineg, 1) := by decide +kernel
theorem dX9_findPlan_80 : decode cX9_findPlan 80 = .ok (.iand, 1) := by decide +kernel
theorem dX9_findPlan_81 : decode cX9_findPlan 81 = .ok (.iand, 1) := by decide +kernel
theorem dX9_findPlan_82 : decode cX9_findPlan 82 = .ok (.ifCond .eq 33, 3) := by decide +kernel
theorem dX9_findPlan_85 : decode cX9_findPlan 85 = .ok (.aload_n 0, 1) := by decide +kernel
theorem dX9_findPlan_86 : decode cX9_findPlan 86 = .ok (.getfield 112, 3) := by decide +kernel
theorem dX9_findPlan_89 : decode cX9_findPlan 89 = .ok (.iload_n 2, 1) := by decide +kernel
theorem dX9_findPlan_90 : decode cX9_findPlan 90 = .ok (.laload, 1) := by decide +kernel
theorem dX9_findPlan_91 : decode cX9_findPlan 91 = .ok (.lconst 0, 1) := by decide +kernel
theorem dX9_findPlan_92 : decode cX9_findPlan 92 = .ok (.lcmp, 1) := by decide +kernel
theorem dX9_findPlan_93 : decode cX9_findPlan 93 = .ok (.ifCond .ne 22, 3) := by decide +kernel
theorem dX9_findPlan_96 : decode cX9_findPlan 96 = .ok (.aload_n 0, 1) := by decide +kernel
theorem dX9_findPlan_97 : decode cX9_findPlan 97 = .ok (.getfield 115, 3) := by decide +kernel
theorem dX9_findPlan_100 : decode cX9_findPlan 100 = .ok (.iload_n 1, 1) := by decide +kernel
theorem dX9_findPlan_101 : decode cX9_findPlan 101 = .ok (.iload_n 2, 1) := by decide +kernel
theorem dX9_findPlan_102 : decode cX9_findPlan 102 = .ok (.ixor, 1) := by decide +kernel
theorem dX9_findPlan_103 : decode cX9_findPlan 103 = .ok (.iaload, 1) := by decide +kernel
theorem dX9_findPlan_104 : decode cX9_findPlan 104 = .ok (.iconst 1, 1) := by decide +kernel
theorem dX9_findPlan_105 : decode cX9_findPlan 105 = .ok (.iadd, 1) := by decide +kernel
theorem dX9_findPlan_106 : decode cX9_findPlan 106 = .ok (.aload_n 0, 1) := by decide +kernel
theorem dX9_findPlan_107 : decode cX9_findPlan 107 = .ok (.getfield 115, 3) := by decide +kernel
theorem dX9_findPlan_110 : decode cX9_findPlan 110 = .ok (.iload_n 1, 1) := by decide +kernel
theorem dX9_findPlan_111 : decode cX9_findPlan 111 = .ok (.iaload, 1) := by decide +kernel
theorem dX9_findPlan_112 : decode cX9_findPlan 112 = .ok (.if_icmp .eq 9, 3) := by decide +kernel
theorem dX9_findPlan_115 : decode cX9_findPlan 115 = .ok (.iinc 2 1, 3) := by decide +kernel
theorem dX9_findPlan_118 : decode cX9_findPlan 118 = .ok (.goto (-50), 3) := by decide +kernel
theorem dX9_findPlan_121 : decode cX9_findPlan 121 = .ok (.aload_n 0, 1) := by decide +kernel
theorem dX9_findPlan_122 : decode cX9_findPlan 122 = .ok (.getfield 118, 3) := by decide +kernel
theorem dX9_findPlan_125 : decode cX9_findPlan 125 = .ok (.aload_n 0, 1) := by decide +kernel
theorem dX9_findPlan_126 : decode cX9_findPlan 126 = .ok (.getfield 303, 3) := by decide +kernel
theorem dX9_findPlan_129 : decode cX9_findPlan 129 = .ok (.iload_n 2, 1) := by decide +kernel
theorem dX9_findPlan_130 : decode cX9_findPlan 130 = .ok (.iastore, 1) := by decide +kernel
theorem dX9_findPlan_131 : decode cX9_findPlan 131 = .ok (.aload_n 0, 1) := by decide +kernel
theorem dX9_findPlan_132 : decode cX9_findPlan 132 = .ok (.dup, 1) := by decide +kernel
theorem dX9_findPlan_133 : decode cX9_findPlan 133 = .ok (.getfield 303, 3) := by decide +kernel
theorem dX9_findPlan_136 : decode cX9_findPlan 136 = .ok (.iconst 1, 1) := by decide +kernel
theorem dX9_findPlan_137 : decode cX9_findPlan 137 = .ok (.iadd, 1) := by decide +kernel
theorem dX9_findPlan_138 : decode cX9_findPlan 138 = .ok (.putfield 303, 3) := by decide +kernel
theorem dX9_findPlan_141 : decode cX9_findPlan 141 = .ok (.iload_n 1, 1) := by decide +kernel
theorem dX9_findPlan_142 : decode cX9_findPlan 142 = .ok (.iload_n 2, 1) := by decide +kernel
theorem dX9_findPlan_143 : decode cX9_findPlan 143 = .ok (.ixor, 1) := by decide +kernel
theorem dX9_findPlan_144 : decode cX9_findPlan 144 = .ok (.istore_n 1, 1) := by decide +kernel
theorem dX9_findPlan_145 : decode cX9_findPlan 145 = .ok (.goto (-83), 3) := by decide +kernel
theorem dX9_findPlan_148 : decode cX9_findPlan 148 = .ok (.iconst 0, 1) := by decide +kernel
theorem dX9_findPlan_149 : decode cX9_findPlan 149 = .ok (.istore_n 2, 1) := by decide +kernel
theorem dX9_findPlan_150 : decode cX9_findPlan 150 = .ok (.iload_n 2, 1) := by decide +kernel
theorem dX9_findPlan_151 : decode cX9_findPlan 151 = .ok (.aload_n 0, 1) := by decide +kernel
theorem dX9_findPlan_152 : decode cX9_findPlan 152 = .ok (.getfield 303, 3) := by decide +kernel
theorem dX9_findPlan_155 : decode cX9_findPlan 155 = .ok (.if_icmp .ge 19, 3) := by decide +kernel
theorem dX9_findPlan_158 : decode cX9_findPlan 158 = .ok (.aload_n 0, 1) := by decide +kernel
theorem dX9_findPlan_159 : decode cX9_findPlan 159 = .ok (.aload_n 0, 1) := by decide +kernel
theorem dX9_findPlan_160 : decode cX9_findPlan 160 = .ok (.getfield 118, 3) := by decide +kernel
theorem dX9_findPlan_163 : decode cX9_findPlan 163 = .ok (.iload_n 2, 1) := by decide +kernel
theorem dX9_findPlan_164 : decode cX9_findPlan 164 = .ok (.iaload, 1) := by decide +kernel
theorem dX9_findPlan_165 : decode cX9_findPlan 165 = .ok (.invokevirtual 309, 3) := by decide +kernel
theorem dX9_findPlan_168 : decode cX9_findPlan 168 = .ok (.iinc 2 1, 3) := by decide +kernel
theorem dX9_findPlan_171 : decode cX9_findPlan 171 = .ok (.goto (-21), 3) := by decide +kernel
theorem dX9_findPlan_174 : decode cX9_findPlan 174 = .ok (.return_, 1) := by decide +kernel
theorem dX9_leastOf_0 : decode cX9_leastOf 0 = .ok (.iconst 0, 1) := by decide +kernel
theorem dX9_leastOf_1 : decode cX9_leastOf 1 = .ok (.istore_n 3, 1) := by decide +kernel
theorem dX9_leastOf_2 : decode cX9_leastOf 2 = .ok (.iload_n 3, 1) := by decide +kernel
theorem dX9_leastOf_3 : decode cX9_leastOf 3 = .ok (.bipush 10, 2) := by decide +kernel
theorem dX9_leastOf_5 : decode cX9_leastOf 5 = .ok (.if_icmp .ge 34, 3) := by decide +kernel
theorem dX9_leastOf_8 : decode cX9_leastOf 8 = .ok (.iload_n 1, 1) := by decide +kernel
theorem dX9_leastOf_9 : decode cX9_leastOf 9 = .ok (.iload_n 3, 1) := by decide +kernel
theorem dX9_leastOf_10 : decode cX9_leastOf 10 = .ok (.ishr, 1) := by decide +kernel
theorem dX9_leastOf_11 : decode cX9_leastOf 11 = .ok (.iconst 1, 1) := by decide +kernel
theorem dX9_leastOf_12 : decode cX9_leastOf 12 = .ok (.iand, 1) := by decide +kernel
theorem dX9_leastOf_13 : decode cX9_leastOf 13 = .ok (.iconst 1, 1) := by decide +kernel
theorem dX9_leastOf_14 : decode cX9_leastOf 14 = .ok (.if_icmp .ne 19, 3) := by decide +kernel
theorem dX9_leastOf_17 : decode cX9_leastOf 17 = .ok (.aload_n 0, 1) := by decide +kernel
theorem dX9_leastOf_18 : decode cX9_leastOf 18 = .ok (.getfield 130, 3) := by decide +kernel
theorem dX9_leastOf_21 : decode cX9_leastOf 21 = .ok (.iload_n 3, 1) := by decide +kernel
theorem dX9_leastOf_22 : decode cX9_leastOf 22 = .ok (.laload, 1) := by decide +kernel
theorem dX9_leastOf_23 : decode cX9_leastOf 23 = .ok (.iload_n 2, 1) := by decide +kernel
theorem dX9_leastOf_24 : decode cX9_leastOf 24 = .ok (.i2l, 1) := by decide +kernel
theorem dX9_leastOf_25 : decode cX9_leastOf 25 = .ok (.lmul, 1) := by decide +kernel
theorem dX9_leastOf_26 : decode cX9_leastOf 26 = .ok (.lconst 0, 1) := by decide +kernel
theorem dX9_leastOf_27 : decode cX9_leastOf 27 = .ok (.lcmp, 1) := by decide +kernel
theorem dX9_leastOf_28 : decode cX9_leastOf 28 = .ok (.ifCond .le 5, 3) := by decide +kernel
theorem dX9_leastOf_31 : decode cX9_leastOf 31 = .ok (.iload_n 3, 1) := by decide +kernel
theorem dX9_leastOf_32 : decode cX9_leastOf 32 = .ok (.ireturn, 1) := by decide +kernel
theorem dX9_leastOf_33 : decode cX9_leastOf 33 = .ok (.iinc 3 1, 3) := by decide +kernel
theorem dX9_leastOf_36 : decode cX9_leastOf 36 = .ok (.goto (-34), 3) := by decide +kernel
theorem dX9_leastOf_39 : decode cX9_leastOf 39 = .ok (.iconst (-1), 1) := by decide +kernel
theorem dX9_leastOf_40 : decode cX9_leastOf 40 = .ok (.ireturn, 1) := by decide +kernel
set_option maxRecDepth 20000 in
theorem ggX9_payOut_X9_leastOf : GoodIn wsX9_payOut wsX9_leastOf := goodIn_r _ [14, 1, 15, 16, 17, 18, 19, 20, 21, 22, 23, 24, 25, 26, 27, 28, 29, 30, 31, 32, 33, 34, 35, 36, 37, 38, 39, 40, 41, 42, 43, 44, 45, 46, 47, 48, 49, 50, 51, 52, 53, 54, 55, 56, 57, 58, 59, 60, 61, 62, 63, 64, 65, 66, 67, 68, 69] rfl (by decide +kernel)
set_option maxRecDepth 20000 in
theorem gX9_payOut_X9_leastOf : GoodIn wsX9_payOut (wsV RX9 313 RX9 yX9_leastOf wsX9_leastOf) := goodIn_app (goodIn_of _ (by decide +kernel)) ggX9_payOut_X9_leastOf
theorem dX9_payOut_0 : decode cX9_payOut 0 = .ok (.aload_n 0, 1) := by decide +kernel
theorem dX9_payOut_1 : decode cX9_payOut 1 = .ok (.iload_n 1, 1) := by decide +kernel
theorem dX9_payOut_2 : decode cX9_payOut 2 = .ok (.iconst (-1), 1) := by decide +kernel
theorem dX9_payOut_3 : decode cX9_payOut 3 = .ok (.invokevirtual 313, 3) := by decide +kernel
theorem dX9_payOut_6 : decode cX9_payOut 6 = .ok (.istore_n 2, 1) := by decide +kernel
theorem dX9_payOut_7 : decode cX9_payOut 7 = .ok (.iload_n 2, 1) := by decide +kernel
theorem dX9_payOut_8 : decode cX9_payOut 8 = .ok (.ifCond .lt 101, 3) := by decide +kernel
theorem dX9_payOut_11 : decode cX9_payOut 11 = .ok (.aload_n 0, 1) := by decide +kernel
theorem dX9_payOut_12 : decode cX9_payOut 12 = .ok (.iload_n 1, 1) := by decide +kernel
theorem dX9_payOut_13 : decode cX9_payOut 13 = .ok (.iconst 1, 1) := by decide +kernel
theorem dX9_payOut_14 : decode cX9_payOut 14 = .ok (.invokevirtual 313, 3) := by decide +kernel
theorem dX9_payOut_17 : decode cX9_payOut 17 = .ok (.istore_n 3, 1) := by decide +kernel
theorem dX9_payOut_18 : decode cX9_payOut 18 = .ok (.aload_n 0, 1) := by decide +kernel
theorem dX9_payOut_19 : decode cX9_payOut 19 = .ok (.getfield 130, 3) := by decide +kernel
theorem dX9_payOut_22 : decode cX9_payOut 22 = .ok (.iload_n 2, 1) := by decide +kernel
theorem dX9_payOut_23 : decode cX9_payOut 23 = .ok (.laload, 1) := by decide +kernel
theorem dX9_payOut_24 : decode cX9_payOut 24 = .ok (.lneg, 1) := by decide +kernel
theorem dX9_payOut_25 : decode cX9_payOut 25 = .ok (.aload_n 0, 1) := by decide +kernel
theorem dX9_payOut_26 : decode cX9_payOut 26 = .ok (.getfield 130, 3) := by decide +kernel
theorem dX9_payOut_29 : decode cX9_payOut 29 = .ok (.iload_n 3, 1) := by decide +kernel
theorem dX9_payOut_30 : decode cX9_payOut 30 = .ok (.laload, 1) := by decide +kernel
theorem dX9_payOut_31 : decode cX9_payOut 31 = .ok (.invokestatic 317, 3) := by decide +kernel
theorem dX9_payOut_34 : decode cX9_payOut 34 = .ok (.lstore 4, 2) := by decide +kernel
theorem dX9_payOut_36 : decode cX9_payOut 36 = .ok (.aload_n 0, 1) := by decide +kernel
theorem dX9_payOut_37 : decode cX9_payOut 37 = .ok (.getfield 121, 3) := by decide +kernel
theorem dX9_payOut_40 : decode cX9_payOut 40 = .ok (.aload_n 0, 1) := by decide +kernel
theorem dX9_payOut_41 : decode cX9_payOut 41 = .ok (.getfield 306, 3) := by decide +kernel
theorem dX9_payOut_44 : decode cX9_payOut 44 = .ok (.iload_n 2, 1) := by decide +kernel
theorem dX9_payOut_45 : decode cX9_payOut 45 = .ok (.iastore, 1) := by decide +kernel
theorem dX9_payOut_46 : decode cX9_payOut 46 = .ok (.aload_n 0, 1) := by decide +kernel
theorem dX9_payOut_47 : decode cX9_payOut 47 = .ok (.getfield 124, 3) := by decide +kernel
theorem dX9_payOut_50 : decode cX9_payOut 50 = .ok (.aload_n 0, 1) := by decide +kernel
theorem dX9_payOut_51 : decode cX9_payOut 51 = .ok (.getfield 306, 3) := by decide +kernel
theorem dX9_payOut_54 : decode cX9_payOut 54 = .ok (.iload_n 3, 1) := by decide +kernel
theorem dX9_payOut_55 : decode cX9_payOut 55 = .ok (.iastore, 1) := by decide +kernel
theorem dX9_payOut_56 : decode cX9_payOut 56 = .ok (.aload_n 0, 1) := by decide +kernel
theorem dX9_payOut_57 : decode cX9_payOut 57 = .ok (.getfield 127, 3) := by decide +kernel
theorem dX9_payOut_60 : decode cX9_payOut 60 = .ok (.aload_n 0, 1) := by decide +kernel
theorem dX9_payOut_61 : decode cX9_payOut 61 = .ok (.getfield 306, 3) := by decide +kernel
theorem dX9_payOut_64 : decode cX9_payOut 64 = .ok (.lload 4, 2) := by decide +kernel
theorem dX9_payOut_66 : decode cX9_payOut 66 = .ok (.lastore, 1) := by decide +kernel
theorem dX9_payOut_67 : decode cX9_payOut 67 = .ok (.aload_n 0, 1) := by decide +kernel
theorem dX9_payOut_68 : decode cX9_payOut 68 = .ok (.dup, 1) := by decide +kernel
theorem dX9_payOut_69 : decode cX9_payOut 69 = .ok (.getfield 306, 3) := by decide +kernel
theorem dX9_payOut_72 : decode cX9_payOut 72 = .ok (.iconst 1, 1) := by decide +kernel
theorem dX9_payOut_73 : decode cX9_payOut 73 = .ok (.iadd, 1) := by decide +kernel
theorem dX9_payOut_74 : decode cX9_payOut 74 = .ok (.putfield 306, 3) := by decide +kernel
theorem dX9_payOut_77 : decode cX9_payOut 77 = .ok (.aload_n 0, 1) := by decide +kernel
theorem dX9_payOut_78 : decode cX9_payOut 78 = .ok (.getfield 130, 3) := by decide +kernel
theorem dX9_payOut_81 : decode cX9_payOut 81 = .ok (.iload_n 2, 1) := by decide +kernel
theorem dX9_payOut_82 : decode cX9_payOut 82 = .ok (.dup2, 1) := by decide +kernel
theorem dX9_payOut_83 : decode cX9_payOut 83 = .ok (.laload, 1) := by decide +kernel
theorem dX9_payOut_84 : decode cX9_payOut 84 = .ok (.lload 4, 2) := by decide +kernel
theorem dX9_payOut_86 : decode cX9_payOut 86 = .ok (.ladd, 1) := by decide +kernel
theorem dX9_payOut_87 : decode cX9_payOut 87 = .ok (.lastore, 1) := by decide +kernel
theorem dX9_payOut_88 : decode cX9_payOut 88 = .ok (.aload_n 0, 1) := by decide +kernel
theorem dX9_payOut_89 : decode cX9_payOut 89 = .ok (.getfield 130, 3) := by decide +kernel
theorem dX9_payOut_92 : decode cX9_payOut 92 = .ok (.iload_n 3, 1) := by decide +kernel
theorem dX9_payOut_93 : decode cX9_payOut 93 = .ok (.dup2, 1) := by decide +kernel
theorem dX9_payOut_94 : decode cX9_payOut 94 = .ok (.laload, 1) := by decide +kernel
theorem dX9_payOut_95 : decode cX9_payOut 95 = .ok (.lload 4, 2) := by decide +kernel
theorem dX9_payOut_97 : decode cX9_payOut 97 = .ok (.lsub, 1) := by decide +kernel
theorem dX9_payOut_98 : decode cX9_payOut 98 = .ok (.lastore, 1) := by decide +kernel
theorem dX9_payOut_99 : decode cX9_payOut 99 = .ok (.aload_n 0, 1) := by decide +kernel
theorem dX9_payOut_100 : decode cX9_payOut 100 = .ok (.iload_n 1, 1) := by decide +kernel
theorem dX9_payOut_101 : decode cX9_payOut 101 = .ok (.iconst (-1), 1) := by decide +kernel
theorem dX9_payOut_102 : decode cX9_payOut 102 = .ok (.invokevirtual 313, 3) := by decide +kernel
theorem dX9_payOut_105 : decode cX9_payOut 105 = .ok (.istore_n 2, 1) := by decide +kernel
theorem dX9_payOut_106 : decode cX9_payOut 106 = .ok (.goto (-99), 3) := by decide +kernel
theorem dX9_payOut_109 : decode cX9_payOut 109 = .ok (.return_, 1) := by decide +kernel
set_option maxRecDepth 20000 in
theorem ggX9_plan_X9_findPlan : GoodIn wsX9_plan wsX9_findPlan := goodIn_r _ [7, 8, 1, 2, 9, 10, 11, 12, 13, 14, 6, 15, 16, 17, 18, 19, 20, 21, 22, 23, 24, 25, 26, 27, 28, 29, 30, 31, 32, 33, 34, 35, 36, 37, 38, 39, 40, 41, 42, 43, 44, 45, 46, 47, 48, 49, 50, 51, 52, 53, 54, 55, 56, 57, 58, 59, 60, 61, 62, 63, 64, 65, 66, 67, 68, 69, 70, 71, 72, 73, 74, 75, 76, 77, 78, 79, 80, 81, 82, 83, 84, 85, 86, 87, 88, 89, 90] rfl (by decide +kernel)
set_option maxRecDepth 20000 in
theorem gX9_plan_X9_findPlan : GoodIn wsX9_plan (wsV RX9 323 RX9 yX9_findPlan wsX9_findPlan) := goodIn_app (goodIn_of _ (by decide +kernel)) ggX9_plan_X9_findPlan
theorem dX9_plan_0 : decode cX9_plan 0 = .ok (.aload_n 0, 1) := by decide +kernel
theorem dX9_plan_1 : decode cX9_plan 1 = .ok (.invokevirtual 323, 3) := by decide +kernel
theorem dX9_plan_4 : decode cX9_plan 4 = .ok (.iload_n 1, 1) := by decide +kernel
theorem dX9_plan_5 : decode cX9_plan 5 = .ok (.ifCond .eq 11, 3) := by decide +kernel
theorem dX9_plan_8 : decode cX9_plan 8 = .ok (.aload_n 0, 1) := by decide +kernel
theorem dX9_plan_9 : decode cX9_plan 9 = .ok (.getfield 303, 3) := by decide +kernel
theorem dX9_plan_12 : decode cX9_plan 12 = .ok (.i2l, 1) := by decide +kernel
theorem dX9_plan_13 : decode cX9_plan 13 = .ok (.goto 8, 3) := by decide +kernel
theorem dX9_plan_16 : decode cX9_plan 16 = .ok (.aload_n 0, 1) := by decide +kernel
theorem dX9_plan_17 : decode cX9_plan 17 = .ok (.getfield 306, 3) := by decide +kernel
theorem dX9_plan_20 : decode cX9_plan 20 = .ok (.i2l, 1) := by decide +kernel
theorem dX9_plan_21 : decode cX9_plan 21 = .ok (.lreturn, 1) := by decide +kernel
theorem dX9_paymentOf_0 : decode cX9_paymentOf 0 = .ok (.iload_n 2, 1) := by decide +kernel
theorem dX9_paymentOf_1 : decode cX9_paymentOf 1 = .ok (.ifCond .ne 13, 3) := by decide +kernel
theorem dX9_paymentOf_4 : decode cX9_paymentOf 4 = .ok (.aload_n 0, 1) := by decide +kernel
theorem dX9_paymentOf_5 : decode cX9_paymentOf 5 = .ok (.getfield 121, 3) := by decide +kernel
theorem dX9_paymentOf_8 : decode cX9_paymentOf 8 = .ok (.iload_n 1, 1) := by decide +kernel
theorem dX9_paymentOf_9 : decode cX9_paymentOf 9 = .ok (.iaload, 1) := by decide +kernel
theorem dX9_paymentOf_10 : decode cX9_paymentOf 10 = .ok (.i2l, 1) := by decide +kernel
theorem dX9_paymentOf_11 : decode cX9_paymentOf 11 = .ok (.goto 24, 3) := by decide +kernel
theorem dX9_paymentOf_14 : decode cX9_paymentOf 14 = .ok (.iload_n 2, 1) := by decide +kernel
theorem dX9_paymentOf_15 : decode cX9_paymentOf 15 = .ok (.iconst 1, 1) := by decide +kernel
theorem dX9_paymentOf_16 : decode cX9_paymentOf 16 = .ok (.if_icmp .ne 13, 3) := by decide +kernel
theorem dX9_paymentOf_19 : decode cX9_paymentOf 19 = .ok (.aload_n 0, 1) := by decide +kernel
theorem dX9_paymentOf_20 : decode cX9_paymentOf 20 = .ok (.getfield 124, 3) := by decide +kernel
theorem dX9_paymentOf_23 : decode cX9_paymentOf 23 = .ok (.iload_n 1, 1) := by decide +kernel
theorem dX9_paymentOf_24 : decode cX9_paymentOf 24 = .ok (.iaload, 1) := by decide +kernel
theorem dX9_paymentOf_25 : decode cX9_paymentOf 25 = .ok (.i2l, 1) := by decide +kernel
theorem dX9_paymentOf_26 : decode cX9_paymentOf 26 = .ok (.goto 9, 3) := by decide +kernel
theorem dX9_paymentOf_29 : decode cX9_paymentOf 29 = .ok (.aload_n 0, 1) := by decide +kernel
theorem dX9_paymentOf_30 : decode cX9_paymentOf 30 = .ok (.getfield 127, 3) := by decide +kernel
theorem dX9_paymentOf_33 : decode cX9_paymentOf 33 = .ok (.iload_n 1, 1) := by decide +kernel
theorem dX9_paymentOf_34 : decode cX9_paymentOf 34 = .ok (.laload, 1) := by decide +kernel
theorem dX9_paymentOf_35 : decode cX9_paymentOf 35 = .ok (.lreturn, 1) := by decide +kernel
set_option maxRecDepth 20000 in
theorem ggX9_payment_X9_in : GoodIn wsX9_payment wsX9_in := goodIn_r _ [7] rfl (by decide +kernel)
set_option maxRecDepth 20000 in
theorem gX9_payment_X9_in : GoodIn wsX9_payment (va_wsS RX9 141 yX9_in wsX9_in) := goodIn_app (goodIn_of _ (by decide +kernel)) ggX9_payment_X9_in
set_option maxRecDepth 20000 in
theorem ggX9_payment_X9_finding : GoodIn wsX9_payment wsX9_finding := goodIn_r _ [11, 12, 13, 51, 52, 53, 54, 55, 56, 57, 58, 59, 60, 61, 62, 63, 64, 65, 66, 67, 68, 69, 70, 71, 72, 73, 74, 75, 76, 77, 78, 79, 80, 81, 82, 83, 84, 85, 86, 87, 88, 89, 90, 91, 92, 93, 94, 95, 96, 97, 98, 99, 100, 101, 102, 103, 104, 105] rfl (by decide +kernel)
set_option maxRecDepth 20000 in
theorem gX9_payment_X9_finding : GoodIn wsX9_payment (wsV RX9 154 RX9 yX9_finding wsX9_finding) := goodIn_app (goodIn_of _ (by decide +kernel)) ggX9_payment_X9_finding
set_option maxRecDepth 20000 in
theorem ggX9_payment_X9_findPlan : GoodIn wsX9_payment wsX9_findPlan := goodIn_r _ [17, 18, 19, 2, 20, 21, 22, 23, 24, 25, 6, 26, 27, 28, 29, 30, 31, 32, 33, 34, 35, 36, 37, 38, 39, 40, 41, 42, 43, 44, 45, 46, 51, 52, 53, 54, 55, 56, 57, 58, 59, 60, 61, 62, 63, 64, 65, 66, 67, 68, 69, 70, 71, 72, 73, 74, 75, 76, 77, 78, 79, 80, 81, 82, 83, 84, 85, 86, 87, 88, 89, 90, 91, 92, 93, 94, 95, 96, 97, 98, 99, 100, 101, 102, 103, 104, 105] rfl (by decide +kernel)
set_option maxRecDepth 20000 in
theorem gX9_payment_X9_findPlan : GoodIn wsX9_payment (wsV RX9 323 RX9 yX9_findPlan wsX9_findPlan) := goodIn_app (goodIn_of _ (by decide +kernel)) ggX9_payment_X9_findPlan
set_option maxRecDepth 20000 in
theorem ggX9_payment_X9_paymentOf : GoodIn wsX9_payment wsX9_paymentOf := goodIn_r _ [50, 40, 41, 42, 51, 52, 53, 54, 55, 56, 57, 58, 59, 60, 61, 62, 63, 64, 65, 66, 67, 68, 69, 70, 71, 72, 73, 74, 75, 76, 77, 78, 79, 80, 81, 82, 83, 84, 85, 86, 87, 88, 89, 90, 91, 92, 93, 94, 95, 96, 97, 98, 99, 100, 101, 102, 103, 104, 105] rfl (by decide +kernel)
set_option maxRecDepth 20000 in
theorem gX9_payment_X9_paymentOf : GoodIn wsX9_payment (wsV RX9 326 RX9 yX9_paymentOf wsX9_paymentOf) := goodIn_app (goodIn_of _ (by decide +kernel)) ggX9_payment_X9_paymentOf
theorem dX9_payment_0 : decode cX9_payment 0 = .ok (.iload_n 2, 1) := by decide +kernel
theorem dX9_payment_1 : decode cX9_payment 1 = .ok (.iconst 0, 1) := by decide +kernel
theorem dX9_payment_2 : decode cX9_payment 2 = .ok (.iconst 2, 1) := by decide +kernel
theorem dX9_payment_3 : decode cX9_payment 3 = .ok (.invokestatic 141, 3) := by decide +kernel
theorem dX9_payment_6 : decode cX9_payment 6 = .ok (.ifCond .ne 11, 3) := by decide +kernel
theorem dX9_payment_9 : decode cX9_payment 9 = .ok (.aload_n 0, 1) := by decide +kernel
theorem dX9_payment_10 : decode cX9_payment 10 = .ok (.ldc2_w 152, 3) := by decide +kernel
theorem dX9_payment_13 : decode cX9_payment 13 = .ok (.invokevirtual 154, 3) := by decide +kernel
theorem dX9_payment_16 : decode cX9_payment 16 = .ok (.lreturn, 1) := by decide +kernel
theorem dX9_payment_17 : decode cX9_payment 17 = .ok (.aload_n 0, 1) := by decide +kernel
theorem dX9_payment_18 : decode cX9_payment 18 = .ok (.invokevirtual 323, 3) := by decide +kernel
theorem dX9_payment_21 : decode cX9_payment 21 = .ok (.iload_n 1, 1) := by decide +kernel
theorem dX9_payment_22 : decode cX9_payment 22 = .ok (.iconst 0, 1) := by decide +kernel
theorem dX9_payment_23 : decode cX9_payment 23 = .ok (.aload_n 0, 1) := by decide +kernel
theorem dX9_payment_24 : decode cX9_payment 24 = .ok (.getfield 306, 3) := by decide +kernel
theorem dX9_payment_27 : decode cX9_payment 27 = .ok (.iconst 1, 1) := by decide +kernel
theorem dX9_payment_28 : decode cX9_payment 28 = .ok (.isub, 1) := by decide +kernel
theorem dX9_payment_29 : decode cX9_payment 29 = .ok (.invokestatic 141, 3) := by decide +kernel
theorem dX9_payment_32 : decode cX9_payment 32 = .ok (.ifCond .eq 12, 3) := by decide +kernel
theorem dX9_payment_35 : decode cX9_payment 35 = .ok (.aload_n 0, 1) := by decide +kernel
theorem dX9_payment_36 : decode cX9_payment 36 = .ok (.iload_n 1, 1) := by decide +kernel
theorem dX9_payment_37 : decode cX9_payment 37 = .ok (.iload_n 2, 1) := by decide +kernel
theorem dX9_payment_38 : decode cX9_payment 38 = .ok (.invokevirtual 326, 3) := by decide +kernel
theorem dX9_payment_41 : decode cX9_payment 41 = .ok (.goto 10, 3) := by decide +kernel
theorem dX9_payment_44 : decode cX9_payment 44 = .ok (.aload_n 0, 1) := by decide +kernel
theorem dX9_payment_45 : decode cX9_payment 45 = .ok (.ldc2_w 211, 3) := by decide +kernel
theorem dX9_payment_48 : decode cX9_payment 48 = .ok (.invokevirtual 154, 3) := by decide +kernel
theorem dX9_payment_51 : decode cX9_payment 51 = .ok (.lreturn, 1) := by decide +kernel
theorem dX9_owedInAll_0 : decode cX9_owedInAll 0 = .ok (.lconst 0, 1) := by decide +kernel
theorem dX9_owedInAll_1 : decode cX9_owedInAll 1 = .ok (.lstore_n 1, 1) := by decide +kernel
theorem dX9_owedInAll_2 : decode cX9_owedInAll 2 = .ok (.iconst 0, 1) := by decide +kernel
theorem dX9_owedInAll_3 : decode cX9_owedInAll 3 = .ok (.istore_n 3, 1) := by decide +kernel
theorem dX9_owedInAll_4 : decode cX9_owedInAll 4 = .ok (.iload_n 3, 1) := by decide +kernel
theorem dX9_owedInAll_5 : decode cX9_owedInAll 5 = .ok (.bipush 100, 2) := by decide +kernel
theorem dX9_owedInAll_7 : decode cX9_owedInAll 7 = .ok (.if_icmp .ge 18, 3) := by decide +kernel
theorem dX9_owedInAll_10 : decode cX9_owedInAll 10 = .ok (.lload_n 1, 1) := by decide +kernel
theorem dX9_owedInAll_11 : decode cX9_owedInAll 11 = .ok (.aload_n 0, 1) := by decide +kernel
theorem dX9_owedInAll_12 : decode cX9_owedInAll 12 = .ok (.getfield 52, 3) := by decide +kernel
theorem dX9_owedInAll_15 : decode cX9_owedInAll 15 = .ok (.iload_n 3, 1) := by decide +kernel
theorem dX9_owedInAll_16 : decode cX9_owedInAll 16 = .ok (.laload, 1) := by decide +kernel
theorem dX9_owedInAll_17 : decode cX9_owedInAll 17 = .ok (.ladd, 1) := by decide +kernel
theorem dX9_owedInAll_18 : decode cX9_owedInAll 18 = .ok (.lstore_n 1, 1) := by decide +kernel
theorem dX9_owedInAll_19 : decode cX9_owedInAll 19 = .ok (.iinc 3 1, 3) := by decide +kernel
theorem dX9_owedInAll_22 : decode cX9_owedInAll 22 = .ok (.goto (-18), 3) := by decide +kernel
theorem dX9_owedInAll_25 : decode cX9_owedInAll 25 = .ok (.lload_n 1, 1) := by decide +kernel
theorem dX9_owedInAll_26 : decode cX9_owedInAll 26 = .ok (.lreturn, 1) := by decide +kernel
set_option maxRecDepth 20000 in
theorem ggX9_clear_X9_findPlan : GoodIn wsX9_clear wsX9_findPlan := goodIn_r _ [10, 11, 12, 2, 13, 14, 15, 16, 17, 18, 9, 19, 1, 20, 21, 22, 23, 24, 25, 26, 27, 28, 29, 30, 31, 3, 4, 5, 32, 33, 34, 35, 40, 41, 42, 43, 44, 45, 46, 47, 48, 49, 50, 51, 52, 53, 54, 55, 56, 57, 58, 59, 60, 61, 62, 63, 64, 65, 66, 67, 68, 69, 70, 71, 72, 73, 74, 75, 76, 77, 78, 79, 80, 81, 82, 83, 84, 85, 86, 87, 88, 89, 90, 91, 92, 93, 94] rfl (by decide +kernel)
set_option maxRecDepth 20000 in
theorem gX9_clear_X9_findPlan : GoodIn wsX9_clear (wsV RX9 323 RX9 yX9_findPlan wsX9_findPlan) := goodIn_app (goodIn_of _ (by decide +kernel)) ggX9_clear_X9_findPlan
set_option maxRecDepth 20000 in
theorem ggX9_clear_X9_owedInAll : GoodIn wsX9_clear wsX9_owedInAll := goodIn_r _ [39, 1, 40, 41, 42, 43, 44, 45, 46, 47, 48, 49, 50, 51, 52, 53, 54, 55, 56, 57, 58, 59, 60, 61, 62, 63, 64, 65, 66, 67, 68, 69, 70, 71, 72, 73, 74, 75, 76, 77, 78, 79, 80, 81, 82, 83, 84, 85, 86, 87, 88, 89, 90, 91, 92, 93, 94] rfl (by decide +kernel)
set_option maxRecDepth 20000 in
theorem gX9_clear_X9_owedInAll : GoodIn wsX9_clear (wsV RX9 330 RX9 yX9_owedInAll wsX9_owedInAll) := goodIn_app (goodIn_of _ (by decide +kernel)) ggX9_clear_X9_owedInAll
theorem dX9_clear_0 : decode cX9_clear 0 = .ok (.aload_n 0, 1) := by decide +kernel
theorem dX9_clear_1 : decode cX9_clear 1 = .ok (.invokevirtual 323, 3) := by decide +kernel
theorem dX9_clear_4 : decode cX9_clear 4 = .ok (.iconst 0, 1) := by decide +kernel
theorem dX9_clear_5 : decode cX9_clear 5 = .ok (.istore_n 1, 1) := by decide +kernel
theorem dX9_clear_6 : decode cX9_clear 6 = .ok (.iload_n 1, 1) := by decide +kernel
theorem dX9_clear_7 : decode cX9_clear 7 = .ok (.bipush 100, 2) := by decide +kernel
theorem dX9_clear_9 : decode cX9_clear 9 = .ok (.if_icmp .ge 16, 3) := by decide +kernel
theorem dX9_clear_12 : decode cX9_clear 12 = .ok (.aload_n 0, 1) := by decide +kernel
theorem dX9_clear_13 : decode cX9_clear 13 = .ok (.getfield 52, 3) := by decide +kernel
theorem dX9_clear_16 : decode cX9_clear 16 = .ok (.iload_n 1, 1) := by decide +kernel
theorem dX9_clear_17 : decode cX9_clear 17 = .ok (.lconst 0, 1) := by decide +kernel
theorem dX9_clear_18 : decode cX9_clear 18 = .ok (.lastore, 1) := by decide +kernel
theorem dX9_clear_19 : decode cX9_clear 19 = .ok (.iinc 1 1, 3) := by decide +kernel
theorem dX9_clear_22 : decode cX9_clear 22 = .ok (.goto (-16), 3) := by decide +kernel
