theorem dX3_why_41 : decode cX3_why 41 = .ok (.ireturn, 1) := by decide +kernel
set_option maxRecDepth 20000 in
theorem ggX3_mend_X2_find : GoodIn wsX3_mend wsX2_find := goodIn_r _ [7, 8, 9, 45, 46, 47, 48, 49, 50, 51, 52, 53, 54, 55, 56, 57, 58, 59] (by decide +kernel) (by decide +kernel)
set_option maxRecDepth 20000 in
theorem gX3_mend_X2_find : GoodIn wsX3_mend (wsV RX3 61 RX2 yX2_find wsX2_find) := goodIn_app (goodIn_of _ (by decide +kernel)) ggX3_mend_X2_find
set_option maxRecDepth 20000 in
theorem ggX3_mend_X3_isFlag : GoodIn wsX3_mend wsX3_isFlag := goodIn_r _ [13] (by decide +kernel) (by decide +kernel)
set_option maxRecDepth 20000 in
theorem gX3_mend_X3_isFlag : GoodIn wsX3_mend (va_wsS RX3 104 yX3_isFlag wsX3_isFlag) := goodIn_app (goodIn_of _ (by decide +kernel)) ggX3_mend_X3_isFlag
set_option maxRecDepth 20000 in
theorem ggX3_mend_X3_hoursOfMend : GoodIn wsX3_mend wsX3_hoursOfMend := goodIn_r _ [16] (by decide +kernel) (by decide +kernel)
set_option maxRecDepth 20000 in
theorem gX3_mend_X3_hoursOfMend : GoodIn wsX3_mend (va_wsS RX3 111 yX3_hoursOfMend wsX3_hoursOfMend) := goodIn_app (goodIn_of _ (by decide +kernel)) ggX3_mend_X3_hoursOfMend
set_option maxRecDepth 20000 in
theorem ggX3_mend_X1_leatherOfMend : GoodIn wsX3_mend wsX1_leatherOfMend := goodIn_r _ [21, 22, 23, 24, 12, 25, 60, 61, 62, 63, 64, 65, 66, 67] (by decide +kernel) (by decide +kernel)
set_option maxRecDepth 20000 in
theorem gX3_mend_X1_leatherOfMend : GoodIn wsX3_mend (wsV RX3 115 RX1 yX1_leatherOfMend wsX1_leatherOfMend) := goodIn_app (goodIn_of _ (by decide +kernel)) ggX3_mend_X1_leatherOfMend
set_option maxRecDepth 20000 in
theorem ggX3_mend_X2_priceOfMend : GoodIn wsX3_mend wsX2_priceOfMend := goodIn_r _ [29, 30, 15, 12, 16, 31, 18, 19, 20, 21, 22, 23, 24, 25, 45, 46, 47, 48, 49, 50, 51, 52, 53, 54, 55, 56, 57, 58, 59, 60, 61, 62, 63, 64, 65, 66, 67] (by decide +kernel) (by decide +kernel)
set_option maxRecDepth 20000 in
theorem gX3_mend_X2_priceOfMend : GoodIn wsX3_mend (wsV RX3 118 RX2 yX2_priceOfMend wsX2_priceOfMend) := goodIn_app (goodIn_of _ (by decide +kernel)) ggX3_mend_X2_priceOfMend
set_option maxRecDepth 20000 in
theorem ggX3_mend_X1_wearBehindMend : GoodIn wsX3_mend wsX1_wearBehindMend := goodIn_r _ [35, 23, 60, 61, 62, 63, 64, 65, 66, 67] (by decide +kernel) (by decide +kernel)
set_option maxRecDepth 20000 in
theorem gX3_mend_X1_wearBehindMend : GoodIn wsX3_mend (wsV RX3 121 RX1 yX1_wearBehindMend wsX1_wearBehindMend) := goodIn_app (goodIn_of _ (by decide +kernel)) ggX3_mend_X1_wearBehindMend
theorem dX3_mend_0 : decode cX3_mend 0 = .ok (.aload_n 0, 1) := by decide +kernel
theorem dX3_mend_1 : decode cX3_mend 1 = .ok (.getfield 12, 3) := by decide +kernel
theorem dX3_mend_4 : decode cX3_mend 4 = .ok (.iload_n 1, 1) := by decide +kernel
theorem dX3_mend_5 : decode cX3_mend 5 = .ok (.invokevirtual 61, 3) := by decide +kernel
theorem dX3_mend_8 : decode cX3_mend 8 = .ok (.astore 4, 2) := by decide +kernel
theorem dX3_mend_10 : decode cX3_mend 10 = .ok (.aload 4, 2) := by decide +kernel
theorem dX3_mend_12 : decode cX3_mend 12 = .ok (.ifnull 10, 3) := by decide +kernel
theorem dX3_mend_15 : decode cX3_mend 15 = .ok (.iload_n 2, 1) := by decide +kernel
theorem dX3_mend_16 : decode cX3_mend 16 = .ok (.invokestatic 104, 3) := by decide +kernel
theorem dX3_mend_19 : decode cX3_mend 19 = .ok (.ifCond .ne 6, 3) := by decide +kernel
theorem dX3_mend_22 : decode cX3_mend 22 = .ok (.ldc 65, 2) := by decide +kernel
theorem dX3_mend_24 : decode cX3_mend 24 = .ok (.ireturn, 1) := by decide +kernel
theorem dX3_mend_25 : decode cX3_mend 25 = .ok (.iload_n 2, 1) := by decide +kernel
theorem dX3_mend_26 : decode cX3_mend 26 = .ok (.iconst 1, 1) := by decide +kernel
theorem dX3_mend_27 : decode cX3_mend 27 = .ok (.if_icmp .ne 7, 3) := by decide +kernel
theorem dX3_mend_30 : decode cX3_mend 30 = .ok (.iconst 1, 1) := by decide +kernel
theorem dX3_mend_31 : decode cX3_mend 31 = .ok (.goto 4, 3) := by decide +kernel
theorem dX3_mend_34 : decode cX3_mend 34 = .ok (.iconst 0, 1) := by decide +kernel
theorem dX3_mend_35 : decode cX3_mend 35 = .ok (.istore 5, 2) := by decide +kernel
theorem dX3_mend_37 : decode cX3_mend 37 = .ok (.iload_n 3, 1) := by decide +kernel
theorem dX3_mend_38 : decode cX3_mend 38 = .ok (.tableswitch 64 0 3 #[30, 36, 44, 56], 30) := by decide +kernel
theorem dX3_mend_68 : decode cX3_mend 68 = .ok (.iload 5, 2) := by decide +kernel
theorem dX3_mend_70 : decode cX3_mend 70 = .ok (.invokestatic 111, 3) := by decide +kernel
theorem dX3_mend_73 : decode cX3_mend 73 = .ok (.ireturn, 1) := by decide +kernel
theorem dX3_mend_74 : decode cX3_mend 74 = .ok (.aload 4, 2) := by decide +kernel
theorem dX3_mend_76 : decode cX3_mend 76 = .ok (.iload 5, 2) := by decide +kernel
theorem dX3_mend_78 : decode cX3_mend 78 = .ok (.invokevirtual 115, 3) := by decide +kernel
theorem dX3_mend_81 : decode cX3_mend 81 = .ok (.ireturn, 1) := by decide +kernel
theorem dX3_mend_82 : decode cX3_mend 82 = .ok (.aload_n 0, 1) := by decide +kernel
theorem dX3_mend_83 : decode cX3_mend 83 = .ok (.getfield 12, 3) := by decide +kernel
theorem dX3_mend_86 : decode cX3_mend 86 = .ok (.aload 4, 2) := by decide +kernel
theorem dX3_mend_88 : decode cX3_mend 88 = .ok (.iload 5, 2) := by decide +kernel
theorem dX3_mend_90 : decode cX3_mend 90 = .ok (.invokevirtual 118, 3) := by decide +kernel
theorem dX3_mend_93 : decode cX3_mend 93 = .ok (.ireturn, 1) := by decide +kernel
theorem dX3_mend_94 : decode cX3_mend 94 = .ok (.aload 4, 2) := by decide +kernel
theorem dX3_mend_96 : decode cX3_mend 96 = .ok (.iload 5, 2) := by decide +kernel
theorem dX3_mend_98 : decode cX3_mend 98 = .ok (.invokevirtual 121, 3) := by decide +kernel
theorem dX3_mend_101 : decode cX3_mend 101 = .ok (.ireturn, 1) := by decide +kernel
theorem dX3_mend_102 : decode cX3_mend 102 = .ok (.ldc 65, 2) := by decide +kernel
theorem dX3_mend_104 : decode cX3_mend 104 = .ok (.ireturn, 1) := by decide +kernel
set_option maxRecDepth 20000 in
theorem ggX3_count_X2_debtsTogether : GoodIn wsX3_count wsX2_debtsTogether := goodIn_r _ [24, 25, 26, 27, 28, 29, 23, 30, 31, 51, 52, 53, 54, 55, 56, 57, 58, 59, 60, 61, 62, 63, 64, 65, 72, 73, 74, 75, 76, 77, 78, 79] (by decide +kernel) (by decide +kernel)
set_option maxRecDepth 20000 in
theorem gX3_count_X2_debtsTogether : GoodIn wsX3_count (wsV RX3 158 RX2 yX2_debtsTogether wsX2_debtsTogether) := goodIn_app (goodIn_of _ (by decide +kernel)) ggX3_count_X2_debtsTogether
set_option maxRecDepth 20000 in
theorem ggX3_count_X2_coldSet : GoodIn wsX3_count wsX2_coldSet := goodIn_r _ [35, 25, 36, 27, 28, 29, 23, 30, 31, 37, 38, 39, 40, 41, 51, 52, 53, 54, 55, 56, 57, 58, 59, 60, 61, 62, 63, 64, 65, 72, 73, 74, 75, 76, 77, 78, 79] (by decide +kernel) (by decide +kernel)
set_option maxRecDepth 20000 in
theorem gX3_count_X2_coldSet : GoodIn wsX3_count (wsV RX3 167 RX2 yX2_coldSet wsX2_coldSet) := goodIn_app (goodIn_of _ (by decide +kernel)) ggX3_count_X2_coldSet
theorem dX3_count_0 : decode cX3_count 0 = .ok (.iload_n 1, 1) := by decide +kernel
theorem dX3_count_1 : decode cX3_count 1 = .ok (.tableswitch 252 0 23 #[111, 119, 127, 135, 143, 151, 159, 167, 175, 183, 191, 199, 207, 212, 252, 252, 252, 252, 252, 252, 220, 228, 236, 244], 111) := by decide +kernel
theorem dX3_count_112 : decode cX3_count 112 = .ok (.aload_n 0, 1) := by decide +kernel
theorem dX3_count_113 : decode cX3_count 113 = .ok (.getfield 12, 3) := by decide +kernel
theorem dX3_count_116 : decode cX3_count 116 = .ok (.getfield 133, 3) := by decide +kernel
theorem dX3_count_119 : decode cX3_count 119 = .ok (.ireturn, 1) := by decide +kernel
theorem dX3_count_120 : decode cX3_count 120 = .ok (.aload_n 0, 1) := by decide +kernel
theorem dX3_count_121 : decode cX3_count 121 = .ok (.getfield 12, 3) := by decide +kernel
theorem dX3_count_124 : decode cX3_count 124 = .ok (.getfield 146, 3) := by decide +kernel
theorem dX3_count_127 : decode cX3_count 127 = .ok (.ireturn, 1) := by decide +kernel
theorem dX3_count_128 : decode cX3_count 128 = .ok (.aload_n 0, 1) := by decide +kernel
theorem dX3_count_129 : decode cX3_count 129 = .ok (.getfield 12, 3) := by decide +kernel
theorem dX3_count_132 : decode cX3_count 132 = .ok (.getfield 100, 3) := by decide +kernel
theorem dX3_count_135 : decode cX3_count 135 = .ok (.ireturn, 1) := by decide +kernel
theorem dX3_count_136 : decode cX3_count 136 = .ok (.aload_n 0, 1) := by decide +kernel
theorem dX3_count_137 : decode cX3_count 137 = .ok (.getfield 12, 3) := by decide +kernel
theorem dX3_count_140 : decode cX3_count 140 = .ok (.getfield 149, 3) := by decide +kernel
theorem dX3_count_143 : decode cX3_count 143 = .ok (.ireturn, 1) := by decide +kernel
theorem dX3_count_144 : decode cX3_count 144 = .ok (.aload_n 0, 1) := by decide +kernel
theorem dX3_count_145 : decode cX3_count 145 = .ok (.getfield 12, 3) := by decide +kernel
theorem dX3_count_148 : decode cX3_count 148 = .ok (.getfield 152, 3) := by decide +kernel
theorem dX3_count_151 : decode cX3_count 151 = .ok (.ireturn, 1) := by decide +kernel
theorem dX3_count_152 : decode cX3_count 152 = .ok (.aload_n 0, 1) := by decide +kernel
theorem dX3_count_153 : decode cX3_count 153 = .ok (.getfield 12, 3) := by decide +kernel
theorem dX3_count_156 : decode cX3_count 156 = .ok (.getfield 155, 3) := by decide +kernel
theorem dX3_count_159 : decode cX3_count 159 = .ok (.ireturn, 1) := by decide +kernel
theorem dX3_count_160 : decode cX3_count 160 = .ok (.aload_n 0, 1) := by decide +kernel
theorem dX3_count_161 : decode cX3_count 161 = .ok (.getfield 12, 3) := by decide +kernel
theorem dX3_count_164 : decode cX3_count 164 = .ok (.invokevirtual 158, 3) := by decide +kernel
theorem dX3_count_167 : decode cX3_count 167 = .ok (.ireturn, 1) := by decide +kernel
theorem dX3_count_168 : decode cX3_count 168 = .ok (.aload_n 0, 1) := by decide +kernel
theorem dX3_count_169 : decode cX3_count 169 = .ok (.getfield 12, 3) := by decide +kernel
theorem dX3_count_172 : decode cX3_count 172 = .ok (.getfield 161, 3) := by decide +kernel
theorem dX3_count_175 : decode cX3_count 175 = .ok (.ireturn, 1) := by decide +kernel
theorem dX3_count_176 : decode cX3_count 176 = .ok (.aload_n 0, 1) := by decide +kernel
theorem dX3_count_177 : decode cX3_count 177 = .ok (.getfield 12, 3) := by decide +kernel
theorem dX3_count_180 : decode cX3_count 180 = .ok (.getfield 164, 3) := by decide +kernel
theorem dX3_count_183 : decode cX3_count 183 = .ok (.ireturn, 1) := by decide +kernel
theorem dX3_count_184 : decode cX3_count 184 = .ok (.aload_n 0, 1) := by decide +kernel
theorem dX3_count_185 : decode cX3_count 185 = .ok (.getfield 12, 3) := by decide +kernel
theorem dX3_count_188 : decode cX3_count 188 = .ok (.invokevirtual 167, 3) := by decide +kernel
theorem dX3_count_191 : decode cX3_count 191 = .ok (.ireturn, 1) := by decide +kernel
theorem dX3_count_192 : decode cX3_count 192 = .ok (.aload_n 0, 1) := by decide +kernel
theorem dX3_count_193 : decode cX3_count 193 = .ok (.getfield 12, 3) := by decide +kernel
theorem dX3_count_196 : decode cX3_count 196 = .ok (.getfield 170, 3) := by decide +kernel
theorem dX3_count_199 : decode cX3_count 199 = .ok (.ireturn, 1) := by decide +kernel
theorem dX3_count_200 : decode cX3_count 200 = .ok (.aload_n 0, 1) := by decide +kernel
theorem dX3_count_201 : decode cX3_count 201 = .ok (.getfield 12, 3) := by decide +kernel
theorem dX3_count_204 : decode cX3_count 204 = .ok (.getfield 173, 3) := by decide +kernel
theorem dX3_count_207 : decode cX3_count 207 = .ok (.ireturn, 1) := by decide +kernel
theorem dX3_count_208 : decode cX3_count 208 = .ok (.aload_n 0, 1) := by decide +kernel
theorem dX3_count_209 : decode cX3_count 209 = .ok (.getfield 176, 3) := by decide +kernel
theorem dX3_count_212 : decode cX3_count 212 = .ok (.ireturn, 1) := by decide +kernel
theorem dX3_count_213 : decode cX3_count 213 = .ok (.aload_n 0, 1) := by decide +kernel
theorem dX3_count_214 : decode cX3_count 214 = .ok (.getfield 26, 3) := by decide +kernel
theorem dX3_count_217 : decode cX3_count 217 = .ok (.getfield 179, 3) := by decide +kernel
theorem dX3_count_220 : decode cX3_count 220 = .ok (.ireturn, 1) := by decide +kernel
theorem dX3_count_221 : decode cX3_count 221 = .ok (.aload_n 0, 1) := by decide +kernel
theorem dX3_count_222 : decode cX3_count 222 = .ok (.getfield 12, 3) := by decide +kernel
theorem dX3_count_225 : decode cX3_count 225 = .ok (.getfield 182, 3) := by decide +kernel
theorem dX3_count_228 : decode cX3_count 228 = .ok (.ireturn, 1) := by decide +kernel
theorem dX3_count_229 : decode cX3_count 229 = .ok (.aload_n 0, 1) := by decide +kernel
theorem dX3_count_230 : decode cX3_count 230 = .ok (.getfield 12, 3) := by decide +kernel
theorem dX3_count_233 : decode cX3_count 233 = .ok (.getfield 185, 3) := by decide +kernel
theorem dX3_count_236 : decode cX3_count 236 = .ok (.ireturn, 1) := by decide +kernel
theorem dX3_count_237 : decode cX3_count 237 = .ok (.aload_n 0, 1) := by decide +kernel
theorem dX3_count_238 : decode cX3_count 238 = .ok (.getfield 12, 3) := by decide +kernel
theorem dX3_count_241 : decode cX3_count 241 = .ok (.getfield 188, 3) := by decide +kernel
theorem dX3_count_244 : decode cX3_count 244 = .ok (.ireturn, 1) := by decide +kernel
theorem dX3_count_245 : decode cX3_count 245 = .ok (.aload_n 0, 1) := by decide +kernel
theorem dX3_count_246 : decode cX3_count 246 = .ok (.getfield 12, 3) := by decide +kernel
theorem dX3_count_249 : decode cX3_count 249 = .ok (.getfield 191, 3) := by decide +kernel
theorem dX3_count_252 : decode cX3_count 252 = .ok (.ireturn, 1) := by decide +kernel
theorem dX3_count_253 : decode cX3_count 253 = .ok (.ldc 65, 2) := by decide +kernel
theorem dX3_count_255 : decode cX3_count 255 = .ok (.ireturn, 1) := by decide +kernel
set_option maxRecDepth 20000 in
theorem ggX3_commit_X3_remember : GoodIn wsX3_commit wsX3_remember := goodIn_r _ [7, 8, 9, 1, 10, 11, 12, 6, 13, 14, 15, 16, 17, 18, 19, 20, 21, 22, 23, 24, 25, 26, 27, 28, 29, 30, 31, 32, 33, 34, 35, 36, 37, 38, 39, 40, 41, 42, 43, 44, 45, 46, 47, 48, 49, 50, 51, 52, 53, 54, 55, 56, 57, 58, 59, 60, 61, 62, 63, 64, 65, 66, 67, 68, 69, 70, 71, 72, 73, 74, 75, 76, 77, 78, 79, 80, 81, 82] (by decide +kernel) (by decide +kernel)
set_option maxRecDepth 20000 in
theorem gX3_commit_X3_remember : GoodIn wsX3_commit (wsV RX3 215 RX3 yX3_remember wsX3_remember) := goodIn_app (goodIn_of _ (by decide +kernel)) ggX3_commit_X3_remember
theorem dX3_commit_0 : decode cX3_commit 0 = .ok (.iload_n 1, 1) := by decide +kernel
theorem dX3_commit_1 : decode cX3_commit 1 = .ok (.ifCond .ge 5, 3) := by decide +kernel
theorem dX3_commit_4 : decode cX3_commit 4 = .ok (.iload_n 1, 1) := by decide +kernel
theorem dX3_commit_5 : decode cX3_commit 5 = .ok (.ireturn, 1) := by decide +kernel
theorem dX3_commit_6 : decode cX3_commit 6 = .ok (.aload_n 0, 1) := by decide +kernel
theorem dX3_commit_7 : decode cX3_commit 7 = .ok (.invokevirtual 215, 3) := by decide +kernel
theorem dX3_commit_10 : decode cX3_commit 10 = .ok (.aload_n 0, 1) := by decide +kernel
theorem dX3_commit_11 : decode cX3_commit 11 = .ok (.getfield 12, 3) := by decide +kernel
theorem dX3_commit_14 : decode cX3_commit 14 = .ok (.astore_n 2, 1) := by decide +kernel
theorem dX3_commit_15 : decode cX3_commit 15 = .ok (.aload_n 0, 1) := by decide +kernel
theorem dX3_commit_16 : decode cX3_commit 16 = .ok (.aload_n 0, 1) := by decide +kernel
theorem dX3_commit_17 : decode cX3_commit 17 = .ok (.getfield 16, 3) := by decide +kernel
theorem dX3_commit_20 : decode cX3_commit 20 = .ok (.putfield 12, 3) := by decide +kernel
theorem dX3_commit_23 : decode cX3_commit 23 = .ok (.aload_n 0, 1) := by decide +kernel
theorem dX3_commit_24 : decode cX3_commit 24 = .ok (.aload_n 2, 1) := by decide +kernel
theorem dX3_commit_25 : decode cX3_commit 25 = .ok (.putfield 16, 3) := by decide +kernel
theorem dX3_commit_28 : decode cX3_commit 28 = .ok (.iload_n 1, 1) := by decide +kernel
theorem dX3_commit_29 : decode cX3_commit 29 = .ok (.ireturn, 1) := by decide +kernel
set_option maxRecDepth 20000 in
theorem ggX3_remember_X3_dropOldestState : GoodIn wsX3_remember wsX3_dropOldestState := goodIn_r _ [8, 2, 1, 46, 47, 48, 49, 50, 51, 52, 53, 54] (by decide +kernel) (by decide +kernel)
set_option maxRecDepth 20000 in
theorem gX3_remember_X3_dropOldestState : GoodIn wsX3_remember (wsV RX3 218 RX3 yX3_dropOldestState wsX3_dropOldestState) := goodIn_app (goodIn_of _ (by decide +kernel)) ggX3_remember_X3_dropOldestState
set_option maxRecDepth 20000 in
theorem ggX3_remember_X2_copyFrom : GoodIn wsX3_remember wsX2_copyFrom := goodIn_r _ [13, 14, 15, 16, 17, 18, 19, 20, 21, 22, 23, 24, 25, 26, 27, 28, 29, 30, 12, 31, 32, 33, 34, 35, 36, 37, 38, 39, 40, 41, 42, 43, 44, 45, 55, 56, 57, 58, 59, 60, 61, 62, 63, 64, 65, 66, 67, 68, 69, 70, 71, 72, 73, 74, 75, 76, 77] (by decide +kernel) (by decide +kernel)
set_option maxRecDepth 20000 in
theorem gX3_remember_X2_copyFrom : GoodIn wsX3_remember (wsV RX3 30 RX2 yX2_copyFrom wsX2_copyFrom) := goodIn_app (goodIn_of _ (by decide +kernel)) ggX3_remember_X2_copyFrom
theorem dX3_remember_0 : decode cX3_remember 0 = .ok (.aload_n 0, 1) := by decide +kernel
theorem dX3_remember_1 : decode cX3_remember 1 = .ok (.getfield 176, 3) := by decide +kernel
theorem dX3_remember_4 : decode cX3_remember 4 = .ok (.aload_n 0, 1) := by decide +kernel
theorem dX3_remember_5 : decode cX3_remember 5 = .ok (.getfield 19, 3) := by decide +kernel
theorem dX3_remember_8 : decode cX3_remember 8 = .ok (.arraylength, 1) := by decide +kernel
theorem dX3_remember_9 : decode cX3_remember 9 = .ok (.if_icmp .lt 7, 3) := by decide +kernel
theorem dX3_remember_12 : decode cX3_remember 12 = .ok (.aload_n 0, 1) := by decide +kernel
theorem dX3_remember_13 : decode cX3_remember 13 = .ok (.invokevirtual 218, 3) := by decide +kernel
theorem dX3_remember_16 : decode cX3_remember 16 = .ok (.aload_n 0, 1) := by decide +kernel
theorem dX3_remember_17 : decode cX3_remember 17 = .ok (.getfield 176, 3) := by decide +kernel
theorem dX3_remember_20 : decode cX3_remember 20 = .ok (.ifCond .lt 15, 3) := by decide +kernel
theorem dX3_remember_23 : decode cX3_remember 23 = .ok (.aload_n 0, 1) := by decide +kernel
theorem dX3_remember_24 : decode cX3_remember 24 = .ok (.getfield 176, 3) := by decide +kernel
theorem dX3_remember_27 : decode cX3_remember 27 = .ok (.aload_n 0, 1) := by decide +kernel
theorem dX3_remember_28 : decode cX3_remember 28 = .ok (.getfield 19, 3) := by decide +kernel
theorem dX3_remember_31 : decode cX3_remember 31 = .ok (.arraylength, 1) := by decide +kernel
theorem dX3_remember_32 : decode cX3_remember 32 = .ok (.if_icmp .lt 4, 3) := by decide +kernel
theorem dX3_remember_35 : decode cX3_remember 35 = .ok (.return_, 1) := by decide +kernel
theorem dX3_remember_36 : decode cX3_remember 36 = .ok (.aload_n 0, 1) := by decide +kernel
theorem dX3_remember_37 : decode cX3_remember 37 = .ok (.getfield 19, 3) := by decide +kernel
theorem dX3_remember_40 : decode cX3_remember 40 = .ok (.aload_n 0, 1) := by decide +kernel
theorem dX3_remember_41 : decode cX3_remember 41 = .ok (.getfield 176, 3) := by decide +kernel
theorem dX3_remember_44 : decode cX3_remember 44 = .ok (.aaload, 1) := by decide +kernel
theorem dX3_remember_45 : decode cX3_remember 45 = .ok (.astore_n 1, 1) := by decide +kernel
theorem dX3_remember_46 : decode cX3_remember 46 = .ok (.aload_n 1, 1) := by decide +kernel
theorem dX3_remember_47 : decode cX3_remember 47 = .ok (.ifnull 21, 3) := by decide +kernel
theorem dX3_remember_50 : decode cX3_remember 50 = .ok (.aload_n 1, 1) := by decide +kernel
theorem dX3_remember_51 : decode cX3_remember 51 = .ok (.aload_n 0, 1) := by decide +kernel
theorem dX3_remember_52 : decode cX3_remember 52 = .ok (.getfield 12, 3) := by decide +kernel
theorem dX3_remember_55 : decode cX3_remember 55 = .ok (.invokevirtual 30, 3) := by decide +kernel
theorem dX3_remember_58 : decode cX3_remember 58 = .ok (.aload_n 0, 1) := by decide +kernel
theorem dX3_remember_59 : decode cX3_remember 59 = .ok (.dup, 1) := by decide +kernel
theorem dX3_remember_60 : decode cX3_remember 60 = .ok (.getfield 176, 3) := by decide +kernel
theorem dX3_remember_63 : decode cX3_remember 63 = .ok (.iconst 1, 1) := by decide +kernel
theorem dX3_remember_64 : decode cX3_remember 64 = .ok (.iadd, 1) := by decide +kernel
theorem dX3_remember_65 : decode cX3_remember 65 = .ok (.putfield 176, 3) := by decide +kernel
theorem dX3_remember_68 : decode cX3_remember 68 = .ok (.return_, 1) := by decide +kernel
theorem dX3_dropOldestState_0 : decode cX3_dropOldestState 0 = .ok (.iconst 0, 1) := by decide +kernel
theorem dX3_dropOldestState_1 : decode cX3_dropOldestState 1 = .ok (.istore_n 1, 1) := by decide +kernel
theorem dX3_dropOldestState_2 : decode cX3_dropOldestState 2 = .ok (.iload_n 1, 1) := by decide +kernel
theorem dX3_dropOldestState_3 : decode cX3_dropOldestState 3 = .ok (.iconst 1, 1) := by decide +kernel
theorem dX3_dropOldestState_4 : decode cX3_dropOldestState 4 = .ok (.iadd, 1) := by decide +kernel
theorem dX3_dropOldestState_5 : decode cX3_dropOldestState 5 = .ok (.aload_n 0, 1) := by decide +kernel
theorem dX3_dropOldestState_6 : decode cX3_dropOldestState 6 = .ok (.getfield 19, 3) := by decide +kernel
theorem dX3_dropOldestState_9 : decode cX3_dropOldestState 9 = .ok (.arraylength, 1) := by decide +kernel
theorem dX3_dropOldestState_10 : decode cX3_dropOldestState 10 = .ok (.if_icmp .ge 39, 3) := by decide +kernel
theorem dX3_dropOldestState_13 : decode cX3_dropOldestState 13 = .ok (.aload_n 0, 1) := by decide +kernel
theorem dX3_dropOldestState_14 : decode cX3_dropOldestState 14 = .ok (.getfield 19, 3) := by decide +kernel
theorem dX3_dropOldestState_17 : decode cX3_dropOldestState 17 = .ok (.iload_n 1, 1) := by decide +kernel
theorem dX3_dropOldestState_18 : decode cX3_dropOldestState 18 = .ok (.aaload, 1) := by decide +kernel
theorem dX3_dropOldestState_19 : decode cX3_dropOldestState 19 = .ok (.astore_n 2, 1) := by decide +kernel
theorem dX3_dropOldestState_20 : decode cX3_dropOldestState 20 = .ok (.aload_n 0, 1) := by decide +kernel
theorem dX3_dropOldestState_21 : decode cX3_dropOldestState 21 = .ok (.getfield 19, 3) := by decide +kernel
theorem dX3_dropOldestState_24 : decode cX3_dropOldestState 24 = .ok (.iload_n 1, 1) := by decide +kernel
theorem dX3_dropOldestState_25 : decode cX3_dropOldestState 25 = .ok (.aload_n 0, 1) := by decide +kernel
theorem dX3_dropOldestState_26 : decode cX3_dropOldestState 26 = .ok (.getfield 19, 3) := by decide +kernel
theorem dX3_dropOldestState_29 : decode cX3_dropOldestState 29 = .ok (.iload_n 1, 1) := by decide +kernel
theorem dX3_dropOldestState_30 : decode cX3_dropOldestState 30 = .ok (.iconst 1, 1) := by decide +kernel
theorem dX3_dropOldestState_31 : decode cX3_dropOldestState 31 = .ok (.iadd, 1) := by decide +kernel
theorem dX3_dropOldestState_32 : decode cX3_dropOldestState 32 = .ok (.aaload, 1) := by decide +kernel
theorem dX3_dropOldestState_33 : decode cX3_dropOldestState 33 = .ok (.aastore, 1) := by decide +kernel
theorem dX3_dropOldestState_34 : decode cX3_dropOldestState 34 = .ok (.aload_n 0, 1) := by decide +kernel
theorem dX3_dropOldestState_35 : decode cX3_dropOldestState 35 = .ok (.getfield 19, 3) := by decide +kernel
theorem dX3_dropOldestState_38 : decode cX3_dropOldestState 38 = .ok (.iload_n 1, 1) := by decide +kernel
theorem dX3_dropOldestState_39 : decode cX3_dropOldestState 39 = .ok (.iconst 1, 1) := by decide +kernel
theorem dX3_dropOldestState_40 : decode cX3_dropOldestState 40 = .ok (.iadd, 1) := by decide +kernel
theorem dX3_dropOldestState_41 : decode cX3_dropOldestState 41 = .ok (.aload_n 2, 1) := by decide +kernel
theorem dX3_dropOldestState_42 : decode cX3_dropOldestState 42 = .ok (.aastore, 1) := by decide +kernel
theorem dX3_dropOldestState_43 : decode cX3_dropOldestState 43 = .ok (.iinc 1 1, 3) := by decide +kernel
theorem dX3_dropOldestState_46 : decode cX3_dropOldestState 46 = .ok (.goto (-44), 3) := by decide +kernel
theorem dX3_dropOldestState_49 : decode cX3_dropOldestState 49 = .ok (.aload_n 0, 1) := by decide +kernel
theorem dX3_dropOldestState_50 : decode cX3_dropOldestState 50 = .ok (.dup, 1) := by decide +kernel
theorem dX3_dropOldestState_51 : decode cX3_dropOldestState 51 = .ok (.getfield 176, 3) := by decide +kernel
theorem dX3_dropOldestState_54 : decode cX3_dropOldestState 54 = .ok (.iconst 1, 1) := by decide +kernel
theorem dX3_dropOldestState_55 : decode cX3_dropOldestState 55 = .ok (.isub, 1) := by decide +kernel
theorem dX3_dropOldestState_56 : decode cX3_dropOldestState 56 = .ok (.putfield 176, 3) := by decide +kernel
theorem dX3_dropOldestState_59 : decode cX3_dropOldestState 59 = .ok (.return_, 1) := by decide +kernel
theorem dX3_isFlag_0 : decode cX3_isFlag 0 = .ok (.iload_n 0, 1) := by decide +kernel
theorem dX3_isFlag_1 : decode cX3_isFlag 1 = .ok (.ifCond .eq 8, 3) := by decide +kernel
theorem dX3_isFlag_4 : decode cX3_isFlag 4 = .ok (.iload_n 0, 1) := by decide +kernel
theorem dX3_isFlag_5 : decode cX3_isFlag 5 = .ok (.iconst 1, 1) := by decide +kernel
theorem dX3_isFlag_6 : decode cX3_isFlag 6 = .ok (.if_icmp .ne 7, 3) := by decide +kernel
theorem dX3_isFlag_9 : decode cX3_isFlag 9 = .ok (.iconst 1, 1) := by decide +kernel
theorem dX3_isFlag_10 : decode cX3_isFlag 10 = .ok (.goto 4, 3) := by decide +kernel
theorem dX3_isFlag_13 : decode cX3_isFlag 13 = .ok (.iconst 0, 1) := by decide +kernel
theorem dX3_isFlag_14 : decode cX3_isFlag 14 = .ok (.ireturn, 1) := by decide +kernel
theorem dX3_leakOf_0 : decode cX3_leakOf 0 = .ok (.iload_n 0, 1) := by decide +kernel
theorem dX3_leakOf_1 : decode cX3_leakOf 1 = .ok (.bipush 10, 2) := by decide +kernel
theorem dX3_leakOf_3 : decode cX3_leakOf 3 = .ok (.idiv, 1) := by decide +kernel
theorem dX3_leakOf_4 : decode cX3_leakOf 4 = .ok (.ireturn, 1) := by decide +kernel
theorem dX3_wearBehindDay_0 : decode cX3_wearBehindDay 0 = .ok (.bipush 100, 2) := by decide +kernel
theorem dX3_wearBehindDay_2 : decode cX3_wearBehindDay 2 = .ok (.iload_n 0, 1) := by decide +kernel
theorem dX3_wearBehindDay_3 : decode cX3_wearBehindDay 3 = .ok (.iload_n 1, 1) := by decide +kernel
theorem dX3_wearBehindDay_4 : decode cX3_wearBehindDay 4 = .ok (.iconst 2, 1) := by decide +kernel
theorem dX3_wearBehindDay_5 : decode cX3_wearBehindDay 5 = .ok (.idiv, 1) := by decide +kernel
theorem dX3_wearBehindDay_6 : decode cX3_wearBehindDay 6 = .ok (.iadd, 1) := by decide +kernel
theorem dX3_wearBehindDay_7 : decode cX3_wearBehindDay 7 = .ok (.iconst 1, 1) := by decide +kernel
theorem dX3_wearBehindDay_8 : decode cX3_wearBehindDay 8 = .ok (.iadd, 1) := by decide +kernel
theorem dX3_wearBehindDay_9 : decode cX3_wearBehindDay 9 = .ok (.invokestatic 243, 3) := by decide +kernel
theorem dX3_wearBehindDay_12 : decode cX3_wearBehindDay 12 = .ok (.ireturn, 1) := by decide +kernel
set_option maxRecDepth 20000 in
theorem ggX3_heatBehindDay_X3_leakOf : GoodIn wsX3_heatBehindDay wsX3_leakOf := goodIn_r _ [11] (by decide +kernel) (by decide +kernel)
set_option maxRecDepth 20000 in
theorem gX3_heatBehindDay_X3_leakOf : GoodIn wsX3_heatBehindDay (va_wsS RX3 78 yX3_leakOf wsX3_leakOf) := goodIn_app (goodIn_of _ (by decide +kernel)) ggX3_heatBehindDay_X3_leakOf
theorem dX3_heatBehindDay_0 : decode cX3_heatBehindDay 0 = .ok (.iload_n 1, 1) := by decide +kernel
theorem dX3_heatBehindDay_1 : decode cX3_heatBehindDay 1 = .ok (.invokestatic 78, 3) := by decide +kernel
theorem dX3_heatBehindDay_4 : decode cX3_heatBehindDay 4 = .ok (.istore_n 2, 1) := by decide +kernel
theorem dX3_heatBehindDay_5 : decode cX3_heatBehindDay 5 = .ok (.iload_n 2, 1) := by decide +kernel
theorem dX3_heatBehindDay_6 : decode cX3_heatBehindDay 6 = .ok (.ifCond .ne 13, 3) := by decide +kernel
theorem dX3_heatBehindDay_9 : decode cX3_heatBehindDay 9 = .ok (.bipush 100, 2) := by decide +kernel
theorem dX3_heatBehindDay_11 : decode cX3_heatBehindDay 11 = .ok (.iload_n 0, 1) := by decide +kernel
theorem dX3_heatBehindDay_12 : decode cX3_heatBehindDay 12 = .ok (.bipush 10, 2) := by decide +kernel
theorem dX3_heatBehindDay_14 : decode cX3_heatBehindDay 14 = .ok (.iadd, 1) := by decide +kernel
theorem dX3_heatBehindDay_15 : decode cX3_heatBehindDay 15 = .ok (.invokestatic 243, 3) := by decide +kernel
theorem dX3_heatBehindDay_18 : decode cX3_heatBehindDay 18 = .ok (.ireturn, 1) := by decide +kernel
theorem dX3_heatBehindDay_19 : decode cX3_heatBehindDay 19 = .ok (.iconst 0, 1) := by decide +kernel
theorem dX3_heatBehindDay_20 : decode cX3_heatBehindDay 20 = .ok (.iload_n 0, 1) := by decide +kernel
theorem dX3_heatBehindDay_21 : decode cX3_heatBehindDay 21 = .ok (.iload_n 2, 1) := by decide +kernel
theorem dX3_heatBehindDay_22 : decode cX3_heatBehindDay 22 = .ok (.iconst 2, 1) := by decide +kernel
theorem dX3_heatBehindDay_23 : decode cX3_heatBehindDay 23 = .ok (.imul, 1) := by decide +kernel
theorem dX3_heatBehindDay_24 : decode cX3_heatBehindDay 24 = .ok (.isub, 1) := by decide +kernel
theorem dX3_heatBehindDay_25 : decode cX3_heatBehindDay 25 = .ok (.invokestatic 248, 3) := by decide +kernel
theorem dX3_heatBehindDay_28 : decode cX3_heatBehindDay 28 = .ok (.ireturn, 1) := by decide +kernel
theorem dX3_tensBegun_0 : decode cX3_tensBegun 0 = .ok (.iload_n 0, 1) := by decide +kernel
theorem dX3_tensBegun_1 : decode cX3_tensBegun 1 = .ok (.bipush 9, 2) := by decide +kernel
theorem dX3_tensBegun_3 : decode cX3_tensBegun 3 = .ok (.iadd, 1) := by decide +kernel
theorem dX3_tensBegun_4 : decode cX3_tensBegun 4 = .ok (.bipush 10, 2) := by decide +kernel
theorem dX3_tensBegun_6 : decode cX3_tensBegun 6 = .ok (.idiv, 1) := by decide +kernel
theorem dX3_tensBegun_7 : decode cX3_tensBegun 7 = .ok (.ireturn, 1) := by decide +kernel
set_option maxRecDepth 20000 in
theorem ggX3_hoursOfWay_X3_tensBegun : GoodIn wsX3_hoursOfWay wsX3_tensBegun := goodIn_r _ [8] (by decide +kernel) (by decide +kernel)
set_option maxRecDepth 20000 in
theorem gX3_hoursOfWay_X3_tensBegun : GoodIn wsX3_hoursOfWay (va_wsS RX3 254 yX3_tensBegun wsX3_tensBegun) := goodIn_app (goodIn_of _ (by decide +kernel)) ggX3_hoursOfWay_X3_tensBegun
theorem dX3_hoursOfWay_0 : decode cX3_hoursOfWay 0 = .ok (.iload_n 0, 1) := by decide +kernel
theorem dX3_hoursOfWay_1 : decode cX3_hoursOfWay 1 = .ok (.iload_n 1, 1) := by decide +kernel
theorem dX3_hoursOfWay_2 : decode cX3_hoursOfWay 2 = .ok (.isub, 1) := by decide +kernel
theorem dX3_hoursOfWay_3 : decode cX3_hoursOfWay 3 = .ok (.invokestatic 251, 3) := by decide +kernel
theorem dX3_hoursOfWay_6 : decode cX3_hoursOfWay 6 = .ok (.invokestatic 254, 3) := by decide +kernel
theorem dX3_hoursOfWay_9 : decode cX3_hoursOfWay 9 = .ok (.ireturn, 1) := by decide +kernel
theorem dX3_hoursOfMend_0 : decode cX3_hoursOfMend 0 = .ok (.iload_n 0, 1) := by decide +kernel
theorem dX3_hoursOfMend_1 : decode cX3_hoursOfMend 1 = .ok (.ifCond .eq 7, 3) := by decide +kernel
theorem dX3_hoursOfMend_4 : decode cX3_hoursOfMend 4 = .ok (.iconst 3, 1) := by decide +kernel
theorem dX3_hoursOfMend_5 : decode cX3_hoursOfMend 5 = .ok (.goto 4, 3) := by decide +kernel
theorem dX3_hoursOfMend_8 : decode cX3_hoursOfMend 8 = .ok (.iconst 1, 1) := by decide +kernel
theorem dX3_hoursOfMend_9 : decode cX3_hoursOfMend 9 = .ok (.ireturn, 1) := by decide +kernel
theorem dJ6_bitCount_0f7a4_0 : decode cJ6_bitCount_0f7a4 0 = .ok (.iload_n 0, 1) := by decide +kernel
theorem dJ6_bitCount_0f7a4_1 : decode cJ6_bitCount_0f7a4 1 = .ok (.iload_n 0, 1) := by decide +kernel
theorem dJ6_bitCount_0f7a4_2 : decode cJ6_bitCount_0f7a4 2 = .ok (.iconst 1, 1) := by decide +kernel
theorem dJ6_bitCount_0f7a4_3 : decode cJ6_bitCount_0f7a4 3 = .ok (.iushr, 1) := by decide +kernel
theorem dJ6_bitCount_0f7a4_4 : decode cJ6_bitCount_0f7a4 4 = .ok (.ldc_w 265, 3) := by decide +kernel
theorem dJ6_bitCount_0f7a4_7 : decode cJ6_bitCount_0f7a4 7 = .ok (.iand, 1) := by decide +kernel
theorem dJ6_bitCount_0f7a4_8 : decode cJ6_bitCount_0f7a4 8 = .ok (.isub, 1) := by decide +kernel
theorem dJ6_bitCount_0f7a4_9 : decode cJ6_bitCount_0f7a4 9 = .ok (.istore_n 0, 1) := by decide +kernel
theorem dJ6_bitCount_0f7a4_10 : decode cJ6_bitCount_0f7a4 10 = .ok (.iload_n 0, 1) := by decide +kernel
theorem dJ6_bitCount_0f7a4_11 : decode cJ6_bitCount_0f7a4 11 = .ok (.ldc_w 266, 3) := by decide +kernel
theorem dJ6_bitCount_0f7a4_14 : decode cJ6_bitCount_0f7a4 14 = .ok (.iand, 1) := by decide +kernel
theorem dJ6_bitCount_0f7a4_15 : decode cJ6_bitCount_0f7a4 15 = .ok (.iload_n 0, 1) := by decide +kernel
theorem dJ6_bitCount_0f7a4_16 : decode cJ6_bitCount_0f7a4 16 = .ok (.iconst 2, 1) := by decide +kernel
theorem dJ6_bitCount_0f7a4_17 : decode cJ6_bitCount_0f7a4 17 = .ok (.iushr, 1) := by decide +kernel
theorem dJ6_bitCount_0f7a4_18 : decode cJ6_bitCount_0f7a4 18 = .ok (.ldc_w 266, 3) := by decide +kernel
theorem dJ6_bitCount_0f7a4_21 : decode cJ6_bitCount_0f7a4 21 = .ok (.iand, 1) := by decide +kernel
theorem dJ6_bitCount_0f7a4_22 : decode cJ6_bitCount_0f7a4 22 = .ok (.iadd, 1) := by decide +kernel
theorem dJ6_bitCount_0f7a4_23 : decode cJ6_bitCount_0f7a4 23 = .ok (.istore_n 0, 1) := by decide +kernel
theorem dJ6_bitCount_0f7a4_24 : decode cJ6_bitCount_0f7a4 24 = .ok (.iload_n 0, 1) := by decide +kernel
theorem dJ6_bitCount_0f7a4_25 : decode cJ6_bitCount_0f7a4 25 = .ok (.iload_n 0, 1) := by decide +kernel
theorem dJ6_bitCount_0f7a4_26 : decode cJ6_bitCount_0f7a4 26 = .ok (.iconst 4, 1) := by decide +kernel
theorem dJ6_bitCount_0f7a4_27 : decode cJ6_bitCount_0f7a4 27 = .ok (.iushr, 1) := by decide +kernel
theorem dJ6_bitCount_0f7a4_28 : decode cJ6_bitCount_0f7a4 28 = .ok (.iadd, 1) := by decide +kernel
theorem dJ6_bitCount_0f7a4_29 : decode cJ6_bitCount_0f7a4 29 = .ok (.ldc_w 267, 3) := by decide +kernel
theorem dJ6_bitCount_0f7a4_32 : decode cJ6_bitCount_0f7a4 32 = .ok (.iand, 1) := by decide +kernel
theorem dJ6_bitCount_0f7a4_33 : decode cJ6_bitCount_0f7a4 33 = .ok (.istore_n 0, 1) := by decide +kernel
theorem dJ6_bitCount_0f7a4_34 : decode cJ6_bitCount_0f7a4 34 = .ok (.iload_n 0, 1) := by decide +kernel
theorem dJ6_bitCount_0f7a4_35 : decode cJ6_bitCount_0f7a4 35 = .ok (.iload_n 0, 1) := by decide +kernel
theorem dJ6_bitCount_0f7a4_36 : decode cJ6_bitCount_0f7a4 36 = .ok (.bipush 8, 2) := by decide +kernel
theorem dJ6_bitCount_0f7a4_38 : decode cJ6_bitCount_0f7a4 38 = .ok (.iushr, 1) := by decide +kernel
theorem dJ6_bitCount_0f7a4_39 : decode cJ6_bitCount_0f7a4 39 = .ok (.iadd, 1) := by decide +kernel
theorem dJ6_bitCount_0f7a4_40 : decode cJ6_bitCount_0f7a4 40 = .ok (.istore_n 0, 1) := by decide +kernel
theorem dJ6_bitCount_0f7a4_41 : decode cJ6_bitCount_0f7a4 41 = .ok (.iload_n 0, 1) := by decide +kernel
theorem dJ6_bitCount_0f7a4_42 : decode cJ6_bitCount_0f7a4 42 = .ok (.iload_n 0, 1) := by decide +kernel
theorem dJ6_bitCount_0f7a4_43 : decode cJ6_bitCount_0f7a4 43 = .ok (.bipush 16, 2) := by decide +kernel
theorem dJ6_bitCount_0f7a4_45 : decode cJ6_bitCount_0f7a4 45 = .ok (.iushr, 1) := by decide +kernel
theorem dJ6_bitCount_0f7a4_46 : decode cJ6_bitCount_0f7a4 46 = .ok (.iadd, 1) := by decide +kernel
theorem dJ6_bitCount_0f7a4_47 : decode cJ6_bitCount_0f7a4 47 = .ok (.istore_n 0, 1) := by decide +kernel
theorem dJ6_bitCount_0f7a4_48 : decode cJ6_bitCount_0f7a4 48 = .ok (.iload_n 0, 1) := by decide +kernel
theorem dJ6_bitCount_0f7a4_49 : decode cJ6_bitCount_0f7a4 49 = .ok (.bipush 63, 2) := by decide +kernel
theorem dJ6_bitCount_0f7a4_51 : decode cJ6_bitCount_0f7a4 51 = .ok (.iand, 1) := by decide +kernel
theorem dJ6_bitCount_0f7a4_52 : decode cJ6_bitCount_0f7a4 52 = .ok (.ireturn, 1) := by decide +kernel
theorem dJ9_abs_0f7a4_0 : decode cJ9_abs_0f7a4 0 = .ok (.iload_n 0, 1) := by decide +kernel
theorem dJ9_abs_0f7a4_1 : decode cJ9_abs_0f7a4 1 = .ok (.ifCond .ge 8, 3) := by decide +kernel
theorem dJ9_abs_0f7a4_4 : decode cJ9_abs_0f7a4 4 = .ok (.iload_n 0, 1) := by decide +kernel
theorem dJ9_abs_0f7a4_5 : decode cJ9_abs_0f7a4 5 = .ok (.ineg, 1) := by decide +kernel
theorem dJ9_abs_0f7a4_6 : decode cJ9_abs_0f7a4 6 = .ok (.goto 4, 3) := by decide +kernel
theorem dJ9_abs_0f7a4_9 : decode cJ9_abs_0f7a4 9 = .ok (.iload_n 0, 1) := by decide +kernel
theorem dJ9_abs_0f7a4_10 : decode cJ9_abs_0f7a4 10 = .ok (.ireturn, 1) := by decide +kernel
theorem dJ9_max_7cf53_0 : decode cJ9_max_7cf53 0 = .ok (.iload_n 0, 1) := by decide +kernel
theorem dJ9_max_7cf53_1 : decode cJ9_max_7cf53 1 = .ok (.iload_n 1, 1) := by decide +kernel
theorem dJ9_max_7cf53_2 : decode cJ9_max_7cf53 2 = .ok (.if_icmp .lt 7, 3) := by decide +kernel
theorem dJ9_max_7cf53_5 : decode cJ9_max_7cf53 5 = .ok (.iload_n 0, 1) := by decide +kernel
theorem dJ9_max_7cf53_6 : decode cJ9_max_7cf53 6 = .ok (.goto 4, 3) := by decide +kernel
theorem dJ9_max_7cf53_9 : decode cJ9_max_7cf53 9 = .ok (.iload_n 1, 1) := by decide +kernel
theorem dJ9_max_7cf53_10 : decode cJ9_max_7cf53 10 = .ok (.ireturn, 1) := by decide +kernel
theorem dJ9_min_7cf53_0 : decode cJ9_min_7cf53 0 = .ok (.iload_n 0, 1) := by decide +kernel
theorem dJ9_min_7cf53_1 : decode cJ9_min_7cf53 1 = .ok (.iload_n 1, 1) := by decide +kernel
theorem dJ9_min_7cf53_2 : decode cJ9_min_7cf53 2 = .ok (.if_icmp .gt 7, 3) := by decide +kernel
theorem dJ9_min_7cf53_5 : decode cJ9_min_7cf53 5 = .ok (.iload_n 0, 1) := by decide +kernel
theorem dJ9_min_7cf53_6 : decode cJ9_min_7cf53 6 = .ok (.goto 4, 3) := by decide +kernel
theorem dJ9_min_7cf53_9 : decode cJ9_min_7cf53 9 = .ok (.iload_n 1, 1) := by decide +kernel
theorem dJ9_min_7cf53_10 : decode cJ9_min_7cf53 10 = .ok (.ireturn, 1) := by decide +kernel
theorem dL_cell_0 : decode cL_cell 0 = .ok (.iload_n 1, 1) := by decide +kernel
theorem dL_cell_1 : decode cL_cell 1 = .ok (.aload_n 0, 1) := by decide +kernel
theorem dL_cell_2 : decode cL_cell 2 = .ok (.arraylength, 1) := by decide +kernel
theorem dL_cell_3 : decode cL_cell 3 = .ok (.if_icmp .ge 9, 3) := by decide +kernel
theorem dL_cell_6 : decode cL_cell 6 = .ok (.aload_n 0, 1) := by decide +kernel
theorem dL_cell_7 : decode cL_cell 7 = .ok (.iload_n 1, 1) := by decide +kernel
theorem dL_cell_8 : decode cL_cell 8 = .ok (.iaload, 1) := by decide +kernel
theorem dL_cell_9 : decode cL_cell 9 = .ok (.goto 9, 3) := by decide +kernel
theorem dL_cell_12 : decode cL_cell 12 = .ok (.ldc 7, 2) := by decide +kernel
theorem dL_cell_14 : decode cL_cell 14 = .ok (.iload_n 1, 1) := by decide +kernel
theorem dL_cell_15 : decode cL_cell 15 = .ok (.iconst 3, 1) := by decide +kernel
theorem dL_cell_16 : decode cL_cell 16 = .ok (.iadd, 1) := by decide +kernel
theorem dL_cell_17 : decode cL_cell 17 = .ok (.imul, 1) := by decide +kernel
theorem dL_cell_18 : decode cL_cell 18 = .ok (.ireturn, 1) := by decide +kernel
theorem dL_low_0 : decode cL_low 0 = .ok (.iload_n 0, 1) := by decide +kernel
theorem dL_low_1 : decode cL_low 1 = .ok (.ldc 8, 2) := by decide +kernel
theorem dL_low_3 : decode cL_low 3 = .ok (.iand, 1) := by decide +kernel
theorem dL_low_4 : decode cL_low 4 = .ok (.iload_n 1, 1) := by decide +kernel
theorem dL_low_5 : decode cL_low 5 = .ok (.irem, 1) := by decide +kernel
theorem dL_low_6 : decode cL_low 6 = .ok (.ireturn, 1) := by decide +kernel
theorem dL_apart_0 : decode cL_apart 0 = .ok (.iload_n 0, 1) := by decide +kernel
theorem dL_apart_1 : decode cL_apart 1 = .ok (.iload_n 1, 1) := by decide +kernel
theorem dL_apart_2 : decode cL_apart 2 = .ok (.if_icmp .ge 9, 3) := by decide +kernel
theorem dL_apart_5 : decode cL_apart 5 = .ok (.iload_n 1, 1) := by decide +kernel
theorem dL_apart_6 : decode cL_apart 6 = .ok (.iload_n 0, 1) := by decide +kernel
theorem dL_apart_7 : decode cL_apart 7 = .ok (.isub, 1) := by decide +kernel
theorem dL_apart_8 : decode cL_apart 8 = .ok (.goto 6, 3) := by decide +kernel
theorem dL_apart_11 : decode cL_apart 11 = .ok (.iload_n 0, 1) := by decide +kernel
theorem dL_apart_12 : decode cL_apart 12 = .ok (.iload_n 1, 1) := by decide +kernel
theorem dL_apart_13 : decode cL_apart 13 = .ok (.isub, 1) := by decide +kernel
theorem dL_apart_14 : decode cL_apart 14 = .ok (.ireturn, 1) := by decide +kernel
theorem dL_tens_0 : decode cL_tens 0 = .ok (.iload_n 0, 1) := by decide +kernel
theorem dL_tens_1 : decode cL_tens 1 = .ok (.bipush 10, 2) := by decide +kernel
theorem dL_tens_3 : decode cL_tens 3 = .ok (.idiv, 1) := by decide +kernel
theorem dL_tens_4 : decode cL_tens 4 = .ok (.iload_n 0, 1) := by decide +kernel
theorem dL_tens_5 : decode cL_tens 5 = .ok (.bipush 10, 2) := by decide +kernel
theorem dL_tens_7 : decode cL_tens 7 = .ok (.irem, 1) := by decide +kernel
theorem dL_tens_8 : decode cL_tens 8 = .ok (.ifCond .le 7, 3) := by decide +kernel
theorem dL_tens_11 : decode cL_tens 11 = .ok (.iconst 1, 1) := by decide +kernel
theorem dL_tens_12 : decode cL_tens 12 = .ok (.goto 4, 3) := by decide +kernel
theorem dL_tens_15 : decode cL_tens 15 = .ok (.iconst 0, 1) := by decide +kernel
theorem dL_tens_16 : decode cL_tens 16 = .ok (.iadd, 1) := by decide +kernel
theorem dL_tens_17 : decode cL_tens 17 = .ok (.ireturn, 1) := by decide +kernel
theorem dL_day_0 : decode cL_day 0 = .ok (.aload_n 1, 1) := by decide +kernel
theorem dL_day_1 : decode cL_day 1 = .ok (.iload_n 2, 1) := by decide +kernel
theorem dL_day_2 : decode cL_day 2 = .ok (.iconst 2, 1) := by decide +kernel
theorem dL_day_3 : decode cL_day 3 = .ok (.iadd, 1) := by decide +kernel
theorem dL_day_4 : decode cL_day 4 = .ok (.dup2, 1) := by decide +kernel
theorem dL_day_5 : decode cL_day 5 = .ok (.iaload, 1) := by decide +kernel
theorem dL_day_6 : decode cL_day 6 = .ok (.iconst 1, 1) := by decide +kernel
theorem dL_day_7 : decode cL_day 7 = .ok (.aload_n 1, 1) := by decide +kernel
theorem dL_day_8 : decode cL_day 8 = .ok (.iload_n 2, 1) := by decide +kernel
theorem dL_day_9 : decode cL_day 9 = .ok (.iconst 1, 1) := by decide +kernel
theorem dL_day_10 : decode cL_day 10 = .ok (.iadd, 1) := by decide +kernel
theorem dL_day_11 : decode cL_day 11 = .ok (.iaload, 1) := by decide +kernel
theorem dL_day_12 : decode cL_day 12 = .ok (.iconst 2, 1) := by decide +kernel
theorem dL_day_13 : decode cL_day 13 = .ok (.idiv, 1) := by decide +kernel
theorem dL_day_14 : decode cL_day 14 = .ok (.iadd, 1) := by decide +kernel
theorem dL_day_15 : decode cL_day 15 = .ok (.iadd, 1) := by decide +kernel
theorem dL_day_16 : decode cL_day 16 = .ok (.iastore, 1) := by decide +kernel
theorem dL_day_17 : decode cL_day 17 = .ok (.aload_n 1, 1) := by decide +kernel
theorem dL_day_18 : decode cL_day 18 = .ok (.iload_n 2, 1) := by decide +kernel
theorem dL_day_19 : decode cL_day 19 = .ok (.iconst 2, 1) := by decide +kernel
theorem dL_day_20 : decode cL_day 20 = .ok (.iadd, 1) := by decide +kernel
theorem dL_day_21 : decode cL_day 21 = .ok (.aload_n 1, 1) := by decide +kernel
theorem dL_day_22 : decode cL_day 22 = .ok (.iload_n 2, 1) := by decide +kernel
theorem dL_day_23 : decode cL_day 23 = .ok (.iconst 2, 1) := by decide +kernel
theorem dL_day_24 : decode cL_day 24 = .ok (.iadd, 1) := by decide +kernel
theorem dL_day_25 : decode cL_day 25 = .ok (.iaload, 1) := by decide +kernel
theorem dL_day_26 : decode cL_day 26 = .ok (.bipush 100, 2) := by decide +kernel
theorem dL_day_28 : decode cL_day 28 = .ok (.if_icmp .le 8, 3) := by decide +kernel
theorem dL_day_31 : decode cL_day 31 = .ok (.bipush 100, 2) := by decide +kernel
theorem dL_day_33 : decode cL_day 33 = .ok (.goto 8, 3) := by decide +kernel
theorem dL_day_36 : decode cL_day 36 = .ok (.aload_n 1, 1) := by decide +kernel
theorem dL_day_37 : decode cL_day 37 = .ok (.iload_n 2, 1) := by decide +kernel
theorem dL_day_38 : decode cL_day 38 = .ok (.iconst 2, 1) := by decide +kernel
theorem dL_day_39 : decode cL_day 39 = .ok (.iadd, 1) := by decide +kernel
theorem dL_day_40 : decode cL_day 40 = .ok (.iaload, 1) := by decide +kernel
theorem dL_day_41 : decode cL_day 41 = .ok (.iastore, 1) := by decide +kernel
theorem dL_day_42 : decode cL_day 42 = .ok (.aload_n 1, 1) := by decide +kernel
theorem dL_day_43 : decode cL_day 43 = .ok (.iload_n 2, 1) := by decide +kernel
theorem dL_day_44 : decode cL_day 44 = .ok (.iconst 2, 1) := by decide +kernel
theorem dL_day_45 : decode cL_day 45 = .ok (.iadd, 1) := by decide +kernel
theorem dL_day_46 : decode cL_day 46 = .ok (.iaload, 1) := by decide +kernel
theorem dL_day_47 : decode cL_day 47 = .ok (.bipush 10, 2) := by decide +kernel
theorem dL_day_49 : decode cL_day 49 = .ok (.idiv, 1) := by decide +kernel
theorem dL_day_50 : decode cL_day 50 = .ok (.istore_n 3, 1) := by decide +kernel
theorem dL_day_51 : decode cL_day 51 = .ok (.aload_n 1, 1) := by decide +kernel
theorem dL_day_52 : decode cL_day 52 = .ok (.iload_n 2, 1) := by decide +kernel
theorem dL_day_53 : decode cL_day 53 = .ok (.iconst 3, 1) := by decide +kernel
theorem dL_day_54 : decode cL_day 54 = .ok (.iadd, 1) := by decide +kernel
theorem dL_day_55 : decode cL_day 55 = .ok (.dup2, 1) := by decide +kernel
theorem dL_day_56 : decode cL_day 56 = .ok (.iaload, 1) := by decide +kernel
theorem dL_day_57 : decode cL_day 57 = .ok (.iload_n 3, 1) := by decide +kernel
theorem dL_day_58 : decode cL_day 58 = .ok (.ifCond .ne 8, 3) := by decide +kernel
theorem dL_day_61 : decode cL_day 61 = .ok (.bipush (-10), 2) := by decide +kernel
theorem dL_day_63 : decode cL_day 63 = .ok (.goto 6, 3) := by decide +kernel
theorem dL_day_66 : decode cL_day 66 = .ok (.iload_n 3, 1) := by decide +kernel
theorem dL_day_67 : decode cL_day 67 = .ok (.iload_n 3, 1) := by decide +kernel
theorem dL_day_68 : decode cL_day 68 = .ok (.iadd, 1) := by decide +kernel
theorem dL_day_69 : decode cL_day 69 = .ok (.isub, 1) := by decide +kernel
theorem dL_day_70 : decode cL_day 70 = .ok (.iastore, 1) := by decide +kernel
theorem dL_day_71 : decode cL_day 71 = .ok (.aload_n 1, 1) := by decide +kernel
theorem dL_day_72 : decode cL_day 72 = .ok (.iload_n 2, 1) := by decide +kernel
theorem dL_day_73 : decode cL_day 73 = .ok (.iconst 3, 1) := by decide +kernel
theorem dL_day_74 : decode cL_day 74 = .ok (.iadd, 1) := by decide +kernel
theorem dL_day_75 : decode cL_day 75 = .ok (.aload_n 1, 1) := by decide +kernel
theorem dL_day_76 : decode cL_day 76 = .ok (.iload_n 2, 1) := by decide +kernel
theorem dL_day_77 : decode cL_day 77 = .ok (.iconst 3, 1) := by decide +kernel
theorem dL_day_78 : decode cL_day 78 = .ok (.iadd, 1) := by decide +kernel
theorem dL_day_79 : decode cL_day 79 = .ok (.iaload, 1) := by decide +kernel
theorem dL_day_80 : decode cL_day 80 = .ok (.bipush 100, 2) := by decide +kernel
theorem dL_day_82 : decode cL_day 82 = .ok (.if_icmp .le 8, 3) := by decide +kernel
theorem dL_day_85 : decode cL_day 85 = .ok (.bipush 100, 2) := by decide +kernel
theorem dL_day_87 : decode cL_day 87 = .ok (.goto 20, 3) := by decide +kernel
theorem dL_day_90 : decode cL_day 90 = .ok (.aload_n 1, 1) := by decide +kernel
theorem dL_day_91 : decode cL_day 91 = .ok (.iload_n 2, 1) := by decide +kernel
theorem dL_day_92 : decode cL_day 92 = .ok (.iconst 3, 1) := by decide +kernel
theorem dL_day_93 : decode cL_day 93 = .ok (.iadd, 1) := by decide +kernel
theorem dL_day_94 : decode cL_day 94 = .ok (.iaload, 1) := by decide +kernel
theorem dL_day_95 : decode cL_day 95 = .ok (.ifCond .ge 7, 3) := by decide +kernel
theorem dL_day_98 : decode cL_day 98 = .ok (.iconst 0, 1) := by decide +kernel
theorem dL_day_99 : decode cL_day 99 = .ok (.goto 8, 3) := by decide +kernel
theorem dL_day_102 : decode cL_day 102 = .ok (.aload_n 1, 1) := by decide +kernel
theorem dL_day_103 : decode cL_day 103 = .ok (.iload_n 2, 1) := by decide +kernel
theorem dL_day_104 : decode cL_day 104 = .ok (.iconst 3, 1) := by decide +kernel
theorem dL_day_105 : decode cL_day 105 = .ok (.iadd, 1) := by decide +kernel
theorem dL_day_106 : decode cL_day 106 = .ok (.iaload, 1) := by decide +kernel
theorem dL_day_107 : decode cL_day 107 = .ok (.iastore, 1) := by decide +kernel
theorem dL_day_108 : decode cL_day 108 = .ok (.aload_n 1, 1) := by decide +kernel
theorem dL_day_109 : decode cL_day 109 = .ok (.iload_n 2, 1) := by decide +kernel
theorem dL_day_110 : decode cL_day 110 = .ok (.iconst 4, 1) := by decide +kernel
theorem dL_day_111 : decode cL_day 111 = .ok (.iadd, 1) := by decide +kernel
theorem dL_day_112 : decode cL_day 112 = .ok (.aload_n 1, 1) := by decide +kernel
theorem dL_day_113 : decode cL_day 113 = .ok (.iload_n 2, 1) := by decide +kernel
theorem dL_day_114 : decode cL_day 114 = .ok (.iconst 3, 1) := by decide +kernel
theorem dL_day_115 : decode cL_day 115 = .ok (.iadd, 1) := by decide +kernel
theorem dL_day_116 : decode cL_day 116 = .ok (.iaload, 1) := by decide +kernel
theorem dL_day_117 : decode cL_day 117 = .ok (.aload_n 0, 1) := by decide +kernel
theorem dL_day_118 : decode cL_day 118 = .ok (.bipush 10, 2) := by decide +kernel
theorem dL_day_120 : decode cL_day 120 = .ok (.iaload, 1) := by decide +kernel
theorem dL_day_121 : decode cL_day 121 = .ok (.if_icmp .ge 13, 3) := by decide +kernel
theorem dL_day_124 : decode cL_day 124 = .ok (.aload_n 1, 1) := by decide +kernel
theorem dL_day_125 : decode cL_day 125 = .ok (.iload_n 2, 1) := by decide +kernel
theorem dL_day_126 : decode cL_day 126 = .ok (.iconst 4, 1) := by decide +kernel
theorem dL_day_127 : decode cL_day 127 = .ok (.iadd, 1) := by decide +kernel
theorem dL_day_128 : decode cL_day 128 = .ok (.iaload, 1) := by decide +kernel
theorem dL_day_129 : decode cL_day 129 = .ok (.iconst 1, 1) := by decide +kernel
theorem dL_day_130 : decode cL_day 130 = .ok (.iadd, 1) := by decide +kernel
theorem dL_day_131 : decode cL_day 131 = .ok (.goto 4, 3) := by decide +kernel
theorem dL_day_134 : decode cL_day 134 = .ok (.iconst 0, 1) := by decide +kernel
theorem dL_day_135 : decode cL_day 135 = .ok (.iastore, 1) := by decide +kernel
theorem dL_day_136 : decode cL_day 136 = .ok (.aload_n 0, 1) := by decide +kernel
theorem dL_day_137 : decode cL_day 137 = .ok (.bipush 8, 2) := by decide +kernel
theorem dL_day_139 : decode cL_day 139 = .ok (.aload_n 0, 1) := by decide +kernel
theorem dL_day_140 : decode cL_day 140 = .ok (.bipush 8, 2) := by decide +kernel
theorem dL_day_142 : decode cL_day 142 = .ok (.iaload, 1) := by decide +kernel
theorem dL_day_143 : decode cL_day 143 = .ok (.aload_n 1, 1) := by decide +kernel
theorem dL_day_144 : decode cL_day 144 = .ok (.iload_n 2, 1) := by decide +kernel
theorem dL_day_145 : decode cL_day 145 = .ok (.iconst 4, 1) := by decide +kernel
theorem dL_day_146 : decode cL_day 146 = .ok (.iadd, 1) := by decide +kernel
theorem dL_day_147 : decode cL_day 147 = .ok (.iaload, 1) := by decide +kernel
theorem dL_day_148 : decode cL_day 148 = .ok (.if_icmp .ge 11, 3) := by decide +kernel
theorem dL_day_151 : decode cL_day 151 = .ok (.aload_n 1, 1) := by decide +kernel
theorem dL_day_152 : decode cL_day 152 = .ok (.iload_n 2, 1) := by decide +kernel
theorem dL_day_153 : decode cL_day 153 = .ok (.iconst 4, 1) := by decide +kernel
theorem dL_day_154 : decode cL_day 154 = .ok (.iadd, 1) := by decide +kernel
theorem dL_day_155 : decode cL_day 155 = .ok (.iaload, 1) := by decide +kernel
theorem dL_day_156 : decode cL_day 156 = .ok (.goto 7, 3) := by decide +kernel
theorem dL_day_159 : decode cL_day 159 = .ok (.aload_n 0, 1) := by decide +kernel
theorem dL_day_160 : decode cL_day 160 = .ok (.bipush 8, 2) := by decide +kernel
theorem dL_day_162 : decode cL_day 162 = .ok (.iaload, 1) := by decide +kernel
theorem dL_day_163 : decode cL_day 163 = .ok (.iastore, 1) := by decide +kernel
theorem dL_day_164 : decode cL_day 164 = .ok (.return_, 1) := by decide +kernel
theorem dL_colds_0 : decode cL_colds 0 = .ok (.iconst 0, 1) := by decide +kernel
theorem dL_colds_1 : decode cL_colds 1 = .ok (.istore_n 2, 1) := by decide +kernel
theorem dL_colds_2 : decode cL_colds 2 = .ok (.iconst 0, 1) := by decide +kernel
theorem dL_colds_3 : decode cL_colds 3 = .ok (.istore_n 3, 1) := by decide +kernel
theorem dL_colds_4 : decode cL_colds 4 = .ok (.iload_n 3, 1) := by decide +kernel
theorem dL_colds_5 : decode cL_colds 5 = .ok (.aload_n 0, 1) := by decide +kernel
theorem dL_colds_6 : decode cL_colds 6 = .ok (.iconst 0, 1) := by decide +kernel
theorem dL_colds_7 : decode cL_colds 7 = .ok (.iaload, 1) := by decide +kernel
theorem dL_colds_8 : decode cL_colds 8 = .ok (.if_icmp .ge 34, 3) := by decide +kernel
theorem dL_colds_11 : decode cL_colds 11 = .ok (.iload_n 2, 1) := by decide +kernel
theorem dL_colds_12 : decode cL_colds 12 = .ok (.aload_n 1, 1) := by decide +kernel
theorem dL_colds_13 : decode cL_colds 13 = .ok (.bipush 8, 2) := by decide +kernel
theorem dL_colds_15 : decode cL_colds 15 = .ok (.iload_n 3, 1) := by decide +kernel
theorem dL_colds_16 : decode cL_colds 16 = .ok (.imul, 1) := by decide +kernel
theorem dL_colds_17 : decode cL_colds 17 = .ok (.iconst 3, 1) := by decide +kernel
theorem dL_colds_18 : decode cL_colds 18 = .ok (.iadd, 1) := by decide +kernel
theorem dL_colds_19 : decode cL_colds 19 = .ok (.iaload, 1) := by decide +kernel
theorem dL_colds_20 : decode cL_colds 20 = .ok (.aload_n 0, 1) := by decide +kernel
theorem dL_colds_21 : decode cL_colds 21 = .ok (.bipush 10, 2) := by decide +kernel
theorem dL_colds_23 : decode cL_colds 23 = .ok (.iaload, 1) := by decide +kernel
theorem dL_colds_24 : decode cL_colds 24 = .ok (.if_icmp .ge 9, 3) := by decide +kernel
theorem dL_colds_27 : decode cL_colds 27 = .ok (.iconst 1, 1) := by decide +kernel
theorem dL_colds_28 : decode cL_colds 28 = .ok (.iload_n 3, 1) := by decide +kernel
theorem dL_colds_29 : decode cL_colds 29 = .ok (.ishl, 1) := by decide +kernel
theorem dL_colds_30 : decode cL_colds 30 = .ok (.goto 4, 3) := by decide +kernel
theorem dL_colds_33 : decode cL_colds 33 = .ok (.iconst 0, 1) := by decide +kernel
theorem dL_colds_34 : decode cL_colds 34 = .ok (.ior, 1) := by decide +kernel
theorem dL_colds_35 : decode cL_colds 35 = .ok (.istore_n 2, 1) := by decide +kernel
theorem dL_colds_36 : decode cL_colds 36 = .ok (.iinc 3 1, 3) := by decide +kernel
theorem dL_colds_39 : decode cL_colds 39 = .ok (.goto (-35), 3) := by decide +kernel
theorem dL_colds_42 : decode cL_colds 42 = .ok (.iload_n 2, 1) := by decide +kernel
theorem dL_colds_43 : decode cL_colds 43 = .ok (.ireturn, 1) := by decide +kernel
set_option maxRecDepth 20000 in
theorem ggL_takes_L_tens : GoodIn wsL_takes wsL_tens := goodIn_r _ [4] (by decide +kernel) (by decide +kernel)
set_option maxRecDepth 20000 in
theorem gL_takes_L_tens : GoodIn wsL_takes (va_wsS RL 9 yL_tens wsL_tens) := goodIn_app (goodIn_of _ (by decide +kernel)) ggL_takes_L_tens
theorem dL_takes_0 : decode cL_takes 0 = .ok (.iload_n 2, 1) := by decide +kernel
theorem dL_takes_1 : decode cL_takes 1 = .ok (.ifCond .eq 13, 3) := by decide +kernel
theorem dL_takes_4 : decode cL_takes 4 = .ok (.iconst 4, 1) := by decide +kernel
theorem dL_takes_5 : decode cL_takes 5 = .ok (.aload_n 0, 1) := by decide +kernel
theorem dL_takes_6 : decode cL_takes 6 = .ok (.iload_n 1, 1) := by decide +kernel
theorem dL_takes_7 : decode cL_takes 7 = .ok (.iconst 1, 1) := by decide +kernel
theorem dL_takes_8 : decode cL_takes 8 = .ok (.iadd, 1) := by decide +kernel
theorem dL_takes_9 : decode cL_takes 9 = .ok (.iaload, 1) := by decide +kernel
theorem dL_takes_10 : decode cL_takes 10 = .ok (.imul, 1) := by decide +kernel
theorem dL_takes_11 : decode cL_takes 11 = .ok (.goto 11, 3) := by decide +kernel
theorem dL_takes_14 : decode cL_takes 14 = .ok (.aload_n 0, 1) := by decide +kernel
theorem dL_takes_15 : decode cL_takes 15 = .ok (.iload_n 1, 1) := by decide +kernel
theorem dL_takes_16 : decode cL_takes 16 = .ok (.iconst 2, 1) := by decide +kernel
theorem dL_takes_17 : decode cL_takes 17 = .ok (.iadd, 1) := by decide +kernel
theorem dL_takes_18 : decode cL_takes 18 = .ok (.iaload, 1) := by decide +kernel
theorem dL_takes_19 : decode cL_takes 19 = .ok (.invokestatic 9, 3) := by decide +kernel
theorem dL_takes_22 : decode cL_takes 22 = .ok (.ireturn, 1) := by decide +kernel
set_option maxRecDepth 20000 in
theorem ggL_owes_L_takes : GoodIn wsL_owes wsL_takes := goodIn_r _ [4, 5, 6, 3, 7] (by decide +kernel) (by decide +kernel)
set_option maxRecDepth 20000 in
theorem gL_owes_L_takes : GoodIn wsL_owes (va_wsS RL 15 yL_takes wsL_takes) := goodIn_app (goodIn_of _ (by decide +kernel)) ggL_owes_L_takes
theorem dL_owes_0 : decode cL_owes 0 = .ok (.iload_n 3, 1) := by decide +kernel
theorem dL_owes_1 : decode cL_owes 1 = .ok (.ifCond .eq 7, 3) := by decide +kernel
theorem dL_owes_4 : decode cL_owes 4 = .ok (.iconst 3, 1) := by decide +kernel
theorem dL_owes_5 : decode cL_owes 5 = .ok (.goto 4, 3) := by decide +kernel
theorem dL_owes_8 : decode cL_owes 8 = .ok (.iconst 1, 1) := by decide +kernel
theorem dL_owes_9 : decode cL_owes 9 = .ok (.aload_n 0, 1) := by decide +kernel
theorem dL_owes_10 : decode cL_owes 10 = .ok (.bipush 12, 2) := by decide +kernel
theorem dL_owes_12 : decode cL_owes 12 = .ok (.iaload, 1) := by decide +kernel
theorem dL_owes_13 : decode cL_owes 13 = .ok (.imul, 1) := by decide +kernel
theorem dL_owes_14 : decode cL_owes 14 = .ok (.iconst 3, 1) := by decide +kernel
theorem dL_owes_15 : decode cL_owes 15 = .ok (.aload_n 1, 1) := by decide +kernel
theorem dL_owes_16 : decode cL_owes 16 = .ok (.iload_n 2, 1) := by decide +kernel
theorem dL_owes_17 : decode cL_owes 17 = .ok (.iload_n 3, 1) := by decide +kernel
theorem dL_owes_18 : decode cL_owes 18 = .ok (.invokestatic 15, 3) := by decide +kernel
theorem dL_owes_21 : decode cL_owes 21 = .ok (.imul, 1) := by decide +kernel
theorem dL_owes_22 : decode cL_owes 22 = .ok (.iadd, 1) := by decide +kernel
theorem dL_owes_23 : decode cL_owes 23 = .ok (.ireturn, 1) := by decide +kernel
set_option maxRecDepth 20000 in
theorem ggL_why_L_takes : GoodIn wsL_why wsL_takes := goodIn_r _ [4, 5, 6, 3, 7] (by decide +kernel) (by decide +kernel)
set_option maxRecDepth 20000 in
theorem gL_why_L_takes : GoodIn wsL_why (va_wsS RL 15 yL_takes wsL_takes) := goodIn_app (goodIn_of _ (by decide +kernel)) ggL_why_L_takes
theorem dL_why_0 : decode cL_why 0 = .ok (.iload_n 3, 1) := by decide +kernel
theorem dL_why_1 : decode cL_why 1 = .ok (.ifCond .eq 7, 3) := by decide +kernel
theorem dL_why_4 : decode cL_why 4 = .ok (.iconst 3, 1) := by decide +kernel
theorem dL_why_5 : decode cL_why 5 = .ok (.goto 4, 3) := by decide +kernel
theorem dL_why_8 : decode cL_why 8 = .ok (.iconst 1, 1) := by decide +kernel
theorem dL_why_9 : decode cL_why 9 = .ok (.istore 4, 2) := by decide +kernel
theorem dL_why_11 : decode cL_why 11 = .ok (.aload_n 0, 1) := by decide +kernel
theorem dL_why_12 : decode cL_why 12 = .ok (.iconst 2, 1) := by decide +kernel
theorem dL_why_13 : decode cL_why 13 = .ok (.iaload, 1) := by decide +kernel
theorem dL_why_14 : decode cL_why 14 = .ok (.aload_n 1, 1) := by decide +kernel
theorem dL_why_15 : decode cL_why 15 = .ok (.iload_n 2, 1) := by decide +kernel
theorem dL_why_16 : decode cL_why 16 = .ok (.iaload, 1) := by decide +kernel
theorem dL_why_17 : decode cL_why 17 = .ok (.if_icmp .eq 7, 3) := by decide +kernel
theorem dL_why_20 : decode cL_why 20 = .ok (.iconst 1, 1) := by decide +kernel
theorem dL_why_21 : decode cL_why 21 = .ok (.goto 60, 3) := by decide +kernel
theorem dL_why_24 : decode cL_why 24 = .ok (.aload_n 0, 1) := by decide +kernel
theorem dL_why_25 : decode cL_why 25 = .ok (.iconst 3, 1) := by decide +kernel
theorem dL_why_26 : decode cL_why 26 = .ok (.iaload, 1) := by decide +kernel
theorem dL_why_27 : decode cL_why 27 = .ok (.iload 4, 2) := by decide +kernel
theorem dL_why_29 : decode cL_why 29 = .ok (.if_icmp .ge 7, 3) := by decide +kernel
theorem dL_why_32 : decode cL_why 32 = .ok (.iconst 2, 1) := by decide +kernel
theorem dL_why_33 : decode cL_why 33 = .ok (.goto 48, 3) := by decide +kernel
theorem dL_why_36 : decode cL_why 36 = .ok (.aload_n 0, 1) := by decide +kernel
theorem dL_why_37 : decode cL_why 37 = .ok (.iconst 4, 1) := by decide +kernel
theorem dL_why_38 : decode cL_why 38 = .ok (.iaload, 1) := by decide +kernel
theorem dL_why_39 : decode cL_why 39 = .ok (.aload_n 1, 1) := by decide +kernel
theorem dL_why_40 : decode cL_why 40 = .ok (.iload_n 2, 1) := by decide +kernel
theorem dL_why_41 : decode cL_why 41 = .ok (.iload_n 3, 1) := by decide +kernel
theorem dL_why_42 : decode cL_why 42 = .ok (.invokestatic 15, 3) := by decide +kernel
theorem dL_why_45 : decode cL_why 45 = .ok (.if_icmp .ge 7, 3) := by decide +kernel
theorem dL_why_48 : decode cL_why 48 = .ok (.iconst 3, 1) := by decide +kernel
theorem dL_why_49 : decode cL_why 49 = .ok (.goto 32, 3) := by decide +kernel
theorem dL_why_52 : decode cL_why 52 = .ok (.aload_n 1, 1) := by decide +kernel
theorem dL_why_53 : decode cL_why 53 = .ok (.iload_n 2, 1) := by decide +kernel
theorem dL_why_54 : decode cL_why 54 = .ok (.iconst 5, 1) := by decide +kernel
theorem dL_why_55 : decode cL_why 55 = .ok (.iadd, 1) := by decide +kernel
theorem dL_why_56 : decode cL_why 56 = .ok (.iaload, 1) := by decide +kernel
theorem dL_why_57 : decode cL_why 57 = .ok (.aload_n 0, 1) := by decide +kernel
theorem dL_why_58 : decode cL_why 58 = .ok (.bipush 13, 2) := by decide +kernel
theorem dL_why_60 : decode cL_why 60 = .ok (.iaload, 1) := by decide +kernel
