theorem dL_promotes_172 : decode cL_promotes 172 = .ok (.bipush 10, 2) := by decide +kernel
theorem dL_promotes_174 : decode cL_promotes 174 = .ok (.iconst 0, 1) := by decide +kernel
theorem dL_promotes_175 : decode cL_promotes 175 = .ok (.iastore, 1) := by decide +kernel
theorem dL_promotes_176 : decode cL_promotes 176 = .ok (.aload_n 1, 1) := by decide +kernel
theorem dL_promotes_177 : decode cL_promotes 177 = .ok (.bipush 11, 2) := by decide +kernel
theorem dL_promotes_179 : decode cL_promotes 179 = .ok (.iconst 0, 1) := by decide +kernel
theorem dL_promotes_180 : decode cL_promotes 180 = .ok (.iastore, 1) := by decide +kernel
theorem dL_promotes_181 : decode cL_promotes 181 = .ok (.aload_n 1, 1) := by decide +kernel
theorem dL_promotes_182 : decode cL_promotes 182 = .ok (.iconst 2, 1) := by decide +kernel
theorem dL_promotes_183 : decode cL_promotes 183 = .ok (.dup2, 1) := by decide +kernel
theorem dL_promotes_184 : decode cL_promotes 184 = .ok (.iaload, 1) := by decide +kernel
theorem dL_promotes_185 : decode cL_promotes 185 = .ok (.iconst 1, 1) := by decide +kernel
theorem dL_promotes_186 : decode cL_promotes 186 = .ok (.iadd, 1) := by decide +kernel
theorem dL_promotes_187 : decode cL_promotes 187 = .ok (.iastore, 1) := by decide +kernel
theorem dL_promotes_188 : decode cL_promotes 188 = .ok (.aload_n 1, 1) := by decide +kernel
theorem dL_promotes_189 : decode cL_promotes 189 = .ok (.iconst 4, 1) := by decide +kernel
theorem dL_promotes_190 : decode cL_promotes 190 = .ok (.dup2, 1) := by decide +kernel
theorem dL_promotes_191 : decode cL_promotes 191 = .ok (.iaload, 1) := by decide +kernel
theorem dL_promotes_192 : decode cL_promotes 192 = .ok (.iload 8, 2) := by decide +kernel
theorem dL_promotes_194 : decode cL_promotes 194 = .ok (.iadd, 1) := by decide +kernel
theorem dL_promotes_195 : decode cL_promotes 195 = .ok (.iastore, 1) := by decide +kernel
theorem dL_promotes_196 : decode cL_promotes 196 = .ok (.aload_n 0, 1) := by decide +kernel
theorem dL_promotes_197 : decode cL_promotes 197 = .ok (.iload 4, 2) := by decide +kernel
theorem dL_promotes_199 : decode cL_promotes 199 = .ok (.invokevirtual 66, 3) := by decide +kernel
theorem dL_promotes_202 : decode cL_promotes 202 = .ok (.iload 8, 2) := by decide +kernel
theorem dL_promotes_204 : decode cL_promotes 204 = .ok (.if_icmp .ne 7, 3) := by decide +kernel
theorem dL_promotes_207 : decode cL_promotes 207 = .ok (.iconst 1, 1) := by decide +kernel
theorem dL_promotes_208 : decode cL_promotes 208 = .ok (.goto 4, 3) := by decide +kernel
theorem dL_promotes_211 : decode cL_promotes 211 = .ok (.iconst 0, 1) := by decide +kernel
theorem dL_promotes_212 : decode cL_promotes 212 = .ok (.ireturn, 1) := by decide +kernel
set_option maxRecDepth 20000 in
theorem ggL_acts_L_low : GoodIn wsL_acts wsL_low := goodIn_r _ [7, 8] (by decide +kernel) (by decide +kernel)
set_option maxRecDepth 20000 in
theorem gL_acts_L_low : GoodIn wsL_acts (va_wsS RL 70 yL_low wsL_low) := goodIn_app (goodIn_of _ (by decide +kernel)) ggL_acts_L_low
set_option maxRecDepth 20000 in
theorem ggL_acts_L_writes : GoodIn wsL_acts wsL_writes := goodIn_r _ [11, 2, 12, 13, 14, 15, 16, 17, 18, 19, 20, 21, 22, 23, 24, 25, 26, 27, 28, 29, 30, 31, 32, 33, 34, 35, 36, 37, 38, 39, 40, 41, 42, 43, 44, 45, 46, 47, 48, 49, 50, 51, 52, 53, 54, 55, 56, 57, 58, 59, 60, 61, 62, 63, 64, 65, 66, 67, 68, 69, 70, 71, 72, 73, 74, 75, 76, 77, 78, 79, 80, 81, 82, 83, 84, 85, 86, 87, 88, 89, 90, 91, 92, 93, 94, 95, 96, 97, 98, 99, 100, 101, 102, 103, 104, 105, 106, 107, 108, 109, 110, 111, 112, 113, 114, 115, 116, 117, 118, 119, 120, 121, 122, 123, 6, 124, 125, 126, 127, 128, 265, 266, 267, 268, 269, 270, 271, 272, 273, 274, 275, 276, 277, 278, 279, 280, 281, 282, 283, 284, 285, 286, 287, 288, 289, 290, 291, 292, 293, 294] (by decide +kernel) (by decide +kernel)
set_option maxRecDepth 20000 in
theorem gL_acts_L_writes : GoodIn wsL_acts (va_wsS RL 74 yL_writes wsL_writes) := goodIn_app (goodIn_of _ (by decide +kernel)) ggL_acts_L_writes
set_option maxRecDepth 20000 in
theorem ggL_acts_X6_ship : GoodIn wsL_acts wsX6_ship := goodIn_r _ [132, 17, 18, 19, 20, 21, 22, 23, 24, 25, 26, 27, 28, 29, 30, 31, 32, 33, 34, 35, 36, 37, 38, 39, 40, 41, 42, 43, 44, 45, 46, 47, 48, 49, 50, 51, 52, 53, 54, 55, 56, 57, 58, 59, 60, 61, 62, 63, 64, 65, 66, 67, 68, 69, 70, 71, 72, 73, 74, 133, 134, 135, 136, 79, 137, 80, 138, 139, 140, 141, 15, 142, 143, 144, 145, 146, 83, 84, 85, 86, 87, 88, 89, 90, 265, 266, 267, 268, 269, 270, 271, 272, 273, 274, 275, 276, 277, 278, 279, 280, 281, 282, 283, 284, 285, 286, 287, 288, 289, 290, 291, 292, 293, 294] (by decide +kernel) (by decide +kernel)
set_option maxRecDepth 20000 in
theorem gL_acts_X6_ship : GoodIn wsL_acts (wsV RL 78 RX6 yX6_ship wsX6_ship) := goodIn_app (goodIn_of _ (by decide +kernel)) ggL_acts_X6_ship
set_option maxRecDepth 20000 in
theorem ggL_acts_X6_lose : GoodIn wsL_acts wsX6_lose := goodIn_r _ [150, 17, 18, 19, 20, 21, 22, 23, 24, 25, 26, 27, 28, 29, 30, 31, 32, 33, 34, 35, 36, 37, 38, 39, 40, 41, 42, 43, 44, 45, 46, 47, 48, 49, 50, 51, 52, 53, 54, 55, 56, 57, 58, 59, 60, 61, 62, 63, 64, 65, 66, 67, 68, 69, 70, 71, 72, 73, 74, 151, 152, 153, 154, 79, 137, 139, 155, 80, 141, 15, 142, 143, 144, 145, 146, 156, 157, 158, 159, 160, 161, 162, 163, 164, 165, 166, 167, 83, 84, 85, 86, 87, 88, 89, 90, 265, 266, 267, 268, 269, 270, 271, 272, 273, 274, 275, 276, 277, 278, 279, 280, 281, 282, 283, 284, 285, 286, 287, 288, 289, 290, 291, 292, 293, 294] (by decide +kernel) (by decide +kernel)
set_option maxRecDepth 20000 in
theorem gL_acts_X6_lose : GoodIn wsL_acts (wsV RL 81 RX6 yX6_lose wsX6_lose) := goodIn_app (goodIn_of _ (by decide +kernel)) ggL_acts_X6_lose
set_option maxRecDepth 20000 in
theorem ggL_acts_L_ones : GoodIn wsL_acts wsL_ones := goodIn_r _ [170] (by decide +kernel) (by decide +kernel)
set_option maxRecDepth 20000 in
theorem gL_acts_L_ones : GoodIn wsL_acts (va_wsS RL 85 yL_ones wsL_ones) := goodIn_app (goodIn_of _ (by decide +kernel)) ggL_acts_L_ones
set_option maxRecDepth 20000 in
theorem ggL_acts_X6_resend : GoodIn wsL_acts wsX6_resend := goodIn_r _ [174, 17, 18, 19, 20, 21, 22, 23, 24, 25, 26, 27, 28, 29, 30, 31, 32, 33, 34, 35, 36, 37, 38, 39, 40, 41, 42, 43, 44, 45, 46, 47, 48, 49, 50, 51, 52, 53, 54, 55, 56, 57, 58, 59, 60, 61, 62, 63, 64, 65, 66, 67, 68, 69, 70, 71, 72, 73, 74, 175, 176, 177, 178, 79, 137, 80, 141, 15, 142, 143, 144, 145, 146, 164, 165, 166, 167, 179, 180, 181, 182, 183, 83, 84, 85, 86, 87, 88, 89, 90, 265, 266, 267, 268, 269, 270, 271, 272, 273, 274, 275, 276, 277, 278, 279, 280, 281, 282, 283, 284, 285, 286, 287, 288, 289, 290, 291, 292, 293, 294] (by decide +kernel) (by decide +kernel)
set_option maxRecDepth 20000 in
theorem gL_acts_X6_resend : GoodIn wsL_acts (wsV RL 89 RX6 yX6_resend wsX6_resend) := goodIn_app (goodIn_of _ (by decide +kernel)) ggL_acts_X6_resend
set_option maxRecDepth 20000 in
theorem ggL_acts_L_applies : GoodIn wsL_acts wsL_applies := goodIn_r _ [186, 187, 188, 6, 189, 128] (by decide +kernel) (by decide +kernel)
set_option maxRecDepth 20000 in
theorem gL_acts_L_applies : GoodIn wsL_acts (va_wsS RL 92 yL_applies wsL_applies) := goodIn_app (goodIn_of _ (by decide +kernel)) ggL_acts_L_applies
set_option maxRecDepth 20000 in
theorem ggL_acts_X6_tick : GoodIn wsL_acts wsX6_tick := goodIn_r _ [193, 17, 18, 19, 20, 21, 22, 23, 24, 25, 26, 27, 28, 29, 30, 31, 32, 33, 34, 35, 36, 37, 38, 39, 40, 41, 42, 43, 44, 45, 46, 47, 48, 49, 50, 51, 52, 53, 54, 55, 56, 57, 58, 59, 60, 61, 62, 63, 64, 65, 66, 67, 68, 69, 70, 71, 72, 73, 74, 194, 195, 196, 197, 79, 155, 198, 15, 199, 143, 144, 145, 146, 200, 201, 202, 203, 137, 139, 156, 157, 158, 159, 204, 205, 206, 207, 208, 209, 210, 211, 212, 83, 84, 85, 86, 87, 88, 89, 90, 265, 266, 267, 268, 269, 270, 271, 272, 273, 274, 275, 276, 277, 278, 279, 280, 281, 282, 283, 284, 285, 286, 287, 288, 289, 290, 291, 292, 293, 294] (by decide +kernel) (by decide +kernel)
set_option maxRecDepth 20000 in
theorem gL_acts_X6_tick : GoodIn wsL_acts (wsV RL 96 RX6 yX6_tick wsX6_tick) := goodIn_app (goodIn_of _ (by decide +kernel)) ggL_acts_X6_tick
set_option maxRecDepth 20000 in
theorem ggL_acts_X6_promote : GoodIn wsL_acts wsX6_promote := goodIn_r _ [216, 17, 18, 19, 20, 21, 22, 23, 24, 25, 26, 27, 28, 29, 30, 31, 32, 33, 34, 35, 36, 37, 38, 39, 40, 41, 42, 43, 44, 45, 46, 47, 48, 49, 50, 51, 52, 53, 54, 55, 56, 57, 58, 59, 60, 61, 62, 63, 64, 65, 66, 67, 68, 69, 70, 71, 72, 73, 74, 217, 218, 219, 220, 79, 137, 80, 155, 138, 141, 15, 142, 143, 144, 145, 146, 221, 222, 223, 224, 225, 226, 227, 228, 208, 209, 210, 211, 212, 229, 230, 231, 232, 233, 180, 181, 182, 183, 234, 235, 236, 237, 238, 83, 84, 85, 86, 87, 88, 89, 90, 265, 266, 267, 268, 269, 270, 271, 272, 273, 274, 275, 276, 277, 278, 279, 280, 281, 282, 283, 284, 285, 286, 287, 288, 289, 290, 291, 292, 293, 294] (by decide +kernel) (by decide +kernel)
set_option maxRecDepth 20000 in
theorem gL_acts_X6_promote : GoodIn wsL_acts (wsV RL 66 RX6 yX6_promote wsX6_promote) := goodIn_app (goodIn_of _ (by decide +kernel)) ggL_acts_X6_promote
set_option maxRecDepth 20000 in
theorem ggL_acts_L_promotes : GoodIn wsL_acts wsL_promotes := goodIn_r _ [241, 242, 243, 244, 6, 245, 246, 247, 248, 125, 213, 214, 215, 15, 216, 17, 18, 19, 20, 21, 22, 23, 24, 25, 26, 27, 28, 29, 30, 31, 32, 33, 34, 35, 36, 37, 38, 39, 40, 41, 42, 43, 44, 45, 46, 47, 48, 49, 50, 51, 52, 53, 54, 55, 56, 57, 58, 59, 60, 61, 62, 63, 64, 65, 66, 67, 68, 69, 70, 71, 72, 73, 74, 217, 218, 219, 220, 79, 137, 80, 155, 138, 141, 142, 143, 144, 145, 146, 221, 222, 223, 224, 225, 226, 227, 228, 208, 209, 210, 211, 212, 229, 230, 231, 232, 233, 180, 181, 182, 183, 234, 235, 236, 237, 238, 83, 84, 85, 86, 87, 88, 89, 90, 265, 266, 267, 268, 269, 270, 271, 272, 273, 274, 275, 276, 277, 278, 279, 280, 281, 282, 283, 284, 285, 286, 287, 288, 289, 290, 291, 292, 293, 294] (by decide +kernel) (by decide +kernel)
set_option maxRecDepth 20000 in
theorem gL_acts_L_promotes : GoodIn wsL_acts (va_wsS RL 99 yL_promotes wsL_promotes) := goodIn_app (goodIn_of _ (by decide +kernel)) ggL_acts_L_promotes
set_option maxRecDepth 20000 in
theorem ggL_acts_X6_rebuild : GoodIn wsL_acts wsX6_rebuild := goodIn_r _ [252, 17, 18, 19, 20, 21, 22, 23, 24, 25, 26, 27, 28, 29, 30, 31, 32, 33, 34, 35, 36, 37, 38, 39, 40, 41, 42, 43, 44, 45, 46, 47, 48, 49, 50, 51, 52, 53, 54, 55, 56, 57, 58, 59, 60, 61, 62, 63, 64, 65, 66, 67, 68, 69, 70, 71, 72, 73, 74, 253, 254, 255, 256, 79, 138, 141, 15, 142, 143, 144, 145, 146, 229, 230, 231, 232, 233, 180, 181, 182, 183, 83, 84, 85, 86, 87, 88, 89, 90, 265, 266, 267, 268, 269, 270, 271, 272, 273, 274, 275, 276, 277, 278, 279, 280, 281, 282, 283, 284, 285, 286, 287, 288, 289, 290, 291, 292, 293, 294] (by decide +kernel) (by decide +kernel)
set_option maxRecDepth 20000 in
theorem gL_acts_X6_rebuild : GoodIn wsL_acts (wsV RL 103 RX6 yX6_rebuild wsX6_rebuild) := goodIn_app (goodIn_of _ (by decide +kernel)) ggL_acts_X6_rebuild
set_option maxRecDepth 20000 in
theorem ggL_acts_X6_set : GoodIn wsL_acts wsX6_set := goodIn_r _ [260, 17, 18, 19, 20, 21, 22, 23, 24, 25, 26, 27, 28, 29, 30, 31, 32, 33, 34, 35, 36, 37, 38, 39, 40, 41, 42, 43, 44, 45, 46, 47, 48, 49, 50, 51, 52, 53, 54, 55, 56, 57, 58, 59, 60, 61, 62, 63, 64, 65, 66, 67, 68, 69, 70, 71, 72, 73, 74, 261, 262, 263, 264, 79, 83, 84, 85, 15, 86, 87, 88, 89, 90, 265, 266, 267, 268, 269, 270, 271, 272, 273, 274, 275, 276, 277, 278, 279, 280, 281, 282, 283, 284, 285, 286, 287, 288, 289, 290, 291, 292, 293, 294] (by decide +kernel) (by decide +kernel)
set_option maxRecDepth 20000 in
theorem gL_acts_X6_set : GoodIn wsL_acts (wsV RL 106 RX6 yX6_set wsX6_set) := goodIn_app (goodIn_of _ (by decide +kernel)) ggL_acts_X6_set
theorem dL_acts_0 : decode cL_acts 0 = .ok (.iload 4, 2) := by decide +kernel
theorem dL_acts_2 : decode cL_acts 2 = .ok (.iconst 5, 1) := by decide +kernel
theorem dL_acts_3 : decode cL_acts 3 = .ok (.ishr, 1) := by decide +kernel
theorem dL_acts_4 : decode cL_acts 4 = .ok (.ldc 69, 2) := by decide +kernel
theorem dL_acts_6 : decode cL_acts 6 = .ok (.invokestatic 70, 3) := by decide +kernel
theorem dL_acts_9 : decode cL_acts 9 = .ok (.istore 5, 2) := by decide +kernel
theorem dL_acts_11 : decode cL_acts 11 = .ok (.iload 4, 2) := by decide +kernel
theorem dL_acts_13 : decode cL_acts 13 = .ok (.bipush 32, 2) := by decide +kernel
theorem dL_acts_15 : decode cL_acts 15 = .ok (.invokestatic 70, 3) := by decide +kernel
theorem dL_acts_18 : decode cL_acts 18 = .ok (.istore 6, 2) := by decide +kernel
theorem dL_acts_20 : decode cL_acts 20 = .ok (.iload 5, 2) := by decide +kernel
theorem dL_acts_22 : decode cL_acts 22 = .ok (.iconst 2, 1) := by decide +kernel
theorem dL_acts_23 : decode cL_acts 23 = .ok (.irem, 1) := by decide +kernel
theorem dL_acts_24 : decode cL_acts 24 = .ok (.istore 7, 2) := by decide +kernel
theorem dL_acts_26 : decode cL_acts 26 = .ok (.bipush 12, 2) := by decide +kernel
theorem dL_acts_28 : decode cL_acts 28 = .ok (.iconst 3, 1) := by decide +kernel
theorem dL_acts_29 : decode cL_acts 29 = .ok (.iload 7, 2) := by decide +kernel
theorem dL_acts_31 : decode cL_acts 31 = .ok (.imul, 1) := by decide +kernel
theorem dL_acts_32 : decode cL_acts 32 = .ok (.iadd, 1) := by decide +kernel
theorem dL_acts_33 : decode cL_acts 33 = .ok (.istore 8, 2) := by decide +kernel
theorem dL_acts_35 : decode cL_acts 35 = .ok (.aload_n 1, 1) := by decide +kernel
theorem dL_acts_36 : decode cL_acts 36 = .ok (.iload 8, 2) := by decide +kernel
theorem dL_acts_38 : decode cL_acts 38 = .ok (.iconst 2, 1) := by decide +kernel
theorem dL_acts_39 : decode cL_acts 39 = .ok (.iadd, 1) := by decide +kernel
theorem dL_acts_40 : decode cL_acts 40 = .ok (.iaload, 1) := by decide +kernel
theorem dL_acts_41 : decode cL_acts 41 = .ok (.iconst 1, 1) := by decide +kernel
theorem dL_acts_42 : decode cL_acts 42 = .ok (.if_icmp .ne 7, 3) := by decide +kernel
theorem dL_acts_45 : decode cL_acts 45 = .ok (.iconst 1, 1) := by decide +kernel
theorem dL_acts_46 : decode cL_acts 46 = .ok (.goto 4, 3) := by decide +kernel
theorem dL_acts_49 : decode cL_acts 49 = .ok (.iconst 0, 1) := by decide +kernel
theorem dL_acts_50 : decode cL_acts 50 = .ok (.istore 9, 2) := by decide +kernel
theorem dL_acts_52 : decode cL_acts 52 = .ok (.iload 6, 2) := by decide +kernel
theorem dL_acts_54 : decode cL_acts 54 = .ok (.bipush 19, 2) := by decide +kernel
theorem dL_acts_56 : decode cL_acts 56 = .ok (.if_icmp .ge 14, 3) := by decide +kernel
theorem dL_acts_59 : decode cL_acts 59 = .ok (.aload_n 0, 1) := by decide +kernel
theorem dL_acts_60 : decode cL_acts 60 = .ok (.aload_n 1, 1) := by decide +kernel
theorem dL_acts_61 : decode cL_acts 61 = .ok (.aload_n 2, 1) := by decide +kernel
theorem dL_acts_62 : decode cL_acts 62 = .ok (.iload 6, 2) := by decide +kernel
theorem dL_acts_64 : decode cL_acts 64 = .ok (.iload 5, 2) := by decide +kernel
theorem dL_acts_66 : decode cL_acts 66 = .ok (.invokestatic 74, 3) := by decide +kernel
theorem dL_acts_69 : decode cL_acts 69 = .ok (.ireturn, 1) := by decide +kernel
theorem dL_acts_70 : decode cL_acts 70 = .ok (.iload 6, 2) := by decide +kernel
theorem dL_acts_72 : decode cL_acts 72 = .ok (.bipush 23, 2) := by decide +kernel
theorem dL_acts_74 : decode cL_acts 74 = .ok (.if_icmp .ge 106, 3) := by decide +kernel
theorem dL_acts_77 : decode cL_acts 77 = .ok (.iconst 1, 1) := by decide +kernel
theorem dL_acts_78 : decode cL_acts 78 = .ok (.iload 5, 2) := by decide +kernel
theorem dL_acts_80 : decode cL_acts 80 = .ok (.iconst 2, 1) := by decide +kernel
theorem dL_acts_81 : decode cL_acts 81 = .ok (.idiv, 1) := by decide +kernel
theorem dL_acts_82 : decode cL_acts 82 = .ok (.iload 5, 2) := by decide +kernel
theorem dL_acts_84 : decode cL_acts 84 = .ok (.iconst 3, 1) := by decide +kernel
theorem dL_acts_85 : decode cL_acts 85 = .ok (.irem, 1) := by decide +kernel
theorem dL_acts_86 : decode cL_acts 86 = .ok (.ifCond .ne 8, 3) := by decide +kernel
theorem dL_acts_89 : decode cL_acts 89 = .ok (.bipush 20, 2) := by decide +kernel
theorem dL_acts_91 : decode cL_acts 91 = .ok (.goto 5, 3) := by decide +kernel
theorem dL_acts_94 : decode cL_acts 94 = .ok (.bipush 6, 2) := by decide +kernel
theorem dL_acts_96 : decode cL_acts 96 = .ok (.irem, 1) := by decide +kernel
theorem dL_acts_97 : decode cL_acts 97 = .ok (.iadd, 1) := by decide +kernel
theorem dL_acts_98 : decode cL_acts 98 = .ok (.istore 10, 2) := by decide +kernel
theorem dL_acts_100 : decode cL_acts 100 = .ok (.iload 9, 2) := by decide +kernel
theorem dL_acts_102 : decode cL_acts 102 = .ok (.ifCond .eq 22, 3) := by decide +kernel
theorem dL_acts_105 : decode cL_acts 105 = .ok (.aload_n 0, 1) := by decide +kernel
theorem dL_acts_106 : decode cL_acts 106 = .ok (.iload 7, 2) := by decide +kernel
theorem dL_acts_108 : decode cL_acts 108 = .ok (.iload 10, 2) := by decide +kernel
theorem dL_acts_110 : decode cL_acts 110 = .ok (.invokevirtual 78, 3) := by decide +kernel
theorem dL_acts_113 : decode cL_acts 113 = .ok (.ldc 45, 2) := by decide +kernel
theorem dL_acts_115 : decode cL_acts 115 = .ok (.if_icmp .ne 7, 3) := by decide +kernel
theorem dL_acts_118 : decode cL_acts 118 = .ok (.iconst 1, 1) := by decide +kernel
theorem dL_acts_119 : decode cL_acts 119 = .ok (.goto 4, 3) := by decide +kernel
theorem dL_acts_122 : decode cL_acts 122 = .ok (.iconst 0, 1) := by decide +kernel
theorem dL_acts_123 : decode cL_acts 123 = .ok (.ireturn, 1) := by decide +kernel
theorem dL_acts_124 : decode cL_acts 124 = .ok (.aload_n 1, 1) := by decide +kernel
theorem dL_acts_125 : decode cL_acts 125 = .ok (.iconst 0, 1) := by decide +kernel
theorem dL_acts_126 : decode cL_acts 126 = .ok (.iaload, 1) := by decide +kernel
theorem dL_acts_127 : decode cL_acts 127 = .ok (.aload_n 1, 1) := by decide +kernel
theorem dL_acts_128 : decode cL_acts 128 = .ok (.iload 8, 2) := by decide +kernel
theorem dL_acts_130 : decode cL_acts 130 = .ok (.iaload, 1) := by decide +kernel
theorem dL_acts_131 : decode cL_acts 131 = .ok (.isub, 1) := by decide +kernel
theorem dL_acts_132 : decode cL_acts 132 = .ok (.iload 10, 2) := by decide +kernel
theorem dL_acts_134 : decode cL_acts 134 = .ok (.if_icmp .ge 14, 3) := by decide +kernel
theorem dL_acts_137 : decode cL_acts 137 = .ok (.aload_n 1, 1) := by decide +kernel
theorem dL_acts_138 : decode cL_acts 138 = .ok (.iconst 0, 1) := by decide +kernel
theorem dL_acts_139 : decode cL_acts 139 = .ok (.iaload, 1) := by decide +kernel
theorem dL_acts_140 : decode cL_acts 140 = .ok (.aload_n 1, 1) := by decide +kernel
theorem dL_acts_141 : decode cL_acts 141 = .ok (.iload 8, 2) := by decide +kernel
theorem dL_acts_143 : decode cL_acts 143 = .ok (.iaload, 1) := by decide +kernel
theorem dL_acts_144 : decode cL_acts 144 = .ok (.isub, 1) := by decide +kernel
theorem dL_acts_145 : decode cL_acts 145 = .ok (.goto 5, 3) := by decide +kernel
theorem dL_acts_148 : decode cL_acts 148 = .ok (.iload 10, 2) := by decide +kernel
theorem dL_acts_150 : decode cL_acts 150 = .ok (.istore 11, 2) := by decide +kernel
theorem dL_acts_152 : decode cL_acts 152 = .ok (.aload_n 1, 1) := by decide +kernel
theorem dL_acts_153 : decode cL_acts 153 = .ok (.iload 8, 2) := by decide +kernel
theorem dL_acts_155 : decode cL_acts 155 = .ok (.dup2, 1) := by decide +kernel
theorem dL_acts_156 : decode cL_acts 156 = .ok (.iaload, 1) := by decide +kernel
theorem dL_acts_157 : decode cL_acts 157 = .ok (.iload 11, 2) := by decide +kernel
theorem dL_acts_159 : decode cL_acts 159 = .ok (.iadd, 1) := by decide +kernel
theorem dL_acts_160 : decode cL_acts 160 = .ok (.iastore, 1) := by decide +kernel
theorem dL_acts_161 : decode cL_acts 161 = .ok (.aload_n 0, 1) := by decide +kernel
theorem dL_acts_162 : decode cL_acts 162 = .ok (.iload 7, 2) := by decide +kernel
theorem dL_acts_164 : decode cL_acts 164 = .ok (.iload 10, 2) := by decide +kernel
theorem dL_acts_166 : decode cL_acts 166 = .ok (.invokevirtual 78, 3) := by decide +kernel
theorem dL_acts_169 : decode cL_acts 169 = .ok (.iload 11, 2) := by decide +kernel
theorem dL_acts_171 : decode cL_acts 171 = .ok (.if_icmp .ne 7, 3) := by decide +kernel
theorem dL_acts_174 : decode cL_acts 174 = .ok (.iconst 1, 1) := by decide +kernel
theorem dL_acts_175 : decode cL_acts 175 = .ok (.goto 4, 3) := by decide +kernel
theorem dL_acts_178 : decode cL_acts 178 = .ok (.iconst 0, 1) := by decide +kernel
theorem dL_acts_179 : decode cL_acts 179 = .ok (.ireturn, 1) := by decide +kernel
theorem dL_acts_180 : decode cL_acts 180 = .ok (.iload 6, 2) := by decide +kernel
theorem dL_acts_182 : decode cL_acts 182 = .ok (.bipush 25, 2) := by decide +kernel
theorem dL_acts_184 : decode cL_acts 184 = .ok (.if_icmp .ge 141, 3) := by decide +kernel
theorem dL_acts_187 : decode cL_acts 187 = .ok (.aload_n 1, 1) := by decide +kernel
theorem dL_acts_188 : decode cL_acts 188 = .ok (.iload 8, 2) := by decide +kernel
theorem dL_acts_190 : decode cL_acts 190 = .ok (.iconst 1, 1) := by decide +kernel
theorem dL_acts_191 : decode cL_acts 191 = .ok (.iadd, 1) := by decide +kernel
theorem dL_acts_192 : decode cL_acts 192 = .ok (.iaload, 1) := by decide +kernel
theorem dL_acts_193 : decode cL_acts 193 = .ok (.iload 5, 2) := by decide +kernel
theorem dL_acts_195 : decode cL_acts 195 = .ok (.iconst 2, 1) := by decide +kernel
theorem dL_acts_196 : decode cL_acts 196 = .ok (.idiv, 1) := by decide +kernel
theorem dL_acts_197 : decode cL_acts 197 = .ok (.iconst 4, 1) := by decide +kernel
theorem dL_acts_198 : decode cL_acts 198 = .ok (.irem, 1) := by decide +kernel
theorem dL_acts_199 : decode cL_acts 199 = .ok (.iadd, 1) := by decide +kernel
theorem dL_acts_200 : decode cL_acts 200 = .ok (.istore 10, 2) := by decide +kernel
theorem dL_acts_202 : decode cL_acts 202 = .ok (.iload 10, 2) := by decide +kernel
theorem dL_acts_204 : decode cL_acts 204 = .ok (.ifCond .ne 21, 3) := by decide +kernel
theorem dL_acts_207 : decode cL_acts 207 = .ok (.aload_n 0, 1) := by decide +kernel
theorem dL_acts_208 : decode cL_acts 208 = .ok (.iload 7, 2) := by decide +kernel
theorem dL_acts_210 : decode cL_acts 210 = .ok (.iconst 0, 1) := by decide +kernel
theorem dL_acts_211 : decode cL_acts 211 = .ok (.invokevirtual 81, 3) := by decide +kernel
theorem dL_acts_214 : decode cL_acts 214 = .ok (.ldc 84, 2) := by decide +kernel
theorem dL_acts_216 : decode cL_acts 216 = .ok (.if_icmp .ne 7, 3) := by decide +kernel
theorem dL_acts_219 : decode cL_acts 219 = .ok (.iconst 1, 1) := by decide +kernel
theorem dL_acts_220 : decode cL_acts 220 = .ok (.goto 4, 3) := by decide +kernel
theorem dL_acts_223 : decode cL_acts 223 = .ok (.iconst 0, 1) := by decide +kernel
theorem dL_acts_224 : decode cL_acts 224 = .ok (.ireturn, 1) := by decide +kernel
theorem dL_acts_225 : decode cL_acts 225 = .ok (.iload 9, 2) := by decide +kernel
theorem dL_acts_227 : decode cL_acts 227 = .ok (.ifCond .ne 37, 3) := by decide +kernel
theorem dL_acts_230 : decode cL_acts 230 = .ok (.iload 10, 2) := by decide +kernel
theorem dL_acts_232 : decode cL_acts 232 = .ok (.aload_n 1, 1) := by decide +kernel
theorem dL_acts_233 : decode cL_acts 233 = .ok (.iload 8, 2) := by decide +kernel
theorem dL_acts_235 : decode cL_acts 235 = .ok (.iaload, 1) := by decide +kernel
theorem dL_acts_236 : decode cL_acts 236 = .ok (.if_icmp .gt 28, 3) := by decide +kernel
theorem dL_acts_239 : decode cL_acts 239 = .ok (.iload 10, 2) := by decide +kernel
theorem dL_acts_241 : decode cL_acts 241 = .ok (.aload_n 1, 1) := by decide +kernel
theorem dL_acts_242 : decode cL_acts 242 = .ok (.iload 8, 2) := by decide +kernel
theorem dL_acts_244 : decode cL_acts 244 = .ok (.iconst 1, 1) := by decide +kernel
theorem dL_acts_245 : decode cL_acts 245 = .ok (.iadd, 1) := by decide +kernel
theorem dL_acts_246 : decode cL_acts 246 = .ok (.iaload, 1) := by decide +kernel
theorem dL_acts_247 : decode cL_acts 247 = .ok (.if_icmp .le 17, 3) := by decide +kernel
theorem dL_acts_250 : decode cL_acts 250 = .ok (.aload_n 3, 1) := by decide +kernel
theorem dL_acts_251 : decode cL_acts 251 = .ok (.iload 7, 2) := by decide +kernel
theorem dL_acts_253 : decode cL_acts 253 = .ok (.laload, 1) := by decide +kernel
theorem dL_acts_254 : decode cL_acts 254 = .ok (.iload 10, 2) := by decide +kernel
theorem dL_acts_256 : decode cL_acts 256 = .ok (.lshr, 1) := by decide +kernel
theorem dL_acts_257 : decode cL_acts 257 = .ok (.lconst 1, 1) := by decide +kernel
theorem dL_acts_258 : decode cL_acts 258 = .ok (.land, 1) := by decide +kernel
theorem dL_acts_259 : decode cL_acts 259 = .ok (.lconst 1, 1) := by decide +kernel
theorem dL_acts_260 : decode cL_acts 260 = .ok (.lcmp, 1) := by decide +kernel
theorem dL_acts_261 : decode cL_acts 261 = .ok (.ifCond .ne 22, 3) := by decide +kernel
theorem dL_acts_264 : decode cL_acts 264 = .ok (.aload_n 0, 1) := by decide +kernel
theorem dL_acts_265 : decode cL_acts 265 = .ok (.iload 7, 2) := by decide +kernel
theorem dL_acts_267 : decode cL_acts 267 = .ok (.iload 10, 2) := by decide +kernel
theorem dL_acts_269 : decode cL_acts 269 = .ok (.invokevirtual 81, 3) := by decide +kernel
theorem dL_acts_272 : decode cL_acts 272 = .ok (.ldc 45, 2) := by decide +kernel
theorem dL_acts_274 : decode cL_acts 274 = .ok (.if_icmp .ne 7, 3) := by decide +kernel
theorem dL_acts_277 : decode cL_acts 277 = .ok (.iconst 1, 1) := by decide +kernel
theorem dL_acts_278 : decode cL_acts 278 = .ok (.goto 4, 3) := by decide +kernel
theorem dL_acts_281 : decode cL_acts 281 = .ok (.iconst 0, 1) := by decide +kernel
theorem dL_acts_282 : decode cL_acts 282 = .ok (.ireturn, 1) := by decide +kernel
theorem dL_acts_283 : decode cL_acts 283 = .ok (.aload_n 3, 1) := by decide +kernel
theorem dL_acts_284 : decode cL_acts 284 = .ok (.iload 7, 2) := by decide +kernel
theorem dL_acts_286 : decode cL_acts 286 = .ok (.dup2, 1) := by decide +kernel
theorem dL_acts_287 : decode cL_acts 287 = .ok (.laload, 1) := by decide +kernel
theorem dL_acts_288 : decode cL_acts 288 = .ok (.lconst 1, 1) := by decide +kernel
theorem dL_acts_289 : decode cL_acts 289 = .ok (.iload 10, 2) := by decide +kernel
theorem dL_acts_291 : decode cL_acts 291 = .ok (.lshl, 1) := by decide +kernel
theorem dL_acts_292 : decode cL_acts 292 = .ok (.lor, 1) := by decide +kernel
theorem dL_acts_293 : decode cL_acts 293 = .ok (.lastore, 1) := by decide +kernel
theorem dL_acts_294 : decode cL_acts 294 = .ok (.aload_n 1, 1) := by decide +kernel
theorem dL_acts_295 : decode cL_acts 295 = .ok (.iconst 5, 1) := by decide +kernel
theorem dL_acts_296 : decode cL_acts 296 = .ok (.dup2, 1) := by decide +kernel
theorem dL_acts_297 : decode cL_acts 297 = .ok (.iaload, 1) := by decide +kernel
theorem dL_acts_298 : decode cL_acts 298 = .ok (.iconst 1, 1) := by decide +kernel
theorem dL_acts_299 : decode cL_acts 299 = .ok (.iadd, 1) := by decide +kernel
theorem dL_acts_300 : decode cL_acts 300 = .ok (.iastore, 1) := by decide +kernel
theorem dL_acts_301 : decode cL_acts 301 = .ok (.aload_n 0, 1) := by decide +kernel
theorem dL_acts_302 : decode cL_acts 302 = .ok (.iload 7, 2) := by decide +kernel
theorem dL_acts_304 : decode cL_acts 304 = .ok (.iload 10, 2) := by decide +kernel
theorem dL_acts_306 : decode cL_acts 306 = .ok (.invokevirtual 81, 3) := by decide +kernel
theorem dL_acts_309 : decode cL_acts 309 = .ok (.aload_n 3, 1) := by decide +kernel
theorem dL_acts_310 : decode cL_acts 310 = .ok (.iload 7, 2) := by decide +kernel
theorem dL_acts_312 : decode cL_acts 312 = .ok (.laload, 1) := by decide +kernel
theorem dL_acts_313 : decode cL_acts 313 = .ok (.invokestatic 85, 3) := by decide +kernel
theorem dL_acts_316 : decode cL_acts 316 = .ok (.if_icmp .ne 7, 3) := by decide +kernel
theorem dL_acts_319 : decode cL_acts 319 = .ok (.iconst 1, 1) := by decide +kernel
theorem dL_acts_320 : decode cL_acts 320 = .ok (.goto 4, 3) := by decide +kernel
theorem dL_acts_323 : decode cL_acts 323 = .ok (.iconst 0, 1) := by decide +kernel
theorem dL_acts_324 : decode cL_acts 324 = .ok (.ireturn, 1) := by decide +kernel
theorem dL_acts_325 : decode cL_acts 325 = .ok (.iload 6, 2) := by decide +kernel
theorem dL_acts_327 : decode cL_acts 327 = .ok (.bipush 25, 2) := by decide +kernel
theorem dL_acts_329 : decode cL_acts 329 = .ok (.if_icmp .ne 56, 3) := by decide +kernel
theorem dL_acts_332 : decode cL_acts 332 = .ok (.aload_n 3, 1) := by decide +kernel
theorem dL_acts_333 : decode cL_acts 333 = .ok (.iload 7, 2) := by decide +kernel
theorem dL_acts_335 : decode cL_acts 335 = .ok (.laload, 1) := by decide +kernel
theorem dL_acts_336 : decode cL_acts 336 = .ok (.invokestatic 85, 3) := by decide +kernel
theorem dL_acts_339 : decode cL_acts 339 = .ok (.istore 10, 2) := by decide +kernel
theorem dL_acts_341 : decode cL_acts 341 = .ok (.aload_n 3, 1) := by decide +kernel
theorem dL_acts_342 : decode cL_acts 342 = .ok (.iload 7, 2) := by decide +kernel
theorem dL_acts_344 : decode cL_acts 344 = .ok (.iload 9, 2) := by decide +kernel
theorem dL_acts_346 : decode cL_acts 346 = .ok (.ifCond .eq 10, 3) := by decide +kernel
theorem dL_acts_349 : decode cL_acts 349 = .ok (.aload_n 3, 1) := by decide +kernel
theorem dL_acts_350 : decode cL_acts 350 = .ok (.iload 7, 2) := by decide +kernel
theorem dL_acts_352 : decode cL_acts 352 = .ok (.laload, 1) := by decide +kernel
theorem dL_acts_353 : decode cL_acts 353 = .ok (.goto 4, 3) := by decide +kernel
theorem dL_acts_356 : decode cL_acts 356 = .ok (.lconst 0, 1) := by decide +kernel
theorem dL_acts_357 : decode cL_acts 357 = .ok (.lastore, 1) := by decide +kernel
theorem dL_acts_358 : decode cL_acts 358 = .ok (.aload_n 0, 1) := by decide +kernel
theorem dL_acts_359 : decode cL_acts 359 = .ok (.iload 7, 2) := by decide +kernel
theorem dL_acts_361 : decode cL_acts 361 = .ok (.invokevirtual 89, 3) := by decide +kernel
theorem dL_acts_364 : decode cL_acts 364 = .ok (.iload 9, 2) := by decide +kernel
theorem dL_acts_366 : decode cL_acts 366 = .ok (.ifCond .eq 8, 3) := by decide +kernel
theorem dL_acts_369 : decode cL_acts 369 = .ok (.ldc 45, 2) := by decide +kernel
theorem dL_acts_371 : decode cL_acts 371 = .ok (.goto 5, 3) := by decide +kernel
theorem dL_acts_374 : decode cL_acts 374 = .ok (.iload 10, 2) := by decide +kernel
theorem dL_acts_376 : decode cL_acts 376 = .ok (.if_icmp .ne 7, 3) := by decide +kernel
theorem dL_acts_379 : decode cL_acts 379 = .ok (.iconst 1, 1) := by decide +kernel
theorem dL_acts_380 : decode cL_acts 380 = .ok (.goto 4, 3) := by decide +kernel
theorem dL_acts_383 : decode cL_acts 383 = .ok (.iconst 0, 1) := by decide +kernel
theorem dL_acts_384 : decode cL_acts 384 = .ok (.ireturn, 1) := by decide +kernel
theorem dL_acts_385 : decode cL_acts 385 = .ok (.iload 6, 2) := by decide +kernel
theorem dL_acts_387 : decode cL_acts 387 = .ok (.bipush 29, 2) := by decide +kernel
theorem dL_acts_389 : decode cL_acts 389 = .ok (.if_icmp .ge 137, 3) := by decide +kernel
theorem dL_acts_392 : decode cL_acts 392 = .ok (.iconst 1, 1) := by decide +kernel
theorem dL_acts_393 : decode cL_acts 393 = .ok (.iload 5, 2) := by decide +kernel
theorem dL_acts_395 : decode cL_acts 395 = .ok (.iload 5, 2) := by decide +kernel
theorem dL_acts_397 : decode cL_acts 397 = .ok (.iconst 5, 1) := by decide +kernel
theorem dL_acts_398 : decode cL_acts 398 = .ok (.irem, 1) := by decide +kernel
theorem dL_acts_399 : decode cL_acts 399 = .ok (.ifCond .ne 8, 3) := by decide +kernel
theorem dL_acts_402 : decode cL_acts 402 = .ok (.bipush 99, 2) := by decide +kernel
theorem dL_acts_404 : decode cL_acts 404 = .ok (.goto 4, 3) := by decide +kernel
theorem dL_acts_407 : decode cL_acts 407 = .ok (.iconst 4, 1) := by decide +kernel
theorem dL_acts_408 : decode cL_acts 408 = .ok (.irem, 1) := by decide +kernel
theorem dL_acts_409 : decode cL_acts 409 = .ok (.iadd, 1) := by decide +kernel
theorem dL_acts_410 : decode cL_acts 410 = .ok (.istore 10, 2) := by decide +kernel
theorem dL_acts_412 : decode cL_acts 412 = .ok (.iconst 0, 1) := by decide +kernel
theorem dL_acts_413 : decode cL_acts 413 = .ok (.istore 11, 2) := by decide +kernel
theorem dL_acts_415 : decode cL_acts 415 = .ok (.iconst 0, 1) := by decide +kernel
theorem dL_acts_416 : decode cL_acts 416 = .ok (.istore 12, 2) := by decide +kernel
theorem dL_acts_418 : decode cL_acts 418 = .ok (.iload 12, 2) := by decide +kernel
theorem dL_acts_420 : decode cL_acts 420 = .ok (.iload 10, 2) := by decide +kernel
theorem dL_acts_422 : decode cL_acts 422 = .ok (.if_icmp .ge 78, 3) := by decide +kernel
theorem dL_acts_425 : decode cL_acts 425 = .ok (.aload_n 1, 1) := by decide +kernel
theorem dL_acts_426 : decode cL_acts 426 = .ok (.iconst 1, 1) := by decide +kernel
theorem dL_acts_427 : decode cL_acts 427 = .ok (.dup2, 1) := by decide +kernel
theorem dL_acts_428 : decode cL_acts 428 = .ok (.iaload, 1) := by decide +kernel
theorem dL_acts_429 : decode cL_acts 429 = .ok (.iconst 1, 1) := by decide +kernel
theorem dL_acts_430 : decode cL_acts 430 = .ok (.iadd, 1) := by decide +kernel
theorem dL_acts_431 : decode cL_acts 431 = .ok (.iastore, 1) := by decide +kernel
theorem dL_acts_432 : decode cL_acts 432 = .ok (.iconst 0, 1) := by decide +kernel
theorem dL_acts_433 : decode cL_acts 433 = .ok (.istore 13, 2) := by decide +kernel
theorem dL_acts_435 : decode cL_acts 435 = .ok (.iload 13, 2) := by decide +kernel
theorem dL_acts_437 : decode cL_acts 437 = .ok (.iconst 2, 1) := by decide +kernel
theorem dL_acts_438 : decode cL_acts 438 = .ok (.if_icmp .ge 56, 3) := by decide +kernel
theorem dL_acts_441 : decode cL_acts 441 = .ok (.aload_n 1, 1) := by decide +kernel
theorem dL_acts_442 : decode cL_acts 442 = .ok (.aload_n 2, 1) := by decide +kernel
theorem dL_acts_443 : decode cL_acts 443 = .ok (.aload_n 3, 1) := by decide +kernel
theorem dL_acts_444 : decode cL_acts 444 = .ok (.iload 13, 2) := by decide +kernel
theorem dL_acts_446 : decode cL_acts 446 = .ok (.aload_n 1, 1) := by decide +kernel
theorem dL_acts_447 : decode cL_acts 447 = .ok (.bipush 13, 2) := by decide +kernel
theorem dL_acts_449 : decode cL_acts 449 = .ok (.iconst 3, 1) := by decide +kernel
theorem dL_acts_450 : decode cL_acts 450 = .ok (.iload 13, 2) := by decide +kernel
theorem dL_acts_452 : decode cL_acts 452 = .ok (.imul, 1) := by decide +kernel
theorem dL_acts_453 : decode cL_acts 453 = .ok (.iadd, 1) := by decide +kernel
theorem dL_acts_454 : decode cL_acts 454 = .ok (.iaload, 1) := by decide +kernel
theorem dL_acts_455 : decode cL_acts 455 = .ok (.aload_n 1, 1) := by decide +kernel
theorem dL_acts_456 : decode cL_acts 456 = .ok (.iconst 1, 1) := by decide +kernel
theorem dL_acts_457 : decode cL_acts 457 = .ok (.iaload, 1) := by decide +kernel
theorem dL_acts_458 : decode cL_acts 458 = .ok (.aload_n 1, 1) := by decide +kernel
theorem dL_acts_459 : decode cL_acts 459 = .ok (.bipush 7, 2) := by decide +kernel
theorem dL_acts_461 : decode cL_acts 461 = .ok (.iaload, 1) := by decide +kernel
theorem dL_acts_462 : decode cL_acts 462 = .ok (.invokestatic 92, 3) := by decide +kernel
theorem dL_acts_465 : decode cL_acts 465 = .ok (.istore 14, 2) := by decide +kernel
theorem dL_acts_467 : decode cL_acts 467 = .ok (.aload_n 1, 1) := by decide +kernel
theorem dL_acts_468 : decode cL_acts 468 = .ok (.bipush 13, 2) := by decide +kernel
theorem dL_acts_470 : decode cL_acts 470 = .ok (.iconst 3, 1) := by decide +kernel
theorem dL_acts_471 : decode cL_acts 471 = .ok (.iload 13, 2) := by decide +kernel
theorem dL_acts_473 : decode cL_acts 473 = .ok (.imul, 1) := by decide +kernel
theorem dL_acts_474 : decode cL_acts 474 = .ok (.iadd, 1) := by decide +kernel
theorem dL_acts_475 : decode cL_acts 475 = .ok (.dup2, 1) := by decide +kernel
theorem dL_acts_476 : decode cL_acts 476 = .ok (.iaload, 1) := by decide +kernel
theorem dL_acts_477 : decode cL_acts 477 = .ok (.iload 14, 2) := by decide +kernel
theorem dL_acts_479 : decode cL_acts 479 = .ok (.iadd, 1) := by decide +kernel
theorem dL_acts_480 : decode cL_acts 480 = .ok (.iastore, 1) := by decide +kernel
theorem dL_acts_481 : decode cL_acts 481 = .ok (.iload 11, 2) := by decide +kernel
theorem dL_acts_483 : decode cL_acts 483 = .ok (.iload 14, 2) := by decide +kernel
theorem dL_acts_485 : decode cL_acts 485 = .ok (.iadd, 1) := by decide +kernel
theorem dL_acts_486 : decode cL_acts 486 = .ok (.istore 11, 2) := by decide +kernel
theorem dL_acts_488 : decode cL_acts 488 = .ok (.iinc 13 1, 3) := by decide +kernel
theorem dL_acts_491 : decode cL_acts 491 = .ok (.goto (-56), 3) := by decide +kernel
theorem dL_acts_494 : decode cL_acts 494 = .ok (.iinc 12 1, 3) := by decide +kernel
theorem dL_acts_497 : decode cL_acts 497 = .ok (.goto (-79), 3) := by decide +kernel
theorem dL_acts_500 : decode cL_acts 500 = .ok (.aload_n 1, 1) := by decide +kernel
theorem dL_acts_501 : decode cL_acts 501 = .ok (.bipush 6, 2) := by decide +kernel
theorem dL_acts_503 : decode cL_acts 503 = .ok (.dup2, 1) := by decide +kernel
theorem dL_acts_504 : decode cL_acts 504 = .ok (.iaload, 1) := by decide +kernel
theorem dL_acts_505 : decode cL_acts 505 = .ok (.iload 11, 2) := by decide +kernel
theorem dL_acts_507 : decode cL_acts 507 = .ok (.iadd, 1) := by decide +kernel
theorem dL_acts_508 : decode cL_acts 508 = .ok (.iastore, 1) := by decide +kernel
theorem dL_acts_509 : decode cL_acts 509 = .ok (.aload_n 0, 1) := by decide +kernel
theorem dL_acts_510 : decode cL_acts 510 = .ok (.iload 10, 2) := by decide +kernel
theorem dL_acts_512 : decode cL_acts 512 = .ok (.invokevirtual 96, 3) := by decide +kernel
theorem dL_acts_515 : decode cL_acts 515 = .ok (.iload 11, 2) := by decide +kernel
theorem dL_acts_517 : decode cL_acts 517 = .ok (.if_icmp .ne 7, 3) := by decide +kernel
theorem dL_acts_520 : decode cL_acts 520 = .ok (.iconst 1, 1) := by decide +kernel
theorem dL_acts_521 : decode cL_acts 521 = .ok (.goto 4, 3) := by decide +kernel
theorem dL_acts_524 : decode cL_acts 524 = .ok (.iconst 0, 1) := by decide +kernel
theorem dL_acts_525 : decode cL_acts 525 = .ok (.ireturn, 1) := by decide +kernel
theorem dL_acts_526 : decode cL_acts 526 = .ok (.iload 6, 2) := by decide +kernel
theorem dL_acts_528 : decode cL_acts 528 = .ok (.bipush 29, 2) := by decide +kernel
theorem dL_acts_530 : decode cL_acts 530 = .ok (.if_icmp .ne 52, 3) := by decide +kernel
theorem dL_acts_533 : decode cL_acts 533 = .ok (.iload 9, 2) := by decide +kernel
theorem dL_acts_535 : decode cL_acts 535 = .ok (.ifCond .eq 22, 3) := by decide +kernel
theorem dL_acts_538 : decode cL_acts 538 = .ok (.aload_n 0, 1) := by decide +kernel
theorem dL_acts_539 : decode cL_acts 539 = .ok (.iload 7, 2) := by decide +kernel
theorem dL_acts_541 : decode cL_acts 541 = .ok (.invokevirtual 66, 3) := by decide +kernel
theorem dL_acts_544 : decode cL_acts 544 = .ok (.ldc 45, 2) := by decide +kernel
theorem dL_acts_546 : decode cL_acts 546 = .ok (.if_icmp .ne 7, 3) := by decide +kernel
theorem dL_acts_549 : decode cL_acts 549 = .ok (.iconst 1, 1) := by decide +kernel
theorem dL_acts_550 : decode cL_acts 550 = .ok (.goto 31, 3) := by decide +kernel
theorem dL_acts_553 : decode cL_acts 553 = .ok (.iconst 0, 1) := by decide +kernel
theorem dL_acts_554 : decode cL_acts 554 = .ok (.goto 27, 3) := by decide +kernel
theorem dL_acts_557 : decode cL_acts 557 = .ok (.iload 5, 2) := by decide +kernel
theorem dL_acts_559 : decode cL_acts 559 = .ok (.iconst 3, 1) := by decide +kernel
theorem dL_acts_560 : decode cL_acts 560 = .ok (.irem, 1) := by decide +kernel
theorem dL_acts_561 : decode cL_acts 561 = .ok (.ifCond .gt 15, 3) := by decide +kernel
theorem dL_acts_564 : decode cL_acts 564 = .ok (.aload_n 0, 1) := by decide +kernel
theorem dL_acts_565 : decode cL_acts 565 = .ok (.aload_n 1, 1) := by decide +kernel
theorem dL_acts_566 : decode cL_acts 566 = .ok (.aload_n 2, 1) := by decide +kernel
theorem dL_acts_567 : decode cL_acts 567 = .ok (.aload_n 3, 1) := by decide +kernel
theorem dL_acts_568 : decode cL_acts 568 = .ok (.iload 7, 2) := by decide +kernel
theorem dL_acts_570 : decode cL_acts 570 = .ok (.invokestatic 99, 3) := by decide +kernel
theorem dL_acts_573 : decode cL_acts 573 = .ok (.ifCond .eq 7, 3) := by decide +kernel
theorem dL_acts_576 : decode cL_acts 576 = .ok (.iconst 1, 1) := by decide +kernel
theorem dL_acts_577 : decode cL_acts 577 = .ok (.goto 4, 3) := by decide +kernel
theorem dL_acts_580 : decode cL_acts 580 = .ok (.iconst 0, 1) := by decide +kernel
theorem dL_acts_581 : decode cL_acts 581 = .ok (.ireturn, 1) := by decide +kernel
theorem dL_acts_582 : decode cL_acts 582 = .ok (.iload 6, 2) := by decide +kernel
theorem dL_acts_584 : decode cL_acts 584 = .ok (.bipush 30, 2) := by decide +kernel
theorem dL_acts_586 : decode cL_acts 586 = .ok (.if_icmp .ne 63, 3) := by decide +kernel
theorem dL_acts_589 : decode cL_acts 589 = .ok (.iload 9, 2) := by decide +kernel
theorem dL_acts_591 : decode cL_acts 591 = .ok (.ifCond .ne 12, 3) := by decide +kernel
theorem dL_acts_594 : decode cL_acts 594 = .ok (.iload 5, 2) := by decide +kernel
theorem dL_acts_596 : decode cL_acts 596 = .ok (.iconst 4, 1) := by decide +kernel
theorem dL_acts_597 : decode cL_acts 597 = .ok (.irem, 1) := by decide +kernel
theorem dL_acts_598 : decode cL_acts 598 = .ok (.ifCond .le 5, 3) := by decide +kernel
theorem dL_acts_601 : decode cL_acts 601 = .ok (.iconst 1, 1) := by decide +kernel
theorem dL_acts_602 : decode cL_acts 602 = .ok (.ireturn, 1) := by decide +kernel
theorem dL_acts_603 : decode cL_acts 603 = .ok (.aload_n 1, 1) := by decide +kernel
theorem dL_acts_604 : decode cL_acts 604 = .ok (.iload 8, 2) := by decide +kernel
theorem dL_acts_606 : decode cL_acts 606 = .ok (.aload_n 1, 1) := by decide +kernel
theorem dL_acts_607 : decode cL_acts 607 = .ok (.iconst 0, 1) := by decide +kernel
theorem dL_acts_608 : decode cL_acts 608 = .ok (.iaload, 1) := by decide +kernel
theorem dL_acts_609 : decode cL_acts 609 = .ok (.iastore, 1) := by decide +kernel
theorem dL_acts_610 : decode cL_acts 610 = .ok (.aload_n 1, 1) := by decide +kernel
theorem dL_acts_611 : decode cL_acts 611 = .ok (.iload 8, 2) := by decide +kernel
theorem dL_acts_613 : decode cL_acts 613 = .ok (.iconst 1, 1) := by decide +kernel
theorem dL_acts_614 : decode cL_acts 614 = .ok (.iadd, 1) := by decide +kernel
theorem dL_acts_615 : decode cL_acts 615 = .ok (.aload_n 1, 1) := by decide +kernel
theorem dL_acts_616 : decode cL_acts 616 = .ok (.iconst 0, 1) := by decide +kernel
theorem dL_acts_617 : decode cL_acts 617 = .ok (.iaload, 1) := by decide +kernel
theorem dL_acts_618 : decode cL_acts 618 = .ok (.iastore, 1) := by decide +kernel
theorem dL_acts_619 : decode cL_acts 619 = .ok (.aload_n 1, 1) := by decide +kernel
theorem dL_acts_620 : decode cL_acts 620 = .ok (.iload 8, 2) := by decide +kernel
theorem dL_acts_622 : decode cL_acts 622 = .ok (.iconst 2, 1) := by decide +kernel
theorem dL_acts_623 : decode cL_acts 623 = .ok (.iadd, 1) := by decide +kernel
theorem dL_acts_624 : decode cL_acts 624 = .ok (.iconst 0, 1) := by decide +kernel
theorem dL_acts_625 : decode cL_acts 625 = .ok (.iastore, 1) := by decide +kernel
theorem dL_acts_626 : decode cL_acts 626 = .ok (.aload_n 3, 1) := by decide +kernel
theorem dL_acts_627 : decode cL_acts 627 = .ok (.iload 7, 2) := by decide +kernel
theorem dL_acts_629 : decode cL_acts 629 = .ok (.lconst 0, 1) := by decide +kernel
theorem dL_acts_630 : decode cL_acts 630 = .ok (.lastore, 1) := by decide +kernel
theorem dL_acts_631 : decode cL_acts 631 = .ok (.aload_n 0, 1) := by decide +kernel
theorem dL_acts_632 : decode cL_acts 632 = .ok (.iload 7, 2) := by decide +kernel
theorem dL_acts_634 : decode cL_acts 634 = .ok (.invokevirtual 103, 3) := by decide +kernel
theorem dL_acts_637 : decode cL_acts 637 = .ok (.aload_n 1, 1) := by decide +kernel
theorem dL_acts_638 : decode cL_acts 638 = .ok (.iconst 0, 1) := by decide +kernel
theorem dL_acts_639 : decode cL_acts 639 = .ok (.iaload, 1) := by decide +kernel
theorem dL_acts_640 : decode cL_acts 640 = .ok (.if_icmp .ne 7, 3) := by decide +kernel
theorem dL_acts_643 : decode cL_acts 643 = .ok (.iconst 1, 1) := by decide +kernel
theorem dL_acts_644 : decode cL_acts 644 = .ok (.goto 4, 3) := by decide +kernel
theorem dL_acts_647 : decode cL_acts 647 = .ok (.iconst 0, 1) := by decide +kernel
theorem dL_acts_648 : decode cL_acts 648 = .ok (.ireturn, 1) := by decide +kernel
theorem dL_acts_649 : decode cL_acts 649 = .ok (.iload 5, 2) := by decide +kernel
theorem dL_acts_651 : decode cL_acts 651 = .ok (.iconst 2, 1) := by decide +kernel
theorem dL_acts_652 : decode cL_acts 652 = .ok (.irem, 1) := by decide +kernel
theorem dL_acts_653 : decode cL_acts 653 = .ok (.istore 10, 2) := by decide +kernel
theorem dL_acts_655 : decode cL_acts 655 = .ok (.aload_n 1, 1) := by decide +kernel
theorem dL_acts_656 : decode cL_acts 656 = .ok (.bipush 7, 2) := by decide +kernel
theorem dL_acts_658 : decode cL_acts 658 = .ok (.iload 10, 2) := by decide +kernel
theorem dL_acts_660 : decode cL_acts 660 = .ok (.iadd, 1) := by decide +kernel
theorem dL_acts_661 : decode cL_acts 661 = .ok (.iaload, 1) := by decide +kernel
theorem dL_acts_662 : decode cL_acts 662 = .ok (.istore 11, 2) := by decide +kernel
theorem dL_acts_664 : decode cL_acts 664 = .ok (.aload_n 1, 1) := by decide +kernel
theorem dL_acts_665 : decode cL_acts 665 = .ok (.bipush 7, 2) := by decide +kernel
theorem dL_acts_667 : decode cL_acts 667 = .ok (.iload 10, 2) := by decide +kernel
theorem dL_acts_669 : decode cL_acts 669 = .ok (.iadd, 1) := by decide +kernel
theorem dL_acts_670 : decode cL_acts 670 = .ok (.iload 10, 2) := by decide +kernel
theorem dL_acts_672 : decode cL_acts 672 = .ok (.ifCond .ne 15, 3) := by decide +kernel
theorem dL_acts_675 : decode cL_acts 675 = .ok (.iconst 1, 1) := by decide +kernel
theorem dL_acts_676 : decode cL_acts 676 = .ok (.iload 5, 2) := by decide +kernel
theorem dL_acts_678 : decode cL_acts 678 = .ok (.iconst 2, 1) := by decide +kernel
theorem dL_acts_679 : decode cL_acts 679 = .ok (.idiv, 1) := by decide +kernel
theorem dL_acts_680 : decode cL_acts 680 = .ok (.bipush 20, 2) := by decide +kernel
theorem dL_acts_682 : decode cL_acts 682 = .ok (.irem, 1) := by decide +kernel
theorem dL_acts_683 : decode cL_acts 683 = .ok (.iadd, 1) := by decide +kernel
theorem dL_acts_684 : decode cL_acts 684 = .ok (.goto 21, 3) := by decide +kernel
theorem dL_acts_687 : decode cL_acts 687 = .ok (.iload 5, 2) := by decide +kernel
theorem dL_acts_689 : decode cL_acts 689 = .ok (.iconst 2, 1) := by decide +kernel
theorem dL_acts_690 : decode cL_acts 690 = .ok (.idiv, 1) := by decide +kernel
theorem dL_acts_691 : decode cL_acts 691 = .ok (.iload 5, 2) := by decide +kernel
theorem dL_acts_693 : decode cL_acts 693 = .ok (.iconst 3, 1) := by decide +kernel
theorem dL_acts_694 : decode cL_acts 694 = .ok (.irem, 1) := by decide +kernel
theorem dL_acts_695 : decode cL_acts 695 = .ok (.ifCond .ne 8, 3) := by decide +kernel
theorem dL_acts_698 : decode cL_acts 698 = .ok (.bipush 21, 2) := by decide +kernel
theorem dL_acts_700 : decode cL_acts 700 = .ok (.goto 4, 3) := by decide +kernel
theorem dL_acts_703 : decode cL_acts 703 = .ok (.iconst 4, 1) := by decide +kernel
theorem dL_acts_704 : decode cL_acts 704 = .ok (.irem, 1) := by decide +kernel
theorem dL_acts_705 : decode cL_acts 705 = .ok (.iastore, 1) := by decide +kernel
theorem dL_acts_706 : decode cL_acts 706 = .ok (.aload_n 0, 1) := by decide +kernel
theorem dL_acts_707 : decode cL_acts 707 = .ok (.iload 10, 2) := by decide +kernel
theorem dL_acts_709 : decode cL_acts 709 = .ok (.aload_n 1, 1) := by decide +kernel
theorem dL_acts_710 : decode cL_acts 710 = .ok (.bipush 7, 2) := by decide +kernel
theorem dL_acts_712 : decode cL_acts 712 = .ok (.iload 10, 2) := by decide +kernel
theorem dL_acts_714 : decode cL_acts 714 = .ok (.iadd, 1) := by decide +kernel
theorem dL_acts_715 : decode cL_acts 715 = .ok (.iaload, 1) := by decide +kernel
theorem dL_acts_716 : decode cL_acts 716 = .ok (.invokevirtual 106, 3) := by decide +kernel
theorem dL_acts_719 : decode cL_acts 719 = .ok (.iload 11, 2) := by decide +kernel
theorem dL_acts_721 : decode cL_acts 721 = .ok (.if_icmp .ne 7, 3) := by decide +kernel
theorem dL_acts_724 : decode cL_acts 724 = .ok (.iconst 1, 1) := by decide +kernel
theorem dL_acts_725 : decode cL_acts 725 = .ok (.goto 4, 3) := by decide +kernel
theorem dL_acts_728 : decode cL_acts 728 = .ok (.iconst 0, 1) := by decide +kernel
theorem dL_acts_729 : decode cL_acts 729 = .ok (.ireturn, 1) := by decide +kernel
set_option maxRecDepth 20000 in
theorem ggL_areStandbys_X6_standbyOf : GoodIn wsL_areStandbys wsX6_standbyOf := goodIn_r _ [7, 8, 9, 10, 11, 12, 13, 14, 15, 16, 17, 18, 6, 19, 20, 21, 22, 23, 24, 25, 26, 27, 28, 29, 30, 31, 32, 33, 34, 35, 36, 37, 38, 39, 40, 41, 42, 43, 44, 45, 46, 47, 48, 49, 50, 51, 52, 53, 54, 55, 56, 57, 58, 59, 60, 61, 62, 63, 64, 65, 66, 67, 68, 69, 70, 71, 72, 73, 74, 75, 76, 77, 78, 79, 80, 81, 82, 83, 84, 85, 86, 87, 88, 89, 90, 91, 92, 93, 94, 95, 96, 97, 128, 129, 130, 131, 132, 133, 134, 135, 136, 137, 138, 139, 140, 141, 142, 143, 144, 145, 146, 147, 148, 149, 150, 151, 152, 153, 154, 155] (by decide +kernel) (by decide +kernel)
set_option maxRecDepth 20000 in
theorem gL_areStandbys_X6_standbyOf : GoodIn wsL_areStandbys (wsV RL 110 RX6 yX6_standbyOf wsX6_standbyOf) := goodIn_app (goodIn_of _ (by decide +kernel)) ggL_areStandbys_X6_standbyOf
set_option maxRecDepth 20000 in
theorem ggL_areStandbys_L_ones : GoodIn wsL_areStandbys wsL_ones := goodIn_r _ [101] (by decide +kernel) (by decide +kernel)
set_option maxRecDepth 20000 in
theorem gL_areStandbys_L_ones : GoodIn wsL_areStandbys (va_wsS RL 85 yL_ones wsL_ones) := goodIn_app (goodIn_of _ (by decide +kernel)) ggL_areStandbys_L_ones
set_option maxRecDepth 20000 in
theorem ggL_areStandbys_L_commits : GoodIn wsL_areStandbys wsL_commits := goodIn_r _ [104, 105, 106, 100, 107, 108] (by decide +kernel) (by decide +kernel)
set_option maxRecDepth 20000 in
theorem gL_areStandbys_L_commits : GoodIn wsL_areStandbys (va_wsS RL 60 yL_commits wsL_commits) := goodIn_app (goodIn_of _ (by decide +kernel)) ggL_areStandbys_L_commits
set_option maxRecDepth 20000 in
theorem ggL_areStandbys_L_at : GoodIn wsL_areStandbys wsL_at := goodIn_r _ [111, 112] (by decide +kernel) (by decide +kernel)
set_option maxRecDepth 20000 in
theorem gL_areStandbys_L_at : GoodIn wsL_areStandbys (va_wsS RL 36 yL_at wsL_at) := goodIn_app (goodIn_of _ (by decide +kernel)) ggL_areStandbys_L_at
set_option maxRecDepth 20000 in
theorem ggL_areStandbys_X6_count : GoodIn wsL_areStandbys wsX6_count := goodIn_r _ [116, 9, 10, 14, 15, 117, 118, 119, 120, 121, 122, 123, 124, 125, 126, 127, 8, 40, 41, 42, 43, 44, 45, 46, 47, 48, 49, 50, 51, 52, 53, 54, 55, 128, 129, 130, 131, 132, 133, 134, 135, 136, 137, 138, 139, 140, 141, 142, 143, 144, 145, 150, 151, 152, 153, 154, 155, 156, 157, 158, 159, 160, 161, 162, 163] (by decide +kernel) (by decide +kernel)
set_option maxRecDepth 20000 in
theorem gL_areStandbys_X6_count : GoodIn wsL_areStandbys (wsV RL 113 RX6 yX6_count wsX6_count) := goodIn_app (goodIn_of _ (by decide +kernel)) ggL_areStandbys_X6_count
theorem dL_areStandbys_0 : decode cL_areStandbys 0 = .ok (.iconst 1, 1) := by decide +kernel
theorem dL_areStandbys_1 : decode cL_areStandbys 1 = .ok (.istore 4, 2) := by decide +kernel
theorem dL_areStandbys_3 : decode cL_areStandbys 3 = .ok (.iconst 0, 1) := by decide +kernel
theorem dL_areStandbys_4 : decode cL_areStandbys 4 = .ok (.istore 5, 2) := by decide +kernel
theorem dL_areStandbys_6 : decode cL_areStandbys 6 = .ok (.iload 5, 2) := by decide +kernel
theorem dL_areStandbys_8 : decode cL_areStandbys 8 = .ok (.iconst 2, 1) := by decide +kernel
theorem dL_areStandbys_9 : decode cL_areStandbys 9 = .ok (.if_icmp .ge 309, 3) := by decide +kernel
theorem dL_areStandbys_12 : decode cL_areStandbys 12 = .ok (.iload 4, 2) := by decide +kernel
theorem dL_areStandbys_14 : decode cL_areStandbys 14 = .ok (.ifCond .eq 304, 3) := by decide +kernel
theorem dL_areStandbys_17 : decode cL_areStandbys 17 = .ok (.bipush 12, 2) := by decide +kernel
theorem dL_areStandbys_19 : decode cL_areStandbys 19 = .ok (.iconst 3, 1) := by decide +kernel
theorem dL_areStandbys_20 : decode cL_areStandbys 20 = .ok (.iload 5, 2) := by decide +kernel
theorem dL_areStandbys_22 : decode cL_areStandbys 22 = .ok (.imul, 1) := by decide +kernel
theorem dL_areStandbys_23 : decode cL_areStandbys 23 = .ok (.iadd, 1) := by decide +kernel
theorem dL_areStandbys_24 : decode cL_areStandbys 24 = .ok (.istore 6, 2) := by decide +kernel
theorem dL_areStandbys_26 : decode cL_areStandbys 26 = .ok (.ldc 109, 2) := by decide +kernel
theorem dL_areStandbys_28 : decode cL_areStandbys 28 = .ok (.istore 7, 2) := by decide +kernel
theorem dL_areStandbys_30 : decode cL_areStandbys 30 = .ok (.bipush 62, 2) := by decide +kernel
theorem dL_areStandbys_32 : decode cL_areStandbys 32 = .ok (.istore 8, 2) := by decide +kernel
theorem dL_areStandbys_34 : decode cL_areStandbys 34 = .ok (.iload 8, 2) := by decide +kernel
theorem dL_areStandbys_36 : decode cL_areStandbys 36 = .ok (.ifCond .le 32, 3) := by decide +kernel
theorem dL_areStandbys_39 : decode cL_areStandbys 39 = .ok (.aload_n 3, 1) := by decide +kernel
theorem dL_areStandbys_40 : decode cL_areStandbys 40 = .ok (.iload 5, 2) := by decide +kernel
theorem dL_areStandbys_42 : decode cL_areStandbys 42 = .ok (.laload, 1) := by decide +kernel
theorem dL_areStandbys_43 : decode cL_areStandbys 43 = .ok (.iload 8, 2) := by decide +kernel
theorem dL_areStandbys_45 : decode cL_areStandbys 45 = .ok (.lshr, 1) := by decide +kernel
theorem dL_areStandbys_46 : decode cL_areStandbys 46 = .ok (.lconst 1, 1) := by decide +kernel
theorem dL_areStandbys_47 : decode cL_areStandbys 47 = .ok (.land, 1) := by decide +kernel
theorem dL_areStandbys_48 : decode cL_areStandbys 48 = .ok (.lconst 1, 1) := by decide +kernel
theorem dL_areStandbys_49 : decode cL_areStandbys 49 = .ok (.lcmp, 1) := by decide +kernel
theorem dL_areStandbys_50 : decode cL_areStandbys 50 = .ok (.ifCond .ne 8, 3) := by decide +kernel
theorem dL_areStandbys_53 : decode cL_areStandbys 53 = .ok (.iload 8, 2) := by decide +kernel
theorem dL_areStandbys_55 : decode cL_areStandbys 55 = .ok (.goto 5, 3) := by decide +kernel
theorem dL_areStandbys_58 : decode cL_areStandbys 58 = .ok (.iload 7, 2) := by decide +kernel
theorem dL_areStandbys_60 : decode cL_areStandbys 60 = .ok (.istore 7, 2) := by decide +kernel
theorem dL_areStandbys_62 : decode cL_areStandbys 62 = .ok (.iinc 8 (-1), 3) := by decide +kernel
theorem dL_areStandbys_65 : decode cL_areStandbys 65 = .ok (.goto (-31), 3) := by decide +kernel
theorem dL_areStandbys_68 : decode cL_areStandbys 68 = .ok (.aload_n 0, 1) := by decide +kernel
theorem dL_areStandbys_69 : decode cL_areStandbys 69 = .ok (.iload 5, 2) := by decide +kernel
theorem dL_areStandbys_71 : decode cL_areStandbys 71 = .ok (.iconst 0, 1) := by decide +kernel
theorem dL_areStandbys_72 : decode cL_areStandbys 72 = .ok (.invokevirtual 110, 3) := by decide +kernel
theorem dL_areStandbys_75 : decode cL_areStandbys 75 = .ok (.aload_n 1, 1) := by decide +kernel
theorem dL_areStandbys_76 : decode cL_areStandbys 76 = .ok (.iload 6, 2) := by decide +kernel
theorem dL_areStandbys_78 : decode cL_areStandbys 78 = .ok (.iaload, 1) := by decide +kernel
theorem dL_areStandbys_79 : decode cL_areStandbys 79 = .ok (.if_icmp .ne 169, 3) := by decide +kernel
theorem dL_areStandbys_82 : decode cL_areStandbys 82 = .ok (.aload_n 0, 1) := by decide +kernel
theorem dL_areStandbys_83 : decode cL_areStandbys 83 = .ok (.iload 5, 2) := by decide +kernel
theorem dL_areStandbys_85 : decode cL_areStandbys 85 = .ok (.iconst 1, 1) := by decide +kernel
theorem dL_areStandbys_86 : decode cL_areStandbys 86 = .ok (.invokevirtual 110, 3) := by decide +kernel
theorem dL_areStandbys_89 : decode cL_areStandbys 89 = .ok (.aload_n 1, 1) := by decide +kernel
theorem dL_areStandbys_90 : decode cL_areStandbys 90 = .ok (.iload 6, 2) := by decide +kernel
theorem dL_areStandbys_92 : decode cL_areStandbys 92 = .ok (.iconst 1, 1) := by decide +kernel
theorem dL_areStandbys_93 : decode cL_areStandbys 93 = .ok (.iadd, 1) := by decide +kernel
theorem dL_areStandbys_94 : decode cL_areStandbys 94 = .ok (.iaload, 1) := by decide +kernel
theorem dL_areStandbys_95 : decode cL_areStandbys 95 = .ok (.if_icmp .ne 153, 3) := by decide +kernel
theorem dL_areStandbys_98 : decode cL_areStandbys 98 = .ok (.aload_n 0, 1) := by decide +kernel
theorem dL_areStandbys_99 : decode cL_areStandbys 99 = .ok (.iload 5, 2) := by decide +kernel
theorem dL_areStandbys_101 : decode cL_areStandbys 101 = .ok (.iconst 2, 1) := by decide +kernel
theorem dL_areStandbys_102 : decode cL_areStandbys 102 = .ok (.invokevirtual 110, 3) := by decide +kernel
theorem dL_areStandbys_105 : decode cL_areStandbys 105 = .ok (.aload_n 3, 1) := by decide +kernel
theorem dL_areStandbys_106 : decode cL_areStandbys 106 = .ok (.iload 5, 2) := by decide +kernel
theorem dL_areStandbys_108 : decode cL_areStandbys 108 = .ok (.laload, 1) := by decide +kernel
theorem dL_areStandbys_109 : decode cL_areStandbys 109 = .ok (.invokestatic 85, 3) := by decide +kernel
theorem dL_areStandbys_112 : decode cL_areStandbys 112 = .ok (.if_icmp .ne 136, 3) := by decide +kernel
theorem dL_areStandbys_115 : decode cL_areStandbys 115 = .ok (.aload_n 0, 1) := by decide +kernel
theorem dL_areStandbys_116 : decode cL_areStandbys 116 = .ok (.iload 5, 2) := by decide +kernel
theorem dL_areStandbys_118 : decode cL_areStandbys 118 = .ok (.iconst 3, 1) := by decide +kernel
theorem dL_areStandbys_119 : decode cL_areStandbys 119 = .ok (.invokevirtual 110, 3) := by decide +kernel
theorem dL_areStandbys_122 : decode cL_areStandbys 122 = .ok (.iload 7, 2) := by decide +kernel
theorem dL_areStandbys_124 : decode cL_areStandbys 124 = .ok (.if_icmp .ne 124, 3) := by decide +kernel
theorem dL_areStandbys_127 : decode cL_areStandbys 127 = .ok (.aload_n 0, 1) := by decide +kernel
theorem dL_areStandbys_128 : decode cL_areStandbys 128 = .ok (.iload 5, 2) := by decide +kernel
theorem dL_areStandbys_130 : decode cL_areStandbys 130 = .ok (.iconst 4, 1) := by decide +kernel
theorem dL_areStandbys_131 : decode cL_areStandbys 131 = .ok (.invokevirtual 110, 3) := by decide +kernel
theorem dL_areStandbys_134 : decode cL_areStandbys 134 = .ok (.aload_n 1, 1) := by decide +kernel
theorem dL_areStandbys_135 : decode cL_areStandbys 135 = .ok (.iload 6, 2) := by decide +kernel
theorem dL_areStandbys_137 : decode cL_areStandbys 137 = .ok (.iconst 2, 1) := by decide +kernel
theorem dL_areStandbys_138 : decode cL_areStandbys 138 = .ok (.iadd, 1) := by decide +kernel
theorem dL_areStandbys_139 : decode cL_areStandbys 139 = .ok (.iaload, 1) := by decide +kernel
theorem dL_areStandbys_140 : decode cL_areStandbys 140 = .ok (.if_icmp .ne 108, 3) := by decide +kernel
theorem dL_areStandbys_143 : decode cL_areStandbys 143 = .ok (.aload_n 0, 1) := by decide +kernel
theorem dL_areStandbys_144 : decode cL_areStandbys 144 = .ok (.iload 5, 2) := by decide +kernel
theorem dL_areStandbys_146 : decode cL_areStandbys 146 = .ok (.iconst 5, 1) := by decide +kernel
theorem dL_areStandbys_147 : decode cL_areStandbys 147 = .ok (.invokevirtual 110, 3) := by decide +kernel
theorem dL_areStandbys_150 : decode cL_areStandbys 150 = .ok (.aload_n 1, 1) := by decide +kernel
theorem dL_areStandbys_151 : decode cL_areStandbys 151 = .ok (.iconst 0, 1) := by decide +kernel
theorem dL_areStandbys_152 : decode cL_areStandbys 152 = .ok (.iaload, 1) := by decide +kernel
theorem dL_areStandbys_153 : decode cL_areStandbys 153 = .ok (.aload_n 1, 1) := by decide +kernel
theorem dL_areStandbys_154 : decode cL_areStandbys 154 = .ok (.iload 6, 2) := by decide +kernel
theorem dL_areStandbys_156 : decode cL_areStandbys 156 = .ok (.iconst 1, 1) := by decide +kernel
theorem dL_areStandbys_157 : decode cL_areStandbys 157 = .ok (.iadd, 1) := by decide +kernel
theorem dL_areStandbys_158 : decode cL_areStandbys 158 = .ok (.iaload, 1) := by decide +kernel
theorem dL_areStandbys_159 : decode cL_areStandbys 159 = .ok (.isub, 1) := by decide +kernel
theorem dL_areStandbys_160 : decode cL_areStandbys 160 = .ok (.if_icmp .ne 88, 3) := by decide +kernel
theorem dL_areStandbys_163 : decode cL_areStandbys 163 = .ok (.aload_n 0, 1) := by decide +kernel
theorem dL_areStandbys_164 : decode cL_areStandbys 164 = .ok (.iload 5, 2) := by decide +kernel
theorem dL_areStandbys_166 : decode cL_areStandbys 166 = .ok (.bipush 6, 2) := by decide +kernel
theorem dL_areStandbys_168 : decode cL_areStandbys 168 = .ok (.invokevirtual 110, 3) := by decide +kernel
theorem dL_areStandbys_171 : decode cL_areStandbys 171 = .ok (.aload_n 2, 1) := by decide +kernel
theorem dL_areStandbys_172 : decode cL_areStandbys 172 = .ok (.aload_n 1, 1) := by decide +kernel
theorem dL_areStandbys_173 : decode cL_areStandbys 173 = .ok (.iload 6, 2) := by decide +kernel
theorem dL_areStandbys_175 : decode cL_areStandbys 175 = .ok (.iconst 1, 1) := by decide +kernel
theorem dL_areStandbys_176 : decode cL_areStandbys 176 = .ok (.iadd, 1) := by decide +kernel
theorem dL_areStandbys_177 : decode cL_areStandbys 177 = .ok (.iaload, 1) := by decide +kernel
theorem dL_areStandbys_178 : decode cL_areStandbys 178 = .ok (.aload_n 1, 1) := by decide +kernel
theorem dL_areStandbys_179 : decode cL_areStandbys 179 = .ok (.iconst 0, 1) := by decide +kernel
theorem dL_areStandbys_180 : decode cL_areStandbys 180 = .ok (.iaload, 1) := by decide +kernel
theorem dL_areStandbys_181 : decode cL_areStandbys 181 = .ok (.invokestatic 60, 3) := by decide +kernel
theorem dL_areStandbys_184 : decode cL_areStandbys 184 = .ok (.if_icmp .ne 64, 3) := by decide +kernel
theorem dL_areStandbys_187 : decode cL_areStandbys 187 = .ok (.aload_n 0, 1) := by decide +kernel
theorem dL_areStandbys_188 : decode cL_areStandbys 188 = .ok (.iload 5, 2) := by decide +kernel
theorem dL_areStandbys_190 : decode cL_areStandbys 190 = .ok (.bipush 7, 2) := by decide +kernel
theorem dL_areStandbys_192 : decode cL_areStandbys 192 = .ok (.invokevirtual 110, 3) := by decide +kernel
theorem dL_areStandbys_195 : decode cL_areStandbys 195 = .ok (.aload_n 1, 1) := by decide +kernel
theorem dL_areStandbys_196 : decode cL_areStandbys 196 = .ok (.iload 6, 2) := by decide +kernel
theorem dL_areStandbys_198 : decode cL_areStandbys 198 = .ok (.iconst 1, 1) := by decide +kernel
theorem dL_areStandbys_199 : decode cL_areStandbys 199 = .ok (.iadd, 1) := by decide +kernel
theorem dL_areStandbys_200 : decode cL_areStandbys 200 = .ok (.iaload, 1) := by decide +kernel
theorem dL_areStandbys_201 : decode cL_areStandbys 201 = .ok (.aload_n 1, 1) := by decide +kernel
theorem dL_areStandbys_202 : decode cL_areStandbys 202 = .ok (.iconst 0, 1) := by decide +kernel
theorem dL_areStandbys_203 : decode cL_areStandbys 203 = .ok (.iaload, 1) := by decide +kernel
theorem dL_areStandbys_204 : decode cL_areStandbys 204 = .ok (.if_icmp .ne 8, 3) := by decide +kernel
theorem dL_areStandbys_207 : decode cL_areStandbys 207 = .ok (.ldc 109, 2) := by decide +kernel
theorem dL_areStandbys_209 : decode cL_areStandbys 209 = .ok (.goto 19, 3) := by decide +kernel
theorem dL_areStandbys_212 : decode cL_areStandbys 212 = .ok (.aload_n 1, 1) := by decide +kernel
theorem dL_areStandbys_213 : decode cL_areStandbys 213 = .ok (.iconst 1, 1) := by decide +kernel
theorem dL_areStandbys_214 : decode cL_areStandbys 214 = .ok (.iaload, 1) := by decide +kernel
theorem dL_areStandbys_215 : decode cL_areStandbys 215 = .ok (.aload_n 2, 1) := by decide +kernel
theorem dL_areStandbys_216 : decode cL_areStandbys 216 = .ok (.aload_n 1, 1) := by decide +kernel
theorem dL_areStandbys_217 : decode cL_areStandbys 217 = .ok (.iload 6, 2) := by decide +kernel
theorem dL_areStandbys_219 : decode cL_areStandbys 219 = .ok (.iconst 1, 1) := by decide +kernel
theorem dL_areStandbys_220 : decode cL_areStandbys 220 = .ok (.iadd, 1) := by decide +kernel
theorem dL_areStandbys_221 : decode cL_areStandbys 221 = .ok (.iaload, 1) := by decide +kernel
theorem dL_areStandbys_222 : decode cL_areStandbys 222 = .ok (.iconst 1, 1) := by decide +kernel
theorem dL_areStandbys_223 : decode cL_areStandbys 223 = .ok (.iadd, 1) := by decide +kernel
theorem dL_areStandbys_224 : decode cL_areStandbys 224 = .ok (.invokestatic 36, 3) := by decide +kernel
theorem dL_areStandbys_227 : decode cL_areStandbys 227 = .ok (.isub, 1) := by decide +kernel
theorem dL_areStandbys_228 : decode cL_areStandbys 228 = .ok (.if_icmp .ne 20, 3) := by decide +kernel
theorem dL_areStandbys_231 : decode cL_areStandbys 231 = .ok (.aload_n 0, 1) := by decide +kernel
theorem dL_areStandbys_232 : decode cL_areStandbys 232 = .ok (.iload 5, 2) := by decide +kernel
theorem dL_areStandbys_234 : decode cL_areStandbys 234 = .ok (.bipush 9, 2) := by decide +kernel
theorem dL_areStandbys_236 : decode cL_areStandbys 236 = .ok (.invokevirtual 110, 3) := by decide +kernel
theorem dL_areStandbys_239 : decode cL_areStandbys 239 = .ok (.ldc 84, 2) := by decide +kernel
theorem dL_areStandbys_241 : decode cL_areStandbys 241 = .ok (.if_icmp .ne 7, 3) := by decide +kernel
theorem dL_areStandbys_244 : decode cL_areStandbys 244 = .ok (.iconst 1, 1) := by decide +kernel
theorem dL_areStandbys_245 : decode cL_areStandbys 245 = .ok (.goto 4, 3) := by decide +kernel
theorem dL_areStandbys_248 : decode cL_areStandbys 248 = .ok (.iconst 0, 1) := by decide +kernel
theorem dL_areStandbys_249 : decode cL_areStandbys 249 = .ok (.istore 4, 2) := by decide +kernel
theorem dL_areStandbys_251 : decode cL_areStandbys 251 = .ok (.iload 4, 2) := by decide +kernel
theorem dL_areStandbys_253 : decode cL_areStandbys 253 = .ok (.ifCond .eq 56, 3) := by decide +kernel
theorem dL_areStandbys_256 : decode cL_areStandbys 256 = .ok (.aload_n 0, 1) := by decide +kernel
theorem dL_areStandbys_257 : decode cL_areStandbys 257 = .ok (.iload 5, 2) := by decide +kernel
theorem dL_areStandbys_259 : decode cL_areStandbys 259 = .ok (.iconst 1, 1) := by decide +kernel
theorem dL_areStandbys_260 : decode cL_areStandbys 260 = .ok (.invokevirtual 110, 3) := by decide +kernel
theorem dL_areStandbys_263 : decode cL_areStandbys 263 = .ok (.aload_n 0, 1) := by decide +kernel
theorem dL_areStandbys_264 : decode cL_areStandbys 264 = .ok (.iload 5, 2) := by decide +kernel
theorem dL_areStandbys_266 : decode cL_areStandbys 266 = .ok (.iconst 0, 1) := by decide +kernel
theorem dL_areStandbys_267 : decode cL_areStandbys 267 = .ok (.invokevirtual 110, 3) := by decide +kernel
theorem dL_areStandbys_270 : decode cL_areStandbys 270 = .ok (.if_icmp .gt 39, 3) := by decide +kernel
theorem dL_areStandbys_273 : decode cL_areStandbys 273 = .ok (.aload_n 0, 1) := by decide +kernel
theorem dL_areStandbys_274 : decode cL_areStandbys 274 = .ok (.iload 5, 2) := by decide +kernel
theorem dL_areStandbys_276 : decode cL_areStandbys 276 = .ok (.iconst 0, 1) := by decide +kernel
theorem dL_areStandbys_277 : decode cL_areStandbys 277 = .ok (.invokevirtual 110, 3) := by decide +kernel
theorem dL_areStandbys_280 : decode cL_areStandbys 280 = .ok (.aload_n 0, 1) := by decide +kernel
theorem dL_areStandbys_281 : decode cL_areStandbys 281 = .ok (.iconst 0, 1) := by decide +kernel
theorem dL_areStandbys_282 : decode cL_areStandbys 282 = .ok (.invokevirtual 113, 3) := by decide +kernel
theorem dL_areStandbys_285 : decode cL_areStandbys 285 = .ok (.if_icmp .gt 24, 3) := by decide +kernel
theorem dL_areStandbys_288 : decode cL_areStandbys 288 = .ok (.iload 7, 2) := by decide +kernel
theorem dL_areStandbys_290 : decode cL_areStandbys 290 = .ok (.ifCond .lt 15, 3) := by decide +kernel
theorem dL_areStandbys_293 : decode cL_areStandbys 293 = .ok (.aload_n 0, 1) := by decide +kernel
theorem dL_areStandbys_294 : decode cL_areStandbys 294 = .ok (.iload 5, 2) := by decide +kernel
theorem dL_areStandbys_296 : decode cL_areStandbys 296 = .ok (.iconst 1, 1) := by decide +kernel
theorem dL_areStandbys_297 : decode cL_areStandbys 297 = .ok (.invokevirtual 110, 3) := by decide +kernel
theorem dL_areStandbys_300 : decode cL_areStandbys 300 = .ok (.iload 7, 2) := by decide +kernel
theorem dL_areStandbys_302 : decode cL_areStandbys 302 = .ok (.if_icmp .ge 7, 3) := by decide +kernel
theorem dL_areStandbys_305 : decode cL_areStandbys 305 = .ok (.iconst 1, 1) := by decide +kernel
theorem dL_areStandbys_306 : decode cL_areStandbys 306 = .ok (.goto 4, 3) := by decide +kernel
theorem dL_areStandbys_309 : decode cL_areStandbys 309 = .ok (.iconst 0, 1) := by decide +kernel
theorem dL_areStandbys_310 : decode cL_areStandbys 310 = .ok (.istore 4, 2) := by decide +kernel
theorem dL_areStandbys_312 : decode cL_areStandbys 312 = .ok (.iinc 5 1, 3) := by decide +kernel
theorem dL_areStandbys_315 : decode cL_areStandbys 315 = .ok (.goto (-309), 3) := by decide +kernel
theorem dL_areStandbys_318 : decode cL_areStandbys 318 = .ok (.iload 4, 2) := by decide +kernel
theorem dL_areStandbys_320 : decode cL_areStandbys 320 = .ok (.ifCond .eq 18, 3) := by decide +kernel
theorem dL_areStandbys_323 : decode cL_areStandbys 323 = .ok (.aload_n 0, 1) := by decide +kernel
theorem dL_areStandbys_324 : decode cL_areStandbys 324 = .ok (.iconst 2, 1) := by decide +kernel
theorem dL_areStandbys_325 : decode cL_areStandbys 325 = .ok (.iconst 0, 1) := by decide +kernel
theorem dL_areStandbys_326 : decode cL_areStandbys 326 = .ok (.invokevirtual 110, 3) := by decide +kernel
theorem dL_areStandbys_329 : decode cL_areStandbys 329 = .ok (.ldc 84, 2) := by decide +kernel
theorem dL_areStandbys_331 : decode cL_areStandbys 331 = .ok (.if_icmp .ne 7, 3) := by decide +kernel
theorem dL_areStandbys_334 : decode cL_areStandbys 334 = .ok (.iconst 1, 1) := by decide +kernel
theorem dL_areStandbys_335 : decode cL_areStandbys 335 = .ok (.goto 4, 3) := by decide +kernel
theorem dL_areStandbys_338 : decode cL_areStandbys 338 = .ok (.iconst 0, 1) := by decide +kernel
theorem dL_areStandbys_339 : decode cL_areStandbys 339 = .ok (.ireturn, 1) := by decide +kernel
set_option maxRecDepth 20000 in
theorem ggL_areRecords_X6_recordOf : GoodIn wsL_areRecords wsX6_recordOf := goodIn_r _ [7, 8, 9, 10, 11, 12, 13, 14, 15, 16, 17, 18, 19, 20, 21, 22, 23, 24, 25, 26, 27, 28, 29, 30, 31, 32, 33, 34, 35, 36, 37, 38, 39, 40, 41, 42, 43, 44, 90, 91, 92, 93, 94, 95, 96, 97, 98, 99, 100, 101, 102, 103, 104, 105, 106, 107, 108, 109, 110, 111, 112, 113] (by decide +kernel) (by decide +kernel)
set_option maxRecDepth 20000 in
theorem gL_areRecords_X6_recordOf : GoodIn wsL_areRecords (wsV RL 116 RX6 yX6_recordOf wsX6_recordOf) := goodIn_app (goodIn_of _ (by decide +kernel)) ggL_areRecords_X6_recordOf
set_option maxRecDepth 20000 in
theorem ggL_areRecords_L_kind : GoodIn wsL_areRecords wsL_kind := goodIn_r _ [48, 49] (by decide +kernel) (by decide +kernel)
set_option maxRecDepth 20000 in
theorem gL_areRecords_L_kind : GoodIn wsL_areRecords (va_wsS RL 21 yL_kind wsL_kind) := goodIn_app (goodIn_of _ (by decide +kernel)) ggL_areRecords_L_kind
set_option maxRecDepth 20000 in
theorem ggL_areRecords_L_by : GoodIn wsL_areRecords wsL_by := goodIn_r _ [52, 53, 54] (by decide +kernel) (by decide +kernel)
set_option maxRecDepth 20000 in
theorem gL_areRecords_L_by : GoodIn wsL_areRecords (va_wsS RL 27 yL_by wsL_by) := goodIn_app (goodIn_of _ (by decide +kernel)) ggL_areRecords_L_by
set_option maxRecDepth 20000 in
theorem ggL_areRecords_L_key : GoodIn wsL_areRecords wsL_key := goodIn_r _ [57, 49, 58] (by decide +kernel) (by decide +kernel)
set_option maxRecDepth 20000 in
theorem gL_areRecords_L_key : GoodIn wsL_areRecords (va_wsS RL 30 yL_key wsL_key) := goodIn_app (goodIn_of _ (by decide +kernel)) ggL_areRecords_L_key
set_option maxRecDepth 20000 in
theorem ggL_areRecords_L_value : GoodIn wsL_areRecords wsL_value := goodIn_r _ [61, 62, 54] (by decide +kernel) (by decide +kernel)
set_option maxRecDepth 20000 in
theorem gL_areRecords_L_value : GoodIn wsL_areRecords (va_wsS RL 33 yL_value wsL_value) := goodIn_app (goodIn_of _ (by decide +kernel)) ggL_areRecords_L_value
set_option maxRecDepth 20000 in
theorem ggL_areRecords_L_at : GoodIn wsL_areRecords wsL_at := goodIn_r _ [65, 66] (by decide +kernel) (by decide +kernel)
set_option maxRecDepth 20000 in
theorem gL_areRecords_L_at : GoodIn wsL_areRecords (va_wsS RL 36 yL_at wsL_at) := goodIn_app (goodIn_of _ (by decide +kernel)) ggL_areRecords_L_at
set_option maxRecDepth 20000 in
theorem ggL_areRecords_X6_slotOf : GoodIn wsL_areRecords wsX6_slotOf := goodIn_r _ [70, 8, 9, 11, 10, 71, 72, 6, 73, 74, 75, 76, 77, 78, 79, 80, 81, 82, 15, 83, 17, 84, 85, 86, 87, 88, 26, 27, 28, 29, 23, 24, 13, 14, 16, 89, 19, 20, 21, 22, 90, 91, 92, 93, 94, 95, 96, 97, 98, 99, 100, 101, 102, 103, 104, 105, 106, 107, 108, 109, 110, 111, 112, 113] (by decide +kernel) (by decide +kernel)
set_option maxRecDepth 20000 in
theorem gL_areRecords_X6_slotOf : GoodIn wsL_areRecords (wsV RL 119 RX6 yX6_slotOf wsX6_slotOf) := goodIn_app (goodIn_of _ (by decide +kernel)) ggL_areRecords_X6_slotOf
theorem dL_areRecords_0 : decode cL_areRecords 0 = .ok (.aload_n 0, 1) := by decide +kernel
theorem dL_areRecords_1 : decode cL_areRecords 1 = .ok (.iconst 0, 1) := by decide +kernel
theorem dL_areRecords_2 : decode cL_areRecords 2 = .ok (.iconst 0, 1) := by decide +kernel
theorem dL_areRecords_3 : decode cL_areRecords 3 = .ok (.invokevirtual 116, 3) := by decide +kernel
theorem dL_areRecords_6 : decode cL_areRecords 6 = .ok (.ldc 84, 2) := by decide +kernel
theorem dL_areRecords_8 : decode cL_areRecords 8 = .ok (.if_icmp .ne 33, 3) := by decide +kernel
theorem dL_areRecords_11 : decode cL_areRecords 11 = .ok (.aload_n 0, 1) := by decide +kernel
theorem dL_areRecords_12 : decode cL_areRecords 12 = .ok (.aload_n 1, 1) := by decide +kernel
theorem dL_areRecords_13 : decode cL_areRecords 13 = .ok (.iconst 0, 1) := by decide +kernel
theorem dL_areRecords_14 : decode cL_areRecords 14 = .ok (.iaload, 1) := by decide +kernel
theorem dL_areRecords_15 : decode cL_areRecords 15 = .ok (.iconst 1, 1) := by decide +kernel
theorem dL_areRecords_16 : decode cL_areRecords 16 = .ok (.iadd, 1) := by decide +kernel
theorem dL_areRecords_17 : decode cL_areRecords 17 = .ok (.iconst 0, 1) := by decide +kernel
theorem dL_areRecords_18 : decode cL_areRecords 18 = .ok (.invokevirtual 116, 3) := by decide +kernel
theorem dL_areRecords_21 : decode cL_areRecords 21 = .ok (.ldc 109, 2) := by decide +kernel
theorem dL_areRecords_23 : decode cL_areRecords 23 = .ok (.if_icmp .ne 18, 3) := by decide +kernel
theorem dL_areRecords_26 : decode cL_areRecords 26 = .ok (.aload_n 0, 1) := by decide +kernel
theorem dL_areRecords_27 : decode cL_areRecords 27 = .ok (.iconst 1, 1) := by decide +kernel
theorem dL_areRecords_28 : decode cL_areRecords 28 = .ok (.iconst 5, 1) := by decide +kernel
theorem dL_areRecords_29 : decode cL_areRecords 29 = .ok (.invokevirtual 116, 3) := by decide +kernel
theorem dL_areRecords_32 : decode cL_areRecords 32 = .ok (.ldc 84, 2) := by decide +kernel
theorem dL_areRecords_34 : decode cL_areRecords 34 = .ok (.if_icmp .ne 7, 3) := by decide +kernel
theorem dL_areRecords_37 : decode cL_areRecords 37 = .ok (.iconst 1, 1) := by decide +kernel
theorem dL_areRecords_38 : decode cL_areRecords 38 = .ok (.goto 4, 3) := by decide +kernel
theorem dL_areRecords_41 : decode cL_areRecords 41 = .ok (.iconst 0, 1) := by decide +kernel
theorem dL_areRecords_42 : decode cL_areRecords 42 = .ok (.istore_n 3, 1) := by decide +kernel
theorem dL_areRecords_43 : decode cL_areRecords 43 = .ok (.iconst 1, 1) := by decide +kernel
theorem dL_areRecords_44 : decode cL_areRecords 44 = .ok (.istore 4, 2) := by decide +kernel
theorem dL_areRecords_46 : decode cL_areRecords 46 = .ok (.iload 4, 2) := by decide +kernel
theorem dL_areRecords_48 : decode cL_areRecords 48 = .ok (.aload_n 1, 1) := by decide +kernel
theorem dL_areRecords_49 : decode cL_areRecords 49 = .ok (.iconst 0, 1) := by decide +kernel
theorem dL_areRecords_50 : decode cL_areRecords 50 = .ok (.iaload, 1) := by decide +kernel
theorem dL_areRecords_51 : decode cL_areRecords 51 = .ok (.if_icmp .gt 135, 3) := by decide +kernel
theorem dL_areRecords_54 : decode cL_areRecords 54 = .ok (.iload_n 3, 1) := by decide +kernel
theorem dL_areRecords_55 : decode cL_areRecords 55 = .ok (.ifCond .eq 131, 3) := by decide +kernel
theorem dL_areRecords_58 : decode cL_areRecords 58 = .ok (.aload_n 2, 1) := by decide +kernel
theorem dL_areRecords_59 : decode cL_areRecords 59 = .ok (.iload 4, 2) := by decide +kernel
theorem dL_areRecords_61 : decode cL_areRecords 61 = .ok (.invokestatic 21, 3) := by decide +kernel
theorem dL_areRecords_64 : decode cL_areRecords 64 = .ok (.ifCond .ne 7, 3) := by decide +kernel
theorem dL_areRecords_67 : decode cL_areRecords 67 = .ok (.iconst 1, 1) := by decide +kernel
theorem dL_areRecords_68 : decode cL_areRecords 68 = .ok (.goto 4, 3) := by decide +kernel
theorem dL_areRecords_71 : decode cL_areRecords 71 = .ok (.iconst 0, 1) := by decide +kernel
theorem dL_areRecords_72 : decode cL_areRecords 72 = .ok (.istore 5, 2) := by decide +kernel
theorem dL_areRecords_74 : decode cL_areRecords 74 = .ok (.aload_n 0, 1) := by decide +kernel
theorem dL_areRecords_75 : decode cL_areRecords 75 = .ok (.iload 4, 2) := by decide +kernel
theorem dL_areRecords_77 : decode cL_areRecords 77 = .ok (.iconst 0, 1) := by decide +kernel
theorem dL_areRecords_78 : decode cL_areRecords 78 = .ok (.invokevirtual 116, 3) := by decide +kernel
theorem dL_areRecords_81 : decode cL_areRecords 81 = .ok (.aload_n 2, 1) := by decide +kernel
theorem dL_areRecords_82 : decode cL_areRecords 82 = .ok (.iload 4, 2) := by decide +kernel
theorem dL_areRecords_84 : decode cL_areRecords 84 = .ok (.invokestatic 21, 3) := by decide +kernel
theorem dL_areRecords_87 : decode cL_areRecords 87 = .ok (.if_icmp .ne 91, 3) := by decide +kernel
theorem dL_areRecords_90 : decode cL_areRecords 90 = .ok (.aload_n 0, 1) := by decide +kernel
theorem dL_areRecords_91 : decode cL_areRecords 91 = .ok (.iload 4, 2) := by decide +kernel
theorem dL_areRecords_93 : decode cL_areRecords 93 = .ok (.iconst 1, 1) := by decide +kernel
theorem dL_areRecords_94 : decode cL_areRecords 94 = .ok (.invokevirtual 116, 3) := by decide +kernel
theorem dL_areRecords_97 : decode cL_areRecords 97 = .ok (.aload_n 2, 1) := by decide +kernel
theorem dL_areRecords_98 : decode cL_areRecords 98 = .ok (.iload 4, 2) := by decide +kernel
theorem dL_areRecords_100 : decode cL_areRecords 100 = .ok (.invokestatic 27, 3) := by decide +kernel
theorem dL_areRecords_103 : decode cL_areRecords 103 = .ok (.if_icmp .ne 75, 3) := by decide +kernel
theorem dL_areRecords_106 : decode cL_areRecords 106 = .ok (.aload_n 0, 1) := by decide +kernel
theorem dL_areRecords_107 : decode cL_areRecords 107 = .ok (.iload 4, 2) := by decide +kernel
theorem dL_areRecords_109 : decode cL_areRecords 109 = .ok (.iconst 2, 1) := by decide +kernel
theorem dL_areRecords_110 : decode cL_areRecords 110 = .ok (.invokevirtual 116, 3) := by decide +kernel
theorem dL_areRecords_113 : decode cL_areRecords 113 = .ok (.iload 5, 2) := by decide +kernel
theorem dL_areRecords_115 : decode cL_areRecords 115 = .ok (.ifCond .eq 12, 3) := by decide +kernel
theorem dL_areRecords_118 : decode cL_areRecords 118 = .ok (.aload_n 2, 1) := by decide +kernel
theorem dL_areRecords_119 : decode cL_areRecords 119 = .ok (.iload 4, 2) := by decide +kernel
theorem dL_areRecords_121 : decode cL_areRecords 121 = .ok (.invokestatic 30, 3) := by decide +kernel
theorem dL_areRecords_124 : decode cL_areRecords 124 = .ok (.goto 5, 3) := by decide +kernel
theorem dL_areRecords_127 : decode cL_areRecords 127 = .ok (.ldc 109, 2) := by decide +kernel
theorem dL_areRecords_129 : decode cL_areRecords 129 = .ok (.if_icmp .ne 49, 3) := by decide +kernel
theorem dL_areRecords_132 : decode cL_areRecords 132 = .ok (.aload_n 0, 1) := by decide +kernel
theorem dL_areRecords_133 : decode cL_areRecords 133 = .ok (.iload 4, 2) := by decide +kernel
theorem dL_areRecords_135 : decode cL_areRecords 135 = .ok (.iconst 3, 1) := by decide +kernel
theorem dL_areRecords_136 : decode cL_areRecords 136 = .ok (.invokevirtual 116, 3) := by decide +kernel
theorem dL_areRecords_139 : decode cL_areRecords 139 = .ok (.iload 5, 2) := by decide +kernel
theorem dL_areRecords_141 : decode cL_areRecords 141 = .ok (.ifCond .eq 12, 3) := by decide +kernel
theorem dL_areRecords_144 : decode cL_areRecords 144 = .ok (.aload_n 2, 1) := by decide +kernel
theorem dL_areRecords_145 : decode cL_areRecords 145 = .ok (.iload 4, 2) := by decide +kernel
theorem dL_areRecords_147 : decode cL_areRecords 147 = .ok (.invokestatic 33, 3) := by decide +kernel
theorem dL_areRecords_150 : decode cL_areRecords 150 = .ok (.goto 5, 3) := by decide +kernel
theorem dL_areRecords_153 : decode cL_areRecords 153 = .ok (.ldc 109, 2) := by decide +kernel
theorem dL_areRecords_155 : decode cL_areRecords 155 = .ok (.if_icmp .ne 23, 3) := by decide +kernel
theorem dL_areRecords_158 : decode cL_areRecords 158 = .ok (.aload_n 0, 1) := by decide +kernel
theorem dL_areRecords_159 : decode cL_areRecords 159 = .ok (.iload 4, 2) := by decide +kernel
theorem dL_areRecords_161 : decode cL_areRecords 161 = .ok (.iconst 4, 1) := by decide +kernel
theorem dL_areRecords_162 : decode cL_areRecords 162 = .ok (.invokevirtual 116, 3) := by decide +kernel
theorem dL_areRecords_165 : decode cL_areRecords 165 = .ok (.aload_n 2, 1) := by decide +kernel
theorem dL_areRecords_166 : decode cL_areRecords 166 = .ok (.iload 4, 2) := by decide +kernel
theorem dL_areRecords_168 : decode cL_areRecords 168 = .ok (.invokestatic 36, 3) := by decide +kernel
theorem dL_areRecords_171 : decode cL_areRecords 171 = .ok (.if_icmp .ne 7, 3) := by decide +kernel
theorem dL_areRecords_174 : decode cL_areRecords 174 = .ok (.iconst 1, 1) := by decide +kernel
theorem dL_areRecords_175 : decode cL_areRecords 175 = .ok (.goto 4, 3) := by decide +kernel
theorem dL_areRecords_178 : decode cL_areRecords 178 = .ok (.iconst 0, 1) := by decide +kernel
theorem dL_areRecords_179 : decode cL_areRecords 179 = .ok (.istore_n 3, 1) := by decide +kernel
theorem dL_areRecords_180 : decode cL_areRecords 180 = .ok (.iinc 4 1, 3) := by decide +kernel
theorem dL_areRecords_183 : decode cL_areRecords 183 = .ok (.goto (-137), 3) := by decide +kernel
theorem dL_areRecords_186 : decode cL_areRecords 186 = .ok (.iconst 0, 1) := by decide +kernel
theorem dL_areRecords_187 : decode cL_areRecords 187 = .ok (.istore 4, 2) := by decide +kernel
theorem dL_areRecords_189 : decode cL_areRecords 189 = .ok (.iload 4, 2) := by decide +kernel
theorem dL_areRecords_191 : decode cL_areRecords 191 = .ok (.iconst 3, 1) := by decide +kernel
theorem dL_areRecords_192 : decode cL_areRecords 192 = .ok (.if_icmp .ge 145, 3) := by decide +kernel
theorem dL_areRecords_195 : decode cL_areRecords 195 = .ok (.iload_n 3, 1) := by decide +kernel
theorem dL_areRecords_196 : decode cL_areRecords 196 = .ok (.ifCond .eq 141, 3) := by decide +kernel
theorem dL_areRecords_199 : decode cL_areRecords 199 = .ok (.iconst 0, 1) := by decide +kernel
theorem dL_areRecords_200 : decode cL_areRecords 200 = .ok (.istore 5, 2) := by decide +kernel
theorem dL_areRecords_202 : decode cL_areRecords 202 = .ok (.iconst 1, 1) := by decide +kernel
theorem dL_areRecords_203 : decode cL_areRecords 203 = .ok (.istore 6, 2) := by decide +kernel
theorem dL_areRecords_205 : decode cL_areRecords 205 = .ok (.iload 6, 2) := by decide +kernel
theorem dL_areRecords_207 : decode cL_areRecords 207 = .ok (.aload_n 1, 1) := by decide +kernel
theorem dL_areRecords_208 : decode cL_areRecords 208 = .ok (.iconst 0, 1) := by decide +kernel
theorem dL_areRecords_209 : decode cL_areRecords 209 = .ok (.iaload, 1) := by decide +kernel
theorem dL_areRecords_210 : decode cL_areRecords 210 = .ok (.if_icmp .gt 44, 3) := by decide +kernel
theorem dL_areRecords_213 : decode cL_areRecords 213 = .ok (.iload 5, 2) := by decide +kernel
theorem dL_areRecords_215 : decode cL_areRecords 215 = .ok (.aload_n 2, 1) := by decide +kernel
theorem dL_areRecords_216 : decode cL_areRecords 216 = .ok (.iload 6, 2) := by decide +kernel
theorem dL_areRecords_218 : decode cL_areRecords 218 = .ok (.invokestatic 21, 3) := by decide +kernel
theorem dL_areRecords_221 : decode cL_areRecords 221 = .ok (.ifCond .ne 23, 3) := by decide +kernel
theorem dL_areRecords_224 : decode cL_areRecords 224 = .ok (.aload_n 2, 1) := by decide +kernel
theorem dL_areRecords_225 : decode cL_areRecords 225 = .ok (.iload 6, 2) := by decide +kernel
theorem dL_areRecords_227 : decode cL_areRecords 227 = .ok (.invokestatic 27, 3) := by decide +kernel
theorem dL_areRecords_230 : decode cL_areRecords 230 = .ok (.aload_n 1, 1) := by decide +kernel
theorem dL_areRecords_231 : decode cL_areRecords 231 = .ok (.bipush 9, 2) := by decide +kernel
theorem dL_areRecords_233 : decode cL_areRecords 233 = .ok (.iload 4, 2) := by decide +kernel
theorem dL_areRecords_235 : decode cL_areRecords 235 = .ok (.iadd, 1) := by decide +kernel
theorem dL_areRecords_236 : decode cL_areRecords 236 = .ok (.iaload, 1) := by decide +kernel
theorem dL_areRecords_237 : decode cL_areRecords 237 = .ok (.if_icmp .ne 7, 3) := by decide +kernel
theorem dL_areRecords_240 : decode cL_areRecords 240 = .ok (.iconst 1, 1) := by decide +kernel
theorem dL_areRecords_241 : decode cL_areRecords 241 = .ok (.goto 4, 3) := by decide +kernel
theorem dL_areRecords_244 : decode cL_areRecords 244 = .ok (.iconst 0, 1) := by decide +kernel
theorem dL_areRecords_245 : decode cL_areRecords 245 = .ok (.iadd, 1) := by decide +kernel
theorem dL_areRecords_246 : decode cL_areRecords 246 = .ok (.istore 5, 2) := by decide +kernel
theorem dL_areRecords_248 : decode cL_areRecords 248 = .ok (.iinc 6 1, 3) := by decide +kernel
theorem dL_areRecords_251 : decode cL_areRecords 251 = .ok (.goto (-46), 3) := by decide +kernel
theorem dL_areRecords_254 : decode cL_areRecords 254 = .ok (.aload_n 0, 1) := by decide +kernel
theorem dL_areRecords_255 : decode cL_areRecords 255 = .ok (.iload 4, 2) := by decide +kernel
theorem dL_areRecords_257 : decode cL_areRecords 257 = .ok (.iconst 0, 1) := by decide +kernel
theorem dL_areRecords_258 : decode cL_areRecords 258 = .ok (.invokevirtual 119, 3) := by decide +kernel
theorem dL_areRecords_261 : decode cL_areRecords 261 = .ok (.aload_n 1, 1) := by decide +kernel
theorem dL_areRecords_262 : decode cL_areRecords 262 = .ok (.bipush 9, 2) := by decide +kernel
theorem dL_areRecords_264 : decode cL_areRecords 264 = .ok (.iload 4, 2) := by decide +kernel
theorem dL_areRecords_266 : decode cL_areRecords 266 = .ok (.iadd, 1) := by decide +kernel
theorem dL_areRecords_267 : decode cL_areRecords 267 = .ok (.iaload, 1) := by decide +kernel
theorem dL_areRecords_268 : decode cL_areRecords 268 = .ok (.ifCond .ne 8, 3) := by decide +kernel
theorem dL_areRecords_271 : decode cL_areRecords 271 = .ok (.ldc 109, 2) := by decide +kernel
theorem dL_areRecords_273 : decode cL_areRecords 273 = .ok (.goto 10, 3) := by decide +kernel
theorem dL_areRecords_276 : decode cL_areRecords 276 = .ok (.aload_n 1, 1) := by decide +kernel
theorem dL_areRecords_277 : decode cL_areRecords 277 = .ok (.bipush 9, 2) := by decide +kernel
theorem dL_areRecords_279 : decode cL_areRecords 279 = .ok (.iload 4, 2) := by decide +kernel
theorem dL_areRecords_281 : decode cL_areRecords 281 = .ok (.iadd, 1) := by decide +kernel
theorem dL_areRecords_282 : decode cL_areRecords 282 = .ok (.iaload, 1) := by decide +kernel
theorem dL_areRecords_283 : decode cL_areRecords 283 = .ok (.if_icmp .ne 46, 3) := by decide +kernel
theorem dL_areRecords_286 : decode cL_areRecords 286 = .ok (.aload_n 0, 1) := by decide +kernel
theorem dL_areRecords_287 : decode cL_areRecords 287 = .ok (.iload 4, 2) := by decide +kernel
theorem dL_areRecords_289 : decode cL_areRecords 289 = .ok (.iconst 1, 1) := by decide +kernel
theorem dL_areRecords_290 : decode cL_areRecords 290 = .ok (.invokevirtual 119, 3) := by decide +kernel
theorem dL_areRecords_293 : decode cL_areRecords 293 = .ok (.aload_n 1, 1) := by decide +kernel
theorem dL_areRecords_294 : decode cL_areRecords 294 = .ok (.bipush 9, 2) := by decide +kernel
theorem dL_areRecords_296 : decode cL_areRecords 296 = .ok (.iload 4, 2) := by decide +kernel
theorem dL_areRecords_298 : decode cL_areRecords 298 = .ok (.iadd, 1) := by decide +kernel
theorem dL_areRecords_299 : decode cL_areRecords 299 = .ok (.iaload, 1) := by decide +kernel
theorem dL_areRecords_300 : decode cL_areRecords 300 = .ok (.ifCond .ne 8, 3) := by decide +kernel
theorem dL_areRecords_303 : decode cL_areRecords 303 = .ok (.ldc 109, 2) := by decide +kernel
theorem dL_areRecords_305 : decode cL_areRecords 305 = .ok (.goto 5, 3) := by decide +kernel
theorem dL_areRecords_308 : decode cL_areRecords 308 = .ok (.iload 5, 2) := by decide +kernel
theorem dL_areRecords_310 : decode cL_areRecords 310 = .ok (.if_icmp .ne 19, 3) := by decide +kernel
theorem dL_areRecords_313 : decode cL_areRecords 313 = .ok (.aload_n 0, 1) := by decide +kernel
theorem dL_areRecords_314 : decode cL_areRecords 314 = .ok (.iload 4, 2) := by decide +kernel
theorem dL_areRecords_316 : decode cL_areRecords 316 = .ok (.iconst 2, 1) := by decide +kernel
theorem dL_areRecords_317 : decode cL_areRecords 317 = .ok (.invokevirtual 119, 3) := by decide +kernel
theorem dL_areRecords_320 : decode cL_areRecords 320 = .ok (.ldc 84, 2) := by decide +kernel
theorem dL_areRecords_322 : decode cL_areRecords 322 = .ok (.if_icmp .ne 7, 3) := by decide +kernel
theorem dL_areRecords_325 : decode cL_areRecords 325 = .ok (.iconst 1, 1) := by decide +kernel
theorem dL_areRecords_326 : decode cL_areRecords 326 = .ok (.goto 4, 3) := by decide +kernel
theorem dL_areRecords_329 : decode cL_areRecords 329 = .ok (.iconst 0, 1) := by decide +kernel
theorem dL_areRecords_330 : decode cL_areRecords 330 = .ok (.istore_n 3, 1) := by decide +kernel
theorem dL_areRecords_331 : decode cL_areRecords 331 = .ok (.iinc 4 1, 3) := by decide +kernel
theorem dL_areRecords_334 : decode cL_areRecords 334 = .ok (.goto (-145), 3) := by decide +kernel
theorem dL_areRecords_337 : decode cL_areRecords 337 = .ok (.iload_n 3, 1) := by decide +kernel
theorem dL_areRecords_338 : decode cL_areRecords 338 = .ok (.ireturn, 1) := by decide +kernel
set_option maxRecDepth 20000 in
theorem ggL_isSo_L_areStandbys : GoodIn wsL_isSo wsL_areStandbys := goodIn_r _ [4, 5, 6, 7, 8, 9, 10, 11, 12, 13, 14, 15, 16, 17, 18, 19, 20, 21, 22, 23, 24, 25, 26, 27, 28, 29, 30, 31, 32, 33, 34, 35, 36, 37, 38, 39, 40, 41, 42, 43, 44, 45, 46, 47, 48, 49, 50, 51, 52, 53, 54, 55, 56, 57, 58, 59, 60, 61, 62, 63, 64, 65, 66, 67, 68, 69, 70, 71, 72, 73, 74, 75, 76, 77, 78, 79, 80, 81, 82, 83, 84, 85, 86, 87, 88, 89, 90, 91, 92, 93, 94, 95, 96, 97, 98, 99, 100, 101, 102, 103, 3, 104, 105, 106, 107, 108, 109, 110, 111, 112, 113, 114, 115, 116, 117, 118, 119, 120, 121, 122, 123, 124, 125, 126, 127, 128, 129, 130, 171, 172, 173, 174, 175, 176, 177, 178, 179, 180, 181, 182, 183, 184, 185, 186, 187, 188, 189, 190, 191, 192, 193, 194, 195, 196, 197, 198, 199, 200, 201, 202, 203, 204, 205, 206] (by decide +kernel) (by decide +kernel)
set_option maxRecDepth 20000 in
theorem gL_isSo_L_areStandbys : GoodIn wsL_isSo (va_wsS RL 122 yL_areStandbys wsL_areStandbys) := goodIn_app (goodIn_of _ (by decide +kernel)) ggL_isSo_L_areStandbys
set_option maxRecDepth 20000 in
theorem ggL_isSo_L_areRecords : GoodIn wsL_isSo wsL_areRecords := goodIn_r _ [133, 6, 5, 134, 135, 136, 10, 137, 12, 13, 14, 20, 60, 57, 58, 47, 59, 49, 138, 51, 52, 53, 54, 55, 56, 139, 77, 78, 79, 80, 140, 90, 91, 92, 93, 141, 95, 96, 97, 98, 61, 62, 63, 64, 65, 108, 109, 3, 110, 111, 142, 143, 144, 145, 146, 147, 148, 149, 150, 151, 152, 153, 154, 112, 113, 114, 115, 155, 156, 157, 158, 159, 160, 161, 162, 163, 164, 27, 165, 166, 167, 168, 169, 170, 85, 86, 87, 88, 76, 50, 171, 172, 173, 174, 175, 176, 177, 178, 179, 180, 181, 182, 183, 184, 185, 186, 187, 188, 193, 194, 195, 196, 197, 198] (by decide +kernel) (by decide +kernel)
set_option maxRecDepth 20000 in
theorem gL_isSo_L_areRecords : GoodIn wsL_isSo (va_wsS RL 126 yL_areRecords wsL_areRecords) := goodIn_app (goodIn_of _ (by decide +kernel)) ggL_isSo_L_areRecords
set_option maxRecDepth 20000 in
theorem ggL_isSo_X6_count : GoodIn wsL_isSo wsX6_count := goodIn_r _ [119, 13, 14, 18, 19, 120, 121, 122, 123, 124, 125, 126, 127, 128, 129, 130, 12, 44, 45, 46, 47, 48, 49, 50, 51, 52, 53, 54, 55, 56, 57, 58, 59, 171, 172, 173, 174, 175, 176, 177, 178, 179, 180, 181, 182, 183, 184, 185, 186, 187, 188, 193, 194, 195, 196, 197, 198, 199, 200, 201, 202, 203, 204, 205, 206] (by decide +kernel) (by decide +kernel)
set_option maxRecDepth 20000 in
theorem gL_isSo_X6_count : GoodIn wsL_isSo (wsV RL 113 RX6 yX6_count wsX6_count) := goodIn_app (goodIn_of _ (by decide +kernel)) ggL_isSo_X6_count
set_option maxRecDepth 20000 in
theorem ggL_isSo_L_commits : GoodIn wsL_isSo wsL_commits := goodIn_r _ [107, 108, 109, 3, 110, 111] (by decide +kernel) (by decide +kernel)
set_option maxRecDepth 20000 in
theorem gL_isSo_L_commits : GoodIn wsL_isSo (va_wsS RL 60 yL_commits wsL_commits) := goodIn_app (goodIn_of _ (by decide +kernel)) ggL_isSo_L_commits
theorem dL_isSo_0 : decode cL_isSo 0 = .ok (.aload_n 0, 1) := by decide +kernel
theorem dL_isSo_1 : decode cL_isSo 1 = .ok (.aload_n 1, 1) := by decide +kernel
theorem dL_isSo_2 : decode cL_isSo 2 = .ok (.aload_n 2, 1) := by decide +kernel
theorem dL_isSo_3 : decode cL_isSo 3 = .ok (.aload_n 3, 1) := by decide +kernel
theorem dL_isSo_4 : decode cL_isSo 4 = .ok (.invokestatic 122, 3) := by decide +kernel
theorem dL_isSo_7 : decode cL_isSo 7 = .ok (.ifCond .eq 16, 3) := by decide +kernel
theorem dL_isSo_10 : decode cL_isSo 10 = .ok (.aload_n 0, 1) := by decide +kernel
theorem dL_isSo_11 : decode cL_isSo 11 = .ok (.aload_n 1, 1) := by decide +kernel
theorem dL_isSo_12 : decode cL_isSo 12 = .ok (.aload_n 2, 1) := by decide +kernel
theorem dL_isSo_13 : decode cL_isSo 13 = .ok (.invokestatic 126, 3) := by decide +kernel
theorem dL_isSo_16 : decode cL_isSo 16 = .ok (.ifCond .eq 7, 3) := by decide +kernel
theorem dL_isSo_19 : decode cL_isSo 19 = .ok (.iconst 1, 1) := by decide +kernel
theorem dL_isSo_20 : decode cL_isSo 20 = .ok (.goto 4, 3) := by decide +kernel
theorem dL_isSo_23 : decode cL_isSo 23 = .ok (.iconst 0, 1) := by decide +kernel
theorem dL_isSo_24 : decode cL_isSo 24 = .ok (.istore 4, 2) := by decide +kernel
theorem dL_isSo_26 : decode cL_isSo 26 = .ok (.iconst 0, 1) := by decide +kernel
theorem dL_isSo_27 : decode cL_isSo 27 = .ok (.istore 5, 2) := by decide +kernel
theorem dL_isSo_29 : decode cL_isSo 29 = .ok (.iload 5, 2) := by decide +kernel
theorem dL_isSo_31 : decode cL_isSo 31 = .ok (.iconst 4, 1) := by decide +kernel
theorem dL_isSo_32 : decode cL_isSo 32 = .ok (.if_icmp .ge 34, 3) := by decide +kernel
theorem dL_isSo_35 : decode cL_isSo 35 = .ok (.iload 4, 2) := by decide +kernel
theorem dL_isSo_37 : decode cL_isSo 37 = .ok (.ifCond .eq 29, 3) := by decide +kernel
theorem dL_isSo_40 : decode cL_isSo 40 = .ok (.aload_n 0, 1) := by decide +kernel
theorem dL_isSo_41 : decode cL_isSo 41 = .ok (.iload 5, 2) := by decide +kernel
theorem dL_isSo_43 : decode cL_isSo 43 = .ok (.invokevirtual 113, 3) := by decide +kernel
theorem dL_isSo_46 : decode cL_isSo 46 = .ok (.aload_n 1, 1) := by decide +kernel
theorem dL_isSo_47 : decode cL_isSo 47 = .ok (.iload 5, 2) := by decide +kernel
theorem dL_isSo_49 : decode cL_isSo 49 = .ok (.iaload, 1) := by decide +kernel
theorem dL_isSo_50 : decode cL_isSo 50 = .ok (.if_icmp .ne 7, 3) := by decide +kernel
theorem dL_isSo_53 : decode cL_isSo 53 = .ok (.iconst 1, 1) := by decide +kernel
theorem dL_isSo_54 : decode cL_isSo 54 = .ok (.goto 4, 3) := by decide +kernel
theorem dL_isSo_57 : decode cL_isSo 57 = .ok (.iconst 0, 1) := by decide +kernel
theorem dL_isSo_58 : decode cL_isSo 58 = .ok (.istore 4, 2) := by decide +kernel
theorem dL_isSo_60 : decode cL_isSo 60 = .ok (.iinc 5 1, 3) := by decide +kernel
theorem dL_isSo_63 : decode cL_isSo 63 = .ok (.goto (-34), 3) := by decide +kernel
theorem dL_isSo_66 : decode cL_isSo 66 = .ok (.iload 4, 2) := by decide +kernel
theorem dL_isSo_68 : decode cL_isSo 68 = .ok (.ifCond .eq 94, 3) := by decide +kernel
theorem dL_isSo_71 : decode cL_isSo 71 = .ok (.aload_n 0, 1) := by decide +kernel
theorem dL_isSo_72 : decode cL_isSo 72 = .ok (.iconst 4, 1) := by decide +kernel
theorem dL_isSo_73 : decode cL_isSo 73 = .ok (.invokevirtual 113, 3) := by decide +kernel
theorem dL_isSo_76 : decode cL_isSo 76 = .ok (.aload_n 2, 1) := by decide +kernel
theorem dL_isSo_77 : decode cL_isSo 77 = .ok (.iconst 0, 1) := by decide +kernel
theorem dL_isSo_78 : decode cL_isSo 78 = .ok (.aload_n 1, 1) := by decide +kernel
theorem dL_isSo_79 : decode cL_isSo 79 = .ok (.iconst 0, 1) := by decide +kernel
theorem dL_isSo_80 : decode cL_isSo 80 = .ok (.iaload, 1) := by decide +kernel
theorem dL_isSo_81 : decode cL_isSo 81 = .ok (.invokestatic 60, 3) := by decide +kernel
theorem dL_isSo_84 : decode cL_isSo 84 = .ok (.if_icmp .ne 78, 3) := by decide +kernel
theorem dL_isSo_87 : decode cL_isSo 87 = .ok (.aload_n 0, 1) := by decide +kernel
theorem dL_isSo_88 : decode cL_isSo 88 = .ok (.iconst 5, 1) := by decide +kernel
theorem dL_isSo_89 : decode cL_isSo 89 = .ok (.invokevirtual 113, 3) := by decide +kernel
theorem dL_isSo_92 : decode cL_isSo 92 = .ok (.aload_n 1, 1) := by decide +kernel
theorem dL_isSo_93 : decode cL_isSo 93 = .ok (.iconst 4, 1) := by decide +kernel
theorem dL_isSo_94 : decode cL_isSo 94 = .ok (.iaload, 1) := by decide +kernel
theorem dL_isSo_95 : decode cL_isSo 95 = .ok (.if_icmp .ne 67, 3) := by decide +kernel
theorem dL_isSo_98 : decode cL_isSo 98 = .ok (.aload_n 0, 1) := by decide +kernel
theorem dL_isSo_99 : decode cL_isSo 99 = .ok (.bipush 6, 2) := by decide +kernel
theorem dL_isSo_101 : decode cL_isSo 101 = .ok (.invokevirtual 113, 3) := by decide +kernel
theorem dL_isSo_104 : decode cL_isSo 104 = .ok (.aload_n 1, 1) := by decide +kernel
theorem dL_isSo_105 : decode cL_isSo 105 = .ok (.iconst 5, 1) := by decide +kernel
theorem dL_isSo_106 : decode cL_isSo 106 = .ok (.iaload, 1) := by decide +kernel
theorem dL_isSo_107 : decode cL_isSo 107 = .ok (.if_icmp .ne 55, 3) := by decide +kernel
theorem dL_isSo_110 : decode cL_isSo 110 = .ok (.aload_n 0, 1) := by decide +kernel
theorem dL_isSo_111 : decode cL_isSo 111 = .ok (.bipush 7, 2) := by decide +kernel
theorem dL_isSo_113 : decode cL_isSo 113 = .ok (.invokevirtual 113, 3) := by decide +kernel
theorem dL_isSo_116 : decode cL_isSo 116 = .ok (.aload_n 1, 1) := by decide +kernel
theorem dL_isSo_117 : decode cL_isSo 117 = .ok (.bipush 6, 2) := by decide +kernel
theorem dL_isSo_119 : decode cL_isSo 119 = .ok (.iaload, 1) := by decide +kernel
theorem dL_isSo_120 : decode cL_isSo 120 = .ok (.if_icmp .ne 42, 3) := by decide +kernel
theorem dL_isSo_123 : decode cL_isSo 123 = .ok (.aload_n 0, 1) := by decide +kernel
theorem dL_isSo_124 : decode cL_isSo 124 = .ok (.bipush 9, 2) := by decide +kernel
theorem dL_isSo_126 : decode cL_isSo 126 = .ok (.invokevirtual 113, 3) := by decide +kernel
theorem dL_isSo_129 : decode cL_isSo 129 = .ok (.ifCond .ne 33, 3) := by decide +kernel
theorem dL_isSo_132 : decode cL_isSo 132 = .ok (.aload_n 0, 1) := by decide +kernel
theorem dL_isSo_133 : decode cL_isSo 133 = .ok (.bipush 20, 2) := by decide +kernel
theorem dL_isSo_135 : decode cL_isSo 135 = .ok (.invokevirtual 113, 3) := by decide +kernel
theorem dL_isSo_138 : decode cL_isSo 138 = .ok (.aload_n 1, 1) := by decide +kernel
theorem dL_isSo_139 : decode cL_isSo 139 = .ok (.bipush 7, 2) := by decide +kernel
theorem dL_isSo_141 : decode cL_isSo 141 = .ok (.iaload, 1) := by decide +kernel
theorem dL_isSo_142 : decode cL_isSo 142 = .ok (.if_icmp .ne 20, 3) := by decide +kernel
theorem dL_isSo_145 : decode cL_isSo 145 = .ok (.aload_n 0, 1) := by decide +kernel
theorem dL_isSo_146 : decode cL_isSo 146 = .ok (.bipush 21, 2) := by decide +kernel
theorem dL_isSo_148 : decode cL_isSo 148 = .ok (.invokevirtual 113, 3) := by decide +kernel
theorem dL_isSo_151 : decode cL_isSo 151 = .ok (.aload_n 1, 1) := by decide +kernel
theorem dL_isSo_152 : decode cL_isSo 152 = .ok (.bipush 8, 2) := by decide +kernel
theorem dL_isSo_154 : decode cL_isSo 154 = .ok (.iaload, 1) := by decide +kernel
theorem dL_isSo_155 : decode cL_isSo 155 = .ok (.if_icmp .ne 7, 3) := by decide +kernel
theorem dL_isSo_158 : decode cL_isSo 158 = .ok (.iconst 1, 1) := by decide +kernel
theorem dL_isSo_159 : decode cL_isSo 159 = .ok (.goto 4, 3) := by decide +kernel
theorem dL_isSo_162 : decode cL_isSo 162 = .ok (.iconst 0, 1) := by decide +kernel
theorem dL_isSo_163 : decode cL_isSo 163 = .ok (.ireturn, 1) := by decide +kernel
set_option maxRecDepth 20000 in
theorem ggL_law_X6_init : GoodIn wsL_law wsX6_init := goodIn_r _ [8, 9, 10, 11, 12, 13, 14, 15, 16, 17, 18, 19, 20, 21, 22, 23, 24, 25, 26, 27, 3, 28, 29, 30, 31, 32, 33, 34, 35, 36, 37, 38, 39, 40, 41, 42, 43, 44, 45, 46, 47, 48, 49, 50, 51, 52, 53, 54, 55, 56, 57, 58, 59, 60, 61, 62, 63, 64, 65, 66, 67, 68, 69, 70, 71, 72, 73, 74, 75, 76, 77, 78, 79, 80, 81, 82, 83, 84, 85, 86, 87, 88, 89, 90, 91, 92, 93, 450, 451, 452, 453, 454, 455, 456, 457, 458, 459, 460, 461, 444, 445, 446, 447, 448, 449, 462, 463, 464, 465, 466, 467, 468, 469, 470, 471, 472, 473, 474, 475, 476, 477, 478, 479, 480, 481, 482, 483, 484] (by decide +kernel) (by decide +kernel)
set_option maxRecDepth 20000 in
theorem gL_law_X6_init : GoodIn wsL_law (wsX6_init) := ggL_law_X6_init
set_option maxRecDepth 100000 in
theorem lw_hv_isSo2 : GoodIn wsL_law [Cond.code yL_isSo cL_isSo 6 (some .boolean)] := fun w h => by
  rw [List.mem_singleton] at h
  subst h
  exact ⟨List.mem_of_getElem? (i := 97) rfl, Or.inl rfl⟩
set_option maxRecDepth 20000 in
theorem lv2isSo_wsL_isSo_r1 : GoodIn wsL_law wsL_isSo_r1 := goodIn_r _ [98, 99, 96, 100, 101, 5, 102, 103, 104, 2, 105, 106, 15, 107, 108, 109, 110, 111, 112, 113, 114, 115, 116, 117] (by decide +kernel) (by decide +kernel)
set_option maxRecDepth 20000 in
theorem lv2isSo_wsL_isSo_r2 : GoodIn wsL_law wsL_isSo_r2 := goodIn_r _ [118, 119, 14, 120, 40, 41, 121, 122, 123, 39, 124, 67, 125, 126, 127, 128, 129, 130, 131, 132, 133, 134, 35, 135] (by decide +kernel) (by decide +kernel)
set_option maxRecDepth 20000 in
theorem lv2isSo_wsL_isSo_r3 : GoodIn wsL_law wsL_isSo_r3 := goodIn_r _ [54, 136, 137, 138, 139, 55, 140, 141, 142, 143, 144, 145, 146, 147, 148, 149, 59, 150, 151, 152, 153, 28, 29, 154] (by decide +kernel) (by decide +kernel)
set_option maxRecDepth 20000 in
theorem lv2isSo_wsL_isSo_r4 : GoodIn wsL_law wsL_isSo_r4 := goodIn_r _ [155, 156, 157, 158, 159, 160, 161, 56, 162, 163, 164, 165, 166, 167, 168, 169, 170, 171, 172, 173, 57, 174, 175, 176] (by decide +kernel) (by decide +kernel)
set_option maxRecDepth 20000 in
theorem lv2isSo_wsL_isSo_r5 : GoodIn wsL_law wsL_isSo_r5 := goodIn_r _ [177, 58, 178, 179, 180, 181, 182, 183, 184, 185, 186, 187, 188, 189, 190, 191, 192, 193, 194, 195, 196, 197, 198, 199] (by decide +kernel) (by decide +kernel)
set_option maxRecDepth 20000 in
theorem lv2isSo_wsL_isSo_r6 : GoodIn wsL_law wsL_isSo_r6 := goodIn_r _ [200, 201, 202, 203, 19, 204, 23, 205, 206, 207, 208, 209, 210, 211, 212, 213, 214, 215, 216, 217, 218, 219, 220, 221] (by decide +kernel) (by decide +kernel)
set_option maxRecDepth 20000 in
theorem lv2isSo_wsL_isSo_r7 : GoodIn wsL_law wsL_isSo_r7 := goodIn_r _ [222, 223, 224, 225, 226, 227, 228, 229, 230, 231, 232, 233, 234, 235, 236, 237, 238, 239, 240, 241, 242, 42, 243, 244] (by decide +kernel) (by decide +kernel)
set_option maxRecDepth 20000 in
theorem lv2isSo_wsL_isSo_r8 : GoodIn wsL_law wsL_isSo_r8 := goodIn_r _ [245, 246] (by decide +kernel) (by decide +kernel)
theorem ggL_law_L_isSo : GoodIn wsL_law wsL_isSo := (goodIn_app lw_hv_isSo2 (goodIn_app (goodIn_app (goodIn_app (goodIn_app (goodIn_app (goodIn_app (goodIn_app lv2isSo_wsL_isSo_r1 (goodIn_app lv2isSo_wsL_isSo_r2 (goodIn_app lv2isSo_wsL_isSo_r3 (goodIn_app lv2isSo_wsL_isSo_r4 (goodIn_app lv2isSo_wsL_isSo_r5 (goodIn_app lv2isSo_wsL_isSo_r6 (goodIn_app lv2isSo_wsL_isSo_r7 lv2isSo_wsL_isSo_r8))))))) (goodIn_sub inlX6 (by decide +kernel))) (goodIn_sub inlX4 (by decide +kernel))) (goodIn_sub inlX3 (by decide +kernel))) (goodIn_sub inlX1 (by decide +kernel))) (goodIn_sub inlX0 (by decide +kernel))) (goodIn_sub inlX2 (by decide +kernel))) : GoodIn wsL_law ([Cond.code yL_isSo cL_isSo 6 (some .boolean)] ++ ((wsL_isSo_r1 ++ (wsL_isSo_r2 ++ (wsL_isSo_r3 ++ (wsL_isSo_r4 ++ (wsL_isSo_r5 ++ (wsL_isSo_r6 ++ (wsL_isSo_r7 ++ wsL_isSo_r8))))))) ++ wsX60 ++ wsX40 ++ wsX30 ++ wsX10 ++ wsX00 ++ wsX20)))
set_option maxRecDepth 20000 in
theorem gL_law_L_isSo : GoodIn wsL_law (va_wsS RL 131 yL_isSo wsL_isSo) := goodIn_app (goodIn_of _ (by decide +kernel)) ggL_law_L_isSo
set_option maxRecDepth 20000 in
theorem ggL_law_L_cell : GoodIn wsL_law wsL_cell := goodIn_r _ [249, 250] (by decide +kernel) (by decide +kernel)
set_option maxRecDepth 20000 in
theorem gL_law_L_cell : GoodIn wsL_law (va_wsS RL 134 yL_cell wsL_cell) := goodIn_app (goodIn_of _ (by decide +kernel)) ggL_law_L_cell
set_option maxRecDepth 20000 in
theorem ggL_law_L_low : GoodIn wsL_law wsL_low := goodIn_r _ [253, 254] (by decide +kernel) (by decide +kernel)
set_option maxRecDepth 20000 in
theorem gL_law_L_low : GoodIn wsL_law (va_wsS RL 70 yL_low wsL_low) := goodIn_app (goodIn_of _ (by decide +kernel)) ggL_law_L_low
set_option maxRecDepth 100000 in
theorem lw_hv_acts2 : GoodIn wsL_law [Cond.code yL_acts cL_acts 15 (some .boolean)] := fun w h => by
  rw [List.mem_singleton] at h
  subst h
  exact ⟨List.mem_of_getElem? (i := 257) rfl, Or.inl rfl⟩
set_option maxRecDepth 20000 in
theorem lv2acts_wsL_acts_r1 : GoodIn wsL_law wsL_acts_r1 := goodIn_r _ [258, 259, 5, 251, 252, 96, 253, 254, 260, 261, 262, 263, 264, 265, 2, 266, 19, 15, 267, 268, 269, 18, 270, 74] (by decide +kernel) (by decide +kernel)
set_option maxRecDepth 20000 in
theorem lv2acts_wsL_acts_r2 : GoodIn wsL_law wsL_acts_r2 := goodIn_r _ [73, 271, 272, 273, 14, 274, 36, 40, 41, 42, 275, 276, 277, 278, 43, 44, 45, 46, 47, 48, 49, 50, 279, 280] (by decide +kernel) (by decide +kernel)
set_option maxRecDepth 20000 in
theorem lv2acts_wsL_acts_r3 : GoodIn wsL_law wsL_acts_r3 := goodIn_r _ [281, 35, 282, 54, 283, 284, 285, 286, 287, 288, 289, 55, 290, 56, 57, 58, 59, 291, 292, 293, 39, 294, 63, 64] (by decide +kernel) (by decide +kernel)
set_option maxRecDepth 20000 in
theorem lv2acts_wsL_acts_r4 : GoodIn wsL_law wsL_acts_r4 := goodIn_r _ [65, 67, 295, 296, 297, 298, 299, 300, 237, 238, 301, 302, 303, 304, 305, 306, 307, 308, 309, 310, 311, 312, 313, 314] (by decide +kernel) (by decide +kernel)
set_option maxRecDepth 20000 in
theorem lv2acts_wsL_acts_r5 : GoodIn wsL_law wsL_acts_r5 := goodIn_r _ [315, 316, 317, 318, 319, 320, 321, 322, 323, 324, 325, 326, 327, 328, 329, 330, 331, 332, 333, 334, 335, 336, 337, 338] (by decide +kernel) (by decide +kernel)
set_option maxRecDepth 20000 in
theorem lv2acts_wsL_acts_r6 : GoodIn wsL_law wsL_acts_r6 := goodIn_r _ [339, 340, 341, 342, 190, 231, 222, 194, 343, 344, 345, 346, 347, 348, 349, 350, 351, 352, 353, 354, 115, 116, 355, 118] (by decide +kernel) (by decide +kernel)
set_option maxRecDepth 20000 in
theorem lv2acts_wsL_acts_r7 : GoodIn wsL_law wsL_acts_r7 := goodIn_r _ [119, 120, 356, 357, 358, 359, 360, 361, 362, 363, 364, 365, 366, 367, 368, 369, 370, 371, 372, 373, 122, 123, 124, 181] (by decide +kernel) (by decide +kernel)
set_option maxRecDepth 20000 in
theorem lv2acts_wsL_acts_r8 : GoodIn wsL_law wsL_acts_r8 := goodIn_r _ [182, 183, 374, 375, 376, 377, 378, 379, 380, 381, 382, 383, 384, 385, 386, 387, 388, 389, 191, 192, 193, 390, 391, 392] (by decide +kernel) (by decide +kernel)
set_option maxRecDepth 20000 in
theorem lv2acts_wsL_acts_r9 : GoodIn wsL_law wsL_acts_r9 := goodIn_r _ [393, 394, 395, 396, 397, 398, 399, 400, 401, 402, 403, 404, 147, 148, 149, 140, 141, 142, 143, 144, 405, 406, 407, 408] (by decide +kernel) (by decide +kernel)
set_option maxRecDepth 20000 in
theorem lv2acts_wsL_acts_r10 : GoodIn wsL_law wsL_acts_r10 := goodIn_r _ [409, 410, 411, 412, 413, 133, 134, 135, 136, 137, 138, 139, 414, 415, 416, 417, 418, 419, 420, 421, 422, 423, 424, 425] (by decide +kernel) (by decide +kernel)
set_option maxRecDepth 20000 in
theorem lv2acts_wsL_acts_r11 : GoodIn wsL_law wsL_acts_r11 := goodIn_r _ [426, 427, 184, 185, 186, 187, 188, 189, 428, 429, 430, 431, 432, 433, 434, 435, 436, 437, 438, 439, 440, 441, 442, 443] (by decide +kernel) (by decide +kernel)
theorem ggL_law_L_acts : GoodIn wsL_law wsL_acts := (goodIn_app lw_hv_acts2 (goodIn_app (goodIn_app (goodIn_app (goodIn_app (goodIn_app (goodIn_app lv2acts_wsL_acts_r1 (goodIn_app lv2acts_wsL_acts_r2 (goodIn_app lv2acts_wsL_acts_r3 (goodIn_app lv2acts_wsL_acts_r4 (goodIn_app lv2acts_wsL_acts_r5 (goodIn_app lv2acts_wsL_acts_r6 (goodIn_app lv2acts_wsL_acts_r7 (goodIn_app lv2acts_wsL_acts_r8 (goodIn_app lv2acts_wsL_acts_r9 (goodIn_app lv2acts_wsL_acts_r10 lv2acts_wsL_acts_r11)))))))))) (goodIn_sub inlX6 (by decide +kernel))) (goodIn_sub inlX0 (by decide +kernel))) (goodIn_sub inlX4 (by decide +kernel))) (goodIn_sub inlX1 (by decide +kernel))) (goodIn_sub inlX3 (by decide +kernel))) : GoodIn wsL_law ([Cond.code yL_acts cL_acts 15 (some .boolean)] ++ ((wsL_acts_r1 ++ (wsL_acts_r2 ++ (wsL_acts_r3 ++ (wsL_acts_r4 ++ (wsL_acts_r5 ++ (wsL_acts_r6 ++ (wsL_acts_r7 ++ (wsL_acts_r8 ++ (wsL_acts_r9 ++ (wsL_acts_r10 ++ wsL_acts_r11)))))))))) ++ wsX60 ++ wsX00 ++ wsX40 ++ wsX10 ++ wsX30)))
set_option maxRecDepth 20000 in
theorem gL_law_L_acts : GoodIn wsL_law (va_wsS RL 138 yL_acts wsL_acts) := goodIn_app (goodIn_of _ (by decide +kernel)) ggL_law_L_acts
set_option maxRecDepth 20000 in
theorem ggL_law_X6_count : GoodIn wsL_law wsX6_count := goodIn_r _ [198, 15, 107, 111, 112, 199, 200, 201, 202, 203, 19, 204, 23, 205, 206, 207, 106, 132, 133, 134, 35, 135, 54, 136, 137, 138, 139, 55, 140, 141, 142, 143, 144, 444, 445, 446, 447, 448, 449, 450, 451, 452, 453, 454, 455, 456, 457, 458, 459, 460, 461, 475, 476, 477, 478, 479, 480, 462, 463, 464, 465, 466, 467, 468, 469] (by decide +kernel) (by decide +kernel)
set_option maxRecDepth 20000 in
theorem gL_law_X6_count : GoodIn wsL_law (wsV RL 113 RX6 yX6_count wsX6_count) := goodIn_app (goodIn_of _ (by decide +kernel)) ggL_law_X6_count
set_option maxRecDepth 20000 in
theorem ggL_law_X6_slotOf : GoodIn wsL_law wsX6_slotOf := goodIn_r _ [235, 106, 15, 113, 107, 236, 237, 2, 238, 239, 240, 241, 14, 242, 42, 243, 244, 245, 35, 246, 54, 166, 167, 168, 169, 158, 159, 160, 161, 56, 140, 141, 142, 143, 144, 136, 137, 138, 139, 55, 444, 445, 446, 447, 448, 449, 450, 451, 452, 453, 454, 455, 456, 457, 458, 459, 460, 461, 475, 476, 477, 478, 479, 480] (by decide +kernel) (by decide +kernel)
set_option maxRecDepth 20000 in
theorem gL_law_X6_slotOf : GoodIn wsL_law (wsV RL 119 RX6 yX6_slotOf wsX6_slotOf) := goodIn_app (goodIn_of _ (by decide +kernel)) ggL_law_X6_slotOf
theorem dL_law_0 : decode cL_law 0 = .ok (.new 40, 3) := by decide +kernel
theorem dL_law_3 : decode cL_law 3 = .ok (.dup, 1) := by decide +kernel
theorem dL_law_4 : decode cL_law 4 = .ok (.invokespecial 130, 3) := by decide +kernel
theorem dL_law_7 : decode cL_law 7 = .ok (.astore_n 1, 1) := by decide +kernel
theorem dL_law_8 : decode cL_law 8 = .ok (.bipush 18, 2) := by decide +kernel
theorem dL_law_10 : decode cL_law 10 = .ok (.newarray .int, 2) := by decide +kernel
theorem dL_law_12 : decode cL_law 12 = .ok (.astore_n 2, 1) := by decide +kernel
theorem dL_law_13 : decode cL_law 13 = .ok (.bipush 64, 2) := by decide +kernel
theorem dL_law_15 : decode cL_law 15 = .ok (.newarray .long, 2) := by decide +kernel
theorem dL_law_17 : decode cL_law 17 = .ok (.astore_n 3, 1) := by decide +kernel
theorem dL_law_18 : decode cL_law 18 = .ok (.iconst 2, 1) := by decide +kernel
theorem dL_law_19 : decode cL_law 19 = .ok (.newarray .long, 2) := by decide +kernel
theorem dL_law_21 : decode cL_law 21 = .ok (.astore 4, 2) := by decide +kernel
theorem dL_law_23 : decode cL_law 23 = .ok (.aload_n 2, 1) := by decide +kernel
theorem dL_law_24 : decode cL_law 24 = .ok (.iconst 2, 1) := by decide +kernel
theorem dL_law_25 : decode cL_law 25 = .ok (.iconst 1, 1) := by decide +kernel
theorem dL_law_26 : decode cL_law 26 = .ok (.iastore, 1) := by decide +kernel
theorem dL_law_27 : decode cL_law 27 = .ok (.aload_n 2, 1) := by decide +kernel
theorem dL_law_28 : decode cL_law 28 = .ok (.bipush 7, 2) := by decide +kernel
theorem dL_law_30 : decode cL_law 30 = .ok (.iconst 4, 1) := by decide +kernel
theorem dL_law_31 : decode cL_law 31 = .ok (.iastore, 1) := by decide +kernel
theorem dL_law_32 : decode cL_law 32 = .ok (.aload_n 2, 1) := by decide +kernel
theorem dL_law_33 : decode cL_law 33 = .ok (.bipush 8, 2) := by decide +kernel
theorem dL_law_35 : decode cL_law 35 = .ok (.iconst 2, 1) := by decide +kernel
theorem dL_law_36 : decode cL_law 36 = .ok (.iastore, 1) := by decide +kernel
theorem dL_law_37 : decode cL_law 37 = .ok (.aload_n 1, 1) := by decide +kernel
theorem dL_law_38 : decode cL_law 38 = .ok (.aload_n 2, 1) := by decide +kernel
theorem dL_law_39 : decode cL_law 39 = .ok (.aload_n 3, 1) := by decide +kernel
theorem dL_law_40 : decode cL_law 40 = .ok (.aload 4, 2) := by decide +kernel
theorem dL_law_42 : decode cL_law 42 = .ok (.invokestatic 131, 3) := by decide +kernel
theorem dL_law_45 : decode cL_law 45 = .ok (.istore 5, 2) := by decide +kernel
theorem dL_law_47 : decode cL_law 47 = .ok (.bipush 16, 2) := by decide +kernel
theorem dL_law_49 : decode cL_law 49 = .ok (.aload_n 0, 1) := by decide +kernel
theorem dL_law_50 : decode cL_law 50 = .ok (.iconst 0, 1) := by decide +kernel
theorem dL_law_51 : decode cL_law 51 = .ok (.invokestatic 134, 3) := by decide +kernel
theorem dL_law_54 : decode cL_law 54 = .ok (.bipush 70, 2) := by decide +kernel
theorem dL_law_56 : decode cL_law 56 = .ok (.invokestatic 70, 3) := by decide +kernel
theorem dL_law_59 : decode cL_law 59 = .ok (.iadd, 1) := by decide +kernel
theorem dL_law_60 : decode cL_law 60 = .ok (.istore 6, 2) := by decide +kernel
theorem dL_law_62 : decode cL_law 62 = .ok (.iconst 0, 1) := by decide +kernel
theorem dL_law_63 : decode cL_law 63 = .ok (.istore 7, 2) := by decide +kernel
theorem dL_law_65 : decode cL_law 65 = .ok (.iload 7, 2) := by decide +kernel
theorem dL_law_67 : decode cL_law 67 = .ok (.iload 6, 2) := by decide +kernel
theorem dL_law_69 : decode cL_law 69 = .ok (.if_icmp .ge 58, 3) := by decide +kernel
theorem dL_law_72 : decode cL_law 72 = .ok (.iload 5, 2) := by decide +kernel
theorem dL_law_74 : decode cL_law 74 = .ok (.ifCond .eq 53, 3) := by decide +kernel
theorem dL_law_77 : decode cL_law 77 = .ok (.aload_n 1, 1) := by decide +kernel
theorem dL_law_78 : decode cL_law 78 = .ok (.aload_n 2, 1) := by decide +kernel
theorem dL_law_79 : decode cL_law 79 = .ok (.aload_n 3, 1) := by decide +kernel
theorem dL_law_80 : decode cL_law 80 = .ok (.aload 4, 2) := by decide +kernel
theorem dL_law_82 : decode cL_law 82 = .ok (.aload_n 0, 1) := by decide +kernel
theorem dL_law_83 : decode cL_law 83 = .ok (.iconst 1, 1) := by decide +kernel
theorem dL_law_84 : decode cL_law 84 = .ok (.iload 7, 2) := by decide +kernel
theorem dL_law_86 : decode cL_law 86 = .ok (.iadd, 1) := by decide +kernel
theorem dL_law_87 : decode cL_law 87 = .ok (.invokestatic 134, 3) := by decide +kernel
theorem dL_law_90 : decode cL_law 90 = .ok (.sipush 7919, 3) := by decide +kernel
theorem dL_law_93 : decode cL_law 93 = .ok (.iload 7, 2) := by decide +kernel
theorem dL_law_95 : decode cL_law 95 = .ok (.imul, 1) := by decide +kernel
theorem dL_law_96 : decode cL_law 96 = .ok (.ixor, 1) := by decide +kernel
theorem dL_law_97 : decode cL_law 97 = .ok (.invokestatic 138, 3) := by decide +kernel
theorem dL_law_100 : decode cL_law 100 = .ok (.ifCond .eq 18, 3) := by decide +kernel
theorem dL_law_103 : decode cL_law 103 = .ok (.aload_n 1, 1) := by decide +kernel
theorem dL_law_104 : decode cL_law 104 = .ok (.aload_n 2, 1) := by decide +kernel
theorem dL_law_105 : decode cL_law 105 = .ok (.aload_n 3, 1) := by decide +kernel
theorem dL_law_106 : decode cL_law 106 = .ok (.aload 4, 2) := by decide +kernel
theorem dL_law_108 : decode cL_law 108 = .ok (.invokestatic 131, 3) := by decide +kernel
theorem dL_law_111 : decode cL_law 111 = .ok (.ifCond .eq 7, 3) := by decide +kernel
theorem dL_law_114 : decode cL_law 114 = .ok (.iconst 1, 1) := by decide +kernel
theorem dL_law_115 : decode cL_law 115 = .ok (.goto 4, 3) := by decide +kernel
theorem dL_law_118 : decode cL_law 118 = .ok (.iconst 0, 1) := by decide +kernel
theorem dL_law_119 : decode cL_law 119 = .ok (.istore 5, 2) := by decide +kernel
theorem dL_law_121 : decode cL_law 121 = .ok (.iinc 7 1, 3) := by decide +kernel
theorem dL_law_124 : decode cL_law 124 = .ok (.goto (-59), 3) := by decide +kernel
theorem dL_law_127 : decode cL_law 127 = .ok (.iload 5, 2) := by decide +kernel
theorem dL_law_129 : decode cL_law 129 = .ok (.ifCond .eq 51, 3) := by decide +kernel
theorem dL_law_132 : decode cL_law 132 = .ok (.aload_n 1, 1) := by decide +kernel
theorem dL_law_133 : decode cL_law 133 = .ok (.bipush 10, 2) := by decide +kernel
theorem dL_law_135 : decode cL_law 135 = .ok (.invokevirtual 113, 3) := by decide +kernel
theorem dL_law_138 : decode cL_law 138 = .ok (.ldc 84, 2) := by decide +kernel
theorem dL_law_140 : decode cL_law 140 = .ok (.if_icmp .ne 40, 3) := by decide +kernel
theorem dL_law_143 : decode cL_law 143 = .ok (.aload_n 1, 1) := by decide +kernel
theorem dL_law_144 : decode cL_law 144 = .ok (.bipush 19, 2) := by decide +kernel
theorem dL_law_146 : decode cL_law 146 = .ok (.invokevirtual 113, 3) := by decide +kernel
theorem dL_law_149 : decode cL_law 149 = .ok (.ldc 84, 2) := by decide +kernel
theorem dL_law_151 : decode cL_law 151 = .ok (.if_icmp .ne 29, 3) := by decide +kernel
theorem dL_law_154 : decode cL_law 154 = .ok (.aload_n 1, 1) := by decide +kernel
theorem dL_law_155 : decode cL_law 155 = .ok (.bipush 22, 2) := by decide +kernel
theorem dL_law_157 : decode cL_law 157 = .ok (.invokevirtual 113, 3) := by decide +kernel
theorem dL_law_160 : decode cL_law 160 = .ok (.ldc 84, 2) := by decide +kernel
theorem dL_law_162 : decode cL_law 162 = .ok (.if_icmp .ne 18, 3) := by decide +kernel
theorem dL_law_165 : decode cL_law 165 = .ok (.aload_n 1, 1) := by decide +kernel
theorem dL_law_166 : decode cL_law 166 = .ok (.iconst 3, 1) := by decide +kernel
theorem dL_law_167 : decode cL_law 167 = .ok (.iconst 0, 1) := by decide +kernel
theorem dL_law_168 : decode cL_law 168 = .ok (.invokevirtual 119, 3) := by decide +kernel
theorem dL_law_171 : decode cL_law 171 = .ok (.ldc 84, 2) := by decide +kernel
theorem dL_law_173 : decode cL_law 173 = .ok (.if_icmp .ne 7, 3) := by decide +kernel
theorem dL_law_176 : decode cL_law 176 = .ok (.iconst 1, 1) := by decide +kernel
theorem dL_law_177 : decode cL_law 177 = .ok (.goto 4, 3) := by decide +kernel
theorem dL_law_180 : decode cL_law 180 = .ok (.iconst 0, 1) := by decide +kernel
theorem dL_law_181 : decode cL_law 181 = .ok (.ireturn, 1) := by decide +kernel
abbrev vwCl : List vw_C := [(RX0, TX0, 2), (RX1, TX1, 6), (RX2, TX2, 6), (RX3, TX3, 4), (RX4, TX4, 12), (RX5, TX5, 5), (RX6, TX6, 6)]
