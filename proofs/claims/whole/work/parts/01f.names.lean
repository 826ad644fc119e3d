theorem dX6_recordOf_40 : decode cX6_recordOf 40 = .ok (.istore 4, 2) := by decide +kernel
theorem dX6_recordOf_42 : decode cX6_recordOf 42 = .ok (.aload_n 3, 1) := by decide +kernel
theorem dX6_recordOf_43 : decode cX6_recordOf 43 = .ok (.iload_n 1, 1) := by decide +kernel
theorem dX6_recordOf_44 : decode cX6_recordOf 44 = .ok (.invokevirtual 147, 3) := by decide +kernel
theorem dX6_recordOf_47 : decode cX6_recordOf 47 = .ok (.ifCond .eq 16, 3) := by decide +kernel
theorem dX6_recordOf_50 : decode cX6_recordOf 50 = .ok (.iload 4, 2) := by decide +kernel
theorem dX6_recordOf_52 : decode cX6_recordOf 52 = .ok (.ifCond .eq 14, 3) := by decide +kernel
theorem dX6_recordOf_55 : decode cX6_recordOf 55 = .ok (.aload_n 3, 1) := by decide +kernel
theorem dX6_recordOf_56 : decode cX6_recordOf 56 = .ok (.iload_n 1, 1) := by decide +kernel
theorem dX6_recordOf_57 : decode cX6_recordOf 57 = .ok (.invokevirtual 150, 3) := by decide +kernel
theorem dX6_recordOf_60 : decode cX6_recordOf 60 = .ok (.ifCond .eq 6, 3) := by decide +kernel
theorem dX6_recordOf_63 : decode cX6_recordOf 63 = .ok (.ldc 140, 2) := by decide +kernel
theorem dX6_recordOf_65 : decode cX6_recordOf 65 = .ok (.ireturn, 1) := by decide +kernel
theorem dX6_recordOf_66 : decode cX6_recordOf 66 = .ok (.iload_n 2, 1) := by decide +kernel
theorem dX6_recordOf_67 : decode cX6_recordOf 67 = .ok (.tableswitch 53 0 3 #[29, 35, 41, 47], 29) := by decide +kernel
theorem dX6_recordOf_96 : decode cX6_recordOf 96 = .ok (.aload_n 3, 1) := by decide +kernel
theorem dX6_recordOf_97 : decode cX6_recordOf 97 = .ok (.iload_n 1, 1) := by decide +kernel
theorem dX6_recordOf_98 : decode cX6_recordOf 98 = .ok (.invokevirtual 150, 3) := by decide +kernel
theorem dX6_recordOf_101 : decode cX6_recordOf 101 = .ok (.ireturn, 1) := by decide +kernel
theorem dX6_recordOf_102 : decode cX6_recordOf 102 = .ok (.aload_n 3, 1) := by decide +kernel
theorem dX6_recordOf_103 : decode cX6_recordOf 103 = .ok (.iload_n 1, 1) := by decide +kernel
theorem dX6_recordOf_104 : decode cX6_recordOf 104 = .ok (.invokevirtual 153, 3) := by decide +kernel
theorem dX6_recordOf_107 : decode cX6_recordOf 107 = .ok (.ireturn, 1) := by decide +kernel
theorem dX6_recordOf_108 : decode cX6_recordOf 108 = .ok (.aload_n 3, 1) := by decide +kernel
theorem dX6_recordOf_109 : decode cX6_recordOf 109 = .ok (.iload_n 1, 1) := by decide +kernel
theorem dX6_recordOf_110 : decode cX6_recordOf 110 = .ok (.invokevirtual 156, 3) := by decide +kernel
theorem dX6_recordOf_113 : decode cX6_recordOf 113 = .ok (.ireturn, 1) := by decide +kernel
theorem dX6_recordOf_114 : decode cX6_recordOf 114 = .ok (.aload_n 3, 1) := by decide +kernel
theorem dX6_recordOf_115 : decode cX6_recordOf 115 = .ok (.iload_n 1, 1) := by decide +kernel
theorem dX6_recordOf_116 : decode cX6_recordOf 116 = .ok (.invokevirtual 130, 3) := by decide +kernel
theorem dX6_recordOf_119 : decode cX6_recordOf 119 = .ok (.ireturn, 1) := by decide +kernel
theorem dX6_recordOf_120 : decode cX6_recordOf 120 = .ok (.aload_n 3, 1) := by decide +kernel
theorem dX6_recordOf_121 : decode cX6_recordOf 121 = .ok (.iload_n 1, 1) := by decide +kernel
theorem dX6_recordOf_122 : decode cX6_recordOf 122 = .ok (.invokevirtual 159, 3) := by decide +kernel
theorem dX6_recordOf_125 : decode cX6_recordOf 125 = .ok (.ireturn, 1) := by decide +kernel
set_option maxRecDepth 20000 in
theorem ggX6_standbyOf_X6_isStandby : GoodIn wsX6_standbyOf wsX6_isStandby := goodIn_r _ [13] (by decide +kernel) (by decide +kernel)
set_option maxRecDepth 20000 in
theorem gX6_standbyOf_X6_isStandby : GoodIn wsX6_standbyOf (va_wsS RX6 84 yX6_isStandby wsX6_isStandby) := goodIn_app (goodIn_of _ (by decide +kernel)) ggX6_standbyOf_X6_isStandby
set_option maxRecDepth 20000 in
theorem ggX6_standbyOf_X4_standby : GoodIn wsX6_standbyOf wsX4_standby := goodIn_r _ [18, 19, 20, 98, 99, 100, 101, 102, 103, 104, 105, 106, 107, 108, 109] (by decide +kernel) (by decide +kernel)
set_option maxRecDepth 20000 in
theorem gX6_standbyOf_X4_standby : GoodIn wsX6_standbyOf (wsV RX6 95 RX4 yX4_standby wsX4_standby) := goodIn_app (goodIn_of _ (by decide +kernel)) ggX6_standbyOf_X4_standby
set_option maxRecDepth 20000 in
theorem ggX6_standbyOf_X3_gapCount : GoodIn wsX6_standbyOf wsX3_gapCount := goodIn_r _ [25, 26, 110, 111, 112, 113] (by decide +kernel) (by decide +kernel)
set_option maxRecDepth 20000 in
theorem gX6_standbyOf_X3_gapCount : GoodIn wsX6_standbyOf (wsV RX6 165 RX3 yX3_gapCount wsX3_gapCount) := goodIn_app (goodIn_of _ (by decide +kernel)) ggX6_standbyOf_X3_gapCount
set_option maxRecDepth 20000 in
theorem ggX6_standbyOf_X3_lowestGap : GoodIn wsX6_standbyOf wsX3_lowestGap := goodIn_r _ [30, 26, 110, 111, 112, 113] (by decide +kernel) (by decide +kernel)
set_option maxRecDepth 20000 in
theorem gX6_standbyOf_X3_lowestGap : GoodIn wsX6_standbyOf (wsV RX6 169 RX3 yX3_lowestGap wsX3_lowestGap) := goodIn_app (goodIn_of _ (by decide +kernel)) ggX6_standbyOf_X3_lowestGap
set_option maxRecDepth 20000 in
theorem ggX6_standbyOf_X6_found : GoodIn wsX6_standbyOf wsX6_found := goodIn_r _ [33, 9] (by decide +kernel) (by decide +kernel)
set_option maxRecDepth 20000 in
theorem gX6_standbyOf_X6_found : GoodIn wsX6_standbyOf (va_wsS RX6 144 yX6_found wsX6_found) := goodIn_app (goodIn_of _ (by decide +kernel)) ggX6_standbyOf_X6_found
set_option maxRecDepth 20000 in
theorem ggX6_standbyOf_X1_commitsBehind : GoodIn wsX6_standbyOf wsX1_commitsBehind := goodIn_r _ [38, 39, 40, 41, 42, 37, 43, 44, 45, 46, 47, 48, 49, 114, 115, 116, 117, 118, 119] (by decide +kernel) (by decide +kernel)
set_option maxRecDepth 20000 in
theorem gX6_standbyOf_X1_commitsBehind : GoodIn wsX6_standbyOf (wsV RX6 176 RX1 yX1_commitsBehind wsX1_commitsBehind) := goodIn_app (goodIn_of _ (by decide +kernel)) ggX6_standbyOf_X1_commitsBehind
set_option maxRecDepth 20000 in
theorem ggX6_standbyOf_X1_has : GoodIn wsX6_standbyOf wsX1_has := goodIn_r _ [49, 39, 114, 115, 116, 117, 118, 119] (by decide +kernel) (by decide +kernel)
set_option maxRecDepth 20000 in
theorem gX6_standbyOf_X1_has : GoodIn wsX6_standbyOf (wsV RX6 147 RX1 yX1_has wsX1_has) := goodIn_app (goodIn_of _ (by decide +kernel)) ggX6_standbyOf_X1_has
set_option maxRecDepth 20000 in
theorem ggX6_standbyOf_X1_tickOf : GoodIn wsX6_standbyOf wsX1_tickOf := goodIn_r _ [54, 55, 45, 46, 47, 48, 37, 49, 39, 114, 115, 116, 117, 118, 119] (by decide +kernel) (by decide +kernel)
set_option maxRecDepth 20000 in
theorem gX6_standbyOf_X1_tickOf : GoodIn wsX6_standbyOf (wsV RX6 159 RX1 yX1_tickOf wsX1_tickOf) := goodIn_app (goodIn_of _ (by decide +kernel)) ggX6_standbyOf_X1_tickOf
set_option maxRecDepth 20000 in
theorem ggX6_standbyOf_X6_keysNotAsAtEnd : GoodIn wsX6_standbyOf wsX6_keysNotAsAtEnd := goodIn_r _ [59, 2, 3, 60, 7, 61, 62, 63, 64, 37, 65, 40, 41, 42, 43, 44, 45, 46, 47, 48, 49, 39, 66, 67, 68, 69, 70, 71, 72, 73, 74, 75, 76, 77, 78, 79, 80, 81, 82, 83, 84, 85, 86, 87, 88, 89, 90, 91, 92, 93, 94, 95, 96, 97, 98, 99, 100, 101, 102, 103, 104, 105, 106, 107, 108, 109, 114, 115, 116, 117, 118, 119] (by decide +kernel) (by decide +kernel)
set_option maxRecDepth 20000 in
theorem gX6_standbyOf_X6_keysNotAsAtEnd : GoodIn wsX6_standbyOf (wsV RX6 182 RX6 yX6_keysNotAsAtEnd wsX6_keysNotAsAtEnd) := goodIn_app (goodIn_of _ (by decide +kernel)) ggX6_standbyOf_X6_keysNotAsAtEnd
theorem dX6_standbyOf_0 : decode cX6_standbyOf 0 = .ok (.iload_n 1, 1) := by decide +kernel
theorem dX6_standbyOf_1 : decode cX6_standbyOf 1 = .ok (.invokestatic 84, 3) := by decide +kernel
theorem dX6_standbyOf_4 : decode cX6_standbyOf 4 = .ok (.ifCond .eq 13, 3) := by decide +kernel
theorem dX6_standbyOf_7 : decode cX6_standbyOf 7 = .ok (.iload_n 2, 1) := by decide +kernel
theorem dX6_standbyOf_8 : decode cX6_standbyOf 8 = .ok (.ifCond .lt 9, 3) := by decide +kernel
theorem dX6_standbyOf_11 : decode cX6_standbyOf 11 = .ok (.iload_n 2, 1) := by decide +kernel
theorem dX6_standbyOf_12 : decode cX6_standbyOf 12 = .ok (.bipush 8, 2) := by decide +kernel
theorem dX6_standbyOf_14 : decode cX6_standbyOf 14 = .ok (.if_icmp .le 6, 3) := by decide +kernel
theorem dX6_standbyOf_17 : decode cX6_standbyOf 17 = .ok (.ldc 94, 2) := by decide +kernel
theorem dX6_standbyOf_19 : decode cX6_standbyOf 19 = .ok (.ireturn, 1) := by decide +kernel
theorem dX6_standbyOf_20 : decode cX6_standbyOf 20 = .ok (.aload_n 0, 1) := by decide +kernel
theorem dX6_standbyOf_21 : decode cX6_standbyOf 21 = .ok (.getfield 10, 3) := by decide +kernel
theorem dX6_standbyOf_24 : decode cX6_standbyOf 24 = .ok (.iload_n 1, 1) := by decide +kernel
theorem dX6_standbyOf_25 : decode cX6_standbyOf 25 = .ok (.invokevirtual 95, 3) := by decide +kernel
theorem dX6_standbyOf_28 : decode cX6_standbyOf 28 = .ok (.astore_n 3, 1) := by decide +kernel
theorem dX6_standbyOf_29 : decode cX6_standbyOf 29 = .ok (.aload_n 0, 1) := by decide +kernel
theorem dX6_standbyOf_30 : decode cX6_standbyOf 30 = .ok (.getfield 10, 3) := by decide +kernel
theorem dX6_standbyOf_33 : decode cX6_standbyOf 33 = .ok (.getfield 105, 3) := by decide +kernel
theorem dX6_standbyOf_36 : decode cX6_standbyOf 36 = .ok (.astore 4, 2) := by decide +kernel
theorem dX6_standbyOf_38 : decode cX6_standbyOf 38 = .ok (.iload_n 2, 1) := by decide +kernel
theorem dX6_standbyOf_39 : decode cX6_standbyOf 39 = .ok (.tableswitch 141 0 7 #[45, 50, 55, 60, 68, 81, 92, 102], 45) := by decide +kernel
theorem dX6_standbyOf_84 : decode cX6_standbyOf 84 = .ok (.aload_n 3, 1) := by decide +kernel
theorem dX6_standbyOf_85 : decode cX6_standbyOf 85 = .ok (.getfield 162, 3) := by decide +kernel
theorem dX6_standbyOf_88 : decode cX6_standbyOf 88 = .ok (.ireturn, 1) := by decide +kernel
theorem dX6_standbyOf_89 : decode cX6_standbyOf 89 = .ok (.aload_n 3, 1) := by decide +kernel
theorem dX6_standbyOf_90 : decode cX6_standbyOf 90 = .ok (.getfield 109, 3) := by decide +kernel
theorem dX6_standbyOf_93 : decode cX6_standbyOf 93 = .ok (.ireturn, 1) := by decide +kernel
theorem dX6_standbyOf_94 : decode cX6_standbyOf 94 = .ok (.aload_n 3, 1) := by decide +kernel
theorem dX6_standbyOf_95 : decode cX6_standbyOf 95 = .ok (.invokevirtual 165, 3) := by decide +kernel
theorem dX6_standbyOf_98 : decode cX6_standbyOf 98 = .ok (.ireturn, 1) := by decide +kernel
theorem dX6_standbyOf_99 : decode cX6_standbyOf 99 = .ok (.aload_n 3, 1) := by decide +kernel
theorem dX6_standbyOf_100 : decode cX6_standbyOf 100 = .ok (.invokevirtual 169, 3) := by decide +kernel
theorem dX6_standbyOf_103 : decode cX6_standbyOf 103 = .ok (.invokestatic 144, 3) := by decide +kernel
theorem dX6_standbyOf_106 : decode cX6_standbyOf 106 = .ok (.ireturn, 1) := by decide +kernel
theorem dX6_standbyOf_107 : decode cX6_standbyOf 107 = .ok (.aload_n 3, 1) := by decide +kernel
theorem dX6_standbyOf_108 : decode cX6_standbyOf 108 = .ok (.getfield 172, 3) := by decide +kernel
theorem dX6_standbyOf_111 : decode cX6_standbyOf 111 = .ok (.ifCond .eq 7, 3) := by decide +kernel
theorem dX6_standbyOf_114 : decode cX6_standbyOf 114 = .ok (.iconst 1, 1) := by decide +kernel
theorem dX6_standbyOf_115 : decode cX6_standbyOf 115 = .ok (.goto 4, 3) := by decide +kernel
theorem dX6_standbyOf_118 : decode cX6_standbyOf 118 = .ok (.iconst 0, 1) := by decide +kernel
theorem dX6_standbyOf_119 : decode cX6_standbyOf 119 = .ok (.ireturn, 1) := by decide +kernel
theorem dX6_standbyOf_120 : decode cX6_standbyOf 120 = .ok (.aload 4, 2) := by decide +kernel
theorem dX6_standbyOf_122 : decode cX6_standbyOf 122 = .ok (.getfield 121, 3) := by decide +kernel
theorem dX6_standbyOf_125 : decode cX6_standbyOf 125 = .ok (.aload_n 3, 1) := by decide +kernel
theorem dX6_standbyOf_126 : decode cX6_standbyOf 126 = .ok (.getfield 109, 3) := by decide +kernel
theorem dX6_standbyOf_129 : decode cX6_standbyOf 129 = .ok (.isub, 1) := by decide +kernel
theorem dX6_standbyOf_130 : decode cX6_standbyOf 130 = .ok (.ireturn, 1) := by decide +kernel
theorem dX6_standbyOf_131 : decode cX6_standbyOf 131 = .ok (.aload 4, 2) := by decide +kernel
theorem dX6_standbyOf_133 : decode cX6_standbyOf 133 = .ok (.aload_n 3, 1) := by decide +kernel
theorem dX6_standbyOf_134 : decode cX6_standbyOf 134 = .ok (.getfield 109, 3) := by decide +kernel
theorem dX6_standbyOf_137 : decode cX6_standbyOf 137 = .ok (.invokevirtual 176, 3) := by decide +kernel
theorem dX6_standbyOf_140 : decode cX6_standbyOf 140 = .ok (.ireturn, 1) := by decide +kernel
theorem dX6_standbyOf_141 : decode cX6_standbyOf 141 = .ok (.aload 4, 2) := by decide +kernel
theorem dX6_standbyOf_143 : decode cX6_standbyOf 143 = .ok (.aload_n 3, 1) := by decide +kernel
theorem dX6_standbyOf_144 : decode cX6_standbyOf 144 = .ok (.getfield 109, 3) := by decide +kernel
theorem dX6_standbyOf_147 : decode cX6_standbyOf 147 = .ok (.iconst 1, 1) := by decide +kernel
theorem dX6_standbyOf_148 : decode cX6_standbyOf 148 = .ok (.iadd, 1) := by decide +kernel
theorem dX6_standbyOf_149 : decode cX6_standbyOf 149 = .ok (.invokevirtual 147, 3) := by decide +kernel
theorem dX6_standbyOf_152 : decode cX6_standbyOf 152 = .ok (.ifCond .eq 25, 3) := by decide +kernel
theorem dX6_standbyOf_155 : decode cX6_standbyOf 155 = .ok (.aload_n 0, 1) := by decide +kernel
theorem dX6_standbyOf_156 : decode cX6_standbyOf 156 = .ok (.getfield 10, 3) := by decide +kernel
theorem dX6_standbyOf_159 : decode cX6_standbyOf 159 = .ok (.getfield 179, 3) := by decide +kernel
theorem dX6_standbyOf_162 : decode cX6_standbyOf 162 = .ok (.aload 4, 2) := by decide +kernel
theorem dX6_standbyOf_164 : decode cX6_standbyOf 164 = .ok (.aload_n 3, 1) := by decide +kernel
theorem dX6_standbyOf_165 : decode cX6_standbyOf 165 = .ok (.getfield 109, 3) := by decide +kernel
theorem dX6_standbyOf_168 : decode cX6_standbyOf 168 = .ok (.iconst 1, 1) := by decide +kernel
theorem dX6_standbyOf_169 : decode cX6_standbyOf 169 = .ok (.iadd, 1) := by decide +kernel
theorem dX6_standbyOf_170 : decode cX6_standbyOf 170 = .ok (.invokevirtual 159, 3) := by decide +kernel
theorem dX6_standbyOf_173 : decode cX6_standbyOf 173 = .ok (.isub, 1) := by decide +kernel
theorem dX6_standbyOf_174 : decode cX6_standbyOf 174 = .ok (.goto 5, 3) := by decide +kernel
theorem dX6_standbyOf_177 : decode cX6_standbyOf 177 = .ok (.ldc 140, 2) := by decide +kernel
theorem dX6_standbyOf_179 : decode cX6_standbyOf 179 = .ok (.ireturn, 1) := by decide +kernel
theorem dX6_standbyOf_180 : decode cX6_standbyOf 180 = .ok (.aload_n 0, 1) := by decide +kernel
theorem dX6_standbyOf_181 : decode cX6_standbyOf 181 = .ok (.aload_n 3, 1) := by decide +kernel
theorem dX6_standbyOf_182 : decode cX6_standbyOf 182 = .ok (.getfield 109, 3) := by decide +kernel
theorem dX6_standbyOf_185 : decode cX6_standbyOf 185 = .ok (.invokevirtual 182, 3) := by decide +kernel
theorem dX6_standbyOf_188 : decode cX6_standbyOf 188 = .ok (.ireturn, 1) := by decide +kernel
set_option maxRecDepth 20000 in
theorem ggX6_slotOf_X6_isSlot : GoodIn wsX6_slotOf wsX6_isSlot := goodIn_r _ [8] (by decide +kernel) (by decide +kernel)
set_option maxRecDepth 20000 in
theorem gX6_slotOf_X6_isSlot : GoodIn wsX6_slotOf (va_wsS RX6 118 yX6_isSlot wsX6_isSlot) := goodIn_app (goodIn_of _ (by decide +kernel)) ggX6_slotOf_X6_isSlot
set_option maxRecDepth 20000 in
theorem ggX6_slotOf_X4_transactionIn : GoodIn wsX6_slotOf wsX4_transactionIn := goodIn_r _ [13, 14, 6, 7, 8, 46, 47, 48, 49, 50, 51, 52, 53, 54, 55, 56, 57] (by decide +kernel) (by decide +kernel)
set_option maxRecDepth 20000 in
theorem gX6_slotOf_X4_transactionIn : GoodIn wsX6_slotOf (wsV RX6 124 RX4 yX4_transactionIn wsX4_transactionIn) := goodIn_app (goodIn_of _ (by decide +kernel)) ggX6_slotOf_X4_transactionIn
set_option maxRecDepth 20000 in
theorem ggX6_slotOf_X1_putsOf : GoodIn wsX6_slotOf wsX1_putsOf := goodIn_r _ [19, 20, 21, 22, 23, 18, 24, 25, 26, 27, 28, 29, 30, 31, 32, 33, 34, 35, 36, 37, 38, 39, 58, 59, 60, 61, 62, 63] (by decide +kernel) (by decide +kernel)
set_option maxRecDepth 20000 in
theorem gX6_slotOf_X1_putsOf : GoodIn wsX6_slotOf (wsV RX6 185 RX1 yX1_putsOf wsX1_putsOf) := goodIn_app (goodIn_of _ (by decide +kernel)) ggX6_slotOf_X1_putsOf
theorem dX6_slotOf_0 : decode cX6_slotOf 0 = .ok (.iload_n 1, 1) := by decide +kernel
theorem dX6_slotOf_1 : decode cX6_slotOf 1 = .ok (.invokestatic 118, 3) := by decide +kernel
theorem dX6_slotOf_4 : decode cX6_slotOf 4 = .ok (.ifCond .eq 12, 3) := by decide +kernel
theorem dX6_slotOf_7 : decode cX6_slotOf 7 = .ok (.iload_n 2, 1) := by decide +kernel
theorem dX6_slotOf_8 : decode cX6_slotOf 8 = .ok (.ifCond .lt 8, 3) := by decide +kernel
theorem dX6_slotOf_11 : decode cX6_slotOf 11 = .ok (.iload_n 2, 1) := by decide +kernel
theorem dX6_slotOf_12 : decode cX6_slotOf 12 = .ok (.iconst 1, 1) := by decide +kernel
theorem dX6_slotOf_13 : decode cX6_slotOf 13 = .ok (.if_icmp .le 6, 3) := by decide +kernel
theorem dX6_slotOf_16 : decode cX6_slotOf 16 = .ok (.ldc 94, 2) := by decide +kernel
theorem dX6_slotOf_18 : decode cX6_slotOf 18 = .ok (.ireturn, 1) := by decide +kernel
theorem dX6_slotOf_19 : decode cX6_slotOf 19 = .ok (.aload_n 0, 1) := by decide +kernel
theorem dX6_slotOf_20 : decode cX6_slotOf 20 = .ok (.getfield 10, 3) := by decide +kernel
theorem dX6_slotOf_23 : decode cX6_slotOf 23 = .ok (.iload_n 1, 1) := by decide +kernel
theorem dX6_slotOf_24 : decode cX6_slotOf 24 = .ok (.invokevirtual 124, 3) := by decide +kernel
theorem dX6_slotOf_27 : decode cX6_slotOf 27 = .ok (.istore_n 3, 1) := by decide +kernel
theorem dX6_slotOf_28 : decode cX6_slotOf 28 = .ok (.iload_n 3, 1) := by decide +kernel
theorem dX6_slotOf_29 : decode cX6_slotOf 29 = .ok (.ifCond .ne 6, 3) := by decide +kernel
theorem dX6_slotOf_32 : decode cX6_slotOf 32 = .ok (.ldc 140, 2) := by decide +kernel
theorem dX6_slotOf_34 : decode cX6_slotOf 34 = .ok (.ireturn, 1) := by decide +kernel
theorem dX6_slotOf_35 : decode cX6_slotOf 35 = .ok (.iload_n 2, 1) := by decide +kernel
theorem dX6_slotOf_36 : decode cX6_slotOf 36 = .ok (.ifCond .ne 7, 3) := by decide +kernel
theorem dX6_slotOf_39 : decode cX6_slotOf 39 = .ok (.iload_n 3, 1) := by decide +kernel
theorem dX6_slotOf_40 : decode cX6_slotOf 40 = .ok (.goto 14, 3) := by decide +kernel
theorem dX6_slotOf_43 : decode cX6_slotOf 43 = .ok (.aload_n 0, 1) := by decide +kernel
theorem dX6_slotOf_44 : decode cX6_slotOf 44 = .ok (.getfield 10, 3) := by decide +kernel
theorem dX6_slotOf_47 : decode cX6_slotOf 47 = .ok (.getfield 105, 3) := by decide +kernel
theorem dX6_slotOf_50 : decode cX6_slotOf 50 = .ok (.iload_n 3, 1) := by decide +kernel
theorem dX6_slotOf_51 : decode cX6_slotOf 51 = .ok (.invokevirtual 185, 3) := by decide +kernel
theorem dX6_slotOf_54 : decode cX6_slotOf 54 = .ok (.ireturn, 1) := by decide +kernel
set_option maxRecDepth 20000 in
theorem ggX6_waits_X6_isStandby : GoodIn wsX6_waits wsX6_isStandby := goodIn_r _ [8] (by decide +kernel) (by decide +kernel)
set_option maxRecDepth 20000 in
theorem gX6_waits_X6_isStandby : GoodIn wsX6_waits (va_wsS RX6 84 yX6_isStandby wsX6_isStandby) := goodIn_app (goodIn_of _ (by decide +kernel)) ggX6_waits_X6_isStandby
set_option maxRecDepth 20000 in
theorem ggX6_waits_X4_isPosition : GoodIn wsX6_waits wsX4_isPosition := goodIn_r _ [13, 14, 15, 65, 66, 67, 68, 69, 70, 71, 72, 73, 74, 75, 76, 77, 78, 79, 80, 81, 82] (by decide +kernel) (by decide +kernel)
set_option maxRecDepth 20000 in
theorem gX6_waits_X4_isPosition : GoodIn wsX6_waits (wsV RX6 91 RX4 yX4_isPosition wsX4_isPosition) := goodIn_app (goodIn_of _ (by decide +kernel)) ggX6_waits_X4_isPosition
set_option maxRecDepth 20000 in
theorem ggX6_waits_X4_standby : GoodIn wsX6_waits wsX4_standby := goodIn_r _ [19, 20, 21, 65, 66, 67, 68, 69, 70, 71, 72, 73, 74, 75, 76] (by decide +kernel) (by decide +kernel)
set_option maxRecDepth 20000 in
theorem gX6_waits_X4_standby : GoodIn wsX6_waits (wsV RX6 95 RX4 yX4_standby wsX4_standby) := goodIn_app (goodIn_of _ (by decide +kernel)) ggX6_waits_X4_standby
set_option maxRecDepth 20000 in
theorem ggX6_waits_X4_ticksUntil : GoodIn wsX6_waits wsX4_ticksUntil := goodIn_r _ [25, 26, 27, 28, 29, 30, 31, 32, 12, 33, 34, 35, 14, 36, 37, 38, 39, 40, 41, 42, 43, 44, 45, 46, 47, 48, 49, 50, 51, 52, 53, 54, 61, 62, 63, 64, 65, 66, 67, 68, 69, 70, 71, 72, 73, 74, 75, 76, 77, 78, 79, 80, 81, 82] (by decide +kernel) (by decide +kernel)
set_option maxRecDepth 20000 in
theorem gX6_waits_X4_ticksUntil : GoodIn wsX6_waits (wsV RX6 188 RX4 yX4_ticksUntil wsX4_ticksUntil) := goodIn_app (goodIn_of _ (by decide +kernel)) ggX6_waits_X4_ticksUntil
theorem dX6_waits_0 : decode cX6_waits 0 = .ok (.iload_n 1, 1) := by decide +kernel
theorem dX6_waits_1 : decode cX6_waits 1 = .ok (.invokestatic 84, 3) := by decide +kernel
theorem dX6_waits_4 : decode cX6_waits 4 = .ok (.ifCond .eq 14, 3) := by decide +kernel
theorem dX6_waits_7 : decode cX6_waits 7 = .ok (.aload_n 0, 1) := by decide +kernel
theorem dX6_waits_8 : decode cX6_waits 8 = .ok (.getfield 10, 3) := by decide +kernel
theorem dX6_waits_11 : decode cX6_waits 11 = .ok (.iload_n 2, 1) := by decide +kernel
theorem dX6_waits_12 : decode cX6_waits 12 = .ok (.invokevirtual 91, 3) := by decide +kernel
theorem dX6_waits_15 : decode cX6_waits 15 = .ok (.ifCond .ne 6, 3) := by decide +kernel
theorem dX6_waits_18 : decode cX6_waits 18 = .ok (.ldc 94, 2) := by decide +kernel
theorem dX6_waits_20 : decode cX6_waits 20 = .ok (.ireturn, 1) := by decide +kernel
theorem dX6_waits_21 : decode cX6_waits 21 = .ok (.aload_n 0, 1) := by decide +kernel
theorem dX6_waits_22 : decode cX6_waits 22 = .ok (.getfield 10, 3) := by decide +kernel
theorem dX6_waits_25 : decode cX6_waits 25 = .ok (.iload_n 1, 1) := by decide +kernel
theorem dX6_waits_26 : decode cX6_waits 26 = .ok (.invokevirtual 95, 3) := by decide +kernel
theorem dX6_waits_29 : decode cX6_waits 29 = .ok (.astore_n 3, 1) := by decide +kernel
theorem dX6_waits_30 : decode cX6_waits 30 = .ok (.aload_n 3, 1) := by decide +kernel
theorem dX6_waits_31 : decode cX6_waits 31 = .ok (.getfield 172, 3) := by decide +kernel
theorem dX6_waits_34 : decode cX6_waits 34 = .ok (.ifCond .eq 8, 3) := by decide +kernel
theorem dX6_waits_37 : decode cX6_waits 37 = .ok (.ldc 104, 2) := by decide +kernel
theorem dX6_waits_39 : decode cX6_waits 39 = .ok (.goto 12, 3) := by decide +kernel
theorem dX6_waits_42 : decode cX6_waits 42 = .ok (.aload_n 0, 1) := by decide +kernel
theorem dX6_waits_43 : decode cX6_waits 43 = .ok (.getfield 10, 3) := by decide +kernel
theorem dX6_waits_46 : decode cX6_waits 46 = .ok (.aload_n 3, 1) := by decide +kernel
theorem dX6_waits_47 : decode cX6_waits 47 = .ok (.iload_n 2, 1) := by decide +kernel
theorem dX6_waits_48 : decode cX6_waits 48 = .ok (.invokevirtual 188, 3) := by decide +kernel
theorem dX6_waits_51 : decode cX6_waits 51 = .ok (.ireturn, 1) := by decide +kernel
set_option maxRecDepth 20000 in
theorem ggX6_wouldLose_X6_isStandby : GoodIn wsX6_wouldLose wsX6_isStandby := goodIn_r _ [10] (by decide +kernel) (by decide +kernel)
set_option maxRecDepth 20000 in
theorem gX6_wouldLose_X6_isStandby : GoodIn wsX6_wouldLose (va_wsS RX6 84 yX6_isStandby wsX6_isStandby) := goodIn_app (goodIn_of _ (by decide +kernel)) ggX6_wouldLose_X6_isStandby
set_option maxRecDepth 20000 in
theorem ggX6_wouldLose_X4_standby : GoodIn wsX6_wouldLose wsX4_standby := goodIn_r _ [15, 16, 17, 44, 45, 46, 47, 48, 49, 50, 51, 52, 53, 54, 55] (by decide +kernel) (by decide +kernel)
set_option maxRecDepth 20000 in
theorem gX6_wouldLose_X4_standby : GoodIn wsX6_wouldLose (wsV RX6 95 RX4 yX4_standby wsX4_standby) := goodIn_app (goodIn_of _ (by decide +kernel)) ggX6_wouldLose_X4_standby
set_option maxRecDepth 20000 in
theorem ggX6_wouldLose_X1_commitsBehind : GoodIn wsX6_wouldLose wsX1_commitsBehind := goodIn_r _ [22, 23, 24, 25, 26, 21, 27, 28, 29, 30, 31, 32, 33, 56, 57, 58, 59, 60, 61] (by decide +kernel) (by decide +kernel)
set_option maxRecDepth 20000 in
theorem gX6_wouldLose_X1_commitsBehind : GoodIn wsX6_wouldLose (wsV RX6 176 RX1 yX1_commitsBehind wsX1_commitsBehind) := goodIn_app (goodIn_of _ (by decide +kernel)) ggX6_wouldLose_X1_commitsBehind
theorem dX6_wouldLose_0 : decode cX6_wouldLose 0 = .ok (.iload_n 1, 1) := by decide +kernel
theorem dX6_wouldLose_1 : decode cX6_wouldLose 1 = .ok (.invokestatic 84, 3) := by decide +kernel
theorem dX6_wouldLose_4 : decode cX6_wouldLose 4 = .ok (.ifCond .ne 6, 3) := by decide +kernel
theorem dX6_wouldLose_7 : decode cX6_wouldLose 7 = .ok (.ldc 94, 2) := by decide +kernel
theorem dX6_wouldLose_9 : decode cX6_wouldLose 9 = .ok (.ireturn, 1) := by decide +kernel
theorem dX6_wouldLose_10 : decode cX6_wouldLose 10 = .ok (.aload_n 0, 1) := by decide +kernel
theorem dX6_wouldLose_11 : decode cX6_wouldLose 11 = .ok (.getfield 10, 3) := by decide +kernel
theorem dX6_wouldLose_14 : decode cX6_wouldLose 14 = .ok (.iload_n 1, 1) := by decide +kernel
theorem dX6_wouldLose_15 : decode cX6_wouldLose 15 = .ok (.invokevirtual 95, 3) := by decide +kernel
theorem dX6_wouldLose_18 : decode cX6_wouldLose 18 = .ok (.astore_n 2, 1) := by decide +kernel
theorem dX6_wouldLose_19 : decode cX6_wouldLose 19 = .ok (.aload_n 2, 1) := by decide +kernel
theorem dX6_wouldLose_20 : decode cX6_wouldLose 20 = .ok (.getfield 172, 3) := by decide +kernel
theorem dX6_wouldLose_23 : decode cX6_wouldLose 23 = .ok (.ifCond .eq 8, 3) := by decide +kernel
theorem dX6_wouldLose_26 : decode cX6_wouldLose 26 = .ok (.ldc 104, 2) := by decide +kernel
theorem dX6_wouldLose_28 : decode cX6_wouldLose 28 = .ok (.goto 17, 3) := by decide +kernel
theorem dX6_wouldLose_31 : decode cX6_wouldLose 31 = .ok (.aload_n 0, 1) := by decide +kernel
theorem dX6_wouldLose_32 : decode cX6_wouldLose 32 = .ok (.getfield 10, 3) := by decide +kernel
theorem dX6_wouldLose_35 : decode cX6_wouldLose 35 = .ok (.getfield 105, 3) := by decide +kernel
theorem dX6_wouldLose_38 : decode cX6_wouldLose 38 = .ok (.aload_n 2, 1) := by decide +kernel
theorem dX6_wouldLose_39 : decode cX6_wouldLose 39 = .ok (.getfield 109, 3) := by decide +kernel
theorem dX6_wouldLose_42 : decode cX6_wouldLose 42 = .ok (.invokevirtual 176, 3) := by decide +kernel
theorem dX6_wouldLose_45 : decode cX6_wouldLose 45 = .ok (.ireturn, 1) := by decide +kernel
set_option maxRecDepth 20000 in
theorem ggX6_rateFor_X6_isStandby : GoodIn wsX6_rateFor wsX6_isStandby := goodIn_r _ [8] (by decide +kernel) (by decide +kernel)
set_option maxRecDepth 20000 in
theorem gX6_rateFor_X6_isStandby : GoodIn wsX6_rateFor (va_wsS RX6 84 yX6_isStandby wsX6_isStandby) := goodIn_app (goodIn_of _ (by decide +kernel)) ggX6_rateFor_X6_isStandby
set_option maxRecDepth 20000 in
theorem ggX6_rateFor_X6_isTicks : GoodIn wsX6_rateFor wsX6_isTicks := goodIn_r _ [11] (by decide +kernel) (by decide +kernel)
set_option maxRecDepth 20000 in
theorem gX6_rateFor_X6_isTicks : GoodIn wsX6_rateFor (va_wsS RX6 192 yX6_isTicks wsX6_isTicks) := goodIn_app (goodIn_of _ (by decide +kernel)) ggX6_rateFor_X6_isTicks
set_option maxRecDepth 20000 in
theorem ggX6_rateFor_X4_standby : GoodIn wsX6_rateFor wsX4_standby := goodIn_r _ [16, 17, 18, 75, 76, 77, 78, 79, 80, 81, 82, 83, 84, 85, 86] (by decide +kernel) (by decide +kernel)
set_option maxRecDepth 20000 in
theorem gX6_rateFor_X4_standby : GoodIn wsX6_rateFor (wsV RX6 95 RX4 yX4_standby wsX4_standby) := goodIn_app (goodIn_of _ (by decide +kernel)) ggX6_rateFor_X4_standby
set_option maxRecDepth 20000 in
theorem ggX6_rateFor_X4_leastRate : GoodIn wsX6_rateFor wsX4_leastRate := goodIn_r _ [22, 23, 24, 25, 26, 27, 28, 29, 30, 31, 32, 33, 34, 35, 36, 37, 15, 38, 39, 40, 41, 42, 43, 44, 45, 46, 47, 48, 49, 50, 51, 52, 53, 54, 55, 56, 57, 58, 59, 60, 61, 62, 63, 64, 71, 72, 73, 74, 75, 76, 77, 78, 79, 80, 81, 82, 83, 84, 85, 86, 87, 88, 89, 90, 91, 92] (by decide +kernel) (by decide +kernel)
set_option maxRecDepth 20000 in
theorem gX6_rateFor_X4_leastRate : GoodIn wsX6_rateFor (wsV RX6 195 RX4 yX4_leastRate wsX4_leastRate) := goodIn_app (goodIn_of _ (by decide +kernel)) ggX6_rateFor_X4_leastRate
theorem dX6_rateFor_0 : decode cX6_rateFor 0 = .ok (.iload_n 1, 1) := by decide +kernel
theorem dX6_rateFor_1 : decode cX6_rateFor 1 = .ok (.invokestatic 84, 3) := by decide +kernel
theorem dX6_rateFor_4 : decode cX6_rateFor 4 = .ok (.ifCond .eq 10, 3) := by decide +kernel
theorem dX6_rateFor_7 : decode cX6_rateFor 7 = .ok (.iload_n 2, 1) := by decide +kernel
theorem dX6_rateFor_8 : decode cX6_rateFor 8 = .ok (.invokestatic 192, 3) := by decide +kernel
theorem dX6_rateFor_11 : decode cX6_rateFor 11 = .ok (.ifCond .ne 6, 3) := by decide +kernel
theorem dX6_rateFor_14 : decode cX6_rateFor 14 = .ok (.ldc 94, 2) := by decide +kernel
theorem dX6_rateFor_16 : decode cX6_rateFor 16 = .ok (.ireturn, 1) := by decide +kernel
theorem dX6_rateFor_17 : decode cX6_rateFor 17 = .ok (.aload_n 0, 1) := by decide +kernel
theorem dX6_rateFor_18 : decode cX6_rateFor 18 = .ok (.getfield 10, 3) := by decide +kernel
theorem dX6_rateFor_21 : decode cX6_rateFor 21 = .ok (.iload_n 1, 1) := by decide +kernel
theorem dX6_rateFor_22 : decode cX6_rateFor 22 = .ok (.invokevirtual 95, 3) := by decide +kernel
theorem dX6_rateFor_25 : decode cX6_rateFor 25 = .ok (.astore_n 3, 1) := by decide +kernel
theorem dX6_rateFor_26 : decode cX6_rateFor 26 = .ok (.aload_n 3, 1) := by decide +kernel
theorem dX6_rateFor_27 : decode cX6_rateFor 27 = .ok (.getfield 172, 3) := by decide +kernel
theorem dX6_rateFor_30 : decode cX6_rateFor 30 = .ok (.ifCond .eq 8, 3) := by decide +kernel
theorem dX6_rateFor_33 : decode cX6_rateFor 33 = .ok (.ldc 104, 2) := by decide +kernel
theorem dX6_rateFor_35 : decode cX6_rateFor 35 = .ok (.goto 12, 3) := by decide +kernel
theorem dX6_rateFor_38 : decode cX6_rateFor 38 = .ok (.aload_n 0, 1) := by decide +kernel
theorem dX6_rateFor_39 : decode cX6_rateFor 39 = .ok (.getfield 10, 3) := by decide +kernel
theorem dX6_rateFor_42 : decode cX6_rateFor 42 = .ok (.aload_n 3, 1) := by decide +kernel
theorem dX6_rateFor_43 : decode cX6_rateFor 43 = .ok (.iload_n 2, 1) := by decide +kernel
theorem dX6_rateFor_44 : decode cX6_rateFor 44 = .ok (.invokevirtual 195, 3) := by decide +kernel
theorem dX6_rateFor_47 : decode cX6_rateFor 47 = .ok (.ireturn, 1) := by decide +kernel
set_option maxRecDepth 20000 in
theorem ggX6_count_X1_commitsBehind : GoodIn wsX6_count wsX1_commitsBehind := goodIn_r _ [21, 22, 23, 24, 25, 20, 26, 27, 28, 29, 30, 31, 32, 51, 52, 53, 54, 55, 56] (by decide +kernel) (by decide +kernel)
set_option maxRecDepth 20000 in
theorem gX6_count_X1_commitsBehind : GoodIn wsX6_count (wsV RX6 176 RX1 yX1_commitsBehind wsX1_commitsBehind) := goodIn_app (goodIn_of _ (by decide +kernel)) ggX6_count_X1_commitsBehind
theorem dX6_count_0 : decode cX6_count 0 = .ok (.iload_n 1, 1) := by decide +kernel
theorem dX6_count_1 : decode cX6_count 1 = .ok (.tableswitch 206 0 21 #[103, 114, 122, 130, 138, 150, 158, 166, 174, 182, 206, 206, 206, 206, 206, 206, 206, 206, 206, 206, 190, 198], 103) := by decide +kernel
theorem dX6_count_104 : decode cX6_count 104 = .ok (.aload_n 0, 1) := by decide +kernel
theorem dX6_count_105 : decode cX6_count 105 = .ok (.getfield 10, 3) := by decide +kernel
theorem dX6_count_108 : decode cX6_count 108 = .ok (.getfield 105, 3) := by decide +kernel
theorem dX6_count_111 : decode cX6_count 111 = .ok (.getfield 121, 3) := by decide +kernel
theorem dX6_count_114 : decode cX6_count 114 = .ok (.ireturn, 1) := by decide +kernel
theorem dX6_count_115 : decode cX6_count 115 = .ok (.aload_n 0, 1) := by decide +kernel
theorem dX6_count_116 : decode cX6_count 116 = .ok (.getfield 10, 3) := by decide +kernel
theorem dX6_count_119 : decode cX6_count 119 = .ok (.getfield 179, 3) := by decide +kernel
theorem dX6_count_122 : decode cX6_count 122 = .ok (.ireturn, 1) := by decide +kernel
theorem dX6_count_123 : decode cX6_count 123 = .ok (.aload_n 0, 1) := by decide +kernel
theorem dX6_count_124 : decode cX6_count 124 = .ok (.getfield 10, 3) := by decide +kernel
theorem dX6_count_127 : decode cX6_count 127 = .ok (.getfield 198, 3) := by decide +kernel
theorem dX6_count_130 : decode cX6_count 130 = .ok (.ireturn, 1) := by decide +kernel
theorem dX6_count_131 : decode cX6_count 131 = .ok (.aload_n 0, 1) := by decide +kernel
theorem dX6_count_132 : decode cX6_count 132 = .ok (.getfield 10, 3) := by decide +kernel
theorem dX6_count_135 : decode cX6_count 135 = .ok (.getfield 201, 3) := by decide +kernel
theorem dX6_count_138 : decode cX6_count 138 = .ok (.ireturn, 1) := by decide +kernel
theorem dX6_count_139 : decode cX6_count 139 = .ok (.aload_n 0, 1) := by decide +kernel
theorem dX6_count_140 : decode cX6_count 140 = .ok (.getfield 10, 3) := by decide +kernel
theorem dX6_count_143 : decode cX6_count 143 = .ok (.getfield 105, 3) := by decide +kernel
theorem dX6_count_146 : decode cX6_count 146 = .ok (.iconst 0, 1) := by decide +kernel
theorem dX6_count_147 : decode cX6_count 147 = .ok (.invokevirtual 176, 3) := by decide +kernel
theorem dX6_count_150 : decode cX6_count 150 = .ok (.ireturn, 1) := by decide +kernel
theorem dX6_count_151 : decode cX6_count 151 = .ok (.aload_n 0, 1) := by decide +kernel
theorem dX6_count_152 : decode cX6_count 152 = .ok (.getfield 10, 3) := by decide +kernel
theorem dX6_count_155 : decode cX6_count 155 = .ok (.getfield 204, 3) := by decide +kernel
theorem dX6_count_158 : decode cX6_count 158 = .ok (.ireturn, 1) := by decide +kernel
theorem dX6_count_159 : decode cX6_count 159 = .ok (.aload_n 0, 1) := by decide +kernel
theorem dX6_count_160 : decode cX6_count 160 = .ok (.getfield 10, 3) := by decide +kernel
theorem dX6_count_163 : decode cX6_count 163 = .ok (.getfield 207, 3) := by decide +kernel
theorem dX6_count_166 : decode cX6_count 166 = .ok (.ireturn, 1) := by decide +kernel
theorem dX6_count_167 : decode cX6_count 167 = .ok (.aload_n 0, 1) := by decide +kernel
theorem dX6_count_168 : decode cX6_count 168 = .ok (.getfield 10, 3) := by decide +kernel
theorem dX6_count_171 : decode cX6_count 171 = .ok (.getfield 210, 3) := by decide +kernel
theorem dX6_count_174 : decode cX6_count 174 = .ok (.ireturn, 1) := by decide +kernel
theorem dX6_count_175 : decode cX6_count 175 = .ok (.aload_n 0, 1) := by decide +kernel
theorem dX6_count_176 : decode cX6_count 176 = .ok (.getfield 19, 3) := by decide +kernel
theorem dX6_count_179 : decode cX6_count 179 = .ok (.getfield 213, 3) := by decide +kernel
theorem dX6_count_182 : decode cX6_count 182 = .ok (.ireturn, 1) := by decide +kernel
theorem dX6_count_183 : decode cX6_count 183 = .ok (.aload_n 0, 1) := by decide +kernel
theorem dX6_count_184 : decode cX6_count 184 = .ok (.getfield 26, 3) := by decide +kernel
theorem dX6_count_187 : decode cX6_count 187 = .ok (.getfield 214, 3) := by decide +kernel
theorem dX6_count_190 : decode cX6_count 190 = .ok (.ireturn, 1) := by decide +kernel
theorem dX6_count_191 : decode cX6_count 191 = .ok (.aload_n 0, 1) := by decide +kernel
theorem dX6_count_192 : decode cX6_count 192 = .ok (.getfield 10, 3) := by decide +kernel
theorem dX6_count_195 : decode cX6_count 195 = .ok (.getfield 217, 3) := by decide +kernel
theorem dX6_count_198 : decode cX6_count 198 = .ok (.ireturn, 1) := by decide +kernel
theorem dX6_count_199 : decode cX6_count 199 = .ok (.aload_n 0, 1) := by decide +kernel
theorem dX6_count_200 : decode cX6_count 200 = .ok (.getfield 10, 3) := by decide +kernel
theorem dX6_count_203 : decode cX6_count 203 = .ok (.getfield 220, 3) := by decide +kernel
theorem dX6_count_206 : decode cX6_count 206 = .ok (.ireturn, 1) := by decide +kernel
theorem dX6_count_207 : decode cX6_count 207 = .ok (.ldc 94, 2) := by decide +kernel
theorem dX6_count_209 : decode cX6_count 209 = .ok (.ireturn, 1) := by decide +kernel
set_option maxRecDepth 20000 in
theorem ggX6_undo_X0_restore : GoodIn wsX6_undo wsX0_restore := goodIn_r _ [9, 10, 11, 12, 13, 14, 15, 16, 17, 18, 19, 20, 21, 22, 23, 24, 25, 26, 27, 28, 29, 30, 31, 32, 33, 34, 35, 36, 37, 38, 39, 40, 41, 42, 43, 44, 45, 46, 47, 48, 49, 50, 51, 52, 53, 54, 55, 56, 57, 58, 59, 60, 67, 68, 69, 70, 71, 72, 73, 74, 75, 76, 77, 78, 79, 80, 81, 82, 83, 84, 85, 86, 87, 88, 89, 90] (by decide +kernel) (by decide +kernel)
set_option maxRecDepth 20000 in
theorem gX6_undo_X0_restore : GoodIn wsX6_undo (wsV RX6 223 RX0 yX0_restore wsX0_restore) := goodIn_app (goodIn_of _ (by decide +kernel)) ggX6_undo_X0_restore
theorem dX6_undo_0 : decode cX6_undo 0 = .ok (.aload_n 0, 1) := by decide +kernel
theorem dX6_undo_1 : decode cX6_undo 1 = .ok (.getfield 19, 3) := by decide +kernel
theorem dX6_undo_4 : decode cX6_undo 4 = .ok (.aload_n 0, 1) := by decide +kernel
theorem dX6_undo_5 : decode cX6_undo 5 = .ok (.getfield 10, 3) := by decide +kernel
theorem dX6_undo_8 : decode cX6_undo 8 = .ok (.invokevirtual 223, 3) := by decide +kernel
theorem dX6_undo_11 : decode cX6_undo 11 = .ok (.ifCond .eq 13, 3) := by decide +kernel
theorem dX6_undo_14 : decode cX6_undo 14 = .ok (.aload_n 0, 1) := by decide +kernel
theorem dX6_undo_15 : decode cX6_undo 15 = .ok (.getfield 19, 3) := by decide +kernel
theorem dX6_undo_18 : decode cX6_undo 18 = .ok (.getfield 213, 3) := by decide +kernel
theorem dX6_undo_21 : decode cX6_undo 21 = .ok (.goto 5, 3) := by decide +kernel
theorem dX6_undo_24 : decode cX6_undo 24 = .ok (.ldc 104, 2) := by decide +kernel
theorem dX6_undo_26 : decode cX6_undo 26 = .ok (.ireturn, 1) := by decide +kernel
set_option maxRecDepth 20000 in
theorem ggX6_type_X2_append : GoodIn wsX6_type wsX2_append := goodIn_r _ [9, 10, 11, 18, 19, 20, 21, 22, 23] (by decide +kernel) (by decide +kernel)
set_option maxRecDepth 20000 in
theorem gX6_type_X2_append : GoodIn wsX6_type (wsV RX6 227 RX2 yX2_append wsX2_append) := goodIn_app (goodIn_of _ (by decide +kernel)) ggX6_type_X2_append
theorem dX6_type_0 : decode cX6_type 0 = .ok (.iload_n 1, 1) := by decide +kernel
theorem dX6_type_1 : decode cX6_type 1 = .ok (.bipush 32, 2) := by decide +kernel
theorem dX6_type_3 : decode cX6_type 3 = .ok (.if_icmp .lt 9, 3) := by decide +kernel
theorem dX6_type_6 : decode cX6_type 6 = .ok (.iload_n 1, 1) := by decide +kernel
theorem dX6_type_7 : decode cX6_type 7 = .ok (.bipush 126, 2) := by decide +kernel
theorem dX6_type_9 : decode cX6_type 9 = .ok (.if_icmp .le 6, 3) := by decide +kernel
theorem dX6_type_12 : decode cX6_type 12 = .ok (.ldc 94, 2) := by decide +kernel
theorem dX6_type_14 : decode cX6_type 14 = .ok (.ireturn, 1) := by decide +kernel
theorem dX6_type_15 : decode cX6_type 15 = .ok (.aload_n 0, 1) := by decide +kernel
theorem dX6_type_16 : decode cX6_type 16 = .ok (.getfield 26, 3) := by decide +kernel
theorem dX6_type_19 : decode cX6_type 19 = .ok (.iload_n 1, 1) := by decide +kernel
theorem dX6_type_20 : decode cX6_type 20 = .ok (.i2c, 1) := by decide +kernel
theorem dX6_type_21 : decode cX6_type 21 = .ok (.invokevirtual 227, 3) := by decide +kernel
theorem dX6_type_24 : decode cX6_type 24 = .ok (.ifCond .eq 13, 3) := by decide +kernel
theorem dX6_type_27 : decode cX6_type 27 = .ok (.aload_n 0, 1) := by decide +kernel
theorem dX6_type_28 : decode cX6_type 28 = .ok (.getfield 26, 3) := by decide +kernel
theorem dX6_type_31 : decode cX6_type 31 = .ok (.getfield 214, 3) := by decide +kernel
theorem dX6_type_34 : decode cX6_type 34 = .ok (.goto 5, 3) := by decide +kernel
theorem dX6_type_37 : decode cX6_type 37 = .ok (.ldc 231, 2) := by decide +kernel
theorem dX6_type_39 : decode cX6_type 39 = .ok (.ireturn, 1) := by decide +kernel
theorem dX6_clearText_0 : decode cX6_clearText 0 = .ok (.aload_n 0, 1) := by decide +kernel
theorem dX6_clearText_1 : decode cX6_clearText 1 = .ok (.getfield 26, 3) := by decide +kernel
theorem dX6_clearText_4 : decode cX6_clearText 4 = .ok (.getfield 214, 3) := by decide +kernel
theorem dX6_clearText_7 : decode cX6_clearText 7 = .ok (.istore_n 1, 1) := by decide +kernel
theorem dX6_clearText_8 : decode cX6_clearText 8 = .ok (.aload_n 0, 1) := by decide +kernel
theorem dX6_clearText_9 : decode cX6_clearText 9 = .ok (.getfield 26, 3) := by decide +kernel
theorem dX6_clearText_12 : decode cX6_clearText 12 = .ok (.iconst 0, 1) := by decide +kernel
theorem dX6_clearText_13 : decode cX6_clearText 13 = .ok (.putfield 214, 3) := by decide +kernel
theorem dX6_clearText_16 : decode cX6_clearText 16 = .ok (.iload_n 1, 1) := by decide +kernel
theorem dX6_clearText_17 : decode cX6_clearText 17 = .ok (.ireturn, 1) := by decide +kernel
set_option maxRecDepth 20000 in
theorem ggX6_fault_X5_run : GoodIn wsX6_fault wsX5_run := goodIn_r _ [13, 14, 15, 16, 17, 18, 19, 20, 21, 22, 23, 24, 25, 26, 27, 28, 29, 30, 31, 32, 33, 34, 35, 36, 37, 38, 39, 40, 41, 42, 43, 44, 45, 46, 47, 48, 49, 50, 51, 52, 53, 54, 55, 56, 57, 58, 59, 60, 61, 62, 63, 64, 65, 66, 67, 68, 69, 70, 71, 72, 73, 74, 75, 76, 77, 78, 79, 80, 81, 82, 83, 84, 85, 86, 87, 88, 89, 90, 91, 92, 93, 94, 95, 96, 97, 98, 99, 100, 101, 102, 103, 104, 105, 106, 107, 108, 109, 110, 111, 112, 113, 114, 115, 116, 117, 118, 119, 120, 121, 122, 123, 124, 125, 126, 127, 128, 129, 130, 131, 132, 133, 134, 135, 136, 137, 138, 139, 140, 141, 142, 143, 144, 145, 146, 147, 148, 149, 150, 151, 152, 153, 154, 12, 155, 156, 157, 158, 159, 160, 161, 162, 163, 164, 165, 166, 167, 168, 169, 170, 171, 172, 173, 174, 175, 176, 177, 178, 179, 180, 181, 182, 183, 184, 185, 186, 187, 188, 189, 190, 191, 192, 193, 194, 195, 196, 197, 198, 199, 200, 201, 202, 203, 204, 205, 206, 207, 208, 209, 210, 211, 212, 213, 214, 215, 216, 217, 218, 219, 220, 221, 222, 223, 224, 225, 226, 233, 234, 235, 236, 237, 238, 239, 240, 241, 242, 243, 244, 245, 246, 247, 248, 249, 250, 251, 252, 253, 254, 255, 256, 257, 258, 259, 260, 261, 262, 263, 264, 265] (by decide +kernel) (by decide +kernel)
set_option maxRecDepth 20000 in
theorem gX6_fault_X5_run : GoodIn wsX6_fault (wsV RX6 232 RX5 yX5_run wsX5_run) := goodIn_app (goodIn_of _ (by decide +kernel)) ggX6_fault_X5_run
theorem dX6_fault_0 : decode cX6_fault 0 = .ok (.iload_n 1, 1) := by decide +kernel
theorem dX6_fault_1 : decode cX6_fault 1 = .ok (.ifCond .lt 8, 3) := by decide +kernel
theorem dX6_fault_4 : decode cX6_fault 4 = .ok (.iload_n 1, 1) := by decide +kernel
theorem dX6_fault_5 : decode cX6_fault 5 = .ok (.iconst 2, 1) := by decide +kernel
theorem dX6_fault_6 : decode cX6_fault 6 = .ok (.if_icmp .le 6, 3) := by decide +kernel
theorem dX6_fault_9 : decode cX6_fault 9 = .ok (.ldc 94, 2) := by decide +kernel
theorem dX6_fault_11 : decode cX6_fault 11 = .ok (.ireturn, 1) := by decide +kernel
theorem dX6_fault_12 : decode cX6_fault 12 = .ok (.aload_n 0, 1) := by decide +kernel
theorem dX6_fault_13 : decode cX6_fault 13 = .ok (.getfield 33, 3) := by decide +kernel
theorem dX6_fault_16 : decode cX6_fault 16 = .ok (.aload_n 0, 1) := by decide +kernel
theorem dX6_fault_17 : decode cX6_fault 17 = .ok (.getfield 26, 3) := by decide +kernel
theorem dX6_fault_20 : decode cX6_fault 20 = .ok (.aload_n 0, 1) := by decide +kernel
theorem dX6_fault_21 : decode cX6_fault 21 = .ok (.getfield 10, 3) := by decide +kernel
theorem dX6_fault_24 : decode cX6_fault 24 = .ok (.invokevirtual 232, 3) := by decide +kernel
theorem dX6_fault_27 : decode cX6_fault 27 = .ok (.aload_n 0, 1) := by decide +kernel
theorem dX6_fault_28 : decode cX6_fault 28 = .ok (.getfield 33, 3) := by decide +kernel
theorem dX6_fault_31 : decode cX6_fault 31 = .ok (.getfield 236, 3) := by decide +kernel
theorem dX6_fault_34 : decode cX6_fault 34 = .ok (.ifCond .ne 6, 3) := by decide +kernel
theorem dX6_fault_37 : decode cX6_fault 37 = .ok (.ldc 140, 2) := by decide +kernel
theorem dX6_fault_39 : decode cX6_fault 39 = .ok (.ireturn, 1) := by decide +kernel
theorem dX6_fault_40 : decode cX6_fault 40 = .ok (.iload_n 1, 1) := by decide +kernel
theorem dX6_fault_41 : decode cX6_fault 41 = .ok (.lookupswitch 43 #[(0, 27), (1, 35)], 27) := by decide +kernel
theorem dX6_fault_68 : decode cX6_fault 68 = .ok (.aload_n 0, 1) := by decide +kernel
theorem dX6_fault_69 : decode cX6_fault 69 = .ok (.getfield 33, 3) := by decide +kernel
theorem dX6_fault_72 : decode cX6_fault 72 = .ok (.getfield 239, 3) := by decide +kernel
theorem dX6_fault_75 : decode cX6_fault 75 = .ok (.ireturn, 1) := by decide +kernel
theorem dX6_fault_76 : decode cX6_fault 76 = .ok (.aload_n 0, 1) := by decide +kernel
theorem dX6_fault_77 : decode cX6_fault 77 = .ok (.getfield 33, 3) := by decide +kernel
theorem dX6_fault_80 : decode cX6_fault 80 = .ok (.getfield 236, 3) := by decide +kernel
theorem dX6_fault_83 : decode cX6_fault 83 = .ok (.ireturn, 1) := by decide +kernel
theorem dX6_fault_84 : decode cX6_fault 84 = .ok (.aload_n 0, 1) := by decide +kernel
theorem dX6_fault_85 : decode cX6_fault 85 = .ok (.getfield 33, 3) := by decide +kernel
theorem dX6_fault_88 : decode cX6_fault 88 = .ok (.getfield 242, 3) := by decide +kernel
theorem dX6_fault_91 : decode cX6_fault 91 = .ok (.ireturn, 1) := by decide +kernel
set_option maxRecDepth 20000 in
theorem ggX6_play_X5_run : GoodIn wsX6_play wsX5_run := goodIn_r _ [13, 14, 15, 16, 17, 18, 19, 20, 21, 22, 23, 24, 25, 26, 27, 28, 29, 30, 31, 32, 33, 34, 35, 36, 37, 38, 39, 40, 41, 42, 43, 44, 45, 46, 47, 48, 49, 50, 51, 52, 53, 54, 55, 56, 57, 58, 59, 60, 61, 62, 63, 64, 65, 66, 67, 68, 69, 70, 71, 72, 73, 74, 75, 76, 77, 78, 79, 80, 81, 82, 83, 84, 85, 86, 87, 88, 89, 90, 91, 92, 93, 94, 95, 96, 97, 98, 99, 100, 101, 102, 103, 104, 105, 106, 107, 108, 109, 110, 111, 112, 113, 114, 115, 116, 117, 118, 119, 120, 121, 122, 123, 124, 125, 126, 127, 128, 129, 130, 131, 132, 133, 134, 135, 136, 137, 138, 139, 140, 141, 142, 143, 144, 145, 146, 147, 148, 149, 150, 151, 152, 153, 154, 12, 155, 156, 157, 158, 159, 160, 161, 162, 163, 164, 165, 166, 167, 168, 169, 170, 171, 172, 173, 174, 175, 176, 177, 178, 179, 180, 181, 182, 183, 184, 185, 186, 187, 188, 189, 190, 191, 192, 193, 194, 195, 196, 197, 198, 199, 200, 201, 202, 203, 204, 205, 206, 207, 208, 209, 210, 211, 212, 213, 214, 215, 216, 217, 218, 219, 220, 221, 222, 223, 224, 225, 226, 250, 251, 252, 253, 254, 255, 256, 257, 258, 259, 260, 261, 262, 263, 264, 265, 266, 267, 268, 269, 270, 271, 272, 273, 274, 275, 276, 277, 278, 279, 280, 281, 282] (by decide +kernel) (by decide +kernel)
set_option maxRecDepth 20000 in
theorem gX6_play_X5_run : GoodIn wsX6_play (wsV RX6 232 RX5 yX5_run wsX5_run) := goodIn_app (goodIn_of _ (by decide +kernel)) ggX6_play_X5_run
set_option maxRecDepth 20000 in
theorem ggX6_play_X0_prepare : GoodIn wsX6_play wsX0_prepare := goodIn_r _ [231, 232, 233, 234, 22, 23, 24, 25, 26, 27, 28, 29, 30, 31, 32, 33, 34, 35, 36, 37, 38, 39, 40, 41, 42, 43, 44, 45, 46, 47, 48, 49, 50, 51, 52, 53, 54, 55, 56, 57, 58, 59, 60, 61, 62, 63, 64, 65, 66, 67, 68, 69, 283, 284, 261, 262, 263, 264, 265, 266, 267, 268, 269, 270, 271, 272, 273, 274, 275, 276, 277, 278, 279, 280, 281, 282] (by decide +kernel) (by decide +kernel)
set_option maxRecDepth 20000 in
theorem gX6_play_X0_prepare : GoodIn wsX6_play (wsV RX6 44 RX0 yX0_prepare wsX0_prepare) := goodIn_app (goodIn_of _ (by decide +kernel)) ggX6_play_X0_prepare
set_option maxRecDepth 20000 in
theorem ggX6_play_X4_copyFrom : GoodIn wsX6_play wsX4_copyFrom := goodIn_r _ [25, 26, 27, 28, 29, 30, 31, 32, 33, 34, 35, 36, 37, 38, 39, 40, 41, 42, 43, 44, 45, 46, 47, 48, 49, 50, 51, 52, 53, 54, 55, 56, 57, 58, 59, 60, 61, 62, 63, 64, 65, 66, 67, 68, 69, 261, 262, 263, 264, 265, 266, 267, 268, 269, 270, 271, 272, 273, 274, 275, 276, 277, 278, 279, 280, 281, 282] (by decide +kernel) (by decide +kernel)
set_option maxRecDepth 20000 in
theorem gX6_play_X4_copyFrom : GoodIn wsX6_play (wsV RX6 246 RX4 yX4_copyFrom wsX4_copyFrom) := goodIn_app (goodIn_of _ (by decide +kernel)) ggX6_play_X4_copyFrom
set_option maxRecDepth 20000 in
theorem ggX6_play_X6_changed : GoodIn wsX6_play wsX6_changed := goodIn_r _ [239, 6, 240, 241, 242, 230, 243, 232, 233, 244, 245, 246, 247, 248, 249, 283, 284] (by decide +kernel) (by decide +kernel)
set_option maxRecDepth 20000 in
theorem gX6_play_X6_changed : GoodIn wsX6_play (wsV RX6 52 RX6 yX6_changed wsX6_changed) := goodIn_app (goodIn_of _ (by decide +kernel)) ggX6_play_X6_changed
theorem dX6_play_0 : decode cX6_play 0 = .ok (.aload_n 0, 1) := by decide +kernel
theorem dX6_play_1 : decode cX6_play 1 = .ok (.getfield 33, 3) := by decide +kernel
theorem dX6_play_4 : decode cX6_play 4 = .ok (.aload_n 0, 1) := by decide +kernel
theorem dX6_play_5 : decode cX6_play 5 = .ok (.getfield 26, 3) := by decide +kernel
theorem dX6_play_8 : decode cX6_play 8 = .ok (.aload_n 0, 1) := by decide +kernel
theorem dX6_play_9 : decode cX6_play 9 = .ok (.getfield 10, 3) := by decide +kernel
theorem dX6_play_12 : decode cX6_play 12 = .ok (.invokevirtual 232, 3) := by decide +kernel
theorem dX6_play_15 : decode cX6_play 15 = .ok (.aload_n 0, 1) := by decide +kernel
theorem dX6_play_16 : decode cX6_play 16 = .ok (.getfield 33, 3) := by decide +kernel
theorem dX6_play_19 : decode cX6_play 19 = .ok (.getfield 236, 3) := by decide +kernel
theorem dX6_play_22 : decode cX6_play 22 = .ok (.ifCond .eq 6, 3) := by decide +kernel
theorem dX6_play_25 : decode cX6_play 25 = .ok (.ldc 104, 2) := by decide +kernel
theorem dX6_play_27 : decode cX6_play 27 = .ok (.ireturn, 1) := by decide +kernel
theorem dX6_play_28 : decode cX6_play 28 = .ok (.aload_n 0, 1) := by decide +kernel
theorem dX6_play_29 : decode cX6_play 29 = .ok (.getfield 19, 3) := by decide +kernel
theorem dX6_play_32 : decode cX6_play 32 = .ok (.aload_n 0, 1) := by decide +kernel
theorem dX6_play_33 : decode cX6_play 33 = .ok (.getfield 10, 3) := by decide +kernel
theorem dX6_play_36 : decode cX6_play 36 = .ok (.invokevirtual 44, 3) := by decide +kernel
theorem dX6_play_39 : decode cX6_play 39 = .ok (.aload_n 0, 1) := by decide +kernel
theorem dX6_play_40 : decode cX6_play 40 = .ok (.getfield 10, 3) := by decide +kernel
theorem dX6_play_43 : decode cX6_play 43 = .ok (.aload_n 0, 1) := by decide +kernel
theorem dX6_play_44 : decode cX6_play 44 = .ok (.getfield 33, 3) := by decide +kernel
theorem dX6_play_47 : decode cX6_play 47 = .ok (.getfield 245, 3) := by decide +kernel
theorem dX6_play_50 : decode cX6_play 50 = .ok (.invokevirtual 246, 3) := by decide +kernel
theorem dX6_play_53 : decode cX6_play 53 = .ok (.aload_n 0, 1) := by decide +kernel
theorem dX6_play_54 : decode cX6_play 54 = .ok (.aload_n 0, 1) := by decide +kernel
theorem dX6_play_55 : decode cX6_play 55 = .ok (.getfield 33, 3) := by decide +kernel
theorem dX6_play_58 : decode cX6_play 58 = .ok (.getfield 249, 3) := by decide +kernel
theorem dX6_play_61 : decode cX6_play 61 = .ok (.invokevirtual 52, 3) := by decide +kernel
theorem dX6_play_64 : decode cX6_play 64 = .ok (.ireturn, 1) := by decide +kernel
set_option maxRecDepth 20000 in
theorem ggX6_changed_X0_keep : GoodIn wsX6_changed wsX0_keep := goodIn_r _ [6, 7, 8, 15, 16] (by decide +kernel) (by decide +kernel)
set_option maxRecDepth 20000 in
theorem gX6_changed_X0_keep : GoodIn wsX6_changed (wsV RX6 252 RX0 yX0_keep wsX0_keep) := goodIn_app (goodIn_of _ (by decide +kernel)) ggX6_changed_X0_keep
theorem dX6_changed_0 : decode cX6_changed 0 = .ok (.iload_n 1, 1) := by decide +kernel
theorem dX6_changed_1 : decode cX6_changed 1 = .ok (.ifCond .lt 10, 3) := by decide +kernel
theorem dX6_changed_4 : decode cX6_changed 4 = .ok (.aload_n 0, 1) := by decide +kernel
theorem dX6_changed_5 : decode cX6_changed 5 = .ok (.getfield 19, 3) := by decide +kernel
theorem dX6_changed_8 : decode cX6_changed 8 = .ok (.invokevirtual 252, 3) := by decide +kernel
theorem dX6_changed_11 : decode cX6_changed 11 = .ok (.iload_n 1, 1) := by decide +kernel
theorem dX6_changed_12 : decode cX6_changed 12 = .ok (.ireturn, 1) := by decide +kernel
set_option maxRecDepth 20000 in
theorem ggX6_keysNotAsAtEnd_X1_fillValues : GoodIn wsX6_keysNotAsAtEnd wsX1_fillValues := goodIn_r _ [10, 11, 12, 13, 9, 14, 15, 16, 17, 18, 19, 20, 21, 22, 23, 24, 25, 26, 27, 28, 29, 30, 31, 32, 33, 34, 35, 36, 37, 38, 39, 40, 41, 42, 43, 44, 45, 46, 47, 66, 67, 68, 69, 70, 71] (by decide +kernel) (by decide +kernel)
set_option maxRecDepth 20000 in
theorem gX6_keysNotAsAtEnd_X1_fillValues : GoodIn wsX6_keysNotAsAtEnd (wsV RX6 255 RX1 yX1_fillValues wsX1_fillValues) := goodIn_app (goodIn_of _ (by decide +kernel)) ggX6_keysNotAsAtEnd_X1_fillValues
theorem dX6_keysNotAsAtEnd_0 : decode cX6_keysNotAsAtEnd 0 = .ok (.aload_n 0, 1) := by decide +kernel
theorem dX6_keysNotAsAtEnd_1 : decode cX6_keysNotAsAtEnd 1 = .ok (.getfield 10, 3) := by decide +kernel
theorem dX6_keysNotAsAtEnd_4 : decode cX6_keysNotAsAtEnd 4 = .ok (.getfield 105, 3) := by decide +kernel
theorem dX6_keysNotAsAtEnd_7 : decode cX6_keysNotAsAtEnd 7 = .ok (.iload_n 1, 1) := by decide +kernel
theorem dX6_keysNotAsAtEnd_8 : decode cX6_keysNotAsAtEnd 8 = .ok (.aload_n 0, 1) := by decide +kernel
theorem dX6_keysNotAsAtEnd_9 : decode cX6_keysNotAsAtEnd 9 = .ok (.getfield 37, 3) := by decide +kernel
theorem dX6_keysNotAsAtEnd_12 : decode cX6_keysNotAsAtEnd 12 = .ok (.invokevirtual 255, 3) := by decide +kernel
theorem dX6_keysNotAsAtEnd_15 : decode cX6_keysNotAsAtEnd 15 = .ok (.aload_n 0, 1) := by decide +kernel
theorem dX6_keysNotAsAtEnd_16 : decode cX6_keysNotAsAtEnd 16 = .ok (.getfield 10, 3) := by decide +kernel
theorem dX6_keysNotAsAtEnd_19 : decode cX6_keysNotAsAtEnd 19 = .ok (.getfield 105, 3) := by decide +kernel
theorem dX6_keysNotAsAtEnd_22 : decode cX6_keysNotAsAtEnd 22 = .ok (.aload_n 0, 1) := by decide +kernel
theorem dX6_keysNotAsAtEnd_23 : decode cX6_keysNotAsAtEnd 23 = .ok (.getfield 10, 3) := by decide +kernel
theorem dX6_keysNotAsAtEnd_26 : decode cX6_keysNotAsAtEnd 26 = .ok (.getfield 105, 3) := by decide +kernel
theorem dX6_keysNotAsAtEnd_29 : decode cX6_keysNotAsAtEnd 29 = .ok (.getfield 121, 3) := by decide +kernel
theorem dX6_keysNotAsAtEnd_32 : decode cX6_keysNotAsAtEnd 32 = .ok (.aload_n 0, 1) := by decide +kernel
theorem dX6_keysNotAsAtEnd_33 : decode cX6_keysNotAsAtEnd 33 = .ok (.getfield 41, 3) := by decide +kernel
theorem dX6_keysNotAsAtEnd_36 : decode cX6_keysNotAsAtEnd 36 = .ok (.invokevirtual 255, 3) := by decide +kernel
theorem dX6_keysNotAsAtEnd_39 : decode cX6_keysNotAsAtEnd 39 = .ok (.iconst 0, 1) := by decide +kernel
theorem dX6_keysNotAsAtEnd_40 : decode cX6_keysNotAsAtEnd 40 = .ok (.istore_n 2, 1) := by decide +kernel
theorem dX6_keysNotAsAtEnd_41 : decode cX6_keysNotAsAtEnd 41 = .ok (.iconst 0, 1) := by decide +kernel
theorem dX6_keysNotAsAtEnd_42 : decode cX6_keysNotAsAtEnd 42 = .ok (.istore_n 3, 1) := by decide +kernel
theorem dX6_keysNotAsAtEnd_43 : decode cX6_keysNotAsAtEnd 43 = .ok (.iload_n 3, 1) := by decide +kernel
theorem dX6_keysNotAsAtEnd_44 : decode cX6_keysNotAsAtEnd 44 = .ok (.bipush 24, 2) := by decide +kernel
theorem dX6_keysNotAsAtEnd_46 : decode cX6_keysNotAsAtEnd 46 = .ok (.if_icmp .ge 27, 3) := by decide +kernel
theorem dX6_keysNotAsAtEnd_49 : decode cX6_keysNotAsAtEnd 49 = .ok (.aload_n 0, 1) := by decide +kernel
theorem dX6_keysNotAsAtEnd_50 : decode cX6_keysNotAsAtEnd 50 = .ok (.getfield 37, 3) := by decide +kernel
theorem dX6_keysNotAsAtEnd_53 : decode cX6_keysNotAsAtEnd 53 = .ok (.iload_n 3, 1) := by decide +kernel
theorem dX6_keysNotAsAtEnd_54 : decode cX6_keysNotAsAtEnd 54 = .ok (.iaload, 1) := by decide +kernel
theorem dX6_keysNotAsAtEnd_55 : decode cX6_keysNotAsAtEnd 55 = .ok (.aload_n 0, 1) := by decide +kernel
theorem dX6_keysNotAsAtEnd_56 : decode cX6_keysNotAsAtEnd 56 = .ok (.getfield 41, 3) := by decide +kernel
theorem dX6_keysNotAsAtEnd_59 : decode cX6_keysNotAsAtEnd 59 = .ok (.iload_n 3, 1) := by decide +kernel
theorem dX6_keysNotAsAtEnd_60 : decode cX6_keysNotAsAtEnd 60 = .ok (.iaload, 1) := by decide +kernel
theorem dX6_keysNotAsAtEnd_61 : decode cX6_keysNotAsAtEnd 61 = .ok (.if_icmp .eq 6, 3) := by decide +kernel
theorem dX6_keysNotAsAtEnd_64 : decode cX6_keysNotAsAtEnd 64 = .ok (.iinc 2 1, 3) := by decide +kernel
theorem dX6_keysNotAsAtEnd_67 : decode cX6_keysNotAsAtEnd 67 = .ok (.iinc 3 1, 3) := by decide +kernel
theorem dX6_keysNotAsAtEnd_70 : decode cX6_keysNotAsAtEnd 70 = .ok (.goto (-27), 3) := by decide +kernel
theorem dX6_keysNotAsAtEnd_73 : decode cX6_keysNotAsAtEnd 73 = .ok (.iload_n 2, 1) := by decide +kernel
theorem dX6_keysNotAsAtEnd_74 : decode cX6_keysNotAsAtEnd 74 = .ok (.ireturn, 1) := by decide +kernel
theorem dX6_found_0 : decode cX6_found 0 = .ok (.iload_n 0, 1) := by decide +kernel
theorem dX6_found_1 : decode cX6_found 1 = .ok (.ifCond .ne 8, 3) := by decide +kernel
theorem dX6_found_4 : decode cX6_found 4 = .ok (.ldc 140, 2) := by decide +kernel
theorem dX6_found_6 : decode cX6_found 6 = .ok (.goto 4, 3) := by decide +kernel
theorem dX6_found_9 : decode cX6_found 9 = .ok (.iload_n 0, 1) := by decide +kernel
theorem dX6_found_10 : decode cX6_found 10 = .ok (.ireturn, 1) := by decide +kernel
theorem dX6_isSlot_0 : decode cX6_isSlot 0 = .ok (.iload_n 0, 1) := by decide +kernel
theorem dX6_isSlot_1 : decode cX6_isSlot 1 = .ok (.ifCond .lt 12, 3) := by decide +kernel
theorem dX6_isSlot_4 : decode cX6_isSlot 4 = .ok (.iload_n 0, 1) := by decide +kernel
theorem dX6_isSlot_5 : decode cX6_isSlot 5 = .ok (.iconst 3, 1) := by decide +kernel
theorem dX6_isSlot_6 : decode cX6_isSlot 6 = .ok (.if_icmp .ge 7, 3) := by decide +kernel
theorem dX6_isSlot_9 : decode cX6_isSlot 9 = .ok (.iconst 1, 1) := by decide +kernel
theorem dX6_isSlot_10 : decode cX6_isSlot 10 = .ok (.goto 4, 3) := by decide +kernel
theorem dX6_isSlot_13 : decode cX6_isSlot 13 = .ok (.iconst 0, 1) := by decide +kernel
theorem dX6_isSlot_14 : decode cX6_isSlot 14 = .ok (.ireturn, 1) := by decide +kernel
theorem dX6_isKey_0 : decode cX6_isKey 0 = .ok (.iload_n 0, 1) := by decide +kernel
theorem dX6_isKey_1 : decode cX6_isKey 1 = .ok (.ifCond .lt 13, 3) := by decide +kernel
theorem dX6_isKey_4 : decode cX6_isKey 4 = .ok (.iload_n 0, 1) := by decide +kernel
theorem dX6_isKey_5 : decode cX6_isKey 5 = .ok (.bipush 24, 2) := by decide +kernel
theorem dX6_isKey_7 : decode cX6_isKey 7 = .ok (.if_icmp .ge 7, 3) := by decide +kernel
theorem dX6_isKey_10 : decode cX6_isKey 10 = .ok (.iconst 1, 1) := by decide +kernel
theorem dX6_isKey_11 : decode cX6_isKey 11 = .ok (.goto 4, 3) := by decide +kernel
theorem dX6_isKey_14 : decode cX6_isKey 14 = .ok (.iconst 0, 1) := by decide +kernel
theorem dX6_isKey_15 : decode cX6_isKey 15 = .ok (.ireturn, 1) := by decide +kernel
theorem dX6_isStandby_0 : decode cX6_isStandby 0 = .ok (.iload_n 0, 1) := by decide +kernel
theorem dX6_isStandby_1 : decode cX6_isStandby 1 = .ok (.ifCond .lt 12, 3) := by decide +kernel
theorem dX6_isStandby_4 : decode cX6_isStandby 4 = .ok (.iload_n 0, 1) := by decide +kernel
theorem dX6_isStandby_5 : decode cX6_isStandby 5 = .ok (.iconst 2, 1) := by decide +kernel
theorem dX6_isStandby_6 : decode cX6_isStandby 6 = .ok (.if_icmp .ge 7, 3) := by decide +kernel
theorem dX6_isStandby_9 : decode cX6_isStandby 9 = .ok (.iconst 1, 1) := by decide +kernel
theorem dX6_isStandby_10 : decode cX6_isStandby 10 = .ok (.goto 4, 3) := by decide +kernel
theorem dX6_isStandby_13 : decode cX6_isStandby 13 = .ok (.iconst 0, 1) := by decide +kernel
theorem dX6_isStandby_14 : decode cX6_isStandby 14 = .ok (.ireturn, 1) := by decide +kernel
theorem dX6_isTicks_0 : decode cX6_isTicks 0 = .ok (.iload_n 0, 1) := by decide +kernel
theorem dX6_isTicks_1 : decode cX6_isTicks 1 = .ok (.iconst 1, 1) := by decide +kernel
theorem dX6_isTicks_2 : decode cX6_isTicks 2 = .ok (.if_icmp .lt 13, 3) := by decide +kernel
theorem dX6_isTicks_5 : decode cX6_isTicks 5 = .ok (.iload_n 0, 1) := by decide +kernel
theorem dX6_isTicks_6 : decode cX6_isTicks 6 = .ok (.bipush 99, 2) := by decide +kernel
theorem dX6_isTicks_8 : decode cX6_isTicks 8 = .ok (.if_icmp .gt 7, 3) := by decide +kernel
theorem dX6_isTicks_11 : decode cX6_isTicks 11 = .ok (.iconst 1, 1) := by decide +kernel
theorem dX6_isTicks_12 : decode cX6_isTicks 12 = .ok (.goto 4, 3) := by decide +kernel
theorem dX6_isTicks_15 : decode cX6_isTicks 15 = .ok (.iconst 0, 1) := by decide +kernel
theorem dX6_isTicks_16 : decode cX6_isTicks 16 = .ok (.ireturn, 1) := by decide +kernel
theorem dX7_init_0 : decode cX7_init 0 = .ok (.aload_n 0, 1) := by decide +kernel
theorem dX7_init_1 : decode cX7_init 1 = .ok (.invokespecial 1, 3) := by decide +kernel
theorem dX7_init_4 : decode cX7_init 4 = .ok (.aload_n 0, 1) := by decide +kernel
theorem dX7_init_5 : decode cX7_init 5 = .ok (.sipush 718, 3) := by decide +kernel
theorem dX7_init_8 : decode cX7_init 8 = .ok (.newarray .int, 2) := by decide +kernel
theorem dX7_init_10 : decode cX7_init 10 = .ok (.putfield 7, 3) := by decide +kernel
theorem dX7_init_13 : decode cX7_init 13 = .ok (.aload_n 0, 1) := by decide +kernel
theorem dX7_init_14 : decode cX7_init 14 = .ok (.sipush 2872, 3) := by decide +kernel
theorem dX7_init_17 : decode cX7_init 17 = .ok (.newarray .int, 2) := by decide +kernel
theorem dX7_init_19 : decode cX7_init 19 = .ok (.putfield 13, 3) := by decide +kernel
theorem dX7_init_22 : decode cX7_init 22 = .ok (.aload_n 0, 1) := by decide +kernel
theorem dX7_init_23 : decode cX7_init 23 = .ok (.sipush 718, 3) := by decide +kernel
theorem dX7_init_26 : decode cX7_init 26 = .ok (.newarray .int, 2) := by decide +kernel
theorem dX7_init_28 : decode cX7_init 28 = .ok (.putfield 16, 3) := by decide +kernel
theorem dX7_init_31 : decode cX7_init 31 = .ok (.aload_n 0, 1) := by decide +kernel
theorem dX7_init_32 : decode cX7_init 32 = .ok (.bipush 60, 2) := by decide +kernel
theorem dX7_init_34 : decode cX7_init 34 = .ok (.newarray .int, 2) := by decide +kernel
theorem dX7_init_36 : decode cX7_init 36 = .ok (.putfield 19, 3) := by decide +kernel
theorem dX7_init_39 : decode cX7_init 39 = .ok (.aload_n 0, 1) := by decide +kernel
theorem dX7_init_40 : decode cX7_init 40 = .ok (.iconst 3, 1) := by decide +kernel
theorem dX7_init_41 : decode cX7_init 41 = .ok (.newarray .int, 2) := by decide +kernel
theorem dX7_init_43 : decode cX7_init 43 = .ok (.putfield 22, 3) := by decide +kernel
theorem dX7_init_46 : decode cX7_init 46 = .ok (.aload_n 0, 1) := by decide +kernel
theorem dX7_init_47 : decode cX7_init 47 = .ok (.getfield 7, 3) := by decide +kernel
theorem dX7_init_50 : decode cX7_init 50 = .ok (.iconst 2, 1) := by decide +kernel
theorem dX7_init_51 : decode cX7_init 51 = .ok (.iconst 1, 1) := by decide +kernel
theorem dX7_init_52 : decode cX7_init 52 = .ok (.iastore, 1) := by decide +kernel
theorem dX7_init_53 : decode cX7_init 53 = .ok (.aload_n 0, 1) := by decide +kernel
theorem dX7_init_54 : decode cX7_init 54 = .ok (.getfield 7, 3) := by decide +kernel
theorem dX7_init_57 : decode cX7_init 57 = .ok (.bipush 7, 2) := by decide +kernel
theorem dX7_init_59 : decode cX7_init 59 = .ok (.iconst 4, 1) := by decide +kernel
theorem dX7_init_60 : decode cX7_init 60 = .ok (.iastore, 1) := by decide +kernel
theorem dX7_init_61 : decode cX7_init 61 = .ok (.aload_n 0, 1) := by decide +kernel
theorem dX7_init_62 : decode cX7_init 62 = .ok (.getfield 7, 3) := by decide +kernel
theorem dX7_init_65 : decode cX7_init 65 = .ok (.bipush 8, 2) := by decide +kernel
theorem dX7_init_67 : decode cX7_init 67 = .ok (.iconst 2, 1) := by decide +kernel
theorem dX7_init_68 : decode cX7_init 68 = .ok (.iastore, 1) := by decide +kernel
theorem dX7_init_69 : decode cX7_init 69 = .ok (.return_, 1) := by decide +kernel
theorem dX7_in_0 : decode cX7_in 0 = .ok (.iload_n 0, 1) := by decide +kernel
theorem dX7_in_1 : decode cX7_in 1 = .ok (.iload_n 1, 1) := by decide +kernel
theorem dX7_in_2 : decode cX7_in 2 = .ok (.if_icmp .lt 12, 3) := by decide +kernel
theorem dX7_in_5 : decode cX7_in 5 = .ok (.iload_n 0, 1) := by decide +kernel
theorem dX7_in_6 : decode cX7_in 6 = .ok (.iload_n 2, 1) := by decide +kernel
theorem dX7_in_7 : decode cX7_in 7 = .ok (.if_icmp .gt 7, 3) := by decide +kernel
theorem dX7_in_10 : decode cX7_in 10 = .ok (.iconst 1, 1) := by decide +kernel
theorem dX7_in_11 : decode cX7_in 11 = .ok (.goto 4, 3) := by decide +kernel
theorem dX7_in_14 : decode cX7_in 14 = .ok (.iconst 0, 1) := by decide +kernel
theorem dX7_in_15 : decode cX7_in 15 = .ok (.ireturn, 1) := by decide +kernel
theorem dX7_copies_0 : decode cX7_copies 0 = .ok (.iconst 0, 1) := by decide +kernel
theorem dX7_copies_1 : decode cX7_copies 1 = .ok (.istore_n 2, 1) := by decide +kernel
theorem dX7_copies_2 : decode cX7_copies 2 = .ok (.iload_n 2, 1) := by decide +kernel
theorem dX7_copies_3 : decode cX7_copies 3 = .ok (.sipush 718, 3) := by decide +kernel
theorem dX7_copies_6 : decode cX7_copies 6 = .ok (.if_icmp .ge 15, 3) := by decide +kernel
theorem dX7_copies_9 : decode cX7_copies 9 = .ok (.aload_n 1, 1) := by decide +kernel
theorem dX7_copies_10 : decode cX7_copies 10 = .ok (.iload_n 2, 1) := by decide +kernel
theorem dX7_copies_11 : decode cX7_copies 11 = .ok (.aload_n 0, 1) := by decide +kernel
theorem dX7_copies_12 : decode cX7_copies 12 = .ok (.iload_n 2, 1) := by decide +kernel
theorem dX7_copies_13 : decode cX7_copies 13 = .ok (.iaload, 1) := by decide +kernel
theorem dX7_copies_14 : decode cX7_copies 14 = .ok (.iastore, 1) := by decide +kernel
theorem dX7_copies_15 : decode cX7_copies 15 = .ok (.iinc 2 1, 3) := by decide +kernel
theorem dX7_copies_18 : decode cX7_copies 18 = .ok (.goto (-16), 3) := by decide +kernel
theorem dX7_copies_21 : decode cX7_copies 21 = .ok (.return_, 1) := by decide +kernel
theorem dX7_changes_0 : decode cX7_changes 0 = .ok (.aload_n 0, 1) := by decide +kernel
theorem dX7_changes_1 : decode cX7_changes 1 = .ok (.getfield 25, 3) := by decide +kernel
theorem dX7_changes_4 : decode cX7_changes 4 = .ok (.ifCond .eq 4, 3) := by decide +kernel
theorem dX7_changes_7 : decode cX7_changes 7 = .ok (.return_, 1) := by decide +kernel
theorem dX7_changes_8 : decode cX7_changes 8 = .ok (.aload_n 0, 1) := by decide +kernel
theorem dX7_changes_9 : decode cX7_changes 9 = .ok (.getfield 29, 3) := by decide +kernel
theorem dX7_changes_12 : decode cX7_changes 12 = .ok (.iconst 4, 1) := by decide +kernel
theorem dX7_changes_13 : decode cX7_changes 13 = .ok (.if_icmp .ne 44, 3) := by decide +kernel
theorem dX7_changes_16 : decode cX7_changes 16 = .ok (.iconst 0, 1) := by decide +kernel
theorem dX7_changes_17 : decode cX7_changes 17 = .ok (.istore_n 1, 1) := by decide +kernel
theorem dX7_changes_18 : decode cX7_changes 18 = .ok (.iload_n 1, 1) := by decide +kernel
theorem dX7_changes_19 : decode cX7_changes 19 = .ok (.sipush 2154, 3) := by decide +kernel
theorem dX7_changes_22 : decode cX7_changes 22 = .ok (.if_icmp .ge 25, 3) := by decide +kernel
theorem dX7_changes_25 : decode cX7_changes 25 = .ok (.aload_n 0, 1) := by decide +kernel
theorem dX7_changes_26 : decode cX7_changes 26 = .ok (.getfield 13, 3) := by decide +kernel
theorem dX7_changes_29 : decode cX7_changes 29 = .ok (.iload_n 1, 1) := by decide +kernel
theorem dX7_changes_30 : decode cX7_changes 30 = .ok (.aload_n 0, 1) := by decide +kernel
theorem dX7_changes_31 : decode cX7_changes 31 = .ok (.getfield 13, 3) := by decide +kernel
theorem dX7_changes_34 : decode cX7_changes 34 = .ok (.iload_n 1, 1) := by decide +kernel
theorem dX7_changes_35 : decode cX7_changes 35 = .ok (.sipush 718, 3) := by decide +kernel
theorem dX7_changes_38 : decode cX7_changes 38 = .ok (.iadd, 1) := by decide +kernel
theorem dX7_changes_39 : decode cX7_changes 39 = .ok (.iaload, 1) := by decide +kernel
theorem dX7_changes_40 : decode cX7_changes 40 = .ok (.iastore, 1) := by decide +kernel
theorem dX7_changes_41 : decode cX7_changes 41 = .ok (.iinc 1 1, 3) := by decide +kernel
theorem dX7_changes_44 : decode cX7_changes 44 = .ok (.goto (-26), 3) := by decide +kernel
theorem dX7_changes_47 : decode cX7_changes 47 = .ok (.aload_n 0, 1) := by decide +kernel
theorem dX7_changes_48 : decode cX7_changes 48 = .ok (.dup, 1) := by decide +kernel
theorem dX7_changes_49 : decode cX7_changes 49 = .ok (.getfield 29, 3) := by decide +kernel
theorem dX7_changes_52 : decode cX7_changes 52 = .ok (.iconst 1, 1) := by decide +kernel
theorem dX7_changes_53 : decode cX7_changes 53 = .ok (.isub, 1) := by decide +kernel
theorem dX7_changes_54 : decode cX7_changes 54 = .ok (.putfield 29, 3) := by decide +kernel
theorem dX7_changes_57 : decode cX7_changes 57 = .ok (.iconst 0, 1) := by decide +kernel
theorem dX7_changes_58 : decode cX7_changes 58 = .ok (.istore_n 1, 1) := by decide +kernel
theorem dX7_changes_59 : decode cX7_changes 59 = .ok (.iload_n 1, 1) := by decide +kernel
theorem dX7_changes_60 : decode cX7_changes 60 = .ok (.sipush 718, 3) := by decide +kernel
theorem dX7_changes_63 : decode cX7_changes 63 = .ok (.if_icmp .ge 30, 3) := by decide +kernel
theorem dX7_changes_66 : decode cX7_changes 66 = .ok (.aload_n 0, 1) := by decide +kernel
theorem dX7_changes_67 : decode cX7_changes 67 = .ok (.getfield 13, 3) := by decide +kernel
theorem dX7_changes_70 : decode cX7_changes 70 = .ok (.sipush 718, 3) := by decide +kernel
theorem dX7_changes_73 : decode cX7_changes 73 = .ok (.aload_n 0, 1) := by decide +kernel
theorem dX7_changes_74 : decode cX7_changes 74 = .ok (.getfield 29, 3) := by decide +kernel
theorem dX7_changes_77 : decode cX7_changes 77 = .ok (.imul, 1) := by decide +kernel
theorem dX7_changes_78 : decode cX7_changes 78 = .ok (.iload_n 1, 1) := by decide +kernel
theorem dX7_changes_79 : decode cX7_changes 79 = .ok (.iadd, 1) := by decide +kernel
theorem dX7_changes_80 : decode cX7_changes 80 = .ok (.aload_n 0, 1) := by decide +kernel
theorem dX7_changes_81 : decode cX7_changes 81 = .ok (.getfield 7, 3) := by decide +kernel
theorem dX7_changes_84 : decode cX7_changes 84 = .ok (.iload_n 1, 1) := by decide +kernel
theorem dX7_changes_85 : decode cX7_changes 85 = .ok (.iaload, 1) := by decide +kernel
theorem dX7_changes_86 : decode cX7_changes 86 = .ok (.iastore, 1) := by decide +kernel
theorem dX7_changes_87 : decode cX7_changes 87 = .ok (.iinc 1 1, 3) := by decide +kernel
theorem dX7_changes_90 : decode cX7_changes 90 = .ok (.goto (-31), 3) := by decide +kernel
theorem dX7_changes_93 : decode cX7_changes 93 = .ok (.aload_n 0, 1) := by decide +kernel
theorem dX7_changes_94 : decode cX7_changes 94 = .ok (.dup, 1) := by decide +kernel
theorem dX7_changes_95 : decode cX7_changes 95 = .ok (.getfield 29, 3) := by decide +kernel
theorem dX7_changes_98 : decode cX7_changes 98 = .ok (.iconst 1, 1) := by decide +kernel
theorem dX7_changes_99 : decode cX7_changes 99 = .ok (.iadd, 1) := by decide +kernel
theorem dX7_changes_100 : decode cX7_changes 100 = .ok (.putfield 29, 3) := by decide +kernel
theorem dX7_changes_103 : decode cX7_changes 103 = .ok (.return_, 1) := by decide +kernel
set_option maxRecDepth 20000 in
theorem ggX7_isSlot_X7_in : GoodIn wsX7_isSlot wsX7_in := goodIn_r _ [4] (by decide +kernel) (by decide +kernel)
set_option maxRecDepth 20000 in
theorem gX7_isSlot_X7_in : GoodIn wsX7_isSlot (va_wsS RX7 33 yX7_in wsX7_in) := goodIn_app (goodIn_of _ (by decide +kernel)) ggX7_isSlot_X7_in
theorem dX7_isSlot_0 : decode cX7_isSlot 0 = .ok (.iload_n 0, 1) := by decide +kernel
theorem dX7_isSlot_1 : decode cX7_isSlot 1 = .ok (.iconst 0, 1) := by decide +kernel
theorem dX7_isSlot_2 : decode cX7_isSlot 2 = .ok (.iconst 2, 1) := by decide +kernel
theorem dX7_isSlot_3 : decode cX7_isSlot 3 = .ok (.invokestatic 33, 3) := by decide +kernel
theorem dX7_isSlot_6 : decode cX7_isSlot 6 = .ok (.ireturn, 1) := by decide +kernel
set_option maxRecDepth 20000 in
theorem ggX7_isKey_X7_in : GoodIn wsX7_isKey wsX7_in := goodIn_r _ [4] (by decide +kernel) (by decide +kernel)
set_option maxRecDepth 20000 in
theorem gX7_isKey_X7_in : GoodIn wsX7_isKey (va_wsS RX7 33 yX7_in wsX7_in) := goodIn_app (goodIn_of _ (by decide +kernel)) ggX7_isKey_X7_in
theorem dX7_isKey_0 : decode cX7_isKey 0 = .ok (.iload_n 0, 1) := by decide +kernel
theorem dX7_isKey_1 : decode cX7_isKey 1 = .ok (.iconst 0, 1) := by decide +kernel
theorem dX7_isKey_2 : decode cX7_isKey 2 = .ok (.bipush 23, 2) := by decide +kernel
theorem dX7_isKey_4 : decode cX7_isKey 4 = .ok (.invokestatic 33, 3) := by decide +kernel
theorem dX7_isKey_7 : decode cX7_isKey 7 = .ok (.ireturn, 1) := by decide +kernel
set_option maxRecDepth 20000 in
theorem ggX7_isStandby_X7_in : GoodIn wsX7_isStandby wsX7_in := goodIn_r _ [4] (by decide +kernel) (by decide +kernel)
set_option maxRecDepth 20000 in
theorem gX7_isStandby_X7_in : GoodIn wsX7_isStandby (va_wsS RX7 33 yX7_in wsX7_in) := goodIn_app (goodIn_of _ (by decide +kernel)) ggX7_isStandby_X7_in
theorem dX7_isStandby_0 : decode cX7_isStandby 0 = .ok (.iload_n 0, 1) := by decide +kernel
theorem dX7_isStandby_1 : decode cX7_isStandby 1 = .ok (.iconst 0, 1) := by decide +kernel
theorem dX7_isStandby_2 : decode cX7_isStandby 2 = .ok (.iconst 1, 1) := by decide +kernel
theorem dX7_isStandby_3 : decode cX7_isStandby 3 = .ok (.invokestatic 33, 3) := by decide +kernel
theorem dX7_isStandby_6 : decode cX7_isStandby 6 = .ok (.ireturn, 1) := by decide +kernel
theorem dX7_ofRecord_0 : decode cX7_ofRecord 0 = .ok (.aload_n 0, 1) := by decide +kernel
theorem dX7_ofRecord_1 : decode cX7_ofRecord 1 = .ok (.getfield 7, 3) := by decide +kernel
theorem dX7_ofRecord_4 : decode cX7_ofRecord 4 = .ok (.sipush 218, 3) := by decide +kernel
theorem dX7_ofRecord_7 : decode cX7_ofRecord 7 = .ok (.iconst 5, 1) := by decide +kernel
theorem dX7_ofRecord_8 : decode cX7_ofRecord 8 = .ok (.iload_n 1, 1) := by decide +kernel
theorem dX7_ofRecord_9 : decode cX7_ofRecord 9 = .ok (.imul, 1) := by decide +kernel
theorem dX7_ofRecord_10 : decode cX7_ofRecord 10 = .ok (.iadd, 1) := by decide +kernel
theorem dX7_ofRecord_11 : decode cX7_ofRecord 11 = .ok (.iconst 5, 1) := by decide +kernel
theorem dX7_ofRecord_12 : decode cX7_ofRecord 12 = .ok (.isub, 1) := by decide +kernel
theorem dX7_ofRecord_13 : decode cX7_ofRecord 13 = .ok (.iload_n 2, 1) := by decide +kernel
theorem dX7_ofRecord_14 : decode cX7_ofRecord 14 = .ok (.iadd, 1) := by decide +kernel
theorem dX7_ofRecord_15 : decode cX7_ofRecord 15 = .ok (.iaload, 1) := by decide +kernel
theorem dX7_ofRecord_16 : decode cX7_ofRecord 16 = .ok (.ireturn, 1) := by decide +kernel
theorem dX7_ofStandby_0 : decode cX7_ofStandby 0 = .ok (.aload_n 0, 1) := by decide +kernel
theorem dX7_ofStandby_1 : decode cX7_ofStandby 1 = .ok (.getfield 7, 3) := by decide +kernel
theorem dX7_ofStandby_4 : decode cX7_ofStandby 4 = .ok (.bipush 12, 2) := by decide +kernel
theorem dX7_ofStandby_6 : decode cX7_ofStandby 6 = .ok (.iconst 3, 1) := by decide +kernel
theorem dX7_ofStandby_7 : decode cX7_ofStandby 7 = .ok (.iload_n 1, 1) := by decide +kernel
theorem dX7_ofStandby_8 : decode cX7_ofStandby 8 = .ok (.imul, 1) := by decide +kernel
theorem dX7_ofStandby_9 : decode cX7_ofStandby 9 = .ok (.iadd, 1) := by decide +kernel
theorem dX7_ofStandby_10 : decode cX7_ofStandby 10 = .ok (.iload_n 2, 1) := by decide +kernel
theorem dX7_ofStandby_11 : decode cX7_ofStandby 11 = .ok (.iadd, 1) := by decide +kernel
theorem dX7_ofStandby_12 : decode cX7_ofStandby 12 = .ok (.iaload, 1) := by decide +kernel
theorem dX7_ofStandby_13 : decode cX7_ofStandby 13 = .ok (.ireturn, 1) := by decide +kernel
theorem dX7_isGap_0 : decode cX7_isGap 0 = .ok (.aload_n 0, 1) := by decide +kernel
theorem dX7_isGap_1 : decode cX7_isGap 1 = .ok (.getfield 7, 3) := by decide +kernel
theorem dX7_isGap_4 : decode cX7_isGap 4 = .ok (.bipush 18, 2) := by decide +kernel
theorem dX7_isGap_6 : decode cX7_isGap 6 = .ok (.bipush 100, 2) := by decide +kernel
theorem dX7_isGap_8 : decode cX7_isGap 8 = .ok (.iload_n 1, 1) := by decide +kernel
theorem dX7_isGap_9 : decode cX7_isGap 9 = .ok (.imul, 1) := by decide +kernel
theorem dX7_isGap_10 : decode cX7_isGap 10 = .ok (.iadd, 1) := by decide +kernel
theorem dX7_isGap_11 : decode cX7_isGap 11 = .ok (.iload_n 2, 1) := by decide +kernel
theorem dX7_isGap_12 : decode cX7_isGap 12 = .ok (.iadd, 1) := by decide +kernel
theorem dX7_isGap_13 : decode cX7_isGap 13 = .ok (.iconst 1, 1) := by decide +kernel
theorem dX7_isGap_14 : decode cX7_isGap 14 = .ok (.isub, 1) := by decide +kernel
theorem dX7_isGap_15 : decode cX7_isGap 15 = .ok (.iaload, 1) := by decide +kernel
theorem dX7_isGap_16 : decode cX7_isGap 16 = .ok (.iconst 1, 1) := by decide +kernel
theorem dX7_isGap_17 : decode cX7_isGap 17 = .ok (.if_icmp .ne 7, 3) := by decide +kernel
theorem dX7_isGap_20 : decode cX7_isGap 20 = .ok (.iconst 1, 1) := by decide +kernel
theorem dX7_isGap_21 : decode cX7_isGap 21 = .ok (.goto 4, 3) := by decide +kernel
theorem dX7_isGap_24 : decode cX7_isGap 24 = .ok (.iconst 0, 1) := by decide +kernel
theorem dX7_isGap_25 : decode cX7_isGap 25 = .ok (.ireturn, 1) := by decide +kernel
set_option maxRecDepth 20000 in
theorem ggX7_open_X7_isSlot : GoodIn wsX7_open wsX7_isSlot := goodIn_r _ [7, 8, 9, 6, 10] (by decide +kernel) (by decide +kernel)
set_option maxRecDepth 20000 in
theorem gX7_open_X7_isSlot : GoodIn wsX7_open (va_wsS RX7 37 yX7_isSlot wsX7_isSlot) := goodIn_app (goodIn_of _ (by decide +kernel)) ggX7_open_X7_isSlot
set_option maxRecDepth 20000 in
theorem ggX7_open_X7_changes : GoodIn wsX7_open wsX7_changes := goodIn_r _ [14, 15, 16, 17, 2, 18, 19, 20, 21, 22, 23, 24, 25, 26, 27, 28, 29, 30, 31] (by decide +kernel) (by decide +kernel)
set_option maxRecDepth 20000 in
theorem gX7_open_X7_changes : GoodIn wsX7_open (wsV RX7 43 RX7 yX7_changes wsX7_changes) := goodIn_app (goodIn_of _ (by decide +kernel)) ggX7_open_X7_changes
theorem dX7_open_0 : decode cX7_open 0 = .ok (.iload_n 1, 1) := by decide +kernel
theorem dX7_open_1 : decode cX7_open 1 = .ok (.invokestatic 37, 3) := by decide +kernel
theorem dX7_open_4 : decode cX7_open 4 = .ok (.ifCond .ne 6, 3) := by decide +kernel
theorem dX7_open_7 : decode cX7_open 7 = .ok (.ldc 41, 2) := by decide +kernel
theorem dX7_open_9 : decode cX7_open 9 = .ok (.ireturn, 1) := by decide +kernel
theorem dX7_open_10 : decode cX7_open 10 = .ok (.aload_n 0, 1) := by decide +kernel
theorem dX7_open_11 : decode cX7_open 11 = .ok (.getfield 7, 3) := by decide +kernel
theorem dX7_open_14 : decode cX7_open 14 = .ok (.bipush 9, 2) := by decide +kernel
theorem dX7_open_16 : decode cX7_open 16 = .ok (.iload_n 1, 1) := by decide +kernel
theorem dX7_open_17 : decode cX7_open 17 = .ok (.iadd, 1) := by decide +kernel
theorem dX7_open_18 : decode cX7_open 18 = .ok (.iaload, 1) := by decide +kernel
theorem dX7_open_19 : decode cX7_open 19 = .ok (.ifCond .le 6, 3) := by decide +kernel
theorem dX7_open_22 : decode cX7_open 22 = .ok (.ldc 42, 2) := by decide +kernel
theorem dX7_open_24 : decode cX7_open 24 = .ok (.ireturn, 1) := by decide +kernel
theorem dX7_open_25 : decode cX7_open 25 = .ok (.aload_n 0, 1) := by decide +kernel
theorem dX7_open_26 : decode cX7_open 26 = .ok (.invokevirtual 43, 3) := by decide +kernel
theorem dX7_open_29 : decode cX7_open 29 = .ok (.aload_n 0, 1) := by decide +kernel
theorem dX7_open_30 : decode cX7_open 30 = .ok (.getfield 7, 3) := by decide +kernel
theorem dX7_open_33 : decode cX7_open 33 = .ok (.iconst 3, 1) := by decide +kernel
theorem dX7_open_34 : decode cX7_open 34 = .ok (.dup2, 1) := by decide +kernel
theorem dX7_open_35 : decode cX7_open 35 = .ok (.iaload, 1) := by decide +kernel
theorem dX7_open_36 : decode cX7_open 36 = .ok (.iconst 1, 1) := by decide +kernel
theorem dX7_open_37 : decode cX7_open 37 = .ok (.iadd, 1) := by decide +kernel
theorem dX7_open_38 : decode cX7_open 38 = .ok (.iastore, 1) := by decide +kernel
theorem dX7_open_39 : decode cX7_open 39 = .ok (.aload_n 0, 1) := by decide +kernel
theorem dX7_open_40 : decode cX7_open 40 = .ok (.getfield 7, 3) := by decide +kernel
theorem dX7_open_43 : decode cX7_open 43 = .ok (.bipush 9, 2) := by decide +kernel
theorem dX7_open_45 : decode cX7_open 45 = .ok (.iload_n 1, 1) := by decide +kernel
theorem dX7_open_46 : decode cX7_open 46 = .ok (.iadd, 1) := by decide +kernel
theorem dX7_open_47 : decode cX7_open 47 = .ok (.aload_n 0, 1) := by decide +kernel
theorem dX7_open_48 : decode cX7_open 48 = .ok (.getfield 7, 3) := by decide +kernel
theorem dX7_open_51 : decode cX7_open 51 = .ok (.iconst 3, 1) := by decide +kernel
theorem dX7_open_52 : decode cX7_open 52 = .ok (.iaload, 1) := by decide +kernel
theorem dX7_open_53 : decode cX7_open 53 = .ok (.iastore, 1) := by decide +kernel
theorem dX7_open_54 : decode cX7_open 54 = .ok (.aload_n 0, 1) := by decide +kernel
theorem dX7_open_55 : decode cX7_open 55 = .ok (.getfield 7, 3) := by decide +kernel
theorem dX7_open_58 : decode cX7_open 58 = .ok (.iconst 3, 1) := by decide +kernel
theorem dX7_open_59 : decode cX7_open 59 = .ok (.iaload, 1) := by decide +kernel
theorem dX7_open_60 : decode cX7_open 60 = .ok (.ireturn, 1) := by decide +kernel
set_option maxRecDepth 20000 in
theorem ggX7_bar_X7_isSlot : GoodIn wsX7_bar wsX7_isSlot := goodIn_r _ [8, 9, 10, 7, 11] (by decide +kernel) (by decide +kernel)
set_option maxRecDepth 20000 in
theorem gX7_bar_X7_isSlot : GoodIn wsX7_bar (va_wsS RX7 37 yX7_isSlot wsX7_isSlot) := goodIn_app (goodIn_of _ (by decide +kernel)) ggX7_bar_X7_isSlot
theorem dX7_bar_0 : decode cX7_bar 0 = .ok (.iload_n 1, 1) := by decide +kernel
theorem dX7_bar_1 : decode cX7_bar 1 = .ok (.invokestatic 37, 3) := by decide +kernel
theorem dX7_bar_4 : decode cX7_bar 4 = .ok (.ifCond .ne 8, 3) := by decide +kernel
theorem dX7_bar_7 : decode cX7_bar 7 = .ok (.ldc 41, 2) := by decide +kernel
theorem dX7_bar_9 : decode cX7_bar 9 = .ok (.goto 37, 3) := by decide +kernel
theorem dX7_bar_12 : decode cX7_bar 12 = .ok (.aload_n 0, 1) := by decide +kernel
theorem dX7_bar_13 : decode cX7_bar 13 = .ok (.getfield 7, 3) := by decide +kernel
theorem dX7_bar_16 : decode cX7_bar 16 = .ok (.bipush 9, 2) := by decide +kernel
theorem dX7_bar_18 : decode cX7_bar 18 = .ok (.iload_n 1, 1) := by decide +kernel
theorem dX7_bar_19 : decode cX7_bar 19 = .ok (.iadd, 1) := by decide +kernel
theorem dX7_bar_20 : decode cX7_bar 20 = .ok (.iaload, 1) := by decide +kernel
theorem dX7_bar_21 : decode cX7_bar 21 = .ok (.ifCond .ne 8, 3) := by decide +kernel
theorem dX7_bar_24 : decode cX7_bar 24 = .ok (.ldc 42, 2) := by decide +kernel
theorem dX7_bar_26 : decode cX7_bar 26 = .ok (.goto 20, 3) := by decide +kernel
theorem dX7_bar_29 : decode cX7_bar 29 = .ok (.aload_n 0, 1) := by decide +kernel
theorem dX7_bar_30 : decode cX7_bar 30 = .ok (.getfield 7, 3) := by decide +kernel
theorem dX7_bar_33 : decode cX7_bar 33 = .ok (.iconst 0, 1) := by decide +kernel
theorem dX7_bar_34 : decode cX7_bar 34 = .ok (.iaload, 1) := by decide +kernel
theorem dX7_bar_35 : decode cX7_bar 35 = .ok (.bipush 100, 2) := by decide +kernel
theorem dX7_bar_37 : decode cX7_bar 37 = .ok (.if_icmp .ne 8, 3) := by decide +kernel
theorem dX7_bar_40 : decode cX7_bar 40 = .ok (.ldc 46, 2) := by decide +kernel
theorem dX7_bar_42 : decode cX7_bar 42 = .ok (.goto 4, 3) := by decide +kernel
theorem dX7_bar_45 : decode cX7_bar 45 = .ok (.iconst 0, 1) := by decide +kernel
theorem dX7_bar_46 : decode cX7_bar 46 = .ok (.ireturn, 1) := by decide +kernel
set_option maxRecDepth 20000 in
theorem ggX7_writes_X7_changes : GoodIn wsX7_writes wsX7_changes := goodIn_r _ [6, 7, 8, 9, 1, 10, 11, 12, 13, 14, 15, 16, 17, 18, 19, 20, 21, 22, 23] (by decide +kernel) (by decide +kernel)
set_option maxRecDepth 20000 in
theorem gX7_writes_X7_changes : GoodIn wsX7_writes (wsV RX7 43 RX7 yX7_changes wsX7_changes) := goodIn_app (goodIn_of _ (by decide +kernel)) ggX7_writes_X7_changes
theorem dX7_writes_0 : decode cX7_writes 0 = .ok (.aload_n 0, 1) := by decide +kernel
theorem dX7_writes_1 : decode cX7_writes 1 = .ok (.invokevirtual 43, 3) := by decide +kernel
theorem dX7_writes_4 : decode cX7_writes 4 = .ok (.aload_n 0, 1) := by decide +kernel
theorem dX7_writes_5 : decode cX7_writes 5 = .ok (.getfield 7, 3) := by decide +kernel
theorem dX7_writes_8 : decode cX7_writes 8 = .ok (.iconst 0, 1) := by decide +kernel
theorem dX7_writes_9 : decode cX7_writes 9 = .ok (.dup2, 1) := by decide +kernel
theorem dX7_writes_10 : decode cX7_writes 10 = .ok (.iaload, 1) := by decide +kernel
theorem dX7_writes_11 : decode cX7_writes 11 = .ok (.iconst 1, 1) := by decide +kernel
theorem dX7_writes_12 : decode cX7_writes 12 = .ok (.iadd, 1) := by decide +kernel
theorem dX7_writes_13 : decode cX7_writes 13 = .ok (.iastore, 1) := by decide +kernel
theorem dX7_writes_14 : decode cX7_writes 14 = .ok (.sipush 218, 3) := by decide +kernel
theorem dX7_writes_17 : decode cX7_writes 17 = .ok (.iconst 5, 1) := by decide +kernel
theorem dX7_writes_18 : decode cX7_writes 18 = .ok (.aload_n 0, 1) := by decide +kernel
theorem dX7_writes_19 : decode cX7_writes 19 = .ok (.getfield 7, 3) := by decide +kernel
theorem dX7_writes_22 : decode cX7_writes 22 = .ok (.iconst 0, 1) := by decide +kernel
theorem dX7_writes_23 : decode cX7_writes 23 = .ok (.iaload, 1) := by decide +kernel
theorem dX7_writes_24 : decode cX7_writes 24 = .ok (.imul, 1) := by decide +kernel
theorem dX7_writes_25 : decode cX7_writes 25 = .ok (.iadd, 1) := by decide +kernel
theorem dX7_writes_26 : decode cX7_writes 26 = .ok (.iconst 5, 1) := by decide +kernel
theorem dX7_writes_27 : decode cX7_writes 27 = .ok (.isub, 1) := by decide +kernel
theorem dX7_writes_28 : decode cX7_writes 28 = .ok (.istore 5, 2) := by decide +kernel
theorem dX7_writes_30 : decode cX7_writes 30 = .ok (.aload_n 0, 1) := by decide +kernel
theorem dX7_writes_31 : decode cX7_writes 31 = .ok (.getfield 7, 3) := by decide +kernel
theorem dX7_writes_34 : decode cX7_writes 34 = .ok (.iload 5, 2) := by decide +kernel
theorem dX7_writes_36 : decode cX7_writes 36 = .ok (.iconst 0, 1) := by decide +kernel
theorem dX7_writes_37 : decode cX7_writes 37 = .ok (.iadd, 1) := by decide +kernel
theorem dX7_writes_38 : decode cX7_writes 38 = .ok (.iload_n 1, 1) := by decide +kernel
theorem dX7_writes_39 : decode cX7_writes 39 = .ok (.iastore, 1) := by decide +kernel
theorem dX7_writes_40 : decode cX7_writes 40 = .ok (.aload_n 0, 1) := by decide +kernel
theorem dX7_writes_41 : decode cX7_writes 41 = .ok (.getfield 7, 3) := by decide +kernel
theorem dX7_writes_44 : decode cX7_writes 44 = .ok (.iload 5, 2) := by decide +kernel
theorem dX7_writes_46 : decode cX7_writes 46 = .ok (.iconst 1, 1) := by decide +kernel
theorem dX7_writes_47 : decode cX7_writes 47 = .ok (.iadd, 1) := by decide +kernel
theorem dX7_writes_48 : decode cX7_writes 48 = .ok (.aload_n 0, 1) := by decide +kernel
theorem dX7_writes_49 : decode cX7_writes 49 = .ok (.getfield 7, 3) := by decide +kernel
theorem dX7_writes_52 : decode cX7_writes 52 = .ok (.bipush 9, 2) := by decide +kernel
theorem dX7_writes_54 : decode cX7_writes 54 = .ok (.iload_n 2, 1) := by decide +kernel
theorem dX7_writes_55 : decode cX7_writes 55 = .ok (.iadd, 1) := by decide +kernel
theorem dX7_writes_56 : decode cX7_writes 56 = .ok (.iaload, 1) := by decide +kernel
theorem dX7_writes_57 : decode cX7_writes 57 = .ok (.iastore, 1) := by decide +kernel
theorem dX7_writes_58 : decode cX7_writes 58 = .ok (.aload_n 0, 1) := by decide +kernel
theorem dX7_writes_59 : decode cX7_writes 59 = .ok (.getfield 7, 3) := by decide +kernel
theorem dX7_writes_62 : decode cX7_writes 62 = .ok (.iload 5, 2) := by decide +kernel
theorem dX7_writes_64 : decode cX7_writes 64 = .ok (.iconst 2, 1) := by decide +kernel
theorem dX7_writes_65 : decode cX7_writes 65 = .ok (.iadd, 1) := by decide +kernel
theorem dX7_writes_66 : decode cX7_writes 66 = .ok (.iload_n 3, 1) := by decide +kernel
theorem dX7_writes_67 : decode cX7_writes 67 = .ok (.iastore, 1) := by decide +kernel
theorem dX7_writes_68 : decode cX7_writes 68 = .ok (.aload_n 0, 1) := by decide +kernel
theorem dX7_writes_69 : decode cX7_writes 69 = .ok (.getfield 7, 3) := by decide +kernel
theorem dX7_writes_72 : decode cX7_writes 72 = .ok (.iload 5, 2) := by decide +kernel
theorem dX7_writes_74 : decode cX7_writes 74 = .ok (.iconst 3, 1) := by decide +kernel
theorem dX7_writes_75 : decode cX7_writes 75 = .ok (.iadd, 1) := by decide +kernel
theorem dX7_writes_76 : decode cX7_writes 76 = .ok (.iload 4, 2) := by decide +kernel
theorem dX7_writes_78 : decode cX7_writes 78 = .ok (.iastore, 1) := by decide +kernel
theorem dX7_writes_79 : decode cX7_writes 79 = .ok (.aload_n 0, 1) := by decide +kernel
theorem dX7_writes_80 : decode cX7_writes 80 = .ok (.getfield 7, 3) := by decide +kernel
theorem dX7_writes_83 : decode cX7_writes 83 = .ok (.iload 5, 2) := by decide +kernel
theorem dX7_writes_85 : decode cX7_writes 85 = .ok (.iconst 4, 1) := by decide +kernel
theorem dX7_writes_86 : decode cX7_writes 86 = .ok (.iadd, 1) := by decide +kernel
theorem dX7_writes_87 : decode cX7_writes 87 = .ok (.aload_n 0, 1) := by decide +kernel
theorem dX7_writes_88 : decode cX7_writes 88 = .ok (.getfield 7, 3) := by decide +kernel
theorem dX7_writes_91 : decode cX7_writes 91 = .ok (.iconst 1, 1) := by decide +kernel
theorem dX7_writes_92 : decode cX7_writes 92 = .ok (.iaload, 1) := by decide +kernel
theorem dX7_writes_93 : decode cX7_writes 93 = .ok (.iastore, 1) := by decide +kernel
theorem dX7_writes_94 : decode cX7_writes 94 = .ok (.aload_n 0, 1) := by decide +kernel
theorem dX7_writes_95 : decode cX7_writes 95 = .ok (.getfield 7, 3) := by decide +kernel
theorem dX7_writes_98 : decode cX7_writes 98 = .ok (.bipush 9, 2) := by decide +kernel
theorem dX7_writes_100 : decode cX7_writes 100 = .ok (.iload_n 2, 1) := by decide +kernel
theorem dX7_writes_101 : decode cX7_writes 101 = .ok (.iadd, 1) := by decide +kernel
theorem dX7_writes_102 : decode cX7_writes 102 = .ok (.iload_n 1, 1) := by decide +kernel
theorem dX7_writes_103 : decode cX7_writes 103 = .ok (.ifCond .ne 15, 3) := by decide +kernel
theorem dX7_writes_106 : decode cX7_writes 106 = .ok (.aload_n 0, 1) := by decide +kernel
theorem dX7_writes_107 : decode cX7_writes 107 = .ok (.getfield 7, 3) := by decide +kernel
theorem dX7_writes_110 : decode cX7_writes 110 = .ok (.bipush 9, 2) := by decide +kernel
theorem dX7_writes_112 : decode cX7_writes 112 = .ok (.iload_n 2, 1) := by decide +kernel
theorem dX7_writes_113 : decode cX7_writes 113 = .ok (.iadd, 1) := by decide +kernel
theorem dX7_writes_114 : decode cX7_writes 114 = .ok (.iaload, 1) := by decide +kernel
theorem dX7_writes_115 : decode cX7_writes 115 = .ok (.goto 4, 3) := by decide +kernel
theorem dX7_writes_118 : decode cX7_writes 118 = .ok (.iconst 0, 1) := by decide +kernel
theorem dX7_writes_119 : decode cX7_writes 119 = .ok (.iastore, 1) := by decide +kernel
theorem dX7_writes_120 : decode cX7_writes 120 = .ok (.aload_n 0, 1) := by decide +kernel
theorem dX7_writes_121 : decode cX7_writes 121 = .ok (.getfield 7, 3) := by decide +kernel
theorem dX7_writes_124 : decode cX7_writes 124 = .ok (.iconst 0, 1) := by decide +kernel
theorem dX7_writes_125 : decode cX7_writes 125 = .ok (.iaload, 1) := by decide +kernel
theorem dX7_writes_126 : decode cX7_writes 126 = .ok (.ireturn, 1) := by decide +kernel
set_option maxRecDepth 20000 in
theorem ggX7_put_X7_isKey : GoodIn wsX7_put wsX7_isKey := goodIn_r _ [5, 6, 7, 4, 8] (by decide +kernel) (by decide +kernel)
set_option maxRecDepth 20000 in
theorem gX7_put_X7_isKey : GoodIn wsX7_put (va_wsS RX7 47 yX7_isKey wsX7_isKey) := goodIn_app (goodIn_of _ (by decide +kernel)) ggX7_put_X7_isKey
set_option maxRecDepth 20000 in
theorem ggX7_put_X7_in : GoodIn wsX7_put wsX7_in := goodIn_r _ [8] (by decide +kernel) (by decide +kernel)
set_option maxRecDepth 20000 in
theorem gX7_put_X7_in : GoodIn wsX7_put (va_wsS RX7 33 yX7_in wsX7_in) := goodIn_app (goodIn_of _ (by decide +kernel)) ggX7_put_X7_in
set_option maxRecDepth 20000 in
theorem ggX7_put_X7_bar : GoodIn wsX7_put wsX7_bar := goodIn_r _ [12, 1, 13, 14, 15, 16, 17, 4, 18, 6, 7, 8, 30, 31, 32, 33, 34, 35, 36, 37, 38, 39, 40, 41, 42, 43] (by decide +kernel) (by decide +kernel)
set_option maxRecDepth 20000 in
theorem gX7_put_X7_bar : GoodIn wsX7_put (wsV RX7 50 RX7 yX7_bar wsX7_bar) := goodIn_app (goodIn_of _ (by decide +kernel)) ggX7_put_X7_bar
set_option maxRecDepth 20000 in
theorem ggX7_put_X7_writes : GoodIn wsX7_put wsX7_writes := goodIn_r _ [22, 13, 23, 24, 25, 4, 26, 27, 28, 29, 30, 31, 32, 33, 34, 35, 36, 37, 38, 39, 40, 41, 42, 43] (by decide +kernel) (by decide +kernel)
set_option maxRecDepth 20000 in
theorem gX7_put_X7_writes : GoodIn wsX7_put (wsV RX7 54 RX7 yX7_writes wsX7_writes) := goodIn_app (goodIn_of _ (by decide +kernel)) ggX7_put_X7_writes
theorem dX7_put_0 : decode cX7_put 0 = .ok (.iload_n 2, 1) := by decide +kernel
theorem dX7_put_1 : decode cX7_put 1 = .ok (.invokestatic 47, 3) := by decide +kernel
theorem dX7_put_4 : decode cX7_put 4 = .ok (.ifCond .eq 14, 3) := by decide +kernel
theorem dX7_put_7 : decode cX7_put 7 = .ok (.iload_n 3, 1) := by decide +kernel
theorem dX7_put_8 : decode cX7_put 8 = .ok (.iconst 0, 1) := by decide +kernel
theorem dX7_put_9 : decode cX7_put 9 = .ok (.sipush 999, 3) := by decide +kernel
theorem dX7_put_12 : decode cX7_put 12 = .ok (.invokestatic 33, 3) := by decide +kernel
theorem dX7_put_15 : decode cX7_put 15 = .ok (.ifCond .ne 6, 3) := by decide +kernel
theorem dX7_put_18 : decode cX7_put 18 = .ok (.ldc 41, 2) := by decide +kernel
theorem dX7_put_20 : decode cX7_put 20 = .ok (.ireturn, 1) := by decide +kernel
theorem dX7_put_21 : decode cX7_put 21 = .ok (.aload_n 0, 1) := by decide +kernel
theorem dX7_put_22 : decode cX7_put 22 = .ok (.iload_n 1, 1) := by decide +kernel
theorem dX7_put_23 : decode cX7_put 23 = .ok (.invokevirtual 50, 3) := by decide +kernel
theorem dX7_put_26 : decode cX7_put 26 = .ok (.istore 4, 2) := by decide +kernel
theorem dX7_put_28 : decode cX7_put 28 = .ok (.iload 4, 2) := by decide +kernel
theorem dX7_put_30 : decode cX7_put 30 = .ok (.ifCond .ge 8, 3) := by decide +kernel
theorem dX7_put_33 : decode cX7_put 33 = .ok (.iload 4, 2) := by decide +kernel
theorem dX7_put_35 : decode cX7_put 35 = .ok (.goto 11, 3) := by decide +kernel
theorem dX7_put_38 : decode cX7_put 38 = .ok (.aload_n 0, 1) := by decide +kernel
theorem dX7_put_39 : decode cX7_put 39 = .ok (.iconst 0, 1) := by decide +kernel
theorem dX7_put_40 : decode cX7_put 40 = .ok (.iload_n 1, 1) := by decide +kernel
theorem dX7_put_41 : decode cX7_put 41 = .ok (.iload_n 2, 1) := by decide +kernel
theorem dX7_put_42 : decode cX7_put 42 = .ok (.iload_n 3, 1) := by decide +kernel
theorem dX7_put_43 : decode cX7_put 43 = .ok (.invokevirtual 54, 3) := by decide +kernel
theorem dX7_put_46 : decode cX7_put 46 = .ok (.ireturn, 1) := by decide +kernel
set_option maxRecDepth 20000 in
theorem ggX7_commit_X7_bar : GoodIn wsX7_commit wsX7_bar := goodIn_r _ [6, 7, 8, 9, 10, 11, 12, 5, 13, 14, 15, 16, 28, 29, 30, 31, 32, 33, 34, 35, 36, 37, 38, 39, 40, 41] (by decide +kernel) (by decide +kernel)
set_option maxRecDepth 20000 in
theorem gX7_commit_X7_bar : GoodIn wsX7_commit (wsV RX7 50 RX7 yX7_bar wsX7_bar) := goodIn_app (goodIn_of _ (by decide +kernel)) ggX7_commit_X7_bar
set_option maxRecDepth 20000 in
theorem ggX7_commit_X7_writes : GoodIn wsX7_commit wsX7_writes := goodIn_r _ [20, 8, 21, 22, 23, 5, 24, 25, 26, 27, 28, 29, 30, 31, 32, 33, 34, 35, 36, 37, 38, 39, 40, 41] (by decide +kernel) (by decide +kernel)
set_option maxRecDepth 20000 in
theorem gX7_commit_X7_writes : GoodIn wsX7_commit (wsV RX7 54 RX7 yX7_writes wsX7_writes) := goodIn_app (goodIn_of _ (by decide +kernel)) ggX7_commit_X7_writes
theorem dX7_commit_0 : decode cX7_commit 0 = .ok (.aload_n 0, 1) := by decide +kernel
theorem dX7_commit_1 : decode cX7_commit 1 = .ok (.iload_n 1, 1) := by decide +kernel
theorem dX7_commit_2 : decode cX7_commit 2 = .ok (.invokevirtual 50, 3) := by decide +kernel
theorem dX7_commit_5 : decode cX7_commit 5 = .ok (.istore_n 2, 1) := by decide +kernel
theorem dX7_commit_6 : decode cX7_commit 6 = .ok (.iload_n 2, 1) := by decide +kernel
theorem dX7_commit_7 : decode cX7_commit 7 = .ok (.ifCond .ge 7, 3) := by decide +kernel
theorem dX7_commit_10 : decode cX7_commit 10 = .ok (.iload_n 2, 1) := by decide +kernel
theorem dX7_commit_11 : decode cX7_commit 11 = .ok (.goto 13, 3) := by decide +kernel
theorem dX7_commit_14 : decode cX7_commit 14 = .ok (.aload_n 0, 1) := by decide +kernel
theorem dX7_commit_15 : decode cX7_commit 15 = .ok (.iconst 1, 1) := by decide +kernel
theorem dX7_commit_16 : decode cX7_commit 16 = .ok (.iload_n 1, 1) := by decide +kernel
theorem dX7_commit_17 : decode cX7_commit 17 = .ok (.ldc 58, 2) := by decide +kernel
theorem dX7_commit_19 : decode cX7_commit 19 = .ok (.ldc 58, 2) := by decide +kernel
theorem dX7_commit_21 : decode cX7_commit 21 = .ok (.invokevirtual 54, 3) := by decide +kernel
theorem dX7_commit_24 : decode cX7_commit 24 = .ok (.ireturn, 1) := by decide +kernel
set_option maxRecDepth 20000 in
theorem ggX7_abort_X7_bar : GoodIn wsX7_abort wsX7_bar := goodIn_r _ [6, 7, 8, 9, 10, 11, 12, 5, 13, 14, 15, 16, 28, 29, 30, 31, 32, 33, 34, 35, 36, 37, 38, 39, 40, 41] (by decide +kernel) (by decide +kernel)
set_option maxRecDepth 20000 in
theorem gX7_abort_X7_bar : GoodIn wsX7_abort (wsV RX7 50 RX7 yX7_bar wsX7_bar) := goodIn_app (goodIn_of _ (by decide +kernel)) ggX7_abort_X7_bar
set_option maxRecDepth 20000 in
theorem ggX7_abort_X7_writes : GoodIn wsX7_abort wsX7_writes := goodIn_r _ [20, 8, 21, 22, 23, 5, 24, 25, 26, 27, 28, 29, 30, 31, 32, 33, 34, 35, 36, 37, 38, 39, 40, 41] (by decide +kernel) (by decide +kernel)
set_option maxRecDepth 20000 in
theorem gX7_abort_X7_writes : GoodIn wsX7_abort (wsV RX7 54 RX7 yX7_writes wsX7_writes) := goodIn_app (goodIn_of _ (by decide +kernel)) ggX7_abort_X7_writes
theorem dX7_abort_0 : decode cX7_abort 0 = .ok (.aload_n 0, 1) := by decide +kernel
theorem dX7_abort_1 : decode cX7_abort 1 = .ok (.iload_n 1, 1) := by decide +kernel
theorem dX7_abort_2 : decode cX7_abort 2 = .ok (.invokevirtual 50, 3) := by decide +kernel
theorem dX7_abort_5 : decode cX7_abort 5 = .ok (.istore_n 2, 1) := by decide +kernel
theorem dX7_abort_6 : decode cX7_abort 6 = .ok (.iload_n 2, 1) := by decide +kernel
theorem dX7_abort_7 : decode cX7_abort 7 = .ok (.ifCond .ge 7, 3) := by decide +kernel
theorem dX7_abort_10 : decode cX7_abort 10 = .ok (.iload_n 2, 1) := by decide +kernel
theorem dX7_abort_11 : decode cX7_abort 11 = .ok (.goto 13, 3) := by decide +kernel
theorem dX7_abort_14 : decode cX7_abort 14 = .ok (.aload_n 0, 1) := by decide +kernel
theorem dX7_abort_15 : decode cX7_abort 15 = .ok (.iconst 2, 1) := by decide +kernel
theorem dX7_abort_16 : decode cX7_abort 16 = .ok (.iload_n 1, 1) := by decide +kernel
theorem dX7_abort_17 : decode cX7_abort 17 = .ok (.ldc 58, 2) := by decide +kernel
theorem dX7_abort_19 : decode cX7_abort 19 = .ok (.ldc 58, 2) := by decide +kernel
theorem dX7_abort_21 : decode cX7_abort 21 = .ok (.invokevirtual 54, 3) := by decide +kernel
theorem dX7_abort_24 : decode cX7_abort 24 = .ok (.ireturn, 1) := by decide +kernel
set_option maxRecDepth 20000 in
theorem ggX7_lastPut_X7_ofRecord : GoodIn wsX7_lastPut wsX7_ofRecord := goodIn_r _ [6, 1, 7, 8, 9, 10, 11, 12, 13, 14, 15, 16, 17, 18, 19, 20] (by decide +kernel) (by decide +kernel)
set_option maxRecDepth 20000 in
theorem gX7_lastPut_X7_ofRecord : GoodIn wsX7_lastPut (wsV RX7 59 RX7 yX7_ofRecord wsX7_ofRecord) := goodIn_app (goodIn_of _ (by decide +kernel)) ggX7_lastPut_X7_ofRecord
theorem dX7_lastPut_0 : decode cX7_lastPut 0 = .ok (.iconst 0, 1) := by decide +kernel
theorem dX7_lastPut_1 : decode cX7_lastPut 1 = .ok (.istore_n 3, 1) := by decide +kernel
theorem dX7_lastPut_2 : decode cX7_lastPut 2 = .ok (.iconst 1, 1) := by decide +kernel
theorem dX7_lastPut_3 : decode cX7_lastPut 3 = .ok (.istore 4, 2) := by decide +kernel
theorem dX7_lastPut_5 : decode cX7_lastPut 5 = .ok (.iload 4, 2) := by decide +kernel
theorem dX7_lastPut_7 : decode cX7_lastPut 7 = .ok (.aload_n 0, 1) := by decide +kernel
theorem dX7_lastPut_8 : decode cX7_lastPut 8 = .ok (.getfield 7, 3) := by decide +kernel
theorem dX7_lastPut_11 : decode cX7_lastPut 11 = .ok (.iconst 0, 1) := by decide +kernel
theorem dX7_lastPut_12 : decode cX7_lastPut 12 = .ok (.iaload, 1) := by decide +kernel
theorem dX7_lastPut_13 : decode cX7_lastPut 13 = .ok (.if_icmp .gt 48, 3) := by decide +kernel
theorem dX7_lastPut_16 : decode cX7_lastPut 16 = .ok (.aload_n 0, 1) := by decide +kernel
theorem dX7_lastPut_17 : decode cX7_lastPut 17 = .ok (.iload 4, 2) := by decide +kernel
theorem dX7_lastPut_19 : decode cX7_lastPut 19 = .ok (.iconst 0, 1) := by decide +kernel
theorem dX7_lastPut_20 : decode cX7_lastPut 20 = .ok (.invokevirtual 59, 3) := by decide +kernel
theorem dX7_lastPut_23 : decode cX7_lastPut 23 = .ok (.ifCond .ne 30, 3) := by decide +kernel
theorem dX7_lastPut_26 : decode cX7_lastPut 26 = .ok (.aload_n 0, 1) := by decide +kernel
theorem dX7_lastPut_27 : decode cX7_lastPut 27 = .ok (.iload 4, 2) := by decide +kernel
theorem dX7_lastPut_29 : decode cX7_lastPut 29 = .ok (.iconst 1, 1) := by decide +kernel
theorem dX7_lastPut_30 : decode cX7_lastPut 30 = .ok (.invokevirtual 59, 3) := by decide +kernel
theorem dX7_lastPut_33 : decode cX7_lastPut 33 = .ok (.iload_n 1, 1) := by decide +kernel
theorem dX7_lastPut_34 : decode cX7_lastPut 34 = .ok (.if_icmp .ne 19, 3) := by decide +kernel
theorem dX7_lastPut_37 : decode cX7_lastPut 37 = .ok (.aload_n 0, 1) := by decide +kernel
theorem dX7_lastPut_38 : decode cX7_lastPut 38 = .ok (.iload 4, 2) := by decide +kernel
theorem dX7_lastPut_40 : decode cX7_lastPut 40 = .ok (.iconst 2, 1) := by decide +kernel
theorem dX7_lastPut_41 : decode cX7_lastPut 41 = .ok (.invokevirtual 59, 3) := by decide +kernel
theorem dX7_lastPut_44 : decode cX7_lastPut 44 = .ok (.iload_n 2, 1) := by decide +kernel
theorem dX7_lastPut_45 : decode cX7_lastPut 45 = .ok (.if_icmp .ne 8, 3) := by decide +kernel
theorem dX7_lastPut_48 : decode cX7_lastPut 48 = .ok (.iload 4, 2) := by decide +kernel
theorem dX7_lastPut_50 : decode cX7_lastPut 50 = .ok (.goto 4, 3) := by decide +kernel
theorem dX7_lastPut_53 : decode cX7_lastPut 53 = .ok (.iload_n 3, 1) := by decide +kernel
theorem dX7_lastPut_54 : decode cX7_lastPut 54 = .ok (.istore_n 3, 1) := by decide +kernel
theorem dX7_lastPut_55 : decode cX7_lastPut 55 = .ok (.iinc 4 1, 3) := by decide +kernel
theorem dX7_lastPut_58 : decode cX7_lastPut 58 = .ok (.goto (-53), 3) := by decide +kernel
theorem dX7_lastPut_61 : decode cX7_lastPut 61 = .ok (.iload_n 3, 1) := by decide +kernel
theorem dX7_lastPut_62 : decode cX7_lastPut 62 = .ok (.ireturn, 1) := by decide +kernel
set_option maxRecDepth 20000 in
theorem ggX7_lastCommit_X7_ofRecord : GoodIn wsX7_lastCommit wsX7_ofRecord := goodIn_r _ [5, 6, 11, 12, 13, 14, 15, 16, 17, 18, 19, 20, 21, 22, 23, 24] (by decide +kernel) (by decide +kernel)
set_option maxRecDepth 20000 in
theorem gX7_lastCommit_X7_ofRecord : GoodIn wsX7_lastCommit (wsV RX7 59 RX7 yX7_ofRecord wsX7_ofRecord) := goodIn_app (goodIn_of _ (by decide +kernel)) ggX7_lastCommit_X7_ofRecord
set_option maxRecDepth 20000 in
theorem ggX7_lastCommit_X7_lastPut : GoodIn wsX7_lastCommit wsX7_lastPut := goodIn_r _ [10, 6, 1, 2, 3, 4, 5, 11, 12, 13, 14, 15, 16, 17, 18, 19, 20, 21, 22, 23, 24] (by decide +kernel) (by decide +kernel)
set_option maxRecDepth 20000 in
theorem gX7_lastCommit_X7_lastPut : GoodIn wsX7_lastCommit (wsV RX7 63 RX7 yX7_lastPut wsX7_lastPut) := goodIn_app (goodIn_of _ (by decide +kernel)) ggX7_lastCommit_X7_lastPut
theorem dX7_lastCommit_0 : decode cX7_lastCommit 0 = .ok (.iload_n 1, 1) := by decide +kernel
theorem dX7_lastCommit_1 : decode cX7_lastCommit 1 = .ok (.istore_n 3, 1) := by decide +kernel
theorem dX7_lastCommit_2 : decode cX7_lastCommit 2 = .ok (.iload_n 3, 1) := by decide +kernel
theorem dX7_lastCommit_3 : decode cX7_lastCommit 3 = .ok (.ifCond .le 35, 3) := by decide +kernel
theorem dX7_lastCommit_6 : decode cX7_lastCommit 6 = .ok (.aload_n 0, 1) := by decide +kernel
theorem dX7_lastCommit_7 : decode cX7_lastCommit 7 = .ok (.iload_n 3, 1) := by decide +kernel
theorem dX7_lastCommit_8 : decode cX7_lastCommit 8 = .ok (.iconst 0, 1) := by decide +kernel
theorem dX7_lastCommit_9 : decode cX7_lastCommit 9 = .ok (.invokevirtual 59, 3) := by decide +kernel
theorem dX7_lastCommit_12 : decode cX7_lastCommit 12 = .ok (.iconst 1, 1) := by decide +kernel
theorem dX7_lastCommit_13 : decode cX7_lastCommit 13 = .ok (.if_icmp .ne 19, 3) := by decide +kernel
theorem dX7_lastCommit_16 : decode cX7_lastCommit 16 = .ok (.aload_n 0, 1) := by decide +kernel
theorem dX7_lastCommit_17 : decode cX7_lastCommit 17 = .ok (.aload_n 0, 1) := by decide +kernel
theorem dX7_lastCommit_18 : decode cX7_lastCommit 18 = .ok (.iload_n 3, 1) := by decide +kernel
theorem dX7_lastCommit_19 : decode cX7_lastCommit 19 = .ok (.iconst 1, 1) := by decide +kernel
theorem dX7_lastCommit_20 : decode cX7_lastCommit 20 = .ok (.invokevirtual 59, 3) := by decide +kernel
theorem dX7_lastCommit_23 : decode cX7_lastCommit 23 = .ok (.iload_n 2, 1) := by decide +kernel
theorem dX7_lastCommit_24 : decode cX7_lastCommit 24 = .ok (.invokevirtual 63, 3) := by decide +kernel
theorem dX7_lastCommit_27 : decode cX7_lastCommit 27 = .ok (.ifCond .le 5, 3) := by decide +kernel
theorem dX7_lastCommit_30 : decode cX7_lastCommit 30 = .ok (.iload_n 3, 1) := by decide +kernel
theorem dX7_lastCommit_31 : decode cX7_lastCommit 31 = .ok (.ireturn, 1) := by decide +kernel
theorem dX7_lastCommit_32 : decode cX7_lastCommit 32 = .ok (.iinc 3 (-1), 3) := by decide +kernel
theorem dX7_lastCommit_35 : decode cX7_lastCommit 35 = .ok (.goto (-33), 3) := by decide +kernel
theorem dX7_lastCommit_38 : decode cX7_lastCommit 38 = .ok (.iconst 0, 1) := by decide +kernel
theorem dX7_lastCommit_39 : decode cX7_lastCommit 39 = .ok (.ireturn, 1) := by decide +kernel
set_option maxRecDepth 20000 in
theorem ggX7_valueAt_X7_lastCommit : GoodIn wsX7_valueAt wsX7_lastCommit := goodIn_r _ [5, 6, 7, 8, 4, 9, 10, 11, 12, 13, 14, 15, 16, 17, 18, 19, 20, 21, 22, 23, 24, 25, 26, 27, 28] (by decide +kernel) (by decide +kernel)
set_option maxRecDepth 20000 in
theorem gX7_valueAt_X7_lastCommit : GoodIn wsX7_valueAt (wsV RX7 66 RX7 yX7_lastCommit wsX7_lastCommit) := goodIn_app (goodIn_of _ (by decide +kernel)) ggX7_valueAt_X7_lastCommit
set_option maxRecDepth 20000 in
theorem ggX7_valueAt_X7_ofRecord : GoodIn wsX7_valueAt wsX7_ofRecord := goodIn_r _ [9, 10, 15, 16, 17, 18, 19, 20, 21, 22, 23, 24, 25, 26, 27, 28] (by decide +kernel) (by decide +kernel)
set_option maxRecDepth 20000 in
theorem gX7_valueAt_X7_ofRecord : GoodIn wsX7_valueAt (wsV RX7 59 RX7 yX7_ofRecord wsX7_ofRecord) := goodIn_app (goodIn_of _ (by decide +kernel)) ggX7_valueAt_X7_ofRecord
set_option maxRecDepth 20000 in
theorem ggX7_valueAt_X7_lastPut : GoodIn wsX7_valueAt wsX7_lastPut := goodIn_r _ [14, 10, 6, 7, 8, 4, 9, 15, 16, 17, 18, 19, 20, 21, 22, 23, 24, 25, 26, 27, 28] (by decide +kernel) (by decide +kernel)
set_option maxRecDepth 20000 in
theorem gX7_valueAt_X7_lastPut : GoodIn wsX7_valueAt (wsV RX7 63 RX7 yX7_lastPut wsX7_lastPut) := goodIn_app (goodIn_of _ (by decide +kernel)) ggX7_valueAt_X7_lastPut
theorem dX7_valueAt_0 : decode cX7_valueAt 0 = .ok (.aload_n 0, 1) := by decide +kernel
theorem dX7_valueAt_1 : decode cX7_valueAt 1 = .ok (.iload_n 1, 1) := by decide +kernel
theorem dX7_valueAt_2 : decode cX7_valueAt 2 = .ok (.iload_n 2, 1) := by decide +kernel
theorem dX7_valueAt_3 : decode cX7_valueAt 3 = .ok (.invokevirtual 66, 3) := by decide +kernel
theorem dX7_valueAt_6 : decode cX7_valueAt 6 = .ok (.istore_n 3, 1) := by decide +kernel
theorem dX7_valueAt_7 : decode cX7_valueAt 7 = .ok (.iload_n 3, 1) := by decide +kernel
theorem dX7_valueAt_8 : decode cX7_valueAt 8 = .ok (.ifCond .ne 7, 3) := by decide +kernel
theorem dX7_valueAt_11 : decode cX7_valueAt 11 = .ok (.iconst 0, 1) := by decide +kernel
theorem dX7_valueAt_12 : decode cX7_valueAt 12 = .ok (.goto 19, 3) := by decide +kernel
theorem dX7_valueAt_15 : decode cX7_valueAt 15 = .ok (.aload_n 0, 1) := by decide +kernel
theorem dX7_valueAt_16 : decode cX7_valueAt 16 = .ok (.aload_n 0, 1) := by decide +kernel
theorem dX7_valueAt_17 : decode cX7_valueAt 17 = .ok (.aload_n 0, 1) := by decide +kernel
theorem dX7_valueAt_18 : decode cX7_valueAt 18 = .ok (.iload_n 3, 1) := by decide +kernel
theorem dX7_valueAt_19 : decode cX7_valueAt 19 = .ok (.iconst 1, 1) := by decide +kernel
theorem dX7_valueAt_20 : decode cX7_valueAt 20 = .ok (.invokevirtual 59, 3) := by decide +kernel
theorem dX7_valueAt_23 : decode cX7_valueAt 23 = .ok (.iload_n 2, 1) := by decide +kernel
theorem dX7_valueAt_24 : decode cX7_valueAt 24 = .ok (.invokevirtual 63, 3) := by decide +kernel
theorem dX7_valueAt_27 : decode cX7_valueAt 27 = .ok (.iconst 3, 1) := by decide +kernel
theorem dX7_valueAt_28 : decode cX7_valueAt 28 = .ok (.invokevirtual 59, 3) := by decide +kernel
theorem dX7_valueAt_31 : decode cX7_valueAt 31 = .ok (.ireturn, 1) := by decide +kernel
set_option maxRecDepth 20000 in
theorem ggX7_commits_X7_ofRecord : GoodIn wsX7_commits wsX7_ofRecord := goodIn_r _ [5, 6, 7, 8, 9, 10, 11, 12, 13, 14, 15, 16, 17, 18, 19, 20] (by decide +kernel) (by decide +kernel)
set_option maxRecDepth 20000 in
theorem gX7_commits_X7_ofRecord : GoodIn wsX7_commits (wsV RX7 59 RX7 yX7_ofRecord wsX7_ofRecord) := goodIn_app (goodIn_of _ (by decide +kernel)) ggX7_commits_X7_ofRecord
theorem dX7_commits_0 : decode cX7_commits 0 = .ok (.iconst 0, 1) := by decide +kernel
theorem dX7_commits_1 : decode cX7_commits 1 = .ok (.istore_n 3, 1) := by decide +kernel
theorem dX7_commits_2 : decode cX7_commits 2 = .ok (.iload_n 1, 1) := by decide +kernel
theorem dX7_commits_3 : decode cX7_commits 3 = .ok (.istore 4, 2) := by decide +kernel
theorem dX7_commits_5 : decode cX7_commits 5 = .ok (.iload 4, 2) := by decide +kernel
theorem dX7_commits_7 : decode cX7_commits 7 = .ok (.iload_n 2, 1) := by decide +kernel
theorem dX7_commits_8 : decode cX7_commits 8 = .ok (.if_icmp .gt 28, 3) := by decide +kernel
theorem dX7_commits_11 : decode cX7_commits 11 = .ok (.iload_n 3, 1) := by decide +kernel
theorem dX7_commits_12 : decode cX7_commits 12 = .ok (.aload_n 0, 1) := by decide +kernel
theorem dX7_commits_13 : decode cX7_commits 13 = .ok (.iload 4, 2) := by decide +kernel
theorem dX7_commits_15 : decode cX7_commits 15 = .ok (.iconst 0, 1) := by decide +kernel
theorem dX7_commits_16 : decode cX7_commits 16 = .ok (.invokevirtual 59, 3) := by decide +kernel
theorem dX7_commits_19 : decode cX7_commits 19 = .ok (.iconst 1, 1) := by decide +kernel
theorem dX7_commits_20 : decode cX7_commits 20 = .ok (.if_icmp .ne 7, 3) := by decide +kernel
theorem dX7_commits_23 : decode cX7_commits 23 = .ok (.iconst 1, 1) := by decide +kernel
theorem dX7_commits_24 : decode cX7_commits 24 = .ok (.goto 4, 3) := by decide +kernel
theorem dX7_commits_27 : decode cX7_commits 27 = .ok (.iconst 0, 1) := by decide +kernel
theorem dX7_commits_28 : decode cX7_commits 28 = .ok (.iadd, 1) := by decide +kernel
theorem dX7_commits_29 : decode cX7_commits 29 = .ok (.istore_n 3, 1) := by decide +kernel
theorem dX7_commits_30 : decode cX7_commits 30 = .ok (.iinc 4 1, 3) := by decide +kernel
theorem dX7_commits_33 : decode cX7_commits 33 = .ok (.goto (-28), 3) := by decide +kernel
theorem dX7_commits_36 : decode cX7_commits 36 = .ok (.iload_n 3, 1) := by decide +kernel
theorem dX7_commits_37 : decode cX7_commits 37 = .ok (.ireturn, 1) := by decide +kernel
set_option maxRecDepth 20000 in
theorem ggX7_ship_X7_isStandby : GoodIn wsX7_ship wsX7_isStandby := goodIn_r _ [7, 8, 9, 6, 10] (by decide +kernel) (by decide +kernel)
set_option maxRecDepth 20000 in
theorem gX7_ship_X7_isStandby : GoodIn wsX7_ship (va_wsS RX7 69 yX7_isStandby wsX7_isStandby) := goodIn_app (goodIn_of _ (by decide +kernel)) ggX7_ship_X7_isStandby
set_option maxRecDepth 20000 in
theorem ggX7_ship_X7_in : GoodIn wsX7_ship wsX7_in := goodIn_r _ [10] (by decide +kernel) (by decide +kernel)
set_option maxRecDepth 20000 in
theorem gX7_ship_X7_in : GoodIn wsX7_ship (va_wsS RX7 33 yX7_in wsX7_in) := goodIn_app (goodIn_of _ (by decide +kernel)) ggX7_ship_X7_in
set_option maxRecDepth 20000 in
theorem ggX7_ship_X7_ofStandby : GoodIn wsX7_ship wsX7_ofStandby := goodIn_r _ [14, 3, 22, 23, 24, 25, 26, 27, 28, 29, 30, 31, 32, 33, 34, 35] (by decide +kernel) (by decide +kernel)
set_option maxRecDepth 20000 in
theorem gX7_ship_X7_ofStandby : GoodIn wsX7_ship (wsV RX7 72 RX7 yX7_ofStandby wsX7_ofStandby) := goodIn_app (goodIn_of _ (by decide +kernel)) ggX7_ship_X7_ofStandby
set_option maxRecDepth 20000 in
theorem ggX7_ship_X7_changes : GoodIn wsX7_ship wsX7_changes := goodIn_r _ [18, 19, 20, 21, 3, 22, 23, 24, 25, 26, 27, 28, 29, 30, 31, 32, 33, 34, 35] (by decide +kernel) (by decide +kernel)
set_option maxRecDepth 20000 in
theorem gX7_ship_X7_changes : GoodIn wsX7_ship (wsV RX7 43 RX7 yX7_changes wsX7_changes) := goodIn_app (goodIn_of _ (by decide +kernel)) ggX7_ship_X7_changes
theorem dX7_ship_0 : decode cX7_ship 0 = .ok (.iload_n 1, 1) := by decide +kernel
theorem dX7_ship_1 : decode cX7_ship 1 = .ok (.invokestatic 69, 3) := by decide +kernel
theorem dX7_ship_4 : decode cX7_ship 4 = .ok (.ifCond .eq 13, 3) := by decide +kernel
theorem dX7_ship_7 : decode cX7_ship 7 = .ok (.iload_n 2, 1) := by decide +kernel
theorem dX7_ship_8 : decode cX7_ship 8 = .ok (.iconst 1, 1) := by decide +kernel
theorem dX7_ship_9 : decode cX7_ship 9 = .ok (.bipush 20, 2) := by decide +kernel
theorem dX7_ship_11 : decode cX7_ship 11 = .ok (.invokestatic 33, 3) := by decide +kernel
theorem dX7_ship_14 : decode cX7_ship 14 = .ok (.ifCond .ne 6, 3) := by decide +kernel
theorem dX7_ship_17 : decode cX7_ship 17 = .ok (.ldc 41, 2) := by decide +kernel
theorem dX7_ship_19 : decode cX7_ship 19 = .ok (.ireturn, 1) := by decide +kernel
theorem dX7_ship_20 : decode cX7_ship 20 = .ok (.aload_n 0, 1) := by decide +kernel
theorem dX7_ship_21 : decode cX7_ship 21 = .ok (.iload_n 1, 1) := by decide +kernel
theorem dX7_ship_22 : decode cX7_ship 22 = .ok (.iconst 2, 1) := by decide +kernel
theorem dX7_ship_23 : decode cX7_ship 23 = .ok (.invokevirtual 72, 3) := by decide +kernel
theorem dX7_ship_26 : decode cX7_ship 26 = .ok (.iconst 1, 1) := by decide +kernel
theorem dX7_ship_27 : decode cX7_ship 27 = .ok (.if_icmp .ne 6, 3) := by decide +kernel
theorem dX7_ship_30 : decode cX7_ship 30 = .ok (.ldc 42, 2) := by decide +kernel
theorem dX7_ship_32 : decode cX7_ship 32 = .ok (.ireturn, 1) := by decide +kernel
theorem dX7_ship_33 : decode cX7_ship 33 = .ok (.aload_n 0, 1) := by decide +kernel
theorem dX7_ship_34 : decode cX7_ship 34 = .ok (.invokevirtual 43, 3) := by decide +kernel
theorem dX7_ship_37 : decode cX7_ship 37 = .ok (.aload_n 0, 1) := by decide +kernel
theorem dX7_ship_38 : decode cX7_ship 38 = .ok (.getfield 7, 3) := by decide +kernel
theorem dX7_ship_41 : decode cX7_ship 41 = .ok (.iconst 0, 1) := by decide +kernel
theorem dX7_ship_42 : decode cX7_ship 42 = .ok (.iaload, 1) := by decide +kernel
theorem dX7_ship_43 : decode cX7_ship 43 = .ok (.aload_n 0, 1) := by decide +kernel
theorem dX7_ship_44 : decode cX7_ship 44 = .ok (.iload_n 1, 1) := by decide +kernel
theorem dX7_ship_45 : decode cX7_ship 45 = .ok (.iconst 0, 1) := by decide +kernel
theorem dX7_ship_46 : decode cX7_ship 46 = .ok (.invokevirtual 72, 3) := by decide +kernel
theorem dX7_ship_49 : decode cX7_ship 49 = .ok (.isub, 1) := by decide +kernel
theorem dX7_ship_50 : decode cX7_ship 50 = .ok (.istore_n 3, 1) := by decide +kernel
theorem dX7_ship_51 : decode cX7_ship 51 = .ok (.iload_n 3, 1) := by decide +kernel
theorem dX7_ship_52 : decode cX7_ship 52 = .ok (.iload_n 2, 1) := by decide +kernel
theorem dX7_ship_53 : decode cX7_ship 53 = .ok (.if_icmp .ge 7, 3) := by decide +kernel
theorem dX7_ship_56 : decode cX7_ship 56 = .ok (.iload_n 3, 1) := by decide +kernel
theorem dX7_ship_57 : decode cX7_ship 57 = .ok (.goto 4, 3) := by decide +kernel
theorem dX7_ship_60 : decode cX7_ship 60 = .ok (.iload_n 2, 1) := by decide +kernel
theorem dX7_ship_61 : decode cX7_ship 61 = .ok (.istore 4, 2) := by decide +kernel
theorem dX7_ship_63 : decode cX7_ship 63 = .ok (.aload_n 0, 1) := by decide +kernel
theorem dX7_ship_64 : decode cX7_ship 64 = .ok (.getfield 7, 3) := by decide +kernel
theorem dX7_ship_67 : decode cX7_ship 67 = .ok (.bipush 12, 2) := by decide +kernel
theorem dX7_ship_69 : decode cX7_ship 69 = .ok (.iconst 3, 1) := by decide +kernel
theorem dX7_ship_70 : decode cX7_ship 70 = .ok (.iload_n 1, 1) := by decide +kernel
theorem dX7_ship_71 : decode cX7_ship 71 = .ok (.imul, 1) := by decide +kernel
theorem dX7_ship_72 : decode cX7_ship 72 = .ok (.iadd, 1) := by decide +kernel
theorem dX7_ship_73 : decode cX7_ship 73 = .ok (.iconst 0, 1) := by decide +kernel
theorem dX7_ship_74 : decode cX7_ship 74 = .ok (.iadd, 1) := by decide +kernel
theorem dX7_ship_75 : decode cX7_ship 75 = .ok (.dup2, 1) := by decide +kernel
theorem dX7_ship_76 : decode cX7_ship 76 = .ok (.iaload, 1) := by decide +kernel
theorem dX7_ship_77 : decode cX7_ship 77 = .ok (.iload 4, 2) := by decide +kernel
theorem dX7_ship_79 : decode cX7_ship 79 = .ok (.iadd, 1) := by decide +kernel
theorem dX7_ship_80 : decode cX7_ship 80 = .ok (.iastore, 1) := by decide +kernel
theorem dX7_ship_81 : decode cX7_ship 81 = .ok (.iload 4, 2) := by decide +kernel
theorem dX7_ship_83 : decode cX7_ship 83 = .ok (.ireturn, 1) := by decide +kernel
set_option maxRecDepth 20000 in
theorem ggX7_gaps_X7_isGap : GoodIn wsX7_gaps wsX7_isGap := goodIn_r _ [5, 6, 7, 8, 9, 10, 11, 12, 13, 14, 15, 16, 17, 18, 19, 20] (by decide +kernel) (by decide +kernel)
set_option maxRecDepth 20000 in
theorem gX7_gaps_X7_isGap : GoodIn wsX7_gaps (wsV RX7 75 RX7 yX7_isGap wsX7_isGap) := goodIn_app (goodIn_of _ (by decide +kernel)) ggX7_gaps_X7_isGap
theorem dX7_gaps_0 : decode cX7_gaps 0 = .ok (.iconst 0, 1) := by decide +kernel
theorem dX7_gaps_1 : decode cX7_gaps 1 = .ok (.istore_n 2, 1) := by decide +kernel
theorem dX7_gaps_2 : decode cX7_gaps 2 = .ok (.iconst 1, 1) := by decide +kernel
theorem dX7_gaps_3 : decode cX7_gaps 3 = .ok (.istore_n 3, 1) := by decide +kernel
theorem dX7_gaps_4 : decode cX7_gaps 4 = .ok (.iload_n 3, 1) := by decide +kernel
theorem dX7_gaps_5 : decode cX7_gaps 5 = .ok (.bipush 100, 2) := by decide +kernel
theorem dX7_gaps_7 : decode cX7_gaps 7 = .ok (.if_icmp .gt 26, 3) := by decide +kernel
theorem dX7_gaps_10 : decode cX7_gaps 10 = .ok (.iload_n 2, 1) := by decide +kernel
theorem dX7_gaps_11 : decode cX7_gaps 11 = .ok (.aload_n 0, 1) := by decide +kernel
theorem dX7_gaps_12 : decode cX7_gaps 12 = .ok (.iload_n 1, 1) := by decide +kernel
theorem dX7_gaps_13 : decode cX7_gaps 13 = .ok (.iload_n 3, 1) := by decide +kernel
theorem dX7_gaps_14 : decode cX7_gaps 14 = .ok (.invokevirtual 75, 3) := by decide +kernel
theorem dX7_gaps_17 : decode cX7_gaps 17 = .ok (.ifCond .eq 7, 3) := by decide +kernel
theorem dX7_gaps_20 : decode cX7_gaps 20 = .ok (.iconst 1, 1) := by decide +kernel
theorem dX7_gaps_21 : decode cX7_gaps 21 = .ok (.goto 4, 3) := by decide +kernel
theorem dX7_gaps_24 : decode cX7_gaps 24 = .ok (.iconst 0, 1) := by decide +kernel
theorem dX7_gaps_25 : decode cX7_gaps 25 = .ok (.iadd, 1) := by decide +kernel
theorem dX7_gaps_26 : decode cX7_gaps 26 = .ok (.istore_n 2, 1) := by decide +kernel
theorem dX7_gaps_27 : decode cX7_gaps 27 = .ok (.iinc 3 1, 3) := by decide +kernel
theorem dX7_gaps_30 : decode cX7_gaps 30 = .ok (.goto (-26), 3) := by decide +kernel
theorem dX7_gaps_33 : decode cX7_gaps 33 = .ok (.iload_n 2, 1) := by decide +kernel
theorem dX7_gaps_34 : decode cX7_gaps 34 = .ok (.ireturn, 1) := by decide +kernel
set_option maxRecDepth 20000 in
theorem ggX7_lowestGap_X7_isGap : GoodIn wsX7_lowestGap wsX7_isGap := goodIn_r _ [6, 7, 8, 9, 10, 11, 12, 13, 14, 15, 16, 17, 18, 19, 20, 21] (by decide +kernel) (by decide +kernel)
set_option maxRecDepth 20000 in
theorem gX7_lowestGap_X7_isGap : GoodIn wsX7_lowestGap (wsV RX7 75 RX7 yX7_isGap wsX7_isGap) := goodIn_app (goodIn_of _ (by decide +kernel)) ggX7_lowestGap_X7_isGap
theorem dX7_lowestGap_0 : decode cX7_lowestGap 0 = .ok (.iconst 1, 1) := by decide +kernel
theorem dX7_lowestGap_1 : decode cX7_lowestGap 1 = .ok (.istore_n 2, 1) := by decide +kernel
theorem dX7_lowestGap_2 : decode cX7_lowestGap 2 = .ok (.iload_n 2, 1) := by decide +kernel
theorem dX7_lowestGap_3 : decode cX7_lowestGap 3 = .ok (.bipush 100, 2) := by decide +kernel
theorem dX7_lowestGap_5 : decode cX7_lowestGap 5 = .ok (.if_icmp .gt 20, 3) := by decide +kernel
theorem dX7_lowestGap_8 : decode cX7_lowestGap 8 = .ok (.aload_n 0, 1) := by decide +kernel
theorem dX7_lowestGap_9 : decode cX7_lowestGap 9 = .ok (.iload_n 1, 1) := by decide +kernel
theorem dX7_lowestGap_10 : decode cX7_lowestGap 10 = .ok (.iload_n 2, 1) := by decide +kernel
theorem dX7_lowestGap_11 : decode cX7_lowestGap 11 = .ok (.invokevirtual 75, 3) := by decide +kernel
theorem dX7_lowestGap_14 : decode cX7_lowestGap 14 = .ok (.ifCond .eq 5, 3) := by decide +kernel
theorem dX7_lowestGap_17 : decode cX7_lowestGap 17 = .ok (.iload_n 2, 1) := by decide +kernel
theorem dX7_lowestGap_18 : decode cX7_lowestGap 18 = .ok (.ireturn, 1) := by decide +kernel
theorem dX7_lowestGap_19 : decode cX7_lowestGap 19 = .ok (.iinc 2 1, 3) := by decide +kernel
theorem dX7_lowestGap_22 : decode cX7_lowestGap 22 = .ok (.goto (-20), 3) := by decide +kernel
theorem dX7_lowestGap_25 : decode cX7_lowestGap 25 = .ok (.ldc 58, 2) := by decide +kernel
theorem dX7_lowestGap_27 : decode cX7_lowestGap 27 = .ok (.ireturn, 1) := by decide +kernel
theorem dX7_fillsGaps_0 : decode cX7_fillsGaps 0 = .ok (.iload_n 2, 1) := by decide +kernel
theorem dX7_fillsGaps_1 : decode cX7_fillsGaps 1 = .ok (.iconst 1, 1) := by decide +kernel
theorem dX7_fillsGaps_2 : decode cX7_fillsGaps 2 = .ok (.iadd, 1) := by decide +kernel
theorem dX7_fillsGaps_3 : decode cX7_fillsGaps 3 = .ok (.istore_n 3, 1) := by decide +kernel
theorem dX7_fillsGaps_4 : decode cX7_fillsGaps 4 = .ok (.iload_n 3, 1) := by decide +kernel
theorem dX7_fillsGaps_5 : decode cX7_fillsGaps 5 = .ok (.bipush 100, 2) := by decide +kernel
theorem dX7_fillsGaps_7 : decode cX7_fillsGaps 7 = .ok (.if_icmp .gt 26, 3) := by decide +kernel
theorem dX7_fillsGaps_10 : decode cX7_fillsGaps 10 = .ok (.aload_n 0, 1) := by decide +kernel
theorem dX7_fillsGaps_11 : decode cX7_fillsGaps 11 = .ok (.getfield 7, 3) := by decide +kernel
theorem dX7_fillsGaps_14 : decode cX7_fillsGaps 14 = .ok (.bipush 18, 2) := by decide +kernel
theorem dX7_fillsGaps_16 : decode cX7_fillsGaps 16 = .ok (.bipush 100, 2) := by decide +kernel
theorem dX7_fillsGaps_18 : decode cX7_fillsGaps 18 = .ok (.iload_n 1, 1) := by decide +kernel
theorem dX7_fillsGaps_19 : decode cX7_fillsGaps 19 = .ok (.imul, 1) := by decide +kernel
theorem dX7_fillsGaps_20 : decode cX7_fillsGaps 20 = .ok (.iadd, 1) := by decide +kernel
theorem dX7_fillsGaps_21 : decode cX7_fillsGaps 21 = .ok (.iload_n 3, 1) := by decide +kernel
theorem dX7_fillsGaps_22 : decode cX7_fillsGaps 22 = .ok (.iadd, 1) := by decide +kernel
theorem dX7_fillsGaps_23 : decode cX7_fillsGaps 23 = .ok (.iconst 1, 1) := by decide +kernel
theorem dX7_fillsGaps_24 : decode cX7_fillsGaps 24 = .ok (.isub, 1) := by decide +kernel
theorem dX7_fillsGaps_25 : decode cX7_fillsGaps 25 = .ok (.iconst 0, 1) := by decide +kernel
theorem dX7_fillsGaps_26 : decode cX7_fillsGaps 26 = .ok (.iastore, 1) := by decide +kernel
theorem dX7_fillsGaps_27 : decode cX7_fillsGaps 27 = .ok (.iinc 3 1, 3) := by decide +kernel
