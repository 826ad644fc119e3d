theorem dX4_shipTo_42 : decode cX4_shipTo 42 = .ok (.getfield 57, 3) := by decide +kernel
theorem dX4_shipTo_45 : decode cX4_shipTo 45 = .ok (.aload_n 3, 1) := by decide +kernel
theorem dX4_shipTo_46 : decode cX4_shipTo 46 = .ok (.getfield 88, 3) := by decide +kernel
theorem dX4_shipTo_49 : decode cX4_shipTo 49 = .ok (.isub, 1) := by decide +kernel
theorem dX4_shipTo_50 : decode cX4_shipTo 50 = .ok (.invokestatic 91, 3) := by decide +kernel
theorem dX4_shipTo_53 : decode cX4_shipTo 53 = .ok (.istore 4, 2) := by decide +kernel
theorem dX4_shipTo_55 : decode cX4_shipTo 55 = .ok (.aload_n 3, 1) := by decide +kernel
theorem dX4_shipTo_56 : decode cX4_shipTo 56 = .ok (.dup, 1) := by decide +kernel
theorem dX4_shipTo_57 : decode cX4_shipTo 57 = .ok (.getfield 88, 3) := by decide +kernel
theorem dX4_shipTo_60 : decode cX4_shipTo 60 = .ok (.iload 4, 2) := by decide +kernel
theorem dX4_shipTo_62 : decode cX4_shipTo 62 = .ok (.iadd, 1) := by decide +kernel
theorem dX4_shipTo_63 : decode cX4_shipTo 63 = .ok (.putfield 88, 3) := by decide +kernel
theorem dX4_shipTo_66 : decode cX4_shipTo 66 = .ok (.iload 4, 2) := by decide +kernel
theorem dX4_shipTo_68 : decode cX4_shipTo 68 = .ok (.ireturn, 1) := by decide +kernel
set_option maxRecDepth 20000 in
theorem ggX4_loseFor_X6_isStandby : GoodIn wsX4_loseFor wsX6_isStandby := goodIn_r _ [9] (by decide +kernel) (by decide +kernel)
set_option maxRecDepth 20000 in
theorem gX4_loseFor_X6_isStandby_n77 : GoodIn wsX4_loseFor (wsX6_isStandby) := ggX4_loseFor_X6_isStandby
set_option maxRecDepth 20000 in
theorem ggX4_loseFor_X4_standby : GoodIn wsX4_loseFor wsX4_standby := goodIn_r _ [14, 15, 16, 35, 36, 37, 38, 39, 40, 41, 42, 43, 44, 45, 46] (by decide +kernel) (by decide +kernel)
set_option maxRecDepth 20000 in
theorem gX4_loseFor_X4_standby : GoodIn wsX4_loseFor (wsV RX4 80 RX4 yX4_standby wsX4_standby) := goodIn_app (goodIn_of _ (by decide +kernel)) ggX4_loseFor_X4_standby
set_option maxRecDepth 20000 in
theorem ggX4_loseFor_X3_isGap : GoodIn wsX4_loseFor wsX3_isGap := goodIn_r _ [21, 22, 31, 32, 33, 34] (by decide +kernel) (by decide +kernel)
set_option maxRecDepth 20000 in
theorem gX4_loseFor_X3_isGap : GoodIn wsX4_loseFor (wsV RX4 100 RX3 yX3_isGap wsX3_isGap) := goodIn_app (goodIn_of _ (by decide +kernel)) ggX4_loseFor_X3_isGap
set_option maxRecDepth 20000 in
theorem ggX4_loseFor_X3_setGap : GoodIn wsX4_loseFor wsX3_setGap := goodIn_r _ [26, 22, 31, 32, 33, 34] (by decide +kernel) (by decide +kernel)
set_option maxRecDepth 20000 in
theorem gX4_loseFor_X3_setGap : GoodIn wsX4_loseFor (wsV RX4 103 RX3 yX3_setGap wsX3_setGap) := goodIn_app (goodIn_of _ (by decide +kernel)) ggX4_loseFor_X3_setGap
set_option maxRecDepth 20000 in
theorem ggX4_loseFor_X3_gapCount : GoodIn wsX4_loseFor wsX3_gapCount := goodIn_r _ [30, 22, 31, 32, 33, 34] (by decide +kernel) (by decide +kernel)
set_option maxRecDepth 20000 in
theorem gX4_loseFor_X3_gapCount : GoodIn wsX4_loseFor (wsV RX4 107 RX3 yX3_gapCount wsX3_gapCount) := goodIn_app (goodIn_of _ (by decide +kernel)) ggX4_loseFor_X3_gapCount
theorem dX4_loseFor_0 : decode cX4_loseFor 0 = .ok (.iload_n 1, 1) := by decide +kernel
theorem dX4_loseFor_1 : decode cX4_loseFor 1 = .ok (.invokestatic 77, 3) := by decide +kernel
theorem dX4_loseFor_4 : decode cX4_loseFor 4 = .ok (.ifCond .eq 8, 3) := by decide +kernel
theorem dX4_loseFor_7 : decode cX4_loseFor 7 = .ok (.iload_n 2, 1) := by decide +kernel
theorem dX4_loseFor_8 : decode cX4_loseFor 8 = .ok (.iconst 1, 1) := by decide +kernel
theorem dX4_loseFor_9 : decode cX4_loseFor 9 = .ok (.if_icmp .ge 6, 3) := by decide +kernel
theorem dX4_loseFor_12 : decode cX4_loseFor 12 = .ok (.ldc 64, 2) := by decide +kernel
theorem dX4_loseFor_14 : decode cX4_loseFor 14 = .ok (.ireturn, 1) := by decide +kernel
theorem dX4_loseFor_15 : decode cX4_loseFor 15 = .ok (.aload_n 0, 1) := by decide +kernel
theorem dX4_loseFor_16 : decode cX4_loseFor 16 = .ok (.iload_n 1, 1) := by decide +kernel
theorem dX4_loseFor_17 : decode cX4_loseFor 17 = .ok (.invokevirtual 80, 3) := by decide +kernel
theorem dX4_loseFor_20 : decode cX4_loseFor 20 = .ok (.astore_n 3, 1) := by decide +kernel
theorem dX4_loseFor_21 : decode cX4_loseFor 21 = .ok (.aload_n 3, 1) := by decide +kernel
theorem dX4_loseFor_22 : decode cX4_loseFor 22 = .ok (.getfield 84, 3) := by decide +kernel
theorem dX4_loseFor_25 : decode cX4_loseFor 25 = .ok (.ifCond .ne 27, 3) := by decide +kernel
theorem dX4_loseFor_28 : decode cX4_loseFor 28 = .ok (.iload_n 2, 1) := by decide +kernel
theorem dX4_loseFor_29 : decode cX4_loseFor 29 = .ok (.aload_n 3, 1) := by decide +kernel
theorem dX4_loseFor_30 : decode cX4_loseFor 30 = .ok (.getfield 88, 3) := by decide +kernel
theorem dX4_loseFor_33 : decode cX4_loseFor 33 = .ok (.if_icmp .gt 19, 3) := by decide +kernel
theorem dX4_loseFor_36 : decode cX4_loseFor 36 = .ok (.iload_n 2, 1) := by decide +kernel
theorem dX4_loseFor_37 : decode cX4_loseFor 37 = .ok (.aload_n 3, 1) := by decide +kernel
theorem dX4_loseFor_38 : decode cX4_loseFor 38 = .ok (.getfield 97, 3) := by decide +kernel
theorem dX4_loseFor_41 : decode cX4_loseFor 41 = .ok (.if_icmp .le 11, 3) := by decide +kernel
theorem dX4_loseFor_44 : decode cX4_loseFor 44 = .ok (.aload_n 3, 1) := by decide +kernel
theorem dX4_loseFor_45 : decode cX4_loseFor 45 = .ok (.iload_n 2, 1) := by decide +kernel
theorem dX4_loseFor_46 : decode cX4_loseFor 46 = .ok (.invokevirtual 100, 3) := by decide +kernel
theorem dX4_loseFor_49 : decode cX4_loseFor 49 = .ok (.ifCond .eq 6, 3) := by decide +kernel
theorem dX4_loseFor_52 : decode cX4_loseFor 52 = .ok (.ldc 65, 2) := by decide +kernel
theorem dX4_loseFor_54 : decode cX4_loseFor 54 = .ok (.ireturn, 1) := by decide +kernel
theorem dX4_loseFor_55 : decode cX4_loseFor 55 = .ok (.aload_n 3, 1) := by decide +kernel
theorem dX4_loseFor_56 : decode cX4_loseFor 56 = .ok (.iload_n 2, 1) := by decide +kernel
theorem dX4_loseFor_57 : decode cX4_loseFor 57 = .ok (.invokevirtual 103, 3) := by decide +kernel
theorem dX4_loseFor_60 : decode cX4_loseFor 60 = .ok (.aload_n 0, 1) := by decide +kernel
theorem dX4_loseFor_61 : decode cX4_loseFor 61 = .ok (.dup, 1) := by decide +kernel
theorem dX4_loseFor_62 : decode cX4_loseFor 62 = .ok (.getfield 45, 3) := by decide +kernel
theorem dX4_loseFor_65 : decode cX4_loseFor 65 = .ok (.iconst 1, 1) := by decide +kernel
theorem dX4_loseFor_66 : decode cX4_loseFor 66 = .ok (.iadd, 1) := by decide +kernel
theorem dX4_loseFor_67 : decode cX4_loseFor 67 = .ok (.putfield 45, 3) := by decide +kernel
theorem dX4_loseFor_70 : decode cX4_loseFor 70 = .ok (.aload_n 3, 1) := by decide +kernel
theorem dX4_loseFor_71 : decode cX4_loseFor 71 = .ok (.invokevirtual 107, 3) := by decide +kernel
theorem dX4_loseFor_74 : decode cX4_loseFor 74 = .ok (.ireturn, 1) := by decide +kernel
set_option maxRecDepth 20000 in
theorem ggX4_resendTo_X6_isStandby : GoodIn wsX4_resendTo wsX6_isStandby := goodIn_r _ [6] (by decide +kernel) (by decide +kernel)
set_option maxRecDepth 20000 in
theorem gX4_resendTo_X6_isStandby_n77 : GoodIn wsX4_resendTo (wsX6_isStandby) := ggX4_resendTo_X6_isStandby
set_option maxRecDepth 20000 in
theorem ggX4_resendTo_X4_standby : GoodIn wsX4_resendTo wsX4_standby := goodIn_r _ [11, 12, 13, 32, 33, 34, 35, 36, 37, 38, 39, 40, 41, 42, 43] (by decide +kernel) (by decide +kernel)
set_option maxRecDepth 20000 in
theorem gX4_resendTo_X4_standby : GoodIn wsX4_resendTo (wsV RX4 80 RX4 yX4_standby wsX4_standby) := goodIn_app (goodIn_of _ (by decide +kernel)) ggX4_resendTo_X4_standby
set_option maxRecDepth 20000 in
theorem ggX4_resendTo_X3_gapCount : GoodIn wsX4_resendTo wsX3_gapCount := goodIn_r _ [18, 19, 28, 29, 30, 31] (by decide +kernel) (by decide +kernel)
set_option maxRecDepth 20000 in
theorem gX4_resendTo_X3_gapCount : GoodIn wsX4_resendTo (wsV RX4 107 RX3 yX3_gapCount wsX3_gapCount) := goodIn_app (goodIn_of _ (by decide +kernel)) ggX4_resendTo_X3_gapCount
set_option maxRecDepth 20000 in
theorem ggX4_resendTo_X3_dropGapsBehind : GoodIn wsX4_resendTo wsX3_dropGapsBehind := goodIn_r _ [23, 24, 25, 26, 27, 19, 28, 29, 30, 31] (by decide +kernel) (by decide +kernel)
set_option maxRecDepth 20000 in
theorem gX4_resendTo_X3_dropGapsBehind : GoodIn wsX4_resendTo (wsV RX4 111 RX3 yX3_dropGapsBehind wsX3_dropGapsBehind) := goodIn_app (goodIn_of _ (by decide +kernel)) ggX4_resendTo_X3_dropGapsBehind
theorem dX4_resendTo_0 : decode cX4_resendTo 0 = .ok (.iload_n 1, 1) := by decide +kernel
theorem dX4_resendTo_1 : decode cX4_resendTo 1 = .ok (.invokestatic 77, 3) := by decide +kernel
theorem dX4_resendTo_4 : decode cX4_resendTo 4 = .ok (.ifCond .ne 6, 3) := by decide +kernel
theorem dX4_resendTo_7 : decode cX4_resendTo 7 = .ok (.ldc 64, 2) := by decide +kernel
theorem dX4_resendTo_9 : decode cX4_resendTo 9 = .ok (.ireturn, 1) := by decide +kernel
theorem dX4_resendTo_10 : decode cX4_resendTo 10 = .ok (.aload_n 0, 1) := by decide +kernel
theorem dX4_resendTo_11 : decode cX4_resendTo 11 = .ok (.iload_n 1, 1) := by decide +kernel
theorem dX4_resendTo_12 : decode cX4_resendTo 12 = .ok (.invokevirtual 80, 3) := by decide +kernel
theorem dX4_resendTo_15 : decode cX4_resendTo 15 = .ok (.astore_n 2, 1) := by decide +kernel
theorem dX4_resendTo_16 : decode cX4_resendTo 16 = .ok (.aload_n 2, 1) := by decide +kernel
theorem dX4_resendTo_17 : decode cX4_resendTo 17 = .ok (.getfield 84, 3) := by decide +kernel
theorem dX4_resendTo_20 : decode cX4_resendTo 20 = .ok (.ifCond .eq 6, 3) := by decide +kernel
theorem dX4_resendTo_23 : decode cX4_resendTo 23 = .ok (.ldc 65, 2) := by decide +kernel
theorem dX4_resendTo_25 : decode cX4_resendTo 25 = .ok (.ireturn, 1) := by decide +kernel
theorem dX4_resendTo_26 : decode cX4_resendTo 26 = .ok (.aload_n 2, 1) := by decide +kernel
theorem dX4_resendTo_27 : decode cX4_resendTo 27 = .ok (.invokevirtual 107, 3) := by decide +kernel
theorem dX4_resendTo_30 : decode cX4_resendTo 30 = .ok (.istore_n 3, 1) := by decide +kernel
theorem dX4_resendTo_31 : decode cX4_resendTo 31 = .ok (.aload_n 2, 1) := by decide +kernel
theorem dX4_resendTo_32 : decode cX4_resendTo 32 = .ok (.iconst 0, 1) := by decide +kernel
theorem dX4_resendTo_33 : decode cX4_resendTo 33 = .ok (.invokevirtual 111, 3) := by decide +kernel
theorem dX4_resendTo_36 : decode cX4_resendTo 36 = .ok (.iload_n 3, 1) := by decide +kernel
theorem dX4_resendTo_37 : decode cX4_resendTo 37 = .ok (.ireturn, 1) := by decide +kernel
set_option maxRecDepth 20000 in
theorem ggX4_pass_X6_isTicks : GoodIn wsX4_pass wsX6_isTicks := goodIn_r _ [8] (by decide +kernel) (by decide +kernel)
set_option maxRecDepth 20000 in
theorem gX4_pass_X6_isTicks_n114 : GoodIn wsX4_pass (wsX6_isTicks) := ggX4_pass_X6_isTicks
set_option maxRecDepth 20000 in
theorem ggX4_pass_X4_standby : GoodIn wsX4_pass wsX4_standby := goodIn_r _ [13, 14, 15, 42, 43, 44, 45, 46, 47, 48, 49, 50, 51, 52, 53] (by decide +kernel) (by decide +kernel)
set_option maxRecDepth 20000 in
theorem gX4_pass_X4_standby : GoodIn wsX4_pass (wsV RX4 80 RX4 yX4_standby wsX4_standby) := goodIn_app (goodIn_of _ (by decide +kernel)) ggX4_pass_X4_standby
set_option maxRecDepth 20000 in
theorem ggX4_pass_X4_appliedAfter : GoodIn wsX4_pass wsX4_appliedAfter := goodIn_r _ [19, 20, 21, 22, 23, 24, 25, 26, 27, 28, 29, 30, 31, 32, 33, 34, 35, 36, 37, 38, 39, 40, 41, 54, 55, 56, 57, 42, 43, 44, 45, 46, 47, 48, 49, 50, 51, 52, 53, 58, 59, 60, 61, 62, 63] (by decide +kernel) (by decide +kernel)
set_option maxRecDepth 20000 in
theorem gX4_pass_X4_appliedAfter : GoodIn wsX4_pass (wsV RX4 117 RX4 yX4_appliedAfter wsX4_appliedAfter) := goodIn_app (goodIn_of _ (by decide +kernel)) ggX4_pass_X4_appliedAfter
theorem dX4_pass_0 : decode cX4_pass 0 = .ok (.iload_n 1, 1) := by decide +kernel
theorem dX4_pass_1 : decode cX4_pass 1 = .ok (.invokestatic 114, 3) := by decide +kernel
theorem dX4_pass_4 : decode cX4_pass 4 = .ok (.ifCond .ne 6, 3) := by decide +kernel
theorem dX4_pass_7 : decode cX4_pass 7 = .ok (.ldc 64, 2) := by decide +kernel
theorem dX4_pass_9 : decode cX4_pass 9 = .ok (.ireturn, 1) := by decide +kernel
theorem dX4_pass_10 : decode cX4_pass 10 = .ok (.iconst 0, 1) := by decide +kernel
theorem dX4_pass_11 : decode cX4_pass 11 = .ok (.istore_n 2, 1) := by decide +kernel
theorem dX4_pass_12 : decode cX4_pass 12 = .ok (.iconst 0, 1) := by decide +kernel
theorem dX4_pass_13 : decode cX4_pass 13 = .ok (.istore_n 3, 1) := by decide +kernel
theorem dX4_pass_14 : decode cX4_pass 14 = .ok (.iload_n 3, 1) := by decide +kernel
theorem dX4_pass_15 : decode cX4_pass 15 = .ok (.iload_n 1, 1) := by decide +kernel
theorem dX4_pass_16 : decode cX4_pass 16 = .ok (.if_icmp .ge 81, 3) := by decide +kernel
theorem dX4_pass_19 : decode cX4_pass 19 = .ok (.aload_n 0, 1) := by decide +kernel
theorem dX4_pass_20 : decode cX4_pass 20 = .ok (.dup, 1) := by decide +kernel
theorem dX4_pass_21 : decode cX4_pass 21 = .ok (.getfield 32, 3) := by decide +kernel
theorem dX4_pass_24 : decode cX4_pass 24 = .ok (.iconst 1, 1) := by decide +kernel
theorem dX4_pass_25 : decode cX4_pass 25 = .ok (.iadd, 1) := by decide +kernel
theorem dX4_pass_26 : decode cX4_pass 26 = .ok (.putfield 32, 3) := by decide +kernel
theorem dX4_pass_29 : decode cX4_pass 29 = .ok (.iconst 0, 1) := by decide +kernel
theorem dX4_pass_30 : decode cX4_pass 30 = .ok (.istore 4, 2) := by decide +kernel
theorem dX4_pass_32 : decode cX4_pass 32 = .ok (.iload 4, 2) := by decide +kernel
theorem dX4_pass_34 : decode cX4_pass 34 = .ok (.iconst 2, 1) := by decide +kernel
theorem dX4_pass_35 : decode cX4_pass 35 = .ok (.if_icmp .ge 56, 3) := by decide +kernel
theorem dX4_pass_38 : decode cX4_pass 38 = .ok (.aload_n 0, 1) := by decide +kernel
theorem dX4_pass_39 : decode cX4_pass 39 = .ok (.iload 4, 2) := by decide +kernel
theorem dX4_pass_41 : decode cX4_pass 41 = .ok (.invokevirtual 80, 3) := by decide +kernel
theorem dX4_pass_44 : decode cX4_pass 44 = .ok (.astore 5, 2) := by decide +kernel
theorem dX4_pass_46 : decode cX4_pass 46 = .ok (.aload_n 0, 1) := by decide +kernel
theorem dX4_pass_47 : decode cX4_pass 47 = .ok (.aload 5, 2) := by decide +kernel
theorem dX4_pass_49 : decode cX4_pass 49 = .ok (.aload 5, 2) := by decide +kernel
theorem dX4_pass_51 : decode cX4_pass 51 = .ok (.getfield 97, 3) := by decide +kernel
theorem dX4_pass_54 : decode cX4_pass 54 = .ok (.aload_n 0, 1) := by decide +kernel
theorem dX4_pass_55 : decode cX4_pass 55 = .ok (.getfield 32, 3) := by decide +kernel
theorem dX4_pass_58 : decode cX4_pass 58 = .ok (.aload_n 0, 1) := by decide +kernel
theorem dX4_pass_59 : decode cX4_pass 59 = .ok (.getfield 51, 3) := by decide +kernel
theorem dX4_pass_62 : decode cX4_pass 62 = .ok (.invokevirtual 117, 3) := by decide +kernel
theorem dX4_pass_65 : decode cX4_pass 65 = .ok (.istore 6, 2) := by decide +kernel
theorem dX4_pass_67 : decode cX4_pass 67 = .ok (.iload_n 2, 1) := by decide +kernel
theorem dX4_pass_68 : decode cX4_pass 68 = .ok (.iload 6, 2) := by decide +kernel
theorem dX4_pass_70 : decode cX4_pass 70 = .ok (.aload 5, 2) := by decide +kernel
theorem dX4_pass_72 : decode cX4_pass 72 = .ok (.getfield 97, 3) := by decide +kernel
theorem dX4_pass_75 : decode cX4_pass 75 = .ok (.isub, 1) := by decide +kernel
theorem dX4_pass_76 : decode cX4_pass 76 = .ok (.iadd, 1) := by decide +kernel
theorem dX4_pass_77 : decode cX4_pass 77 = .ok (.istore_n 2, 1) := by decide +kernel
theorem dX4_pass_78 : decode cX4_pass 78 = .ok (.aload 5, 2) := by decide +kernel
theorem dX4_pass_80 : decode cX4_pass 80 = .ok (.iload 6, 2) := by decide +kernel
theorem dX4_pass_82 : decode cX4_pass 82 = .ok (.putfield 97, 3) := by decide +kernel
theorem dX4_pass_85 : decode cX4_pass 85 = .ok (.iinc 4 1, 3) := by decide +kernel
theorem dX4_pass_88 : decode cX4_pass 88 = .ok (.goto (-56), 3) := by decide +kernel
theorem dX4_pass_91 : decode cX4_pass 91 = .ok (.iinc 3 1, 3) := by decide +kernel
theorem dX4_pass_94 : decode cX4_pass 94 = .ok (.goto (-80), 3) := by decide +kernel
theorem dX4_pass_97 : decode cX4_pass 97 = .ok (.aload_n 0, 1) := by decide +kernel
theorem dX4_pass_98 : decode cX4_pass 98 = .ok (.dup, 1) := by decide +kernel
theorem dX4_pass_99 : decode cX4_pass 99 = .ok (.getfield 48, 3) := by decide +kernel
theorem dX4_pass_102 : decode cX4_pass 102 = .ok (.iload_n 2, 1) := by decide +kernel
theorem dX4_pass_103 : decode cX4_pass 103 = .ok (.iadd, 1) := by decide +kernel
theorem dX4_pass_104 : decode cX4_pass 104 = .ok (.putfield 48, 3) := by decide +kernel
theorem dX4_pass_107 : decode cX4_pass 107 = .ok (.iload_n 2, 1) := by decide +kernel
theorem dX4_pass_108 : decode cX4_pass 108 = .ok (.ireturn, 1) := by decide +kernel
set_option maxRecDepth 20000 in
theorem ggX4_appliedAfter_X3_isGap : GoodIn wsX4_appliedAfter wsX3_isGap := goodIn_r _ [9, 10, 23, 24, 25, 26] (by decide +kernel) (by decide +kernel)
set_option maxRecDepth 20000 in
theorem gX4_appliedAfter_X3_isGap : GoodIn wsX4_appliedAfter (wsV RX4 100 RX3 yX3_isGap wsX3_isGap) := goodIn_app (goodIn_of _ (by decide +kernel)) ggX4_appliedAfter_X3_isGap
set_option maxRecDepth 20000 in
theorem ggX4_appliedAfter_X1_tickOf : GoodIn wsX4_appliedAfter wsX1_tickOf := goodIn_r _ [15, 16, 17, 18, 19, 20, 14, 21, 22, 39, 40, 41, 42, 43, 44] (by decide +kernel) (by decide +kernel)
set_option maxRecDepth 20000 in
theorem gX4_appliedAfter_X1_tickOf : GoodIn wsX4_appliedAfter (wsV RX4 121 RX1 yX1_tickOf wsX1_tickOf) := goodIn_app (goodIn_of _ (by decide +kernel)) ggX4_appliedAfter_X1_tickOf
theorem dX4_appliedAfter_0 : decode cX4_appliedAfter 0 = .ok (.iload_n 2, 1) := by decide +kernel
theorem dX4_appliedAfter_1 : decode cX4_appliedAfter 1 = .ok (.istore 5, 2) := by decide +kernel
theorem dX4_appliedAfter_3 : decode cX4_appliedAfter 3 = .ok (.aload_n 1, 1) := by decide +kernel
theorem dX4_appliedAfter_4 : decode cX4_appliedAfter 4 = .ok (.getfield 84, 3) := by decide +kernel
theorem dX4_appliedAfter_7 : decode cX4_appliedAfter 7 = .ok (.ifCond .eq 6, 3) := by decide +kernel
theorem dX4_appliedAfter_10 : decode cX4_appliedAfter 10 = .ok (.iload 5, 2) := by decide +kernel
theorem dX4_appliedAfter_12 : decode cX4_appliedAfter 12 = .ok (.ireturn, 1) := by decide +kernel
theorem dX4_appliedAfter_13 : decode cX4_appliedAfter 13 = .ok (.iconst 0, 1) := by decide +kernel
theorem dX4_appliedAfter_14 : decode cX4_appliedAfter 14 = .ok (.istore 6, 2) := by decide +kernel
theorem dX4_appliedAfter_16 : decode cX4_appliedAfter 16 = .ok (.iload 6, 2) := by decide +kernel
theorem dX4_appliedAfter_18 : decode cX4_appliedAfter 18 = .ok (.iload 4, 2) := by decide +kernel
theorem dX4_appliedAfter_20 : decode cX4_appliedAfter 20 = .ok (.if_icmp .ge 58, 3) := by decide +kernel
theorem dX4_appliedAfter_23 : decode cX4_appliedAfter 23 = .ok (.iload 5, 2) := by decide +kernel
theorem dX4_appliedAfter_25 : decode cX4_appliedAfter 25 = .ok (.iconst 1, 1) := by decide +kernel
theorem dX4_appliedAfter_26 : decode cX4_appliedAfter 26 = .ok (.iadd, 1) := by decide +kernel
theorem dX4_appliedAfter_27 : decode cX4_appliedAfter 27 = .ok (.istore 7, 2) := by decide +kernel
theorem dX4_appliedAfter_29 : decode cX4_appliedAfter 29 = .ok (.iload 7, 2) := by decide +kernel
theorem dX4_appliedAfter_31 : decode cX4_appliedAfter 31 = .ok (.aload_n 1, 1) := by decide +kernel
theorem dX4_appliedAfter_32 : decode cX4_appliedAfter 32 = .ok (.getfield 88, 3) := by decide +kernel
theorem dX4_appliedAfter_35 : decode cX4_appliedAfter 35 = .ok (.if_icmp .gt 30, 3) := by decide +kernel
theorem dX4_appliedAfter_38 : decode cX4_appliedAfter 38 = .ok (.aload_n 1, 1) := by decide +kernel
theorem dX4_appliedAfter_39 : decode cX4_appliedAfter 39 = .ok (.iload 7, 2) := by decide +kernel
theorem dX4_appliedAfter_41 : decode cX4_appliedAfter 41 = .ok (.invokevirtual 100, 3) := by decide +kernel
theorem dX4_appliedAfter_44 : decode cX4_appliedAfter 44 = .ok (.ifCond .ne 21, 3) := by decide +kernel
theorem dX4_appliedAfter_47 : decode cX4_appliedAfter 47 = .ok (.aload_n 0, 1) := by decide +kernel
theorem dX4_appliedAfter_48 : decode cX4_appliedAfter 48 = .ok (.getfield 12, 3) := by decide +kernel
theorem dX4_appliedAfter_51 : decode cX4_appliedAfter 51 = .ok (.iload 7, 2) := by decide +kernel
theorem dX4_appliedAfter_53 : decode cX4_appliedAfter 53 = .ok (.invokevirtual 121, 3) := by decide +kernel
theorem dX4_appliedAfter_56 : decode cX4_appliedAfter 56 = .ok (.iload_n 3, 1) := by decide +kernel
theorem dX4_appliedAfter_57 : decode cX4_appliedAfter 57 = .ok (.aload_n 0, 1) := by decide +kernel
theorem dX4_appliedAfter_58 : decode cX4_appliedAfter 58 = .ok (.getfield 54, 3) := by decide +kernel
theorem dX4_appliedAfter_61 : decode cX4_appliedAfter 61 = .ok (.isub, 1) := by decide +kernel
theorem dX4_appliedAfter_62 : decode cX4_appliedAfter 62 = .ok (.if_icmp .le 6, 3) := by decide +kernel
theorem dX4_appliedAfter_65 : decode cX4_appliedAfter 65 = .ok (.iload 5, 2) := by decide +kernel
theorem dX4_appliedAfter_67 : decode cX4_appliedAfter 67 = .ok (.ireturn, 1) := by decide +kernel
theorem dX4_appliedAfter_68 : decode cX4_appliedAfter 68 = .ok (.iload 7, 2) := by decide +kernel
theorem dX4_appliedAfter_70 : decode cX4_appliedAfter 70 = .ok (.istore 5, 2) := by decide +kernel
theorem dX4_appliedAfter_72 : decode cX4_appliedAfter 72 = .ok (.iinc 6 1, 3) := by decide +kernel
theorem dX4_appliedAfter_75 : decode cX4_appliedAfter 75 = .ok (.goto (-59), 3) := by decide +kernel
theorem dX4_appliedAfter_78 : decode cX4_appliedAfter 78 = .ok (.iload 5, 2) := by decide +kernel
theorem dX4_appliedAfter_80 : decode cX4_appliedAfter 80 = .ok (.ireturn, 1) := by decide +kernel
set_option maxRecDepth 20000 in
theorem ggX4_ticksUntil_X4_appliedAfter : GoodIn wsX4_ticksUntil wsX4_appliedAfter := goodIn_r _ [9, 10, 11, 12, 13, 14, 15, 16, 17, 18, 19, 20, 21, 22, 23, 24, 25, 26, 27, 28, 29, 30, 31, 32, 33, 34, 35, 36, 37, 38, 39, 40, 41, 42, 43, 44, 45, 46, 47, 48, 49, 50, 51, 52, 53] (by decide +kernel) (by decide +kernel)
set_option maxRecDepth 20000 in
theorem gX4_ticksUntil_X4_appliedAfter : GoodIn wsX4_ticksUntil (wsV RX4 117 RX4 yX4_appliedAfter wsX4_appliedAfter) := goodIn_app (goodIn_of _ (by decide +kernel)) ggX4_ticksUntil_X4_appliedAfter
theorem dX4_ticksUntil_0 : decode cX4_ticksUntil 0 = .ok (.aload_n 1, 1) := by decide +kernel
theorem dX4_ticksUntil_1 : decode cX4_ticksUntil 1 = .ok (.getfield 97, 3) := by decide +kernel
theorem dX4_ticksUntil_4 : decode cX4_ticksUntil 4 = .ok (.istore_n 3, 1) := by decide +kernel
theorem dX4_ticksUntil_5 : decode cX4_ticksUntil 5 = .ok (.iconst 0, 1) := by decide +kernel
theorem dX4_ticksUntil_6 : decode cX4_ticksUntil 6 = .ok (.istore 4, 2) := by decide +kernel
theorem dX4_ticksUntil_8 : decode cX4_ticksUntil 8 = .ok (.iload 4, 2) := by decide +kernel
theorem dX4_ticksUntil_10 : decode cX4_ticksUntil 10 = .ok (.sipush 200, 3) := by decide +kernel
theorem dX4_ticksUntil_13 : decode cX4_ticksUntil 13 = .ok (.if_icmp .gt 37, 3) := by decide +kernel
theorem dX4_ticksUntil_16 : decode cX4_ticksUntil 16 = .ok (.iload_n 3, 1) := by decide +kernel
theorem dX4_ticksUntil_17 : decode cX4_ticksUntil 17 = .ok (.iload_n 2, 1) := by decide +kernel
theorem dX4_ticksUntil_18 : decode cX4_ticksUntil 18 = .ok (.if_icmp .lt 6, 3) := by decide +kernel
theorem dX4_ticksUntil_21 : decode cX4_ticksUntil 21 = .ok (.iload 4, 2) := by decide +kernel
theorem dX4_ticksUntil_23 : decode cX4_ticksUntil 23 = .ok (.ireturn, 1) := by decide +kernel
theorem dX4_ticksUntil_24 : decode cX4_ticksUntil 24 = .ok (.aload_n 0, 1) := by decide +kernel
theorem dX4_ticksUntil_25 : decode cX4_ticksUntil 25 = .ok (.aload_n 1, 1) := by decide +kernel
theorem dX4_ticksUntil_26 : decode cX4_ticksUntil 26 = .ok (.iload_n 3, 1) := by decide +kernel
theorem dX4_ticksUntil_27 : decode cX4_ticksUntil 27 = .ok (.aload_n 0, 1) := by decide +kernel
theorem dX4_ticksUntil_28 : decode cX4_ticksUntil 28 = .ok (.getfield 32, 3) := by decide +kernel
theorem dX4_ticksUntil_31 : decode cX4_ticksUntil 31 = .ok (.iload 4, 2) := by decide +kernel
theorem dX4_ticksUntil_33 : decode cX4_ticksUntil 33 = .ok (.iadd, 1) := by decide +kernel
theorem dX4_ticksUntil_34 : decode cX4_ticksUntil 34 = .ok (.iconst 1, 1) := by decide +kernel
theorem dX4_ticksUntil_35 : decode cX4_ticksUntil 35 = .ok (.iadd, 1) := by decide +kernel
theorem dX4_ticksUntil_36 : decode cX4_ticksUntil 36 = .ok (.aload_n 0, 1) := by decide +kernel
theorem dX4_ticksUntil_37 : decode cX4_ticksUntil 37 = .ok (.getfield 51, 3) := by decide +kernel
theorem dX4_ticksUntil_40 : decode cX4_ticksUntil 40 = .ok (.invokevirtual 117, 3) := by decide +kernel
theorem dX4_ticksUntil_43 : decode cX4_ticksUntil 43 = .ok (.istore_n 3, 1) := by decide +kernel
theorem dX4_ticksUntil_44 : decode cX4_ticksUntil 44 = .ok (.iinc 4 1, 3) := by decide +kernel
theorem dX4_ticksUntil_47 : decode cX4_ticksUntil 47 = .ok (.goto (-39), 3) := by decide +kernel
theorem dX4_ticksUntil_50 : decode cX4_ticksUntil 50 = .ok (.ldc 125, 2) := by decide +kernel
theorem dX4_ticksUntil_52 : decode cX4_ticksUntil 52 = .ok (.ireturn, 1) := by decide +kernel
set_option maxRecDepth 20000 in
theorem ggX4_leastRate_X3_reachable : GoodIn wsX4_leastRate wsX3_reachable := goodIn_r _ [6, 7, 8, 9, 10, 5, 11, 12, 44, 45, 46, 47] (by decide +kernel) (by decide +kernel)
set_option maxRecDepth 20000 in
theorem gX4_leastRate_X3_reachable : GoodIn wsX4_leastRate (wsV RX4 126 RX3 yX3_reachable wsX3_reachable) := goodIn_app (goodIn_of _ (by decide +kernel)) ggX4_leastRate_X3_reachable
set_option maxRecDepth 20000 in
theorem ggX4_leastRate_X4_comesTo : GoodIn wsX4_leastRate wsX4_comesTo := goodIn_r _ [17, 18, 19, 20, 21, 22, 16, 23, 24, 25, 26, 27, 28, 29, 30, 5, 31, 12, 32, 33, 34, 35, 36, 37, 38, 39, 40, 41, 42, 43, 44, 45, 46, 47, 48, 49, 50, 51, 52, 53, 54, 55, 56, 57, 58, 59, 60, 61, 62, 63, 64, 65] (by decide +kernel) (by decide +kernel)
set_option maxRecDepth 20000 in
theorem gX4_leastRate_X4_comesTo : GoodIn wsX4_leastRate (wsV RX4 129 RX4 yX4_comesTo wsX4_comesTo) := goodIn_app (goodIn_of _ (by decide +kernel)) ggX4_leastRate_X4_comesTo
theorem dX4_leastRate_0 : decode cX4_leastRate 0 = .ok (.aload_n 1, 1) := by decide +kernel
theorem dX4_leastRate_1 : decode cX4_leastRate 1 = .ok (.invokevirtual 126, 3) := by decide +kernel
theorem dX4_leastRate_4 : decode cX4_leastRate 4 = .ok (.istore_n 3, 1) := by decide +kernel
theorem dX4_leastRate_5 : decode cX4_leastRate 5 = .ok (.iconst 1, 1) := by decide +kernel
theorem dX4_leastRate_6 : decode cX4_leastRate 6 = .ok (.istore 4, 2) := by decide +kernel
theorem dX4_leastRate_8 : decode cX4_leastRate 8 = .ok (.iload 4, 2) := by decide +kernel
theorem dX4_leastRate_10 : decode cX4_leastRate 10 = .ok (.bipush 20, 2) := by decide +kernel
theorem dX4_leastRate_12 : decode cX4_leastRate 12 = .ok (.if_icmp .gt 24, 3) := by decide +kernel
theorem dX4_leastRate_15 : decode cX4_leastRate 15 = .ok (.aload_n 0, 1) := by decide +kernel
theorem dX4_leastRate_16 : decode cX4_leastRate 16 = .ok (.aload_n 1, 1) := by decide +kernel
theorem dX4_leastRate_17 : decode cX4_leastRate 17 = .ok (.iload_n 3, 1) := by decide +kernel
theorem dX4_leastRate_18 : decode cX4_leastRate 18 = .ok (.iload_n 2, 1) := by decide +kernel
theorem dX4_leastRate_19 : decode cX4_leastRate 19 = .ok (.iload 4, 2) := by decide +kernel
theorem dX4_leastRate_21 : decode cX4_leastRate 21 = .ok (.invokevirtual 129, 3) := by decide +kernel
theorem dX4_leastRate_24 : decode cX4_leastRate 24 = .ok (.ifCond .eq 6, 3) := by decide +kernel
theorem dX4_leastRate_27 : decode cX4_leastRate 27 = .ok (.iload 4, 2) := by decide +kernel
theorem dX4_leastRate_29 : decode cX4_leastRate 29 = .ok (.ireturn, 1) := by decide +kernel
theorem dX4_leastRate_30 : decode cX4_leastRate 30 = .ok (.iinc 4 1, 3) := by decide +kernel
theorem dX4_leastRate_33 : decode cX4_leastRate 33 = .ok (.goto (-25), 3) := by decide +kernel
theorem dX4_leastRate_36 : decode cX4_leastRate 36 = .ok (.ldc 125, 2) := by decide +kernel
theorem dX4_leastRate_38 : decode cX4_leastRate 38 = .ok (.ireturn, 1) := by decide +kernel
set_option maxRecDepth 20000 in
theorem ggX4_comesTo_X4_appliedAfter : GoodIn wsX4_comesTo wsX4_appliedAfter := goodIn_r _ [7, 8, 9, 10, 11, 12, 13, 14, 15, 16, 17, 18, 19, 20, 21, 22, 23, 24, 25, 26, 27, 28, 29, 30, 31, 32, 33, 34, 35, 36, 37, 38, 39, 40, 41, 42, 43, 44, 45, 46, 47, 48, 49, 50, 51] (by decide +kernel) (by decide +kernel)
set_option maxRecDepth 20000 in
theorem gX4_comesTo_X4_appliedAfter : GoodIn wsX4_comesTo (wsV RX4 117 RX4 yX4_appliedAfter wsX4_appliedAfter) := goodIn_app (goodIn_of _ (by decide +kernel)) ggX4_comesTo_X4_appliedAfter
theorem dX4_comesTo_0 : decode cX4_comesTo 0 = .ok (.aload_n 1, 1) := by decide +kernel
theorem dX4_comesTo_1 : decode cX4_comesTo 1 = .ok (.getfield 97, 3) := by decide +kernel
theorem dX4_comesTo_4 : decode cX4_comesTo 4 = .ok (.istore 5, 2) := by decide +kernel
theorem dX4_comesTo_6 : decode cX4_comesTo 6 = .ok (.iconst 1, 1) := by decide +kernel
theorem dX4_comesTo_7 : decode cX4_comesTo 7 = .ok (.istore 6, 2) := by decide +kernel
theorem dX4_comesTo_9 : decode cX4_comesTo 9 = .ok (.iload 6, 2) := by decide +kernel
theorem dX4_comesTo_11 : decode cX4_comesTo 11 = .ok (.iload_n 3, 1) := by decide +kernel
theorem dX4_comesTo_12 : decode cX4_comesTo 12 = .ok (.if_icmp .gt 33, 3) := by decide +kernel
theorem dX4_comesTo_15 : decode cX4_comesTo 15 = .ok (.iload 5, 2) := by decide +kernel
theorem dX4_comesTo_17 : decode cX4_comesTo 17 = .ok (.iload_n 2, 1) := by decide +kernel
theorem dX4_comesTo_18 : decode cX4_comesTo 18 = .ok (.if_icmp .ge 27, 3) := by decide +kernel
theorem dX4_comesTo_21 : decode cX4_comesTo 21 = .ok (.aload_n 0, 1) := by decide +kernel
theorem dX4_comesTo_22 : decode cX4_comesTo 22 = .ok (.aload_n 1, 1) := by decide +kernel
theorem dX4_comesTo_23 : decode cX4_comesTo 23 = .ok (.iload 5, 2) := by decide +kernel
theorem dX4_comesTo_25 : decode cX4_comesTo 25 = .ok (.aload_n 0, 1) := by decide +kernel
theorem dX4_comesTo_26 : decode cX4_comesTo 26 = .ok (.getfield 32, 3) := by decide +kernel
theorem dX4_comesTo_29 : decode cX4_comesTo 29 = .ok (.iload 6, 2) := by decide +kernel
theorem dX4_comesTo_31 : decode cX4_comesTo 31 = .ok (.iadd, 1) := by decide +kernel
theorem dX4_comesTo_32 : decode cX4_comesTo 32 = .ok (.iload 4, 2) := by decide +kernel
theorem dX4_comesTo_34 : decode cX4_comesTo 34 = .ok (.invokevirtual 117, 3) := by decide +kernel
theorem dX4_comesTo_37 : decode cX4_comesTo 37 = .ok (.istore 5, 2) := by decide +kernel
theorem dX4_comesTo_39 : decode cX4_comesTo 39 = .ok (.iinc 6 1, 3) := by decide +kernel
theorem dX4_comesTo_42 : decode cX4_comesTo 42 = .ok (.goto (-33), 3) := by decide +kernel
theorem dX4_comesTo_45 : decode cX4_comesTo 45 = .ok (.iload 5, 2) := by decide +kernel
theorem dX4_comesTo_47 : decode cX4_comesTo 47 = .ok (.iload_n 2, 1) := by decide +kernel
theorem dX4_comesTo_48 : decode cX4_comesTo 48 = .ok (.if_icmp .lt 7, 3) := by decide +kernel
theorem dX4_comesTo_51 : decode cX4_comesTo 51 = .ok (.iconst 1, 1) := by decide +kernel
theorem dX4_comesTo_52 : decode cX4_comesTo 52 = .ok (.goto 4, 3) := by decide +kernel
theorem dX4_comesTo_55 : decode cX4_comesTo 55 = .ok (.iconst 0, 1) := by decide +kernel
theorem dX4_comesTo_56 : decode cX4_comesTo 56 = .ok (.ireturn, 1) := by decide +kernel
set_option maxRecDepth 20000 in
theorem ggX4_promoteTo_X6_isStandby : GoodIn wsX4_promoteTo wsX6_isStandby := goodIn_r _ [12] (by decide +kernel) (by decide +kernel)
set_option maxRecDepth 20000 in
theorem gX4_promoteTo_X6_isStandby_n77 : GoodIn wsX4_promoteTo (wsX6_isStandby) := ggX4_promoteTo_X6_isStandby
set_option maxRecDepth 20000 in
theorem ggX4_promoteTo_X4_standby : GoodIn wsX4_promoteTo wsX4_standby := goodIn_r _ [17, 18, 19, 64, 65, 66, 67, 68, 69, 70, 71, 72, 73, 74, 75] (by decide +kernel) (by decide +kernel)
set_option maxRecDepth 20000 in
theorem gX4_promoteTo_X4_standby : GoodIn wsX4_promoteTo (wsV RX4 80 RX4 yX4_standby wsX4_standby) := goodIn_app (goodIn_of _ (by decide +kernel)) ggX4_promoteTo_X4_standby
set_option maxRecDepth 20000 in
theorem ggX4_promoteTo_X1_commitsBehind : GoodIn wsX4_promoteTo wsX1_commitsBehind := goodIn_r _ [24, 25, 26, 27, 28, 23, 29, 30, 31, 32, 33, 34, 35, 76, 77, 78, 79, 80, 81] (by decide +kernel) (by decide +kernel)
set_option maxRecDepth 20000 in
theorem gX4_promoteTo_X1_commitsBehind : GoodIn wsX4_promoteTo (wsV RX4 133 RX1 yX1_commitsBehind wsX1_commitsBehind) := goodIn_app (goodIn_of _ (by decide +kernel)) ggX4_promoteTo_X1_commitsBehind
set_option maxRecDepth 20000 in
theorem ggX4_promoteTo_X3_standAt : GoodIn wsX4_promoteTo wsX3_standAt := goodIn_r _ [40, 41, 42, 43, 44, 45, 46, 39, 47, 48, 49, 50, 51, 52, 60, 61, 62, 63] (by decide +kernel) (by decide +kernel)
set_option maxRecDepth 20000 in
theorem gX4_promoteTo_X3_standAt : GoodIn wsX4_promoteTo (wsV RX4 136 RX3 yX3_standAt wsX3_standAt) := goodIn_app (goodIn_of _ (by decide +kernel)) ggX4_promoteTo_X3_standAt
set_option maxRecDepth 20000 in
theorem ggX4_promoteTo_X3_cutTo : GoodIn wsX4_promoteTo wsX3_cutTo := goodIn_r _ [56, 41, 57, 58, 50, 59, 42, 43, 44, 45, 46, 39, 47, 48, 49, 51, 52, 60, 61, 62, 63] (by decide +kernel) (by decide +kernel)
set_option maxRecDepth 20000 in
theorem gX4_promoteTo_X3_cutTo : GoodIn wsX4_promoteTo (wsV RX4 140 RX3 yX3_cutTo wsX3_cutTo) := goodIn_app (goodIn_of _ (by decide +kernel)) ggX4_promoteTo_X3_cutTo
theorem dX4_promoteTo_0 : decode cX4_promoteTo 0 = .ok (.iload_n 1, 1) := by decide +kernel
theorem dX4_promoteTo_1 : decode cX4_promoteTo 1 = .ok (.invokestatic 77, 3) := by decide +kernel
theorem dX4_promoteTo_4 : decode cX4_promoteTo 4 = .ok (.ifCond .ne 6, 3) := by decide +kernel
theorem dX4_promoteTo_7 : decode cX4_promoteTo 7 = .ok (.ldc 64, 2) := by decide +kernel
theorem dX4_promoteTo_9 : decode cX4_promoteTo 9 = .ok (.ireturn, 1) := by decide +kernel
theorem dX4_promoteTo_10 : decode cX4_promoteTo 10 = .ok (.aload_n 0, 1) := by decide +kernel
theorem dX4_promoteTo_11 : decode cX4_promoteTo 11 = .ok (.iload_n 1, 1) := by decide +kernel
theorem dX4_promoteTo_12 : decode cX4_promoteTo 12 = .ok (.invokevirtual 80, 3) := by decide +kernel
theorem dX4_promoteTo_15 : decode cX4_promoteTo 15 = .ok (.astore_n 2, 1) := by decide +kernel
theorem dX4_promoteTo_16 : decode cX4_promoteTo 16 = .ok (.aload_n 2, 1) := by decide +kernel
theorem dX4_promoteTo_17 : decode cX4_promoteTo 17 = .ok (.getfield 84, 3) := by decide +kernel
theorem dX4_promoteTo_20 : decode cX4_promoteTo 20 = .ok (.ifCond .eq 6, 3) := by decide +kernel
theorem dX4_promoteTo_23 : decode cX4_promoteTo 23 = .ok (.ldc 65, 2) := by decide +kernel
theorem dX4_promoteTo_25 : decode cX4_promoteTo 25 = .ok (.ireturn, 1) := by decide +kernel
theorem dX4_promoteTo_26 : decode cX4_promoteTo 26 = .ok (.aload_n 2, 1) := by decide +kernel
theorem dX4_promoteTo_27 : decode cX4_promoteTo 27 = .ok (.getfield 97, 3) := by decide +kernel
theorem dX4_promoteTo_30 : decode cX4_promoteTo 30 = .ok (.istore_n 3, 1) := by decide +kernel
theorem dX4_promoteTo_31 : decode cX4_promoteTo 31 = .ok (.aload_n 0, 1) := by decide +kernel
theorem dX4_promoteTo_32 : decode cX4_promoteTo 32 = .ok (.getfield 12, 3) := by decide +kernel
theorem dX4_promoteTo_35 : decode cX4_promoteTo 35 = .ok (.iload_n 3, 1) := by decide +kernel
theorem dX4_promoteTo_36 : decode cX4_promoteTo 36 = .ok (.invokevirtual 133, 3) := by decide +kernel
theorem dX4_promoteTo_39 : decode cX4_promoteTo 39 = .ok (.istore 4, 2) := by decide +kernel
theorem dX4_promoteTo_41 : decode cX4_promoteTo 41 = .ok (.aload_n 2, 1) := by decide +kernel
theorem dX4_promoteTo_42 : decode cX4_promoteTo 42 = .ok (.iload_n 3, 1) := by decide +kernel
theorem dX4_promoteTo_43 : decode cX4_promoteTo 43 = .ok (.aload_n 0, 1) := by decide +kernel
theorem dX4_promoteTo_44 : decode cX4_promoteTo 44 = .ok (.getfield 12, 3) := by decide +kernel
theorem dX4_promoteTo_47 : decode cX4_promoteTo 47 = .ok (.getfield 57, 3) := by decide +kernel
theorem dX4_promoteTo_50 : decode cX4_promoteTo 50 = .ok (.iload_n 3, 1) := by decide +kernel
theorem dX4_promoteTo_51 : decode cX4_promoteTo 51 = .ok (.if_icmp .le 7, 3) := by decide +kernel
theorem dX4_promoteTo_54 : decode cX4_promoteTo 54 = .ok (.iconst 1, 1) := by decide +kernel
theorem dX4_promoteTo_55 : decode cX4_promoteTo 55 = .ok (.goto 4, 3) := by decide +kernel
theorem dX4_promoteTo_58 : decode cX4_promoteTo 58 = .ok (.iconst 0, 1) := by decide +kernel
theorem dX4_promoteTo_59 : decode cX4_promoteTo 59 = .ok (.invokevirtual 136, 3) := by decide +kernel
theorem dX4_promoteTo_62 : decode cX4_promoteTo 62 = .ok (.aload_n 0, 1) := by decide +kernel
theorem dX4_promoteTo_63 : decode cX4_promoteTo 63 = .ok (.iconst 1, 1) := by decide +kernel
theorem dX4_promoteTo_64 : decode cX4_promoteTo 64 = .ok (.iload_n 1, 1) := by decide +kernel
theorem dX4_promoteTo_65 : decode cX4_promoteTo 65 = .ok (.isub, 1) := by decide +kernel
theorem dX4_promoteTo_66 : decode cX4_promoteTo 66 = .ok (.invokevirtual 80, 3) := by decide +kernel
theorem dX4_promoteTo_69 : decode cX4_promoteTo 69 = .ok (.iload_n 3, 1) := by decide +kernel
theorem dX4_promoteTo_70 : decode cX4_promoteTo 70 = .ok (.invokevirtual 140, 3) := by decide +kernel
theorem dX4_promoteTo_73 : decode cX4_promoteTo 73 = .ok (.aload_n 0, 1) := by decide +kernel
theorem dX4_promoteTo_74 : decode cX4_promoteTo 74 = .ok (.getfield 12, 3) := by decide +kernel
theorem dX4_promoteTo_77 : decode cX4_promoteTo 77 = .ok (.iload_n 3, 1) := by decide +kernel
theorem dX4_promoteTo_78 : decode cX4_promoteTo 78 = .ok (.putfield 57, 3) := by decide +kernel
theorem dX4_promoteTo_81 : decode cX4_promoteTo 81 = .ok (.iconst 0, 1) := by decide +kernel
theorem dX4_promoteTo_82 : decode cX4_promoteTo 82 = .ok (.istore 5, 2) := by decide +kernel
theorem dX4_promoteTo_84 : decode cX4_promoteTo 84 = .ok (.iload 5, 2) := by decide +kernel
theorem dX4_promoteTo_86 : decode cX4_promoteTo 86 = .ok (.iconst 3, 1) := by decide +kernel
theorem dX4_promoteTo_87 : decode cX4_promoteTo 87 = .ok (.if_icmp .ge 17, 3) := by decide +kernel
theorem dX4_promoteTo_90 : decode cX4_promoteTo 90 = .ok (.aload_n 0, 1) := by decide +kernel
theorem dX4_promoteTo_91 : decode cX4_promoteTo 91 = .ok (.getfield 28, 3) := by decide +kernel
theorem dX4_promoteTo_94 : decode cX4_promoteTo 94 = .ok (.iload 5, 2) := by decide +kernel
theorem dX4_promoteTo_96 : decode cX4_promoteTo 96 = .ok (.iconst 0, 1) := by decide +kernel
theorem dX4_promoteTo_97 : decode cX4_promoteTo 97 = .ok (.iastore, 1) := by decide +kernel
theorem dX4_promoteTo_98 : decode cX4_promoteTo 98 = .ok (.iinc 5 1, 3) := by decide +kernel
theorem dX4_promoteTo_101 : decode cX4_promoteTo 101 = .ok (.goto (-17), 3) := by decide +kernel
theorem dX4_promoteTo_104 : decode cX4_promoteTo 104 = .ok (.aload_n 0, 1) := by decide +kernel
theorem dX4_promoteTo_105 : decode cX4_promoteTo 105 = .ok (.dup, 1) := by decide +kernel
theorem dX4_promoteTo_106 : decode cX4_promoteTo 106 = .ok (.getfield 36, 3) := by decide +kernel
theorem dX4_promoteTo_109 : decode cX4_promoteTo 109 = .ok (.iconst 1, 1) := by decide +kernel
theorem dX4_promoteTo_110 : decode cX4_promoteTo 110 = .ok (.iadd, 1) := by decide +kernel
theorem dX4_promoteTo_111 : decode cX4_promoteTo 111 = .ok (.putfield 36, 3) := by decide +kernel
theorem dX4_promoteTo_114 : decode cX4_promoteTo 114 = .ok (.aload_n 0, 1) := by decide +kernel
theorem dX4_promoteTo_115 : decode cX4_promoteTo 115 = .ok (.dup, 1) := by decide +kernel
theorem dX4_promoteTo_116 : decode cX4_promoteTo 116 = .ok (.getfield 42, 3) := by decide +kernel
theorem dX4_promoteTo_119 : decode cX4_promoteTo 119 = .ok (.iload 4, 2) := by decide +kernel
theorem dX4_promoteTo_121 : decode cX4_promoteTo 121 = .ok (.iadd, 1) := by decide +kernel
theorem dX4_promoteTo_122 : decode cX4_promoteTo 122 = .ok (.putfield 42, 3) := by decide +kernel
theorem dX4_promoteTo_125 : decode cX4_promoteTo 125 = .ok (.iload 4, 2) := by decide +kernel
theorem dX4_promoteTo_127 : decode cX4_promoteTo 127 = .ok (.ireturn, 1) := by decide +kernel
set_option maxRecDepth 20000 in
theorem ggX4_rebuildOf_X6_isStandby : GoodIn wsX4_rebuildOf wsX6_isStandby := goodIn_r _ [6] (by decide +kernel) (by decide +kernel)
set_option maxRecDepth 20000 in
theorem gX4_rebuildOf_X6_isStandby_n77 : GoodIn wsX4_rebuildOf (wsX6_isStandby) := ggX4_rebuildOf_X6_isStandby
set_option maxRecDepth 20000 in
theorem ggX4_rebuildOf_X4_standby : GoodIn wsX4_rebuildOf wsX4_standby := goodIn_r _ [11, 12, 13, 31, 32, 33, 34, 35, 36, 37, 38, 39, 40, 41, 42] (by decide +kernel) (by decide +kernel)
set_option maxRecDepth 20000 in
theorem gX4_rebuildOf_X4_standby : GoodIn wsX4_rebuildOf (wsV RX4 80 RX4 yX4_standby wsX4_standby) := goodIn_app (goodIn_of _ (by decide +kernel)) ggX4_rebuildOf_X4_standby
set_option maxRecDepth 20000 in
theorem ggX4_rebuildOf_X3_standAt : GoodIn wsX4_rebuildOf wsX3_standAt := goodIn_r _ [18, 19, 20, 21, 22, 23, 24, 17, 25, 26, 27, 28, 29, 30, 49, 50, 51, 52] (by decide +kernel) (by decide +kernel)
set_option maxRecDepth 20000 in
theorem gX4_rebuildOf_X3_standAt : GoodIn wsX4_rebuildOf (wsV RX4 136 RX3 yX3_standAt wsX3_standAt) := goodIn_app (goodIn_of _ (by decide +kernel)) ggX4_rebuildOf_X3_standAt
theorem dX4_rebuildOf_0 : decode cX4_rebuildOf 0 = .ok (.iload_n 1, 1) := by decide +kernel
theorem dX4_rebuildOf_1 : decode cX4_rebuildOf 1 = .ok (.invokestatic 77, 3) := by decide +kernel
theorem dX4_rebuildOf_4 : decode cX4_rebuildOf 4 = .ok (.ifCond .ne 6, 3) := by decide +kernel
theorem dX4_rebuildOf_7 : decode cX4_rebuildOf 7 = .ok (.ldc 64, 2) := by decide +kernel
theorem dX4_rebuildOf_9 : decode cX4_rebuildOf 9 = .ok (.ireturn, 1) := by decide +kernel
theorem dX4_rebuildOf_10 : decode cX4_rebuildOf 10 = .ok (.aload_n 0, 1) := by decide +kernel
theorem dX4_rebuildOf_11 : decode cX4_rebuildOf 11 = .ok (.iload_n 1, 1) := by decide +kernel
theorem dX4_rebuildOf_12 : decode cX4_rebuildOf 12 = .ok (.invokevirtual 80, 3) := by decide +kernel
theorem dX4_rebuildOf_15 : decode cX4_rebuildOf 15 = .ok (.aload_n 0, 1) := by decide +kernel
theorem dX4_rebuildOf_16 : decode cX4_rebuildOf 16 = .ok (.getfield 12, 3) := by decide +kernel
theorem dX4_rebuildOf_19 : decode cX4_rebuildOf 19 = .ok (.getfield 57, 3) := by decide +kernel
theorem dX4_rebuildOf_22 : decode cX4_rebuildOf 22 = .ok (.iconst 0, 1) := by decide +kernel
theorem dX4_rebuildOf_23 : decode cX4_rebuildOf 23 = .ok (.invokevirtual 136, 3) := by decide +kernel
theorem dX4_rebuildOf_26 : decode cX4_rebuildOf 26 = .ok (.aload_n 0, 1) := by decide +kernel
theorem dX4_rebuildOf_27 : decode cX4_rebuildOf 27 = .ok (.getfield 12, 3) := by decide +kernel
theorem dX4_rebuildOf_30 : decode cX4_rebuildOf 30 = .ok (.getfield 57, 3) := by decide +kernel
theorem dX4_rebuildOf_33 : decode cX4_rebuildOf 33 = .ok (.ireturn, 1) := by decide +kernel
theorem dX4_setTo_0 : decode cX4_setTo 0 = .ok (.iload_n 1, 1) := by decide +kernel
theorem dX4_setTo_1 : decode cX4_setTo 1 = .ok (.ifCond .ne 26, 3) := by decide +kernel
theorem dX4_setTo_4 : decode cX4_setTo 4 = .ok (.iload_n 2, 1) := by decide +kernel
theorem dX4_setTo_5 : decode cX4_setTo 5 = .ok (.iconst 1, 1) := by decide +kernel
theorem dX4_setTo_6 : decode cX4_setTo 6 = .ok (.if_icmp .lt 21, 3) := by decide +kernel
theorem dX4_setTo_9 : decode cX4_setTo 9 = .ok (.iload_n 2, 1) := by decide +kernel
theorem dX4_setTo_10 : decode cX4_setTo 10 = .ok (.bipush 20, 2) := by decide +kernel
theorem dX4_setTo_12 : decode cX4_setTo 12 = .ok (.if_icmp .gt 15, 3) := by decide +kernel
theorem dX4_setTo_15 : decode cX4_setTo 15 = .ok (.aload_n 0, 1) := by decide +kernel
theorem dX4_setTo_16 : decode cX4_setTo 16 = .ok (.getfield 51, 3) := by decide +kernel
theorem dX4_setTo_19 : decode cX4_setTo 19 = .ok (.istore_n 3, 1) := by decide +kernel
theorem dX4_setTo_20 : decode cX4_setTo 20 = .ok (.aload_n 0, 1) := by decide +kernel
theorem dX4_setTo_21 : decode cX4_setTo 21 = .ok (.iload_n 2, 1) := by decide +kernel
theorem dX4_setTo_22 : decode cX4_setTo 22 = .ok (.putfield 51, 3) := by decide +kernel
theorem dX4_setTo_25 : decode cX4_setTo 25 = .ok (.iload_n 3, 1) := by decide +kernel
theorem dX4_setTo_26 : decode cX4_setTo 26 = .ok (.ireturn, 1) := by decide +kernel
theorem dX4_setTo_27 : decode cX4_setTo 27 = .ok (.iload_n 1, 1) := by decide +kernel
theorem dX4_setTo_28 : decode cX4_setTo 28 = .ok (.iconst 1, 1) := by decide +kernel
theorem dX4_setTo_29 : decode cX4_setTo 29 = .ok (.if_icmp .ne 25, 3) := by decide +kernel
theorem dX4_setTo_32 : decode cX4_setTo 32 = .ok (.iload_n 2, 1) := by decide +kernel
theorem dX4_setTo_33 : decode cX4_setTo 33 = .ok (.ifCond .lt 21, 3) := by decide +kernel
theorem dX4_setTo_36 : decode cX4_setTo 36 = .ok (.iload_n 2, 1) := by decide +kernel
theorem dX4_setTo_37 : decode cX4_setTo 37 = .ok (.bipush 20, 2) := by decide +kernel
theorem dX4_setTo_39 : decode cX4_setTo 39 = .ok (.if_icmp .gt 15, 3) := by decide +kernel
theorem dX4_setTo_42 : decode cX4_setTo 42 = .ok (.aload_n 0, 1) := by decide +kernel
theorem dX4_setTo_43 : decode cX4_setTo 43 = .ok (.getfield 54, 3) := by decide +kernel
theorem dX4_setTo_46 : decode cX4_setTo 46 = .ok (.istore_n 3, 1) := by decide +kernel
theorem dX4_setTo_47 : decode cX4_setTo 47 = .ok (.aload_n 0, 1) := by decide +kernel
theorem dX4_setTo_48 : decode cX4_setTo 48 = .ok (.iload_n 2, 1) := by decide +kernel
theorem dX4_setTo_49 : decode cX4_setTo 49 = .ok (.putfield 54, 3) := by decide +kernel
theorem dX4_setTo_52 : decode cX4_setTo 52 = .ok (.iload_n 3, 1) := by decide +kernel
theorem dX4_setTo_53 : decode cX4_setTo 53 = .ok (.ireturn, 1) := by decide +kernel
theorem dX4_setTo_54 : decode cX4_setTo 54 = .ok (.ldc 64, 2) := by decide +kernel
theorem dX4_setTo_56 : decode cX4_setTo 56 = .ok (.ireturn, 1) := by decide +kernel
set_option maxRecDepth 20000 in
theorem ggX4_copyFrom_X1_copyFrom : GoodIn wsX4_copyFrom wsX1_copyFrom := goodIn_r _ [21, 22, 23, 24, 25, 26, 27, 28, 29, 30, 31, 6, 7, 8, 32, 33, 34, 35, 57, 58, 59, 60, 61, 62] (by decide +kernel) (by decide +kernel)
set_option maxRecDepth 20000 in
theorem gX4_copyFrom_X1_copyFrom : GoodIn wsX4_copyFrom (wsV RX4 143 RX1 yX1_copyFrom wsX1_copyFrom) := goodIn_app (goodIn_of _ (by decide +kernel)) ggX4_copyFrom_X1_copyFrom
set_option maxRecDepth 20000 in
theorem ggX4_copyFrom_X3_copyFrom : GoodIn wsX4_copyFrom wsX3_copyFrom := goodIn_r _ [40, 41, 42, 43, 44, 63, 64, 65, 66] (by decide +kernel) (by decide +kernel)
set_option maxRecDepth 20000 in
theorem gX4_copyFrom_X3_copyFrom : GoodIn wsX4_copyFrom (wsV RX4 147 RX3 yX3_copyFrom wsX3_copyFrom) := goodIn_app (goodIn_of _ (by decide +kernel)) ggX4_copyFrom_X3_copyFrom
theorem dX4_copyFrom_0 : decode cX4_copyFrom 0 = .ok (.aload_n 0, 1) := by decide +kernel
theorem dX4_copyFrom_1 : decode cX4_copyFrom 1 = .ok (.getfield 12, 3) := by decide +kernel
theorem dX4_copyFrom_4 : decode cX4_copyFrom 4 = .ok (.aload_n 1, 1) := by decide +kernel
theorem dX4_copyFrom_5 : decode cX4_copyFrom 5 = .ok (.getfield 12, 3) := by decide +kernel
theorem dX4_copyFrom_8 : decode cX4_copyFrom 8 = .ok (.invokevirtual 143, 3) := by decide +kernel
theorem dX4_copyFrom_11 : decode cX4_copyFrom 11 = .ok (.aload_n 0, 1) := by decide +kernel
theorem dX4_copyFrom_12 : decode cX4_copyFrom 12 = .ok (.getfield 21, 3) := by decide +kernel
theorem dX4_copyFrom_15 : decode cX4_copyFrom 15 = .ok (.aload_n 1, 1) := by decide +kernel
theorem dX4_copyFrom_16 : decode cX4_copyFrom 16 = .ok (.getfield 21, 3) := by decide +kernel
theorem dX4_copyFrom_19 : decode cX4_copyFrom 19 = .ok (.invokevirtual 147, 3) := by decide +kernel
theorem dX4_copyFrom_22 : decode cX4_copyFrom 22 = .ok (.aload_n 0, 1) := by decide +kernel
theorem dX4_copyFrom_23 : decode cX4_copyFrom 23 = .ok (.getfield 25, 3) := by decide +kernel
theorem dX4_copyFrom_26 : decode cX4_copyFrom 26 = .ok (.aload_n 1, 1) := by decide +kernel
theorem dX4_copyFrom_27 : decode cX4_copyFrom 27 = .ok (.getfield 25, 3) := by decide +kernel
theorem dX4_copyFrom_30 : decode cX4_copyFrom 30 = .ok (.invokevirtual 147, 3) := by decide +kernel
theorem dX4_copyFrom_33 : decode cX4_copyFrom 33 = .ok (.aload_n 1, 1) := by decide +kernel
theorem dX4_copyFrom_34 : decode cX4_copyFrom 34 = .ok (.getfield 28, 3) := by decide +kernel
theorem dX4_copyFrom_37 : decode cX4_copyFrom 37 = .ok (.iconst 0, 1) := by decide +kernel
theorem dX4_copyFrom_38 : decode cX4_copyFrom 38 = .ok (.aload_n 0, 1) := by decide +kernel
theorem dX4_copyFrom_39 : decode cX4_copyFrom 39 = .ok (.getfield 28, 3) := by decide +kernel
theorem dX4_copyFrom_42 : decode cX4_copyFrom 42 = .ok (.iconst 0, 1) := by decide +kernel
theorem dX4_copyFrom_43 : decode cX4_copyFrom 43 = .ok (.iconst 3, 1) := by decide +kernel
theorem dX4_copyFrom_44 : decode cX4_copyFrom 44 = .ok (.invokestatic 150, 3) := by decide +kernel
theorem dX4_copyFrom_47 : decode cX4_copyFrom 47 = .ok (.aload_n 0, 1) := by decide +kernel
theorem dX4_copyFrom_48 : decode cX4_copyFrom 48 = .ok (.aload_n 1, 1) := by decide +kernel
theorem dX4_copyFrom_49 : decode cX4_copyFrom 49 = .ok (.getfield 32, 3) := by decide +kernel
theorem dX4_copyFrom_52 : decode cX4_copyFrom 52 = .ok (.putfield 32, 3) := by decide +kernel
theorem dX4_copyFrom_55 : decode cX4_copyFrom 55 = .ok (.aload_n 0, 1) := by decide +kernel
theorem dX4_copyFrom_56 : decode cX4_copyFrom 56 = .ok (.aload_n 1, 1) := by decide +kernel
theorem dX4_copyFrom_57 : decode cX4_copyFrom 57 = .ok (.getfield 36, 3) := by decide +kernel
theorem dX4_copyFrom_60 : decode cX4_copyFrom 60 = .ok (.putfield 36, 3) := by decide +kernel
theorem dX4_copyFrom_63 : decode cX4_copyFrom 63 = .ok (.aload_n 0, 1) := by decide +kernel
theorem dX4_copyFrom_64 : decode cX4_copyFrom 64 = .ok (.aload_n 1, 1) := by decide +kernel
theorem dX4_copyFrom_65 : decode cX4_copyFrom 65 = .ok (.getfield 39, 3) := by decide +kernel
theorem dX4_copyFrom_68 : decode cX4_copyFrom 68 = .ok (.putfield 39, 3) := by decide +kernel
theorem dX4_copyFrom_71 : decode cX4_copyFrom 71 = .ok (.aload_n 0, 1) := by decide +kernel
theorem dX4_copyFrom_72 : decode cX4_copyFrom 72 = .ok (.aload_n 1, 1) := by decide +kernel
theorem dX4_copyFrom_73 : decode cX4_copyFrom 73 = .ok (.getfield 42, 3) := by decide +kernel
theorem dX4_copyFrom_76 : decode cX4_copyFrom 76 = .ok (.putfield 42, 3) := by decide +kernel
theorem dX4_copyFrom_79 : decode cX4_copyFrom 79 = .ok (.aload_n 0, 1) := by decide +kernel
theorem dX4_copyFrom_80 : decode cX4_copyFrom 80 = .ok (.aload_n 1, 1) := by decide +kernel
theorem dX4_copyFrom_81 : decode cX4_copyFrom 81 = .ok (.getfield 45, 3) := by decide +kernel
theorem dX4_copyFrom_84 : decode cX4_copyFrom 84 = .ok (.putfield 45, 3) := by decide +kernel
theorem dX4_copyFrom_87 : decode cX4_copyFrom 87 = .ok (.aload_n 0, 1) := by decide +kernel
theorem dX4_copyFrom_88 : decode cX4_copyFrom 88 = .ok (.aload_n 1, 1) := by decide +kernel
theorem dX4_copyFrom_89 : decode cX4_copyFrom 89 = .ok (.getfield 48, 3) := by decide +kernel
theorem dX4_copyFrom_92 : decode cX4_copyFrom 92 = .ok (.putfield 48, 3) := by decide +kernel
theorem dX4_copyFrom_95 : decode cX4_copyFrom 95 = .ok (.aload_n 0, 1) := by decide +kernel
theorem dX4_copyFrom_96 : decode cX4_copyFrom 96 = .ok (.aload_n 1, 1) := by decide +kernel
theorem dX4_copyFrom_97 : decode cX4_copyFrom 97 = .ok (.getfield 51, 3) := by decide +kernel
theorem dX4_copyFrom_100 : decode cX4_copyFrom 100 = .ok (.putfield 51, 3) := by decide +kernel
theorem dX4_copyFrom_103 : decode cX4_copyFrom 103 = .ok (.aload_n 0, 1) := by decide +kernel
theorem dX4_copyFrom_104 : decode cX4_copyFrom 104 = .ok (.aload_n 1, 1) := by decide +kernel
theorem dX4_copyFrom_105 : decode cX4_copyFrom 105 = .ok (.getfield 54, 3) := by decide +kernel
theorem dX4_copyFrom_108 : decode cX4_copyFrom 108 = .ok (.putfield 54, 3) := by decide +kernel
theorem dX4_copyFrom_111 : decode cX4_copyFrom 111 = .ok (.return_, 1) := by decide +kernel
set_option maxRecDepth 20000 in
theorem ggX5_init_X4_init : GoodIn wsX5_init wsX4_init := goodIn_r _ [13, 14, 2, 3, 15, 16, 17, 18, 19, 20, 21, 22, 23, 24, 25, 26, 27, 28, 29, 30, 31, 32, 33, 34, 35, 36, 37, 38, 39, 40, 41, 42, 43, 44, 45, 46, 47, 48, 49, 50, 68, 69, 70, 71, 72, 73, 51, 52, 53, 54, 55, 56, 57, 58, 59, 60, 61, 62, 74, 75, 76, 77] (by decide +kernel) (by decide +kernel)
set_option maxRecDepth 20000 in
theorem gX5_init_X4_init_n11 : GoodIn wsX5_init (wsX4_init) := ggX5_init_X4_init
theorem dX5_init_0 : decode cX5_init 0 = .ok (.aload_n 0, 1) := by decide +kernel
theorem dX5_init_1 : decode cX5_init 1 = .ok (.invokespecial 3, 3) := by decide +kernel
theorem dX5_init_4 : decode cX5_init 4 = .ok (.aload_n 0, 1) := by decide +kernel
theorem dX5_init_5 : decode cX5_init 5 = .ok (.new 9, 3) := by decide +kernel
theorem dX5_init_8 : decode cX5_init 8 = .ok (.dup, 1) := by decide +kernel
theorem dX5_init_9 : decode cX5_init 9 = .ok (.invokespecial 11, 3) := by decide +kernel
theorem dX5_init_12 : decode cX5_init 12 = .ok (.putfield 12, 3) := by decide +kernel
theorem dX5_init_15 : decode cX5_init 15 = .ok (.aload_n 0, 1) := by decide +kernel
theorem dX5_init_16 : decode cX5_init 16 = .ok (.iconst 0, 1) := by decide +kernel
theorem dX5_init_17 : decode cX5_init 17 = .ok (.putfield 18, 3) := by decide +kernel
theorem dX5_init_20 : decode cX5_init 20 = .ok (.aload_n 0, 1) := by decide +kernel
theorem dX5_init_21 : decode cX5_init 21 = .ok (.iconst 0, 1) := by decide +kernel
theorem dX5_init_22 : decode cX5_init 22 = .ok (.putfield 22, 3) := by decide +kernel
theorem dX5_init_25 : decode cX5_init 25 = .ok (.aload_n 0, 1) := by decide +kernel
theorem dX5_init_26 : decode cX5_init 26 = .ok (.iconst 0, 1) := by decide +kernel
theorem dX5_init_27 : decode cX5_init 27 = .ok (.putfield 25, 3) := by decide +kernel
theorem dX5_init_30 : decode cX5_init 30 = .ok (.aload_n 0, 1) := by decide +kernel
theorem dX5_init_31 : decode cX5_init 31 = .ok (.iconst 0, 1) := by decide +kernel
theorem dX5_init_32 : decode cX5_init 32 = .ok (.putfield 28, 3) := by decide +kernel
theorem dX5_init_35 : decode cX5_init 35 = .ok (.return_, 1) := by decide +kernel
set_option maxRecDepth 20000 in
theorem ggX5_run_X4_copyFrom : GoodIn wsX5_run wsX4_copyFrom := goodIn_r _ [12, 13, 14, 15, 16, 17, 18, 19, 20, 21, 22, 23, 24, 25, 26, 27, 28, 29, 30, 31, 32, 33, 34, 35, 36, 37, 38, 39, 40, 41, 42, 43, 44, 45, 46, 47, 48, 49, 50, 51, 52, 53, 54, 55, 56, 226, 227, 228, 229, 230, 231, 232, 233, 234, 235, 236, 237, 238, 239, 240, 241, 242, 243, 244, 245, 246, 247] (by decide +kernel) (by decide +kernel)
set_option maxRecDepth 20000 in
theorem gX5_run_X4_copyFrom : GoodIn wsX5_run (wsV RX5 31 RX4 yX4_copyFrom wsX4_copyFrom) := goodIn_app (goodIn_of _ (by decide +kernel)) ggX5_run_X4_copyFrom
set_option maxRecDepth 20000 in
theorem ggX5_run_X2_readOrder : GoodIn wsX5_run wsX2_readOrder := goodIn_r _ [61, 62, 63, 64, 65, 66, 67, 60, 68, 69, 70, 71, 72, 73, 74, 75, 76, 77, 78, 79, 80, 81, 82, 83, 84, 85, 86, 87, 88, 89, 90, 91, 92, 93, 94, 95, 96, 97, 98, 99, 100, 101, 102, 103, 104, 105, 106, 107, 108, 109, 110, 111, 112, 113, 114, 115, 116, 117, 118, 119, 120, 121, 122, 123, 124, 125, 126, 127, 128, 129, 130, 131, 132, 133, 134, 135, 136, 137, 138, 220, 221, 222, 223, 224, 225] (by decide +kernel) (by decide +kernel)
set_option maxRecDepth 20000 in
theorem gX5_run_X2_readOrder : GoodIn wsX5_run (wsV RX5 40 RX2 yX2_readOrder wsX2_readOrder) := goodIn_app (goodIn_of _ (by decide +kernel)) ggX5_run_X2_readOrder
set_option maxRecDepth 20000 in
theorem ggX5_run_X5_doOrder : GoodIn wsX5_run wsX5_doOrder := goodIn_r _ [143, 144, 1, 145, 146, 147, 60, 148, 63, 135, 149, 150, 151, 11, 152, 153, 16, 154, 23, 155, 156, 157, 158, 159, 160, 161, 162, 163, 164, 165, 166, 167, 13, 21, 168, 169, 170, 32, 171, 34, 172, 42, 44, 45, 46, 47, 173, 174, 175, 176, 177, 178, 179, 180, 181, 182, 183, 184, 36, 37, 38, 185, 186, 187, 188, 189, 190, 14, 15, 191, 192, 193, 194, 195, 27, 26, 196, 197, 198, 199, 200, 201, 28, 202, 203, 204, 51, 205, 56, 206, 207, 208, 209, 210, 211, 212, 213, 214, 220, 221, 222, 223, 224, 225, 215, 216, 217, 218, 219, 226, 227, 228, 229, 230, 231, 232, 233, 234, 235, 236, 237, 238, 239, 240, 241, 242, 243, 244, 245, 246, 247] (by decide +kernel) (by decide +kernel)
set_option maxRecDepth 20000 in
theorem gX5_run_X5_doOrder : GoodIn wsX5_run (wsV RX5 47 RX5 yX5_doOrder wsX5_doOrder) := goodIn_app (goodIn_of _ (by decide +kernel)) ggX5_run_X5_doOrder
theorem dX5_run_0 : decode cX5_run 0 = .ok (.aload_n 0, 1) := by decide +kernel
theorem dX5_run_1 : decode cX5_run 1 = .ok (.getfield 12, 3) := by decide +kernel
theorem dX5_run_4 : decode cX5_run 4 = .ok (.aload_n 2, 1) := by decide +kernel
theorem dX5_run_5 : decode cX5_run 5 = .ok (.invokevirtual 31, 3) := by decide +kernel
theorem dX5_run_8 : decode cX5_run 8 = .ok (.aload_n 0, 1) := by decide +kernel
theorem dX5_run_9 : decode cX5_run 9 = .ok (.iconst 0, 1) := by decide +kernel
theorem dX5_run_10 : decode cX5_run 10 = .ok (.putfield 22, 3) := by decide +kernel
theorem dX5_run_13 : decode cX5_run 13 = .ok (.aload_n 0, 1) := by decide +kernel
theorem dX5_run_14 : decode cX5_run 14 = .ok (.iconst 0, 1) := by decide +kernel
theorem dX5_run_15 : decode cX5_run 15 = .ok (.putfield 25, 3) := by decide +kernel
theorem dX5_run_18 : decode cX5_run 18 = .ok (.aload_n 0, 1) := by decide +kernel
theorem dX5_run_19 : decode cX5_run 19 = .ok (.iconst 0, 1) := by decide +kernel
theorem dX5_run_20 : decode cX5_run 20 = .ok (.putfield 28, 3) := by decide +kernel
theorem dX5_run_23 : decode cX5_run 23 = .ok (.aload_n 0, 1) := by decide +kernel
theorem dX5_run_24 : decode cX5_run 24 = .ok (.iconst 0, 1) := by decide +kernel
theorem dX5_run_25 : decode cX5_run 25 = .ok (.putfield 18, 3) := by decide +kernel
theorem dX5_run_28 : decode cX5_run 28 = .ok (.aload_n 0, 1) := by decide +kernel
theorem dX5_run_29 : decode cX5_run 29 = .ok (.getfield 18, 3) := by decide +kernel
theorem dX5_run_32 : decode cX5_run 32 = .ok (.bipush 60, 2) := by decide +kernel
theorem dX5_run_34 : decode cX5_run 34 = .ok (.if_icmp .ge 86, 3) := by decide +kernel
theorem dX5_run_37 : decode cX5_run 37 = .ok (.aload_n 0, 1) := by decide +kernel
theorem dX5_run_38 : decode cX5_run 38 = .ok (.getfield 22, 3) := by decide +kernel
theorem dX5_run_41 : decode cX5_run 41 = .ok (.aload_n 1, 1) := by decide +kernel
theorem dX5_run_42 : decode cX5_run 42 = .ok (.getfield 35, 3) := by decide +kernel
theorem dX5_run_45 : decode cX5_run 45 = .ok (.if_icmp .ge 75, 3) := by decide +kernel
theorem dX5_run_48 : decode cX5_run 48 = .ok (.aload_n 1, 1) := by decide +kernel
theorem dX5_run_49 : decode cX5_run 49 = .ok (.aload_n 0, 1) := by decide +kernel
theorem dX5_run_50 : decode cX5_run 50 = .ok (.getfield 22, 3) := by decide +kernel
theorem dX5_run_53 : decode cX5_run 53 = .ok (.invokevirtual 40, 3) := by decide +kernel
theorem dX5_run_56 : decode cX5_run 56 = .ok (.ifCond .ne 22, 3) := by decide +kernel
theorem dX5_run_59 : decode cX5_run 59 = .ok (.aload_n 0, 1) := by decide +kernel
theorem dX5_run_60 : decode cX5_run 60 = .ok (.iconst 1, 1) := by decide +kernel
theorem dX5_run_61 : decode cX5_run 61 = .ok (.putfield 25, 3) := by decide +kernel
theorem dX5_run_64 : decode cX5_run 64 = .ok (.aload_n 0, 1) := by decide +kernel
theorem dX5_run_65 : decode cX5_run 65 = .ok (.aload_n 1, 1) := by decide +kernel
theorem dX5_run_66 : decode cX5_run 66 = .ok (.getfield 44, 3) := by decide +kernel
theorem dX5_run_69 : decode cX5_run 69 = .ok (.aload_n 0, 1) := by decide +kernel
theorem dX5_run_70 : decode cX5_run 70 = .ok (.getfield 22, 3) := by decide +kernel
theorem dX5_run_73 : decode cX5_run 73 = .ok (.isub, 1) := by decide +kernel
theorem dX5_run_74 : decode cX5_run 74 = .ok (.putfield 28, 3) := by decide +kernel
theorem dX5_run_77 : decode cX5_run 77 = .ok (.return_, 1) := by decide +kernel
theorem dX5_run_78 : decode cX5_run 78 = .ok (.aload_n 0, 1) := by decide +kernel
theorem dX5_run_79 : decode cX5_run 79 = .ok (.aload_n 1, 1) := by decide +kernel
theorem dX5_run_80 : decode cX5_run 80 = .ok (.invokevirtual 47, 3) := by decide +kernel
theorem dX5_run_83 : decode cX5_run 83 = .ok (.istore_n 3, 1) := by decide +kernel
theorem dX5_run_84 : decode cX5_run 84 = .ok (.iload_n 3, 1) := by decide +kernel
theorem dX5_run_85 : decode cX5_run 85 = .ok (.ifCond .ge 14, 3) := by decide +kernel
theorem dX5_run_88 : decode cX5_run 88 = .ok (.aload_n 0, 1) := by decide +kernel
theorem dX5_run_89 : decode cX5_run 89 = .ok (.iconst 2, 1) := by decide +kernel
theorem dX5_run_90 : decode cX5_run 90 = .ok (.putfield 25, 3) := by decide +kernel
theorem dX5_run_93 : decode cX5_run 93 = .ok (.aload_n 0, 1) := by decide +kernel
theorem dX5_run_94 : decode cX5_run 94 = .ok (.iload_n 3, 1) := by decide +kernel
theorem dX5_run_95 : decode cX5_run 95 = .ok (.putfield 28, 3) := by decide +kernel
theorem dX5_run_98 : decode cX5_run 98 = .ok (.return_, 1) := by decide +kernel
theorem dX5_run_99 : decode cX5_run 99 = .ok (.aload_n 0, 1) := by decide +kernel
theorem dX5_run_100 : decode cX5_run 100 = .ok (.aload_n 1, 1) := by decide +kernel
theorem dX5_run_101 : decode cX5_run 101 = .ok (.getfield 44, 3) := by decide +kernel
theorem dX5_run_104 : decode cX5_run 104 = .ok (.putfield 22, 3) := by decide +kernel
theorem dX5_run_107 : decode cX5_run 107 = .ok (.aload_n 0, 1) := by decide +kernel
theorem dX5_run_108 : decode cX5_run 108 = .ok (.dup, 1) := by decide +kernel
theorem dX5_run_109 : decode cX5_run 109 = .ok (.getfield 18, 3) := by decide +kernel
theorem dX5_run_112 : decode cX5_run 112 = .ok (.iconst 1, 1) := by decide +kernel
theorem dX5_run_113 : decode cX5_run 113 = .ok (.iadd, 1) := by decide +kernel
theorem dX5_run_114 : decode cX5_run 114 = .ok (.putfield 18, 3) := by decide +kernel
theorem dX5_run_117 : decode cX5_run 117 = .ok (.goto (-89), 3) := by decide +kernel
theorem dX5_run_120 : decode cX5_run 120 = .ok (.return_, 1) := by decide +kernel
set_option maxRecDepth 20000 in
theorem ggX5_doOrder_X2_number : GoodIn wsX5_doOrder wsX2_number := goodIn_r _ [7, 8, 9, 98, 99, 100, 101, 102, 103] (by decide +kernel) (by decide +kernel)
set_option maxRecDepth 20000 in
theorem gX5_doOrder_X2_number : GoodIn wsX5_doOrder (wsV RX5 51 RX2 yX2_number wsX2_number) := goodIn_app (goodIn_of _ (by decide +kernel)) ggX5_doOrder_X2_number
set_option maxRecDepth 20000 in
theorem ggX5_doOrder_X4_openIn : GoodIn wsX5_doOrder wsX4_openIn := goodIn_r _ [14, 15, 16, 17, 18, 19, 20, 21, 109, 110, 111, 112, 113, 114, 115, 116, 117, 118, 119, 120] (by decide +kernel) (by decide +kernel)
set_option maxRecDepth 20000 in
theorem gX5_doOrder_X4_openIn : GoodIn wsX5_doOrder (wsV RX5 58 RX4 yX4_openIn wsX4_openIn) := goodIn_app (goodIn_of _ (by decide +kernel)) ggX5_doOrder_X4_openIn
set_option maxRecDepth 20000 in
theorem ggX5_doOrder_X4_putBy : GoodIn wsX5_doOrder wsX4_putBy := goodIn_r _ [25, 15, 16, 19, 20, 21, 26, 27, 28, 29, 30, 13, 31, 17, 32, 33, 34, 35, 36, 37, 38, 39, 40, 41, 42, 43, 44, 45, 109, 110, 111, 112, 113, 114, 115, 116, 117, 118, 119, 120, 121, 122, 123, 124, 125, 126] (by decide +kernel) (by decide +kernel)
set_option maxRecDepth 20000 in
theorem gX5_doOrder_X4_putBy : GoodIn wsX5_doOrder (wsV RX5 61 RX4 yX4_putBy wsX4_putBy) := goodIn_app (goodIn_of _ (by decide +kernel)) ggX5_doOrder_X4_putBy
set_option maxRecDepth 20000 in
theorem ggX5_doOrder_X4_endIn : GoodIn wsX5_doOrder wsX4_endIn := goodIn_r _ [49, 15, 16, 19, 20, 21, 28, 29, 30, 13, 31, 17, 32, 33, 34, 35, 36, 37, 38, 39, 40, 41, 42, 43, 44, 45, 109, 110, 111, 112, 113, 114, 115, 116, 117, 118, 119, 120, 121, 122, 123, 124, 125, 126] (by decide +kernel) (by decide +kernel)
set_option maxRecDepth 20000 in
theorem gX5_doOrder_X4_endIn : GoodIn wsX5_doOrder (wsV RX5 65 RX4 yX4_endIn wsX4_endIn) := goodIn_app (goodIn_of _ (by decide +kernel)) ggX5_doOrder_X4_endIn
set_option maxRecDepth 20000 in
theorem ggX5_doOrder_X4_shipTo : GoodIn wsX5_doOrder wsX4_shipTo := goodIn_r _ [53, 15, 54, 17, 32, 55, 56, 57, 58, 59, 60, 61, 20, 62, 63, 64, 65, 13, 66, 67, 68, 127, 128, 129, 130, 109, 110, 111, 112, 113, 114, 115, 116, 117, 118, 119, 120, 121, 122, 123, 124, 125, 126] (by decide +kernel) (by decide +kernel)
set_option maxRecDepth 20000 in
theorem gX5_doOrder_X4_shipTo : GoodIn wsX5_doOrder (wsV RX5 69 RX4 yX4_shipTo wsX4_shipTo) := goodIn_app (goodIn_of _ (by decide +kernel)) ggX5_doOrder_X4_shipTo
set_option maxRecDepth 20000 in
theorem ggX5_doOrder_X4_pass : GoodIn wsX5_doOrder wsX4_pass := goodIn_r _ [72, 15, 33, 73, 74, 75, 76, 20, 77, 63, 64, 65, 13, 66, 67, 68, 78, 79, 80, 81, 54, 56, 32, 82, 83, 84, 85, 86, 87, 88, 89, 90, 91, 37, 92, 45, 93, 94, 95, 96, 97, 39, 109, 110, 111, 112, 113, 114, 115, 116, 117, 118, 119, 120, 127, 128, 129, 130, 121, 122, 123, 124, 125, 126] (by decide +kernel) (by decide +kernel)
set_option maxRecDepth 20000 in
theorem gX5_doOrder_X4_pass : GoodIn wsX5_doOrder (wsV RX5 72 RX4 yX4_pass wsX4_pass) := goodIn_app (goodIn_of _ (by decide +kernel)) ggX5_doOrder_X4_pass
theorem dX5_doOrder_0 : decode cX5_doOrder 0 = .ok (.aload_n 1, 1) := by decide +kernel
theorem dX5_doOrder_1 : decode cX5_doOrder 1 = .ok (.iconst 0, 1) := by decide +kernel
theorem dX5_doOrder_2 : decode cX5_doOrder 2 = .ok (.invokevirtual 51, 3) := by decide +kernel
theorem dX5_doOrder_5 : decode cX5_doOrder 5 = .ok (.istore_n 2, 1) := by decide +kernel
theorem dX5_doOrder_6 : decode cX5_doOrder 6 = .ok (.aload_n 1, 1) := by decide +kernel
theorem dX5_doOrder_7 : decode cX5_doOrder 7 = .ok (.getfield 55, 3) := by decide +kernel
theorem dX5_doOrder_10 : decode cX5_doOrder 10 = .ok (.lookupswitch 112 #[(97, 88), (99, 78), (111, 50), (112, 59), (115, 98)], 50) := by decide +kernel
theorem dX5_doOrder_60 : decode cX5_doOrder 60 = .ok (.aload_n 0, 1) := by decide +kernel
theorem dX5_doOrder_61 : decode cX5_doOrder 61 = .ok (.getfield 12, 3) := by decide +kernel
theorem dX5_doOrder_64 : decode cX5_doOrder 64 = .ok (.iload_n 2, 1) := by decide +kernel
theorem dX5_doOrder_65 : decode cX5_doOrder 65 = .ok (.invokevirtual 58, 3) := by decide +kernel
theorem dX5_doOrder_68 : decode cX5_doOrder 68 = .ok (.ireturn, 1) := by decide +kernel
theorem dX5_doOrder_69 : decode cX5_doOrder 69 = .ok (.aload_n 0, 1) := by decide +kernel
theorem dX5_doOrder_70 : decode cX5_doOrder 70 = .ok (.getfield 12, 3) := by decide +kernel
theorem dX5_doOrder_73 : decode cX5_doOrder 73 = .ok (.iload_n 2, 1) := by decide +kernel
theorem dX5_doOrder_74 : decode cX5_doOrder 74 = .ok (.aload_n 1, 1) := by decide +kernel
theorem dX5_doOrder_75 : decode cX5_doOrder 75 = .ok (.iconst 1, 1) := by decide +kernel
theorem dX5_doOrder_76 : decode cX5_doOrder 76 = .ok (.invokevirtual 51, 3) := by decide +kernel
theorem dX5_doOrder_79 : decode cX5_doOrder 79 = .ok (.aload_n 1, 1) := by decide +kernel
theorem dX5_doOrder_80 : decode cX5_doOrder 80 = .ok (.iconst 2, 1) := by decide +kernel
theorem dX5_doOrder_81 : decode cX5_doOrder 81 = .ok (.invokevirtual 51, 3) := by decide +kernel
theorem dX5_doOrder_84 : decode cX5_doOrder 84 = .ok (.invokevirtual 61, 3) := by decide +kernel
theorem dX5_doOrder_87 : decode cX5_doOrder 87 = .ok (.ireturn, 1) := by decide +kernel
theorem dX5_doOrder_88 : decode cX5_doOrder 88 = .ok (.aload_n 0, 1) := by decide +kernel
theorem dX5_doOrder_89 : decode cX5_doOrder 89 = .ok (.getfield 12, 3) := by decide +kernel
theorem dX5_doOrder_92 : decode cX5_doOrder 92 = .ok (.iload_n 2, 1) := by decide +kernel
theorem dX5_doOrder_93 : decode cX5_doOrder 93 = .ok (.iconst 1, 1) := by decide +kernel
theorem dX5_doOrder_94 : decode cX5_doOrder 94 = .ok (.invokevirtual 65, 3) := by decide +kernel
theorem dX5_doOrder_97 : decode cX5_doOrder 97 = .ok (.ireturn, 1) := by decide +kernel
theorem dX5_doOrder_98 : decode cX5_doOrder 98 = .ok (.aload_n 0, 1) := by decide +kernel
theorem dX5_doOrder_99 : decode cX5_doOrder 99 = .ok (.getfield 12, 3) := by decide +kernel
theorem dX5_doOrder_102 : decode cX5_doOrder 102 = .ok (.iload_n 2, 1) := by decide +kernel
theorem dX5_doOrder_103 : decode cX5_doOrder 103 = .ok (.iconst 2, 1) := by decide +kernel
theorem dX5_doOrder_104 : decode cX5_doOrder 104 = .ok (.invokevirtual 65, 3) := by decide +kernel
theorem dX5_doOrder_107 : decode cX5_doOrder 107 = .ok (.ireturn, 1) := by decide +kernel
theorem dX5_doOrder_108 : decode cX5_doOrder 108 = .ok (.aload_n 0, 1) := by decide +kernel
theorem dX5_doOrder_109 : decode cX5_doOrder 109 = .ok (.getfield 12, 3) := by decide +kernel
theorem dX5_doOrder_112 : decode cX5_doOrder 112 = .ok (.iload_n 2, 1) := by decide +kernel
theorem dX5_doOrder_113 : decode cX5_doOrder 113 = .ok (.aload_n 1, 1) := by decide +kernel
theorem dX5_doOrder_114 : decode cX5_doOrder 114 = .ok (.iconst 1, 1) := by decide +kernel
theorem dX5_doOrder_115 : decode cX5_doOrder 115 = .ok (.invokevirtual 51, 3) := by decide +kernel
theorem dX5_doOrder_118 : decode cX5_doOrder 118 = .ok (.invokevirtual 69, 3) := by decide +kernel
theorem dX5_doOrder_121 : decode cX5_doOrder 121 = .ok (.ireturn, 1) := by decide +kernel
theorem dX5_doOrder_122 : decode cX5_doOrder 122 = .ok (.aload_n 0, 1) := by decide +kernel
theorem dX5_doOrder_123 : decode cX5_doOrder 123 = .ok (.getfield 12, 3) := by decide +kernel
theorem dX5_doOrder_126 : decode cX5_doOrder 126 = .ok (.iload_n 2, 1) := by decide +kernel
theorem dX5_doOrder_127 : decode cX5_doOrder 127 = .ok (.invokevirtual 72, 3) := by decide +kernel
theorem dX5_doOrder_130 : decode cX5_doOrder 130 = .ok (.ireturn, 1) := by decide +kernel
set_option maxRecDepth 20000 in
theorem ggX6_init_X4_init : GoodIn wsX6_init wsX4_init := goodIn_r _ [24, 25, 2, 3, 26, 27, 28, 29, 30, 31, 32, 33, 34, 20, 35, 36, 37, 38, 39, 40, 41, 42, 43, 44, 45, 46, 47, 48, 49, 50, 51, 52, 53, 54, 55, 56, 57, 58, 59, 60, 118, 119, 120, 121, 122, 123, 87, 88, 89, 90, 91, 92, 93, 94, 95, 96, 97, 98, 124, 125, 126, 127] (by decide +kernel) (by decide +kernel)
set_option maxRecDepth 20000 in
theorem gX6_init_X4_init_n9 : GoodIn wsX6_init (wsX4_init) := ggX6_init_X4_init
set_option maxRecDepth 20000 in
theorem ggX6_init_X0_init : GoodIn wsX6_init wsX0_init := goodIn_r _ [63, 64, 2, 3, 65, 66, 67, 5, 6, 23, 24, 25, 26, 27, 28, 29, 30, 31, 32, 33, 34, 20, 35, 36, 37, 38, 39, 40, 41, 42, 43, 44, 45, 46, 47, 48, 49, 50, 51, 52, 53, 54, 55, 56, 57, 58, 59, 60, 105, 106, 87, 88, 89, 90, 91, 92, 93, 94, 95, 96, 97, 98, 118, 119, 120, 121, 122, 123, 124, 125, 126, 127] (by decide +kernel) (by decide +kernel)
set_option maxRecDepth 20000 in
theorem gX6_init_X0_init : GoodIn wsX6_init (wsX0_init) := ggX6_init_X0_init
set_option maxRecDepth 20000 in
theorem ggX6_init_X2_init : GoodIn wsX6_init wsX2_init := goodIn_r _ [69, 70, 2, 3, 71, 72, 73, 74, 75, 20, 76, 77, 107, 108, 109, 110, 111, 112] (by decide +kernel) (by decide +kernel)
set_option maxRecDepth 20000 in
theorem gX6_init_X2_init_n25 : GoodIn wsX6_init (wsX2_init) := ggX6_init_X2_init
set_option maxRecDepth 20000 in
theorem ggX6_init_X5_init : GoodIn wsX6_init wsX5_init := goodIn_r _ [79, 80, 2, 3, 81, 5, 6, 82, 83, 84, 85, 86, 23, 24, 25, 26, 27, 28, 29, 30, 31, 32, 33, 34, 20, 35, 36, 37, 38, 39, 40, 41, 42, 43, 44, 45, 46, 47, 48, 49, 50, 51, 52, 53, 54, 55, 56, 57, 58, 59, 60, 87, 88, 89, 90, 91, 92, 93, 94, 95, 96, 97, 98, 113, 114, 115, 116, 117, 118, 119, 120, 121, 122, 123, 124, 125, 126, 127] (by decide +kernel) (by decide +kernel)
set_option maxRecDepth 20000 in
theorem gX6_init_X5_init_n32 : GoodIn wsX6_init (wsX5_init) := ggX6_init_X5_init
theorem dX6_init_0 : decode cX6_init 0 = .ok (.aload_n 0, 1) := by decide +kernel
theorem dX6_init_1 : decode cX6_init 1 = .ok (.invokespecial 1, 3) := by decide +kernel
theorem dX6_init_4 : decode cX6_init 4 = .ok (.aload_n 0, 1) := by decide +kernel
theorem dX6_init_5 : decode cX6_init 5 = .ok (.new 7, 3) := by decide +kernel
theorem dX6_init_8 : decode cX6_init 8 = .ok (.dup, 1) := by decide +kernel
theorem dX6_init_9 : decode cX6_init 9 = .ok (.invokespecial 9, 3) := by decide +kernel
theorem dX6_init_12 : decode cX6_init 12 = .ok (.putfield 10, 3) := by decide +kernel
theorem dX6_init_15 : decode cX6_init 15 = .ok (.aload_n 0, 1) := by decide +kernel
theorem dX6_init_16 : decode cX6_init 16 = .ok (.new 16, 3) := by decide +kernel
theorem dX6_init_19 : decode cX6_init 19 = .ok (.dup, 1) := by decide +kernel
theorem dX6_init_20 : decode cX6_init 20 = .ok (.invokespecial 18, 3) := by decide +kernel
theorem dX6_init_23 : decode cX6_init 23 = .ok (.putfield 19, 3) := by decide +kernel
theorem dX6_init_26 : decode cX6_init 26 = .ok (.aload_n 0, 1) := by decide +kernel
theorem dX6_init_27 : decode cX6_init 27 = .ok (.new 23, 3) := by decide +kernel
theorem dX6_init_30 : decode cX6_init 30 = .ok (.dup, 1) := by decide +kernel
theorem dX6_init_31 : decode cX6_init 31 = .ok (.invokespecial 25, 3) := by decide +kernel
theorem dX6_init_34 : decode cX6_init 34 = .ok (.putfield 26, 3) := by decide +kernel
theorem dX6_init_37 : decode cX6_init 37 = .ok (.aload_n 0, 1) := by decide +kernel
theorem dX6_init_38 : decode cX6_init 38 = .ok (.new 30, 3) := by decide +kernel
theorem dX6_init_41 : decode cX6_init 41 = .ok (.dup, 1) := by decide +kernel
theorem dX6_init_42 : decode cX6_init 42 = .ok (.invokespecial 32, 3) := by decide +kernel
theorem dX6_init_45 : decode cX6_init 45 = .ok (.putfield 33, 3) := by decide +kernel
theorem dX6_init_48 : decode cX6_init 48 = .ok (.aload_n 0, 1) := by decide +kernel
theorem dX6_init_49 : decode cX6_init 49 = .ok (.bipush 24, 2) := by decide +kernel
theorem dX6_init_51 : decode cX6_init 51 = .ok (.newarray .int, 2) := by decide +kernel
theorem dX6_init_53 : decode cX6_init 53 = .ok (.putfield 37, 3) := by decide +kernel
theorem dX6_init_56 : decode cX6_init 56 = .ok (.aload_n 0, 1) := by decide +kernel
theorem dX6_init_57 : decode cX6_init 57 = .ok (.bipush 24, 2) := by decide +kernel
theorem dX6_init_59 : decode cX6_init 59 = .ok (.newarray .int, 2) := by decide +kernel
theorem dX6_init_61 : decode cX6_init 61 = .ok (.putfield 41, 3) := by decide +kernel
theorem dX6_init_64 : decode cX6_init 64 = .ok (.return_, 1) := by decide +kernel
set_option maxRecDepth 20000 in
theorem ggX6_open_X0_prepare : GoodIn wsX6_open wsX0_prepare := goodIn_r _ [7, 8, 9, 10, 11, 12, 13, 14, 15, 16, 17, 18, 19, 20, 21, 22, 23, 24, 25, 26, 27, 28, 29, 30, 31, 32, 33, 34, 35, 36, 37, 38, 39, 40, 41, 42, 43, 44, 45, 46, 47, 48, 49, 50, 51, 52, 53, 54, 55, 56, 57, 58, 82, 83, 84, 85, 86, 87, 88, 89, 90, 91, 92, 93, 94, 95, 96, 97, 98, 99, 100, 101, 102, 103, 104, 105] (by decide +kernel) (by decide +kernel)
set_option maxRecDepth 20000 in
theorem gX6_open_X0_prepare : GoodIn wsX6_open (wsV RX6 44 RX0 yX0_prepare wsX0_prepare) := goodIn_app (goodIn_of _ (by decide +kernel)) ggX6_open_X0_prepare
set_option maxRecDepth 20000 in
theorem ggX6_open_X4_openIn : GoodIn wsX6_open wsX4_openIn := goodIn_r _ [62, 63, 18, 64, 25, 65, 66, 67, 84, 85, 86, 87, 88, 89, 90, 91, 92, 93, 94, 95] (by decide +kernel) (by decide +kernel)
set_option maxRecDepth 20000 in
theorem gX6_open_X4_openIn : GoodIn wsX6_open (wsV RX6 48 RX4 yX4_openIn wsX4_openIn) := goodIn_app (goodIn_of _ (by decide +kernel)) ggX6_open_X4_openIn
set_option maxRecDepth 20000 in
theorem ggX6_open_X6_changed : GoodIn wsX6_open wsX6_changed := goodIn_r _ [71, 1, 72, 73, 74, 6, 75, 8, 9, 76, 77, 78, 79, 80, 81, 82, 83] (by decide +kernel) (by decide +kernel)
set_option maxRecDepth 20000 in
theorem gX6_open_X6_changed : GoodIn wsX6_open (wsV RX6 52 RX6 yX6_changed wsX6_changed) := goodIn_app (goodIn_of _ (by decide +kernel)) ggX6_open_X6_changed
theorem dX6_open_0 : decode cX6_open 0 = .ok (.aload_n 0, 1) := by decide +kernel
theorem dX6_open_1 : decode cX6_open 1 = .ok (.getfield 19, 3) := by decide +kernel
theorem dX6_open_4 : decode cX6_open 4 = .ok (.aload_n 0, 1) := by decide +kernel
theorem dX6_open_5 : decode cX6_open 5 = .ok (.getfield 10, 3) := by decide +kernel
theorem dX6_open_8 : decode cX6_open 8 = .ok (.invokevirtual 44, 3) := by decide +kernel
theorem dX6_open_11 : decode cX6_open 11 = .ok (.aload_n 0, 1) := by decide +kernel
theorem dX6_open_12 : decode cX6_open 12 = .ok (.aload_n 0, 1) := by decide +kernel
theorem dX6_open_13 : decode cX6_open 13 = .ok (.getfield 10, 3) := by decide +kernel
theorem dX6_open_16 : decode cX6_open 16 = .ok (.iload_n 1, 1) := by decide +kernel
theorem dX6_open_17 : decode cX6_open 17 = .ok (.invokevirtual 48, 3) := by decide +kernel
theorem dX6_open_20 : decode cX6_open 20 = .ok (.invokevirtual 52, 3) := by decide +kernel
theorem dX6_open_23 : decode cX6_open 23 = .ok (.ireturn, 1) := by decide +kernel
set_option maxRecDepth 20000 in
theorem ggX6_put_X0_prepare : GoodIn wsX6_put wsX0_prepare := goodIn_r _ [7, 8, 9, 10, 11, 12, 13, 14, 15, 16, 17, 18, 19, 20, 21, 22, 23, 24, 25, 26, 27, 28, 29, 30, 31, 32, 33, 34, 35, 36, 37, 38, 39, 40, 41, 42, 43, 44, 45, 46, 47, 48, 49, 50, 51, 52, 53, 54, 55, 56, 57, 58, 93, 94, 95, 96, 97, 98, 99, 100, 101, 102, 103, 104, 105, 106, 107, 108, 109, 110, 111, 112, 113, 114, 115, 116] (by decide +kernel) (by decide +kernel)
set_option maxRecDepth 20000 in
theorem gX6_put_X0_prepare : GoodIn wsX6_put (wsV RX6 44 RX0 yX0_prepare wsX0_prepare) := goodIn_app (goodIn_of _ (by decide +kernel)) ggX6_put_X0_prepare
set_option maxRecDepth 20000 in
theorem ggX6_put_X4_putBy : GoodIn wsX6_put wsX4_putBy := goodIn_r _ [62, 63, 18, 64, 65, 66, 67, 68, 69, 70, 71, 13, 72, 73, 15, 23, 74, 75, 76, 34, 77, 36, 78, 44, 46, 47, 48, 49, 95, 96, 97, 98, 99, 100, 101, 102, 103, 104, 105, 106, 107, 108, 109, 110, 111, 112] (by decide +kernel) (by decide +kernel)
set_option maxRecDepth 20000 in
theorem gX6_put_X4_putBy : GoodIn wsX6_put (wsV RX6 55 RX4 yX4_putBy wsX4_putBy) := goodIn_app (goodIn_of _ (by decide +kernel)) ggX6_put_X4_putBy
set_option maxRecDepth 20000 in
theorem ggX6_put_X6_changed : GoodIn wsX6_put wsX6_changed := goodIn_r _ [82, 1, 83, 84, 85, 6, 86, 8, 9, 87, 88, 89, 90, 91, 92, 93, 94] (by decide +kernel) (by decide +kernel)
set_option maxRecDepth 20000 in
theorem gX6_put_X6_changed : GoodIn wsX6_put (wsV RX6 52 RX6 yX6_changed wsX6_changed) := goodIn_app (goodIn_of _ (by decide +kernel)) ggX6_put_X6_changed
theorem dX6_put_0 : decode cX6_put 0 = .ok (.aload_n 0, 1) := by decide +kernel
theorem dX6_put_1 : decode cX6_put 1 = .ok (.getfield 19, 3) := by decide +kernel
theorem dX6_put_4 : decode cX6_put 4 = .ok (.aload_n 0, 1) := by decide +kernel
theorem dX6_put_5 : decode cX6_put 5 = .ok (.getfield 10, 3) := by decide +kernel
theorem dX6_put_8 : decode cX6_put 8 = .ok (.invokevirtual 44, 3) := by decide +kernel
theorem dX6_put_11 : decode cX6_put 11 = .ok (.aload_n 0, 1) := by decide +kernel
theorem dX6_put_12 : decode cX6_put 12 = .ok (.aload_n 0, 1) := by decide +kernel
theorem dX6_put_13 : decode cX6_put 13 = .ok (.getfield 10, 3) := by decide +kernel
theorem dX6_put_16 : decode cX6_put 16 = .ok (.iload_n 1, 1) := by decide +kernel
theorem dX6_put_17 : decode cX6_put 17 = .ok (.iload_n 2, 1) := by decide +kernel
theorem dX6_put_18 : decode cX6_put 18 = .ok (.iload_n 3, 1) := by decide +kernel
theorem dX6_put_19 : decode cX6_put 19 = .ok (.invokevirtual 55, 3) := by decide +kernel
theorem dX6_put_22 : decode cX6_put 22 = .ok (.invokevirtual 52, 3) := by decide +kernel
theorem dX6_put_25 : decode cX6_put 25 = .ok (.ireturn, 1) := by decide +kernel
set_option maxRecDepth 20000 in
theorem ggX6_commit_X0_prepare : GoodIn wsX6_commit wsX0_prepare := goodIn_r _ [7, 8, 9, 10, 11, 12, 13, 14, 15, 16, 17, 18, 19, 20, 21, 22, 23, 24, 25, 26, 27, 28, 29, 30, 31, 32, 33, 34, 35, 36, 37, 38, 39, 40, 41, 42, 43, 44, 45, 46, 47, 48, 49, 50, 51, 52, 53, 54, 55, 56, 57, 58, 91, 92, 93, 94, 95, 96, 97, 98, 99, 100, 101, 102, 103, 104, 105, 106, 107, 108, 109, 110, 111, 112, 113, 114] (by decide +kernel) (by decide +kernel)
set_option maxRecDepth 20000 in
theorem gX6_commit_X0_prepare : GoodIn wsX6_commit (wsV RX6 44 RX0 yX0_prepare wsX0_prepare) := goodIn_app (goodIn_of _ (by decide +kernel)) ggX6_commit_X0_prepare
set_option maxRecDepth 20000 in
theorem ggX6_commit_X4_endIn : GoodIn wsX6_commit wsX4_endIn := goodIn_r _ [62, 63, 18, 64, 65, 66, 67, 68, 69, 13, 70, 71, 15, 23, 72, 73, 74, 34, 75, 36, 76, 44, 46, 47, 48, 49, 93, 94, 95, 96, 97, 98, 99, 100, 101, 102, 103, 104, 105, 106, 107, 108, 109, 110] (by decide +kernel) (by decide +kernel)
set_option maxRecDepth 20000 in
theorem gX6_commit_X4_endIn : GoodIn wsX6_commit (wsV RX6 59 RX4 yX4_endIn wsX4_endIn) := goodIn_app (goodIn_of _ (by decide +kernel)) ggX6_commit_X4_endIn
set_option maxRecDepth 20000 in
theorem ggX6_commit_X6_changed : GoodIn wsX6_commit wsX6_changed := goodIn_r _ [80, 1, 81, 82, 83, 6, 84, 8, 9, 85, 86, 87, 88, 89, 90, 91, 92] (by decide +kernel) (by decide +kernel)
set_option maxRecDepth 20000 in
theorem gX6_commit_X6_changed : GoodIn wsX6_commit (wsV RX6 52 RX6 yX6_changed wsX6_changed) := goodIn_app (goodIn_of _ (by decide +kernel)) ggX6_commit_X6_changed
theorem dX6_commit_0 : decode cX6_commit 0 = .ok (.aload_n 0, 1) := by decide +kernel
theorem dX6_commit_1 : decode cX6_commit 1 = .ok (.getfield 19, 3) := by decide +kernel
theorem dX6_commit_4 : decode cX6_commit 4 = .ok (.aload_n 0, 1) := by decide +kernel
theorem dX6_commit_5 : decode cX6_commit 5 = .ok (.getfield 10, 3) := by decide +kernel
theorem dX6_commit_8 : decode cX6_commit 8 = .ok (.invokevirtual 44, 3) := by decide +kernel
theorem dX6_commit_11 : decode cX6_commit 11 = .ok (.aload_n 0, 1) := by decide +kernel
theorem dX6_commit_12 : decode cX6_commit 12 = .ok (.aload_n 0, 1) := by decide +kernel
theorem dX6_commit_13 : decode cX6_commit 13 = .ok (.getfield 10, 3) := by decide +kernel
theorem dX6_commit_16 : decode cX6_commit 16 = .ok (.iload_n 1, 1) := by decide +kernel
theorem dX6_commit_17 : decode cX6_commit 17 = .ok (.iconst 1, 1) := by decide +kernel
theorem dX6_commit_18 : decode cX6_commit 18 = .ok (.invokevirtual 59, 3) := by decide +kernel
theorem dX6_commit_21 : decode cX6_commit 21 = .ok (.invokevirtual 52, 3) := by decide +kernel
theorem dX6_commit_24 : decode cX6_commit 24 = .ok (.ireturn, 1) := by decide +kernel
set_option maxRecDepth 20000 in
theorem ggX6_abort_X0_prepare : GoodIn wsX6_abort wsX0_prepare := goodIn_r _ [7, 8, 9, 10, 11, 12, 13, 14, 15, 16, 17, 18, 19, 20, 21, 22, 23, 24, 25, 26, 27, 28, 29, 30, 31, 32, 33, 34, 35, 36, 37, 38, 39, 40, 41, 42, 43, 44, 45, 46, 47, 48, 49, 50, 51, 52, 53, 54, 55, 56, 57, 58, 91, 92, 93, 94, 95, 96, 97, 98, 99, 100, 101, 102, 103, 104, 105, 106, 107, 108, 109, 110, 111, 112, 113, 114] (by decide +kernel) (by decide +kernel)
set_option maxRecDepth 20000 in
theorem gX6_abort_X0_prepare : GoodIn wsX6_abort (wsV RX6 44 RX0 yX0_prepare wsX0_prepare) := goodIn_app (goodIn_of _ (by decide +kernel)) ggX6_abort_X0_prepare
set_option maxRecDepth 20000 in
theorem ggX6_abort_X4_endIn : GoodIn wsX6_abort wsX4_endIn := goodIn_r _ [62, 63, 18, 64, 65, 66, 67, 68, 69, 13, 70, 71, 15, 23, 72, 73, 74, 34, 75, 36, 76, 44, 46, 47, 48, 49, 93, 94, 95, 96, 97, 98, 99, 100, 101, 102, 103, 104, 105, 106, 107, 108, 109, 110] (by decide +kernel) (by decide +kernel)
set_option maxRecDepth 20000 in
theorem gX6_abort_X4_endIn : GoodIn wsX6_abort (wsV RX6 59 RX4 yX4_endIn wsX4_endIn) := goodIn_app (goodIn_of _ (by decide +kernel)) ggX6_abort_X4_endIn
set_option maxRecDepth 20000 in
theorem ggX6_abort_X6_changed : GoodIn wsX6_abort wsX6_changed := goodIn_r _ [80, 1, 81, 82, 83, 6, 84, 8, 9, 85, 86, 87, 88, 89, 90, 91, 92] (by decide +kernel) (by decide +kernel)
set_option maxRecDepth 20000 in
theorem gX6_abort_X6_changed : GoodIn wsX6_abort (wsV RX6 52 RX6 yX6_changed wsX6_changed) := goodIn_app (goodIn_of _ (by decide +kernel)) ggX6_abort_X6_changed
theorem dX6_abort_0 : decode cX6_abort 0 = .ok (.aload_n 0, 1) := by decide +kernel
theorem dX6_abort_1 : decode cX6_abort 1 = .ok (.getfield 19, 3) := by decide +kernel
theorem dX6_abort_4 : decode cX6_abort 4 = .ok (.aload_n 0, 1) := by decide +kernel
theorem dX6_abort_5 : decode cX6_abort 5 = .ok (.getfield 10, 3) := by decide +kernel
theorem dX6_abort_8 : decode cX6_abort 8 = .ok (.invokevirtual 44, 3) := by decide +kernel
theorem dX6_abort_11 : decode cX6_abort 11 = .ok (.aload_n 0, 1) := by decide +kernel
theorem dX6_abort_12 : decode cX6_abort 12 = .ok (.aload_n 0, 1) := by decide +kernel
theorem dX6_abort_13 : decode cX6_abort 13 = .ok (.getfield 10, 3) := by decide +kernel
theorem dX6_abort_16 : decode cX6_abort 16 = .ok (.iload_n 1, 1) := by decide +kernel
theorem dX6_abort_17 : decode cX6_abort 17 = .ok (.iconst 2, 1) := by decide +kernel
theorem dX6_abort_18 : decode cX6_abort 18 = .ok (.invokevirtual 59, 3) := by decide +kernel
theorem dX6_abort_21 : decode cX6_abort 21 = .ok (.invokevirtual 52, 3) := by decide +kernel
theorem dX6_abort_24 : decode cX6_abort 24 = .ok (.ireturn, 1) := by decide +kernel
set_option maxRecDepth 20000 in
theorem ggX6_ship_X0_prepare : GoodIn wsX6_ship wsX0_prepare := goodIn_r _ [7, 8, 9, 10, 11, 12, 13, 14, 15, 16, 17, 18, 19, 20, 21, 22, 23, 24, 25, 26, 27, 28, 29, 30, 31, 32, 33, 34, 35, 36, 37, 38, 39, 40, 41, 42, 43, 44, 45, 46, 47, 48, 49, 50, 51, 52, 53, 54, 55, 56, 57, 58, 90, 91, 92, 93, 94, 95, 96, 97, 98, 99, 100, 101, 102, 103, 104, 105, 106, 107, 108, 109, 110, 111, 112, 113] (by decide +kernel) (by decide +kernel)
set_option maxRecDepth 20000 in
theorem gX6_ship_X0_prepare : GoodIn wsX6_ship (wsV RX6 44 RX0 yX0_prepare wsX0_prepare) := goodIn_app (goodIn_of _ (by decide +kernel)) ggX6_ship_X0_prepare
set_option maxRecDepth 20000 in
theorem ggX6_ship_X4_shipTo : GoodIn wsX6_ship wsX4_shipTo := goodIn_r _ [62, 63, 64, 65, 15, 66, 67, 68, 38, 39, 40, 69, 70, 71, 72, 73, 74, 13, 75, 16, 17, 110, 111, 112, 113, 92, 93, 94, 95, 96, 97, 98, 99, 100, 101, 102, 103, 104, 105, 106, 107, 108, 109] (by decide +kernel) (by decide +kernel)
set_option maxRecDepth 20000 in
theorem gX6_ship_X4_shipTo : GoodIn wsX6_ship (wsV RX6 63 RX4 yX4_shipTo wsX4_shipTo) := goodIn_app (goodIn_of _ (by decide +kernel)) ggX6_ship_X4_shipTo
set_option maxRecDepth 20000 in
theorem ggX6_ship_X6_changed : GoodIn wsX6_ship wsX6_changed := goodIn_r _ [79, 1, 80, 81, 82, 6, 83, 8, 9, 84, 85, 86, 87, 88, 89, 90, 91] (by decide +kernel) (by decide +kernel)
set_option maxRecDepth 20000 in
theorem gX6_ship_X6_changed : GoodIn wsX6_ship (wsV RX6 52 RX6 yX6_changed wsX6_changed) := goodIn_app (goodIn_of _ (by decide +kernel)) ggX6_ship_X6_changed
theorem dX6_ship_0 : decode cX6_ship 0 = .ok (.aload_n 0, 1) := by decide +kernel
theorem dX6_ship_1 : decode cX6_ship 1 = .ok (.getfield 19, 3) := by decide +kernel
theorem dX6_ship_4 : decode cX6_ship 4 = .ok (.aload_n 0, 1) := by decide +kernel
theorem dX6_ship_5 : decode cX6_ship 5 = .ok (.getfield 10, 3) := by decide +kernel
theorem dX6_ship_8 : decode cX6_ship 8 = .ok (.invokevirtual 44, 3) := by decide +kernel
theorem dX6_ship_11 : decode cX6_ship 11 = .ok (.aload_n 0, 1) := by decide +kernel
theorem dX6_ship_12 : decode cX6_ship 12 = .ok (.aload_n 0, 1) := by decide +kernel
theorem dX6_ship_13 : decode cX6_ship 13 = .ok (.getfield 10, 3) := by decide +kernel
theorem dX6_ship_16 : decode cX6_ship 16 = .ok (.iload_n 1, 1) := by decide +kernel
theorem dX6_ship_17 : decode cX6_ship 17 = .ok (.iload_n 2, 1) := by decide +kernel
theorem dX6_ship_18 : decode cX6_ship 18 = .ok (.invokevirtual 63, 3) := by decide +kernel
theorem dX6_ship_21 : decode cX6_ship 21 = .ok (.invokevirtual 52, 3) := by decide +kernel
theorem dX6_ship_24 : decode cX6_ship 24 = .ok (.ireturn, 1) := by decide +kernel
set_option maxRecDepth 20000 in
theorem ggX6_lose_X0_prepare : GoodIn wsX6_lose wsX0_prepare := goodIn_r _ [7, 8, 9, 10, 11, 12, 13, 14, 15, 16, 17, 18, 19, 20, 21, 22, 23, 24, 25, 26, 27, 28, 29, 30, 31, 32, 33, 34, 35, 36, 37, 38, 39, 40, 41, 42, 43, 44, 45, 46, 47, 48, 49, 50, 51, 52, 53, 54, 55, 56, 57, 58, 101, 102, 103, 104, 105, 106, 107, 108, 109, 110, 111, 112, 113, 114, 115, 116, 117, 118, 119, 120, 121, 122, 123, 124] (by decide +kernel) (by decide +kernel)
set_option maxRecDepth 20000 in
theorem gX6_lose_X0_prepare : GoodIn wsX6_lose (wsV RX6 44 RX0 yX0_prepare wsX0_prepare) := goodIn_app (goodIn_of _ (by decide +kernel)) ggX6_lose_X0_prepare
set_option maxRecDepth 20000 in
theorem ggX6_lose_X4_loseFor : GoodIn wsX6_lose wsX4_loseFor := goodIn_r _ [62, 63, 64, 65, 66, 67, 27, 68, 69, 70, 71, 72, 73, 13, 74, 16, 17, 75, 76, 77, 53, 78, 58, 79, 80, 81, 82, 83, 84, 85, 86, 121, 122, 123, 124, 103, 104, 105, 106, 107, 108, 109, 110, 111, 112, 113, 114] (by decide +kernel) (by decide +kernel)
set_option maxRecDepth 20000 in
theorem gX6_lose_X4_loseFor : GoodIn wsX6_lose (wsV RX6 66 RX4 yX4_loseFor wsX4_loseFor) := goodIn_app (goodIn_of _ (by decide +kernel)) ggX6_lose_X4_loseFor
set_option maxRecDepth 20000 in
theorem ggX6_lose_X6_changed : GoodIn wsX6_lose wsX6_changed := goodIn_r _ [90, 1, 91, 92, 93, 6, 94, 8, 9, 95, 96, 97, 98, 99, 100, 101, 102] (by decide +kernel) (by decide +kernel)
set_option maxRecDepth 20000 in
theorem gX6_lose_X6_changed : GoodIn wsX6_lose (wsV RX6 52 RX6 yX6_changed wsX6_changed) := goodIn_app (goodIn_of _ (by decide +kernel)) ggX6_lose_X6_changed
theorem dX6_lose_0 : decode cX6_lose 0 = .ok (.aload_n 0, 1) := by decide +kernel
theorem dX6_lose_1 : decode cX6_lose 1 = .ok (.getfield 19, 3) := by decide +kernel
theorem dX6_lose_4 : decode cX6_lose 4 = .ok (.aload_n 0, 1) := by decide +kernel
theorem dX6_lose_5 : decode cX6_lose 5 = .ok (.getfield 10, 3) := by decide +kernel
theorem dX6_lose_8 : decode cX6_lose 8 = .ok (.invokevirtual 44, 3) := by decide +kernel
theorem dX6_lose_11 : decode cX6_lose 11 = .ok (.aload_n 0, 1) := by decide +kernel
theorem dX6_lose_12 : decode cX6_lose 12 = .ok (.aload_n 0, 1) := by decide +kernel
theorem dX6_lose_13 : decode cX6_lose 13 = .ok (.getfield 10, 3) := by decide +kernel
theorem dX6_lose_16 : decode cX6_lose 16 = .ok (.iload_n 1, 1) := by decide +kernel
theorem dX6_lose_17 : decode cX6_lose 17 = .ok (.iload_n 2, 1) := by decide +kernel
theorem dX6_lose_18 : decode cX6_lose 18 = .ok (.invokevirtual 66, 3) := by decide +kernel
theorem dX6_lose_21 : decode cX6_lose 21 = .ok (.invokevirtual 52, 3) := by decide +kernel
theorem dX6_lose_24 : decode cX6_lose 24 = .ok (.ireturn, 1) := by decide +kernel
set_option maxRecDepth 20000 in
theorem ggX6_resend_X0_prepare : GoodIn wsX6_resend wsX0_prepare := goodIn_r _ [7, 8, 9, 10, 11, 12, 13, 14, 15, 16, 17, 18, 19, 20, 21, 22, 23, 24, 25, 26, 27, 28, 29, 30, 31, 32, 33, 34, 35, 36, 37, 38, 39, 40, 41, 42, 43, 44, 45, 46, 47, 48, 49, 50, 51, 52, 53, 54, 55, 56, 57, 58, 96, 97, 98, 99, 100, 101, 102, 103, 104, 105, 106, 107, 108, 109, 110, 111, 112, 113, 114, 115, 116, 117, 118, 119] (by decide +kernel) (by decide +kernel)
set_option maxRecDepth 20000 in
theorem gX6_resend_X0_prepare : GoodIn wsX6_resend (wsV RX6 44 RX0 yX0_prepare wsX0_prepare) := goodIn_app (goodIn_of _ (by decide +kernel)) ggX6_resend_X0_prepare
set_option maxRecDepth 20000 in
theorem ggX6_resend_X4_resendTo : GoodIn wsX6_resend wsX4_resendTo := goodIn_r _ [62, 63, 64, 65, 66, 67, 68, 69, 70, 71, 13, 72, 16, 17, 73, 74, 75, 53, 76, 58, 77, 78, 79, 80, 81, 42, 39, 43, 116, 117, 118, 119, 98, 99, 100, 101, 102, 103, 104, 105, 106, 107, 108, 109] (by decide +kernel) (by decide +kernel)
set_option maxRecDepth 20000 in
theorem gX6_resend_X4_resendTo : GoodIn wsX6_resend (wsV RX6 69 RX4 yX4_resendTo wsX4_resendTo) := goodIn_app (goodIn_of _ (by decide +kernel)) ggX6_resend_X4_resendTo
set_option maxRecDepth 20000 in
theorem ggX6_resend_X6_changed : GoodIn wsX6_resend wsX6_changed := goodIn_r _ [85, 1, 86, 87, 88, 6, 89, 8, 9, 90, 91, 92, 93, 94, 95, 96, 97] (by decide +kernel) (by decide +kernel)
set_option maxRecDepth 20000 in
theorem gX6_resend_X6_changed : GoodIn wsX6_resend (wsV RX6 52 RX6 yX6_changed wsX6_changed) := goodIn_app (goodIn_of _ (by decide +kernel)) ggX6_resend_X6_changed
theorem dX6_resend_0 : decode cX6_resend 0 = .ok (.aload_n 0, 1) := by decide +kernel
theorem dX6_resend_1 : decode cX6_resend 1 = .ok (.getfield 19, 3) := by decide +kernel
theorem dX6_resend_4 : decode cX6_resend 4 = .ok (.aload_n 0, 1) := by decide +kernel
theorem dX6_resend_5 : decode cX6_resend 5 = .ok (.getfield 10, 3) := by decide +kernel
theorem dX6_resend_8 : decode cX6_resend 8 = .ok (.invokevirtual 44, 3) := by decide +kernel
theorem dX6_resend_11 : decode cX6_resend 11 = .ok (.aload_n 0, 1) := by decide +kernel
theorem dX6_resend_12 : decode cX6_resend 12 = .ok (.aload_n 0, 1) := by decide +kernel
theorem dX6_resend_13 : decode cX6_resend 13 = .ok (.getfield 10, 3) := by decide +kernel
theorem dX6_resend_16 : decode cX6_resend 16 = .ok (.iload_n 1, 1) := by decide +kernel
theorem dX6_resend_17 : decode cX6_resend 17 = .ok (.invokevirtual 69, 3) := by decide +kernel
theorem dX6_resend_20 : decode cX6_resend 20 = .ok (.invokevirtual 52, 3) := by decide +kernel
theorem dX6_resend_23 : decode cX6_resend 23 = .ok (.ireturn, 1) := by decide +kernel
set_option maxRecDepth 20000 in
theorem ggX6_tick_X0_prepare : GoodIn wsX6_tick wsX0_prepare := goodIn_r _ [7, 8, 9, 10, 11, 12, 13, 14, 15, 16, 17, 18, 19, 20, 21, 22, 23, 24, 25, 26, 27, 28, 29, 30, 31, 32, 33, 34, 35, 36, 37, 38, 39, 40, 41, 42, 43, 44, 45, 46, 47, 48, 49, 50, 51, 52, 53, 54, 55, 56, 57, 58, 105, 106, 107, 108, 109, 110, 111, 112, 113, 114, 115, 116, 117, 118, 119, 120, 121, 122, 123, 124, 125, 126, 127, 128] (by decide +kernel) (by decide +kernel)
set_option maxRecDepth 20000 in
theorem gX6_tick_X0_prepare : GoodIn wsX6_tick (wsV RX6 44 RX0 yX0_prepare wsX0_prepare) := goodIn_app (goodIn_of _ (by decide +kernel)) ggX6_tick_X0_prepare
set_option maxRecDepth 20000 in
theorem ggX6_tick_X4_pass : GoodIn wsX6_tick wsX4_pass := goodIn_r _ [62, 63, 23, 64, 29, 28, 65, 66, 67, 68, 69, 70, 13, 71, 16, 17, 72, 73, 74, 75, 76, 77, 15, 30, 78, 79, 80, 53, 81, 58, 82, 83, 84, 34, 85, 49, 86, 87, 88, 89, 90, 36, 107, 108, 109, 110, 111, 112, 113, 114, 115, 116, 117, 118, 125, 126, 127, 128, 119, 120, 121, 122, 123, 124] (by decide +kernel) (by decide +kernel)
set_option maxRecDepth 20000 in
theorem gX6_tick_X4_pass : GoodIn wsX6_tick (wsV RX6 72 RX4 yX4_pass wsX4_pass) := goodIn_app (goodIn_of _ (by decide +kernel)) ggX6_tick_X4_pass
set_option maxRecDepth 20000 in
theorem ggX6_tick_X6_changed : GoodIn wsX6_tick wsX6_changed := goodIn_r _ [94, 1, 95, 96, 97, 6, 98, 8, 9, 99, 100, 101, 102, 103, 104, 105, 106] (by decide +kernel) (by decide +kernel)
set_option maxRecDepth 20000 in
theorem gX6_tick_X6_changed : GoodIn wsX6_tick (wsV RX6 52 RX6 yX6_changed wsX6_changed) := goodIn_app (goodIn_of _ (by decide +kernel)) ggX6_tick_X6_changed
theorem dX6_tick_0 : decode cX6_tick 0 = .ok (.aload_n 0, 1) := by decide +kernel
theorem dX6_tick_1 : decode cX6_tick 1 = .ok (.getfield 19, 3) := by decide +kernel
theorem dX6_tick_4 : decode cX6_tick 4 = .ok (.aload_n 0, 1) := by decide +kernel
theorem dX6_tick_5 : decode cX6_tick 5 = .ok (.getfield 10, 3) := by decide +kernel
theorem dX6_tick_8 : decode cX6_tick 8 = .ok (.invokevirtual 44, 3) := by decide +kernel
theorem dX6_tick_11 : decode cX6_tick 11 = .ok (.aload_n 0, 1) := by decide +kernel
theorem dX6_tick_12 : decode cX6_tick 12 = .ok (.aload_n 0, 1) := by decide +kernel
theorem dX6_tick_13 : decode cX6_tick 13 = .ok (.getfield 10, 3) := by decide +kernel
theorem dX6_tick_16 : decode cX6_tick 16 = .ok (.iload_n 1, 1) := by decide +kernel
theorem dX6_tick_17 : decode cX6_tick 17 = .ok (.invokevirtual 72, 3) := by decide +kernel
theorem dX6_tick_20 : decode cX6_tick 20 = .ok (.invokevirtual 52, 3) := by decide +kernel
theorem dX6_tick_23 : decode cX6_tick 23 = .ok (.ireturn, 1) := by decide +kernel
set_option maxRecDepth 20000 in
theorem ggX6_promote_X0_prepare : GoodIn wsX6_promote wsX0_prepare := goodIn_r _ [7, 8, 9, 10, 11, 12, 13, 14, 15, 16, 17, 18, 19, 20, 21, 22, 23, 24, 25, 26, 27, 28, 29, 30, 31, 32, 33, 34, 35, 36, 37, 38, 39, 40, 41, 42, 43, 44, 45, 46, 47, 48, 49, 50, 51, 52, 53, 54, 55, 56, 57, 58, 116, 117, 118, 119, 120, 121, 122, 123, 124, 125, 126, 127, 128, 129, 130, 131, 132, 133, 134, 135, 136, 137, 138, 139] (by decide +kernel) (by decide +kernel)
set_option maxRecDepth 20000 in
theorem gX6_promote_X0_prepare : GoodIn wsX6_promote (wsV RX6 44 RX0 yX0_prepare wsX0_prepare) := goodIn_app (goodIn_of _ (by decide +kernel)) ggX6_promote_X0_prepare
set_option maxRecDepth 20000 in
theorem ggX6_promote_X4_promoteTo : GoodIn wsX6_promote wsX4_promoteTo := goodIn_r _ [62, 63, 64, 65, 66, 15, 67, 18, 24, 26, 68, 69, 70, 71, 72, 73, 13, 74, 16, 17, 75, 76, 77, 34, 78, 36, 79, 80, 81, 82, 44, 83, 84, 85, 86, 87, 88, 89, 90, 53, 91, 55, 56, 57, 92, 93, 94, 95, 96, 42, 39, 43, 58, 97, 98, 99, 100, 101, 38, 40, 136, 137, 138, 139, 118, 119, 120, 121, 122, 123, 124, 125, 126, 127, 128, 129, 130, 131, 132, 133, 134, 135] (by decide +kernel) (by decide +kernel)
set_option maxRecDepth 20000 in
theorem gX6_promote_X4_promoteTo : GoodIn wsX6_promote (wsV RX6 75 RX4 yX4_promoteTo wsX4_promoteTo) := goodIn_app (goodIn_of _ (by decide +kernel)) ggX6_promote_X4_promoteTo
set_option maxRecDepth 20000 in
theorem ggX6_promote_X6_changed : GoodIn wsX6_promote wsX6_changed := goodIn_r _ [105, 1, 106, 107, 108, 6, 109, 8, 9, 110, 111, 112, 113, 114, 115, 116, 117] (by decide +kernel) (by decide +kernel)
set_option maxRecDepth 20000 in
theorem gX6_promote_X6_changed : GoodIn wsX6_promote (wsV RX6 52 RX6 yX6_changed wsX6_changed) := goodIn_app (goodIn_of _ (by decide +kernel)) ggX6_promote_X6_changed
theorem dX6_promote_0 : decode cX6_promote 0 = .ok (.aload_n 0, 1) := by decide +kernel
theorem dX6_promote_1 : decode cX6_promote 1 = .ok (.getfield 19, 3) := by decide +kernel
theorem dX6_promote_4 : decode cX6_promote 4 = .ok (.aload_n 0, 1) := by decide +kernel
theorem dX6_promote_5 : decode cX6_promote 5 = .ok (.getfield 10, 3) := by decide +kernel
theorem dX6_promote_8 : decode cX6_promote 8 = .ok (.invokevirtual 44, 3) := by decide +kernel
theorem dX6_promote_11 : decode cX6_promote 11 = .ok (.aload_n 0, 1) := by decide +kernel
theorem dX6_promote_12 : decode cX6_promote 12 = .ok (.aload_n 0, 1) := by decide +kernel
theorem dX6_promote_13 : decode cX6_promote 13 = .ok (.getfield 10, 3) := by decide +kernel
theorem dX6_promote_16 : decode cX6_promote 16 = .ok (.iload_n 1, 1) := by decide +kernel
theorem dX6_promote_17 : decode cX6_promote 17 = .ok (.invokevirtual 75, 3) := by decide +kernel
theorem dX6_promote_20 : decode cX6_promote 20 = .ok (.invokevirtual 52, 3) := by decide +kernel
theorem dX6_promote_23 : decode cX6_promote 23 = .ok (.ireturn, 1) := by decide +kernel
set_option maxRecDepth 20000 in
theorem ggX6_rebuild_X0_prepare : GoodIn wsX6_rebuild wsX0_prepare := goodIn_r _ [7, 8, 9, 10, 11, 12, 13, 14, 15, 16, 17, 18, 19, 20, 21, 22, 23, 24, 25, 26, 27, 28, 29, 30, 31, 32, 33, 34, 35, 36, 37, 38, 39, 40, 41, 42, 43, 44, 45, 46, 47, 48, 49, 50, 51, 52, 53, 54, 55, 56, 57, 58, 95, 96, 97, 98, 99, 100, 101, 102, 103, 104, 105, 106, 107, 108, 109, 110, 111, 112, 113, 114, 115, 116, 117, 118] (by decide +kernel) (by decide +kernel)
set_option maxRecDepth 20000 in
theorem gX6_rebuild_X0_prepare : GoodIn wsX6_rebuild (wsV RX6 44 RX0 yX0_prepare wsX0_prepare) := goodIn_app (goodIn_of _ (by decide +kernel)) ggX6_rebuild_X0_prepare
set_option maxRecDepth 20000 in
theorem ggX6_rebuild_X4_rebuildOf : GoodIn wsX6_rebuild wsX4_rebuildOf := goodIn_r _ [62, 63, 15, 64, 65, 66, 67, 68, 69, 70, 13, 71, 16, 17, 72, 73, 74, 53, 75, 55, 56, 57, 76, 77, 78, 79, 80, 42, 39, 43, 58, 97, 98, 99, 100, 101, 102, 103, 104, 105, 106, 107, 108, 109, 110, 111, 112, 113, 114, 115, 116, 117, 118] (by decide +kernel) (by decide +kernel)
set_option maxRecDepth 20000 in
theorem gX6_rebuild_X4_rebuildOf : GoodIn wsX6_rebuild (wsV RX6 78 RX4 yX4_rebuildOf wsX4_rebuildOf) := goodIn_app (goodIn_of _ (by decide +kernel)) ggX6_rebuild_X4_rebuildOf
set_option maxRecDepth 20000 in
theorem ggX6_rebuild_X6_changed : GoodIn wsX6_rebuild wsX6_changed := goodIn_r _ [84, 1, 85, 86, 87, 6, 88, 8, 9, 89, 90, 91, 92, 93, 94, 95, 96] (by decide +kernel) (by decide +kernel)
set_option maxRecDepth 20000 in
theorem gX6_rebuild_X6_changed : GoodIn wsX6_rebuild (wsV RX6 52 RX6 yX6_changed wsX6_changed) := goodIn_app (goodIn_of _ (by decide +kernel)) ggX6_rebuild_X6_changed
theorem dX6_rebuild_0 : decode cX6_rebuild 0 = .ok (.aload_n 0, 1) := by decide +kernel
theorem dX6_rebuild_1 : decode cX6_rebuild 1 = .ok (.getfield 19, 3) := by decide +kernel
theorem dX6_rebuild_4 : decode cX6_rebuild 4 = .ok (.aload_n 0, 1) := by decide +kernel
theorem dX6_rebuild_5 : decode cX6_rebuild 5 = .ok (.getfield 10, 3) := by decide +kernel
theorem dX6_rebuild_8 : decode cX6_rebuild 8 = .ok (.invokevirtual 44, 3) := by decide +kernel
theorem dX6_rebuild_11 : decode cX6_rebuild 11 = .ok (.aload_n 0, 1) := by decide +kernel
theorem dX6_rebuild_12 : decode cX6_rebuild 12 = .ok (.aload_n 0, 1) := by decide +kernel
theorem dX6_rebuild_13 : decode cX6_rebuild 13 = .ok (.getfield 10, 3) := by decide +kernel
theorem dX6_rebuild_16 : decode cX6_rebuild 16 = .ok (.iload_n 1, 1) := by decide +kernel
theorem dX6_rebuild_17 : decode cX6_rebuild 17 = .ok (.invokevirtual 78, 3) := by decide +kernel
theorem dX6_rebuild_20 : decode cX6_rebuild 20 = .ok (.invokevirtual 52, 3) := by decide +kernel
theorem dX6_rebuild_23 : decode cX6_rebuild 23 = .ok (.ireturn, 1) := by decide +kernel
set_option maxRecDepth 20000 in
theorem ggX6_set_X0_prepare : GoodIn wsX6_set wsX0_prepare := goodIn_r _ [7, 8, 9, 10, 11, 12, 13, 14, 15, 16, 17, 18, 19, 20, 21, 22, 23, 24, 25, 26, 27, 28, 29, 30, 31, 32, 33, 34, 35, 36, 37, 38, 39, 40, 41, 42, 43, 44, 45, 46, 47, 48, 49, 50, 51, 52, 53, 54, 55, 56, 57, 58, 79, 80, 81, 82, 83, 84, 85, 86, 87, 88, 89, 90, 91, 92, 93, 94, 95, 96, 97, 98, 99, 100, 101, 102] (by decide +kernel) (by decide +kernel)
set_option maxRecDepth 20000 in
theorem gX6_set_X0_prepare : GoodIn wsX6_set (wsV RX6 44 RX0 yX0_prepare wsX0_prepare) := goodIn_app (goodIn_of _ (by decide +kernel)) ggX6_set_X0_prepare
set_option maxRecDepth 20000 in
theorem ggX6_set_X4_setTo : GoodIn wsX6_set wsX4_setTo := goodIn_r _ [62, 29, 30, 63, 81, 82, 83, 84, 85, 86, 87, 88, 89, 90, 91, 92] (by decide +kernel) (by decide +kernel)
set_option maxRecDepth 20000 in
theorem gX6_set_X4_setTo : GoodIn wsX6_set (wsV RX6 81 RX4 yX4_setTo wsX4_setTo) := goodIn_app (goodIn_of _ (by decide +kernel)) ggX6_set_X4_setTo
set_option maxRecDepth 20000 in
theorem ggX6_set_X6_changed : GoodIn wsX6_set wsX6_changed := goodIn_r _ [68, 1, 69, 70, 71, 6, 72, 8, 9, 73, 74, 75, 76, 77, 78, 79, 80] (by decide +kernel) (by decide +kernel)
set_option maxRecDepth 20000 in
theorem gX6_set_X6_changed : GoodIn wsX6_set (wsV RX6 52 RX6 yX6_changed wsX6_changed) := goodIn_app (goodIn_of _ (by decide +kernel)) ggX6_set_X6_changed
theorem dX6_set_0 : decode cX6_set 0 = .ok (.aload_n 0, 1) := by decide +kernel
theorem dX6_set_1 : decode cX6_set 1 = .ok (.getfield 19, 3) := by decide +kernel
theorem dX6_set_4 : decode cX6_set 4 = .ok (.aload_n 0, 1) := by decide +kernel
theorem dX6_set_5 : decode cX6_set 5 = .ok (.getfield 10, 3) := by decide +kernel
theorem dX6_set_8 : decode cX6_set 8 = .ok (.invokevirtual 44, 3) := by decide +kernel
theorem dX6_set_11 : decode cX6_set 11 = .ok (.aload_n 0, 1) := by decide +kernel
theorem dX6_set_12 : decode cX6_set 12 = .ok (.aload_n 0, 1) := by decide +kernel
theorem dX6_set_13 : decode cX6_set 13 = .ok (.getfield 10, 3) := by decide +kernel
theorem dX6_set_16 : decode cX6_set 16 = .ok (.iload_n 1, 1) := by decide +kernel
theorem dX6_set_17 : decode cX6_set 17 = .ok (.iload_n 2, 1) := by decide +kernel
theorem dX6_set_18 : decode cX6_set 18 = .ok (.invokevirtual 81, 3) := by decide +kernel
theorem dX6_set_21 : decode cX6_set 21 = .ok (.invokevirtual 52, 3) := by decide +kernel
theorem dX6_set_24 : decode cX6_set 24 = .ok (.ireturn, 1) := by decide +kernel
set_option maxRecDepth 20000 in
theorem ggX6_read_X6_isStandby : GoodIn wsX6_read wsX6_isStandby := goodIn_r _ [9] (by decide +kernel) (by decide +kernel)
set_option maxRecDepth 20000 in
theorem gX6_read_X6_isStandby : GoodIn wsX6_read (va_wsS RX6 84 yX6_isStandby wsX6_isStandby) := goodIn_app (goodIn_of _ (by decide +kernel)) ggX6_read_X6_isStandby
set_option maxRecDepth 20000 in
theorem ggX6_read_X6_isKey : GoodIn wsX6_read wsX6_isKey := goodIn_r _ [12] (by decide +kernel) (by decide +kernel)
set_option maxRecDepth 20000 in
theorem gX6_read_X6_isKey : GoodIn wsX6_read (va_wsS RX6 88 yX6_isKey wsX6_isKey) := goodIn_app (goodIn_of _ (by decide +kernel)) ggX6_read_X6_isKey
set_option maxRecDepth 20000 in
theorem ggX6_read_X4_isPosition : GoodIn wsX6_read wsX4_isPosition := goodIn_r _ [17, 18, 19, 82, 83, 84, 85, 86, 87, 88, 89, 90, 91, 92, 93, 98, 99, 100, 101, 102, 103] (by decide +kernel) (by decide +kernel)
set_option maxRecDepth 20000 in
theorem gX6_read_X4_isPosition : GoodIn wsX6_read (wsV RX6 91 RX4 yX4_isPosition wsX4_isPosition) := goodIn_app (goodIn_of _ (by decide +kernel)) ggX6_read_X4_isPosition
set_option maxRecDepth 20000 in
theorem ggX6_read_X4_standby : GoodIn wsX6_read wsX4_standby := goodIn_r _ [23, 24, 25, 82, 83, 84, 85, 86, 87, 88, 89, 90, 91, 92, 93] (by decide +kernel) (by decide +kernel)
set_option maxRecDepth 20000 in
theorem gX6_read_X4_standby : GoodIn wsX6_read (wsV RX6 95 RX4 yX4_standby wsX4_standby) := goodIn_app (goodIn_of _ (by decide +kernel)) ggX6_read_X4_standby
set_option maxRecDepth 20000 in
theorem ggX6_read_X3_canServe : GoodIn wsX6_read wsX3_canServe := goodIn_r _ [30, 31, 32, 94, 95, 96, 97] (by decide +kernel) (by decide +kernel)
set_option maxRecDepth 20000 in
theorem gX6_read_X3_canServe : GoodIn wsX6_read (wsV RX6 99 RX3 yX3_canServe wsX3_canServe) := goodIn_app (goodIn_of _ (by decide +kernel)) ggX6_read_X3_canServe
set_option maxRecDepth 20000 in
theorem ggX6_read_X1_valueAt : GoodIn wsX6_read wsX1_valueAt := goodIn_r _ [37, 38, 39, 40, 36, 41, 42, 43, 44, 45, 46, 47, 48, 49, 50, 51, 52, 53, 54, 55, 56, 57, 58, 59, 60, 61, 62, 63, 64, 65, 66, 67, 68, 69, 70, 71, 72, 73, 74, 75, 98, 99, 100, 101, 102, 103] (by decide +kernel) (by decide +kernel)
set_option maxRecDepth 20000 in
theorem gX6_read_X1_valueAt : GoodIn wsX6_read (wsV RX6 113 RX1 yX1_valueAt wsX1_valueAt) := goodIn_app (goodIn_of _ (by decide +kernel)) ggX6_read_X1_valueAt
theorem dX6_read_0 : decode cX6_read 0 = .ok (.iload_n 1, 1) := by decide +kernel
theorem dX6_read_1 : decode cX6_read 1 = .ok (.invokestatic 84, 3) := by decide +kernel
theorem dX6_read_4 : decode cX6_read 4 = .ok (.ifCond .eq 21, 3) := by decide +kernel
theorem dX6_read_7 : decode cX6_read 7 = .ok (.iload_n 2, 1) := by decide +kernel
theorem dX6_read_8 : decode cX6_read 8 = .ok (.invokestatic 88, 3) := by decide +kernel
theorem dX6_read_11 : decode cX6_read 11 = .ok (.ifCond .eq 14, 3) := by decide +kernel
theorem dX6_read_14 : decode cX6_read 14 = .ok (.aload_n 0, 1) := by decide +kernel
theorem dX6_read_15 : decode cX6_read 15 = .ok (.getfield 10, 3) := by decide +kernel
theorem dX6_read_18 : decode cX6_read 18 = .ok (.iload_n 3, 1) := by decide +kernel
theorem dX6_read_19 : decode cX6_read 19 = .ok (.invokevirtual 91, 3) := by decide +kernel
theorem dX6_read_22 : decode cX6_read 22 = .ok (.ifCond .ne 6, 3) := by decide +kernel
theorem dX6_read_25 : decode cX6_read 25 = .ok (.ldc 94, 2) := by decide +kernel
theorem dX6_read_27 : decode cX6_read 27 = .ok (.ireturn, 1) := by decide +kernel
theorem dX6_read_28 : decode cX6_read 28 = .ok (.aload_n 0, 1) := by decide +kernel
theorem dX6_read_29 : decode cX6_read 29 = .ok (.getfield 10, 3) := by decide +kernel
theorem dX6_read_32 : decode cX6_read 32 = .ok (.iload_n 1, 1) := by decide +kernel
theorem dX6_read_33 : decode cX6_read 33 = .ok (.invokevirtual 95, 3) := by decide +kernel
theorem dX6_read_36 : decode cX6_read 36 = .ok (.astore 4, 2) := by decide +kernel
theorem dX6_read_38 : decode cX6_read 38 = .ok (.aload 4, 2) := by decide +kernel
theorem dX6_read_40 : decode cX6_read 40 = .ok (.iload_n 3, 1) := by decide +kernel
theorem dX6_read_41 : decode cX6_read 41 = .ok (.invokevirtual 99, 3) := by decide +kernel
theorem dX6_read_44 : decode cX6_read 44 = .ok (.ifCond .ne 6, 3) := by decide +kernel
theorem dX6_read_47 : decode cX6_read 47 = .ok (.ldc 104, 2) := by decide +kernel
theorem dX6_read_49 : decode cX6_read 49 = .ok (.ireturn, 1) := by decide +kernel
theorem dX6_read_50 : decode cX6_read 50 = .ok (.aload_n 0, 1) := by decide +kernel
theorem dX6_read_51 : decode cX6_read 51 = .ok (.getfield 10, 3) := by decide +kernel
theorem dX6_read_54 : decode cX6_read 54 = .ok (.getfield 105, 3) := by decide +kernel
theorem dX6_read_57 : decode cX6_read 57 = .ok (.iload_n 2, 1) := by decide +kernel
theorem dX6_read_58 : decode cX6_read 58 = .ok (.aload 4, 2) := by decide +kernel
theorem dX6_read_60 : decode cX6_read 60 = .ok (.getfield 109, 3) := by decide +kernel
theorem dX6_read_63 : decode cX6_read 63 = .ok (.invokevirtual 113, 3) := by decide +kernel
theorem dX6_read_66 : decode cX6_read 66 = .ok (.ireturn, 1) := by decide +kernel
set_option maxRecDepth 20000 in
theorem ggX6_primary_X6_isSlot : GoodIn wsX6_primary wsX6_isSlot := goodIn_r _ [9] (by decide +kernel) (by decide +kernel)
set_option maxRecDepth 20000 in
theorem gX6_primary_X6_isSlot : GoodIn wsX6_primary (va_wsS RX6 118 yX6_isSlot wsX6_isSlot) := goodIn_app (goodIn_of _ (by decide +kernel)) ggX6_primary_X6_isSlot
set_option maxRecDepth 20000 in
theorem ggX6_primary_X6_isKey : GoodIn wsX6_primary wsX6_isKey := goodIn_r _ [12] (by decide +kernel) (by decide +kernel)
set_option maxRecDepth 20000 in
theorem gX6_primary_X6_isKey : GoodIn wsX6_primary (va_wsS RX6 88 yX6_isKey wsX6_isKey) := goodIn_app (goodIn_of _ (by decide +kernel)) ggX6_primary_X6_isKey
set_option maxRecDepth 20000 in
theorem ggX6_primary_X1_valueAt : GoodIn wsX6_primary wsX1_valueAt := goodIn_r _ [17, 18, 19, 20, 16, 21, 22, 23, 24, 25, 26, 27, 28, 29, 30, 31, 32, 33, 34, 35, 36, 37, 38, 39, 40, 41, 42, 43, 44, 45, 46, 47, 48, 49, 50, 51, 52, 53, 54, 55, 82, 83, 84, 85, 86, 87] (by decide +kernel) (by decide +kernel)
set_option maxRecDepth 20000 in
theorem gX6_primary_X1_valueAt : GoodIn wsX6_primary (wsV RX6 113 RX1 yX1_valueAt wsX1_valueAt) := goodIn_app (goodIn_of _ (by decide +kernel)) ggX6_primary_X1_valueAt
set_option maxRecDepth 20000 in
theorem ggX6_primary_X4_transactionIn : GoodIn wsX6_primary wsX4_transactionIn := goodIn_r _ [60, 61, 7, 8, 9, 70, 71, 72, 73, 74, 75, 76, 77, 78, 79, 80, 81] (by decide +kernel) (by decide +kernel)
set_option maxRecDepth 20000 in
theorem gX6_primary_X4_transactionIn : GoodIn wsX6_primary (wsV RX6 124 RX4 yX4_transactionIn wsX4_transactionIn) := goodIn_app (goodIn_of _ (by decide +kernel)) ggX6_primary_X4_transactionIn
set_option maxRecDepth 20000 in
theorem ggX6_primary_X1_lastPut : GoodIn wsX6_primary wsX1_lastPut := goodIn_r _ [41, 42, 43, 44, 16, 45, 33, 34, 35, 36, 37, 27, 28, 29, 30, 31, 32, 22, 23, 24, 25, 26, 46, 47, 48, 49, 50, 82, 83, 84, 85, 86, 87] (by decide +kernel) (by decide +kernel)
set_option maxRecDepth 20000 in
theorem gX6_primary_X1_lastPut : GoodIn wsX6_primary (wsV RX6 127 RX1 yX1_lastPut wsX1_lastPut) := goodIn_app (goodIn_of _ (by decide +kernel)) ggX6_primary_X1_lastPut
set_option maxRecDepth 20000 in
theorem ggX6_primary_X1_valueIn : GoodIn wsX6_primary wsX1_valueIn := goodIn_r _ [54, 55, 27, 28, 29, 30, 16, 31, 32, 82, 83, 84, 85, 86, 87] (by decide +kernel) (by decide +kernel)
set_option maxRecDepth 20000 in
theorem gX6_primary_X1_valueIn : GoodIn wsX6_primary (wsV RX6 130 RX1 yX1_valueIn wsX1_valueIn) := goodIn_app (goodIn_of _ (by decide +kernel)) ggX6_primary_X1_valueIn
theorem dX6_primary_0 : decode cX6_primary 0 = .ok (.iload_n 1, 1) := by decide +kernel
theorem dX6_primary_1 : decode cX6_primary 1 = .ok (.iconst (-1), 1) := by decide +kernel
theorem dX6_primary_2 : decode cX6_primary 2 = .ok (.if_icmp .eq 10, 3) := by decide +kernel
theorem dX6_primary_5 : decode cX6_primary 5 = .ok (.iload_n 1, 1) := by decide +kernel
theorem dX6_primary_6 : decode cX6_primary 6 = .ok (.invokestatic 118, 3) := by decide +kernel
theorem dX6_primary_9 : decode cX6_primary 9 = .ok (.ifCond .eq 10, 3) := by decide +kernel
theorem dX6_primary_12 : decode cX6_primary 12 = .ok (.iload_n 2, 1) := by decide +kernel
theorem dX6_primary_13 : decode cX6_primary 13 = .ok (.invokestatic 88, 3) := by decide +kernel
theorem dX6_primary_16 : decode cX6_primary 16 = .ok (.ifCond .ne 6, 3) := by decide +kernel
theorem dX6_primary_19 : decode cX6_primary 19 = .ok (.ldc 94, 2) := by decide +kernel
theorem dX6_primary_21 : decode cX6_primary 21 = .ok (.ireturn, 1) := by decide +kernel
theorem dX6_primary_22 : decode cX6_primary 22 = .ok (.aload_n 0, 1) := by decide +kernel
theorem dX6_primary_23 : decode cX6_primary 23 = .ok (.getfield 10, 3) := by decide +kernel
theorem dX6_primary_26 : decode cX6_primary 26 = .ok (.getfield 105, 3) := by decide +kernel
theorem dX6_primary_29 : decode cX6_primary 29 = .ok (.astore_n 3, 1) := by decide +kernel
theorem dX6_primary_30 : decode cX6_primary 30 = .ok (.iload_n 1, 1) := by decide +kernel
theorem dX6_primary_31 : decode cX6_primary 31 = .ok (.iconst (-1), 1) := by decide +kernel
theorem dX6_primary_32 : decode cX6_primary 32 = .ok (.if_icmp .ne 13, 3) := by decide +kernel
theorem dX6_primary_35 : decode cX6_primary 35 = .ok (.aload_n 3, 1) := by decide +kernel
theorem dX6_primary_36 : decode cX6_primary 36 = .ok (.iload_n 2, 1) := by decide +kernel
theorem dX6_primary_37 : decode cX6_primary 37 = .ok (.aload_n 3, 1) := by decide +kernel
theorem dX6_primary_38 : decode cX6_primary 38 = .ok (.getfield 121, 3) := by decide +kernel
theorem dX6_primary_41 : decode cX6_primary 41 = .ok (.invokevirtual 113, 3) := by decide +kernel
theorem dX6_primary_44 : decode cX6_primary 44 = .ok (.ireturn, 1) := by decide +kernel
theorem dX6_primary_45 : decode cX6_primary 45 = .ok (.aload_n 0, 1) := by decide +kernel
theorem dX6_primary_46 : decode cX6_primary 46 = .ok (.getfield 10, 3) := by decide +kernel
theorem dX6_primary_49 : decode cX6_primary 49 = .ok (.iload_n 1, 1) := by decide +kernel
theorem dX6_primary_50 : decode cX6_primary 50 = .ok (.invokevirtual 124, 3) := by decide +kernel
theorem dX6_primary_53 : decode cX6_primary 53 = .ok (.istore 4, 2) := by decide +kernel
theorem dX6_primary_55 : decode cX6_primary 55 = .ok (.iload 4, 2) := by decide +kernel
theorem dX6_primary_57 : decode cX6_primary 57 = .ok (.ifCond .ne 6, 3) := by decide +kernel
theorem dX6_primary_60 : decode cX6_primary 60 = .ok (.ldc 104, 2) := by decide +kernel
theorem dX6_primary_62 : decode cX6_primary 62 = .ok (.ireturn, 1) := by decide +kernel
theorem dX6_primary_63 : decode cX6_primary 63 = .ok (.aload_n 3, 1) := by decide +kernel
theorem dX6_primary_64 : decode cX6_primary 64 = .ok (.iload 4, 2) := by decide +kernel
theorem dX6_primary_66 : decode cX6_primary 66 = .ok (.iload_n 2, 1) := by decide +kernel
theorem dX6_primary_67 : decode cX6_primary 67 = .ok (.aload_n 3, 1) := by decide +kernel
theorem dX6_primary_68 : decode cX6_primary 68 = .ok (.getfield 121, 3) := by decide +kernel
theorem dX6_primary_71 : decode cX6_primary 71 = .ok (.invokevirtual 127, 3) := by decide +kernel
theorem dX6_primary_74 : decode cX6_primary 74 = .ok (.istore 5, 2) := by decide +kernel
theorem dX6_primary_76 : decode cX6_primary 76 = .ok (.iload 5, 2) := by decide +kernel
theorem dX6_primary_78 : decode cX6_primary 78 = .ok (.ifCond .ne 15, 3) := by decide +kernel
theorem dX6_primary_81 : decode cX6_primary 81 = .ok (.aload_n 3, 1) := by decide +kernel
theorem dX6_primary_82 : decode cX6_primary 82 = .ok (.iload_n 2, 1) := by decide +kernel
theorem dX6_primary_83 : decode cX6_primary 83 = .ok (.aload_n 3, 1) := by decide +kernel
theorem dX6_primary_84 : decode cX6_primary 84 = .ok (.getfield 121, 3) := by decide +kernel
theorem dX6_primary_87 : decode cX6_primary 87 = .ok (.invokevirtual 113, 3) := by decide +kernel
theorem dX6_primary_90 : decode cX6_primary 90 = .ok (.goto 9, 3) := by decide +kernel
theorem dX6_primary_93 : decode cX6_primary 93 = .ok (.aload_n 3, 1) := by decide +kernel
theorem dX6_primary_94 : decode cX6_primary 94 = .ok (.iload 5, 2) := by decide +kernel
theorem dX6_primary_96 : decode cX6_primary 96 = .ok (.invokevirtual 130, 3) := by decide +kernel
theorem dX6_primary_99 : decode cX6_primary 99 = .ok (.ireturn, 1) := by decide +kernel
set_option maxRecDepth 20000 in
theorem ggX6_serves_X4_isPosition : GoodIn wsX6_serves wsX4_isPosition := goodIn_r _ [11, 12, 13, 27, 28, 29, 30, 31, 32, 33, 34, 35, 36, 37, 38, 43, 44, 45, 46, 47, 48] (by decide +kernel) (by decide +kernel)
set_option maxRecDepth 20000 in
theorem gX6_serves_X4_isPosition : GoodIn wsX6_serves (wsV RX6 91 RX4 yX4_isPosition wsX4_isPosition) := goodIn_app (goodIn_of _ (by decide +kernel)) ggX6_serves_X4_isPosition
set_option maxRecDepth 20000 in
theorem ggX6_serves_X3_canServe : GoodIn wsX6_serves wsX3_canServe := goodIn_r _ [18, 19, 20, 39, 40, 41, 42] (by decide +kernel) (by decide +kernel)
set_option maxRecDepth 20000 in
theorem gX6_serves_X3_canServe : GoodIn wsX6_serves (wsV RX6 99 RX3 yX3_canServe wsX3_canServe) := goodIn_app (goodIn_of _ (by decide +kernel)) ggX6_serves_X3_canServe
theorem dX6_serves_0 : decode cX6_serves 0 = .ok (.aload_n 0, 1) := by decide +kernel
theorem dX6_serves_1 : decode cX6_serves 1 = .ok (.getfield 10, 3) := by decide +kernel
theorem dX6_serves_4 : decode cX6_serves 4 = .ok (.iload_n 1, 1) := by decide +kernel
theorem dX6_serves_5 : decode cX6_serves 5 = .ok (.invokevirtual 91, 3) := by decide +kernel
theorem dX6_serves_8 : decode cX6_serves 8 = .ok (.ifCond .ne 6, 3) := by decide +kernel
theorem dX6_serves_11 : decode cX6_serves 11 = .ok (.ldc 94, 2) := by decide +kernel
theorem dX6_serves_13 : decode cX6_serves 13 = .ok (.ireturn, 1) := by decide +kernel
theorem dX6_serves_14 : decode cX6_serves 14 = .ok (.aload_n 0, 1) := by decide +kernel
theorem dX6_serves_15 : decode cX6_serves 15 = .ok (.getfield 10, 3) := by decide +kernel
theorem dX6_serves_18 : decode cX6_serves 18 = .ok (.getfield 133, 3) := by decide +kernel
theorem dX6_serves_21 : decode cX6_serves 21 = .ok (.iload_n 1, 1) := by decide +kernel
theorem dX6_serves_22 : decode cX6_serves 22 = .ok (.invokevirtual 99, 3) := by decide +kernel
theorem dX6_serves_25 : decode cX6_serves 25 = .ok (.istore_n 2, 1) := by decide +kernel
theorem dX6_serves_26 : decode cX6_serves 26 = .ok (.aload_n 0, 1) := by decide +kernel
theorem dX6_serves_27 : decode cX6_serves 27 = .ok (.getfield 10, 3) := by decide +kernel
theorem dX6_serves_30 : decode cX6_serves 30 = .ok (.getfield 137, 3) := by decide +kernel
theorem dX6_serves_33 : decode cX6_serves 33 = .ok (.iload_n 1, 1) := by decide +kernel
theorem dX6_serves_34 : decode cX6_serves 34 = .ok (.invokevirtual 99, 3) := by decide +kernel
theorem dX6_serves_37 : decode cX6_serves 37 = .ok (.istore_n 3, 1) := by decide +kernel
theorem dX6_serves_38 : decode cX6_serves 38 = .ok (.iload_n 2, 1) := by decide +kernel
theorem dX6_serves_39 : decode cX6_serves 39 = .ok (.ifCond .eq 36, 3) := by decide +kernel
theorem dX6_serves_42 : decode cX6_serves 42 = .ok (.iload_n 3, 1) := by decide +kernel
theorem dX6_serves_43 : decode cX6_serves 43 = .ok (.ifCond .eq 32, 3) := by decide +kernel
theorem dX6_serves_46 : decode cX6_serves 46 = .ok (.aload_n 0, 1) := by decide +kernel
theorem dX6_serves_47 : decode cX6_serves 47 = .ok (.getfield 10, 3) := by decide +kernel
theorem dX6_serves_50 : decode cX6_serves 50 = .ok (.getfield 137, 3) := by decide +kernel
theorem dX6_serves_53 : decode cX6_serves 53 = .ok (.getfield 109, 3) := by decide +kernel
theorem dX6_serves_56 : decode cX6_serves 56 = .ok (.aload_n 0, 1) := by decide +kernel
theorem dX6_serves_57 : decode cX6_serves 57 = .ok (.getfield 10, 3) := by decide +kernel
theorem dX6_serves_60 : decode cX6_serves 60 = .ok (.getfield 133, 3) := by decide +kernel
theorem dX6_serves_63 : decode cX6_serves 63 = .ok (.getfield 109, 3) := by decide +kernel
theorem dX6_serves_66 : decode cX6_serves 66 = .ok (.if_icmp .le 7, 3) := by decide +kernel
theorem dX6_serves_69 : decode cX6_serves 69 = .ok (.iconst 1, 1) := by decide +kernel
theorem dX6_serves_70 : decode cX6_serves 70 = .ok (.goto 4, 3) := by decide +kernel
theorem dX6_serves_73 : decode cX6_serves 73 = .ok (.iconst 0, 1) := by decide +kernel
theorem dX6_serves_74 : decode cX6_serves 74 = .ok (.ireturn, 1) := by decide +kernel
theorem dX6_serves_75 : decode cX6_serves 75 = .ok (.iload_n 2, 1) := by decide +kernel
theorem dX6_serves_76 : decode cX6_serves 76 = .ok (.ifCond .eq 5, 3) := by decide +kernel
theorem dX6_serves_79 : decode cX6_serves 79 = .ok (.iconst 0, 1) := by decide +kernel
theorem dX6_serves_80 : decode cX6_serves 80 = .ok (.ireturn, 1) := by decide +kernel
theorem dX6_serves_81 : decode cX6_serves 81 = .ok (.iload_n 3, 1) := by decide +kernel
theorem dX6_serves_82 : decode cX6_serves 82 = .ok (.ifCond .eq 7, 3) := by decide +kernel
theorem dX6_serves_85 : decode cX6_serves 85 = .ok (.iconst 1, 1) := by decide +kernel
theorem dX6_serves_86 : decode cX6_serves 86 = .ok (.goto 5, 3) := by decide +kernel
theorem dX6_serves_89 : decode cX6_serves 89 = .ok (.ldc 140, 2) := by decide +kernel
theorem dX6_serves_91 : decode cX6_serves 91 = .ok (.ireturn, 1) := by decide +kernel
set_option maxRecDepth 20000 in
theorem ggX6_fence_X6_isKey : GoodIn wsX6_fence wsX6_isKey := goodIn_r _ [8] (by decide +kernel) (by decide +kernel)
set_option maxRecDepth 20000 in
theorem gX6_fence_X6_isKey : GoodIn wsX6_fence (va_wsS RX6 88 yX6_isKey wsX6_isKey) := goodIn_app (goodIn_of _ (by decide +kernel)) ggX6_fence_X6_isKey
set_option maxRecDepth 20000 in
theorem ggX6_fence_X1_lastCommit : GoodIn wsX6_fence wsX1_lastCommit := goodIn_r _ [13, 14, 15, 16, 12, 17, 18, 19, 20, 21, 22, 23, 24, 25, 26, 27, 28, 29, 30, 31, 32, 33, 34, 35, 36, 37, 38, 39, 40, 41, 42, 65, 66, 67, 68, 69, 70] (by decide +kernel) (by decide +kernel)
set_option maxRecDepth 20000 in
theorem gX6_fence_X1_lastCommit : GoodIn wsX6_fence (wsV RX6 141 RX1 yX1_lastCommit wsX1_lastCommit) := goodIn_app (goodIn_of _ (by decide +kernel)) ggX6_fence_X1_lastCommit
set_option maxRecDepth 20000 in
theorem ggX6_fence_X6_found : GoodIn wsX6_fence wsX6_found := goodIn_r _ [45, 46] (by decide +kernel) (by decide +kernel)
set_option maxRecDepth 20000 in
theorem gX6_fence_X6_found : GoodIn wsX6_fence (va_wsS RX6 144 yX6_found wsX6_found) := goodIn_app (goodIn_of _ (by decide +kernel)) ggX6_fence_X6_found
theorem dX6_fence_0 : decode cX6_fence 0 = .ok (.iload_n 1, 1) := by decide +kernel
theorem dX6_fence_1 : decode cX6_fence 1 = .ok (.invokestatic 88, 3) := by decide +kernel
theorem dX6_fence_4 : decode cX6_fence 4 = .ok (.ifCond .ne 6, 3) := by decide +kernel
theorem dX6_fence_7 : decode cX6_fence 7 = .ok (.ldc 94, 2) := by decide +kernel
theorem dX6_fence_9 : decode cX6_fence 9 = .ok (.ireturn, 1) := by decide +kernel
theorem dX6_fence_10 : decode cX6_fence 10 = .ok (.aload_n 0, 1) := by decide +kernel
theorem dX6_fence_11 : decode cX6_fence 11 = .ok (.getfield 10, 3) := by decide +kernel
theorem dX6_fence_14 : decode cX6_fence 14 = .ok (.getfield 105, 3) := by decide +kernel
theorem dX6_fence_17 : decode cX6_fence 17 = .ok (.iload_n 1, 1) := by decide +kernel
theorem dX6_fence_18 : decode cX6_fence 18 = .ok (.aload_n 0, 1) := by decide +kernel
theorem dX6_fence_19 : decode cX6_fence 19 = .ok (.getfield 10, 3) := by decide +kernel
theorem dX6_fence_22 : decode cX6_fence 22 = .ok (.getfield 105, 3) := by decide +kernel
theorem dX6_fence_25 : decode cX6_fence 25 = .ok (.getfield 121, 3) := by decide +kernel
theorem dX6_fence_28 : decode cX6_fence 28 = .ok (.invokevirtual 141, 3) := by decide +kernel
theorem dX6_fence_31 : decode cX6_fence 31 = .ok (.invokestatic 144, 3) := by decide +kernel
theorem dX6_fence_34 : decode cX6_fence 34 = .ok (.ireturn, 1) := by decide +kernel
set_option maxRecDepth 20000 in
theorem ggX6_recordOf_X1_has : GoodIn wsX6_recordOf wsX1_has := goodIn_r _ [9, 10, 56, 57, 58, 59, 60, 61] (by decide +kernel) (by decide +kernel)
set_option maxRecDepth 20000 in
theorem gX6_recordOf_X1_has : GoodIn wsX6_recordOf (wsV RX6 147 RX1 yX1_has wsX1_has) := goodIn_app (goodIn_of _ (by decide +kernel)) ggX6_recordOf_X1_has
set_option maxRecDepth 20000 in
theorem ggX6_recordOf_X1_kindOf : GoodIn wsX6_recordOf wsX1_kindOf := goodIn_r _ [14, 15, 16, 17, 6, 7, 8, 9, 10, 56, 57, 58, 59, 60, 61] (by decide +kernel) (by decide +kernel)
set_option maxRecDepth 20000 in
theorem gX6_recordOf_X1_kindOf : GoodIn wsX6_recordOf (wsV RX6 150 RX1 yX1_kindOf wsX1_kindOf) := goodIn_app (goodIn_of _ (by decide +kernel)) ggX6_recordOf_X1_kindOf
set_option maxRecDepth 20000 in
theorem ggX6_recordOf_X1_transactionOf : GoodIn wsX6_recordOf wsX1_transactionOf := goodIn_r _ [21, 22, 16, 17, 6, 7, 8, 9, 10, 56, 57, 58, 59, 60, 61] (by decide +kernel) (by decide +kernel)
set_option maxRecDepth 20000 in
theorem gX6_recordOf_X1_transactionOf : GoodIn wsX6_recordOf (wsV RX6 153 RX1 yX1_transactionOf wsX1_transactionOf) := goodIn_app (goodIn_of _ (by decide +kernel)) ggX6_recordOf_X1_transactionOf
set_option maxRecDepth 20000 in
theorem ggX6_recordOf_X1_keyOf : GoodIn wsX6_recordOf wsX1_keyOf := goodIn_r _ [26, 27, 16, 17, 6, 7, 8, 9, 10, 56, 57, 58, 59, 60, 61] (by decide +kernel) (by decide +kernel)
set_option maxRecDepth 20000 in
theorem gX6_recordOf_X1_keyOf : GoodIn wsX6_recordOf (wsV RX6 156 RX1 yX1_keyOf wsX1_keyOf) := goodIn_app (goodIn_of _ (by decide +kernel)) ggX6_recordOf_X1_keyOf
set_option maxRecDepth 20000 in
theorem ggX6_recordOf_X1_valueIn : GoodIn wsX6_recordOf wsX1_valueIn := goodIn_r _ [31, 32, 16, 17, 6, 7, 8, 9, 10, 56, 57, 58, 59, 60, 61] (by decide +kernel) (by decide +kernel)
set_option maxRecDepth 20000 in
theorem gX6_recordOf_X1_valueIn : GoodIn wsX6_recordOf (wsV RX6 130 RX1 yX1_valueIn wsX1_valueIn) := goodIn_app (goodIn_of _ (by decide +kernel)) ggX6_recordOf_X1_valueIn
set_option maxRecDepth 20000 in
theorem ggX6_recordOf_X1_tickOf : GoodIn wsX6_recordOf wsX1_tickOf := goodIn_r _ [36, 37, 16, 17, 6, 7, 8, 9, 10, 56, 57, 58, 59, 60, 61] (by decide +kernel) (by decide +kernel)
set_option maxRecDepth 20000 in
theorem gX6_recordOf_X1_tickOf : GoodIn wsX6_recordOf (wsV RX6 159 RX1 yX1_tickOf wsX1_tickOf) := goodIn_app (goodIn_of _ (by decide +kernel)) ggX6_recordOf_X1_tickOf
theorem dX6_recordOf_0 : decode cX6_recordOf 0 = .ok (.iload_n 1, 1) := by decide +kernel
theorem dX6_recordOf_1 : decode cX6_recordOf 1 = .ok (.iconst 1, 1) := by decide +kernel
theorem dX6_recordOf_2 : decode cX6_recordOf 2 = .ok (.if_icmp .lt 12, 3) := by decide +kernel
theorem dX6_recordOf_5 : decode cX6_recordOf 5 = .ok (.iload_n 2, 1) := by decide +kernel
theorem dX6_recordOf_6 : decode cX6_recordOf 6 = .ok (.ifCond .lt 8, 3) := by decide +kernel
theorem dX6_recordOf_9 : decode cX6_recordOf 9 = .ok (.iload_n 2, 1) := by decide +kernel
theorem dX6_recordOf_10 : decode cX6_recordOf 10 = .ok (.iconst 4, 1) := by decide +kernel
theorem dX6_recordOf_11 : decode cX6_recordOf 11 = .ok (.if_icmp .le 6, 3) := by decide +kernel
theorem dX6_recordOf_14 : decode cX6_recordOf 14 = .ok (.ldc 94, 2) := by decide +kernel
theorem dX6_recordOf_16 : decode cX6_recordOf 16 = .ok (.ireturn, 1) := by decide +kernel
theorem dX6_recordOf_17 : decode cX6_recordOf 17 = .ok (.aload_n 0, 1) := by decide +kernel
theorem dX6_recordOf_18 : decode cX6_recordOf 18 = .ok (.getfield 10, 3) := by decide +kernel
theorem dX6_recordOf_21 : decode cX6_recordOf 21 = .ok (.getfield 105, 3) := by decide +kernel
theorem dX6_recordOf_24 : decode cX6_recordOf 24 = .ok (.astore_n 3, 1) := by decide +kernel
theorem dX6_recordOf_25 : decode cX6_recordOf 25 = .ok (.iload_n 2, 1) := by decide +kernel
theorem dX6_recordOf_26 : decode cX6_recordOf 26 = .ok (.iconst 2, 1) := by decide +kernel
theorem dX6_recordOf_27 : decode cX6_recordOf 27 = .ok (.if_icmp .eq 8, 3) := by decide +kernel
theorem dX6_recordOf_30 : decode cX6_recordOf 30 = .ok (.iload_n 2, 1) := by decide +kernel
theorem dX6_recordOf_31 : decode cX6_recordOf 31 = .ok (.iconst 3, 1) := by decide +kernel
theorem dX6_recordOf_32 : decode cX6_recordOf 32 = .ok (.if_icmp .ne 7, 3) := by decide +kernel
theorem dX6_recordOf_35 : decode cX6_recordOf 35 = .ok (.iconst 1, 1) := by decide +kernel
theorem dX6_recordOf_36 : decode cX6_recordOf 36 = .ok (.goto 4, 3) := by decide +kernel
theorem dX6_recordOf_39 : decode cX6_recordOf 39 = .ok (.iconst 0, 1) := by decide +kernel
