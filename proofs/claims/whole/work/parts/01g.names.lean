theorem dX7_fillsGaps_30 : decode cX7_fillsGaps 30 = .ok (.goto (-26), 3) := by decide +kernel
theorem dX7_fillsGaps_33 : decode cX7_fillsGaps 33 = .ok (.return_, 1) := by decide +kernel
set_option maxRecDepth 20000 in
theorem ggX7_lose_X7_isStandby : GoodIn wsX7_lose wsX7_isStandby := goodIn_r _ [7, 8, 9, 6, 10] (by decide +kernel) (by decide +kernel)
set_option maxRecDepth 20000 in
theorem gX7_lose_X7_isStandby : GoodIn wsX7_lose (va_wsS RX7 69 yX7_isStandby wsX7_isStandby) := goodIn_app (goodIn_of _ (by decide +kernel)) ggX7_lose_X7_isStandby
set_option maxRecDepth 20000 in
theorem ggX7_lose_X7_ofStandby : GoodIn wsX7_lose wsX7_ofStandby := goodIn_r _ [14, 3, 30, 31, 32, 33, 34, 35, 36, 37, 38, 39, 40, 41, 42, 43] (by decide +kernel) (by decide +kernel)
set_option maxRecDepth 20000 in
theorem gX7_lose_X7_ofStandby : GoodIn wsX7_lose (wsV RX7 72 RX7 yX7_ofStandby wsX7_ofStandby) := goodIn_app (goodIn_of _ (by decide +kernel)) ggX7_lose_X7_ofStandby
set_option maxRecDepth 20000 in
theorem ggX7_lose_X7_isGap : GoodIn wsX7_lose wsX7_isGap := goodIn_r _ [18, 3, 30, 31, 32, 33, 34, 35, 36, 37, 38, 39, 40, 41, 42, 43] (by decide +kernel) (by decide +kernel)
set_option maxRecDepth 20000 in
theorem gX7_lose_X7_isGap : GoodIn wsX7_lose (wsV RX7 75 RX7 yX7_isGap wsX7_isGap) := goodIn_app (goodIn_of _ (by decide +kernel)) ggX7_lose_X7_isGap
set_option maxRecDepth 20000 in
theorem ggX7_lose_X7_changes : GoodIn wsX7_lose wsX7_changes := goodIn_r _ [22, 23, 24, 25, 3, 30, 31, 32, 33, 34, 35, 36, 37, 38, 39, 40, 41, 42, 43] (by decide +kernel) (by decide +kernel)
set_option maxRecDepth 20000 in
theorem gX7_lose_X7_changes : GoodIn wsX7_lose (wsV RX7 43 RX7 yX7_changes wsX7_changes) := goodIn_app (goodIn_of _ (by decide +kernel)) ggX7_lose_X7_changes
set_option maxRecDepth 20000 in
theorem ggX7_lose_X7_gaps : GoodIn wsX7_lose wsX7_gaps := goodIn_r _ [29, 15, 16, 17, 6, 18, 3, 30, 31, 32, 33, 34, 35, 36, 37, 38, 39, 40, 41, 42, 43] (by decide +kernel) (by decide +kernel)
set_option maxRecDepth 20000 in
theorem gX7_lose_X7_gaps : GoodIn wsX7_lose (wsV RX7 79 RX7 yX7_gaps wsX7_gaps) := goodIn_app (goodIn_of _ (by decide +kernel)) ggX7_lose_X7_gaps
theorem dX7_lose_0 : decode cX7_lose 0 = .ok (.iload_n 1, 1) := by decide +kernel
theorem dX7_lose_1 : decode cX7_lose 1 = .ok (.invokestatic 69, 3) := by decide +kernel
theorem dX7_lose_4 : decode cX7_lose 4 = .ok (.ifCond .eq 8, 3) := by decide +kernel
theorem dX7_lose_7 : decode cX7_lose 7 = .ok (.iload_n 2, 1) := by decide +kernel
theorem dX7_lose_8 : decode cX7_lose 8 = .ok (.iconst 1, 1) := by decide +kernel
theorem dX7_lose_9 : decode cX7_lose 9 = .ok (.if_icmp .ge 6, 3) := by decide +kernel
theorem dX7_lose_12 : decode cX7_lose 12 = .ok (.ldc 41, 2) := by decide +kernel
theorem dX7_lose_14 : decode cX7_lose 14 = .ok (.ireturn, 1) := by decide +kernel
theorem dX7_lose_15 : decode cX7_lose 15 = .ok (.aload_n 0, 1) := by decide +kernel
theorem dX7_lose_16 : decode cX7_lose 16 = .ok (.iload_n 1, 1) := by decide +kernel
theorem dX7_lose_17 : decode cX7_lose 17 = .ok (.iconst 2, 1) := by decide +kernel
theorem dX7_lose_18 : decode cX7_lose 18 = .ok (.invokevirtual 72, 3) := by decide +kernel
theorem dX7_lose_21 : decode cX7_lose 21 = .ok (.iconst 1, 1) := by decide +kernel
theorem dX7_lose_22 : decode cX7_lose 22 = .ok (.if_icmp .eq 32, 3) := by decide +kernel
theorem dX7_lose_25 : decode cX7_lose 25 = .ok (.iload_n 2, 1) := by decide +kernel
theorem dX7_lose_26 : decode cX7_lose 26 = .ok (.aload_n 0, 1) := by decide +kernel
theorem dX7_lose_27 : decode cX7_lose 27 = .ok (.iload_n 1, 1) := by decide +kernel
theorem dX7_lose_28 : decode cX7_lose 28 = .ok (.iconst 0, 1) := by decide +kernel
theorem dX7_lose_29 : decode cX7_lose 29 = .ok (.invokevirtual 72, 3) := by decide +kernel
theorem dX7_lose_32 : decode cX7_lose 32 = .ok (.if_icmp .gt 22, 3) := by decide +kernel
theorem dX7_lose_35 : decode cX7_lose 35 = .ok (.iload_n 2, 1) := by decide +kernel
theorem dX7_lose_36 : decode cX7_lose 36 = .ok (.aload_n 0, 1) := by decide +kernel
theorem dX7_lose_37 : decode cX7_lose 37 = .ok (.iload_n 1, 1) := by decide +kernel
theorem dX7_lose_38 : decode cX7_lose 38 = .ok (.iconst 1, 1) := by decide +kernel
theorem dX7_lose_39 : decode cX7_lose 39 = .ok (.invokevirtual 72, 3) := by decide +kernel
theorem dX7_lose_42 : decode cX7_lose 42 = .ok (.if_icmp .le 12, 3) := by decide +kernel
theorem dX7_lose_45 : decode cX7_lose 45 = .ok (.aload_n 0, 1) := by decide +kernel
theorem dX7_lose_46 : decode cX7_lose 46 = .ok (.iload_n 1, 1) := by decide +kernel
theorem dX7_lose_47 : decode cX7_lose 47 = .ok (.iload_n 2, 1) := by decide +kernel
theorem dX7_lose_48 : decode cX7_lose 48 = .ok (.invokevirtual 75, 3) := by decide +kernel
theorem dX7_lose_51 : decode cX7_lose 51 = .ok (.ifCond .eq 6, 3) := by decide +kernel
theorem dX7_lose_54 : decode cX7_lose 54 = .ok (.ldc 42, 2) := by decide +kernel
theorem dX7_lose_56 : decode cX7_lose 56 = .ok (.ireturn, 1) := by decide +kernel
theorem dX7_lose_57 : decode cX7_lose 57 = .ok (.aload_n 0, 1) := by decide +kernel
theorem dX7_lose_58 : decode cX7_lose 58 = .ok (.invokevirtual 43, 3) := by decide +kernel
theorem dX7_lose_61 : decode cX7_lose 61 = .ok (.aload_n 0, 1) := by decide +kernel
theorem dX7_lose_62 : decode cX7_lose 62 = .ok (.getfield 7, 3) := by decide +kernel
theorem dX7_lose_65 : decode cX7_lose 65 = .ok (.bipush 18, 2) := by decide +kernel
theorem dX7_lose_67 : decode cX7_lose 67 = .ok (.bipush 100, 2) := by decide +kernel
theorem dX7_lose_69 : decode cX7_lose 69 = .ok (.iload_n 1, 1) := by decide +kernel
theorem dX7_lose_70 : decode cX7_lose 70 = .ok (.imul, 1) := by decide +kernel
theorem dX7_lose_71 : decode cX7_lose 71 = .ok (.iadd, 1) := by decide +kernel
theorem dX7_lose_72 : decode cX7_lose 72 = .ok (.iload_n 2, 1) := by decide +kernel
theorem dX7_lose_73 : decode cX7_lose 73 = .ok (.iadd, 1) := by decide +kernel
theorem dX7_lose_74 : decode cX7_lose 74 = .ok (.iconst 1, 1) := by decide +kernel
theorem dX7_lose_75 : decode cX7_lose 75 = .ok (.isub, 1) := by decide +kernel
theorem dX7_lose_76 : decode cX7_lose 76 = .ok (.iconst 1, 1) := by decide +kernel
theorem dX7_lose_77 : decode cX7_lose 77 = .ok (.iastore, 1) := by decide +kernel
theorem dX7_lose_78 : decode cX7_lose 78 = .ok (.aload_n 0, 1) := by decide +kernel
theorem dX7_lose_79 : decode cX7_lose 79 = .ok (.getfield 7, 3) := by decide +kernel
theorem dX7_lose_82 : decode cX7_lose 82 = .ok (.iconst 5, 1) := by decide +kernel
theorem dX7_lose_83 : decode cX7_lose 83 = .ok (.dup2, 1) := by decide +kernel
theorem dX7_lose_84 : decode cX7_lose 84 = .ok (.iaload, 1) := by decide +kernel
theorem dX7_lose_85 : decode cX7_lose 85 = .ok (.iconst 1, 1) := by decide +kernel
theorem dX7_lose_86 : decode cX7_lose 86 = .ok (.iadd, 1) := by decide +kernel
theorem dX7_lose_87 : decode cX7_lose 87 = .ok (.iastore, 1) := by decide +kernel
theorem dX7_lose_88 : decode cX7_lose 88 = .ok (.aload_n 0, 1) := by decide +kernel
theorem dX7_lose_89 : decode cX7_lose 89 = .ok (.iload_n 1, 1) := by decide +kernel
theorem dX7_lose_90 : decode cX7_lose 90 = .ok (.invokevirtual 79, 3) := by decide +kernel
theorem dX7_lose_93 : decode cX7_lose 93 = .ok (.ireturn, 1) := by decide +kernel
set_option maxRecDepth 20000 in
theorem ggX7_resend_X7_isStandby : GoodIn wsX7_resend wsX7_isStandby := goodIn_r _ [6, 7, 8, 5, 9] (by decide +kernel) (by decide +kernel)
set_option maxRecDepth 20000 in
theorem gX7_resend_X7_isStandby : GoodIn wsX7_resend (va_wsS RX7 69 yX7_isStandby wsX7_isStandby) := goodIn_app (goodIn_of _ (by decide +kernel)) ggX7_resend_X7_isStandby
set_option maxRecDepth 20000 in
theorem ggX7_resend_X7_ofStandby : GoodIn wsX7_resend wsX7_ofStandby := goodIn_r _ [13, 14, 34, 35, 36, 37, 38, 39, 40, 41, 42, 43, 44, 45, 46, 47] (by decide +kernel) (by decide +kernel)
set_option maxRecDepth 20000 in
theorem gX7_resend_X7_ofStandby : GoodIn wsX7_resend (wsV RX7 72 RX7 yX7_ofStandby wsX7_ofStandby) := goodIn_app (goodIn_of _ (by decide +kernel)) ggX7_resend_X7_ofStandby
set_option maxRecDepth 20000 in
theorem ggX7_resend_X7_changes : GoodIn wsX7_resend wsX7_changes := goodIn_r _ [18, 19, 20, 21, 14, 34, 35, 36, 37, 38, 39, 40, 41, 42, 43, 44, 45, 46, 47] (by decide +kernel) (by decide +kernel)
set_option maxRecDepth 20000 in
theorem gX7_resend_X7_changes : GoodIn wsX7_resend (wsV RX7 43 RX7 yX7_changes wsX7_changes) := goodIn_app (goodIn_of _ (by decide +kernel)) ggX7_resend_X7_changes
set_option maxRecDepth 20000 in
theorem ggX7_resend_X7_gaps : GoodIn wsX7_resend wsX7_gaps := goodIn_r _ [25, 26, 27, 28, 5, 29, 14, 34, 35, 36, 37, 38, 39, 40, 41, 42, 43, 44, 45, 46, 47] (by decide +kernel) (by decide +kernel)
set_option maxRecDepth 20000 in
theorem gX7_resend_X7_gaps : GoodIn wsX7_resend (wsV RX7 79 RX7 yX7_gaps wsX7_gaps) := goodIn_app (goodIn_of _ (by decide +kernel)) ggX7_resend_X7_gaps
set_option maxRecDepth 20000 in
theorem ggX7_resend_X7_fillsGaps : GoodIn wsX7_resend wsX7_fillsGaps := goodIn_r _ [33, 14, 34, 35, 36, 37, 38, 39, 40, 41, 42, 43, 44, 45, 46, 47] (by decide +kernel) (by decide +kernel)
set_option maxRecDepth 20000 in
theorem gX7_resend_X7_fillsGaps : GoodIn wsX7_resend (wsV RX7 82 RX7 yX7_fillsGaps wsX7_fillsGaps) := goodIn_app (goodIn_of _ (by decide +kernel)) ggX7_resend_X7_fillsGaps
theorem dX7_resend_0 : decode cX7_resend 0 = .ok (.iload_n 1, 1) := by decide +kernel
theorem dX7_resend_1 : decode cX7_resend 1 = .ok (.invokestatic 69, 3) := by decide +kernel
theorem dX7_resend_4 : decode cX7_resend 4 = .ok (.ifCond .ne 6, 3) := by decide +kernel
theorem dX7_resend_7 : decode cX7_resend 7 = .ok (.ldc 41, 2) := by decide +kernel
theorem dX7_resend_9 : decode cX7_resend 9 = .ok (.ireturn, 1) := by decide +kernel
theorem dX7_resend_10 : decode cX7_resend 10 = .ok (.aload_n 0, 1) := by decide +kernel
theorem dX7_resend_11 : decode cX7_resend 11 = .ok (.iload_n 1, 1) := by decide +kernel
theorem dX7_resend_12 : decode cX7_resend 12 = .ok (.iconst 2, 1) := by decide +kernel
theorem dX7_resend_13 : decode cX7_resend 13 = .ok (.invokevirtual 72, 3) := by decide +kernel
theorem dX7_resend_16 : decode cX7_resend 16 = .ok (.iconst 1, 1) := by decide +kernel
theorem dX7_resend_17 : decode cX7_resend 17 = .ok (.if_icmp .ne 6, 3) := by decide +kernel
theorem dX7_resend_20 : decode cX7_resend 20 = .ok (.ldc 42, 2) := by decide +kernel
theorem dX7_resend_22 : decode cX7_resend 22 = .ok (.ireturn, 1) := by decide +kernel
theorem dX7_resend_23 : decode cX7_resend 23 = .ok (.aload_n 0, 1) := by decide +kernel
theorem dX7_resend_24 : decode cX7_resend 24 = .ok (.invokevirtual 43, 3) := by decide +kernel
theorem dX7_resend_27 : decode cX7_resend 27 = .ok (.aload_n 0, 1) := by decide +kernel
theorem dX7_resend_28 : decode cX7_resend 28 = .ok (.iload_n 1, 1) := by decide +kernel
theorem dX7_resend_29 : decode cX7_resend 29 = .ok (.invokevirtual 79, 3) := by decide +kernel
theorem dX7_resend_32 : decode cX7_resend 32 = .ok (.istore_n 2, 1) := by decide +kernel
theorem dX7_resend_33 : decode cX7_resend 33 = .ok (.aload_n 0, 1) := by decide +kernel
theorem dX7_resend_34 : decode cX7_resend 34 = .ok (.iload_n 1, 1) := by decide +kernel
theorem dX7_resend_35 : decode cX7_resend 35 = .ok (.iconst 0, 1) := by decide +kernel
theorem dX7_resend_36 : decode cX7_resend 36 = .ok (.invokevirtual 82, 3) := by decide +kernel
theorem dX7_resend_39 : decode cX7_resend 39 = .ok (.iload_n 2, 1) := by decide +kernel
theorem dX7_resend_40 : decode cX7_resend 40 = .ok (.ireturn, 1) := by decide +kernel
set_option maxRecDepth 20000 in
theorem ggX7_goes_X7_ofStandby : GoodIn wsX7_goes wsX7_ofStandby := goodIn_r _ [6, 1, 15, 16, 17, 18, 19, 20, 21, 22, 23, 24, 25, 26, 27, 28] (by decide +kernel) (by decide +kernel)
set_option maxRecDepth 20000 in
theorem gX7_goes_X7_ofStandby : GoodIn wsX7_goes (wsV RX7 72 RX7 yX7_ofStandby wsX7_ofStandby) := goodIn_app (goodIn_of _ (by decide +kernel)) ggX7_goes_X7_ofStandby
set_option maxRecDepth 20000 in
theorem ggX7_goes_X7_isGap : GoodIn wsX7_goes wsX7_isGap := goodIn_r _ [10, 1, 15, 16, 17, 18, 19, 20, 21, 22, 23, 24, 25, 26, 27, 28] (by decide +kernel) (by decide +kernel)
set_option maxRecDepth 20000 in
theorem gX7_goes_X7_isGap : GoodIn wsX7_goes (wsV RX7 75 RX7 yX7_isGap wsX7_isGap) := goodIn_app (goodIn_of _ (by decide +kernel)) ggX7_goes_X7_isGap
set_option maxRecDepth 20000 in
theorem ggX7_goes_X7_ofRecord : GoodIn wsX7_goes wsX7_ofRecord := goodIn_r _ [14, 1, 15, 16, 17, 18, 19, 20, 21, 22, 23, 24, 25, 26, 27, 28] (by decide +kernel) (by decide +kernel)
set_option maxRecDepth 20000 in
theorem gX7_goes_X7_ofRecord : GoodIn wsX7_goes (wsV RX7 59 RX7 yX7_ofRecord wsX7_ofRecord) := goodIn_app (goodIn_of _ (by decide +kernel)) ggX7_goes_X7_ofRecord
theorem dX7_goes_0 : decode cX7_goes 0 = .ok (.iconst 0, 1) := by decide +kernel
theorem dX7_goes_1 : decode cX7_goes 1 = .ok (.istore 5, 2) := by decide +kernel
theorem dX7_goes_3 : decode cX7_goes 3 = .ok (.aload_n 0, 1) := by decide +kernel
theorem dX7_goes_4 : decode cX7_goes 4 = .ok (.iload_n 1, 1) := by decide +kernel
theorem dX7_goes_5 : decode cX7_goes 5 = .ok (.iconst 2, 1) := by decide +kernel
theorem dX7_goes_6 : decode cX7_goes 6 = .ok (.invokevirtual 72, 3) := by decide +kernel
theorem dX7_goes_9 : decode cX7_goes 9 = .ok (.ifCond .ne 7, 3) := by decide +kernel
theorem dX7_goes_12 : decode cX7_goes 12 = .ok (.iconst 1, 1) := by decide +kernel
theorem dX7_goes_13 : decode cX7_goes 13 = .ok (.goto 4, 3) := by decide +kernel
theorem dX7_goes_16 : decode cX7_goes 16 = .ok (.iconst 0, 1) := by decide +kernel
theorem dX7_goes_17 : decode cX7_goes 17 = .ok (.istore 6, 2) := by decide +kernel
theorem dX7_goes_19 : decode cX7_goes 19 = .ok (.iload 6, 2) := by decide +kernel
theorem dX7_goes_21 : decode cX7_goes 21 = .ok (.ifCond .eq 83, 3) := by decide +kernel
theorem dX7_goes_24 : decode cX7_goes 24 = .ok (.iload 5, 2) := by decide +kernel
theorem dX7_goes_26 : decode cX7_goes 26 = .ok (.iload 4, 2) := by decide +kernel
theorem dX7_goes_28 : decode cX7_goes 28 = .ok (.if_icmp .ge 76, 3) := by decide +kernel
theorem dX7_goes_31 : decode cX7_goes 31 = .ok (.iload_n 2, 1) := by decide +kernel
theorem dX7_goes_32 : decode cX7_goes 32 = .ok (.iload 5, 2) := by decide +kernel
theorem dX7_goes_34 : decode cX7_goes 34 = .ok (.iadd, 1) := by decide +kernel
theorem dX7_goes_35 : decode cX7_goes 35 = .ok (.iconst 1, 1) := by decide +kernel
theorem dX7_goes_36 : decode cX7_goes 36 = .ok (.iadd, 1) := by decide +kernel
theorem dX7_goes_37 : decode cX7_goes 37 = .ok (.istore 7, 2) := by decide +kernel
theorem dX7_goes_39 : decode cX7_goes 39 = .ok (.iload 7, 2) := by decide +kernel
theorem dX7_goes_41 : decode cX7_goes 41 = .ok (.aload_n 0, 1) := by decide +kernel
theorem dX7_goes_42 : decode cX7_goes 42 = .ok (.iload_n 1, 1) := by decide +kernel
theorem dX7_goes_43 : decode cX7_goes 43 = .ok (.iconst 0, 1) := by decide +kernel
theorem dX7_goes_44 : decode cX7_goes 44 = .ok (.invokevirtual 72, 3) := by decide +kernel
theorem dX7_goes_47 : decode cX7_goes 47 = .ok (.if_icmp .gt 36, 3) := by decide +kernel
theorem dX7_goes_50 : decode cX7_goes 50 = .ok (.aload_n 0, 1) := by decide +kernel
theorem dX7_goes_51 : decode cX7_goes 51 = .ok (.iload_n 1, 1) := by decide +kernel
theorem dX7_goes_52 : decode cX7_goes 52 = .ok (.iload 7, 2) := by decide +kernel
theorem dX7_goes_54 : decode cX7_goes 54 = .ok (.invokevirtual 75, 3) := by decide +kernel
theorem dX7_goes_57 : decode cX7_goes 57 = .ok (.ifCond .ne 26, 3) := by decide +kernel
theorem dX7_goes_60 : decode cX7_goes 60 = .ok (.iload_n 3, 1) := by decide +kernel
theorem dX7_goes_61 : decode cX7_goes 61 = .ok (.aload_n 0, 1) := by decide +kernel
theorem dX7_goes_62 : decode cX7_goes 62 = .ok (.iload 7, 2) := by decide +kernel
theorem dX7_goes_64 : decode cX7_goes 64 = .ok (.iconst 4, 1) := by decide +kernel
theorem dX7_goes_65 : decode cX7_goes 65 = .ok (.invokevirtual 59, 3) := by decide +kernel
theorem dX7_goes_68 : decode cX7_goes 68 = .ok (.isub, 1) := by decide +kernel
theorem dX7_goes_69 : decode cX7_goes 69 = .ok (.aload_n 0, 1) := by decide +kernel
theorem dX7_goes_70 : decode cX7_goes 70 = .ok (.getfield 7, 3) := by decide +kernel
theorem dX7_goes_73 : decode cX7_goes 73 = .ok (.bipush 8, 2) := by decide +kernel
theorem dX7_goes_75 : decode cX7_goes 75 = .ok (.iaload, 1) := by decide +kernel
theorem dX7_goes_76 : decode cX7_goes 76 = .ok (.if_icmp .lt 7, 3) := by decide +kernel
theorem dX7_goes_79 : decode cX7_goes 79 = .ok (.iconst 1, 1) := by decide +kernel
theorem dX7_goes_80 : decode cX7_goes 80 = .ok (.goto 4, 3) := by decide +kernel
theorem dX7_goes_83 : decode cX7_goes 83 = .ok (.iconst 0, 1) := by decide +kernel
theorem dX7_goes_84 : decode cX7_goes 84 = .ok (.istore 6, 2) := by decide +kernel
theorem dX7_goes_86 : decode cX7_goes 86 = .ok (.iload 5, 2) := by decide +kernel
theorem dX7_goes_88 : decode cX7_goes 88 = .ok (.iload 6, 2) := by decide +kernel
theorem dX7_goes_90 : decode cX7_goes 90 = .ok (.ifCond .eq 7, 3) := by decide +kernel
theorem dX7_goes_93 : decode cX7_goes 93 = .ok (.iconst 1, 1) := by decide +kernel
theorem dX7_goes_94 : decode cX7_goes 94 = .ok (.goto 4, 3) := by decide +kernel
theorem dX7_goes_97 : decode cX7_goes 97 = .ok (.iconst 0, 1) := by decide +kernel
theorem dX7_goes_98 : decode cX7_goes 98 = .ok (.iadd, 1) := by decide +kernel
theorem dX7_goes_99 : decode cX7_goes 99 = .ok (.istore 5, 2) := by decide +kernel
theorem dX7_goes_101 : decode cX7_goes 101 = .ok (.goto (-82), 3) := by decide +kernel
theorem dX7_goes_104 : decode cX7_goes 104 = .ok (.iload 5, 2) := by decide +kernel
theorem dX7_goes_106 : decode cX7_goes 106 = .ok (.ireturn, 1) := by decide +kernel
set_option maxRecDepth 20000 in
theorem ggX7_tick_X7_in : GoodIn wsX7_tick wsX7_in := goodIn_r _ [6] (by decide +kernel) (by decide +kernel)
set_option maxRecDepth 20000 in
theorem gX7_tick_X7_in : GoodIn wsX7_tick (va_wsS RX7 33 yX7_in wsX7_in) := goodIn_app (goodIn_of _ (by decide +kernel)) ggX7_tick_X7_in
set_option maxRecDepth 20000 in
theorem ggX7_tick_X7_changes : GoodIn wsX7_tick wsX7_changes := goodIn_r _ [10, 11, 12, 13, 2, 30, 31, 32, 33, 34, 35, 36, 37, 38, 39, 40, 41, 42, 43] (by decide +kernel) (by decide +kernel)
set_option maxRecDepth 20000 in
theorem gX7_tick_X7_changes : GoodIn wsX7_tick (wsV RX7 43 RX7 yX7_changes wsX7_changes) := goodIn_app (goodIn_of _ (by decide +kernel)) ggX7_tick_X7_changes
set_option maxRecDepth 20000 in
theorem ggX7_tick_X7_ofStandby : GoodIn wsX7_tick wsX7_ofStandby := goodIn_r _ [17, 2, 30, 31, 32, 33, 34, 35, 36, 37, 38, 39, 40, 41, 42, 43] (by decide +kernel) (by decide +kernel)
set_option maxRecDepth 20000 in
theorem gX7_tick_X7_ofStandby : GoodIn wsX7_tick (wsV RX7 72 RX7 yX7_ofStandby wsX7_ofStandby) := goodIn_app (goodIn_of _ (by decide +kernel)) ggX7_tick_X7_ofStandby
set_option maxRecDepth 20000 in
theorem ggX7_tick_X7_goes : GoodIn wsX7_tick wsX7_goes := goodIn_r _ [21, 2, 14, 15, 16, 5, 17, 22, 23, 24, 25, 26, 27, 28, 29, 30, 31, 32, 33, 34, 35, 36, 37, 38, 39, 40, 41, 42, 43] (by decide +kernel) (by decide +kernel)
set_option maxRecDepth 20000 in
theorem gX7_tick_X7_goes : GoodIn wsX7_tick (wsV RX7 86 RX7 yX7_goes wsX7_goes) := goodIn_app (goodIn_of _ (by decide +kernel)) ggX7_tick_X7_goes
theorem dX7_tick_0 : decode cX7_tick 0 = .ok (.iload_n 1, 1) := by decide +kernel
theorem dX7_tick_1 : decode cX7_tick 1 = .ok (.iconst 1, 1) := by decide +kernel
theorem dX7_tick_2 : decode cX7_tick 2 = .ok (.bipush 99, 2) := by decide +kernel
theorem dX7_tick_4 : decode cX7_tick 4 = .ok (.invokestatic 33, 3) := by decide +kernel
theorem dX7_tick_7 : decode cX7_tick 7 = .ok (.ifCond .ne 6, 3) := by decide +kernel
theorem dX7_tick_10 : decode cX7_tick 10 = .ok (.ldc 41, 2) := by decide +kernel
theorem dX7_tick_12 : decode cX7_tick 12 = .ok (.ireturn, 1) := by decide +kernel
theorem dX7_tick_13 : decode cX7_tick 13 = .ok (.aload_n 0, 1) := by decide +kernel
theorem dX7_tick_14 : decode cX7_tick 14 = .ok (.invokevirtual 43, 3) := by decide +kernel
theorem dX7_tick_17 : decode cX7_tick 17 = .ok (.iconst 0, 1) := by decide +kernel
theorem dX7_tick_18 : decode cX7_tick 18 = .ok (.istore_n 2, 1) := by decide +kernel
theorem dX7_tick_19 : decode cX7_tick 19 = .ok (.iconst 0, 1) := by decide +kernel
theorem dX7_tick_20 : decode cX7_tick 20 = .ok (.istore_n 3, 1) := by decide +kernel
theorem dX7_tick_21 : decode cX7_tick 21 = .ok (.iload_n 3, 1) := by decide +kernel
theorem dX7_tick_22 : decode cX7_tick 22 = .ok (.iload_n 1, 1) := by decide +kernel
theorem dX7_tick_23 : decode cX7_tick 23 = .ok (.if_icmp .ge 86, 3) := by decide +kernel
theorem dX7_tick_26 : decode cX7_tick 26 = .ok (.aload_n 0, 1) := by decide +kernel
theorem dX7_tick_27 : decode cX7_tick 27 = .ok (.getfield 7, 3) := by decide +kernel
theorem dX7_tick_30 : decode cX7_tick 30 = .ok (.iconst 1, 1) := by decide +kernel
theorem dX7_tick_31 : decode cX7_tick 31 = .ok (.dup2, 1) := by decide +kernel
theorem dX7_tick_32 : decode cX7_tick 32 = .ok (.iaload, 1) := by decide +kernel
theorem dX7_tick_33 : decode cX7_tick 33 = .ok (.iconst 1, 1) := by decide +kernel
theorem dX7_tick_34 : decode cX7_tick 34 = .ok (.iadd, 1) := by decide +kernel
theorem dX7_tick_35 : decode cX7_tick 35 = .ok (.iastore, 1) := by decide +kernel
theorem dX7_tick_36 : decode cX7_tick 36 = .ok (.iconst 0, 1) := by decide +kernel
theorem dX7_tick_37 : decode cX7_tick 37 = .ok (.istore 4, 2) := by decide +kernel
theorem dX7_tick_39 : decode cX7_tick 39 = .ok (.iload 4, 2) := by decide +kernel
theorem dX7_tick_41 : decode cX7_tick 41 = .ok (.iconst 2, 1) := by decide +kernel
theorem dX7_tick_42 : decode cX7_tick 42 = .ok (.if_icmp .ge 61, 3) := by decide +kernel
theorem dX7_tick_45 : decode cX7_tick 45 = .ok (.aload_n 0, 1) := by decide +kernel
theorem dX7_tick_46 : decode cX7_tick 46 = .ok (.iload 4, 2) := by decide +kernel
theorem dX7_tick_48 : decode cX7_tick 48 = .ok (.aload_n 0, 1) := by decide +kernel
theorem dX7_tick_49 : decode cX7_tick 49 = .ok (.iload 4, 2) := by decide +kernel
theorem dX7_tick_51 : decode cX7_tick 51 = .ok (.iconst 1, 1) := by decide +kernel
theorem dX7_tick_52 : decode cX7_tick 52 = .ok (.invokevirtual 72, 3) := by decide +kernel
theorem dX7_tick_55 : decode cX7_tick 55 = .ok (.aload_n 0, 1) := by decide +kernel
theorem dX7_tick_56 : decode cX7_tick 56 = .ok (.getfield 7, 3) := by decide +kernel
theorem dX7_tick_59 : decode cX7_tick 59 = .ok (.iconst 1, 1) := by decide +kernel
theorem dX7_tick_60 : decode cX7_tick 60 = .ok (.iaload, 1) := by decide +kernel
theorem dX7_tick_61 : decode cX7_tick 61 = .ok (.aload_n 0, 1) := by decide +kernel
theorem dX7_tick_62 : decode cX7_tick 62 = .ok (.getfield 7, 3) := by decide +kernel
theorem dX7_tick_65 : decode cX7_tick 65 = .ok (.bipush 7, 2) := by decide +kernel
theorem dX7_tick_67 : decode cX7_tick 67 = .ok (.iaload, 1) := by decide +kernel
theorem dX7_tick_68 : decode cX7_tick 68 = .ok (.invokevirtual 86, 3) := by decide +kernel
theorem dX7_tick_71 : decode cX7_tick 71 = .ok (.istore 5, 2) := by decide +kernel
theorem dX7_tick_73 : decode cX7_tick 73 = .ok (.aload_n 0, 1) := by decide +kernel
theorem dX7_tick_74 : decode cX7_tick 74 = .ok (.getfield 7, 3) := by decide +kernel
theorem dX7_tick_77 : decode cX7_tick 77 = .ok (.bipush 12, 2) := by decide +kernel
theorem dX7_tick_79 : decode cX7_tick 79 = .ok (.iconst 3, 1) := by decide +kernel
theorem dX7_tick_80 : decode cX7_tick 80 = .ok (.iload 4, 2) := by decide +kernel
theorem dX7_tick_82 : decode cX7_tick 82 = .ok (.imul, 1) := by decide +kernel
theorem dX7_tick_83 : decode cX7_tick 83 = .ok (.iadd, 1) := by decide +kernel
theorem dX7_tick_84 : decode cX7_tick 84 = .ok (.iconst 1, 1) := by decide +kernel
theorem dX7_tick_85 : decode cX7_tick 85 = .ok (.iadd, 1) := by decide +kernel
theorem dX7_tick_86 : decode cX7_tick 86 = .ok (.dup2, 1) := by decide +kernel
theorem dX7_tick_87 : decode cX7_tick 87 = .ok (.iaload, 1) := by decide +kernel
theorem dX7_tick_88 : decode cX7_tick 88 = .ok (.iload 5, 2) := by decide +kernel
theorem dX7_tick_90 : decode cX7_tick 90 = .ok (.iadd, 1) := by decide +kernel
theorem dX7_tick_91 : decode cX7_tick 91 = .ok (.iastore, 1) := by decide +kernel
theorem dX7_tick_92 : decode cX7_tick 92 = .ok (.iload_n 2, 1) := by decide +kernel
theorem dX7_tick_93 : decode cX7_tick 93 = .ok (.iload 5, 2) := by decide +kernel
theorem dX7_tick_95 : decode cX7_tick 95 = .ok (.iadd, 1) := by decide +kernel
theorem dX7_tick_96 : decode cX7_tick 96 = .ok (.istore_n 2, 1) := by decide +kernel
theorem dX7_tick_97 : decode cX7_tick 97 = .ok (.iinc 4 1, 3) := by decide +kernel
theorem dX7_tick_100 : decode cX7_tick 100 = .ok (.goto (-61), 3) := by decide +kernel
theorem dX7_tick_103 : decode cX7_tick 103 = .ok (.iinc 3 1, 3) := by decide +kernel
theorem dX7_tick_106 : decode cX7_tick 106 = .ok (.goto (-85), 3) := by decide +kernel
theorem dX7_tick_109 : decode cX7_tick 109 = .ok (.aload_n 0, 1) := by decide +kernel
theorem dX7_tick_110 : decode cX7_tick 110 = .ok (.getfield 7, 3) := by decide +kernel
theorem dX7_tick_113 : decode cX7_tick 113 = .ok (.bipush 6, 2) := by decide +kernel
theorem dX7_tick_115 : decode cX7_tick 115 = .ok (.dup2, 1) := by decide +kernel
theorem dX7_tick_116 : decode cX7_tick 116 = .ok (.iaload, 1) := by decide +kernel
theorem dX7_tick_117 : decode cX7_tick 117 = .ok (.iload_n 2, 1) := by decide +kernel
theorem dX7_tick_118 : decode cX7_tick 118 = .ok (.iadd, 1) := by decide +kernel
theorem dX7_tick_119 : decode cX7_tick 119 = .ok (.iastore, 1) := by decide +kernel
theorem dX7_tick_120 : decode cX7_tick 120 = .ok (.iload_n 2, 1) := by decide +kernel
theorem dX7_tick_121 : decode cX7_tick 121 = .ok (.ireturn, 1) := by decide +kernel
set_option maxRecDepth 20000 in
theorem ggX7_lays_X7_fillsGaps : GoodIn wsX7_lays wsX7_fillsGaps := goodIn_r _ [6, 1, 7, 8, 9, 10, 11, 12, 13, 14, 15, 16, 17, 18, 19, 20] (by decide +kernel) (by decide +kernel)
set_option maxRecDepth 20000 in
theorem gX7_lays_X7_fillsGaps : GoodIn wsX7_lays (wsV RX7 82 RX7 yX7_fillsGaps wsX7_fillsGaps) := goodIn_app (goodIn_of _ (by decide +kernel)) ggX7_lays_X7_fillsGaps
theorem dX7_lays_0 : decode cX7_lays 0 = .ok (.aload_n 0, 1) := by decide +kernel
theorem dX7_lays_1 : decode cX7_lays 1 = .ok (.getfield 7, 3) := by decide +kernel
theorem dX7_lays_4 : decode cX7_lays 4 = .ok (.bipush 12, 2) := by decide +kernel
theorem dX7_lays_6 : decode cX7_lays 6 = .ok (.iconst 3, 1) := by decide +kernel
theorem dX7_lays_7 : decode cX7_lays 7 = .ok (.iload_n 1, 1) := by decide +kernel
theorem dX7_lays_8 : decode cX7_lays 8 = .ok (.imul, 1) := by decide +kernel
theorem dX7_lays_9 : decode cX7_lays 9 = .ok (.iadd, 1) := by decide +kernel
theorem dX7_lays_10 : decode cX7_lays 10 = .ok (.iconst 0, 1) := by decide +kernel
theorem dX7_lays_11 : decode cX7_lays 11 = .ok (.iadd, 1) := by decide +kernel
theorem dX7_lays_12 : decode cX7_lays 12 = .ok (.iload_n 2, 1) := by decide +kernel
theorem dX7_lays_13 : decode cX7_lays 13 = .ok (.iastore, 1) := by decide +kernel
theorem dX7_lays_14 : decode cX7_lays 14 = .ok (.aload_n 0, 1) := by decide +kernel
theorem dX7_lays_15 : decode cX7_lays 15 = .ok (.getfield 7, 3) := by decide +kernel
theorem dX7_lays_18 : decode cX7_lays 18 = .ok (.bipush 12, 2) := by decide +kernel
theorem dX7_lays_20 : decode cX7_lays 20 = .ok (.iconst 3, 1) := by decide +kernel
theorem dX7_lays_21 : decode cX7_lays 21 = .ok (.iload_n 1, 1) := by decide +kernel
theorem dX7_lays_22 : decode cX7_lays 22 = .ok (.imul, 1) := by decide +kernel
theorem dX7_lays_23 : decode cX7_lays 23 = .ok (.iadd, 1) := by decide +kernel
theorem dX7_lays_24 : decode cX7_lays 24 = .ok (.iconst 1, 1) := by decide +kernel
theorem dX7_lays_25 : decode cX7_lays 25 = .ok (.iadd, 1) := by decide +kernel
theorem dX7_lays_26 : decode cX7_lays 26 = .ok (.iload_n 2, 1) := by decide +kernel
theorem dX7_lays_27 : decode cX7_lays 27 = .ok (.iastore, 1) := by decide +kernel
theorem dX7_lays_28 : decode cX7_lays 28 = .ok (.aload_n 0, 1) := by decide +kernel
theorem dX7_lays_29 : decode cX7_lays 29 = .ok (.getfield 7, 3) := by decide +kernel
theorem dX7_lays_32 : decode cX7_lays 32 = .ok (.bipush 12, 2) := by decide +kernel
theorem dX7_lays_34 : decode cX7_lays 34 = .ok (.iconst 3, 1) := by decide +kernel
theorem dX7_lays_35 : decode cX7_lays 35 = .ok (.iload_n 1, 1) := by decide +kernel
theorem dX7_lays_36 : decode cX7_lays 36 = .ok (.imul, 1) := by decide +kernel
theorem dX7_lays_37 : decode cX7_lays 37 = .ok (.iadd, 1) := by decide +kernel
theorem dX7_lays_38 : decode cX7_lays 38 = .ok (.iconst 2, 1) := by decide +kernel
theorem dX7_lays_39 : decode cX7_lays 39 = .ok (.iadd, 1) := by decide +kernel
theorem dX7_lays_40 : decode cX7_lays 40 = .ok (.iload_n 3, 1) := by decide +kernel
theorem dX7_lays_41 : decode cX7_lays 41 = .ok (.iastore, 1) := by decide +kernel
theorem dX7_lays_42 : decode cX7_lays 42 = .ok (.aload_n 0, 1) := by decide +kernel
theorem dX7_lays_43 : decode cX7_lays 43 = .ok (.iload_n 1, 1) := by decide +kernel
theorem dX7_lays_44 : decode cX7_lays 44 = .ok (.iconst 0, 1) := by decide +kernel
theorem dX7_lays_45 : decode cX7_lays 45 = .ok (.invokevirtual 82, 3) := by decide +kernel
theorem dX7_lays_48 : decode cX7_lays 48 = .ok (.return_, 1) := by decide +kernel
set_option maxRecDepth 20000 in
theorem ggX7_wouldBeLost_X7_ofStandby : GoodIn wsX7_wouldBeLost wsX7_ofStandby := goodIn_r _ [6, 1, 15, 16, 17, 18, 19, 20, 21, 22, 23, 24, 25, 26, 27, 28] (by decide +kernel) (by decide +kernel)
set_option maxRecDepth 20000 in
theorem gX7_wouldBeLost_X7_ofStandby : GoodIn wsX7_wouldBeLost (wsV RX7 72 RX7 yX7_ofStandby wsX7_ofStandby) := goodIn_app (goodIn_of _ (by decide +kernel)) ggX7_wouldBeLost_X7_ofStandby
set_option maxRecDepth 20000 in
theorem ggX7_wouldBeLost_X7_commits : GoodIn wsX7_wouldBeLost wsX7_commits := goodIn_r _ [10, 11, 12, 13, 5, 14, 1, 15, 16, 17, 18, 19, 20, 21, 22, 23, 24, 25, 26, 27, 28] (by decide +kernel) (by decide +kernel)
set_option maxRecDepth 20000 in
theorem gX7_wouldBeLost_X7_commits : GoodIn wsX7_wouldBeLost (wsV RX7 89 RX7 yX7_commits wsX7_commits) := goodIn_app (goodIn_of _ (by decide +kernel)) ggX7_wouldBeLost_X7_commits
theorem dX7_wouldBeLost_0 : decode cX7_wouldBeLost 0 = .ok (.aload_n 0, 1) := by decide +kernel
theorem dX7_wouldBeLost_1 : decode cX7_wouldBeLost 1 = .ok (.aload_n 0, 1) := by decide +kernel
theorem dX7_wouldBeLost_2 : decode cX7_wouldBeLost 2 = .ok (.iload_n 1, 1) := by decide +kernel
theorem dX7_wouldBeLost_3 : decode cX7_wouldBeLost 3 = .ok (.iconst 1, 1) := by decide +kernel
theorem dX7_wouldBeLost_4 : decode cX7_wouldBeLost 4 = .ok (.invokevirtual 72, 3) := by decide +kernel
theorem dX7_wouldBeLost_7 : decode cX7_wouldBeLost 7 = .ok (.iconst 1, 1) := by decide +kernel
theorem dX7_wouldBeLost_8 : decode cX7_wouldBeLost 8 = .ok (.iadd, 1) := by decide +kernel
theorem dX7_wouldBeLost_9 : decode cX7_wouldBeLost 9 = .ok (.aload_n 0, 1) := by decide +kernel
theorem dX7_wouldBeLost_10 : decode cX7_wouldBeLost 10 = .ok (.getfield 7, 3) := by decide +kernel
theorem dX7_wouldBeLost_13 : decode cX7_wouldBeLost 13 = .ok (.iconst 0, 1) := by decide +kernel
theorem dX7_wouldBeLost_14 : decode cX7_wouldBeLost 14 = .ok (.iaload, 1) := by decide +kernel
theorem dX7_wouldBeLost_15 : decode cX7_wouldBeLost 15 = .ok (.invokevirtual 89, 3) := by decide +kernel
theorem dX7_wouldBeLost_18 : decode cX7_wouldBeLost 18 = .ok (.ireturn, 1) := by decide +kernel
set_option maxRecDepth 20000 in
theorem ggX7_promote_X7_isStandby : GoodIn wsX7_promote wsX7_isStandby := goodIn_r _ [7, 8, 9, 6, 10] (by decide +kernel) (by decide +kernel)
set_option maxRecDepth 20000 in
theorem gX7_promote_X7_isStandby : GoodIn wsX7_promote (va_wsS RX7 69 yX7_isStandby wsX7_isStandby) := goodIn_app (goodIn_of _ (by decide +kernel)) ggX7_promote_X7_isStandby
set_option maxRecDepth 20000 in
theorem ggX7_promote_X7_ofStandby : GoodIn wsX7_promote wsX7_ofStandby := goodIn_r _ [14, 3, 42, 43, 44, 45, 46, 47, 48, 49, 50, 51, 52, 53, 54, 55] (by decide +kernel) (by decide +kernel)
set_option maxRecDepth 20000 in
theorem gX7_promote_X7_ofStandby : GoodIn wsX7_promote (wsV RX7 72 RX7 yX7_ofStandby wsX7_ofStandby) := goodIn_app (goodIn_of _ (by decide +kernel)) ggX7_promote_X7_ofStandby
set_option maxRecDepth 20000 in
theorem ggX7_promote_X7_changes : GoodIn wsX7_promote wsX7_changes := goodIn_r _ [18, 19, 20, 21, 3, 42, 43, 44, 45, 46, 47, 48, 49, 50, 51, 52, 53, 54, 55] (by decide +kernel) (by decide +kernel)
set_option maxRecDepth 20000 in
theorem gX7_promote_X7_changes : GoodIn wsX7_promote (wsV RX7 43 RX7 yX7_changes wsX7_changes) := goodIn_app (goodIn_of _ (by decide +kernel)) ggX7_promote_X7_changes
set_option maxRecDepth 20000 in
theorem ggX7_promote_X7_wouldBeLost : GoodIn wsX7_promote wsX7_wouldBeLost := goodIn_r _ [25, 3, 11, 12, 13, 6, 14, 26, 27, 28, 29, 30, 31, 32, 33, 42, 43, 44, 45, 46, 47, 48, 49, 50, 51, 52, 53, 54, 55] (by decide +kernel) (by decide +kernel)
set_option maxRecDepth 20000 in
theorem gX7_promote_X7_wouldBeLost : GoodIn wsX7_promote (wsV RX7 92 RX7 yX7_wouldBeLost wsX7_wouldBeLost) := goodIn_app (goodIn_of _ (by decide +kernel)) ggX7_promote_X7_wouldBeLost
set_option maxRecDepth 20000 in
theorem ggX7_promote_X7_lays : GoodIn wsX7_promote wsX7_lays := goodIn_r _ [37, 3, 38, 39, 40, 6, 41, 42, 43, 44, 45, 46, 47, 48, 49, 50, 51, 52, 53, 54, 55] (by decide +kernel) (by decide +kernel)
set_option maxRecDepth 20000 in
theorem gX7_promote_X7_lays : GoodIn wsX7_promote (wsV RX7 95 RX7 yX7_lays wsX7_lays) := goodIn_app (goodIn_of _ (by decide +kernel)) ggX7_promote_X7_lays
set_option maxRecDepth 20000 in
theorem ggX7_promote_X7_fillsGaps : GoodIn wsX7_promote wsX7_fillsGaps := goodIn_r _ [41, 3, 42, 43, 44, 45, 46, 47, 48, 49, 50, 51, 52, 53, 54, 55] (by decide +kernel) (by decide +kernel)
set_option maxRecDepth 20000 in
theorem gX7_promote_X7_fillsGaps : GoodIn wsX7_promote (wsV RX7 82 RX7 yX7_fillsGaps wsX7_fillsGaps) := goodIn_app (goodIn_of _ (by decide +kernel)) ggX7_promote_X7_fillsGaps
theorem dX7_promote_0 : decode cX7_promote 0 = .ok (.iload_n 1, 1) := by decide +kernel
theorem dX7_promote_1 : decode cX7_promote 1 = .ok (.invokestatic 69, 3) := by decide +kernel
theorem dX7_promote_4 : decode cX7_promote 4 = .ok (.ifCond .ne 6, 3) := by decide +kernel
theorem dX7_promote_7 : decode cX7_promote 7 = .ok (.ldc 41, 2) := by decide +kernel
theorem dX7_promote_9 : decode cX7_promote 9 = .ok (.ireturn, 1) := by decide +kernel
theorem dX7_promote_10 : decode cX7_promote 10 = .ok (.aload_n 0, 1) := by decide +kernel
theorem dX7_promote_11 : decode cX7_promote 11 = .ok (.iload_n 1, 1) := by decide +kernel
theorem dX7_promote_12 : decode cX7_promote 12 = .ok (.iconst 2, 1) := by decide +kernel
theorem dX7_promote_13 : decode cX7_promote 13 = .ok (.invokevirtual 72, 3) := by decide +kernel
theorem dX7_promote_16 : decode cX7_promote 16 = .ok (.iconst 1, 1) := by decide +kernel
theorem dX7_promote_17 : decode cX7_promote 17 = .ok (.if_icmp .ne 6, 3) := by decide +kernel
theorem dX7_promote_20 : decode cX7_promote 20 = .ok (.ldc 42, 2) := by decide +kernel
theorem dX7_promote_22 : decode cX7_promote 22 = .ok (.ireturn, 1) := by decide +kernel
theorem dX7_promote_23 : decode cX7_promote 23 = .ok (.aload_n 0, 1) := by decide +kernel
theorem dX7_promote_24 : decode cX7_promote 24 = .ok (.invokevirtual 43, 3) := by decide +kernel
theorem dX7_promote_27 : decode cX7_promote 27 = .ok (.aload_n 0, 1) := by decide +kernel
theorem dX7_promote_28 : decode cX7_promote 28 = .ok (.iload_n 1, 1) := by decide +kernel
theorem dX7_promote_29 : decode cX7_promote 29 = .ok (.invokevirtual 92, 3) := by decide +kernel
theorem dX7_promote_32 : decode cX7_promote 32 = .ok (.istore_n 2, 1) := by decide +kernel
theorem dX7_promote_33 : decode cX7_promote 33 = .ok (.aload_n 0, 1) := by decide +kernel
theorem dX7_promote_34 : decode cX7_promote 34 = .ok (.iload_n 1, 1) := by decide +kernel
theorem dX7_promote_35 : decode cX7_promote 35 = .ok (.iconst 1, 1) := by decide +kernel
theorem dX7_promote_36 : decode cX7_promote 36 = .ok (.invokevirtual 72, 3) := by decide +kernel
theorem dX7_promote_39 : decode cX7_promote 39 = .ok (.istore_n 3, 1) := by decide +kernel
theorem dX7_promote_40 : decode cX7_promote 40 = .ok (.iload_n 3, 1) := by decide +kernel
theorem dX7_promote_41 : decode cX7_promote 41 = .ok (.aload_n 0, 1) := by decide +kernel
theorem dX7_promote_42 : decode cX7_promote 42 = .ok (.getfield 7, 3) := by decide +kernel
theorem dX7_promote_45 : decode cX7_promote 45 = .ok (.iconst 0, 1) := by decide +kernel
theorem dX7_promote_46 : decode cX7_promote 46 = .ok (.iaload, 1) := by decide +kernel
theorem dX7_promote_47 : decode cX7_promote 47 = .ok (.if_icmp .ge 7, 3) := by decide +kernel
theorem dX7_promote_50 : decode cX7_promote 50 = .ok (.iconst 1, 1) := by decide +kernel
theorem dX7_promote_51 : decode cX7_promote 51 = .ok (.goto 4, 3) := by decide +kernel
theorem dX7_promote_54 : decode cX7_promote 54 = .ok (.iconst 0, 1) := by decide +kernel
theorem dX7_promote_55 : decode cX7_promote 55 = .ok (.istore 4, 2) := by decide +kernel
theorem dX7_promote_57 : decode cX7_promote 57 = .ok (.aload_n 0, 1) := by decide +kernel
theorem dX7_promote_58 : decode cX7_promote 58 = .ok (.getfield 7, 3) := by decide +kernel
theorem dX7_promote_61 : decode cX7_promote 61 = .ok (.iconst 0, 1) := by decide +kernel
theorem dX7_promote_62 : decode cX7_promote 62 = .ok (.iload_n 3, 1) := by decide +kernel
theorem dX7_promote_63 : decode cX7_promote 63 = .ok (.iastore, 1) := by decide +kernel
theorem dX7_promote_64 : decode cX7_promote 64 = .ok (.aload_n 0, 1) := by decide +kernel
theorem dX7_promote_65 : decode cX7_promote 65 = .ok (.getfield 7, 3) := by decide +kernel
theorem dX7_promote_68 : decode cX7_promote 68 = .ok (.iconst 4, 1) := by decide +kernel
theorem dX7_promote_69 : decode cX7_promote 69 = .ok (.dup2, 1) := by decide +kernel
theorem dX7_promote_70 : decode cX7_promote 70 = .ok (.iaload, 1) := by decide +kernel
theorem dX7_promote_71 : decode cX7_promote 71 = .ok (.iload_n 2, 1) := by decide +kernel
theorem dX7_promote_72 : decode cX7_promote 72 = .ok (.iadd, 1) := by decide +kernel
theorem dX7_promote_73 : decode cX7_promote 73 = .ok (.iastore, 1) := by decide +kernel
theorem dX7_promote_74 : decode cX7_promote 74 = .ok (.aload_n 0, 1) := by decide +kernel
theorem dX7_promote_75 : decode cX7_promote 75 = .ok (.getfield 7, 3) := by decide +kernel
theorem dX7_promote_78 : decode cX7_promote 78 = .ok (.iconst 2, 1) := by decide +kernel
theorem dX7_promote_79 : decode cX7_promote 79 = .ok (.dup2, 1) := by decide +kernel
theorem dX7_promote_80 : decode cX7_promote 80 = .ok (.iaload, 1) := by decide +kernel
theorem dX7_promote_81 : decode cX7_promote 81 = .ok (.iconst 1, 1) := by decide +kernel
theorem dX7_promote_82 : decode cX7_promote 82 = .ok (.iadd, 1) := by decide +kernel
theorem dX7_promote_83 : decode cX7_promote 83 = .ok (.iastore, 1) := by decide +kernel
theorem dX7_promote_84 : decode cX7_promote 84 = .ok (.iconst 0, 1) := by decide +kernel
theorem dX7_promote_85 : decode cX7_promote 85 = .ok (.istore 5, 2) := by decide +kernel
theorem dX7_promote_87 : decode cX7_promote 87 = .ok (.iload 5, 2) := by decide +kernel
theorem dX7_promote_89 : decode cX7_promote 89 = .ok (.iconst 3, 1) := by decide +kernel
theorem dX7_promote_90 : decode cX7_promote 90 = .ok (.if_icmp .ge 20, 3) := by decide +kernel
theorem dX7_promote_93 : decode cX7_promote 93 = .ok (.aload_n 0, 1) := by decide +kernel
theorem dX7_promote_94 : decode cX7_promote 94 = .ok (.getfield 7, 3) := by decide +kernel
theorem dX7_promote_97 : decode cX7_promote 97 = .ok (.bipush 9, 2) := by decide +kernel
theorem dX7_promote_99 : decode cX7_promote 99 = .ok (.iload 5, 2) := by decide +kernel
theorem dX7_promote_101 : decode cX7_promote 101 = .ok (.iadd, 1) := by decide +kernel
theorem dX7_promote_102 : decode cX7_promote 102 = .ok (.iconst 0, 1) := by decide +kernel
theorem dX7_promote_103 : decode cX7_promote 103 = .ok (.iastore, 1) := by decide +kernel
theorem dX7_promote_104 : decode cX7_promote 104 = .ok (.iinc 5 1, 3) := by decide +kernel
theorem dX7_promote_107 : decode cX7_promote 107 = .ok (.goto (-20), 3) := by decide +kernel
theorem dX7_promote_110 : decode cX7_promote 110 = .ok (.aload_n 0, 1) := by decide +kernel
theorem dX7_promote_111 : decode cX7_promote 111 = .ok (.iload_n 1, 1) := by decide +kernel
theorem dX7_promote_112 : decode cX7_promote 112 = .ok (.iload_n 3, 1) := by decide +kernel
theorem dX7_promote_113 : decode cX7_promote 113 = .ok (.iload 4, 2) := by decide +kernel
theorem dX7_promote_115 : decode cX7_promote 115 = .ok (.ifCond .eq 7, 3) := by decide +kernel
theorem dX7_promote_118 : decode cX7_promote 118 = .ok (.iconst 1, 1) := by decide +kernel
theorem dX7_promote_119 : decode cX7_promote 119 = .ok (.goto 4, 3) := by decide +kernel
theorem dX7_promote_122 : decode cX7_promote 122 = .ok (.iconst 0, 1) := by decide +kernel
theorem dX7_promote_123 : decode cX7_promote 123 = .ok (.invokevirtual 95, 3) := by decide +kernel
theorem dX7_promote_126 : decode cX7_promote 126 = .ok (.bipush 15, 2) := by decide +kernel
theorem dX7_promote_128 : decode cX7_promote 128 = .ok (.iconst 3, 1) := by decide +kernel
theorem dX7_promote_129 : decode cX7_promote 129 = .ok (.iload_n 1, 1) := by decide +kernel
theorem dX7_promote_130 : decode cX7_promote 130 = .ok (.imul, 1) := by decide +kernel
theorem dX7_promote_131 : decode cX7_promote 131 = .ok (.isub, 1) := by decide +kernel
theorem dX7_promote_132 : decode cX7_promote 132 = .ok (.istore 5, 2) := by decide +kernel
theorem dX7_promote_134 : decode cX7_promote 134 = .ok (.aload_n 0, 1) := by decide +kernel
theorem dX7_promote_135 : decode cX7_promote 135 = .ok (.getfield 7, 3) := by decide +kernel
theorem dX7_promote_138 : decode cX7_promote 138 = .ok (.iload 5, 2) := by decide +kernel
theorem dX7_promote_140 : decode cX7_promote 140 = .ok (.iconst 0, 1) := by decide +kernel
theorem dX7_promote_141 : decode cX7_promote 141 = .ok (.iadd, 1) := by decide +kernel
theorem dX7_promote_142 : decode cX7_promote 142 = .ok (.aload_n 0, 1) := by decide +kernel
theorem dX7_promote_143 : decode cX7_promote 143 = .ok (.getfield 7, 3) := by decide +kernel
theorem dX7_promote_146 : decode cX7_promote 146 = .ok (.iload 5, 2) := by decide +kernel
theorem dX7_promote_148 : decode cX7_promote 148 = .ok (.iconst 0, 1) := by decide +kernel
theorem dX7_promote_149 : decode cX7_promote 149 = .ok (.iadd, 1) := by decide +kernel
theorem dX7_promote_150 : decode cX7_promote 150 = .ok (.iaload, 1) := by decide +kernel
theorem dX7_promote_151 : decode cX7_promote 151 = .ok (.iload_n 3, 1) := by decide +kernel
theorem dX7_promote_152 : decode cX7_promote 152 = .ok (.if_icmp .le 7, 3) := by decide +kernel
theorem dX7_promote_155 : decode cX7_promote 155 = .ok (.iload_n 3, 1) := by decide +kernel
theorem dX7_promote_156 : decode cX7_promote 156 = .ok (.goto 12, 3) := by decide +kernel
theorem dX7_promote_159 : decode cX7_promote 159 = .ok (.aload_n 0, 1) := by decide +kernel
theorem dX7_promote_160 : decode cX7_promote 160 = .ok (.getfield 7, 3) := by decide +kernel
theorem dX7_promote_163 : decode cX7_promote 163 = .ok (.iload 5, 2) := by decide +kernel
theorem dX7_promote_165 : decode cX7_promote 165 = .ok (.iconst 0, 1) := by decide +kernel
theorem dX7_promote_166 : decode cX7_promote 166 = .ok (.iadd, 1) := by decide +kernel
theorem dX7_promote_167 : decode cX7_promote 167 = .ok (.iaload, 1) := by decide +kernel
theorem dX7_promote_168 : decode cX7_promote 168 = .ok (.iastore, 1) := by decide +kernel
theorem dX7_promote_169 : decode cX7_promote 169 = .ok (.aload_n 0, 1) := by decide +kernel
theorem dX7_promote_170 : decode cX7_promote 170 = .ok (.iconst 1, 1) := by decide +kernel
theorem dX7_promote_171 : decode cX7_promote 171 = .ok (.iload_n 1, 1) := by decide +kernel
theorem dX7_promote_172 : decode cX7_promote 172 = .ok (.isub, 1) := by decide +kernel
theorem dX7_promote_173 : decode cX7_promote 173 = .ok (.iload_n 3, 1) := by decide +kernel
theorem dX7_promote_174 : decode cX7_promote 174 = .ok (.invokevirtual 82, 3) := by decide +kernel
theorem dX7_promote_177 : decode cX7_promote 177 = .ok (.aload_n 0, 1) := by decide +kernel
theorem dX7_promote_178 : decode cX7_promote 178 = .ok (.getfield 7, 3) := by decide +kernel
theorem dX7_promote_181 : decode cX7_promote 181 = .ok (.iload 5, 2) := by decide +kernel
theorem dX7_promote_183 : decode cX7_promote 183 = .ok (.iconst 1, 1) := by decide +kernel
theorem dX7_promote_184 : decode cX7_promote 184 = .ok (.iadd, 1) := by decide +kernel
theorem dX7_promote_185 : decode cX7_promote 185 = .ok (.iaload, 1) := by decide +kernel
theorem dX7_promote_186 : decode cX7_promote 186 = .ok (.iload_n 3, 1) := by decide +kernel
theorem dX7_promote_187 : decode cX7_promote 187 = .ok (.if_icmp .le 23, 3) := by decide +kernel
theorem dX7_promote_190 : decode cX7_promote 190 = .ok (.aload_n 0, 1) := by decide +kernel
theorem dX7_promote_191 : decode cX7_promote 191 = .ok (.getfield 7, 3) := by decide +kernel
theorem dX7_promote_194 : decode cX7_promote 194 = .ok (.iload 5, 2) := by decide +kernel
theorem dX7_promote_196 : decode cX7_promote 196 = .ok (.iconst 1, 1) := by decide +kernel
theorem dX7_promote_197 : decode cX7_promote 197 = .ok (.iadd, 1) := by decide +kernel
theorem dX7_promote_198 : decode cX7_promote 198 = .ok (.iload_n 3, 1) := by decide +kernel
theorem dX7_promote_199 : decode cX7_promote 199 = .ok (.iastore, 1) := by decide +kernel
theorem dX7_promote_200 : decode cX7_promote 200 = .ok (.aload_n 0, 1) := by decide +kernel
theorem dX7_promote_201 : decode cX7_promote 201 = .ok (.getfield 7, 3) := by decide +kernel
theorem dX7_promote_204 : decode cX7_promote 204 = .ok (.iload 5, 2) := by decide +kernel
theorem dX7_promote_206 : decode cX7_promote 206 = .ok (.iconst 2, 1) := by decide +kernel
theorem dX7_promote_207 : decode cX7_promote 207 = .ok (.iadd, 1) := by decide +kernel
theorem dX7_promote_208 : decode cX7_promote 208 = .ok (.iconst 1, 1) := by decide +kernel
theorem dX7_promote_209 : decode cX7_promote 209 = .ok (.iastore, 1) := by decide +kernel
theorem dX7_promote_210 : decode cX7_promote 210 = .ok (.iload_n 2, 1) := by decide +kernel
theorem dX7_promote_211 : decode cX7_promote 211 = .ok (.ireturn, 1) := by decide +kernel
set_option maxRecDepth 20000 in
theorem ggX7_rebuild_X7_isStandby : GoodIn wsX7_rebuild wsX7_isStandby := goodIn_r _ [6, 7, 8, 5, 9] (by decide +kernel) (by decide +kernel)
set_option maxRecDepth 20000 in
theorem gX7_rebuild_X7_isStandby : GoodIn wsX7_rebuild (va_wsS RX7 69 yX7_isStandby wsX7_isStandby) := goodIn_app (goodIn_of _ (by decide +kernel)) ggX7_rebuild_X7_isStandby
set_option maxRecDepth 20000 in
theorem ggX7_rebuild_X7_changes : GoodIn wsX7_rebuild wsX7_changes := goodIn_r _ [13, 14, 15, 16, 2, 25, 26, 27, 28, 29, 30, 31, 32, 33, 34, 35, 36, 37, 38] (by decide +kernel) (by decide +kernel)
set_option maxRecDepth 20000 in
theorem gX7_rebuild_X7_changes : GoodIn wsX7_rebuild (wsV RX7 43 RX7 yX7_changes wsX7_changes) := goodIn_app (goodIn_of _ (by decide +kernel)) ggX7_rebuild_X7_changes
set_option maxRecDepth 20000 in
theorem ggX7_rebuild_X7_lays : GoodIn wsX7_rebuild wsX7_lays := goodIn_r _ [20, 2, 21, 22, 23, 5, 24, 25, 26, 27, 28, 29, 30, 31, 32, 33, 34, 35, 36, 37, 38] (by decide +kernel) (by decide +kernel)
set_option maxRecDepth 20000 in
theorem gX7_rebuild_X7_lays : GoodIn wsX7_rebuild (wsV RX7 95 RX7 yX7_lays wsX7_lays) := goodIn_app (goodIn_of _ (by decide +kernel)) ggX7_rebuild_X7_lays
theorem dX7_rebuild_0 : decode cX7_rebuild 0 = .ok (.iload_n 1, 1) := by decide +kernel
theorem dX7_rebuild_1 : decode cX7_rebuild 1 = .ok (.invokestatic 69, 3) := by decide +kernel
theorem dX7_rebuild_4 : decode cX7_rebuild 4 = .ok (.ifCond .ne 6, 3) := by decide +kernel
theorem dX7_rebuild_7 : decode cX7_rebuild 7 = .ok (.ldc 41, 2) := by decide +kernel
theorem dX7_rebuild_9 : decode cX7_rebuild 9 = .ok (.ireturn, 1) := by decide +kernel
theorem dX7_rebuild_10 : decode cX7_rebuild 10 = .ok (.aload_n 0, 1) := by decide +kernel
theorem dX7_rebuild_11 : decode cX7_rebuild 11 = .ok (.invokevirtual 43, 3) := by decide +kernel
theorem dX7_rebuild_14 : decode cX7_rebuild 14 = .ok (.aload_n 0, 1) := by decide +kernel
theorem dX7_rebuild_15 : decode cX7_rebuild 15 = .ok (.iload_n 1, 1) := by decide +kernel
theorem dX7_rebuild_16 : decode cX7_rebuild 16 = .ok (.aload_n 0, 1) := by decide +kernel
theorem dX7_rebuild_17 : decode cX7_rebuild 17 = .ok (.getfield 7, 3) := by decide +kernel
theorem dX7_rebuild_20 : decode cX7_rebuild 20 = .ok (.iconst 0, 1) := by decide +kernel
theorem dX7_rebuild_21 : decode cX7_rebuild 21 = .ok (.iaload, 1) := by decide +kernel
theorem dX7_rebuild_22 : decode cX7_rebuild 22 = .ok (.iconst 0, 1) := by decide +kernel
theorem dX7_rebuild_23 : decode cX7_rebuild 23 = .ok (.invokevirtual 95, 3) := by decide +kernel
theorem dX7_rebuild_26 : decode cX7_rebuild 26 = .ok (.aload_n 0, 1) := by decide +kernel
theorem dX7_rebuild_27 : decode cX7_rebuild 27 = .ok (.getfield 7, 3) := by decide +kernel
theorem dX7_rebuild_30 : decode cX7_rebuild 30 = .ok (.iconst 0, 1) := by decide +kernel
theorem dX7_rebuild_31 : decode cX7_rebuild 31 = .ok (.iaload, 1) := by decide +kernel
theorem dX7_rebuild_32 : decode cX7_rebuild 32 = .ok (.ireturn, 1) := by decide +kernel
set_option maxRecDepth 20000 in
theorem ggX7_set_X7_in : GoodIn wsX7_set wsX7_in := goodIn_r _ [6] (by decide +kernel) (by decide +kernel)
set_option maxRecDepth 20000 in
theorem gX7_set_X7_in : GoodIn wsX7_set (va_wsS RX7 33 yX7_in wsX7_in) := goodIn_app (goodIn_of _ (by decide +kernel)) ggX7_set_X7_in
set_option maxRecDepth 20000 in
theorem ggX7_set_X7_changes : GoodIn wsX7_set wsX7_changes := goodIn_r _ [10, 11, 12, 13, 2, 14, 15, 16, 17, 18, 19, 20, 21, 22, 23, 24, 25, 26, 27] (by decide +kernel) (by decide +kernel)
set_option maxRecDepth 20000 in
theorem gX7_set_X7_changes : GoodIn wsX7_set (wsV RX7 43 RX7 yX7_changes wsX7_changes) := goodIn_app (goodIn_of _ (by decide +kernel)) ggX7_set_X7_changes
theorem dX7_set_0 : decode cX7_set 0 = .ok (.iload_n 1, 1) := by decide +kernel
theorem dX7_set_1 : decode cX7_set 1 = .ok (.iconst 0, 1) := by decide +kernel
theorem dX7_set_2 : decode cX7_set 2 = .ok (.iconst 1, 1) := by decide +kernel
theorem dX7_set_3 : decode cX7_set 3 = .ok (.invokestatic 33, 3) := by decide +kernel
theorem dX7_set_6 : decode cX7_set 6 = .ok (.ifCond .eq 15, 3) := by decide +kernel
theorem dX7_set_9 : decode cX7_set 9 = .ok (.iload_n 2, 1) := by decide +kernel
theorem dX7_set_10 : decode cX7_set 10 = .ok (.iconst 1, 1) := by decide +kernel
theorem dX7_set_11 : decode cX7_set 11 = .ok (.iload_n 1, 1) := by decide +kernel
theorem dX7_set_12 : decode cX7_set 12 = .ok (.isub, 1) := by decide +kernel
theorem dX7_set_13 : decode cX7_set 13 = .ok (.bipush 20, 2) := by decide +kernel
theorem dX7_set_15 : decode cX7_set 15 = .ok (.invokestatic 33, 3) := by decide +kernel
theorem dX7_set_18 : decode cX7_set 18 = .ok (.ifCond .ne 6, 3) := by decide +kernel
theorem dX7_set_21 : decode cX7_set 21 = .ok (.ldc 41, 2) := by decide +kernel
theorem dX7_set_23 : decode cX7_set 23 = .ok (.ireturn, 1) := by decide +kernel
theorem dX7_set_24 : decode cX7_set 24 = .ok (.aload_n 0, 1) := by decide +kernel
theorem dX7_set_25 : decode cX7_set 25 = .ok (.invokevirtual 43, 3) := by decide +kernel
theorem dX7_set_28 : decode cX7_set 28 = .ok (.aload_n 0, 1) := by decide +kernel
theorem dX7_set_29 : decode cX7_set 29 = .ok (.getfield 7, 3) := by decide +kernel
theorem dX7_set_32 : decode cX7_set 32 = .ok (.bipush 7, 2) := by decide +kernel
theorem dX7_set_34 : decode cX7_set 34 = .ok (.iload_n 1, 1) := by decide +kernel
theorem dX7_set_35 : decode cX7_set 35 = .ok (.iadd, 1) := by decide +kernel
theorem dX7_set_36 : decode cX7_set 36 = .ok (.iaload, 1) := by decide +kernel
theorem dX7_set_37 : decode cX7_set 37 = .ok (.istore_n 3, 1) := by decide +kernel
theorem dX7_set_38 : decode cX7_set 38 = .ok (.aload_n 0, 1) := by decide +kernel
theorem dX7_set_39 : decode cX7_set 39 = .ok (.getfield 7, 3) := by decide +kernel
theorem dX7_set_42 : decode cX7_set 42 = .ok (.bipush 7, 2) := by decide +kernel
theorem dX7_set_44 : decode cX7_set 44 = .ok (.iload_n 1, 1) := by decide +kernel
theorem dX7_set_45 : decode cX7_set 45 = .ok (.iadd, 1) := by decide +kernel
theorem dX7_set_46 : decode cX7_set 46 = .ok (.iload_n 2, 1) := by decide +kernel
theorem dX7_set_47 : decode cX7_set 47 = .ok (.iastore, 1) := by decide +kernel
theorem dX7_set_48 : decode cX7_set 48 = .ok (.iload_n 3, 1) := by decide +kernel
theorem dX7_set_49 : decode cX7_set 49 = .ok (.ireturn, 1) := by decide +kernel
set_option maxRecDepth 20000 in
theorem ggX7_isFence_X7_in : GoodIn wsX7_isFence wsX7_in := goodIn_r _ [5] (by decide +kernel) (by decide +kernel)
set_option maxRecDepth 20000 in
theorem gX7_isFence_X7_in : GoodIn wsX7_isFence (va_wsS RX7 33 yX7_in wsX7_in) := goodIn_app (goodIn_of _ (by decide +kernel)) ggX7_isFence_X7_in
theorem dX7_isFence_0 : decode cX7_isFence 0 = .ok (.iload_n 1, 1) := by decide +kernel
theorem dX7_isFence_1 : decode cX7_isFence 1 = .ok (.iconst 0, 1) := by decide +kernel
theorem dX7_isFence_2 : decode cX7_isFence 2 = .ok (.aload_n 0, 1) := by decide +kernel
theorem dX7_isFence_3 : decode cX7_isFence 3 = .ok (.getfield 7, 3) := by decide +kernel
theorem dX7_isFence_6 : decode cX7_isFence 6 = .ok (.iconst 0, 1) := by decide +kernel
theorem dX7_isFence_7 : decode cX7_isFence 7 = .ok (.iaload, 1) := by decide +kernel
theorem dX7_isFence_8 : decode cX7_isFence 8 = .ok (.invokestatic 33, 3) := by decide +kernel
theorem dX7_isFence_11 : decode cX7_isFence 11 = .ok (.ireturn, 1) := by decide +kernel
set_option maxRecDepth 20000 in
theorem ggX7_canServe_X7_ofStandby : GoodIn wsX7_canServe wsX7_ofStandby := goodIn_r _ [5, 6, 7, 8, 9, 10, 11, 12, 13, 14, 15, 16, 17, 18, 19, 20] (by decide +kernel) (by decide +kernel)
set_option maxRecDepth 20000 in
theorem gX7_canServe_X7_ofStandby : GoodIn wsX7_canServe (wsV RX7 72 RX7 yX7_ofStandby wsX7_ofStandby) := goodIn_app (goodIn_of _ (by decide +kernel)) ggX7_canServe_X7_ofStandby
theorem dX7_canServe_0 : decode cX7_canServe 0 = .ok (.aload_n 0, 1) := by decide +kernel
theorem dX7_canServe_1 : decode cX7_canServe 1 = .ok (.iload_n 1, 1) := by decide +kernel
theorem dX7_canServe_2 : decode cX7_canServe 2 = .ok (.iconst 2, 1) := by decide +kernel
theorem dX7_canServe_3 : decode cX7_canServe 3 = .ok (.invokevirtual 72, 3) := by decide +kernel
theorem dX7_canServe_6 : decode cX7_canServe 6 = .ok (.ifCond .ne 17, 3) := by decide +kernel
theorem dX7_canServe_9 : decode cX7_canServe 9 = .ok (.aload_n 0, 1) := by decide +kernel
theorem dX7_canServe_10 : decode cX7_canServe 10 = .ok (.iload_n 1, 1) := by decide +kernel
theorem dX7_canServe_11 : decode cX7_canServe 11 = .ok (.iconst 1, 1) := by decide +kernel
theorem dX7_canServe_12 : decode cX7_canServe 12 = .ok (.invokevirtual 72, 3) := by decide +kernel
theorem dX7_canServe_15 : decode cX7_canServe 15 = .ok (.iload_n 2, 1) := by decide +kernel
theorem dX7_canServe_16 : decode cX7_canServe 16 = .ok (.if_icmp .lt 7, 3) := by decide +kernel
theorem dX7_canServe_19 : decode cX7_canServe 19 = .ok (.iconst 1, 1) := by decide +kernel
theorem dX7_canServe_20 : decode cX7_canServe 20 = .ok (.goto 4, 3) := by decide +kernel
theorem dX7_canServe_23 : decode cX7_canServe 23 = .ok (.iconst 0, 1) := by decide +kernel
theorem dX7_canServe_24 : decode cX7_canServe 24 = .ok (.ireturn, 1) := by decide +kernel
set_option maxRecDepth 20000 in
theorem ggX7_read_X7_isStandby : GoodIn wsX7_read wsX7_isStandby := goodIn_r _ [6, 7, 8, 5, 9] (by decide +kernel) (by decide +kernel)
set_option maxRecDepth 20000 in
theorem gX7_read_X7_isStandby : GoodIn wsX7_read (va_wsS RX7 69 yX7_isStandby wsX7_isStandby) := goodIn_app (goodIn_of _ (by decide +kernel)) ggX7_read_X7_isStandby
set_option maxRecDepth 20000 in
theorem ggX7_read_X7_isKey : GoodIn wsX7_read wsX7_isKey := goodIn_r _ [12, 7, 8, 5, 9] (by decide +kernel) (by decide +kernel)
set_option maxRecDepth 20000 in
theorem gX7_read_X7_isKey : GoodIn wsX7_read (va_wsS RX7 47 yX7_isKey wsX7_isKey) := goodIn_app (goodIn_of _ (by decide +kernel)) ggX7_read_X7_isKey
set_option maxRecDepth 20000 in
theorem ggX7_read_X7_isFence : GoodIn wsX7_read wsX7_isFence := goodIn_r _ [16, 17, 7, 8, 5, 9, 42, 43, 44, 45, 46, 47, 48, 49, 50, 51, 52, 53, 54, 55] (by decide +kernel) (by decide +kernel)
set_option maxRecDepth 20000 in
theorem gX7_read_X7_isFence : GoodIn wsX7_read (wsV RX7 99 RX7 yX7_isFence wsX7_isFence) := goodIn_app (goodIn_of _ (by decide +kernel)) ggX7_read_X7_isFence
set_option maxRecDepth 20000 in
theorem ggX7_read_X7_canServe : GoodIn wsX7_read wsX7_canServe := goodIn_r _ [21, 22, 23, 24, 5, 25, 17, 42, 43, 44, 45, 46, 47, 48, 49, 50, 51, 52, 53, 54, 55] (by decide +kernel) (by decide +kernel)
set_option maxRecDepth 20000 in
theorem gX7_read_X7_canServe : GoodIn wsX7_read (wsV RX7 102 RX7 yX7_canServe wsX7_canServe) := goodIn_app (goodIn_of _ (by decide +kernel)) ggX7_read_X7_canServe
set_option maxRecDepth 20000 in
theorem ggX7_read_X7_ofStandby : GoodIn wsX7_read wsX7_ofStandby := goodIn_r _ [25, 17, 42, 43, 44, 45, 46, 47, 48, 49, 50, 51, 52, 53, 54, 55] (by decide +kernel) (by decide +kernel)
set_option maxRecDepth 20000 in
theorem gX7_read_X7_ofStandby : GoodIn wsX7_read (wsV RX7 72 RX7 yX7_ofStandby wsX7_ofStandby) := goodIn_app (goodIn_of _ (by decide +kernel)) ggX7_read_X7_ofStandby
set_option maxRecDepth 20000 in
theorem ggX7_read_X7_valueAt : GoodIn wsX7_read wsX7_valueAt := goodIn_r _ [29, 30, 31, 32, 5, 33, 34, 35, 36, 37, 17, 38, 39, 40, 41, 42, 43, 44, 45, 46, 47, 48, 49, 50, 51, 52, 53, 54, 55] (by decide +kernel) (by decide +kernel)
set_option maxRecDepth 20000 in
theorem gX7_read_X7_valueAt : GoodIn wsX7_read (wsV RX7 105 RX7 yX7_valueAt wsX7_valueAt) := goodIn_app (goodIn_of _ (by decide +kernel)) ggX7_read_X7_valueAt
theorem dX7_read_0 : decode cX7_read 0 = .ok (.iload_n 1, 1) := by decide +kernel
theorem dX7_read_1 : decode cX7_read 1 = .ok (.invokestatic 69, 3) := by decide +kernel
theorem dX7_read_4 : decode cX7_read 4 = .ok (.ifCond .eq 18, 3) := by decide +kernel
theorem dX7_read_7 : decode cX7_read 7 = .ok (.iload_n 2, 1) := by decide +kernel
theorem dX7_read_8 : decode cX7_read 8 = .ok (.invokestatic 47, 3) := by decide +kernel
theorem dX7_read_11 : decode cX7_read 11 = .ok (.ifCond .eq 11, 3) := by decide +kernel
theorem dX7_read_14 : decode cX7_read 14 = .ok (.aload_n 0, 1) := by decide +kernel
theorem dX7_read_15 : decode cX7_read 15 = .ok (.iload_n 3, 1) := by decide +kernel
theorem dX7_read_16 : decode cX7_read 16 = .ok (.invokevirtual 99, 3) := by decide +kernel
theorem dX7_read_19 : decode cX7_read 19 = .ok (.ifCond .ne 6, 3) := by decide +kernel
theorem dX7_read_22 : decode cX7_read 22 = .ok (.ldc 41, 2) := by decide +kernel
theorem dX7_read_24 : decode cX7_read 24 = .ok (.ireturn, 1) := by decide +kernel
theorem dX7_read_25 : decode cX7_read 25 = .ok (.aload_n 0, 1) := by decide +kernel
theorem dX7_read_26 : decode cX7_read 26 = .ok (.iload_n 1, 1) := by decide +kernel
theorem dX7_read_27 : decode cX7_read 27 = .ok (.iload_n 3, 1) := by decide +kernel
theorem dX7_read_28 : decode cX7_read 28 = .ok (.invokevirtual 102, 3) := by decide +kernel
theorem dX7_read_31 : decode cX7_read 31 = .ok (.ifCond .eq 17, 3) := by decide +kernel
theorem dX7_read_34 : decode cX7_read 34 = .ok (.aload_n 0, 1) := by decide +kernel
theorem dX7_read_35 : decode cX7_read 35 = .ok (.aload_n 0, 1) := by decide +kernel
theorem dX7_read_36 : decode cX7_read 36 = .ok (.iload_n 1, 1) := by decide +kernel
theorem dX7_read_37 : decode cX7_read 37 = .ok (.iconst 1, 1) := by decide +kernel
theorem dX7_read_38 : decode cX7_read 38 = .ok (.invokevirtual 72, 3) := by decide +kernel
theorem dX7_read_41 : decode cX7_read 41 = .ok (.iload_n 2, 1) := by decide +kernel
theorem dX7_read_42 : decode cX7_read 42 = .ok (.invokevirtual 105, 3) := by decide +kernel
theorem dX7_read_45 : decode cX7_read 45 = .ok (.goto 5, 3) := by decide +kernel
theorem dX7_read_48 : decode cX7_read 48 = .ok (.ldc 42, 2) := by decide +kernel
theorem dX7_read_50 : decode cX7_read 50 = .ok (.ireturn, 1) := by decide +kernel
set_option maxRecDepth 20000 in
theorem ggX7_primary_X7_in : GoodIn wsX7_primary wsX7_in := goodIn_r _ [7] (by decide +kernel) (by decide +kernel)
set_option maxRecDepth 20000 in
theorem gX7_primary_X7_in : GoodIn wsX7_primary (va_wsS RX7 33 yX7_in wsX7_in) := goodIn_app (goodIn_of _ (by decide +kernel)) ggX7_primary_X7_in
set_option maxRecDepth 20000 in
theorem ggX7_primary_X7_isKey : GoodIn wsX7_primary wsX7_isKey := goodIn_r _ [10, 4, 5, 6, 7] (by decide +kernel) (by decide +kernel)
set_option maxRecDepth 20000 in
theorem gX7_primary_X7_isKey : GoodIn wsX7_primary (va_wsS RX7 47 yX7_isKey wsX7_isKey) := goodIn_app (goodIn_of _ (by decide +kernel)) ggX7_primary_X7_isKey
set_option maxRecDepth 20000 in
theorem ggX7_primary_X7_lastPut : GoodIn wsX7_primary wsX7_lastPut := goodIn_r _ [14, 2, 15, 16, 17, 6, 18, 27, 28, 29, 30, 31, 32, 33, 34, 35, 36, 37, 38, 39, 40] (by decide +kernel) (by decide +kernel)
set_option maxRecDepth 20000 in
theorem gX7_primary_X7_lastPut : GoodIn wsX7_primary (wsV RX7 63 RX7 yX7_lastPut wsX7_lastPut) := goodIn_app (goodIn_of _ (by decide +kernel)) ggX7_primary_X7_lastPut
set_option maxRecDepth 20000 in
theorem ggX7_primary_X7_ofRecord : GoodIn wsX7_primary wsX7_ofRecord := goodIn_r _ [18, 2, 27, 28, 29, 30, 31, 32, 33, 34, 35, 36, 37, 38, 39, 40] (by decide +kernel) (by decide +kernel)
set_option maxRecDepth 20000 in
theorem gX7_primary_X7_ofRecord : GoodIn wsX7_primary (wsV RX7 59 RX7 yX7_ofRecord wsX7_ofRecord) := goodIn_app (goodIn_of _ (by decide +kernel)) ggX7_primary_X7_ofRecord
set_option maxRecDepth 20000 in
theorem ggX7_primary_X7_valueAt : GoodIn wsX7_primary wsX7_valueAt := goodIn_r _ [22, 23, 24, 25, 6, 26, 15, 16, 17, 18, 2, 11, 12, 13, 14, 27, 28, 29, 30, 31, 32, 33, 34, 35, 36, 37, 38, 39, 40] (by decide +kernel) (by decide +kernel)
set_option maxRecDepth 20000 in
theorem gX7_primary_X7_valueAt : GoodIn wsX7_primary (wsV RX7 105 RX7 yX7_valueAt wsX7_valueAt) := goodIn_app (goodIn_of _ (by decide +kernel)) ggX7_primary_X7_valueAt
theorem dX7_primary_0 : decode cX7_primary 0 = .ok (.iload_n 1, 1) := by decide +kernel
theorem dX7_primary_1 : decode cX7_primary 1 = .ok (.iconst (-1), 1) := by decide +kernel
theorem dX7_primary_2 : decode cX7_primary 2 = .ok (.iconst 2, 1) := by decide +kernel
theorem dX7_primary_3 : decode cX7_primary 3 = .ok (.invokestatic 33, 3) := by decide +kernel
theorem dX7_primary_6 : decode cX7_primary 6 = .ok (.ifCond .eq 10, 3) := by decide +kernel
theorem dX7_primary_9 : decode cX7_primary 9 = .ok (.iload_n 2, 1) := by decide +kernel
theorem dX7_primary_10 : decode cX7_primary 10 = .ok (.invokestatic 47, 3) := by decide +kernel
theorem dX7_primary_13 : decode cX7_primary 13 = .ok (.ifCond .ne 6, 3) := by decide +kernel
theorem dX7_primary_16 : decode cX7_primary 16 = .ok (.ldc 41, 2) := by decide +kernel
theorem dX7_primary_18 : decode cX7_primary 18 = .ok (.ireturn, 1) := by decide +kernel
theorem dX7_primary_19 : decode cX7_primary 19 = .ok (.iload_n 1, 1) := by decide +kernel
theorem dX7_primary_20 : decode cX7_primary 20 = .ok (.ifCond .lt 18, 3) := by decide +kernel
theorem dX7_primary_23 : decode cX7_primary 23 = .ok (.aload_n 0, 1) := by decide +kernel
theorem dX7_primary_24 : decode cX7_primary 24 = .ok (.getfield 7, 3) := by decide +kernel
theorem dX7_primary_27 : decode cX7_primary 27 = .ok (.bipush 9, 2) := by decide +kernel
theorem dX7_primary_29 : decode cX7_primary 29 = .ok (.iload_n 1, 1) := by decide +kernel
theorem dX7_primary_30 : decode cX7_primary 30 = .ok (.iadd, 1) := by decide +kernel
theorem dX7_primary_31 : decode cX7_primary 31 = .ok (.iaload, 1) := by decide +kernel
theorem dX7_primary_32 : decode cX7_primary 32 = .ok (.ifCond .ne 6, 3) := by decide +kernel
theorem dX7_primary_35 : decode cX7_primary 35 = .ok (.ldc 42, 2) := by decide +kernel
theorem dX7_primary_37 : decode cX7_primary 37 = .ok (.ireturn, 1) := by decide +kernel
theorem dX7_primary_38 : decode cX7_primary 38 = .ok (.iload_n 1, 1) := by decide +kernel
theorem dX7_primary_39 : decode cX7_primary 39 = .ok (.ifCond .ge 7, 3) := by decide +kernel
theorem dX7_primary_42 : decode cX7_primary 42 = .ok (.iconst 0, 1) := by decide +kernel
theorem dX7_primary_43 : decode cX7_primary 43 = .ok (.goto 17, 3) := by decide +kernel
theorem dX7_primary_46 : decode cX7_primary 46 = .ok (.aload_n 0, 1) := by decide +kernel
theorem dX7_primary_47 : decode cX7_primary 47 = .ok (.aload_n 0, 1) := by decide +kernel
theorem dX7_primary_48 : decode cX7_primary 48 = .ok (.getfield 7, 3) := by decide +kernel
theorem dX7_primary_51 : decode cX7_primary 51 = .ok (.bipush 9, 2) := by decide +kernel
theorem dX7_primary_53 : decode cX7_primary 53 = .ok (.iload_n 1, 1) := by decide +kernel
theorem dX7_primary_54 : decode cX7_primary 54 = .ok (.iadd, 1) := by decide +kernel
theorem dX7_primary_55 : decode cX7_primary 55 = .ok (.iaload, 1) := by decide +kernel
theorem dX7_primary_56 : decode cX7_primary 56 = .ok (.iload_n 2, 1) := by decide +kernel
theorem dX7_primary_57 : decode cX7_primary 57 = .ok (.invokevirtual 63, 3) := by decide +kernel
theorem dX7_primary_60 : decode cX7_primary 60 = .ok (.istore_n 3, 1) := by decide +kernel
theorem dX7_primary_61 : decode cX7_primary 61 = .ok (.iload_n 3, 1) := by decide +kernel
theorem dX7_primary_62 : decode cX7_primary 62 = .ok (.ifCond .le 12, 3) := by decide +kernel
theorem dX7_primary_65 : decode cX7_primary 65 = .ok (.aload_n 0, 1) := by decide +kernel
theorem dX7_primary_66 : decode cX7_primary 66 = .ok (.iload_n 3, 1) := by decide +kernel
theorem dX7_primary_67 : decode cX7_primary 67 = .ok (.iconst 3, 1) := by decide +kernel
theorem dX7_primary_68 : decode cX7_primary 68 = .ok (.invokevirtual 59, 3) := by decide +kernel
theorem dX7_primary_71 : decode cX7_primary 71 = .ok (.goto 14, 3) := by decide +kernel
theorem dX7_primary_74 : decode cX7_primary 74 = .ok (.aload_n 0, 1) := by decide +kernel
theorem dX7_primary_75 : decode cX7_primary 75 = .ok (.aload_n 0, 1) := by decide +kernel
theorem dX7_primary_76 : decode cX7_primary 76 = .ok (.getfield 7, 3) := by decide +kernel
theorem dX7_primary_79 : decode cX7_primary 79 = .ok (.iconst 0, 1) := by decide +kernel
theorem dX7_primary_80 : decode cX7_primary 80 = .ok (.iaload, 1) := by decide +kernel
theorem dX7_primary_81 : decode cX7_primary 81 = .ok (.iload_n 2, 1) := by decide +kernel
theorem dX7_primary_82 : decode cX7_primary 82 = .ok (.invokevirtual 105, 3) := by decide +kernel
theorem dX7_primary_85 : decode cX7_primary 85 = .ok (.ireturn, 1) := by decide +kernel
set_option maxRecDepth 20000 in
theorem ggX7_serves_X7_isFence : GoodIn wsX7_serves wsX7_isFence := goodIn_r _ [7, 8, 9, 10, 6, 11, 20, 21, 22, 23, 24, 25, 26, 27, 28, 29, 30, 31, 32, 33] (by decide +kernel) (by decide +kernel)
set_option maxRecDepth 20000 in
theorem gX7_serves_X7_isFence : GoodIn wsX7_serves (wsV RX7 99 RX7 yX7_isFence wsX7_isFence) := goodIn_app (goodIn_of _ (by decide +kernel)) ggX7_serves_X7_isFence
set_option maxRecDepth 20000 in
theorem ggX7_serves_X7_canServe : GoodIn wsX7_serves wsX7_canServe := goodIn_r _ [15, 16, 17, 18, 6, 19, 8, 20, 21, 22, 23, 24, 25, 26, 27, 28, 29, 30, 31, 32, 33] (by decide +kernel) (by decide +kernel)
set_option maxRecDepth 20000 in
theorem gX7_serves_X7_canServe : GoodIn wsX7_serves (wsV RX7 102 RX7 yX7_canServe wsX7_canServe) := goodIn_app (goodIn_of _ (by decide +kernel)) ggX7_serves_X7_canServe
set_option maxRecDepth 20000 in
theorem ggX7_serves_X7_ofStandby : GoodIn wsX7_serves wsX7_ofStandby := goodIn_r _ [19, 8, 20, 21, 22, 23, 24, 25, 26, 27, 28, 29, 30, 31, 32, 33] (by decide +kernel) (by decide +kernel)
set_option maxRecDepth 20000 in
theorem gX7_serves_X7_ofStandby : GoodIn wsX7_serves (wsV RX7 72 RX7 yX7_ofStandby wsX7_ofStandby) := goodIn_app (goodIn_of _ (by decide +kernel)) ggX7_serves_X7_ofStandby
theorem dX7_serves_0 : decode cX7_serves 0 = .ok (.aload_n 0, 1) := by decide +kernel
theorem dX7_serves_1 : decode cX7_serves 1 = .ok (.iload_n 1, 1) := by decide +kernel
theorem dX7_serves_2 : decode cX7_serves 2 = .ok (.invokevirtual 99, 3) := by decide +kernel
theorem dX7_serves_5 : decode cX7_serves 5 = .ok (.ifCond .ne 6, 3) := by decide +kernel
theorem dX7_serves_8 : decode cX7_serves 8 = .ok (.ldc 41, 2) := by decide +kernel
theorem dX7_serves_10 : decode cX7_serves 10 = .ok (.ireturn, 1) := by decide +kernel
theorem dX7_serves_11 : decode cX7_serves 11 = .ok (.aload_n 0, 1) := by decide +kernel
theorem dX7_serves_12 : decode cX7_serves 12 = .ok (.iconst 0, 1) := by decide +kernel
theorem dX7_serves_13 : decode cX7_serves 13 = .ok (.iload_n 1, 1) := by decide +kernel
theorem dX7_serves_14 : decode cX7_serves 14 = .ok (.invokevirtual 102, 3) := by decide +kernel
theorem dX7_serves_17 : decode cX7_serves 17 = .ok (.istore_n 2, 1) := by decide +kernel
theorem dX7_serves_18 : decode cX7_serves 18 = .ok (.aload_n 0, 1) := by decide +kernel
theorem dX7_serves_19 : decode cX7_serves 19 = .ok (.iconst 1, 1) := by decide +kernel
theorem dX7_serves_20 : decode cX7_serves 20 = .ok (.iload_n 1, 1) := by decide +kernel
theorem dX7_serves_21 : decode cX7_serves 21 = .ok (.invokevirtual 102, 3) := by decide +kernel
theorem dX7_serves_24 : decode cX7_serves 24 = .ok (.istore_n 3, 1) := by decide +kernel
theorem dX7_serves_25 : decode cX7_serves 25 = .ok (.iload_n 2, 1) := by decide +kernel
theorem dX7_serves_26 : decode cX7_serves 26 = .ok (.ifCond .eq 30, 3) := by decide +kernel
theorem dX7_serves_29 : decode cX7_serves 29 = .ok (.iload_n 3, 1) := by decide +kernel
theorem dX7_serves_30 : decode cX7_serves 30 = .ok (.ifCond .eq 26, 3) := by decide +kernel
theorem dX7_serves_33 : decode cX7_serves 33 = .ok (.aload_n 0, 1) := by decide +kernel
theorem dX7_serves_34 : decode cX7_serves 34 = .ok (.iconst 1, 1) := by decide +kernel
theorem dX7_serves_35 : decode cX7_serves 35 = .ok (.iconst 1, 1) := by decide +kernel
theorem dX7_serves_36 : decode cX7_serves 36 = .ok (.invokevirtual 72, 3) := by decide +kernel
theorem dX7_serves_39 : decode cX7_serves 39 = .ok (.aload_n 0, 1) := by decide +kernel
theorem dX7_serves_40 : decode cX7_serves 40 = .ok (.iconst 0, 1) := by decide +kernel
theorem dX7_serves_41 : decode cX7_serves 41 = .ok (.iconst 1, 1) := by decide +kernel
theorem dX7_serves_42 : decode cX7_serves 42 = .ok (.invokevirtual 72, 3) := by decide +kernel
theorem dX7_serves_45 : decode cX7_serves 45 = .ok (.if_icmp .le 7, 3) := by decide +kernel
theorem dX7_serves_48 : decode cX7_serves 48 = .ok (.iconst 1, 1) := by decide +kernel
theorem dX7_serves_49 : decode cX7_serves 49 = .ok (.goto 25, 3) := by decide +kernel
theorem dX7_serves_52 : decode cX7_serves 52 = .ok (.iconst 0, 1) := by decide +kernel
theorem dX7_serves_53 : decode cX7_serves 53 = .ok (.goto 21, 3) := by decide +kernel
theorem dX7_serves_56 : decode cX7_serves 56 = .ok (.iload_n 2, 1) := by decide +kernel
theorem dX7_serves_57 : decode cX7_serves 57 = .ok (.ifCond .eq 7, 3) := by decide +kernel
theorem dX7_serves_60 : decode cX7_serves 60 = .ok (.iconst 0, 1) := by decide +kernel
theorem dX7_serves_61 : decode cX7_serves 61 = .ok (.goto 13, 3) := by decide +kernel
theorem dX7_serves_64 : decode cX7_serves 64 = .ok (.iload_n 3, 1) := by decide +kernel
theorem dX7_serves_65 : decode cX7_serves 65 = .ok (.ifCond .eq 7, 3) := by decide +kernel
theorem dX7_serves_68 : decode cX7_serves 68 = .ok (.iconst 1, 1) := by decide +kernel
theorem dX7_serves_69 : decode cX7_serves 69 = .ok (.goto 5, 3) := by decide +kernel
theorem dX7_serves_72 : decode cX7_serves 72 = .ok (.ldc 58, 2) := by decide +kernel
theorem dX7_serves_74 : decode cX7_serves 74 = .ok (.ireturn, 1) := by decide +kernel
set_option maxRecDepth 20000 in
theorem ggX7_fence_X7_isKey : GoodIn wsX7_fence wsX7_isKey := goodIn_r _ [7, 8, 9, 6, 10] (by decide +kernel) (by decide +kernel)
set_option maxRecDepth 20000 in
theorem gX7_fence_X7_isKey : GoodIn wsX7_fence (va_wsS RX7 47 yX7_isKey wsX7_isKey) := goodIn_app (goodIn_of _ (by decide +kernel)) ggX7_fence_X7_isKey
set_option maxRecDepth 20000 in
theorem ggX7_fence_X7_lastCommit : GoodIn wsX7_fence wsX7_lastCommit := goodIn_r _ [14, 15, 16, 17, 6, 18, 2, 19, 20, 21, 22, 23, 24, 25, 26, 27, 28, 29, 30, 31, 32, 33, 34, 35, 36] (by decide +kernel) (by decide +kernel)
set_option maxRecDepth 20000 in
theorem gX7_fence_X7_lastCommit : GoodIn wsX7_fence (wsV RX7 66 RX7 yX7_lastCommit wsX7_lastCommit) := goodIn_app (goodIn_of _ (by decide +kernel)) ggX7_fence_X7_lastCommit
theorem dX7_fence_0 : decode cX7_fence 0 = .ok (.iload_n 1, 1) := by decide +kernel
theorem dX7_fence_1 : decode cX7_fence 1 = .ok (.invokestatic 47, 3) := by decide +kernel
theorem dX7_fence_4 : decode cX7_fence 4 = .ok (.ifCond .ne 6, 3) := by decide +kernel
theorem dX7_fence_7 : decode cX7_fence 7 = .ok (.ldc 41, 2) := by decide +kernel
theorem dX7_fence_9 : decode cX7_fence 9 = .ok (.ireturn, 1) := by decide +kernel
theorem dX7_fence_10 : decode cX7_fence 10 = .ok (.aload_n 0, 1) := by decide +kernel
theorem dX7_fence_11 : decode cX7_fence 11 = .ok (.aload_n 0, 1) := by decide +kernel
theorem dX7_fence_12 : decode cX7_fence 12 = .ok (.getfield 7, 3) := by decide +kernel
theorem dX7_fence_15 : decode cX7_fence 15 = .ok (.iconst 0, 1) := by decide +kernel
theorem dX7_fence_16 : decode cX7_fence 16 = .ok (.iaload, 1) := by decide +kernel
theorem dX7_fence_17 : decode cX7_fence 17 = .ok (.iload_n 1, 1) := by decide +kernel
theorem dX7_fence_18 : decode cX7_fence 18 = .ok (.invokevirtual 66, 3) := by decide +kernel
theorem dX7_fence_21 : decode cX7_fence 21 = .ok (.istore_n 2, 1) := by decide +kernel
theorem dX7_fence_22 : decode cX7_fence 22 = .ok (.iload_n 2, 1) := by decide +kernel
theorem dX7_fence_23 : decode cX7_fence 23 = .ok (.ifCond .ne 8, 3) := by decide +kernel
theorem dX7_fence_26 : decode cX7_fence 26 = .ok (.ldc 58, 2) := by decide +kernel
theorem dX7_fence_28 : decode cX7_fence 28 = .ok (.goto 4, 3) := by decide +kernel
theorem dX7_fence_31 : decode cX7_fence 31 = .ok (.iload_n 2, 1) := by decide +kernel
theorem dX7_fence_32 : decode cX7_fence 32 = .ok (.ireturn, 1) := by decide +kernel
set_option maxRecDepth 20000 in
theorem ggX7_recordOf_X7_in : GoodIn wsX7_recordOf wsX7_in := goodIn_r _ [7] (by decide +kernel) (by decide +kernel)
set_option maxRecDepth 20000 in
theorem gX7_recordOf_X7_in : GoodIn wsX7_recordOf (va_wsS RX7 33 yX7_in wsX7_in) := goodIn_app (goodIn_of _ (by decide +kernel)) ggX7_recordOf_X7_in
set_option maxRecDepth 20000 in
theorem ggX7_recordOf_X7_ofRecord : GoodIn wsX7_recordOf wsX7_ofRecord := goodIn_r _ [11, 2, 12, 13, 14, 15, 16, 17, 18, 19, 20, 21, 22, 23, 24, 25] (by decide +kernel) (by decide +kernel)
set_option maxRecDepth 20000 in
theorem gX7_recordOf_X7_ofRecord : GoodIn wsX7_recordOf (wsV RX7 59 RX7 yX7_ofRecord wsX7_ofRecord) := goodIn_app (goodIn_of _ (by decide +kernel)) ggX7_recordOf_X7_ofRecord
theorem dX7_recordOf_0 : decode cX7_recordOf 0 = .ok (.iload_n 1, 1) := by decide +kernel
theorem dX7_recordOf_1 : decode cX7_recordOf 1 = .ok (.iconst 1, 1) := by decide +kernel
theorem dX7_recordOf_2 : decode cX7_recordOf 2 = .ok (.if_icmp .lt 12, 3) := by decide +kernel
theorem dX7_recordOf_5 : decode cX7_recordOf 5 = .ok (.iload_n 2, 1) := by decide +kernel
theorem dX7_recordOf_6 : decode cX7_recordOf 6 = .ok (.iconst 0, 1) := by decide +kernel
theorem dX7_recordOf_7 : decode cX7_recordOf 7 = .ok (.iconst 4, 1) := by decide +kernel
theorem dX7_recordOf_8 : decode cX7_recordOf 8 = .ok (.invokestatic 33, 3) := by decide +kernel
theorem dX7_recordOf_11 : decode cX7_recordOf 11 = .ok (.ifCond .ne 6, 3) := by decide +kernel
theorem dX7_recordOf_14 : decode cX7_recordOf 14 = .ok (.ldc 41, 2) := by decide +kernel
theorem dX7_recordOf_16 : decode cX7_recordOf 16 = .ok (.ireturn, 1) := by decide +kernel
theorem dX7_recordOf_17 : decode cX7_recordOf 17 = .ok (.iload_n 1, 1) := by decide +kernel
theorem dX7_recordOf_18 : decode cX7_recordOf 18 = .ok (.aload_n 0, 1) := by decide +kernel
theorem dX7_recordOf_19 : decode cX7_recordOf 19 = .ok (.getfield 7, 3) := by decide +kernel
theorem dX7_recordOf_22 : decode cX7_recordOf 22 = .ok (.iconst 0, 1) := by decide +kernel
theorem dX7_recordOf_23 : decode cX7_recordOf 23 = .ok (.iaload, 1) := by decide +kernel
theorem dX7_recordOf_24 : decode cX7_recordOf 24 = .ok (.if_icmp .le 8, 3) := by decide +kernel
theorem dX7_recordOf_27 : decode cX7_recordOf 27 = .ok (.ldc 58, 2) := by decide +kernel
theorem dX7_recordOf_29 : decode cX7_recordOf 29 = .ok (.goto 9, 3) := by decide +kernel
theorem dX7_recordOf_32 : decode cX7_recordOf 32 = .ok (.aload_n 0, 1) := by decide +kernel
theorem dX7_recordOf_33 : decode cX7_recordOf 33 = .ok (.iload_n 1, 1) := by decide +kernel
theorem dX7_recordOf_34 : decode cX7_recordOf 34 = .ok (.iload_n 2, 1) := by decide +kernel
theorem dX7_recordOf_35 : decode cX7_recordOf 35 = .ok (.invokevirtual 59, 3) := by decide +kernel
theorem dX7_recordOf_38 : decode cX7_recordOf 38 = .ok (.ireturn, 1) := by decide +kernel
set_option maxRecDepth 20000 in
theorem ggX7_unlike_X7_ofStandby : GoodIn wsX7_unlike wsX7_ofStandby := goodIn_r _ [6, 1, 23, 24, 25, 26, 27, 28, 29, 30, 31, 32, 33, 34, 35, 36] (by decide +kernel) (by decide +kernel)
set_option maxRecDepth 20000 in
theorem gX7_unlike_X7_ofStandby : GoodIn wsX7_unlike (wsV RX7 72 RX7 yX7_ofStandby wsX7_ofStandby) := goodIn_app (goodIn_of _ (by decide +kernel)) ggX7_unlike_X7_ofStandby
set_option maxRecDepth 20000 in
theorem ggX7_unlike_X7_valueAt : GoodIn wsX7_unlike wsX7_valueAt := goodIn_r _ [10, 11, 12, 13, 5, 14, 15, 16, 17, 18, 1, 19, 20, 21, 22, 23, 24, 25, 26, 27, 28, 29, 30, 31, 32, 33, 34, 35, 36] (by decide +kernel) (by decide +kernel)
set_option maxRecDepth 20000 in
theorem gX7_unlike_X7_valueAt : GoodIn wsX7_unlike (wsV RX7 105 RX7 yX7_valueAt wsX7_valueAt) := goodIn_app (goodIn_of _ (by decide +kernel)) ggX7_unlike_X7_valueAt
theorem dX7_unlike_0 : decode cX7_unlike 0 = .ok (.iconst 0, 1) := by decide +kernel
theorem dX7_unlike_1 : decode cX7_unlike 1 = .ok (.istore_n 2, 1) := by decide +kernel
theorem dX7_unlike_2 : decode cX7_unlike 2 = .ok (.iconst 0, 1) := by decide +kernel
theorem dX7_unlike_3 : decode cX7_unlike 3 = .ok (.istore_n 3, 1) := by decide +kernel
theorem dX7_unlike_4 : decode cX7_unlike 4 = .ok (.iload_n 3, 1) := by decide +kernel
theorem dX7_unlike_5 : decode cX7_unlike 5 = .ok (.bipush 24, 2) := by decide +kernel
theorem dX7_unlike_7 : decode cX7_unlike 7 = .ok (.if_icmp .ge 42, 3) := by decide +kernel
theorem dX7_unlike_10 : decode cX7_unlike 10 = .ok (.iload_n 2, 1) := by decide +kernel
theorem dX7_unlike_11 : decode cX7_unlike 11 = .ok (.aload_n 0, 1) := by decide +kernel
theorem dX7_unlike_12 : decode cX7_unlike 12 = .ok (.aload_n 0, 1) := by decide +kernel
theorem dX7_unlike_13 : decode cX7_unlike 13 = .ok (.iload_n 1, 1) := by decide +kernel
theorem dX7_unlike_14 : decode cX7_unlike 14 = .ok (.iconst 1, 1) := by decide +kernel
theorem dX7_unlike_15 : decode cX7_unlike 15 = .ok (.invokevirtual 72, 3) := by decide +kernel
theorem dX7_unlike_18 : decode cX7_unlike 18 = .ok (.iload_n 3, 1) := by decide +kernel
theorem dX7_unlike_19 : decode cX7_unlike 19 = .ok (.invokevirtual 105, 3) := by decide +kernel
theorem dX7_unlike_22 : decode cX7_unlike 22 = .ok (.aload_n 0, 1) := by decide +kernel
theorem dX7_unlike_23 : decode cX7_unlike 23 = .ok (.aload_n 0, 1) := by decide +kernel
theorem dX7_unlike_24 : decode cX7_unlike 24 = .ok (.getfield 7, 3) := by decide +kernel
theorem dX7_unlike_27 : decode cX7_unlike 27 = .ok (.iconst 0, 1) := by decide +kernel
theorem dX7_unlike_28 : decode cX7_unlike 28 = .ok (.iaload, 1) := by decide +kernel
theorem dX7_unlike_29 : decode cX7_unlike 29 = .ok (.iload_n 3, 1) := by decide +kernel
theorem dX7_unlike_30 : decode cX7_unlike 30 = .ok (.invokevirtual 105, 3) := by decide +kernel
theorem dX7_unlike_33 : decode cX7_unlike 33 = .ok (.if_icmp .eq 7, 3) := by decide +kernel
theorem dX7_unlike_36 : decode cX7_unlike 36 = .ok (.iconst 1, 1) := by decide +kernel
theorem dX7_unlike_37 : decode cX7_unlike 37 = .ok (.goto 4, 3) := by decide +kernel
theorem dX7_unlike_40 : decode cX7_unlike 40 = .ok (.iconst 0, 1) := by decide +kernel
theorem dX7_unlike_41 : decode cX7_unlike 41 = .ok (.iadd, 1) := by decide +kernel
theorem dX7_unlike_42 : decode cX7_unlike 42 = .ok (.istore_n 2, 1) := by decide +kernel
theorem dX7_unlike_43 : decode cX7_unlike 43 = .ok (.iinc 3 1, 3) := by decide +kernel
theorem dX7_unlike_46 : decode cX7_unlike 46 = .ok (.goto (-42), 3) := by decide +kernel
theorem dX7_unlike_49 : decode cX7_unlike 49 = .ok (.iload_n 2, 1) := by decide +kernel
theorem dX7_unlike_50 : decode cX7_unlike 50 = .ok (.ireturn, 1) := by decide +kernel
set_option maxRecDepth 20000 in
theorem ggX7_standbyOf_X7_isStandby : GoodIn wsX7_standbyOf wsX7_isStandby := goodIn_r _ [7, 8, 9, 6, 10] (by decide +kernel) (by decide +kernel)
set_option maxRecDepth 20000 in
theorem gX7_standbyOf_X7_isStandby : GoodIn wsX7_standbyOf (va_wsS RX7 69 yX7_isStandby wsX7_isStandby) := goodIn_app (goodIn_of _ (by decide +kernel)) ggX7_standbyOf_X7_isStandby
set_option maxRecDepth 20000 in
theorem ggX7_standbyOf_X7_in : GoodIn wsX7_standbyOf wsX7_in := goodIn_r _ [10] (by decide +kernel) (by decide +kernel)
set_option maxRecDepth 20000 in
theorem gX7_standbyOf_X7_in : GoodIn wsX7_standbyOf (va_wsS RX7 33 yX7_in wsX7_in) := goodIn_app (goodIn_of _ (by decide +kernel)) ggX7_standbyOf_X7_in
set_option maxRecDepth 20000 in
theorem ggX7_standbyOf_X7_ofStandby : GoodIn wsX7_standbyOf wsX7_ofStandby := goodIn_r _ [14, 2, 55, 56, 57, 58, 59, 60, 61, 62, 63, 64, 65, 66, 67, 68] (by decide +kernel) (by decide +kernel)
set_option maxRecDepth 20000 in
theorem gX7_standbyOf_X7_ofStandby : GoodIn wsX7_standbyOf (wsV RX7 72 RX7 yX7_ofStandby wsX7_ofStandby) := goodIn_app (goodIn_of _ (by decide +kernel)) ggX7_standbyOf_X7_ofStandby
set_option maxRecDepth 20000 in
theorem ggX7_standbyOf_X7_gaps : GoodIn wsX7_standbyOf wsX7_gaps := goodIn_r _ [18, 19, 20, 21, 6, 22, 2, 55, 56, 57, 58, 59, 60, 61, 62, 63, 64, 65, 66, 67, 68] (by decide +kernel) (by decide +kernel)
set_option maxRecDepth 20000 in
theorem gX7_standbyOf_X7_gaps : GoodIn wsX7_standbyOf (wsV RX7 79 RX7 yX7_gaps wsX7_gaps) := goodIn_app (goodIn_of _ (by decide +kernel)) ggX7_standbyOf_X7_gaps
set_option maxRecDepth 20000 in
theorem ggX7_standbyOf_X7_lowestGap : GoodIn wsX7_standbyOf wsX7_lowestGap := goodIn_r _ [26, 3, 19, 20, 21, 6, 22, 2, 55, 56, 57, 58, 59, 60, 61, 62, 63, 64, 65, 66, 67, 68] (by decide +kernel) (by decide +kernel)
set_option maxRecDepth 20000 in
theorem gX7_standbyOf_X7_lowestGap : GoodIn wsX7_standbyOf (wsV RX7 108 RX7 yX7_lowestGap wsX7_lowestGap) := goodIn_app (goodIn_of _ (by decide +kernel)) ggX7_standbyOf_X7_lowestGap
set_option maxRecDepth 20000 in
theorem ggX7_standbyOf_X7_wouldBeLost : GoodIn wsX7_standbyOf wsX7_wouldBeLost := goodIn_r _ [30, 2, 11, 12, 13, 6, 14, 31, 32, 33, 34, 35, 36, 37, 38, 55, 56, 57, 58, 59, 60, 61, 62, 63, 64, 65, 66, 67, 68] (by decide +kernel) (by decide +kernel)
set_option maxRecDepth 20000 in
theorem gX7_standbyOf_X7_wouldBeLost : GoodIn wsX7_standbyOf (wsV RX7 92 RX7 yX7_wouldBeLost wsX7_wouldBeLost) := goodIn_app (goodIn_of _ (by decide +kernel)) ggX7_standbyOf_X7_wouldBeLost
set_option maxRecDepth 20000 in
theorem ggX7_standbyOf_X7_ofRecord : GoodIn wsX7_standbyOf wsX7_ofRecord := goodIn_r _ [38, 2, 55, 56, 57, 58, 59, 60, 61, 62, 63, 64, 65, 66, 67, 68] (by decide +kernel) (by decide +kernel)
set_option maxRecDepth 20000 in
theorem gX7_standbyOf_X7_ofRecord : GoodIn wsX7_standbyOf (wsV RX7 59 RX7 yX7_ofRecord wsX7_ofRecord) := goodIn_app (goodIn_of _ (by decide +kernel)) ggX7_standbyOf_X7_ofRecord
set_option maxRecDepth 20000 in
theorem ggX7_standbyOf_X7_unlike : GoodIn wsX7_standbyOf wsX7_unlike := goodIn_r _ [42, 2, 11, 12, 13, 6, 14, 43, 44, 45, 46, 47, 48, 49, 50, 35, 36, 37, 38, 51, 52, 53, 54, 55, 56, 57, 58, 59, 60, 61, 62, 63, 64, 65, 66, 67, 68] (by decide +kernel) (by decide +kernel)
set_option maxRecDepth 20000 in
theorem gX7_standbyOf_X7_unlike : GoodIn wsX7_standbyOf (wsV RX7 111 RX7 yX7_unlike wsX7_unlike) := goodIn_app (goodIn_of _ (by decide +kernel)) ggX7_standbyOf_X7_unlike
theorem dX7_standbyOf_0 : decode cX7_standbyOf 0 = .ok (.iload_n 1, 1) := by decide +kernel
theorem dX7_standbyOf_1 : decode cX7_standbyOf 1 = .ok (.invokestatic 69, 3) := by decide +kernel
theorem dX7_standbyOf_4 : decode cX7_standbyOf 4 = .ok (.ifCond .eq 13, 3) := by decide +kernel
theorem dX7_standbyOf_7 : decode cX7_standbyOf 7 = .ok (.iload_n 2, 1) := by decide +kernel
theorem dX7_standbyOf_8 : decode cX7_standbyOf 8 = .ok (.iconst 0, 1) := by decide +kernel
theorem dX7_standbyOf_9 : decode cX7_standbyOf 9 = .ok (.bipush 8, 2) := by decide +kernel
theorem dX7_standbyOf_11 : decode cX7_standbyOf 11 = .ok (.invokestatic 33, 3) := by decide +kernel
theorem dX7_standbyOf_14 : decode cX7_standbyOf 14 = .ok (.ifCond .ne 6, 3) := by decide +kernel
theorem dX7_standbyOf_17 : decode cX7_standbyOf 17 = .ok (.ldc 41, 2) := by decide +kernel
theorem dX7_standbyOf_19 : decode cX7_standbyOf 19 = .ok (.ireturn, 1) := by decide +kernel
theorem dX7_standbyOf_20 : decode cX7_standbyOf 20 = .ok (.aload_n 0, 1) := by decide +kernel
theorem dX7_standbyOf_21 : decode cX7_standbyOf 21 = .ok (.iload_n 1, 1) := by decide +kernel
theorem dX7_standbyOf_22 : decode cX7_standbyOf 22 = .ok (.iconst 1, 1) := by decide +kernel
theorem dX7_standbyOf_23 : decode cX7_standbyOf 23 = .ok (.invokevirtual 72, 3) := by decide +kernel
theorem dX7_standbyOf_26 : decode cX7_standbyOf 26 = .ok (.istore_n 3, 1) := by decide +kernel
theorem dX7_standbyOf_27 : decode cX7_standbyOf 27 = .ok (.iload_n 2, 1) := by decide +kernel
theorem dX7_standbyOf_28 : decode cX7_standbyOf 28 = .ok (.tableswitch 120 0 7 #[48, 48, 55, 61, 67, 74, 83, 89], 48) := by decide +kernel
theorem dX7_standbyOf_76 : decode cX7_standbyOf 76 = .ok (.aload_n 0, 1) := by decide +kernel
theorem dX7_standbyOf_77 : decode cX7_standbyOf 77 = .ok (.iload_n 1, 1) := by decide +kernel
theorem dX7_standbyOf_78 : decode cX7_standbyOf 78 = .ok (.iload_n 2, 1) := by decide +kernel
theorem dX7_standbyOf_79 : decode cX7_standbyOf 79 = .ok (.invokevirtual 72, 3) := by decide +kernel
theorem dX7_standbyOf_82 : decode cX7_standbyOf 82 = .ok (.ireturn, 1) := by decide +kernel
theorem dX7_standbyOf_83 : decode cX7_standbyOf 83 = .ok (.aload_n 0, 1) := by decide +kernel
theorem dX7_standbyOf_84 : decode cX7_standbyOf 84 = .ok (.iload_n 1, 1) := by decide +kernel
theorem dX7_standbyOf_85 : decode cX7_standbyOf 85 = .ok (.invokevirtual 79, 3) := by decide +kernel
theorem dX7_standbyOf_88 : decode cX7_standbyOf 88 = .ok (.ireturn, 1) := by decide +kernel
theorem dX7_standbyOf_89 : decode cX7_standbyOf 89 = .ok (.aload_n 0, 1) := by decide +kernel
theorem dX7_standbyOf_90 : decode cX7_standbyOf 90 = .ok (.iload_n 1, 1) := by decide +kernel
theorem dX7_standbyOf_91 : decode cX7_standbyOf 91 = .ok (.invokevirtual 108, 3) := by decide +kernel
theorem dX7_standbyOf_94 : decode cX7_standbyOf 94 = .ok (.ireturn, 1) := by decide +kernel
theorem dX7_standbyOf_95 : decode cX7_standbyOf 95 = .ok (.aload_n 0, 1) := by decide +kernel
theorem dX7_standbyOf_96 : decode cX7_standbyOf 96 = .ok (.iload_n 1, 1) := by decide +kernel
theorem dX7_standbyOf_97 : decode cX7_standbyOf 97 = .ok (.iconst 2, 1) := by decide +kernel
theorem dX7_standbyOf_98 : decode cX7_standbyOf 98 = .ok (.invokevirtual 72, 3) := by decide +kernel
theorem dX7_standbyOf_101 : decode cX7_standbyOf 101 = .ok (.ireturn, 1) := by decide +kernel
theorem dX7_standbyOf_102 : decode cX7_standbyOf 102 = .ok (.aload_n 0, 1) := by decide +kernel
theorem dX7_standbyOf_103 : decode cX7_standbyOf 103 = .ok (.getfield 7, 3) := by decide +kernel
theorem dX7_standbyOf_106 : decode cX7_standbyOf 106 = .ok (.iconst 0, 1) := by decide +kernel
theorem dX7_standbyOf_107 : decode cX7_standbyOf 107 = .ok (.iaload, 1) := by decide +kernel
theorem dX7_standbyOf_108 : decode cX7_standbyOf 108 = .ok (.iload_n 3, 1) := by decide +kernel
theorem dX7_standbyOf_109 : decode cX7_standbyOf 109 = .ok (.isub, 1) := by decide +kernel
theorem dX7_standbyOf_110 : decode cX7_standbyOf 110 = .ok (.ireturn, 1) := by decide +kernel
theorem dX7_standbyOf_111 : decode cX7_standbyOf 111 = .ok (.aload_n 0, 1) := by decide +kernel
theorem dX7_standbyOf_112 : decode cX7_standbyOf 112 = .ok (.iload_n 1, 1) := by decide +kernel
theorem dX7_standbyOf_113 : decode cX7_standbyOf 113 = .ok (.invokevirtual 92, 3) := by decide +kernel
theorem dX7_standbyOf_116 : decode cX7_standbyOf 116 = .ok (.ireturn, 1) := by decide +kernel
theorem dX7_standbyOf_117 : decode cX7_standbyOf 117 = .ok (.iload_n 3, 1) := by decide +kernel
theorem dX7_standbyOf_118 : decode cX7_standbyOf 118 = .ok (.aload_n 0, 1) := by decide +kernel
theorem dX7_standbyOf_119 : decode cX7_standbyOf 119 = .ok (.getfield 7, 3) := by decide +kernel
theorem dX7_standbyOf_122 : decode cX7_standbyOf 122 = .ok (.iconst 0, 1) := by decide +kernel
theorem dX7_standbyOf_123 : decode cX7_standbyOf 123 = .ok (.iaload, 1) := by decide +kernel
theorem dX7_standbyOf_124 : decode cX7_standbyOf 124 = .ok (.if_icmp .ne 8, 3) := by decide +kernel
theorem dX7_standbyOf_127 : decode cX7_standbyOf 127 = .ok (.ldc 58, 2) := by decide +kernel
theorem dX7_standbyOf_129 : decode cX7_standbyOf 129 = .ok (.goto 18, 3) := by decide +kernel
theorem dX7_standbyOf_132 : decode cX7_standbyOf 132 = .ok (.aload_n 0, 1) := by decide +kernel
theorem dX7_standbyOf_133 : decode cX7_standbyOf 133 = .ok (.getfield 7, 3) := by decide +kernel
theorem dX7_standbyOf_136 : decode cX7_standbyOf 136 = .ok (.iconst 1, 1) := by decide +kernel
theorem dX7_standbyOf_137 : decode cX7_standbyOf 137 = .ok (.iaload, 1) := by decide +kernel
theorem dX7_standbyOf_138 : decode cX7_standbyOf 138 = .ok (.aload_n 0, 1) := by decide +kernel
theorem dX7_standbyOf_139 : decode cX7_standbyOf 139 = .ok (.iload_n 3, 1) := by decide +kernel
theorem dX7_standbyOf_140 : decode cX7_standbyOf 140 = .ok (.iconst 1, 1) := by decide +kernel
theorem dX7_standbyOf_141 : decode cX7_standbyOf 141 = .ok (.iadd, 1) := by decide +kernel
theorem dX7_standbyOf_142 : decode cX7_standbyOf 142 = .ok (.iconst 4, 1) := by decide +kernel
theorem dX7_standbyOf_143 : decode cX7_standbyOf 143 = .ok (.invokevirtual 59, 3) := by decide +kernel
theorem dX7_standbyOf_146 : decode cX7_standbyOf 146 = .ok (.isub, 1) := by decide +kernel
theorem dX7_standbyOf_147 : decode cX7_standbyOf 147 = .ok (.ireturn, 1) := by decide +kernel
theorem dX7_standbyOf_148 : decode cX7_standbyOf 148 = .ok (.aload_n 0, 1) := by decide +kernel
theorem dX7_standbyOf_149 : decode cX7_standbyOf 149 = .ok (.iload_n 1, 1) := by decide +kernel
theorem dX7_standbyOf_150 : decode cX7_standbyOf 150 = .ok (.invokevirtual 111, 3) := by decide +kernel
theorem dX7_standbyOf_153 : decode cX7_standbyOf 153 = .ok (.ireturn, 1) := by decide +kernel
set_option maxRecDepth 20000 in
theorem ggX7_slotOf_X7_isSlot : GoodIn wsX7_slotOf wsX7_isSlot := goodIn_r _ [7, 8, 9, 6, 10] (by decide +kernel) (by decide +kernel)
set_option maxRecDepth 20000 in
theorem gX7_slotOf_X7_isSlot : GoodIn wsX7_slotOf (va_wsS RX7 37 yX7_isSlot wsX7_isSlot) := goodIn_app (goodIn_of _ (by decide +kernel)) ggX7_slotOf_X7_isSlot
set_option maxRecDepth 20000 in
theorem ggX7_slotOf_X7_in : GoodIn wsX7_slotOf wsX7_in := goodIn_r _ [10] (by decide +kernel) (by decide +kernel)
set_option maxRecDepth 20000 in
theorem gX7_slotOf_X7_in : GoodIn wsX7_slotOf (va_wsS RX7 33 yX7_in wsX7_in) := goodIn_app (goodIn_of _ (by decide +kernel)) ggX7_slotOf_X7_in
set_option maxRecDepth 20000 in
theorem ggX7_slotOf_X7_ofRecord : GoodIn wsX7_slotOf wsX7_ofRecord := goodIn_r _ [14, 2, 15, 16, 17, 18, 19, 20, 21, 22, 23, 24, 25, 26, 27, 28] (by decide +kernel) (by decide +kernel)
set_option maxRecDepth 20000 in
theorem gX7_slotOf_X7_ofRecord : GoodIn wsX7_slotOf (wsV RX7 59 RX7 yX7_ofRecord wsX7_ofRecord) := goodIn_app (goodIn_of _ (by decide +kernel)) ggX7_slotOf_X7_ofRecord
theorem dX7_slotOf_0 : decode cX7_slotOf 0 = .ok (.iload_n 1, 1) := by decide +kernel
theorem dX7_slotOf_1 : decode cX7_slotOf 1 = .ok (.invokestatic 37, 3) := by decide +kernel
theorem dX7_slotOf_4 : decode cX7_slotOf 4 = .ok (.ifCond .eq 12, 3) := by decide +kernel
theorem dX7_slotOf_7 : decode cX7_slotOf 7 = .ok (.iload_n 2, 1) := by decide +kernel
theorem dX7_slotOf_8 : decode cX7_slotOf 8 = .ok (.iconst 0, 1) := by decide +kernel
theorem dX7_slotOf_9 : decode cX7_slotOf 9 = .ok (.iconst 1, 1) := by decide +kernel
theorem dX7_slotOf_10 : decode cX7_slotOf 10 = .ok (.invokestatic 33, 3) := by decide +kernel
theorem dX7_slotOf_13 : decode cX7_slotOf 13 = .ok (.ifCond .ne 6, 3) := by decide +kernel
theorem dX7_slotOf_16 : decode cX7_slotOf 16 = .ok (.ldc 41, 2) := by decide +kernel
theorem dX7_slotOf_18 : decode cX7_slotOf 18 = .ok (.ireturn, 1) := by decide +kernel
theorem dX7_slotOf_19 : decode cX7_slotOf 19 = .ok (.aload_n 0, 1) := by decide +kernel
theorem dX7_slotOf_20 : decode cX7_slotOf 20 = .ok (.getfield 7, 3) := by decide +kernel
theorem dX7_slotOf_23 : decode cX7_slotOf 23 = .ok (.bipush 9, 2) := by decide +kernel
theorem dX7_slotOf_25 : decode cX7_slotOf 25 = .ok (.iload_n 1, 1) := by decide +kernel
theorem dX7_slotOf_26 : decode cX7_slotOf 26 = .ok (.iadd, 1) := by decide +kernel
theorem dX7_slotOf_27 : decode cX7_slotOf 27 = .ok (.iaload, 1) := by decide +kernel
theorem dX7_slotOf_28 : decode cX7_slotOf 28 = .ok (.istore_n 3, 1) := by decide +kernel
theorem dX7_slotOf_29 : decode cX7_slotOf 29 = .ok (.iconst 0, 1) := by decide +kernel
theorem dX7_slotOf_30 : decode cX7_slotOf 30 = .ok (.istore 4, 2) := by decide +kernel
theorem dX7_slotOf_32 : decode cX7_slotOf 32 = .ok (.iconst 1, 1) := by decide +kernel
theorem dX7_slotOf_33 : decode cX7_slotOf 33 = .ok (.istore 5, 2) := by decide +kernel
theorem dX7_slotOf_35 : decode cX7_slotOf 35 = .ok (.iload 5, 2) := by decide +kernel
theorem dX7_slotOf_37 : decode cX7_slotOf 37 = .ok (.aload_n 0, 1) := by decide +kernel
theorem dX7_slotOf_38 : decode cX7_slotOf 38 = .ok (.getfield 7, 3) := by decide +kernel
theorem dX7_slotOf_41 : decode cX7_slotOf 41 = .ok (.iconst 0, 1) := by decide +kernel
theorem dX7_slotOf_42 : decode cX7_slotOf 42 = .ok (.iaload, 1) := by decide +kernel
theorem dX7_slotOf_43 : decode cX7_slotOf 43 = .ok (.if_icmp .gt 40, 3) := by decide +kernel
theorem dX7_slotOf_46 : decode cX7_slotOf 46 = .ok (.iload 4, 2) := by decide +kernel
theorem dX7_slotOf_48 : decode cX7_slotOf 48 = .ok (.aload_n 0, 1) := by decide +kernel
theorem dX7_slotOf_49 : decode cX7_slotOf 49 = .ok (.iload 5, 2) := by decide +kernel
theorem dX7_slotOf_51 : decode cX7_slotOf 51 = .ok (.iconst 0, 1) := by decide +kernel
theorem dX7_slotOf_52 : decode cX7_slotOf 52 = .ok (.invokevirtual 59, 3) := by decide +kernel
theorem dX7_slotOf_55 : decode cX7_slotOf 55 = .ok (.ifCond .ne 18, 3) := by decide +kernel
theorem dX7_slotOf_58 : decode cX7_slotOf 58 = .ok (.aload_n 0, 1) := by decide +kernel
theorem dX7_slotOf_59 : decode cX7_slotOf 59 = .ok (.iload 5, 2) := by decide +kernel
theorem dX7_slotOf_61 : decode cX7_slotOf 61 = .ok (.iconst 1, 1) := by decide +kernel
theorem dX7_slotOf_62 : decode cX7_slotOf 62 = .ok (.invokevirtual 59, 3) := by decide +kernel
theorem dX7_slotOf_65 : decode cX7_slotOf 65 = .ok (.iload_n 3, 1) := by decide +kernel
theorem dX7_slotOf_66 : decode cX7_slotOf 66 = .ok (.if_icmp .ne 7, 3) := by decide +kernel
theorem dX7_slotOf_69 : decode cX7_slotOf 69 = .ok (.iconst 1, 1) := by decide +kernel
theorem dX7_slotOf_70 : decode cX7_slotOf 70 = .ok (.goto 4, 3) := by decide +kernel
theorem dX7_slotOf_73 : decode cX7_slotOf 73 = .ok (.iconst 0, 1) := by decide +kernel
theorem dX7_slotOf_74 : decode cX7_slotOf 74 = .ok (.iadd, 1) := by decide +kernel
theorem dX7_slotOf_75 : decode cX7_slotOf 75 = .ok (.istore 4, 2) := by decide +kernel
theorem dX7_slotOf_77 : decode cX7_slotOf 77 = .ok (.iinc 5 1, 3) := by decide +kernel
theorem dX7_slotOf_80 : decode cX7_slotOf 80 = .ok (.goto (-45), 3) := by decide +kernel
theorem dX7_slotOf_83 : decode cX7_slotOf 83 = .ok (.iload_n 3, 1) := by decide +kernel
theorem dX7_slotOf_84 : decode cX7_slotOf 84 = .ok (.ifCond .ne 8, 3) := by decide +kernel
theorem dX7_slotOf_87 : decode cX7_slotOf 87 = .ok (.ldc 58, 2) := by decide +kernel
theorem dX7_slotOf_89 : decode cX7_slotOf 89 = .ok (.goto 13, 3) := by decide +kernel
theorem dX7_slotOf_92 : decode cX7_slotOf 92 = .ok (.iload_n 2, 1) := by decide +kernel
theorem dX7_slotOf_93 : decode cX7_slotOf 93 = .ok (.ifCond .ne 7, 3) := by decide +kernel
theorem dX7_slotOf_96 : decode cX7_slotOf 96 = .ok (.iload_n 3, 1) := by decide +kernel
theorem dX7_slotOf_97 : decode cX7_slotOf 97 = .ok (.goto 5, 3) := by decide +kernel
theorem dX7_slotOf_100 : decode cX7_slotOf 100 = .ok (.iload 4, 2) := by decide +kernel
theorem dX7_slotOf_102 : decode cX7_slotOf 102 = .ok (.ireturn, 1) := by decide +kernel
set_option maxRecDepth 20000 in
theorem ggX7_until_X7_ofStandby : GoodIn wsX7_until wsX7_ofStandby := goodIn_r _ [7, 1, 20, 21, 22, 23, 24, 25, 26, 27, 28, 29, 30, 31, 32, 33] (by decide +kernel) (by decide +kernel)
set_option maxRecDepth 20000 in
theorem gX7_until_X7_ofStandby : GoodIn wsX7_until (wsV RX7 72 RX7 yX7_ofStandby wsX7_ofStandby) := goodIn_app (goodIn_of _ (by decide +kernel)) ggX7_until_X7_ofStandby
set_option maxRecDepth 20000 in
theorem ggX7_until_X7_goes : GoodIn wsX7_until wsX7_goes := goodIn_r _ [11, 1, 3, 4, 5, 6, 7, 12, 13, 14, 15, 16, 17, 18, 19, 20, 21, 22, 23, 24, 25, 26, 27, 28, 29, 30, 31, 32, 33] (by decide +kernel) (by decide +kernel)
set_option maxRecDepth 20000 in
theorem gX7_until_X7_goes : GoodIn wsX7_until (wsV RX7 86 RX7 yX7_goes wsX7_goes) := goodIn_app (goodIn_of _ (by decide +kernel)) ggX7_until_X7_goes
theorem dX7_until_0 : decode cX7_until 0 = .ok (.aload_n 0, 1) := by decide +kernel
theorem dX7_until_1 : decode cX7_until 1 = .ok (.iload_n 1, 1) := by decide +kernel
theorem dX7_until_2 : decode cX7_until 2 = .ok (.iconst 1, 1) := by decide +kernel
theorem dX7_until_3 : decode cX7_until 3 = .ok (.invokevirtual 72, 3) := by decide +kernel
theorem dX7_until_6 : decode cX7_until 6 = .ok (.istore 5, 2) := by decide +kernel
theorem dX7_until_8 : decode cX7_until 8 = .ok (.iconst 0, 1) := by decide +kernel
theorem dX7_until_9 : decode cX7_until 9 = .ok (.istore 6, 2) := by decide +kernel
theorem dX7_until_11 : decode cX7_until 11 = .ok (.iload 6, 2) := by decide +kernel
theorem dX7_until_13 : decode cX7_until 13 = .ok (.iload 4, 2) := by decide +kernel
theorem dX7_until_15 : decode cX7_until 15 = .ok (.if_icmp .gt 42, 3) := by decide +kernel
theorem dX7_until_18 : decode cX7_until 18 = .ok (.iload 5, 2) := by decide +kernel
theorem dX7_until_20 : decode cX7_until 20 = .ok (.iload_n 2, 1) := by decide +kernel
theorem dX7_until_21 : decode cX7_until 21 = .ok (.if_icmp .lt 6, 3) := by decide +kernel
theorem dX7_until_24 : decode cX7_until 24 = .ok (.iload 6, 2) := by decide +kernel
theorem dX7_until_26 : decode cX7_until 26 = .ok (.ireturn, 1) := by decide +kernel
theorem dX7_until_27 : decode cX7_until 27 = .ok (.iload 5, 2) := by decide +kernel
theorem dX7_until_29 : decode cX7_until 29 = .ok (.aload_n 0, 1) := by decide +kernel
theorem dX7_until_30 : decode cX7_until 30 = .ok (.iload_n 1, 1) := by decide +kernel
theorem dX7_until_31 : decode cX7_until 31 = .ok (.iload 5, 2) := by decide +kernel
theorem dX7_until_33 : decode cX7_until 33 = .ok (.aload_n 0, 1) := by decide +kernel
theorem dX7_until_34 : decode cX7_until 34 = .ok (.getfield 7, 3) := by decide +kernel
theorem dX7_until_37 : decode cX7_until 37 = .ok (.iconst 1, 1) := by decide +kernel
theorem dX7_until_38 : decode cX7_until 38 = .ok (.iaload, 1) := by decide +kernel
theorem dX7_until_39 : decode cX7_until 39 = .ok (.iload 6, 2) := by decide +kernel
theorem dX7_until_41 : decode cX7_until 41 = .ok (.iadd, 1) := by decide +kernel
theorem dX7_until_42 : decode cX7_until 42 = .ok (.iconst 1, 1) := by decide +kernel
theorem dX7_until_43 : decode cX7_until 43 = .ok (.iadd, 1) := by decide +kernel
theorem dX7_until_44 : decode cX7_until 44 = .ok (.iload_n 3, 1) := by decide +kernel
theorem dX7_until_45 : decode cX7_until 45 = .ok (.invokevirtual 86, 3) := by decide +kernel
theorem dX7_until_48 : decode cX7_until 48 = .ok (.iadd, 1) := by decide +kernel
theorem dX7_until_49 : decode cX7_until 49 = .ok (.istore 5, 2) := by decide +kernel
theorem dX7_until_51 : decode cX7_until 51 = .ok (.iinc 6 1, 3) := by decide +kernel
theorem dX7_until_54 : decode cX7_until 54 = .ok (.goto (-43), 3) := by decide +kernel
theorem dX7_until_57 : decode cX7_until 57 = .ok (.ldc 58, 2) := by decide +kernel
theorem dX7_until_59 : decode cX7_until 59 = .ok (.ireturn, 1) := by decide +kernel
set_option maxRecDepth 20000 in
theorem ggX7_waits_X7_isStandby : GoodIn wsX7_waits wsX7_isStandby := goodIn_r _ [7, 8, 9, 6, 10] (by decide +kernel) (by decide +kernel)
set_option maxRecDepth 20000 in
theorem gX7_waits_X7_isStandby : GoodIn wsX7_waits (va_wsS RX7 69 yX7_isStandby wsX7_isStandby) := goodIn_app (goodIn_of _ (by decide +kernel)) ggX7_waits_X7_isStandby
set_option maxRecDepth 20000 in
theorem ggX7_waits_X7_isFence : GoodIn wsX7_waits wsX7_isFence := goodIn_r _ [14, 3, 8, 9, 6, 10, 36, 37, 38, 39, 40, 41, 42, 43, 44, 45, 46, 47, 48, 49] (by decide +kernel) (by decide +kernel)
set_option maxRecDepth 20000 in
theorem gX7_waits_X7_isFence : GoodIn wsX7_waits (wsV RX7 99 RX7 yX7_isFence wsX7_isFence) := goodIn_app (goodIn_of _ (by decide +kernel)) ggX7_waits_X7_isFence
set_option maxRecDepth 20000 in
theorem ggX7_waits_X7_ofStandby : GoodIn wsX7_waits wsX7_ofStandby := goodIn_r _ [18, 3, 36, 37, 38, 39, 40, 41, 42, 43, 44, 45, 46, 47, 48, 49] (by decide +kernel) (by decide +kernel)
set_option maxRecDepth 20000 in
theorem gX7_waits_X7_ofStandby : GoodIn wsX7_waits (wsV RX7 72 RX7 yX7_ofStandby wsX7_ofStandby) := goodIn_app (goodIn_of _ (by decide +kernel)) ggX7_waits_X7_ofStandby
set_option maxRecDepth 20000 in
theorem ggX7_waits_X7_until : GoodIn wsX7_waits wsX7_until := goodIn_r _ [22, 3, 23, 15, 16, 17, 6, 18, 24, 25, 26, 27, 28, 29, 30, 31, 32, 33, 34, 35, 36, 37, 38, 39, 40, 41, 42, 43, 44, 45, 46, 47, 48, 49] (by decide +kernel) (by decide +kernel)
set_option maxRecDepth 20000 in
theorem gX7_waits_X7_until : GoodIn wsX7_waits (wsV RX7 114 RX7 yX7_until wsX7_until) := goodIn_app (goodIn_of _ (by decide +kernel)) ggX7_waits_X7_until
theorem dX7_waits_0 : decode cX7_waits 0 = .ok (.iload_n 1, 1) := by decide +kernel
theorem dX7_waits_1 : decode cX7_waits 1 = .ok (.invokestatic 69, 3) := by decide +kernel
theorem dX7_waits_4 : decode cX7_waits 4 = .ok (.ifCond .eq 11, 3) := by decide +kernel
theorem dX7_waits_7 : decode cX7_waits 7 = .ok (.aload_n 0, 1) := by decide +kernel
theorem dX7_waits_8 : decode cX7_waits 8 = .ok (.iload_n 2, 1) := by decide +kernel
theorem dX7_waits_9 : decode cX7_waits 9 = .ok (.invokevirtual 99, 3) := by decide +kernel
theorem dX7_waits_12 : decode cX7_waits 12 = .ok (.ifCond .ne 6, 3) := by decide +kernel
theorem dX7_waits_15 : decode cX7_waits 15 = .ok (.ldc 41, 2) := by decide +kernel
theorem dX7_waits_17 : decode cX7_waits 17 = .ok (.ireturn, 1) := by decide +kernel
theorem dX7_waits_18 : decode cX7_waits 18 = .ok (.aload_n 0, 1) := by decide +kernel
theorem dX7_waits_19 : decode cX7_waits 19 = .ok (.iload_n 1, 1) := by decide +kernel
theorem dX7_waits_20 : decode cX7_waits 20 = .ok (.iconst 2, 1) := by decide +kernel
theorem dX7_waits_21 : decode cX7_waits 21 = .ok (.invokevirtual 72, 3) := by decide +kernel
theorem dX7_waits_24 : decode cX7_waits 24 = .ok (.iconst 1, 1) := by decide +kernel
theorem dX7_waits_25 : decode cX7_waits 25 = .ok (.if_icmp .ne 8, 3) := by decide +kernel
theorem dX7_waits_28 : decode cX7_waits 28 = .ok (.ldc 42, 2) := by decide +kernel
theorem dX7_waits_30 : decode cX7_waits 30 = .ok (.goto 19, 3) := by decide +kernel
theorem dX7_waits_33 : decode cX7_waits 33 = .ok (.aload_n 0, 1) := by decide +kernel
theorem dX7_waits_34 : decode cX7_waits 34 = .ok (.iload_n 1, 1) := by decide +kernel
theorem dX7_waits_35 : decode cX7_waits 35 = .ok (.iload_n 2, 1) := by decide +kernel
theorem dX7_waits_36 : decode cX7_waits 36 = .ok (.aload_n 0, 1) := by decide +kernel
theorem dX7_waits_37 : decode cX7_waits 37 = .ok (.getfield 7, 3) := by decide +kernel
theorem dX7_waits_40 : decode cX7_waits 40 = .ok (.bipush 7, 2) := by decide +kernel
theorem dX7_waits_42 : decode cX7_waits 42 = .ok (.iaload, 1) := by decide +kernel
theorem dX7_waits_43 : decode cX7_waits 43 = .ok (.sipush 200, 3) := by decide +kernel
theorem dX7_waits_46 : decode cX7_waits 46 = .ok (.invokevirtual 114, 3) := by decide +kernel
theorem dX7_waits_49 : decode cX7_waits 49 = .ok (.ireturn, 1) := by decide +kernel
set_option maxRecDepth 20000 in
theorem ggX7_wouldLose_X7_isStandby : GoodIn wsX7_wouldLose wsX7_isStandby := goodIn_r _ [6, 7, 8, 5, 9] (by decide +kernel) (by decide +kernel)
set_option maxRecDepth 20000 in
theorem gX7_wouldLose_X7_isStandby : GoodIn wsX7_wouldLose (va_wsS RX7 69 yX7_isStandby wsX7_isStandby) := goodIn_app (goodIn_of _ (by decide +kernel)) ggX7_wouldLose_X7_isStandby
set_option maxRecDepth 20000 in
theorem ggX7_wouldLose_X7_ofStandby : GoodIn wsX7_wouldLose wsX7_ofStandby := goodIn_r _ [13, 14, 27, 28, 29, 30, 31, 32, 33, 34, 35, 36, 37, 38, 39, 40] (by decide +kernel) (by decide +kernel)
set_option maxRecDepth 20000 in
theorem gX7_wouldLose_X7_ofStandby : GoodIn wsX7_wouldLose (wsV RX7 72 RX7 yX7_ofStandby wsX7_ofStandby) := goodIn_app (goodIn_of _ (by decide +kernel)) ggX7_wouldLose_X7_ofStandby
set_option maxRecDepth 20000 in
theorem ggX7_wouldLose_X7_wouldBeLost : GoodIn wsX7_wouldLose wsX7_wouldBeLost := goodIn_r _ [18, 14, 10, 11, 12, 5, 13, 19, 20, 21, 22, 23, 24, 25, 26, 27, 28, 29, 30, 31, 32, 33, 34, 35, 36, 37, 38, 39, 40] (by decide +kernel) (by decide +kernel)
set_option maxRecDepth 20000 in
theorem gX7_wouldLose_X7_wouldBeLost : GoodIn wsX7_wouldLose (wsV RX7 92 RX7 yX7_wouldBeLost wsX7_wouldBeLost) := goodIn_app (goodIn_of _ (by decide +kernel)) ggX7_wouldLose_X7_wouldBeLost
theorem dX7_wouldLose_0 : decode cX7_wouldLose 0 = .ok (.iload_n 1, 1) := by decide +kernel
theorem dX7_wouldLose_1 : decode cX7_wouldLose 1 = .ok (.invokestatic 69, 3) := by decide +kernel
theorem dX7_wouldLose_4 : decode cX7_wouldLose 4 = .ok (.ifCond .ne 6, 3) := by decide +kernel
theorem dX7_wouldLose_7 : decode cX7_wouldLose 7 = .ok (.ldc 41, 2) := by decide +kernel
theorem dX7_wouldLose_9 : decode cX7_wouldLose 9 = .ok (.ireturn, 1) := by decide +kernel
theorem dX7_wouldLose_10 : decode cX7_wouldLose 10 = .ok (.aload_n 0, 1) := by decide +kernel
theorem dX7_wouldLose_11 : decode cX7_wouldLose 11 = .ok (.iload_n 1, 1) := by decide +kernel
theorem dX7_wouldLose_12 : decode cX7_wouldLose 12 = .ok (.iconst 2, 1) := by decide +kernel
theorem dX7_wouldLose_13 : decode cX7_wouldLose 13 = .ok (.invokevirtual 72, 3) := by decide +kernel
theorem dX7_wouldLose_16 : decode cX7_wouldLose 16 = .ok (.iconst 1, 1) := by decide +kernel
theorem dX7_wouldLose_17 : decode cX7_wouldLose 17 = .ok (.if_icmp .ne 8, 3) := by decide +kernel
theorem dX7_wouldLose_20 : decode cX7_wouldLose 20 = .ok (.ldc 42, 2) := by decide +kernel
theorem dX7_wouldLose_22 : decode cX7_wouldLose 22 = .ok (.goto 8, 3) := by decide +kernel
theorem dX7_wouldLose_25 : decode cX7_wouldLose 25 = .ok (.aload_n 0, 1) := by decide +kernel
theorem dX7_wouldLose_26 : decode cX7_wouldLose 26 = .ok (.iload_n 1, 1) := by decide +kernel
theorem dX7_wouldLose_27 : decode cX7_wouldLose 27 = .ok (.invokevirtual 92, 3) := by decide +kernel
theorem dX7_wouldLose_30 : decode cX7_wouldLose 30 = .ok (.ireturn, 1) := by decide +kernel
set_option maxRecDepth 20000 in
theorem ggX7_rateFor_X7_isStandby : GoodIn wsX7_rateFor wsX7_isStandby := goodIn_r _ [7, 8, 9, 6, 10] (by decide +kernel) (by decide +kernel)
set_option maxRecDepth 20000 in
theorem gX7_rateFor_X7_isStandby : GoodIn wsX7_rateFor (va_wsS RX7 69 yX7_isStandby wsX7_isStandby) := goodIn_app (goodIn_of _ (by decide +kernel)) ggX7_rateFor_X7_isStandby
set_option maxRecDepth 20000 in
theorem ggX7_rateFor_X7_in : GoodIn wsX7_rateFor wsX7_in := goodIn_r _ [10] (by decide +kernel) (by decide +kernel)
set_option maxRecDepth 20000 in
theorem gX7_rateFor_X7_in : GoodIn wsX7_rateFor (va_wsS RX7 33 yX7_in wsX7_in) := goodIn_app (goodIn_of _ (by decide +kernel)) ggX7_rateFor_X7_in
set_option maxRecDepth 20000 in
theorem ggX7_rateFor_X7_ofStandby : GoodIn wsX7_rateFor wsX7_ofStandby := goodIn_r _ [14, 15, 36, 37, 38, 39, 40, 41, 42, 43, 44, 45, 46, 47, 48, 49] (by decide +kernel) (by decide +kernel)
set_option maxRecDepth 20000 in
theorem gX7_rateFor_X7_ofStandby : GoodIn wsX7_rateFor (wsV RX7 72 RX7 yX7_ofStandby wsX7_ofStandby) := goodIn_app (goodIn_of _ (by decide +kernel)) ggX7_rateFor_X7_ofStandby
set_option maxRecDepth 20000 in
theorem ggX7_rateFor_X7_lowestGap : GoodIn wsX7_rateFor wsX7_lowestGap := goodIn_r _ [19, 3, 20, 21, 22, 6, 23, 15, 36, 37, 38, 39, 40, 41, 42, 43, 44, 45, 46, 47, 48, 49] (by decide +kernel) (by decide +kernel)
set_option maxRecDepth 20000 in
theorem gX7_rateFor_X7_lowestGap : GoodIn wsX7_rateFor (wsV RX7 108 RX7 yX7_lowestGap wsX7_lowestGap) := goodIn_app (goodIn_of _ (by decide +kernel)) ggX7_rateFor_X7_lowestGap
set_option maxRecDepth 20000 in
theorem ggX7_rateFor_X7_until : GoodIn wsX7_rateFor wsX7_until := goodIn_r _ [27, 15, 3, 11, 12, 13, 6, 14, 28, 29, 30, 31, 20, 21, 22, 23, 32, 33, 34, 35, 36, 37, 38, 39, 40, 41, 42, 43, 44, 45, 46, 47, 48, 49] (by decide +kernel) (by decide +kernel)
set_option maxRecDepth 20000 in
theorem gX7_rateFor_X7_until : GoodIn wsX7_rateFor (wsV RX7 114 RX7 yX7_until wsX7_until) := goodIn_app (goodIn_of _ (by decide +kernel)) ggX7_rateFor_X7_until
theorem dX7_rateFor_0 : decode cX7_rateFor 0 = .ok (.iload_n 1, 1) := by decide +kernel
theorem dX7_rateFor_1 : decode cX7_rateFor 1 = .ok (.invokestatic 69, 3) := by decide +kernel
theorem dX7_rateFor_4 : decode cX7_rateFor 4 = .ok (.ifCond .eq 13, 3) := by decide +kernel
theorem dX7_rateFor_7 : decode cX7_rateFor 7 = .ok (.iload_n 2, 1) := by decide +kernel
theorem dX7_rateFor_8 : decode cX7_rateFor 8 = .ok (.iconst 1, 1) := by decide +kernel
theorem dX7_rateFor_9 : decode cX7_rateFor 9 = .ok (.bipush 99, 2) := by decide +kernel
theorem dX7_rateFor_11 : decode cX7_rateFor 11 = .ok (.invokestatic 33, 3) := by decide +kernel
theorem dX7_rateFor_14 : decode cX7_rateFor 14 = .ok (.ifCond .ne 6, 3) := by decide +kernel
theorem dX7_rateFor_17 : decode cX7_rateFor 17 = .ok (.ldc 41, 2) := by decide +kernel
theorem dX7_rateFor_19 : decode cX7_rateFor 19 = .ok (.ireturn, 1) := by decide +kernel
theorem dX7_rateFor_20 : decode cX7_rateFor 20 = .ok (.aload_n 0, 1) := by decide +kernel
theorem dX7_rateFor_21 : decode cX7_rateFor 21 = .ok (.iload_n 1, 1) := by decide +kernel
theorem dX7_rateFor_22 : decode cX7_rateFor 22 = .ok (.iconst 2, 1) := by decide +kernel
theorem dX7_rateFor_23 : decode cX7_rateFor 23 = .ok (.invokevirtual 72, 3) := by decide +kernel
theorem dX7_rateFor_26 : decode cX7_rateFor 26 = .ok (.iconst 1, 1) := by decide +kernel
theorem dX7_rateFor_27 : decode cX7_rateFor 27 = .ok (.if_icmp .ne 6, 3) := by decide +kernel
theorem dX7_rateFor_30 : decode cX7_rateFor 30 = .ok (.ldc 42, 2) := by decide +kernel
theorem dX7_rateFor_32 : decode cX7_rateFor 32 = .ok (.ireturn, 1) := by decide +kernel
theorem dX7_rateFor_33 : decode cX7_rateFor 33 = .ok (.aload_n 0, 1) := by decide +kernel
theorem dX7_rateFor_34 : decode cX7_rateFor 34 = .ok (.iload_n 1, 1) := by decide +kernel
theorem dX7_rateFor_35 : decode cX7_rateFor 35 = .ok (.invokevirtual 108, 3) := by decide +kernel
theorem dX7_rateFor_38 : decode cX7_rateFor 38 = .ok (.istore_n 3, 1) := by decide +kernel
theorem dX7_rateFor_39 : decode cX7_rateFor 39 = .ok (.iload_n 3, 1) := by decide +kernel
theorem dX7_rateFor_40 : decode cX7_rateFor 40 = .ok (.ifCond .ge 12, 3) := by decide +kernel
theorem dX7_rateFor_43 : decode cX7_rateFor 43 = .ok (.aload_n 0, 1) := by decide +kernel
theorem dX7_rateFor_44 : decode cX7_rateFor 44 = .ok (.iload_n 1, 1) := by decide +kernel
theorem dX7_rateFor_45 : decode cX7_rateFor 45 = .ok (.iconst 0, 1) := by decide +kernel
theorem dX7_rateFor_46 : decode cX7_rateFor 46 = .ok (.invokevirtual 72, 3) := by decide +kernel
theorem dX7_rateFor_49 : decode cX7_rateFor 49 = .ok (.goto 6, 3) := by decide +kernel
theorem dX7_rateFor_52 : decode cX7_rateFor 52 = .ok (.iload_n 3, 1) := by decide +kernel
theorem dX7_rateFor_53 : decode cX7_rateFor 53 = .ok (.iconst 1, 1) := by decide +kernel
theorem dX7_rateFor_54 : decode cX7_rateFor 54 = .ok (.isub, 1) := by decide +kernel
theorem dX7_rateFor_55 : decode cX7_rateFor 55 = .ok (.istore 4, 2) := by decide +kernel
theorem dX7_rateFor_57 : decode cX7_rateFor 57 = .ok (.iconst 1, 1) := by decide +kernel
theorem dX7_rateFor_58 : decode cX7_rateFor 58 = .ok (.istore 5, 2) := by decide +kernel
theorem dX7_rateFor_60 : decode cX7_rateFor 60 = .ok (.iload 5, 2) := by decide +kernel
theorem dX7_rateFor_62 : decode cX7_rateFor 62 = .ok (.bipush 20, 2) := by decide +kernel
theorem dX7_rateFor_64 : decode cX7_rateFor 64 = .ok (.if_icmp .gt 25, 3) := by decide +kernel
theorem dX7_rateFor_67 : decode cX7_rateFor 67 = .ok (.aload_n 0, 1) := by decide +kernel
theorem dX7_rateFor_68 : decode cX7_rateFor 68 = .ok (.iload_n 1, 1) := by decide +kernel
theorem dX7_rateFor_69 : decode cX7_rateFor 69 = .ok (.iload 4, 2) := by decide +kernel
theorem dX7_rateFor_71 : decode cX7_rateFor 71 = .ok (.iload 5, 2) := by decide +kernel
theorem dX7_rateFor_73 : decode cX7_rateFor 73 = .ok (.iload_n 2, 1) := by decide +kernel
theorem dX7_rateFor_74 : decode cX7_rateFor 74 = .ok (.invokevirtual 114, 3) := by decide +kernel
theorem dX7_rateFor_77 : decode cX7_rateFor 77 = .ok (.ifCond .lt 6, 3) := by decide +kernel
theorem dX7_rateFor_80 : decode cX7_rateFor 80 = .ok (.iload 5, 2) := by decide +kernel
theorem dX7_rateFor_82 : decode cX7_rateFor 82 = .ok (.ireturn, 1) := by decide +kernel
theorem dX7_rateFor_83 : decode cX7_rateFor 83 = .ok (.iinc 5 1, 3) := by decide +kernel
theorem dX7_rateFor_86 : decode cX7_rateFor 86 = .ok (.goto (-26), 3) := by decide +kernel
theorem dX7_rateFor_89 : decode cX7_rateFor 89 = .ok (.ldc 58, 2) := by decide +kernel
theorem dX7_rateFor_91 : decode cX7_rateFor 91 = .ok (.ireturn, 1) := by decide +kernel
set_option maxRecDepth 20000 in
theorem ggX7_count_X7_commits : GoodIn wsX7_count wsX7_commits := goodIn_r _ [9, 10, 11, 12, 8, 13, 1, 14, 15, 16, 17, 18, 19, 20, 21, 22, 23, 24, 25, 26, 27] (by decide +kernel) (by decide +kernel)
set_option maxRecDepth 20000 in
theorem gX7_count_X7_commits : GoodIn wsX7_count (wsV RX7 89 RX7 yX7_commits wsX7_commits) := goodIn_app (goodIn_of _ (by decide +kernel)) ggX7_count_X7_commits
theorem dX7_count_0 : decode cX7_count 0 = .ok (.iload_n 1, 1) := by decide +kernel
theorem dX7_count_1 : decode cX7_count 1 = .ok (.tableswitch 156 0 21 #[103, 103, 103, 103, 110, 122, 122, 122, 133, 138, 156, 156, 156, 156, 156, 156, 156, 156, 156, 156, 143, 143], 103) := by decide +kernel
theorem dX7_count_104 : decode cX7_count 104 = .ok (.aload_n 0, 1) := by decide +kernel
theorem dX7_count_105 : decode cX7_count 105 = .ok (.getfield 7, 3) := by decide +kernel
theorem dX7_count_108 : decode cX7_count 108 = .ok (.iload_n 1, 1) := by decide +kernel
theorem dX7_count_109 : decode cX7_count 109 = .ok (.iaload, 1) := by decide +kernel
theorem dX7_count_110 : decode cX7_count 110 = .ok (.ireturn, 1) := by decide +kernel
theorem dX7_count_111 : decode cX7_count 111 = .ok (.aload_n 0, 1) := by decide +kernel
theorem dX7_count_112 : decode cX7_count 112 = .ok (.iconst 1, 1) := by decide +kernel
theorem dX7_count_113 : decode cX7_count 113 = .ok (.aload_n 0, 1) := by decide +kernel
theorem dX7_count_114 : decode cX7_count 114 = .ok (.getfield 7, 3) := by decide +kernel
theorem dX7_count_117 : decode cX7_count 117 = .ok (.iconst 0, 1) := by decide +kernel
theorem dX7_count_118 : decode cX7_count 118 = .ok (.iaload, 1) := by decide +kernel
theorem dX7_count_119 : decode cX7_count 119 = .ok (.invokevirtual 89, 3) := by decide +kernel
theorem dX7_count_122 : decode cX7_count 122 = .ok (.ireturn, 1) := by decide +kernel
theorem dX7_count_123 : decode cX7_count 123 = .ok (.aload_n 0, 1) := by decide +kernel
theorem dX7_count_124 : decode cX7_count 124 = .ok (.getfield 7, 3) := by decide +kernel
theorem dX7_count_127 : decode cX7_count 127 = .ok (.iconst 4, 1) := by decide +kernel
theorem dX7_count_128 : decode cX7_count 128 = .ok (.iload_n 1, 1) := by decide +kernel
theorem dX7_count_129 : decode cX7_count 129 = .ok (.iadd, 1) := by decide +kernel
theorem dX7_count_130 : decode cX7_count 130 = .ok (.iconst 5, 1) := by decide +kernel
theorem dX7_count_131 : decode cX7_count 131 = .ok (.isub, 1) := by decide +kernel
theorem dX7_count_132 : decode cX7_count 132 = .ok (.iaload, 1) := by decide +kernel
theorem dX7_count_133 : decode cX7_count 133 = .ok (.ireturn, 1) := by decide +kernel
theorem dX7_count_134 : decode cX7_count 134 = .ok (.aload_n 0, 1) := by decide +kernel
theorem dX7_count_135 : decode cX7_count 135 = .ok (.getfield 29, 3) := by decide +kernel
theorem dX7_count_138 : decode cX7_count 138 = .ok (.ireturn, 1) := by decide +kernel
theorem dX7_count_139 : decode cX7_count 139 = .ok (.aload_n 0, 1) := by decide +kernel
theorem dX7_count_140 : decode cX7_count 140 = .ok (.getfield 117, 3) := by decide +kernel
theorem dX7_count_143 : decode cX7_count 143 = .ok (.ireturn, 1) := by decide +kernel
theorem dX7_count_144 : decode cX7_count 144 = .ok (.aload_n 0, 1) := by decide +kernel
theorem dX7_count_145 : decode cX7_count 145 = .ok (.getfield 7, 3) := by decide +kernel
theorem dX7_count_148 : decode cX7_count 148 = .ok (.bipush 7, 2) := by decide +kernel
theorem dX7_count_150 : decode cX7_count 150 = .ok (.iload_n 1, 1) := by decide +kernel
theorem dX7_count_151 : decode cX7_count 151 = .ok (.iadd, 1) := by decide +kernel
theorem dX7_count_152 : decode cX7_count 152 = .ok (.bipush 20, 2) := by decide +kernel
theorem dX7_count_154 : decode cX7_count 154 = .ok (.isub, 1) := by decide +kernel
theorem dX7_count_155 : decode cX7_count 155 = .ok (.iaload, 1) := by decide +kernel
theorem dX7_count_156 : decode cX7_count 156 = .ok (.ireturn, 1) := by decide +kernel
theorem dX7_count_157 : decode cX7_count 157 = .ok (.ldc 41, 2) := by decide +kernel
theorem dX7_count_159 : decode cX7_count 159 = .ok (.ireturn, 1) := by decide +kernel
theorem dX7_undo_0 : decode cX7_undo 0 = .ok (.aload_n 0, 1) := by decide +kernel
theorem dX7_undo_1 : decode cX7_undo 1 = .ok (.getfield 29, 3) := by decide +kernel
theorem dX7_undo_4 : decode cX7_undo 4 = .ok (.ifCond .ne 6, 3) := by decide +kernel
theorem dX7_undo_7 : decode cX7_undo 7 = .ok (.ldc 42, 2) := by decide +kernel
theorem dX7_undo_9 : decode cX7_undo 9 = .ok (.ireturn, 1) := by decide +kernel
theorem dX7_undo_10 : decode cX7_undo 10 = .ok (.aload_n 0, 1) := by decide +kernel
theorem dX7_undo_11 : decode cX7_undo 11 = .ok (.dup, 1) := by decide +kernel
theorem dX7_undo_12 : decode cX7_undo 12 = .ok (.getfield 29, 3) := by decide +kernel
