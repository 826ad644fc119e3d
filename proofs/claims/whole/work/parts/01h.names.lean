theorem dX7_undo_15 : decode cX7_undo 15 = .ok (.iconst 1, 1) := by decide +kernel
theorem dX7_undo_16 : decode cX7_undo 16 = .ok (.isub, 1) := by decide +kernel
theorem dX7_undo_17 : decode cX7_undo 17 = .ok (.putfield 29, 3) := by decide +kernel
theorem dX7_undo_20 : decode cX7_undo 20 = .ok (.iconst 0, 1) := by decide +kernel
theorem dX7_undo_21 : decode cX7_undo 21 = .ok (.istore_n 1, 1) := by decide +kernel
theorem dX7_undo_22 : decode cX7_undo 22 = .ok (.iload_n 1, 1) := by decide +kernel
theorem dX7_undo_23 : decode cX7_undo 23 = .ok (.sipush 718, 3) := by decide +kernel
theorem dX7_undo_26 : decode cX7_undo 26 = .ok (.if_icmp .ge 30, 3) := by decide +kernel
theorem dX7_undo_29 : decode cX7_undo 29 = .ok (.aload_n 0, 1) := by decide +kernel
theorem dX7_undo_30 : decode cX7_undo 30 = .ok (.getfield 7, 3) := by decide +kernel
theorem dX7_undo_33 : decode cX7_undo 33 = .ok (.iload_n 1, 1) := by decide +kernel
theorem dX7_undo_34 : decode cX7_undo 34 = .ok (.aload_n 0, 1) := by decide +kernel
theorem dX7_undo_35 : decode cX7_undo 35 = .ok (.getfield 13, 3) := by decide +kernel
theorem dX7_undo_38 : decode cX7_undo 38 = .ok (.sipush 718, 3) := by decide +kernel
theorem dX7_undo_41 : decode cX7_undo 41 = .ok (.aload_n 0, 1) := by decide +kernel
theorem dX7_undo_42 : decode cX7_undo 42 = .ok (.getfield 29, 3) := by decide +kernel
theorem dX7_undo_45 : decode cX7_undo 45 = .ok (.imul, 1) := by decide +kernel
theorem dX7_undo_46 : decode cX7_undo 46 = .ok (.iload_n 1, 1) := by decide +kernel
theorem dX7_undo_47 : decode cX7_undo 47 = .ok (.iadd, 1) := by decide +kernel
theorem dX7_undo_48 : decode cX7_undo 48 = .ok (.iaload, 1) := by decide +kernel
theorem dX7_undo_49 : decode cX7_undo 49 = .ok (.iastore, 1) := by decide +kernel
theorem dX7_undo_50 : decode cX7_undo 50 = .ok (.iinc 1 1, 3) := by decide +kernel
theorem dX7_undo_53 : decode cX7_undo 53 = .ok (.goto (-31), 3) := by decide +kernel
theorem dX7_undo_56 : decode cX7_undo 56 = .ok (.aload_n 0, 1) := by decide +kernel
theorem dX7_undo_57 : decode cX7_undo 57 = .ok (.getfield 29, 3) := by decide +kernel
theorem dX7_undo_60 : decode cX7_undo 60 = .ok (.ireturn, 1) := by decide +kernel
set_option maxRecDepth 20000 in
theorem ggX7_type_X7_in : GoodIn wsX7_type wsX7_in := goodIn_r _ [8] (by decide +kernel) (by decide +kernel)
set_option maxRecDepth 20000 in
theorem gX7_type_X7_in : GoodIn wsX7_type (va_wsS RX7 33 yX7_in wsX7_in) := goodIn_app (goodIn_of _ (by decide +kernel)) ggX7_type_X7_in
theorem dX7_type_0 : decode cX7_type 0 = .ok (.iload_n 1, 1) := by decide +kernel
theorem dX7_type_1 : decode cX7_type 1 = .ok (.bipush 32, 2) := by decide +kernel
theorem dX7_type_3 : decode cX7_type 3 = .ok (.bipush 126, 2) := by decide +kernel
theorem dX7_type_5 : decode cX7_type 5 = .ok (.invokestatic 33, 3) := by decide +kernel
theorem dX7_type_8 : decode cX7_type 8 = .ok (.ifCond .ne 6, 3) := by decide +kernel
theorem dX7_type_11 : decode cX7_type 11 = .ok (.ldc 41, 2) := by decide +kernel
theorem dX7_type_13 : decode cX7_type 13 = .ok (.ireturn, 1) := by decide +kernel
theorem dX7_type_14 : decode cX7_type 14 = .ok (.aload_n 0, 1) := by decide +kernel
theorem dX7_type_15 : decode cX7_type 15 = .ok (.getfield 117, 3) := by decide +kernel
theorem dX7_type_18 : decode cX7_type 18 = .ok (.bipush 60, 2) := by decide +kernel
theorem dX7_type_20 : decode cX7_type 20 = .ok (.if_icmp .ne 6, 3) := by decide +kernel
theorem dX7_type_23 : decode cX7_type 23 = .ok (.ldc 46, 2) := by decide +kernel
theorem dX7_type_25 : decode cX7_type 25 = .ok (.ireturn, 1) := by decide +kernel
theorem dX7_type_26 : decode cX7_type 26 = .ok (.aload_n 0, 1) := by decide +kernel
theorem dX7_type_27 : decode cX7_type 27 = .ok (.getfield 19, 3) := by decide +kernel
theorem dX7_type_30 : decode cX7_type 30 = .ok (.aload_n 0, 1) := by decide +kernel
theorem dX7_type_31 : decode cX7_type 31 = .ok (.getfield 117, 3) := by decide +kernel
theorem dX7_type_34 : decode cX7_type 34 = .ok (.iload_n 1, 1) := by decide +kernel
theorem dX7_type_35 : decode cX7_type 35 = .ok (.iastore, 1) := by decide +kernel
theorem dX7_type_36 : decode cX7_type 36 = .ok (.aload_n 0, 1) := by decide +kernel
theorem dX7_type_37 : decode cX7_type 37 = .ok (.dup, 1) := by decide +kernel
theorem dX7_type_38 : decode cX7_type 38 = .ok (.getfield 117, 3) := by decide +kernel
theorem dX7_type_41 : decode cX7_type 41 = .ok (.iconst 1, 1) := by decide +kernel
theorem dX7_type_42 : decode cX7_type 42 = .ok (.iadd, 1) := by decide +kernel
theorem dX7_type_43 : decode cX7_type 43 = .ok (.putfield 117, 3) := by decide +kernel
theorem dX7_type_46 : decode cX7_type 46 = .ok (.aload_n 0, 1) := by decide +kernel
theorem dX7_type_47 : decode cX7_type 47 = .ok (.getfield 117, 3) := by decide +kernel
theorem dX7_type_50 : decode cX7_type 50 = .ok (.ireturn, 1) := by decide +kernel
theorem dX7_clearText_0 : decode cX7_clearText 0 = .ok (.aload_n 0, 1) := by decide +kernel
theorem dX7_clearText_1 : decode cX7_clearText 1 = .ok (.getfield 117, 3) := by decide +kernel
theorem dX7_clearText_4 : decode cX7_clearText 4 = .ok (.istore_n 1, 1) := by decide +kernel
theorem dX7_clearText_5 : decode cX7_clearText 5 = .ok (.aload_n 0, 1) := by decide +kernel
theorem dX7_clearText_6 : decode cX7_clearText 6 = .ok (.iconst 0, 1) := by decide +kernel
theorem dX7_clearText_7 : decode cX7_clearText 7 = .ok (.putfield 117, 3) := by decide +kernel
theorem dX7_clearText_10 : decode cX7_clearText 10 = .ok (.iload_n 1, 1) := by decide +kernel
theorem dX7_clearText_11 : decode cX7_clearText 11 = .ok (.ireturn, 1) := by decide +kernel
set_option maxRecDepth 20000 in
theorem ggX7_isAt_X7_in : GoodIn wsX7_isAt wsX7_in := goodIn_r _ [7] (by decide +kernel) (by decide +kernel)
set_option maxRecDepth 20000 in
theorem gX7_isAt_X7_in : GoodIn wsX7_isAt (va_wsS RX7 33 yX7_in wsX7_in) := goodIn_app (goodIn_of _ (by decide +kernel)) ggX7_isAt_X7_in
theorem dX7_isAt_0 : decode cX7_isAt 0 = .ok (.aload_n 0, 1) := by decide +kernel
theorem dX7_isAt_1 : decode cX7_isAt 1 = .ok (.getfield 120, 3) := by decide +kernel
theorem dX7_isAt_4 : decode cX7_isAt 4 = .ok (.aload_n 0, 1) := by decide +kernel
theorem dX7_isAt_5 : decode cX7_isAt 5 = .ok (.getfield 117, 3) := by decide +kernel
theorem dX7_isAt_8 : decode cX7_isAt 8 = .ok (.if_icmp .ge 24, 3) := by decide +kernel
theorem dX7_isAt_11 : decode cX7_isAt 11 = .ok (.aload_n 0, 1) := by decide +kernel
theorem dX7_isAt_12 : decode cX7_isAt 12 = .ok (.getfield 19, 3) := by decide +kernel
theorem dX7_isAt_15 : decode cX7_isAt 15 = .ok (.aload_n 0, 1) := by decide +kernel
theorem dX7_isAt_16 : decode cX7_isAt 16 = .ok (.getfield 120, 3) := by decide +kernel
theorem dX7_isAt_19 : decode cX7_isAt 19 = .ok (.iaload, 1) := by decide +kernel
theorem dX7_isAt_20 : decode cX7_isAt 20 = .ok (.iload_n 1, 1) := by decide +kernel
theorem dX7_isAt_21 : decode cX7_isAt 21 = .ok (.iload_n 2, 1) := by decide +kernel
theorem dX7_isAt_22 : decode cX7_isAt 22 = .ok (.invokestatic 33, 3) := by decide +kernel
theorem dX7_isAt_25 : decode cX7_isAt 25 = .ok (.ifCond .eq 7, 3) := by decide +kernel
theorem dX7_isAt_28 : decode cX7_isAt 28 = .ok (.iconst 1, 1) := by decide +kernel
theorem dX7_isAt_29 : decode cX7_isAt 29 = .ok (.goto 4, 3) := by decide +kernel
theorem dX7_isAt_32 : decode cX7_isAt 32 = .ok (.iconst 0, 1) := by decide +kernel
theorem dX7_isAt_33 : decode cX7_isAt 33 = .ok (.ireturn, 1) := by decide +kernel
set_option maxRecDepth 20000 in
theorem ggX7_sign_X7_isAt : GoodIn wsX7_sign wsX7_isAt := goodIn_r _ [6, 1, 7, 8, 9, 10, 5, 11, 12, 13, 14, 15, 16, 17, 18, 19, 20, 21, 22, 23, 24, 25] (by decide +kernel) (by decide +kernel)
set_option maxRecDepth 20000 in
theorem gX7_sign_X7_isAt : GoodIn wsX7_sign (wsV RX7 123 RX7 yX7_isAt wsX7_isAt) := goodIn_app (goodIn_of _ (by decide +kernel)) ggX7_sign_X7_isAt
theorem dX7_sign_0 : decode cX7_sign 0 = .ok (.aload_n 0, 1) := by decide +kernel
theorem dX7_sign_1 : decode cX7_sign 1 = .ok (.iload_n 1, 1) := by decide +kernel
theorem dX7_sign_2 : decode cX7_sign 2 = .ok (.iload_n 1, 1) := by decide +kernel
theorem dX7_sign_3 : decode cX7_sign 3 = .ok (.invokevirtual 123, 3) := by decide +kernel
theorem dX7_sign_6 : decode cX7_sign 6 = .ok (.istore_n 2, 1) := by decide +kernel
theorem dX7_sign_7 : decode cX7_sign 7 = .ok (.aload_n 0, 1) := by decide +kernel
theorem dX7_sign_8 : decode cX7_sign 8 = .ok (.dup, 1) := by decide +kernel
theorem dX7_sign_9 : decode cX7_sign 9 = .ok (.getfield 120, 3) := by decide +kernel
theorem dX7_sign_12 : decode cX7_sign 12 = .ok (.iload_n 2, 1) := by decide +kernel
theorem dX7_sign_13 : decode cX7_sign 13 = .ok (.ifCond .eq 7, 3) := by decide +kernel
theorem dX7_sign_16 : decode cX7_sign 16 = .ok (.iconst 1, 1) := by decide +kernel
theorem dX7_sign_17 : decode cX7_sign 17 = .ok (.goto 4, 3) := by decide +kernel
theorem dX7_sign_20 : decode cX7_sign 20 = .ok (.iconst 0, 1) := by decide +kernel
theorem dX7_sign_21 : decode cX7_sign 21 = .ok (.iadd, 1) := by decide +kernel
theorem dX7_sign_22 : decode cX7_sign 22 = .ok (.putfield 120, 3) := by decide +kernel
theorem dX7_sign_25 : decode cX7_sign 25 = .ok (.iload_n 2, 1) := by decide +kernel
theorem dX7_sign_26 : decode cX7_sign 26 = .ok (.ireturn, 1) := by decide +kernel
set_option maxRecDepth 20000 in
theorem ggX7_number_X7_isAt : GoodIn wsX7_number wsX7_isAt := goodIn_r _ [8, 1, 9, 3, 10, 11, 7, 12, 13, 14, 15, 16, 17, 18, 19, 20, 21, 22, 23, 24, 25, 26] (by decide +kernel) (by decide +kernel)
set_option maxRecDepth 20000 in
theorem gX7_number_X7_isAt : GoodIn wsX7_number (wsV RX7 123 RX7 yX7_isAt wsX7_isAt) := goodIn_app (goodIn_of _ (by decide +kernel)) ggX7_number_X7_isAt
theorem dX7_number_0 : decode cX7_number 0 = .ok (.aload_n 0, 1) := by decide +kernel
theorem dX7_number_1 : decode cX7_number 1 = .ok (.getfield 120, 3) := by decide +kernel
theorem dX7_number_4 : decode cX7_number 4 = .ok (.istore_n 2, 1) := by decide +kernel
theorem dX7_number_5 : decode cX7_number 5 = .ok (.aload_n 0, 1) := by decide +kernel
theorem dX7_number_6 : decode cX7_number 6 = .ok (.getfield 22, 3) := by decide +kernel
theorem dX7_number_9 : decode cX7_number 9 = .ok (.iload_n 1, 1) := by decide +kernel
theorem dX7_number_10 : decode cX7_number 10 = .ok (.iconst 0, 1) := by decide +kernel
theorem dX7_number_11 : decode cX7_number 11 = .ok (.iastore, 1) := by decide +kernel
theorem dX7_number_12 : decode cX7_number 12 = .ok (.aload_n 0, 1) := by decide +kernel
theorem dX7_number_13 : decode cX7_number 13 = .ok (.bipush 48, 2) := by decide +kernel
theorem dX7_number_15 : decode cX7_number 15 = .ok (.bipush 57, 2) := by decide +kernel
theorem dX7_number_17 : decode cX7_number 17 = .ok (.invokevirtual 123, 3) := by decide +kernel
theorem dX7_number_20 : decode cX7_number 20 = .ok (.ifCond .eq 54, 3) := by decide +kernel
theorem dX7_number_23 : decode cX7_number 23 = .ok (.aload_n 0, 1) := by decide +kernel
theorem dX7_number_24 : decode cX7_number 24 = .ok (.getfield 120, 3) := by decide +kernel
theorem dX7_number_27 : decode cX7_number 27 = .ok (.iload_n 2, 1) := by decide +kernel
theorem dX7_number_28 : decode cX7_number 28 = .ok (.isub, 1) := by decide +kernel
theorem dX7_number_29 : decode cX7_number 29 = .ok (.iconst 3, 1) := by decide +kernel
theorem dX7_number_30 : decode cX7_number 30 = .ok (.if_icmp .ge 44, 3) := by decide +kernel
theorem dX7_number_33 : decode cX7_number 33 = .ok (.aload_n 0, 1) := by decide +kernel
theorem dX7_number_34 : decode cX7_number 34 = .ok (.getfield 22, 3) := by decide +kernel
theorem dX7_number_37 : decode cX7_number 37 = .ok (.iload_n 1, 1) := by decide +kernel
theorem dX7_number_38 : decode cX7_number 38 = .ok (.bipush 10, 2) := by decide +kernel
theorem dX7_number_40 : decode cX7_number 40 = .ok (.aload_n 0, 1) := by decide +kernel
theorem dX7_number_41 : decode cX7_number 41 = .ok (.getfield 22, 3) := by decide +kernel
theorem dX7_number_44 : decode cX7_number 44 = .ok (.iload_n 1, 1) := by decide +kernel
theorem dX7_number_45 : decode cX7_number 45 = .ok (.iaload, 1) := by decide +kernel
theorem dX7_number_46 : decode cX7_number 46 = .ok (.imul, 1) := by decide +kernel
theorem dX7_number_47 : decode cX7_number 47 = .ok (.aload_n 0, 1) := by decide +kernel
theorem dX7_number_48 : decode cX7_number 48 = .ok (.getfield 19, 3) := by decide +kernel
theorem dX7_number_51 : decode cX7_number 51 = .ok (.aload_n 0, 1) := by decide +kernel
theorem dX7_number_52 : decode cX7_number 52 = .ok (.getfield 120, 3) := by decide +kernel
theorem dX7_number_55 : decode cX7_number 55 = .ok (.iaload, 1) := by decide +kernel
theorem dX7_number_56 : decode cX7_number 56 = .ok (.iadd, 1) := by decide +kernel
theorem dX7_number_57 : decode cX7_number 57 = .ok (.bipush 48, 2) := by decide +kernel
theorem dX7_number_59 : decode cX7_number 59 = .ok (.isub, 1) := by decide +kernel
theorem dX7_number_60 : decode cX7_number 60 = .ok (.iastore, 1) := by decide +kernel
theorem dX7_number_61 : decode cX7_number 61 = .ok (.aload_n 0, 1) := by decide +kernel
theorem dX7_number_62 : decode cX7_number 62 = .ok (.dup, 1) := by decide +kernel
theorem dX7_number_63 : decode cX7_number 63 = .ok (.getfield 120, 3) := by decide +kernel
theorem dX7_number_66 : decode cX7_number 66 = .ok (.iconst 1, 1) := by decide +kernel
theorem dX7_number_67 : decode cX7_number 67 = .ok (.iadd, 1) := by decide +kernel
theorem dX7_number_68 : decode cX7_number 68 = .ok (.putfield 120, 3) := by decide +kernel
theorem dX7_number_71 : decode cX7_number 71 = .ok (.goto (-59), 3) := by decide +kernel
theorem dX7_number_74 : decode cX7_number 74 = .ok (.aload_n 0, 1) := by decide +kernel
theorem dX7_number_75 : decode cX7_number 75 = .ok (.getfield 120, 3) := by decide +kernel
theorem dX7_number_78 : decode cX7_number 78 = .ok (.iload_n 2, 1) := by decide +kernel
theorem dX7_number_79 : decode cX7_number 79 = .ok (.if_icmp .le 7, 3) := by decide +kernel
theorem dX7_number_82 : decode cX7_number 82 = .ok (.iconst 1, 1) := by decide +kernel
theorem dX7_number_83 : decode cX7_number 83 = .ok (.goto 4, 3) := by decide +kernel
theorem dX7_number_86 : decode cX7_number 86 = .ok (.iconst 0, 1) := by decide +kernel
theorem dX7_number_87 : decode cX7_number 87 = .ok (.ireturn, 1) := by decide +kernel
set_option maxRecDepth 20000 in
theorem ggX7_reads_X7_isAt : GoodIn wsX7_reads wsX7_isAt := goodIn_r _ [8, 2, 9, 1, 10, 11, 7, 12, 22, 23, 24, 25, 26, 27, 28, 29, 30, 31, 32, 33, 34, 35] (by decide +kernel) (by decide +kernel)
set_option maxRecDepth 20000 in
theorem gX7_reads_X7_isAt : GoodIn wsX7_reads (wsV RX7 123 RX7 yX7_isAt wsX7_isAt) := goodIn_app (goodIn_of _ (by decide +kernel)) ggX7_reads_X7_isAt
set_option maxRecDepth 20000 in
theorem ggX7_reads_X7_number : GoodIn wsX7_reads wsX7_number := goodIn_r _ [16, 2, 17, 1, 4, 5, 6, 7, 8, 9, 10, 11, 12, 22, 23, 24, 25, 26, 27, 28, 29, 30, 31, 32, 33, 34, 35] (by decide +kernel) (by decide +kernel)
set_option maxRecDepth 20000 in
theorem gX7_reads_X7_number : GoodIn wsX7_reads (wsV RX7 129 RX7 yX7_number wsX7_number) := goodIn_app (goodIn_of _ (by decide +kernel)) ggX7_reads_X7_number
set_option maxRecDepth 20000 in
theorem ggX7_reads_X7_sign : GoodIn wsX7_reads wsX7_sign := goodIn_r _ [21, 2, 4, 5, 6, 7, 8, 9, 1, 10, 11, 12, 22, 23, 24, 25, 26, 27, 28, 29, 30, 31, 32, 33, 34, 35] (by decide +kernel) (by decide +kernel)
set_option maxRecDepth 20000 in
theorem gX7_reads_X7_sign : GoodIn wsX7_reads (wsV RX7 132 RX7 yX7_sign wsX7_sign) := goodIn_app (goodIn_of _ (by decide +kernel)) ggX7_reads_X7_sign
theorem dX7_reads_0 : decode cX7_reads 0 = .ok (.aload_n 0, 1) := by decide +kernel
theorem dX7_reads_1 : decode cX7_reads 1 = .ok (.aload_n 0, 1) := by decide +kernel
theorem dX7_reads_2 : decode cX7_reads 2 = .ok (.bipush 33, 2) := by decide +kernel
theorem dX7_reads_4 : decode cX7_reads 4 = .ok (.bipush 126, 2) := by decide +kernel
theorem dX7_reads_6 : decode cX7_reads 6 = .ok (.invokevirtual 123, 3) := by decide +kernel
theorem dX7_reads_9 : decode cX7_reads 9 = .ok (.ifCond .eq 15, 3) := by decide +kernel
theorem dX7_reads_12 : decode cX7_reads 12 = .ok (.aload_n 0, 1) := by decide +kernel
theorem dX7_reads_13 : decode cX7_reads 13 = .ok (.getfield 19, 3) := by decide +kernel
theorem dX7_reads_16 : decode cX7_reads 16 = .ok (.aload_n 0, 1) := by decide +kernel
theorem dX7_reads_17 : decode cX7_reads 17 = .ok (.getfield 120, 3) := by decide +kernel
theorem dX7_reads_20 : decode cX7_reads 20 = .ok (.iaload, 1) := by decide +kernel
theorem dX7_reads_21 : decode cX7_reads 21 = .ok (.goto 4, 3) := by decide +kernel
theorem dX7_reads_24 : decode cX7_reads 24 = .ok (.iconst 0, 1) := by decide +kernel
theorem dX7_reads_25 : decode cX7_reads 25 = .ok (.putfield 126, 3) := by decide +kernel
theorem dX7_reads_28 : decode cX7_reads 28 = .ok (.aload_n 0, 1) := by decide +kernel
theorem dX7_reads_29 : decode cX7_reads 29 = .ok (.getfield 126, 3) := by decide +kernel
theorem dX7_reads_32 : decode cX7_reads 32 = .ok (.bipush 111, 2) := by decide +kernel
theorem dX7_reads_34 : decode cX7_reads 34 = .ok (.if_icmp .eq 30, 3) := by decide +kernel
theorem dX7_reads_37 : decode cX7_reads 37 = .ok (.aload_n 0, 1) := by decide +kernel
theorem dX7_reads_38 : decode cX7_reads 38 = .ok (.getfield 126, 3) := by decide +kernel
theorem dX7_reads_41 : decode cX7_reads 41 = .ok (.bipush 99, 2) := by decide +kernel
theorem dX7_reads_43 : decode cX7_reads 43 = .ok (.if_icmp .eq 21, 3) := by decide +kernel
theorem dX7_reads_46 : decode cX7_reads 46 = .ok (.aload_n 0, 1) := by decide +kernel
theorem dX7_reads_47 : decode cX7_reads 47 = .ok (.getfield 126, 3) := by decide +kernel
theorem dX7_reads_50 : decode cX7_reads 50 = .ok (.bipush 97, 2) := by decide +kernel
theorem dX7_reads_52 : decode cX7_reads 52 = .ok (.if_icmp .eq 12, 3) := by decide +kernel
theorem dX7_reads_55 : decode cX7_reads 55 = .ok (.aload_n 0, 1) := by decide +kernel
theorem dX7_reads_56 : decode cX7_reads 56 = .ok (.getfield 126, 3) := by decide +kernel
theorem dX7_reads_59 : decode cX7_reads 59 = .ok (.bipush 116, 2) := by decide +kernel
theorem dX7_reads_61 : decode cX7_reads 61 = .ok (.if_icmp .ne 7, 3) := by decide +kernel
theorem dX7_reads_64 : decode cX7_reads 64 = .ok (.iconst 1, 1) := by decide +kernel
theorem dX7_reads_65 : decode cX7_reads 65 = .ok (.goto 4, 3) := by decide +kernel
theorem dX7_reads_68 : decode cX7_reads 68 = .ok (.iconst 0, 1) := by decide +kernel
theorem dX7_reads_69 : decode cX7_reads 69 = .ok (.istore_n 1, 1) := by decide +kernel
theorem dX7_reads_70 : decode cX7_reads 70 = .ok (.iload_n 1, 1) := by decide +kernel
theorem dX7_reads_71 : decode cX7_reads 71 = .ok (.ifCond .ne 23, 3) := by decide +kernel
theorem dX7_reads_74 : decode cX7_reads 74 = .ok (.aload_n 0, 1) := by decide +kernel
theorem dX7_reads_75 : decode cX7_reads 75 = .ok (.getfield 126, 3) := by decide +kernel
theorem dX7_reads_78 : decode cX7_reads 78 = .ok (.bipush 112, 2) := by decide +kernel
theorem dX7_reads_80 : decode cX7_reads 80 = .ok (.if_icmp .eq 14, 3) := by decide +kernel
theorem dX7_reads_83 : decode cX7_reads 83 = .ok (.aload_n 0, 1) := by decide +kernel
theorem dX7_reads_84 : decode cX7_reads 84 = .ok (.getfield 126, 3) := by decide +kernel
theorem dX7_reads_87 : decode cX7_reads 87 = .ok (.bipush 115, 2) := by decide +kernel
theorem dX7_reads_89 : decode cX7_reads 89 = .ok (.if_icmp .eq 5, 3) := by decide +kernel
theorem dX7_reads_92 : decode cX7_reads 92 = .ok (.iconst 0, 1) := by decide +kernel
theorem dX7_reads_93 : decode cX7_reads 93 = .ok (.ireturn, 1) := by decide +kernel
theorem dX7_reads_94 : decode cX7_reads 94 = .ok (.aload_n 0, 1) := by decide +kernel
theorem dX7_reads_95 : decode cX7_reads 95 = .ok (.dup, 1) := by decide +kernel
theorem dX7_reads_96 : decode cX7_reads 96 = .ok (.getfield 120, 3) := by decide +kernel
theorem dX7_reads_99 : decode cX7_reads 99 = .ok (.iconst 1, 1) := by decide +kernel
theorem dX7_reads_100 : decode cX7_reads 100 = .ok (.iadd, 1) := by decide +kernel
theorem dX7_reads_101 : decode cX7_reads 101 = .ok (.putfield 120, 3) := by decide +kernel
theorem dX7_reads_104 : decode cX7_reads 104 = .ok (.aload_n 0, 1) := by decide +kernel
theorem dX7_reads_105 : decode cX7_reads 105 = .ok (.iconst 0, 1) := by decide +kernel
theorem dX7_reads_106 : decode cX7_reads 106 = .ok (.invokevirtual 129, 3) := by decide +kernel
theorem dX7_reads_109 : decode cX7_reads 109 = .ok (.ifCond .eq 28, 3) := by decide +kernel
theorem dX7_reads_112 : decode cX7_reads 112 = .ok (.iload_n 1, 1) := by decide +kernel
theorem dX7_reads_113 : decode cX7_reads 113 = .ok (.ifCond .ne 20, 3) := by decide +kernel
theorem dX7_reads_116 : decode cX7_reads 116 = .ok (.aload_n 0, 1) := by decide +kernel
theorem dX7_reads_117 : decode cX7_reads 117 = .ok (.bipush 44, 2) := by decide +kernel
theorem dX7_reads_119 : decode cX7_reads 119 = .ok (.invokevirtual 132, 3) := by decide +kernel
theorem dX7_reads_122 : decode cX7_reads 122 = .ok (.ifCond .eq 15, 3) := by decide +kernel
theorem dX7_reads_125 : decode cX7_reads 125 = .ok (.aload_n 0, 1) := by decide +kernel
theorem dX7_reads_126 : decode cX7_reads 126 = .ok (.iconst 1, 1) := by decide +kernel
theorem dX7_reads_127 : decode cX7_reads 127 = .ok (.invokevirtual 129, 3) := by decide +kernel
theorem dX7_reads_130 : decode cX7_reads 130 = .ok (.ifCond .eq 7, 3) := by decide +kernel
theorem dX7_reads_133 : decode cX7_reads 133 = .ok (.iconst 1, 1) := by decide +kernel
theorem dX7_reads_134 : decode cX7_reads 134 = .ok (.goto 4, 3) := by decide +kernel
theorem dX7_reads_137 : decode cX7_reads 137 = .ok (.iconst 0, 1) := by decide +kernel
theorem dX7_reads_138 : decode cX7_reads 138 = .ok (.istore_n 2, 1) := by decide +kernel
theorem dX7_reads_139 : decode cX7_reads 139 = .ok (.iload_n 2, 1) := by decide +kernel
theorem dX7_reads_140 : decode cX7_reads 140 = .ok (.ifCond .eq 42, 3) := by decide +kernel
theorem dX7_reads_143 : decode cX7_reads 143 = .ok (.aload_n 0, 1) := by decide +kernel
theorem dX7_reads_144 : decode cX7_reads 144 = .ok (.getfield 126, 3) := by decide +kernel
theorem dX7_reads_147 : decode cX7_reads 147 = .ok (.bipush 112, 2) := by decide +kernel
theorem dX7_reads_149 : decode cX7_reads 149 = .ok (.if_icmp .ne 20, 3) := by decide +kernel
theorem dX7_reads_152 : decode cX7_reads 152 = .ok (.aload_n 0, 1) := by decide +kernel
theorem dX7_reads_153 : decode cX7_reads 153 = .ok (.bipush 61, 2) := by decide +kernel
theorem dX7_reads_155 : decode cX7_reads 155 = .ok (.invokevirtual 132, 3) := by decide +kernel
theorem dX7_reads_158 : decode cX7_reads 158 = .ok (.ifCond .eq 24, 3) := by decide +kernel
theorem dX7_reads_161 : decode cX7_reads 161 = .ok (.aload_n 0, 1) := by decide +kernel
theorem dX7_reads_162 : decode cX7_reads 162 = .ok (.iconst 2, 1) := by decide +kernel
theorem dX7_reads_163 : decode cX7_reads 163 = .ok (.invokevirtual 129, 3) := by decide +kernel
theorem dX7_reads_166 : decode cX7_reads 166 = .ok (.ifCond .eq 16, 3) := by decide +kernel
theorem dX7_reads_169 : decode cX7_reads 169 = .ok (.aload_n 0, 1) := by decide +kernel
theorem dX7_reads_170 : decode cX7_reads 170 = .ok (.bipush 59, 2) := by decide +kernel
theorem dX7_reads_172 : decode cX7_reads 172 = .ok (.invokevirtual 132, 3) := by decide +kernel
theorem dX7_reads_175 : decode cX7_reads 175 = .ok (.ifCond .eq 7, 3) := by decide +kernel
theorem dX7_reads_178 : decode cX7_reads 178 = .ok (.iconst 1, 1) := by decide +kernel
theorem dX7_reads_179 : decode cX7_reads 179 = .ok (.goto 4, 3) := by decide +kernel
theorem dX7_reads_182 : decode cX7_reads 182 = .ok (.iconst 0, 1) := by decide +kernel
theorem dX7_reads_183 : decode cX7_reads 183 = .ok (.ireturn, 1) := by decide +kernel
set_option maxRecDepth 20000 in
theorem ggX7_calls_X7_open : GoodIn wsX7_calls wsX7_open := goodIn_r _ [7, 8, 9, 10, 11, 12, 6, 13, 14, 15, 16, 17, 18, 19, 20, 21, 22, 23, 76, 77, 78, 79, 80, 81, 82, 83, 84, 85, 86, 87, 88, 89] (by decide +kernel) (by decide +kernel)
set_option maxRecDepth 20000 in
theorem gX7_calls_X7_open : GoodIn wsX7_calls (wsV RX7 135 RX7 yX7_open wsX7_open) := goodIn_app (goodIn_of _ (by decide +kernel)) ggX7_calls_X7_open
set_option maxRecDepth 20000 in
theorem ggX7_calls_X7_commit : GoodIn wsX7_calls wsX7_commit := goodIn_r _ [27, 28, 29, 30, 31, 6, 32, 8, 9, 10, 33, 11, 12, 13, 14, 15, 16, 34, 35, 36, 37, 17, 18, 19, 20, 21, 22, 23, 76, 77, 78, 79, 80, 81, 82, 83, 84, 85, 86, 87, 88, 89] (by decide +kernel) (by decide +kernel)
set_option maxRecDepth 20000 in
theorem gX7_calls_X7_commit : GoodIn wsX7_calls (wsV RX7 138 RX7 yX7_commit wsX7_commit) := goodIn_app (goodIn_of _ (by decide +kernel)) ggX7_calls_X7_commit
set_option maxRecDepth 20000 in
theorem ggX7_calls_X7_abort : GoodIn wsX7_calls wsX7_abort := goodIn_r _ [41, 28, 29, 30, 31, 6, 32, 8, 9, 10, 33, 11, 12, 13, 14, 15, 16, 34, 35, 36, 37, 17, 18, 19, 20, 21, 22, 23, 76, 77, 78, 79, 80, 81, 82, 83, 84, 85, 86, 87, 88, 89] (by decide +kernel) (by decide +kernel)
set_option maxRecDepth 20000 in
theorem gX7_calls_X7_abort : GoodIn wsX7_calls (wsV RX7 141 RX7 yX7_abort wsX7_abort) := goodIn_app (goodIn_of _ (by decide +kernel)) ggX7_calls_X7_abort
set_option maxRecDepth 20000 in
theorem ggX7_calls_X7_put : GoodIn wsX7_calls wsX7_put := goodIn_r _ [45, 8, 46, 47, 6, 48, 14, 15, 16, 29, 30, 31, 32, 9, 10, 33, 11, 12, 13, 34, 35, 36, 37, 17, 18, 19, 20, 21, 22, 23, 76, 77, 78, 79, 80, 81, 82, 83, 84, 85, 86, 87, 88, 89] (by decide +kernel) (by decide +kernel)
set_option maxRecDepth 20000 in
theorem gX7_calls_X7_put : GoodIn wsX7_calls (wsV RX7 144 RX7 yX7_put wsX7_put) := goodIn_app (goodIn_of _ (by decide +kernel)) ggX7_calls_X7_put
set_option maxRecDepth 20000 in
theorem ggX7_calls_X7_ship : GoodIn wsX7_calls wsX7_ship := goodIn_r _ [52, 8, 10, 9, 53, 54, 6, 55, 14, 15, 16, 56, 57, 58, 59, 17, 18, 19, 20, 21, 22, 23, 76, 77, 78, 79, 80, 81, 82, 83, 84, 85, 86, 87, 88, 89] (by decide +kernel) (by decide +kernel)
set_option maxRecDepth 20000 in
theorem gX7_calls_X7_ship : GoodIn wsX7_calls (wsV RX7 148 RX7 yX7_ship wsX7_ship) := goodIn_app (goodIn_of _ (by decide +kernel)) ggX7_calls_X7_ship
set_option maxRecDepth 20000 in
theorem ggX7_calls_X7_tick : GoodIn wsX7_calls wsX7_tick := goodIn_r _ [63, 8, 9, 14, 15, 6, 16, 17, 18, 19, 20, 21, 22, 23, 56, 57, 58, 59, 64, 65, 66, 67, 68, 69, 70, 71, 72, 73, 74, 75, 76, 77, 78, 79, 80, 81, 82, 83, 84, 85, 86, 87, 88, 89] (by decide +kernel) (by decide +kernel)
set_option maxRecDepth 20000 in
theorem gX7_calls_X7_tick : GoodIn wsX7_calls (wsV RX7 151 RX7 yX7_tick wsX7_tick) := goodIn_app (goodIn_of _ (by decide +kernel)) ggX7_calls_X7_tick
theorem dX7_calls_0 : decode cX7_calls 0 = .ok (.aload_n 0, 1) := by decide +kernel
theorem dX7_calls_1 : decode cX7_calls 1 = .ok (.getfield 126, 3) := by decide +kernel
theorem dX7_calls_4 : decode cX7_calls 4 = .ok (.lookupswitch 125 #[(97, 74), (99, 63), (111, 52), (112, 85), (115, 108)], 52) := by decide +kernel
theorem dX7_calls_56 : decode cX7_calls 56 = .ok (.aload_n 0, 1) := by decide +kernel
theorem dX7_calls_57 : decode cX7_calls 57 = .ok (.aload_n 0, 1) := by decide +kernel
theorem dX7_calls_58 : decode cX7_calls 58 = .ok (.getfield 22, 3) := by decide +kernel
theorem dX7_calls_61 : decode cX7_calls 61 = .ok (.iconst 0, 1) := by decide +kernel
theorem dX7_calls_62 : decode cX7_calls 62 = .ok (.iaload, 1) := by decide +kernel
theorem dX7_calls_63 : decode cX7_calls 63 = .ok (.invokevirtual 135, 3) := by decide +kernel
theorem dX7_calls_66 : decode cX7_calls 66 = .ok (.ireturn, 1) := by decide +kernel
theorem dX7_calls_67 : decode cX7_calls 67 = .ok (.aload_n 0, 1) := by decide +kernel
theorem dX7_calls_68 : decode cX7_calls 68 = .ok (.aload_n 0, 1) := by decide +kernel
theorem dX7_calls_69 : decode cX7_calls 69 = .ok (.getfield 22, 3) := by decide +kernel
theorem dX7_calls_72 : decode cX7_calls 72 = .ok (.iconst 0, 1) := by decide +kernel
theorem dX7_calls_73 : decode cX7_calls 73 = .ok (.iaload, 1) := by decide +kernel
theorem dX7_calls_74 : decode cX7_calls 74 = .ok (.invokevirtual 138, 3) := by decide +kernel
theorem dX7_calls_77 : decode cX7_calls 77 = .ok (.ireturn, 1) := by decide +kernel
theorem dX7_calls_78 : decode cX7_calls 78 = .ok (.aload_n 0, 1) := by decide +kernel
theorem dX7_calls_79 : decode cX7_calls 79 = .ok (.aload_n 0, 1) := by decide +kernel
theorem dX7_calls_80 : decode cX7_calls 80 = .ok (.getfield 22, 3) := by decide +kernel
theorem dX7_calls_83 : decode cX7_calls 83 = .ok (.iconst 0, 1) := by decide +kernel
theorem dX7_calls_84 : decode cX7_calls 84 = .ok (.iaload, 1) := by decide +kernel
theorem dX7_calls_85 : decode cX7_calls 85 = .ok (.invokevirtual 141, 3) := by decide +kernel
theorem dX7_calls_88 : decode cX7_calls 88 = .ok (.ireturn, 1) := by decide +kernel
theorem dX7_calls_89 : decode cX7_calls 89 = .ok (.aload_n 0, 1) := by decide +kernel
theorem dX7_calls_90 : decode cX7_calls 90 = .ok (.aload_n 0, 1) := by decide +kernel
theorem dX7_calls_91 : decode cX7_calls 91 = .ok (.getfield 22, 3) := by decide +kernel
theorem dX7_calls_94 : decode cX7_calls 94 = .ok (.iconst 0, 1) := by decide +kernel
theorem dX7_calls_95 : decode cX7_calls 95 = .ok (.iaload, 1) := by decide +kernel
theorem dX7_calls_96 : decode cX7_calls 96 = .ok (.aload_n 0, 1) := by decide +kernel
theorem dX7_calls_97 : decode cX7_calls 97 = .ok (.getfield 22, 3) := by decide +kernel
theorem dX7_calls_100 : decode cX7_calls 100 = .ok (.iconst 1, 1) := by decide +kernel
theorem dX7_calls_101 : decode cX7_calls 101 = .ok (.iaload, 1) := by decide +kernel
theorem dX7_calls_102 : decode cX7_calls 102 = .ok (.aload_n 0, 1) := by decide +kernel
theorem dX7_calls_103 : decode cX7_calls 103 = .ok (.getfield 22, 3) := by decide +kernel
theorem dX7_calls_106 : decode cX7_calls 106 = .ok (.iconst 2, 1) := by decide +kernel
theorem dX7_calls_107 : decode cX7_calls 107 = .ok (.iaload, 1) := by decide +kernel
theorem dX7_calls_108 : decode cX7_calls 108 = .ok (.invokevirtual 144, 3) := by decide +kernel
theorem dX7_calls_111 : decode cX7_calls 111 = .ok (.ireturn, 1) := by decide +kernel
theorem dX7_calls_112 : decode cX7_calls 112 = .ok (.aload_n 0, 1) := by decide +kernel
theorem dX7_calls_113 : decode cX7_calls 113 = .ok (.aload_n 0, 1) := by decide +kernel
theorem dX7_calls_114 : decode cX7_calls 114 = .ok (.getfield 22, 3) := by decide +kernel
theorem dX7_calls_117 : decode cX7_calls 117 = .ok (.iconst 0, 1) := by decide +kernel
theorem dX7_calls_118 : decode cX7_calls 118 = .ok (.iaload, 1) := by decide +kernel
theorem dX7_calls_119 : decode cX7_calls 119 = .ok (.aload_n 0, 1) := by decide +kernel
theorem dX7_calls_120 : decode cX7_calls 120 = .ok (.getfield 22, 3) := by decide +kernel
theorem dX7_calls_123 : decode cX7_calls 123 = .ok (.iconst 1, 1) := by decide +kernel
theorem dX7_calls_124 : decode cX7_calls 124 = .ok (.iaload, 1) := by decide +kernel
theorem dX7_calls_125 : decode cX7_calls 125 = .ok (.invokevirtual 148, 3) := by decide +kernel
theorem dX7_calls_128 : decode cX7_calls 128 = .ok (.ireturn, 1) := by decide +kernel
theorem dX7_calls_129 : decode cX7_calls 129 = .ok (.aload_n 0, 1) := by decide +kernel
theorem dX7_calls_130 : decode cX7_calls 130 = .ok (.aload_n 0, 1) := by decide +kernel
theorem dX7_calls_131 : decode cX7_calls 131 = .ok (.getfield 22, 3) := by decide +kernel
theorem dX7_calls_134 : decode cX7_calls 134 = .ok (.iconst 0, 1) := by decide +kernel
theorem dX7_calls_135 : decode cX7_calls 135 = .ok (.iaload, 1) := by decide +kernel
theorem dX7_calls_136 : decode cX7_calls 136 = .ok (.invokevirtual 151, 3) := by decide +kernel
theorem dX7_calls_139 : decode cX7_calls 139 = .ok (.ireturn, 1) := by decide +kernel
set_option maxRecDepth 20000 in
theorem ggX7_plays_X7_reads : GoodIn wsX7_plays wsX7_reads := goodIn_r _ [12, 13, 2, 14, 15, 16, 17, 11, 18, 5, 19, 20, 21, 22, 23, 24, 25, 26, 27, 28, 29, 30, 103, 104, 105, 106, 107, 108, 109, 110, 111, 112, 113, 114, 115, 116] (by decide +kernel) (by decide +kernel)
set_option maxRecDepth 20000 in
theorem gX7_plays_X7_reads : GoodIn wsX7_plays (wsV RX7 160 RX7 yX7_reads wsX7_reads) := goodIn_app (goodIn_of _ (by decide +kernel)) ggX7_plays_X7_reads
set_option maxRecDepth 20000 in
theorem ggX7_plays_X7_calls : GoodIn wsX7_plays wsX7_calls := goodIn_r _ [34, 14, 26, 35, 36, 37, 11, 38, 39, 40, 41, 42, 43, 44, 19, 20, 21, 45, 46, 47, 48, 1, 49, 50, 51, 52, 53, 54, 55, 56, 57, 58, 59, 60, 61, 62, 63, 64, 65, 66, 67, 68, 69, 70, 71, 72, 73, 74, 75, 76, 77, 78, 79, 80, 81, 82, 83, 84, 85, 86, 87, 88, 89, 90, 91, 92, 93, 94, 95, 96, 97, 98, 99, 100, 101, 102, 103, 104, 105, 106, 107, 108, 109, 110, 111, 112, 113, 114, 115, 116] (by decide +kernel) (by decide +kernel)
set_option maxRecDepth 20000 in
theorem gX7_plays_X7_calls : GoodIn wsX7_plays (wsV RX7 164 RX7 yX7_calls wsX7_calls) := goodIn_app (goodIn_of _ (by decide +kernel)) ggX7_plays_X7_calls
theorem dX7_plays_0 : decode cX7_plays 0 = .ok (.aload_n 0, 1) := by decide +kernel
theorem dX7_plays_1 : decode cX7_plays 1 = .ok (.iconst 1, 1) := by decide +kernel
theorem dX7_plays_2 : decode cX7_plays 2 = .ok (.putfield 25, 3) := by decide +kernel
theorem dX7_plays_5 : decode cX7_plays 5 = .ok (.aload_n 0, 1) := by decide +kernel
theorem dX7_plays_6 : decode cX7_plays 6 = .ok (.iconst 0, 1) := by decide +kernel
theorem dX7_plays_7 : decode cX7_plays 7 = .ok (.putfield 120, 3) := by decide +kernel
theorem dX7_plays_10 : decode cX7_plays 10 = .ok (.aload_n 0, 1) := by decide +kernel
theorem dX7_plays_11 : decode cX7_plays 11 = .ok (.iconst 0, 1) := by decide +kernel
theorem dX7_plays_12 : decode cX7_plays 12 = .ok (.putfield 154, 3) := by decide +kernel
theorem dX7_plays_15 : decode cX7_plays 15 = .ok (.aload_n 0, 1) := by decide +kernel
theorem dX7_plays_16 : decode cX7_plays 16 = .ok (.iconst 0, 1) := by decide +kernel
theorem dX7_plays_17 : decode cX7_plays 17 = .ok (.putfield 157, 3) := by decide +kernel
theorem dX7_plays_20 : decode cX7_plays 20 = .ok (.iconst 1, 1) := by decide +kernel
theorem dX7_plays_21 : decode cX7_plays 21 = .ok (.istore_n 1, 1) := by decide +kernel
theorem dX7_plays_22 : decode cX7_plays 22 = .ok (.aload_n 0, 1) := by decide +kernel
theorem dX7_plays_23 : decode cX7_plays 23 = .ok (.getfield 120, 3) := by decide +kernel
theorem dX7_plays_26 : decode cX7_plays 26 = .ok (.aload_n 0, 1) := by decide +kernel
theorem dX7_plays_27 : decode cX7_plays 27 = .ok (.getfield 117, 3) := by decide +kernel
theorem dX7_plays_30 : decode cX7_plays 30 = .ok (.if_icmp .ge 94, 3) := by decide +kernel
theorem dX7_plays_33 : decode cX7_plays 33 = .ok (.iload_n 1, 1) := by decide +kernel
theorem dX7_plays_34 : decode cX7_plays 34 = .ok (.ifCond .eq 90, 3) := by decide +kernel
theorem dX7_plays_37 : decode cX7_plays 37 = .ok (.aload_n 0, 1) := by decide +kernel
theorem dX7_plays_38 : decode cX7_plays 38 = .ok (.aload_n 0, 1) := by decide +kernel
theorem dX7_plays_39 : decode cX7_plays 39 = .ok (.getfield 120, 3) := by decide +kernel
theorem dX7_plays_42 : decode cX7_plays 42 = .ok (.putfield 154, 3) := by decide +kernel
theorem dX7_plays_45 : decode cX7_plays 45 = .ok (.aload_n 0, 1) := by decide +kernel
theorem dX7_plays_46 : decode cX7_plays 46 = .ok (.invokevirtual 160, 3) := by decide +kernel
theorem dX7_plays_49 : decode cX7_plays 49 = .ok (.istore_n 2, 1) := by decide +kernel
theorem dX7_plays_50 : decode cX7_plays 50 = .ok (.iload_n 2, 1) := by decide +kernel
theorem dX7_plays_51 : decode cX7_plays 51 = .ok (.ifCond .eq 10, 3) := by decide +kernel
theorem dX7_plays_54 : decode cX7_plays 54 = .ok (.aload_n 0, 1) := by decide +kernel
theorem dX7_plays_55 : decode cX7_plays 55 = .ok (.invokevirtual 164, 3) := by decide +kernel
theorem dX7_plays_58 : decode cX7_plays 58 = .ok (.goto 4, 3) := by decide +kernel
theorem dX7_plays_61 : decode cX7_plays 61 = .ok (.iconst 0, 1) := by decide +kernel
theorem dX7_plays_62 : decode cX7_plays 62 = .ok (.istore_n 3, 1) := by decide +kernel
theorem dX7_plays_63 : decode cX7_plays 63 = .ok (.iload_n 2, 1) := by decide +kernel
theorem dX7_plays_64 : decode cX7_plays 64 = .ok (.ifCond .eq 11, 3) := by decide +kernel
theorem dX7_plays_67 : decode cX7_plays 67 = .ok (.iload_n 3, 1) := by decide +kernel
theorem dX7_plays_68 : decode cX7_plays 68 = .ok (.ifCond .lt 7, 3) := by decide +kernel
theorem dX7_plays_71 : decode cX7_plays 71 = .ok (.iconst 1, 1) := by decide +kernel
theorem dX7_plays_72 : decode cX7_plays 72 = .ok (.goto 4, 3) := by decide +kernel
theorem dX7_plays_75 : decode cX7_plays 75 = .ok (.iconst 0, 1) := by decide +kernel
theorem dX7_plays_76 : decode cX7_plays 76 = .ok (.istore_n 1, 1) := by decide +kernel
theorem dX7_plays_77 : decode cX7_plays 77 = .ok (.aload_n 0, 1) := by decide +kernel
theorem dX7_plays_78 : decode cX7_plays 78 = .ok (.iload_n 2, 1) := by decide +kernel
theorem dX7_plays_79 : decode cX7_plays 79 = .ok (.ifCond .eq 7, 3) := by decide +kernel
theorem dX7_plays_82 : decode cX7_plays 82 = .ok (.iconst 2, 1) := by decide +kernel
theorem dX7_plays_83 : decode cX7_plays 83 = .ok (.goto 4, 3) := by decide +kernel
theorem dX7_plays_86 : decode cX7_plays 86 = .ok (.iconst 1, 1) := by decide +kernel
theorem dX7_plays_87 : decode cX7_plays 87 = .ok (.putfield 168, 3) := by decide +kernel
theorem dX7_plays_90 : decode cX7_plays 90 = .ok (.aload_n 0, 1) := by decide +kernel
theorem dX7_plays_91 : decode cX7_plays 91 = .ok (.iload_n 2, 1) := by decide +kernel
theorem dX7_plays_92 : decode cX7_plays 92 = .ok (.ifCond .eq 7, 3) := by decide +kernel
theorem dX7_plays_95 : decode cX7_plays 95 = .ok (.iload_n 3, 1) := by decide +kernel
theorem dX7_plays_96 : decode cX7_plays 96 = .ok (.goto 12, 3) := by decide +kernel
theorem dX7_plays_99 : decode cX7_plays 99 = .ok (.aload_n 0, 1) := by decide +kernel
theorem dX7_plays_100 : decode cX7_plays 100 = .ok (.getfield 120, 3) := by decide +kernel
theorem dX7_plays_103 : decode cX7_plays 103 = .ok (.aload_n 0, 1) := by decide +kernel
theorem dX7_plays_104 : decode cX7_plays 104 = .ok (.getfield 154, 3) := by decide +kernel
theorem dX7_plays_107 : decode cX7_plays 107 = .ok (.isub, 1) := by decide +kernel
theorem dX7_plays_108 : decode cX7_plays 108 = .ok (.putfield 171, 3) := by decide +kernel
theorem dX7_plays_111 : decode cX7_plays 111 = .ok (.aload_n 0, 1) := by decide +kernel
theorem dX7_plays_112 : decode cX7_plays 112 = .ok (.dup, 1) := by decide +kernel
theorem dX7_plays_113 : decode cX7_plays 113 = .ok (.getfield 157, 3) := by decide +kernel
theorem dX7_plays_116 : decode cX7_plays 116 = .ok (.iconst 1, 1) := by decide +kernel
theorem dX7_plays_117 : decode cX7_plays 117 = .ok (.iadd, 1) := by decide +kernel
theorem dX7_plays_118 : decode cX7_plays 118 = .ok (.putfield 157, 3) := by decide +kernel
theorem dX7_plays_121 : decode cX7_plays 121 = .ok (.goto (-99), 3) := by decide +kernel
theorem dX7_plays_124 : decode cX7_plays 124 = .ok (.aload_n 0, 1) := by decide +kernel
theorem dX7_plays_125 : decode cX7_plays 125 = .ok (.iconst 0, 1) := by decide +kernel
theorem dX7_plays_126 : decode cX7_plays 126 = .ok (.putfield 25, 3) := by decide +kernel
theorem dX7_plays_129 : decode cX7_plays 129 = .ok (.iload_n 1, 1) := by decide +kernel
theorem dX7_plays_130 : decode cX7_plays 130 = .ok (.ireturn, 1) := by decide +kernel
set_option maxRecDepth 20000 in
theorem ggX7_fault_X7_in : GoodIn wsX7_fault wsX7_in := goodIn_r _ [11] (by decide +kernel) (by decide +kernel)
set_option maxRecDepth 20000 in
theorem gX7_fault_X7_in : GoodIn wsX7_fault (va_wsS RX7 33 yX7_in wsX7_in) := goodIn_app (goodIn_of _ (by decide +kernel)) ggX7_fault_X7_in
set_option maxRecDepth 20000 in
theorem ggX7_fault_X7_copies : GoodIn wsX7_fault wsX7_copies := goodIn_r _ [14] (by decide +kernel) (by decide +kernel)
set_option maxRecDepth 20000 in
theorem gX7_fault_X7_copies : GoodIn wsX7_fault (va_wsS RX7 174 yX7_copies wsX7_copies) := goodIn_app (goodIn_of _ (by decide +kernel)) ggX7_fault_X7_copies
set_option maxRecDepth 20000 in
theorem ggX7_fault_X7_plays : GoodIn wsX7_fault wsX7_plays := goodIn_r _ [18, 19, 20, 5, 21, 22, 6, 7, 23, 24, 25, 10, 26, 27, 28, 29, 30, 31, 32, 8, 9, 11, 33, 34, 35, 36, 37, 38, 39, 40, 41, 42, 43, 44, 45, 46, 47, 48, 49, 1, 2, 50, 51, 52, 53, 54, 55, 56, 57, 58, 59, 60, 61, 62, 63, 4, 64, 65, 66, 67, 68, 69, 70, 71, 72, 73, 74, 75, 76, 77, 78, 79, 80, 81, 82, 83, 84, 85, 86, 87, 88, 89, 90, 91, 92, 93, 94, 95, 96, 97, 98, 99, 100, 101, 102, 103, 104, 105, 106, 107, 108, 109, 110, 111, 112, 113, 114, 115, 116, 117, 118, 119, 120, 121, 122, 123, 124] (by decide +kernel) (by decide +kernel)
set_option maxRecDepth 20000 in
theorem gX7_fault_X7_plays : GoodIn wsX7_fault (wsV RX7 178 RX7 yX7_plays wsX7_plays) := goodIn_app (goodIn_of _ (by decide +kernel)) ggX7_fault_X7_plays
theorem dX7_fault_0 : decode cX7_fault 0 = .ok (.iload_n 1, 1) := by decide +kernel
theorem dX7_fault_1 : decode cX7_fault 1 = .ok (.iconst 0, 1) := by decide +kernel
theorem dX7_fault_2 : decode cX7_fault 2 = .ok (.iconst 2, 1) := by decide +kernel
theorem dX7_fault_3 : decode cX7_fault 3 = .ok (.invokestatic 33, 3) := by decide +kernel
theorem dX7_fault_6 : decode cX7_fault 6 = .ok (.ifCond .ne 6, 3) := by decide +kernel
theorem dX7_fault_9 : decode cX7_fault 9 = .ok (.ldc 41, 2) := by decide +kernel
theorem dX7_fault_11 : decode cX7_fault 11 = .ok (.ireturn, 1) := by decide +kernel
theorem dX7_fault_12 : decode cX7_fault 12 = .ok (.aload_n 0, 1) := by decide +kernel
theorem dX7_fault_13 : decode cX7_fault 13 = .ok (.getfield 7, 3) := by decide +kernel
theorem dX7_fault_16 : decode cX7_fault 16 = .ok (.aload_n 0, 1) := by decide +kernel
theorem dX7_fault_17 : decode cX7_fault 17 = .ok (.getfield 16, 3) := by decide +kernel
theorem dX7_fault_20 : decode cX7_fault 20 = .ok (.invokestatic 174, 3) := by decide +kernel
theorem dX7_fault_23 : decode cX7_fault 23 = .ok (.aload_n 0, 1) := by decide +kernel
theorem dX7_fault_24 : decode cX7_fault 24 = .ok (.invokevirtual 178, 3) := by decide +kernel
theorem dX7_fault_27 : decode cX7_fault 27 = .ok (.istore_n 2, 1) := by decide +kernel
theorem dX7_fault_28 : decode cX7_fault 28 = .ok (.aload_n 0, 1) := by decide +kernel
theorem dX7_fault_29 : decode cX7_fault 29 = .ok (.getfield 16, 3) := by decide +kernel
theorem dX7_fault_32 : decode cX7_fault 32 = .ok (.aload_n 0, 1) := by decide +kernel
theorem dX7_fault_33 : decode cX7_fault 33 = .ok (.getfield 7, 3) := by decide +kernel
theorem dX7_fault_36 : decode cX7_fault 36 = .ok (.invokestatic 174, 3) := by decide +kernel
theorem dX7_fault_39 : decode cX7_fault 39 = .ok (.iload_n 2, 1) := by decide +kernel
theorem dX7_fault_40 : decode cX7_fault 40 = .ok (.ifCond .eq 8, 3) := by decide +kernel
theorem dX7_fault_43 : decode cX7_fault 43 = .ok (.ldc 58, 2) := by decide +kernel
theorem dX7_fault_45 : decode cX7_fault 45 = .ok (.goto 30, 3) := by decide +kernel
theorem dX7_fault_48 : decode cX7_fault 48 = .ok (.iload_n 1, 1) := by decide +kernel
theorem dX7_fault_49 : decode cX7_fault 49 = .ok (.ifCond .ne 10, 3) := by decide +kernel
theorem dX7_fault_52 : decode cX7_fault 52 = .ok (.aload_n 0, 1) := by decide +kernel
theorem dX7_fault_53 : decode cX7_fault 53 = .ok (.getfield 154, 3) := by decide +kernel
theorem dX7_fault_56 : decode cX7_fault 56 = .ok (.goto 19, 3) := by decide +kernel
theorem dX7_fault_59 : decode cX7_fault 59 = .ok (.iload_n 1, 1) := by decide +kernel
theorem dX7_fault_60 : decode cX7_fault 60 = .ok (.iconst 1, 1) := by decide +kernel
theorem dX7_fault_61 : decode cX7_fault 61 = .ok (.if_icmp .ne 10, 3) := by decide +kernel
theorem dX7_fault_64 : decode cX7_fault 64 = .ok (.aload_n 0, 1) := by decide +kernel
theorem dX7_fault_65 : decode cX7_fault 65 = .ok (.getfield 168, 3) := by decide +kernel
theorem dX7_fault_68 : decode cX7_fault 68 = .ok (.goto 7, 3) := by decide +kernel
theorem dX7_fault_71 : decode cX7_fault 71 = .ok (.aload_n 0, 1) := by decide +kernel
theorem dX7_fault_72 : decode cX7_fault 72 = .ok (.getfield 171, 3) := by decide +kernel
theorem dX7_fault_75 : decode cX7_fault 75 = .ok (.ireturn, 1) := by decide +kernel
set_option maxRecDepth 20000 in
theorem ggX7_play_X7_copies : GoodIn wsX7_play wsX7_copies := goodIn_r _ [9] (by decide +kernel) (by decide +kernel)
set_option maxRecDepth 20000 in
theorem gX7_play_X7_copies : GoodIn wsX7_play (va_wsS RX7 174 yX7_copies wsX7_copies) := goodIn_app (goodIn_of _ (by decide +kernel)) ggX7_play_X7_copies
set_option maxRecDepth 20000 in
theorem ggX7_play_X7_plays : GoodIn wsX7_play wsX7_plays := goodIn_r _ [13, 14, 15, 16, 4, 17, 18, 19, 20, 21, 22, 8, 23, 24, 25, 26, 27, 28, 29, 30, 31, 32, 33, 34, 35, 36, 37, 38, 39, 40, 41, 42, 43, 44, 45, 46, 47, 48, 49, 50, 1, 3, 51, 52, 53, 54, 55, 56, 57, 58, 59, 60, 61, 62, 63, 5, 64, 65, 66, 67, 68, 69, 70, 71, 72, 73, 74, 75, 76, 77, 78, 79, 80, 81, 82, 83, 84, 85, 86, 87, 88, 89, 90, 91, 92, 93, 94, 95, 96, 97, 98, 99, 100, 101, 102, 103, 104, 105, 106, 107, 108, 109, 110, 111, 112, 113, 114, 115, 116, 117, 118, 119, 120, 121, 122, 123, 124] (by decide +kernel) (by decide +kernel)
set_option maxRecDepth 20000 in
theorem gX7_play_X7_plays : GoodIn wsX7_play (wsV RX7 178 RX7 yX7_plays wsX7_plays) := goodIn_app (goodIn_of _ (by decide +kernel)) ggX7_play_X7_plays
set_option maxRecDepth 20000 in
theorem ggX7_play_X7_changes : GoodIn wsX7_play wsX7_changes := goodIn_r _ [57, 14, 58, 59, 1, 111, 112, 113, 114, 115, 116, 117, 118, 119, 120, 121, 122, 123, 124] (by decide +kernel) (by decide +kernel)
set_option maxRecDepth 20000 in
theorem gX7_play_X7_changes : GoodIn wsX7_play (wsV RX7 43 RX7 yX7_changes wsX7_changes) := goodIn_app (goodIn_of _ (by decide +kernel)) ggX7_play_X7_changes
theorem dX7_play_0 : decode cX7_play 0 = .ok (.aload_n 0, 1) := by decide +kernel
theorem dX7_play_1 : decode cX7_play 1 = .ok (.getfield 7, 3) := by decide +kernel
theorem dX7_play_4 : decode cX7_play 4 = .ok (.aload_n 0, 1) := by decide +kernel
theorem dX7_play_5 : decode cX7_play 5 = .ok (.getfield 16, 3) := by decide +kernel
theorem dX7_play_8 : decode cX7_play 8 = .ok (.invokestatic 174, 3) := by decide +kernel
theorem dX7_play_11 : decode cX7_play 11 = .ok (.aload_n 0, 1) := by decide +kernel
theorem dX7_play_12 : decode cX7_play 12 = .ok (.invokevirtual 178, 3) := by decide +kernel
theorem dX7_play_15 : decode cX7_play 15 = .ok (.istore_n 1, 1) := by decide +kernel
theorem dX7_play_16 : decode cX7_play 16 = .ok (.aload_n 0, 1) := by decide +kernel
theorem dX7_play_17 : decode cX7_play 17 = .ok (.getfield 16, 3) := by decide +kernel
theorem dX7_play_20 : decode cX7_play 20 = .ok (.aload_n 0, 1) := by decide +kernel
theorem dX7_play_21 : decode cX7_play 21 = .ok (.getfield 7, 3) := by decide +kernel
theorem dX7_play_24 : decode cX7_play 24 = .ok (.invokestatic 174, 3) := by decide +kernel
theorem dX7_play_27 : decode cX7_play 27 = .ok (.iload_n 1, 1) := by decide +kernel
theorem dX7_play_28 : decode cX7_play 28 = .ok (.ifCond .ne 6, 3) := by decide +kernel
theorem dX7_play_31 : decode cX7_play 31 = .ok (.ldc 42, 2) := by decide +kernel
theorem dX7_play_33 : decode cX7_play 33 = .ok (.ireturn, 1) := by decide +kernel
theorem dX7_play_34 : decode cX7_play 34 = .ok (.aload_n 0, 1) := by decide +kernel
theorem dX7_play_35 : decode cX7_play 35 = .ok (.invokevirtual 43, 3) := by decide +kernel
theorem dX7_play_38 : decode cX7_play 38 = .ok (.aload_n 0, 1) := by decide +kernel
theorem dX7_play_39 : decode cX7_play 39 = .ok (.invokevirtual 178, 3) := by decide +kernel
theorem dX7_play_42 : decode cX7_play 42 = .ok (.ifCond .eq 10, 3) := by decide +kernel
theorem dX7_play_45 : decode cX7_play 45 = .ok (.aload_n 0, 1) := by decide +kernel
theorem dX7_play_46 : decode cX7_play 46 = .ok (.getfield 157, 3) := by decide +kernel
theorem dX7_play_49 : decode cX7_play 49 = .ok (.goto 5, 3) := by decide +kernel
theorem dX7_play_52 : decode cX7_play 52 = .ok (.ldc 58, 2) := by decide +kernel
theorem dX7_play_54 : decode cX7_play 54 = .ok (.ireturn, 1) := by decide +kernel
theorem dJ9_max_7cf53_0 : decode cJ9_max_7cf53 0 = .ok (.iload_n 0, 1) := by decide +kernel
theorem dJ9_max_7cf53_1 : decode cJ9_max_7cf53 1 = .ok (.iload_n 1, 1) := by decide +kernel
theorem dJ9_max_7cf53_2 : decode cJ9_max_7cf53 2 = .ok (.if_icmp .lt 7, 3) := by decide +kernel
theorem dJ9_max_7cf53_5 : decode cJ9_max_7cf53 5 = .ok (.iload_n 0, 1) := by decide +kernel
theorem dJ9_max_7cf53_6 : decode cJ9_max_7cf53 6 = .ok (.goto 4, 3) := by decide +kernel
theorem dJ9_max_7cf53_9 : decode cJ9_max_7cf53 9 = .ok (.iload_n 1, 1) := by decide +kernel
theorem dJ9_max_7cf53_10 : decode cJ9_max_7cf53 10 = .ok (.ireturn, 1) := by decide +kernel
theorem dJ9_min_7cf53_0 : decode cJ9_min_7cf53 0 = .ok (.iload_n 0, 1) := by decide +kernel
theorem dJ9_min_7cf53_1 : decode cJ9_min_7cf53 1 = .ok (.iload_n 1, 1) := by decide +kernel
theorem dJ9_min_7cf53_2 : decode cJ9_min_7cf53 2 = .ok (.if_icmp .gt 7, 3) := by decide +kernel
theorem dJ9_min_7cf53_5 : decode cJ9_min_7cf53 5 = .ok (.iload_n 0, 1) := by decide +kernel
theorem dJ9_min_7cf53_6 : decode cJ9_min_7cf53 6 = .ok (.goto 4, 3) := by decide +kernel
theorem dJ9_min_7cf53_9 : decode cJ9_min_7cf53 9 = .ok (.iload_n 1, 1) := by decide +kernel
theorem dJ9_min_7cf53_10 : decode cJ9_min_7cf53 10 = .ok (.ireturn, 1) := by decide +kernel
set_option maxRecDepth 20000 in
theorem ggJ0_length_8abf5_J0_coder_7d493 : GoodIn wsJ0_length_8abf5 wsJ0_coder_7d493 := goodIn_r _ [6, 7, 8] (by decide +kernel) (by decide +kernel)
set_option maxRecDepth 20000 in
theorem gJ0_length_8abf5_J0_coder_7d493 : GoodIn wsJ0_length_8abf5 (wsV RJ0 335 RJ0 yJ0_coder_7d493 wsJ0_coder_7d493) := goodIn_app (goodIn_of _ (by decide +kernel)) ggJ0_length_8abf5_J0_coder_7d493
theorem dJ0_length_8abf5_0 : decode cJ0_length_8abf5 0 = .ok (.aload_n 0, 1) := by decide +kernel
theorem dJ0_length_8abf5_1 : decode cJ0_length_8abf5 1 = .ok (.getfield 9, 3) := by decide +kernel
theorem dJ0_length_8abf5_4 : decode cJ0_length_8abf5 4 = .ok (.arraylength, 1) := by decide +kernel
theorem dJ0_length_8abf5_5 : decode cJ0_length_8abf5 5 = .ok (.aload_n 0, 1) := by decide +kernel
theorem dJ0_length_8abf5_6 : decode cJ0_length_8abf5 6 = .ok (.invokevirtual 335, 3) := by decide +kernel
theorem dJ0_length_8abf5_9 : decode cJ0_length_8abf5 9 = .ok (.ishr, 1) := by decide +kernel
theorem dJ0_length_8abf5_10 : decode cJ0_length_8abf5 10 = .ok (.ireturn, 1) := by decide +kernel
theorem dJ0_isEmpty_aae02_0 : decode cJ0_isEmpty_aae02 0 = .ok (.aload_n 0, 1) := by decide +kernel
theorem dJ0_isEmpty_aae02_1 : decode cJ0_isEmpty_aae02 1 = .ok (.getfield 9, 3) := by decide +kernel
theorem dJ0_isEmpty_aae02_4 : decode cJ0_isEmpty_aae02 4 = .ok (.arraylength, 1) := by decide +kernel
theorem dJ0_isEmpty_aae02_5 : decode cJ0_isEmpty_aae02 5 = .ok (.ifCond .ne 7, 3) := by decide +kernel
theorem dJ0_isEmpty_aae02_8 : decode cJ0_isEmpty_aae02 8 = .ok (.iconst 1, 1) := by decide +kernel
theorem dJ0_isEmpty_aae02_9 : decode cJ0_isEmpty_aae02 9 = .ok (.goto 4, 3) := by decide +kernel
theorem dJ0_isEmpty_aae02_12 : decode cJ0_isEmpty_aae02 12 = .ok (.iconst 0, 1) := by decide +kernel
theorem dJ0_isEmpty_aae02_13 : decode cJ0_isEmpty_aae02 13 = .ok (.ireturn, 1) := by decide +kernel
set_option maxRecDepth 20000 in
theorem ggJ0_charAt_5068e_J0_isLatin1_aae02 : GoodIn wsJ0_charAt_5068e wsJ0_isLatin1_aae02 := goodIn_r _ [6, 7, 8] (by decide +kernel) (by decide +kernel)
set_option maxRecDepth 20000 in
theorem gJ0_charAt_5068e_J0_isLatin1_aae02 : GoodIn wsJ0_charAt_5068e (wsV RJ0 492 RJ0 yJ0_isLatin1_aae02 wsJ0_isLatin1_aae02) := goodIn_app (goodIn_of _ (by decide +kernel)) ggJ0_charAt_5068e_J0_isLatin1_aae02
set_option maxRecDepth 20000 in
theorem ggJ0_charAt_5068e_J1_charAt_3b067 : GoodIn wsJ0_charAt_5068e wsJ1_charAt_3b067 := goodIn_r _ [12, 13, 14, 5, 15, 16, 17, 18, 19, 20] (by decide +kernel) (by decide +kernel)
set_option maxRecDepth 20000 in
theorem gJ0_charAt_5068e_J1_charAt_3b067 : GoodIn wsJ0_charAt_5068e (va_wsS RJ0 495 yJ1_charAt_3b067 wsJ1_charAt_3b067) := goodIn_app (goodIn_of _ (by decide +kernel)) ggJ0_charAt_5068e_J1_charAt_3b067
set_option maxRecDepth 20000 in
theorem ggJ0_charAt_5068e_J2_charAt_3b067 : GoodIn wsJ0_charAt_5068e wsJ2_charAt_3b067 := goodIn_r _ [24, 25, 26, 23, 27, 28, 29, 30, 31, 14, 5, 15, 16, 17, 18, 19, 20, 32, 33, 34, 35, 36, 37] (by decide +kernel) (by decide +kernel)
set_option maxRecDepth 20000 in
theorem gJ0_charAt_5068e_J2_charAt_3b067 : GoodIn wsJ0_charAt_5068e (va_wsS RJ0 498 yJ2_charAt_3b067 wsJ2_charAt_3b067) := goodIn_app (goodIn_of _ (by decide +kernel)) ggJ0_charAt_5068e_J2_charAt_3b067
theorem dJ0_charAt_5068e_0 : decode cJ0_charAt_5068e 0 = .ok (.aload_n 0, 1) := by decide +kernel
theorem dJ0_charAt_5068e_1 : decode cJ0_charAt_5068e 1 = .ok (.invokevirtual 492, 3) := by decide +kernel
theorem dJ0_charAt_5068e_4 : decode cJ0_charAt_5068e 4 = .ok (.ifCond .eq 12, 3) := by decide +kernel
theorem dJ0_charAt_5068e_7 : decode cJ0_charAt_5068e 7 = .ok (.aload_n 0, 1) := by decide +kernel
theorem dJ0_charAt_5068e_8 : decode cJ0_charAt_5068e 8 = .ok (.getfield 9, 3) := by decide +kernel
theorem dJ0_charAt_5068e_11 : decode cJ0_charAt_5068e 11 = .ok (.iload_n 1, 1) := by decide +kernel
theorem dJ0_charAt_5068e_12 : decode cJ0_charAt_5068e 12 = .ok (.invokestatic 495, 3) := by decide +kernel
theorem dJ0_charAt_5068e_15 : decode cJ0_charAt_5068e 15 = .ok (.ireturn, 1) := by decide +kernel
theorem dJ0_charAt_5068e_16 : decode cJ0_charAt_5068e 16 = .ok (.aload_n 0, 1) := by decide +kernel
theorem dJ0_charAt_5068e_17 : decode cJ0_charAt_5068e 17 = .ok (.getfield 9, 3) := by decide +kernel
theorem dJ0_charAt_5068e_20 : decode cJ0_charAt_5068e 20 = .ok (.iload_n 1, 1) := by decide +kernel
theorem dJ0_charAt_5068e_21 : decode cJ0_charAt_5068e 21 = .ok (.invokestatic 498, 3) := by decide +kernel
theorem dJ0_charAt_5068e_24 : decode cJ0_charAt_5068e 24 = .ok (.ireturn, 1) := by decide +kernel
theorem dJ0_coder_7d493_0 : decode cJ0_coder_7d493 0 = .ok (.getstatic 38, 3) := by decide +kernel
theorem dJ0_coder_7d493_3 : decode cJ0_coder_7d493 3 = .ok (.ifCond .eq 10, 3) := by decide +kernel
theorem dJ0_coder_7d493_6 : decode cJ0_coder_7d493 6 = .ok (.aload_n 0, 1) := by decide +kernel
theorem dJ0_coder_7d493_7 : decode cJ0_coder_7d493 7 = .ok (.getfield 15, 3) := by decide +kernel
theorem dJ0_coder_7d493_10 : decode cJ0_coder_7d493 10 = .ok (.goto 4, 3) := by decide +kernel
theorem dJ0_coder_7d493_13 : decode cJ0_coder_7d493 13 = .ok (.iconst 1, 1) := by decide +kernel
theorem dJ0_coder_7d493_14 : decode cJ0_coder_7d493 14 = .ok (.ireturn, 1) := by decide +kernel
theorem dJ0_isLatin1_aae02_0 : decode cJ0_isLatin1_aae02 0 = .ok (.getstatic 38, 3) := by decide +kernel
theorem dJ0_isLatin1_aae02_3 : decode cJ0_isLatin1_aae02 3 = .ok (.ifCond .eq 14, 3) := by decide +kernel
theorem dJ0_isLatin1_aae02_6 : decode cJ0_isLatin1_aae02 6 = .ok (.aload_n 0, 1) := by decide +kernel
theorem dJ0_isLatin1_aae02_7 : decode cJ0_isLatin1_aae02 7 = .ok (.getfield 15, 3) := by decide +kernel
theorem dJ0_isLatin1_aae02_10 : decode cJ0_isLatin1_aae02 10 = .ok (.ifCond .ne 7, 3) := by decide +kernel
theorem dJ0_isLatin1_aae02_13 : decode cJ0_isLatin1_aae02 13 = .ok (.iconst 1, 1) := by decide +kernel
theorem dJ0_isLatin1_aae02_14 : decode cJ0_isLatin1_aae02 14 = .ok (.goto 4, 3) := by decide +kernel
theorem dJ0_isLatin1_aae02_17 : decode cJ0_isLatin1_aae02 17 = .ok (.iconst 0, 1) := by decide +kernel
theorem dJ0_isLatin1_aae02_18 : decode cJ0_isLatin1_aae02 18 = .ok (.ireturn, 1) := by decide +kernel
set_option maxRecDepth 20000 in
theorem ggJ0_checkIndex_df160_J3_checkIndex_8e157 : GoodIn wsJ0_checkIndex_df160 wsJ3_checkIndex_8e157 := goodIn_r _ [5] (by decide +kernel) (by decide +kernel)
set_option maxRecDepth 20000 in
theorem gJ0_checkIndex_df160_J3_checkIndex_8e157 : GoodIn wsJ0_checkIndex_df160 (va_wsS RJ0 1059 yJ3_checkIndex_8e157 wsJ3_checkIndex_8e157) := goodIn_app (goodIn_of _ (by decide +kernel)) ggJ0_checkIndex_df160_J3_checkIndex_8e157
theorem dJ0_checkIndex_df160_0 : decode cJ0_checkIndex_df160 0 = .ok (.iload_n 0, 1) := by decide +kernel
theorem dJ0_checkIndex_df160_1 : decode cJ0_checkIndex_df160 1 = .ok (.iload_n 1, 1) := by decide +kernel
theorem dJ0_checkIndex_df160_2 : decode cJ0_checkIndex_df160 2 = .ok (.getstatic 1053, 3) := by decide +kernel
theorem dJ0_checkIndex_df160_5 : decode cJ0_checkIndex_df160 5 = .ok (.invokestatic 1059, 3) := by decide +kernel
theorem dJ0_checkIndex_df160_8 : decode cJ0_checkIndex_df160 8 = .ok (.pop, 1) := by decide +kernel
theorem dJ0_checkIndex_df160_9 : decode cJ0_checkIndex_df160 9 = .ok (.return_, 1) := by decide +kernel
set_option maxRecDepth 20000 in
theorem ggJ1_charAt_3b067_J0_checkIndex_df160 : GoodIn wsJ1_charAt_3b067 wsJ0_checkIndex_df160 := goodIn_r _ [4, 5, 6, 7, 8, 9] (by decide +kernel) (by decide +kernel)
set_option maxRecDepth 20000 in
theorem gJ1_charAt_3b067_J0_checkIndex_df160 : GoodIn wsJ1_charAt_3b067 (va_wsS RJ1 9 yJ0_checkIndex_df160 wsJ0_checkIndex_df160) := goodIn_app (goodIn_of _ (by decide +kernel)) ggJ1_charAt_3b067_J0_checkIndex_df160
theorem dJ1_charAt_3b067_0 : decode cJ1_charAt_3b067 0 = .ok (.iload_n 1, 1) := by decide +kernel
theorem dJ1_charAt_3b067_1 : decode cJ1_charAt_3b067 1 = .ok (.aload_n 0, 1) := by decide +kernel
theorem dJ1_charAt_3b067_2 : decode cJ1_charAt_3b067 2 = .ok (.arraylength, 1) := by decide +kernel
theorem dJ1_charAt_3b067_3 : decode cJ1_charAt_3b067 3 = .ok (.invokestatic 9, 3) := by decide +kernel
theorem dJ1_charAt_3b067_6 : decode cJ1_charAt_3b067 6 = .ok (.aload_n 0, 1) := by decide +kernel
theorem dJ1_charAt_3b067_7 : decode cJ1_charAt_3b067 7 = .ok (.iload_n 1, 1) := by decide +kernel
theorem dJ1_charAt_3b067_8 : decode cJ1_charAt_3b067 8 = .ok (.baload, 1) := by decide +kernel
theorem dJ1_charAt_3b067_9 : decode cJ1_charAt_3b067 9 = .ok (.sipush 255, 3) := by decide +kernel
theorem dJ1_charAt_3b067_12 : decode cJ1_charAt_3b067 12 = .ok (.iand, 1) := by decide +kernel
theorem dJ1_charAt_3b067_13 : decode cJ1_charAt_3b067 13 = .ok (.i2c, 1) := by decide +kernel
theorem dJ1_charAt_3b067_14 : decode cJ1_charAt_3b067 14 = .ok (.ireturn, 1) := by decide +kernel
set_option maxRecDepth 20000 in
theorem ggJ2_getChar_3b067_J2_length_9d52b : GoodIn wsJ2_getChar_3b067 wsJ2_length_9d52b := goodIn_r _ [7] (by decide +kernel) (by decide +kernel)
set_option maxRecDepth 20000 in
theorem gJ2_getChar_3b067_J2_length_9d52b : GoodIn wsJ2_getChar_3b067 (va_wsS RJ2 48 yJ2_length_9d52b wsJ2_length_9d52b) := goodIn_app (goodIn_of _ (by decide +kernel)) ggJ2_getChar_3b067_J2_length_9d52b
theorem dJ2_getChar_3b067_0 : decode cJ2_getChar_3b067 0 = .ok (.getstatic 44, 3) := by decide +kernel
theorem dJ2_getChar_3b067_3 : decode cJ2_getChar_3b067 3 = .ok (.ifCond .ne 25, 3) := by decide +kernel
theorem dJ2_getChar_3b067_6 : decode cJ2_getChar_3b067 6 = .ok (.iload_n 1, 1) := by decide +kernel
theorem dJ2_getChar_3b067_7 : decode cJ2_getChar_3b067 7 = .ok (.ifCond .lt 11, 3) := by decide +kernel
theorem dJ2_getChar_3b067_10 : decode cJ2_getChar_3b067 10 = .ok (.iload_n 1, 1) := by decide +kernel
theorem dJ2_getChar_3b067_11 : decode cJ2_getChar_3b067 11 = .ok (.aload_n 0, 1) := by decide +kernel
theorem dJ2_getChar_3b067_12 : decode cJ2_getChar_3b067 12 = .ok (.invokestatic 48, 3) := by decide +kernel
theorem dJ2_getChar_3b067_15 : decode cJ2_getChar_3b067 15 = .ok (.if_icmp .lt 13, 3) := by decide +kernel
theorem dJ2_getChar_3b067_18 : decode cJ2_getChar_3b067 18 = .ok (.new 52, 3) := by decide +kernel
theorem dJ2_getChar_3b067_21 : decode cJ2_getChar_3b067 21 = .ok (.dup, 1) := by decide +kernel
theorem dJ2_getChar_3b067_22 : decode cJ2_getChar_3b067 22 = .ok (.ldc 54, 2) := by decide +kernel
theorem dJ2_getChar_3b067_24 : decode cJ2_getChar_3b067 24 = .ok (.invokespecial 56, 3) := by decide +kernel
theorem dJ2_getChar_3b067_27 : decode cJ2_getChar_3b067 27 = .ok (.athrow, 1) := by decide +kernel
theorem dJ2_getChar_3b067_28 : decode cJ2_getChar_3b067 28 = .ok (.iload_n 1, 1) := by decide +kernel
theorem dJ2_getChar_3b067_29 : decode cJ2_getChar_3b067 29 = .ok (.iconst 1, 1) := by decide +kernel
theorem dJ2_getChar_3b067_30 : decode cJ2_getChar_3b067 30 = .ok (.ishl, 1) := by decide +kernel
theorem dJ2_getChar_3b067_31 : decode cJ2_getChar_3b067 31 = .ok (.istore_n 1, 1) := by decide +kernel
theorem dJ2_getChar_3b067_32 : decode cJ2_getChar_3b067 32 = .ok (.aload_n 0, 1) := by decide +kernel
theorem dJ2_getChar_3b067_33 : decode cJ2_getChar_3b067 33 = .ok (.iload_n 1, 1) := by decide +kernel
theorem dJ2_getChar_3b067_34 : decode cJ2_getChar_3b067 34 = .ok (.iinc 1 1, 3) := by decide +kernel
theorem dJ2_getChar_3b067_37 : decode cJ2_getChar_3b067 37 = .ok (.baload, 1) := by decide +kernel
theorem dJ2_getChar_3b067_38 : decode cJ2_getChar_3b067 38 = .ok (.sipush 255, 3) := by decide +kernel
theorem dJ2_getChar_3b067_41 : decode cJ2_getChar_3b067 41 = .ok (.iand, 1) := by decide +kernel
theorem dJ2_getChar_3b067_42 : decode cJ2_getChar_3b067 42 = .ok (.getstatic 59, 3) := by decide +kernel
theorem dJ2_getChar_3b067_45 : decode cJ2_getChar_3b067 45 = .ok (.ishl, 1) := by decide +kernel
theorem dJ2_getChar_3b067_46 : decode cJ2_getChar_3b067 46 = .ok (.aload_n 0, 1) := by decide +kernel
theorem dJ2_getChar_3b067_47 : decode cJ2_getChar_3b067 47 = .ok (.iload_n 1, 1) := by decide +kernel
theorem dJ2_getChar_3b067_48 : decode cJ2_getChar_3b067 48 = .ok (.baload, 1) := by decide +kernel
theorem dJ2_getChar_3b067_49 : decode cJ2_getChar_3b067 49 = .ok (.sipush 255, 3) := by decide +kernel
theorem dJ2_getChar_3b067_52 : decode cJ2_getChar_3b067 52 = .ok (.iand, 1) := by decide +kernel
theorem dJ2_getChar_3b067_53 : decode cJ2_getChar_3b067 53 = .ok (.getstatic 63, 3) := by decide +kernel
theorem dJ2_getChar_3b067_56 : decode cJ2_getChar_3b067 56 = .ok (.ishl, 1) := by decide +kernel
theorem dJ2_getChar_3b067_57 : decode cJ2_getChar_3b067 57 = .ok (.ior, 1) := by decide +kernel
theorem dJ2_getChar_3b067_58 : decode cJ2_getChar_3b067 58 = .ok (.i2c, 1) := by decide +kernel
theorem dJ2_getChar_3b067_59 : decode cJ2_getChar_3b067 59 = .ok (.ireturn, 1) := by decide +kernel
theorem dJ2_length_9d52b_0 : decode cJ2_length_9d52b 0 = .ok (.aload_n 0, 1) := by decide +kernel
theorem dJ2_length_9d52b_1 : decode cJ2_length_9d52b 1 = .ok (.arraylength, 1) := by decide +kernel
theorem dJ2_length_9d52b_2 : decode cJ2_length_9d52b 2 = .ok (.iconst 1, 1) := by decide +kernel
theorem dJ2_length_9d52b_3 : decode cJ2_length_9d52b 3 = .ok (.ishr, 1) := by decide +kernel
theorem dJ2_length_9d52b_4 : decode cJ2_length_9d52b 4 = .ok (.ireturn, 1) := by decide +kernel
set_option maxRecDepth 20000 in
theorem ggJ2_charAt_3b067_J2_checkIndex_2214a : GoodIn wsJ2_charAt_3b067 wsJ2_checkIndex_2214a := goodIn_r _ [4, 5, 6, 3, 7, 8, 9, 10, 11, 12, 13, 14, 15, 16] (by decide +kernel) (by decide +kernel)
set_option maxRecDepth 20000 in
theorem gJ2_charAt_3b067_J2_checkIndex_2214a : GoodIn wsJ2_charAt_3b067 (va_wsS RJ2 67 yJ2_checkIndex_2214a wsJ2_checkIndex_2214a) := goodIn_app (goodIn_of _ (by decide +kernel)) ggJ2_charAt_3b067_J2_checkIndex_2214a
set_option maxRecDepth 20000 in
theorem ggJ2_charAt_3b067_J2_getChar_3b067 : GoodIn wsJ2_charAt_3b067 wsJ2_getChar_3b067 := goodIn_r _ [19, 20, 21, 22, 5, 6, 3, 7] (by decide +kernel) (by decide +kernel)
set_option maxRecDepth 20000 in
theorem gJ2_charAt_3b067_J2_getChar_3b067 : GoodIn wsJ2_charAt_3b067 (va_wsS RJ2 71 yJ2_getChar_3b067 wsJ2_getChar_3b067) := goodIn_app (goodIn_of _ (by decide +kernel)) ggJ2_charAt_3b067_J2_getChar_3b067
theorem dJ2_charAt_3b067_0 : decode cJ2_charAt_3b067 0 = .ok (.iload_n 1, 1) := by decide +kernel
theorem dJ2_charAt_3b067_1 : decode cJ2_charAt_3b067 1 = .ok (.aload_n 0, 1) := by decide +kernel
theorem dJ2_charAt_3b067_2 : decode cJ2_charAt_3b067 2 = .ok (.invokestatic 67, 3) := by decide +kernel
theorem dJ2_charAt_3b067_5 : decode cJ2_charAt_3b067 5 = .ok (.aload_n 0, 1) := by decide +kernel
theorem dJ2_charAt_3b067_6 : decode cJ2_charAt_3b067 6 = .ok (.iload_n 1, 1) := by decide +kernel
theorem dJ2_charAt_3b067_7 : decode cJ2_charAt_3b067 7 = .ok (.invokestatic 71, 3) := by decide +kernel
theorem dJ2_charAt_3b067_10 : decode cJ2_charAt_3b067 10 = .ok (.ireturn, 1) := by decide +kernel
set_option maxRecDepth 20000 in
theorem ggJ2_checkIndex_2214a_J2_length_9d52b : GoodIn wsJ2_checkIndex_2214a wsJ2_length_9d52b := goodIn_r _ [4] (by decide +kernel) (by decide +kernel)
set_option maxRecDepth 20000 in
theorem gJ2_checkIndex_2214a_J2_length_9d52b : GoodIn wsJ2_checkIndex_2214a (va_wsS RJ2 48 yJ2_length_9d52b wsJ2_length_9d52b) := goodIn_app (goodIn_of _ (by decide +kernel)) ggJ2_checkIndex_2214a_J2_length_9d52b
set_option maxRecDepth 20000 in
theorem ggJ2_checkIndex_2214a_J0_checkIndex_df160 : GoodIn wsJ2_checkIndex_2214a wsJ0_checkIndex_df160 := goodIn_r _ [8, 9, 10, 11, 12, 13] (by decide +kernel) (by decide +kernel)
set_option maxRecDepth 20000 in
theorem gJ2_checkIndex_2214a_J0_checkIndex_df160 : GoodIn wsJ2_checkIndex_2214a (va_wsS RJ2 414 yJ0_checkIndex_df160 wsJ0_checkIndex_df160) := goodIn_app (goodIn_of _ (by decide +kernel)) ggJ2_checkIndex_2214a_J0_checkIndex_df160
theorem dJ2_checkIndex_2214a_0 : decode cJ2_checkIndex_2214a 0 = .ok (.iload_n 0, 1) := by decide +kernel
theorem dJ2_checkIndex_2214a_1 : decode cJ2_checkIndex_2214a 1 = .ok (.aload_n 1, 1) := by decide +kernel
theorem dJ2_checkIndex_2214a_2 : decode cJ2_checkIndex_2214a 2 = .ok (.invokestatic 48, 3) := by decide +kernel
theorem dJ2_checkIndex_2214a_5 : decode cJ2_checkIndex_2214a 5 = .ok (.invokestatic 414, 3) := by decide +kernel
theorem dJ2_checkIndex_2214a_8 : decode cJ2_checkIndex_2214a 8 = .ok (.return_, 1) := by decide +kernel
theorem dJ3_checkIndex_8e157_0 : decode cJ3_checkIndex_8e157 0 = .ok (.iload_n 0, 1) := by decide +kernel
theorem dJ3_checkIndex_8e157_1 : decode cJ3_checkIndex_8e157 1 = .ok (.ifCond .lt 8, 3) := by decide +kernel
theorem dJ3_checkIndex_8e157_4 : decode cJ3_checkIndex_8e157 4 = .ok (.iload_n 0, 1) := by decide +kernel
theorem dJ3_checkIndex_8e157_5 : decode cJ3_checkIndex_8e157 5 = .ok (.iload_n 1, 1) := by decide +kernel
theorem dJ3_checkIndex_8e157_6 : decode cJ3_checkIndex_8e157 6 = .ok (.if_icmp .lt 10, 3) := by decide +kernel
theorem dJ3_checkIndex_8e157_9 : decode cJ3_checkIndex_8e157 9 = .ok (.aload_n 2, 1) := by decide +kernel
theorem dJ3_checkIndex_8e157_10 : decode cJ3_checkIndex_8e157 10 = .ok (.iload_n 0, 1) := by decide +kernel
theorem dJ3_checkIndex_8e157_11 : decode cJ3_checkIndex_8e157 11 = .ok (.iload_n 1, 1) := by decide +kernel
theorem dJ3_checkIndex_8e157_12 : decode cJ3_checkIndex_8e157 12 = .ok (.invokestatic 95, 3) := by decide +kernel
theorem dJ3_checkIndex_8e157_15 : decode cJ3_checkIndex_8e157 15 = .ok (.athrow, 1) := by decide +kernel
theorem dJ3_checkIndex_8e157_16 : decode cJ3_checkIndex_8e157 16 = .ok (.iload_n 0, 1) := by decide +kernel
theorem dJ3_checkIndex_8e157_17 : decode cJ3_checkIndex_8e157 17 = .ok (.ireturn, 1) := by decide +kernel
set_option maxRecDepth 20000 in
theorem ggL_law_X6_init : GoodIn wsL_law wsX6_init := goodIn_r _ [8, 9, 10, 11, 12, 13, 14, 15, 16, 17, 18, 19, 20, 21, 22, 23, 24, 25, 26, 27, 28, 29, 30, 31, 32, 33, 34, 35, 36, 37, 38, 39, 40, 41, 42, 43, 44, 45, 46, 47, 48, 49, 50, 51, 52, 53, 54, 55, 56, 57, 58, 59, 60, 61, 62, 63, 64, 65, 66, 67, 68, 69, 70, 71, 72, 73, 74, 75, 76, 77, 78, 79, 80, 81, 82, 83, 84, 85, 86, 87, 88, 89, 90, 91, 92, 93, 94, 860, 861, 862, 863, 864, 865, 866, 867, 868, 869, 870, 871, 840, 841, 842, 843, 844, 845, 872, 873, 874, 875, 876, 877, 878, 879, 880, 881, 882, 883, 884, 885, 886, 887, 888, 889, 890, 891, 892, 893, 894] (by decide +kernel) (by decide +kernel)
set_option maxRecDepth 20000 in
theorem gL_law_X6_init : GoodIn wsL_law (wsX6_init) := ggL_law_X6_init
set_option maxRecDepth 20000 in
theorem ggL_law_X7_init : GoodIn wsL_law wsX7_init := goodIn_r _ [97, 98, 10, 11, 28, 99, 100, 101, 102, 103, 846, 847, 848, 849, 850, 851, 852, 853, 854, 855, 856, 857, 858, 859] (by decide +kernel) (by decide +kernel)
set_option maxRecDepth 20000 in
theorem gL_law_X7_init : GoodIn wsL_law (wsX7_init) := ggL_law_X7_init
set_option maxRecDepth 20000 in
theorem ggL_law_X6_open : GoodIn wsL_law wsX6_open := goodIn_r _ [107, 19, 15, 108, 109, 110, 18, 111, 75, 74, 112, 113, 114, 14, 115, 37, 41, 42, 43, 116, 117, 118, 119, 44, 45, 46, 47, 48, 49, 50, 51, 120, 121, 122, 36, 123, 55, 124, 125, 126, 127, 128, 129, 130, 56, 131, 57, 58, 59, 60, 132, 133, 134, 40, 135, 64, 65, 66, 68, 136, 137, 138, 139, 140, 141, 142, 2, 143, 144, 145, 146, 147, 148, 149, 150, 151, 840, 841, 842, 843, 844, 845, 872, 873, 860, 861, 862, 863, 864, 865, 866, 867, 868, 869, 870, 871, 885, 886, 887, 888, 889, 890, 891, 892, 893, 894] (by decide +kernel) (by decide +kernel)
set_option maxRecDepth 20000 in
theorem gL_law_X6_open : GoodIn wsL_law (wsV RL 13 RX6 yX6_open wsX6_open) := goodIn_app (goodIn_of _ (by decide +kernel)) ggL_law_X6_open
set_option maxRecDepth 20000 in
theorem ggL_law_X7_open : GoodIn wsL_law wsX7_open := goodIn_r _ [155, 156, 99, 157, 158, 159, 5, 160, 161, 162, 163, 164, 165, 166, 167, 168, 169, 100, 846, 847, 848, 849, 850, 851, 852, 853, 854, 855, 856, 857, 858, 859] (by decide +kernel) (by decide +kernel)
set_option maxRecDepth 20000 in
theorem gL_law_X7_open : GoodIn wsL_law (wsV RL 17 RX7 yX7_open wsX7_open) := goodIn_app (goodIn_of _ (by decide +kernel)) ggL_law_X7_open
set_option maxRecDepth 20000 in
theorem ggL_law_X6_put : GoodIn wsL_law wsX6_put := goodIn_r _ [173, 19, 15, 108, 109, 110, 18, 111, 75, 74, 112, 113, 114, 14, 115, 37, 41, 42, 43, 116, 117, 118, 119, 44, 45, 46, 47, 48, 49, 50, 51, 120, 121, 122, 36, 123, 55, 124, 125, 126, 127, 128, 129, 130, 56, 131, 57, 58, 59, 60, 132, 133, 134, 40, 135, 64, 65, 66, 68, 174, 175, 176, 177, 140, 142, 2, 143, 178, 179, 180, 181, 182, 183, 141, 184, 185, 186, 187, 188, 144, 145, 146, 147, 148, 149, 150, 151, 840, 841, 842, 843, 844, 845, 872, 873, 860, 861, 862, 863, 864, 865, 866, 867, 868, 869, 870, 871, 885, 886, 887, 888, 889, 890, 891, 892, 893, 894] (by decide +kernel) (by decide +kernel)
set_option maxRecDepth 20000 in
theorem gL_law_X6_put : GoodIn wsL_law (wsV RL 18 RX6 yX6_put wsX6_put) := goodIn_app (goodIn_of _ (by decide +kernel)) ggL_law_X6_put
set_option maxRecDepth 20000 in
theorem ggL_law_X7_put : GoodIn wsL_law wsX7_put := goodIn_r _ [192, 156, 193, 194, 5, 195, 161, 162, 163, 196, 197, 198, 199, 99, 157, 200, 158, 159, 160, 201, 202, 203, 204, 164, 165, 166, 167, 168, 169, 100, 846, 847, 848, 849, 850, 851, 852, 853, 854, 855, 856, 857, 858, 859] (by decide +kernel) (by decide +kernel)
set_option maxRecDepth 20000 in
theorem gL_law_X7_put : GoodIn wsL_law (wsV RL 22 RX7 yX7_put wsX7_put) := goodIn_app (goodIn_of _ (by decide +kernel)) ggL_law_X7_put
set_option maxRecDepth 20000 in
theorem ggL_law_X6_commit : GoodIn wsL_law wsX6_commit := goodIn_r _ [208, 19, 15, 108, 109, 110, 18, 111, 75, 74, 112, 113, 114, 14, 115, 37, 41, 42, 43, 116, 117, 118, 119, 44, 45, 46, 47, 48, 49, 50, 51, 120, 121, 122, 36, 123, 55, 124, 125, 126, 127, 128, 129, 130, 56, 131, 57, 58, 59, 60, 132, 133, 134, 40, 135, 64, 65, 66, 68, 209, 210, 211, 212, 140, 142, 2, 143, 180, 181, 182, 183, 141, 184, 185, 186, 187, 188, 144, 145, 146, 147, 148, 149, 150, 151, 840, 841, 842, 843, 844, 845, 872, 873, 860, 861, 862, 863, 864, 865, 866, 867, 868, 869, 870, 871, 885, 886, 887, 888, 889, 890, 891, 892, 893, 894] (by decide +kernel) (by decide +kernel)
set_option maxRecDepth 20000 in
theorem gL_law_X6_commit : GoodIn wsL_law (wsV RL 23 RX6 yX6_commit wsX6_commit) := goodIn_app (goodIn_of _ (by decide +kernel)) ggL_law_X6_commit
set_option maxRecDepth 20000 in
theorem ggL_law_X7_commit : GoodIn wsL_law wsX7_commit := goodIn_r _ [216, 217, 196, 197, 198, 5, 199, 156, 99, 157, 200, 158, 159, 160, 161, 162, 163, 201, 202, 203, 204, 164, 165, 166, 167, 168, 169, 100, 846, 847, 848, 849, 850, 851, 852, 853, 854, 855, 856, 857, 858, 859] (by decide +kernel) (by decide +kernel)
set_option maxRecDepth 20000 in
theorem gL_law_X7_commit : GoodIn wsL_law (wsV RL 26 RX7 yX7_commit wsX7_commit) := goodIn_app (goodIn_of _ (by decide +kernel)) ggL_law_X7_commit
set_option maxRecDepth 20000 in
theorem ggL_law_X6_abort : GoodIn wsL_law wsX6_abort := goodIn_r _ [221, 19, 15, 108, 109, 110, 18, 111, 75, 74, 112, 113, 114, 14, 115, 37, 41, 42, 43, 116, 117, 118, 119, 44, 45, 46, 47, 48, 49, 50, 51, 120, 121, 122, 36, 123, 55, 124, 125, 126, 127, 128, 129, 130, 56, 131, 57, 58, 59, 60, 132, 133, 134, 40, 135, 64, 65, 66, 68, 209, 210, 211, 212, 140, 142, 2, 143, 180, 181, 182, 183, 141, 184, 185, 186, 187, 188, 144, 145, 146, 147, 148, 149, 150, 151, 840, 841, 842, 843, 844, 845, 872, 873, 860, 861, 862, 863, 864, 865, 866, 867, 868, 869, 870, 871, 885, 886, 887, 888, 889, 890, 891, 892, 893, 894] (by decide +kernel) (by decide +kernel)
set_option maxRecDepth 20000 in
theorem gL_law_X6_abort : GoodIn wsL_law (wsV RL 27 RX6 yX6_abort wsX6_abort) := goodIn_app (goodIn_of _ (by decide +kernel)) ggL_law_X6_abort
set_option maxRecDepth 20000 in
theorem ggL_law_X7_abort : GoodIn wsL_law wsX7_abort := goodIn_r _ [225, 217, 196, 197, 198, 5, 199, 156, 99, 157, 200, 158, 159, 160, 161, 162, 163, 201, 202, 203, 204, 164, 165, 166, 167, 168, 169, 100, 846, 847, 848, 849, 850, 851, 852, 853, 854, 855, 856, 857, 858, 859] (by decide +kernel) (by decide +kernel)
set_option maxRecDepth 20000 in
theorem gL_law_X7_abort : GoodIn wsL_law (wsV RL 30 RX7 yX7_abort wsX7_abort) := goodIn_app (goodIn_of _ (by decide +kernel)) ggL_law_X7_abort
set_option maxRecDepth 20000 in
theorem ggL_law_X6_ship : GoodIn wsL_law wsX6_ship := goodIn_r _ [229, 19, 15, 108, 109, 110, 18, 111, 75, 74, 112, 113, 114, 14, 115, 37, 41, 42, 43, 116, 117, 118, 119, 44, 45, 46, 47, 48, 49, 50, 51, 120, 121, 122, 36, 123, 55, 124, 125, 126, 127, 128, 129, 130, 56, 131, 57, 58, 59, 60, 132, 133, 134, 40, 135, 64, 65, 66, 68, 230, 231, 232, 233, 140, 234, 141, 235, 236, 237, 238, 2, 239, 240, 241, 242, 243, 144, 145, 146, 147, 148, 149, 150, 151, 840, 841, 842, 843, 844, 845, 872, 873, 860, 861, 862, 863, 864, 865, 866, 867, 868, 869, 870, 871, 885, 886, 887, 888, 889, 890, 891, 892, 893, 894] (by decide +kernel) (by decide +kernel)
set_option maxRecDepth 20000 in
theorem gL_law_X6_ship : GoodIn wsL_law (wsV RL 31 RX6 yX6_ship wsX6_ship) := goodIn_app (goodIn_of _ (by decide +kernel)) ggL_law_X6_ship
set_option maxRecDepth 20000 in
theorem ggL_law_X7_ship : GoodIn wsL_law wsX7_ship := goodIn_r _ [247, 156, 157, 99, 248, 249, 5, 250, 161, 162, 163, 251, 252, 253, 254, 164, 165, 166, 167, 168, 169, 100, 846, 847, 848, 849, 850, 851, 852, 853, 854, 855, 856, 857, 858, 859] (by decide +kernel) (by decide +kernel)
set_option maxRecDepth 20000 in
theorem gL_law_X7_ship : GoodIn wsL_law (wsV RL 35 RX7 yX7_ship wsX7_ship) := goodIn_app (goodIn_of _ (by decide +kernel)) ggL_law_X7_ship
set_option maxRecDepth 20000 in
theorem ggL_law_X6_lose : GoodIn wsL_law wsX6_lose := goodIn_r _ [258, 19, 15, 108, 109, 110, 18, 111, 75, 74, 112, 113, 114, 14, 115, 37, 41, 42, 43, 116, 117, 118, 119, 44, 45, 46, 47, 48, 49, 50, 51, 120, 121, 122, 36, 123, 55, 124, 125, 126, 127, 128, 129, 130, 56, 131, 57, 58, 59, 60, 132, 133, 134, 40, 135, 64, 65, 66, 68, 259, 260, 261, 262, 140, 234, 236, 263, 141, 238, 2, 239, 240, 241, 242, 243, 264, 265, 266, 267, 268, 269, 270, 271, 272, 273, 274, 275, 144, 145, 146, 147, 148, 149, 150, 151, 840, 841, 842, 843, 844, 845, 872, 873, 860, 861, 862, 863, 864, 865, 866, 867, 868, 869, 870, 871, 885, 886, 887, 888, 889, 890, 891, 892, 893, 894] (by decide +kernel) (by decide +kernel)
set_option maxRecDepth 20000 in
theorem gL_law_X6_lose : GoodIn wsL_law (wsV RL 36 RX6 yX6_lose wsX6_lose) := goodIn_app (goodIn_of _ (by decide +kernel)) ggL_law_X6_lose
set_option maxRecDepth 20000 in
theorem ggL_law_X7_lose : GoodIn wsL_law wsX7_lose := goodIn_r _ [279, 156, 157, 99, 248, 249, 5, 250, 161, 162, 163, 251, 252, 253, 254, 280, 281, 282, 283, 164, 165, 166, 167, 168, 169, 100, 284, 285, 286, 287, 846, 847, 848, 849, 850, 851, 852, 853, 854, 855, 856, 857, 858, 859] (by decide +kernel) (by decide +kernel)
set_option maxRecDepth 20000 in
theorem gL_law_X7_lose : GoodIn wsL_law (wsV RL 39 RX7 yX7_lose wsX7_lose) := goodIn_app (goodIn_of _ (by decide +kernel)) ggL_law_X7_lose
set_option maxRecDepth 20000 in
theorem ggL_law_X6_resend : GoodIn wsL_law wsX6_resend := goodIn_r _ [291, 19, 15, 108, 109, 110, 18, 111, 75, 74, 112, 113, 114, 14, 115, 37, 41, 42, 43, 116, 117, 118, 119, 44, 45, 46, 47, 48, 49, 50, 51, 120, 121, 122, 36, 123, 55, 124, 125, 126, 127, 128, 129, 130, 56, 131, 57, 58, 59, 60, 132, 133, 134, 40, 135, 64, 65, 66, 68, 292, 293, 294, 295, 140, 234, 141, 238, 2, 239, 240, 241, 242, 243, 272, 273, 274, 275, 296, 297, 298, 299, 300, 144, 145, 146, 147, 148, 149, 150, 151, 840, 841, 842, 843, 844, 845, 872, 873, 860, 861, 862, 863, 864, 865, 866, 867, 868, 869, 870, 871, 885, 886, 887, 888, 889, 890, 891, 892, 893, 894] (by decide +kernel) (by decide +kernel)
set_option maxRecDepth 20000 in
theorem gL_law_X6_resend : GoodIn wsL_law (wsV RL 40 RX6 yX6_resend wsX6_resend) := goodIn_app (goodIn_of _ (by decide +kernel)) ggL_law_X6_resend
set_option maxRecDepth 20000 in
theorem ggL_law_X7_resend : GoodIn wsL_law wsX7_resend := goodIn_r _ [304, 156, 157, 248, 249, 5, 250, 161, 162, 163, 251, 252, 253, 254, 99, 164, 165, 166, 167, 168, 169, 100, 284, 285, 286, 287, 280, 281, 282, 283, 305, 306, 307, 308, 846, 847, 848, 849, 850, 851, 852, 853, 854, 855, 856, 857, 858, 859] (by decide +kernel) (by decide +kernel)
set_option maxRecDepth 20000 in
theorem gL_law_X7_resend : GoodIn wsL_law (wsV RL 43 RX7 yX7_resend wsX7_resend) := goodIn_app (goodIn_of _ (by decide +kernel)) ggL_law_X7_resend
set_option maxRecDepth 20000 in
theorem ggL_law_X6_tick : GoodIn wsL_law wsX6_tick := goodIn_r _ [312, 19, 15, 108, 109, 110, 18, 111, 75, 74, 112, 113, 114, 14, 115, 37, 41, 42, 43, 116, 117, 118, 119, 44, 45, 46, 47, 48, 49, 50, 51, 120, 121, 122, 36, 123, 55, 124, 125, 126, 127, 128, 129, 130, 56, 131, 57, 58, 59, 60, 132, 133, 134, 40, 135, 64, 65, 66, 68, 313, 314, 315, 316, 140, 263, 317, 2, 318, 240, 241, 242, 243, 319, 320, 321, 322, 234, 236, 264, 265, 266, 267, 323, 324, 325, 326, 327, 328, 329, 330, 331, 144, 145, 146, 147, 148, 149, 150, 151, 840, 841, 842, 843, 844, 845, 872, 873, 860, 861, 862, 863, 864, 865, 866, 867, 868, 869, 870, 871, 885, 886, 887, 888, 889, 890, 891, 892, 893, 894] (by decide +kernel) (by decide +kernel)
set_option maxRecDepth 20000 in
theorem gL_law_X6_tick : GoodIn wsL_law (wsV RL 44 RX6 yX6_tick wsX6_tick) := goodIn_app (goodIn_of _ (by decide +kernel)) ggL_law_X6_tick
set_option maxRecDepth 20000 in
theorem ggL_law_X7_tick : GoodIn wsL_law wsX7_tick := goodIn_r _ [335, 156, 99, 161, 162, 5, 163, 164, 165, 166, 167, 168, 169, 100, 251, 252, 253, 254, 336, 337, 338, 339, 280, 281, 282, 283, 340, 341, 342, 343, 846, 847, 848, 849, 850, 851, 852, 853, 854, 855, 856, 857, 858, 859] (by decide +kernel) (by decide +kernel)
set_option maxRecDepth 20000 in
theorem gL_law_X7_tick : GoodIn wsL_law (wsV RL 47 RX7 yX7_tick wsX7_tick) := goodIn_app (goodIn_of _ (by decide +kernel)) ggL_law_X7_tick
set_option maxRecDepth 20000 in
theorem ggL_law_X6_promote : GoodIn wsL_law wsX6_promote := goodIn_r _ [347, 19, 15, 108, 109, 110, 18, 111, 75, 74, 112, 113, 114, 14, 115, 37, 41, 42, 43, 116, 117, 118, 119, 44, 45, 46, 47, 48, 49, 50, 51, 120, 121, 122, 36, 123, 55, 124, 125, 126, 127, 128, 129, 130, 56, 131, 57, 58, 59, 60, 132, 133, 134, 40, 135, 64, 65, 66, 68, 348, 349, 350, 351, 140, 234, 141, 263, 235, 238, 2, 239, 240, 241, 242, 243, 352, 353, 354, 355, 356, 357, 358, 359, 327, 328, 329, 330, 331, 360, 361, 362, 363, 364, 297, 298, 299, 300, 365, 366, 367, 368, 369, 144, 145, 146, 147, 148, 149, 150, 151, 840, 841, 842, 843, 844, 845, 872, 873, 860, 861, 862, 863, 864, 865, 866, 867, 868, 869, 870, 871, 885, 886, 887, 888, 889, 890, 891, 892, 893, 894] (by decide +kernel) (by decide +kernel)
set_option maxRecDepth 20000 in
theorem gL_law_X6_promote : GoodIn wsL_law (wsV RL 48 RX6 yX6_promote wsX6_promote) := goodIn_app (goodIn_of _ (by decide +kernel)) ggL_law_X6_promote
set_option maxRecDepth 20000 in
theorem ggL_law_X7_promote : GoodIn wsL_law wsX7_promote := goodIn_r _ [373, 156, 157, 99, 248, 249, 5, 250, 161, 162, 163, 251, 252, 253, 254, 164, 165, 166, 167, 168, 169, 100, 374, 375, 376, 377, 378, 379, 380, 381, 340, 341, 342, 343, 382, 383, 384, 385, 305, 306, 307, 308, 846, 847, 848, 849, 850, 851, 852, 853, 854, 855, 856, 857, 858, 859] (by decide +kernel) (by decide +kernel)
set_option maxRecDepth 20000 in
theorem gL_law_X7_promote : GoodIn wsL_law (wsV RL 51 RX7 yX7_promote wsX7_promote) := goodIn_app (goodIn_of _ (by decide +kernel)) ggL_law_X7_promote
set_option maxRecDepth 20000 in
theorem ggL_law_X6_rebuild : GoodIn wsL_law wsX6_rebuild := goodIn_r _ [389, 19, 15, 108, 109, 110, 18, 111, 75, 74, 112, 113, 114, 14, 115, 37, 41, 42, 43, 116, 117, 118, 119, 44, 45, 46, 47, 48, 49, 50, 51, 120, 121, 122, 36, 123, 55, 124, 125, 126, 127, 128, 129, 130, 56, 131, 57, 58, 59, 60, 132, 133, 134, 40, 135, 64, 65, 66, 68, 390, 391, 392, 393, 140, 235, 238, 2, 239, 240, 241, 242, 243, 360, 361, 362, 363, 364, 297, 298, 299, 300, 144, 145, 146, 147, 148, 149, 150, 151, 840, 841, 842, 843, 844, 845, 872, 873, 860, 861, 862, 863, 864, 865, 866, 867, 868, 869, 870, 871, 885, 886, 887, 888, 889, 890, 891, 892, 893, 894] (by decide +kernel) (by decide +kernel)
set_option maxRecDepth 20000 in
theorem gL_law_X6_rebuild : GoodIn wsL_law (wsV RL 52 RX6 yX6_rebuild wsX6_rebuild) := goodIn_app (goodIn_of _ (by decide +kernel)) ggL_law_X6_rebuild
set_option maxRecDepth 20000 in
theorem ggL_law_X7_rebuild : GoodIn wsL_law wsX7_rebuild := goodIn_r _ [397, 156, 99, 248, 249, 5, 250, 161, 162, 163, 164, 165, 166, 167, 168, 169, 100, 382, 383, 384, 385, 305, 306, 307, 308, 846, 847, 848, 849, 850, 851, 852, 853, 854, 855, 856, 857, 858, 859] (by decide +kernel) (by decide +kernel)
set_option maxRecDepth 20000 in
theorem gL_law_X7_rebuild : GoodIn wsL_law (wsV RL 55 RX7 yX7_rebuild wsX7_rebuild) := goodIn_app (goodIn_of _ (by decide +kernel)) ggL_law_X7_rebuild
set_option maxRecDepth 20000 in
theorem ggL_law_X6_set : GoodIn wsL_law wsX6_set := goodIn_r _ [401, 19, 15, 108, 109, 110, 18, 111, 75, 74, 112, 113, 114, 14, 115, 37, 41, 42, 43, 116, 117, 118, 119, 44, 45, 46, 47, 48, 49, 50, 51, 120, 121, 122, 36, 123, 55, 124, 125, 126, 127, 128, 129, 130, 56, 131, 57, 58, 59, 60, 132, 133, 134, 40, 135, 64, 65, 66, 68, 402, 403, 404, 405, 140, 144, 145, 146, 2, 147, 148, 149, 150, 151, 840, 841, 842, 843, 844, 845, 872, 873, 860, 861, 862, 863, 864, 865, 866, 867, 868, 869, 870, 871, 885, 886, 887, 888, 889, 890, 891, 892, 893, 894] (by decide +kernel) (by decide +kernel)
set_option maxRecDepth 20000 in
theorem gL_law_X6_set : GoodIn wsL_law (wsV RL 56 RX6 yX6_set wsX6_set) := goodIn_app (goodIn_of _ (by decide +kernel)) ggL_law_X6_set
set_option maxRecDepth 20000 in
theorem ggL_law_X7_set : GoodIn wsL_law wsX7_set := goodIn_r _ [409, 156, 99, 161, 162, 5, 163, 164, 165, 166, 167, 168, 169, 100, 846, 847, 848, 849, 850, 851, 852, 853, 854, 855, 856, 857, 858, 859] (by decide +kernel) (by decide +kernel)
set_option maxRecDepth 20000 in
theorem gL_law_X7_set : GoodIn wsL_law (wsV RL 59 RX7 yX7_set wsX7_set) := goodIn_app (goodIn_of _ (by decide +kernel)) ggL_law_X7_set
set_option maxRecDepth 20000 in
theorem ggL_law_X6_read : GoodIn wsL_law wsX6_read := goodIn_r _ [413, 15, 414, 415, 416, 417, 418, 238, 2, 239, 419, 178, 179, 420, 421, 422, 14, 423, 37, 235, 424, 241, 242, 243, 41, 42, 425, 426, 427, 40, 428, 66, 65, 429, 430, 431, 36, 432, 433, 434, 435, 436, 356, 357, 358, 359, 56, 327, 328, 329, 330, 331, 55, 437, 438, 439, 440, 57, 441, 442, 443, 444, 445, 446, 447, 448, 449, 450, 451, 452, 58, 453, 454, 455, 456, 59, 840, 841, 842, 843, 844, 845, 860, 861, 862, 863, 864, 865, 866, 867, 868, 869, 870, 871, 891, 892, 893, 894, 885, 886, 887, 888, 889, 890] (by decide +kernel) (by decide +kernel)
set_option maxRecDepth 20000 in
theorem gL_law_X6_read : GoodIn wsL_law (wsV RL 60 RX6 yX6_read wsX6_read) := goodIn_app (goodIn_of _ (by decide +kernel)) ggL_law_X6_read
set_option maxRecDepth 20000 in
theorem ggL_law_X7_read : GoodIn wsL_law wsX7_read := goodIn_r _ [460, 156, 157, 248, 249, 5, 250, 161, 162, 163, 193, 194, 195, 461, 462, 463, 464, 99, 465, 466, 467, 468, 251, 252, 253, 254, 469, 470, 471, 472, 473, 474, 475, 476, 340, 341, 342, 343, 477, 478, 479, 480, 846, 847, 848, 849, 850, 851, 852, 853, 854, 855, 856, 857, 858, 859] (by decide +kernel) (by decide +kernel)
set_option maxRecDepth 20000 in
theorem gL_law_X7_read : GoodIn wsL_law (wsV RL 63 RX7 yX7_read wsX7_read) := goodIn_app (goodIn_of _ (by decide +kernel)) ggL_law_X7_read
set_option maxRecDepth 20000 in
theorem ggL_law_X6_primary : GoodIn wsL_law wsX6_primary := goodIn_r _ [484, 414, 15, 416, 485, 415, 486, 142, 2, 143, 419, 178, 179, 429, 430, 431, 36, 432, 433, 434, 435, 436, 356, 357, 358, 359, 56, 327, 328, 329, 330, 331, 55, 437, 438, 439, 440, 57, 441, 442, 443, 444, 445, 446, 447, 448, 449, 450, 451, 452, 58, 453, 454, 455, 456, 59, 487, 488, 489, 14, 490, 43, 491, 492, 840, 841, 842, 843, 844, 845, 860, 861, 862, 863, 864, 865, 866, 867, 868, 869, 870, 871, 885, 886, 887, 888, 889, 890] (by decide +kernel) (by decide +kernel)
set_option maxRecDepth 20000 in
theorem gL_law_X6_primary : GoodIn wsL_law (wsV RL 64 RX6 yX6_primary wsX6_primary) := goodIn_app (goodIn_of _ (by decide +kernel)) ggL_law_X6_primary
set_option maxRecDepth 20000 in
theorem ggL_law_X7_primary : GoodIn wsL_law wsX7_primary := goodIn_r _ [496, 156, 99, 157, 161, 162, 5, 163, 193, 194, 195, 477, 478, 479, 480, 340, 341, 342, 343, 469, 470, 471, 472, 473, 474, 475, 476, 846, 847, 848, 849, 850, 851, 852, 853, 854, 855, 856, 857, 858, 859] (by decide +kernel) (by decide +kernel)
set_option maxRecDepth 20000 in
theorem gL_law_X7_primary : GoodIn wsL_law (wsV RL 67 RX7 yX7_primary wsX7_primary) := goodIn_app (goodIn_of _ (by decide +kernel)) ggL_law_X7_primary
set_option maxRecDepth 20000 in
theorem ggL_law_X6_serves : GoodIn wsL_law wsX6_serves := goodIn_r _ [500, 15, 414, 501, 502, 417, 503, 420, 421, 422, 14, 423, 37, 235, 425, 426, 427, 40, 428, 66, 65, 840, 841, 842, 843, 844, 845, 860, 861, 862, 863, 864, 865, 866, 867, 868, 869, 870, 871, 891, 892, 893, 894, 885, 886, 887, 888, 889, 890] (by decide +kernel) (by decide +kernel)
set_option maxRecDepth 20000 in
theorem gL_law_X6_serves : GoodIn wsL_law (wsV RL 68 RX6 yX6_serves wsX6_serves) := goodIn_app (goodIn_of _ (by decide +kernel)) ggL_law_X6_serves
set_option maxRecDepth 20000 in
theorem ggL_law_X7_serves : GoodIn wsL_law wsX7_serves := goodIn_r _ [507, 156, 217, 461, 462, 463, 5, 464, 99, 161, 162, 163, 465, 466, 467, 468, 251, 252, 253, 254, 846, 847, 848, 849, 850, 851, 852, 853, 854, 855, 856, 857, 858, 859] (by decide +kernel) (by decide +kernel)
set_option maxRecDepth 20000 in
theorem gL_law_X7_serves : GoodIn wsL_law (wsV RL 71 RX7 yX7_serves wsX7_serves) := goodIn_app (goodIn_of _ (by decide +kernel)) ggL_law_X7_serves
set_option maxRecDepth 20000 in
theorem ggL_law_X6_fence : GoodIn wsL_law wsX6_fence := goodIn_r _ [511, 414, 15, 416, 485, 419, 178, 2, 179, 512, 434, 435, 36, 436, 356, 357, 358, 359, 56, 327, 328, 329, 330, 331, 55, 437, 438, 439, 440, 57, 441, 442, 443, 444, 445, 446, 447, 448, 449, 450, 451, 452, 58, 513, 514, 515, 503, 840, 841, 842, 843, 844, 845, 860, 861, 862, 863, 864, 865, 866, 867, 868, 869, 870, 871, 885, 886, 887, 888, 889, 890] (by decide +kernel) (by decide +kernel)
set_option maxRecDepth 20000 in
theorem gL_law_X6_fence : GoodIn wsL_law (wsV RL 72 RX6 yX6_fence wsX6_fence) := goodIn_app (goodIn_of _ (by decide +kernel)) ggL_law_X6_fence
set_option maxRecDepth 20000 in
theorem ggL_law_X7_fence : GoodIn wsL_law wsX7_fence := goodIn_r _ [519, 156, 99, 217, 193, 194, 5, 195, 161, 162, 163, 473, 474, 475, 476, 340, 341, 342, 343, 477, 478, 479, 480, 846, 847, 848, 849, 850, 851, 852, 853, 854, 855, 856, 857, 858, 859] (by decide +kernel) (by decide +kernel)
set_option maxRecDepth 20000 in
theorem gL_law_X7_fence : GoodIn wsL_law (wsV RL 75 RX7 yX7_fence wsX7_fence) := goodIn_app (goodIn_of _ (by decide +kernel)) ggL_law_X7_fence
set_option maxRecDepth 20000 in
theorem ggL_law_X6_recordOf : GoodIn wsL_law wsX6_recordOf := goodIn_r _ [523, 414, 15, 416, 503, 524, 329, 330, 36, 331, 55, 525, 357, 358, 359, 56, 327, 328, 526, 438, 439, 440, 57, 527, 450, 451, 452, 58, 492, 454, 455, 456, 59, 528, 324, 325, 326, 60, 840, 841, 842, 843, 844, 845, 860, 861, 862, 863, 864, 865, 866, 867, 868, 869, 870, 871, 885, 886, 887, 888, 889, 890] (by decide +kernel) (by decide +kernel)
set_option maxRecDepth 20000 in
theorem gL_law_X6_recordOf : GoodIn wsL_law (wsV RL 76 RX6 yX6_recordOf wsX6_recordOf) := goodIn_app (goodIn_of _ (by decide +kernel)) ggL_law_X6_recordOf
set_option maxRecDepth 20000 in
theorem ggL_law_X7_recordOf : GoodIn wsL_law wsX7_recordOf := goodIn_r _ [532, 156, 99, 217, 161, 162, 5, 163, 340, 341, 342, 343, 846, 847, 848, 849, 850, 851, 852, 853, 854, 855, 856, 857, 858, 859] (by decide +kernel) (by decide +kernel)
set_option maxRecDepth 20000 in
theorem gL_law_X7_recordOf : GoodIn wsL_law (wsV RL 79 RX7 yX7_recordOf wsX7_recordOf) := goodIn_app (goodIn_of _ (by decide +kernel)) ggL_law_X7_recordOf
set_option maxRecDepth 20000 in
theorem ggL_law_X6_standbyOf : GoodIn wsL_law wsX6_standbyOf := goodIn_r _ [536, 414, 15, 416, 537, 417, 538, 485, 539, 503, 418, 238, 2, 239, 424, 241, 242, 14, 243, 41, 42, 540, 273, 274, 40, 275, 68, 541, 542, 543, 544, 513, 514, 515, 545, 353, 354, 36, 355, 55, 356, 357, 358, 359, 56, 327, 328, 329, 330, 331, 524, 528, 324, 325, 326, 60, 546, 547, 548, 549, 29, 30, 550, 551, 552, 553, 437, 438, 439, 440, 57, 554, 555, 556, 557, 445, 446, 447, 448, 449, 450, 451, 452, 58, 453, 454, 455, 456, 59, 558, 559, 560, 840, 841, 842, 843, 844, 845, 860, 861, 862, 863, 864, 865, 866, 867, 868, 869, 870, 871, 891, 892, 893, 894, 885, 886, 887, 888, 889, 890] (by decide +kernel) (by decide +kernel)
set_option maxRecDepth 20000 in
theorem gL_law_X6_standbyOf : GoodIn wsL_law (wsV RL 80 RX6 yX6_standbyOf wsX6_standbyOf) := goodIn_app (goodIn_of _ (by decide +kernel)) ggL_law_X6_standbyOf
set_option maxRecDepth 20000 in
theorem ggL_law_X7_standbyOf : GoodIn wsL_law wsX7_standbyOf := goodIn_r _ [564, 156, 99, 217, 248, 249, 5, 250, 161, 162, 163, 251, 252, 253, 254, 284, 285, 286, 287, 280, 281, 282, 283, 565, 566, 567, 568, 374, 375, 376, 377, 378, 379, 380, 381, 340, 341, 342, 343, 569, 570, 571, 572, 469, 470, 471, 472, 473, 474, 475, 476, 477, 478, 479, 480, 846, 847, 848, 849, 850, 851, 852, 853, 854, 855, 856, 857, 858, 859] (by decide +kernel) (by decide +kernel)
set_option maxRecDepth 20000 in
theorem gL_law_X7_standbyOf : GoodIn wsL_law (wsV RL 83 RX7 yX7_standbyOf wsX7_standbyOf) := goodIn_app (goodIn_of _ (by decide +kernel)) ggL_law_X7_standbyOf
set_option maxRecDepth 20000 in
theorem ggL_law_X6_slotOf : GoodIn wsL_law wsX6_slotOf := goodIn_r _ [576, 414, 15, 503, 416, 486, 142, 2, 143, 487, 488, 489, 14, 490, 43, 577, 578, 579, 36, 580, 55, 445, 446, 447, 448, 437, 438, 439, 440, 57, 327, 328, 329, 330, 331, 356, 357, 358, 359, 56, 840, 841, 842, 843, 844, 845, 860, 861, 862, 863, 864, 865, 866, 867, 868, 869, 870, 871, 885, 886, 887, 888, 889, 890] (by decide +kernel) (by decide +kernel)
set_option maxRecDepth 20000 in
theorem gL_law_X6_slotOf : GoodIn wsL_law (wsV RL 84 RX6 yX6_slotOf wsX6_slotOf) := goodIn_app (goodIn_of _ (by decide +kernel)) ggL_law_X6_slotOf
set_option maxRecDepth 20000 in
theorem ggL_law_X7_slotOf : GoodIn wsL_law wsX7_slotOf := goodIn_r _ [584, 156, 99, 217, 158, 159, 5, 160, 161, 162, 163, 340, 341, 342, 343, 846, 847, 848, 849, 850, 851, 852, 853, 854, 855, 856, 857, 858, 859] (by decide +kernel) (by decide +kernel)
set_option maxRecDepth 20000 in
theorem gL_law_X7_slotOf : GoodIn wsL_law (wsV RL 87 RX7 yX7_slotOf wsX7_slotOf) := goodIn_app (goodIn_of _ (by decide +kernel)) ggL_law_X7_slotOf
set_option maxRecDepth 20000 in
theorem ggL_law_X6_waits : GoodIn wsL_law wsX6_waits := goodIn_r _ [588, 15, 414, 538, 415, 418, 238, 2, 239, 420, 421, 422, 14, 423, 37, 235, 424, 241, 242, 243, 41, 42, 589, 590, 591, 592, 263, 44, 50, 593, 319, 320, 321, 322, 234, 236, 51, 264, 265, 266, 40, 267, 68, 323, 324, 325, 36, 326, 60, 327, 328, 329, 330, 331, 55, 840, 841, 842, 843, 844, 845, 891, 892, 893, 894, 860, 861, 862, 863, 864, 865, 866, 867, 868, 869, 870, 871, 885, 886, 887, 888, 889, 890] (by decide +kernel) (by decide +kernel)
set_option maxRecDepth 20000 in
theorem gL_law_X6_waits : GoodIn wsL_law (wsV RL 88 RX6 yX6_waits wsX6_waits) := goodIn_app (goodIn_of _ (by decide +kernel)) ggL_law_X6_waits
set_option maxRecDepth 20000 in
theorem ggL_law_X7_waits : GoodIn wsL_law wsX7_waits := goodIn_r _ [597, 156, 157, 99, 248, 249, 5, 250, 161, 162, 163, 461, 462, 463, 464, 251, 252, 253, 254, 598, 599, 600, 601, 217, 336, 337, 338, 339, 280, 281, 282, 283, 340, 341, 342, 343, 846, 847, 848, 849, 850, 851, 852, 853, 854, 855, 856, 857, 858, 859] (by decide +kernel) (by decide +kernel)
set_option maxRecDepth 20000 in
theorem gL_law_X7_waits : GoodIn wsL_law (wsV RL 91 RX7 yX7_waits wsX7_waits) := goodIn_app (goodIn_of _ (by decide +kernel)) ggL_law_X7_waits
set_option maxRecDepth 20000 in
theorem ggL_law_X6_wouldLose : GoodIn wsL_law wsX6_wouldLose := goodIn_r _ [605, 414, 15, 538, 415, 416, 417, 418, 238, 2, 239, 424, 241, 242, 14, 243, 41, 42, 545, 353, 354, 36, 355, 55, 356, 357, 358, 359, 56, 327, 328, 329, 330, 331, 840, 841, 842, 843, 844, 845, 891, 892, 893, 894, 860, 861, 862, 863, 864, 865, 866, 867, 868, 869, 870, 871, 885, 886, 887, 888, 889, 890] (by decide +kernel) (by decide +kernel)
set_option maxRecDepth 20000 in
theorem gL_law_X6_wouldLose : GoodIn wsL_law (wsV RL 92 RX6 yX6_wouldLose wsX6_wouldLose) := goodIn_app (goodIn_of _ (by decide +kernel)) ggL_law_X6_wouldLose
set_option maxRecDepth 20000 in
theorem ggL_law_X7_wouldLose : GoodIn wsL_law wsX7_wouldLose := goodIn_r _ [609, 156, 157, 248, 249, 5, 250, 161, 162, 163, 251, 252, 253, 254, 99, 374, 375, 376, 377, 378, 379, 380, 381, 340, 341, 342, 343, 846, 847, 848, 849, 850, 851, 852, 853, 854, 855, 856, 857, 858, 859] (by decide +kernel) (by decide +kernel)
set_option maxRecDepth 20000 in
theorem gL_law_X7_wouldLose : GoodIn wsL_law (wsV RL 95 RX7 yX7_wouldLose wsX7_wouldLose) := goodIn_app (goodIn_of _ (by decide +kernel)) ggL_law_X7_wouldLose
set_option maxRecDepth 20000 in
theorem ggL_law_X6_rateFor : GoodIn wsL_law wsX6_rateFor := goodIn_r _ [613, 414, 15, 538, 415, 418, 238, 2, 239, 614, 317, 318, 424, 241, 242, 14, 243, 41, 42, 615, 616, 617, 618, 593, 619, 620, 621, 40, 622, 64, 623, 542, 543, 544, 68, 624, 625, 626, 627, 263, 44, 319, 320, 321, 322, 234, 236, 37, 51, 264, 265, 266, 267, 323, 324, 325, 36, 326, 60, 327, 328, 329, 330, 331, 55, 840, 841, 842, 843, 844, 845, 891, 892, 893, 894, 860, 861, 862, 863, 864, 865, 866, 867, 868, 869, 870, 871, 885, 886, 887, 888, 889, 890] (by decide +kernel) (by decide +kernel)
set_option maxRecDepth 20000 in
theorem gL_law_X6_rateFor : GoodIn wsL_law (wsV RL 96 RX6 yX6_rateFor wsX6_rateFor) := goodIn_app (goodIn_of _ (by decide +kernel)) ggL_law_X6_rateFor
set_option maxRecDepth 20000 in
theorem ggL_law_X7_rateFor : GoodIn wsL_law wsX7_rateFor := goodIn_r _ [631, 156, 157, 217, 248, 249, 5, 250, 161, 162, 163, 251, 252, 253, 254, 99, 565, 566, 567, 568, 280, 281, 282, 283, 598, 599, 600, 601, 336, 337, 338, 339, 340, 341, 342, 343, 846, 847, 848, 849, 850, 851, 852, 853, 854, 855, 856, 857, 858, 859] (by decide +kernel) (by decide +kernel)
set_option maxRecDepth 20000 in
theorem gL_law_X7_rateFor : GoodIn wsL_law (wsV RL 99 RX7 yX7_rateFor wsX7_rateFor) := goodIn_app (goodIn_of _ (by decide +kernel)) ggL_law_X7_rateFor
set_option maxRecDepth 20000 in
theorem ggL_law_X6_count : GoodIn wsL_law wsX6_count := goodIn_r _ [635, 15, 416, 485, 539, 636, 637, 638, 639, 640, 19, 641, 23, 642, 643, 644, 414, 545, 353, 354, 36, 355, 55, 356, 357, 358, 359, 56, 327, 328, 329, 330, 331, 840, 841, 842, 843, 844, 845, 860, 861, 862, 863, 864, 865, 866, 867, 868, 869, 870, 871, 885, 886, 887, 888, 889, 890, 872, 873, 874, 875, 876, 877, 878, 879] (by decide +kernel) (by decide +kernel)
set_option maxRecDepth 20000 in
theorem gL_law_X6_count : GoodIn wsL_law (wsV RL 100 RX6 yX6_count wsX6_count) := goodIn_app (goodIn_of _ (by decide +kernel)) ggL_law_X6_count
set_option maxRecDepth 20000 in
theorem ggL_law_X7_count : GoodIn wsL_law wsX7_count := goodIn_r _ [648, 99, 169, 649, 156, 378, 379, 380, 5, 381, 340, 341, 342, 343, 846, 847, 848, 849, 850, 851, 852, 853, 854, 855, 856, 857, 858, 859] (by decide +kernel) (by decide +kernel)
set_option maxRecDepth 20000 in
theorem gL_law_X7_count : GoodIn wsL_law (wsV RL 103 RX7 yX7_count wsX7_count) := goodIn_app (goodIn_of _ (by decide +kernel)) ggL_law_X7_count
set_option maxRecDepth 20000 in
theorem ggL_law_X6_undo : GoodIn wsL_law wsX6_undo := goodIn_r _ [653, 19, 15, 641, 415, 654, 655, 656, 18, 657, 75, 74, 112, 113, 114, 14, 115, 37, 41, 42, 43, 116, 117, 118, 119, 44, 45, 46, 47, 48, 49, 50, 51, 120, 121, 122, 36, 123, 55, 124, 125, 126, 127, 128, 129, 130, 56, 131, 57, 58, 59, 60, 132, 133, 134, 40, 135, 64, 65, 66, 68, 840, 841, 842, 843, 844, 845, 872, 873, 860, 861, 862, 863, 864, 865, 866, 867, 868, 869, 870, 871, 885, 886, 887, 888, 889, 890, 891, 892, 893, 894] (by decide +kernel) (by decide +kernel)
set_option maxRecDepth 20000 in
theorem gL_law_X6_undo : GoodIn wsL_law (wsV RL 104 RX6 yX6_undo wsX6_undo) := goodIn_app (goodIn_of _ (by decide +kernel)) ggL_law_X6_undo
set_option maxRecDepth 20000 in
theorem ggL_law_X7_undo : GoodIn wsL_law wsX7_undo := goodIn_r _ [661, 169, 157, 99, 100, 846, 847, 848, 849, 850, 851, 852, 853, 854, 855, 856, 857, 858, 859] (by decide +kernel) (by decide +kernel)
set_option maxRecDepth 20000 in
theorem gL_law_X7_undo : GoodIn wsL_law (wsV RL 108 RX7 yX7_undo wsX7_undo) := goodIn_app (goodIn_of _ (by decide +kernel)) ggL_law_X7_undo
set_option maxRecDepth 20000 in
theorem ggL_law_X6_type : GoodIn wsL_law wsX6_type := goodIn_r _ [665, 414, 23, 642, 666, 667, 668, 669, 22, 670, 81, 80, 840, 841, 842, 843, 844, 845, 874, 875, 876, 877, 878, 879] (by decide +kernel) (by decide +kernel)
set_option maxRecDepth 20000 in
theorem gL_law_X6_type : GoodIn wsL_law (wsV RL 109 RX6 yX6_type wsX6_type) := goodIn_app (goodIn_of _ (by decide +kernel)) ggL_law_X6_type
set_option maxRecDepth 20000 in
theorem ggL_law_X7_type : GoodIn wsL_law wsX7_type := goodIn_r _ [674, 156, 649, 200, 102, 161, 162, 5, 163, 846, 847, 848, 849, 850, 851, 852, 853, 854, 855, 856, 857, 858, 859] (by decide +kernel) (by decide +kernel)
set_option maxRecDepth 20000 in
theorem gL_law_X7_type : GoodIn wsL_law (wsV RL 112 RX7 yX7_type wsX7_type) := goodIn_app (goodIn_of _ (by decide +kernel)) ggL_law_X7_type
set_option maxRecDepth 20000 in
theorem ggL_law_X6_clearText : GoodIn wsL_law wsX6_clearText := goodIn_r _ [678, 23, 642, 840, 841, 842, 843, 844, 845, 874, 875, 876, 877, 878, 879] (by decide +kernel) (by decide +kernel)
set_option maxRecDepth 20000 in
theorem gL_law_X6_clearText : GoodIn wsL_law (wsV RL 113 RX6 yX6_clearText wsX6_clearText) := goodIn_app (goodIn_of _ (by decide +kernel)) ggL_law_X6_clearText
set_option maxRecDepth 20000 in
theorem ggL_law_X7_clearText : GoodIn wsL_law wsX7_clearText := goodIn_r _ [682, 649, 846, 847, 848, 849, 850, 851, 852, 853, 854, 855, 856, 857, 858, 859] (by decide +kernel) (by decide +kernel)
set_option maxRecDepth 20000 in
theorem gL_law_X7_clearText : GoodIn wsL_law (wsV RL 116 RX7 yX7_clearText wsX7_clearText) := goodIn_app (goodIn_of _ (by decide +kernel)) ggL_law_X7_clearText
set_option maxRecDepth 20000 in
theorem ggL_law_X6_fault : GoodIn wsL_law wsX6_fault := goodIn_r _ [686, 414, 27, 23, 15, 687, 503, 688, 689, 690, 691, 692, 26, 693, 90, 92, 93, 94, 91, 694, 695, 696, 113, 114, 14, 115, 37, 41, 42, 43, 116, 117, 118, 119, 44, 45, 46, 47, 48, 49, 50, 51, 120, 121, 122, 36, 123, 55, 124, 125, 126, 127, 128, 129, 130, 56, 131, 57, 58, 59, 60, 132, 133, 134, 40, 135, 64, 65, 66, 68, 697, 698, 699, 22, 700, 82, 85, 83, 701, 702, 703, 704, 81, 80, 705, 706, 707, 708, 709, 710, 711, 712, 713, 714, 715, 716, 717, 718, 719, 720, 721, 722, 723, 724, 725, 726, 727, 728, 729, 730, 731, 732, 733, 734, 735, 736, 737, 738, 739, 740, 741, 742, 743, 744, 745, 746, 747, 748, 749, 750, 751, 752, 753, 754, 755, 756, 757, 758, 759, 760, 761, 762, 763, 764, 765, 766, 767, 768, 84, 769, 770, 771, 772, 773, 774, 775, 776, 777, 778, 779, 780, 781, 137, 138, 139, 140, 141, 142, 2, 143, 782, 175, 176, 177, 178, 179, 180, 181, 182, 183, 184, 185, 186, 187, 188, 783, 210, 211, 212, 784, 231, 232, 233, 234, 235, 236, 237, 238, 239, 240, 241, 242, 243, 785, 314, 315, 316, 263, 317, 318, 319, 320, 321, 322, 264, 265, 266, 267, 323, 324, 325, 326, 327, 328, 329, 330, 331, 840, 841, 842, 843, 844, 845, 880, 881, 882, 883, 884, 874, 875, 876, 877, 878, 879, 860, 861, 862, 863, 864, 865, 866, 867, 868, 869, 870, 871, 885, 886, 887, 888, 889, 890, 891, 892, 893, 894] (by decide +kernel) (by decide +kernel)
set_option maxRecDepth 20000 in
theorem gL_law_X6_fault : GoodIn wsL_law (wsV RL 117 RX6 yX6_fault wsX6_fault) := goodIn_app (goodIn_of _ (by decide +kernel)) ggL_law_X6_fault
set_option maxRecDepth 20000 in
theorem ggL_law_X7_fault : GoodIn wsL_law wsX7_fault := goodIn_r _ [789, 156, 99, 101, 217, 790, 791, 792, 161, 162, 5, 163, 793, 794, 795, 796, 797, 798, 799, 168, 800, 801, 649, 802, 803, 804, 805, 102, 806, 807, 808, 809, 810, 811, 812, 813, 814, 103, 815, 816, 817, 818, 819, 820, 821, 822, 823, 153, 154, 155, 157, 158, 159, 160, 164, 165, 166, 167, 169, 100, 824, 214, 215, 216, 196, 197, 198, 199, 200, 201, 202, 203, 204, 825, 223, 224, 225, 826, 190, 191, 192, 193, 194, 195, 827, 245, 246, 247, 248, 249, 250, 251, 252, 253, 254, 828, 333, 334, 335, 336, 337, 338, 339, 280, 281, 282, 283, 340, 341, 342, 343, 846, 847, 848, 849, 850, 851, 852, 853, 854, 855, 856, 857, 858, 859] (by decide +kernel) (by decide +kernel)
set_option maxRecDepth 20000 in
theorem gL_law_X7_fault : GoodIn wsL_law (wsV RL 120 RX7 yX7_fault wsX7_fault) := goodIn_app (goodIn_of _ (by decide +kernel)) ggL_law_X7_fault
set_option maxRecDepth 20000 in
theorem ggL_law_X6_play : GoodIn wsL_law wsX6_play := goodIn_r _ [832, 27, 23, 15, 687, 415, 19, 833, 834, 690, 691, 692, 26, 693, 90, 92, 93, 94, 91, 694, 695, 696, 113, 114, 14, 115, 37, 41, 42, 43, 116, 117, 118, 119, 44, 45, 46, 47, 48, 49, 50, 51, 120, 121, 122, 36, 123, 55, 124, 125, 126, 127, 128, 129, 130, 56, 131, 57, 58, 59, 60, 132, 133, 134, 40, 135, 64, 65, 66, 68, 697, 698, 699, 22, 700, 82, 85, 83, 701, 702, 703, 704, 81, 80, 705, 706, 707, 708, 709, 710, 711, 712, 713, 714, 715, 716, 717, 718, 719, 720, 721, 722, 723, 724, 725, 726, 727, 728, 729, 730, 731, 732, 733, 734, 735, 736, 737, 738, 739, 740, 741, 742, 743, 744, 745, 746, 747, 748, 749, 750, 751, 752, 753, 754, 755, 756, 757, 758, 759, 760, 761, 762, 763, 764, 765, 766, 767, 768, 84, 769, 770, 771, 772, 773, 774, 775, 776, 777, 778, 779, 780, 781, 137, 138, 139, 140, 141, 142, 2, 143, 782, 175, 176, 177, 178, 179, 180, 181, 182, 183, 184, 185, 186, 187, 188, 783, 210, 211, 212, 784, 231, 232, 233, 234, 235, 236, 237, 238, 239, 240, 241, 242, 243, 785, 314, 315, 316, 263, 317, 318, 319, 320, 321, 322, 264, 265, 266, 267, 323, 324, 325, 326, 327, 328, 329, 330, 331, 108, 109, 110, 18, 111, 75, 74, 112, 835, 144, 145, 146, 147, 148, 149, 150, 151, 840, 841, 842, 843, 844, 845, 880, 881, 882, 883, 884, 874, 875, 876, 877, 878, 879, 860, 861, 862, 863, 864, 865, 866, 867, 868, 869, 870, 871, 885, 886, 887, 888, 889, 890, 891, 892, 893, 894, 872, 873] (by decide +kernel) (by decide +kernel)
set_option maxRecDepth 20000 in
theorem gL_law_X6_play : GoodIn wsL_law (wsV RL 121 RX6 yX6_play wsX6_play) := goodIn_app (goodIn_of _ (by decide +kernel)) ggL_law_X6_play
set_option maxRecDepth 20000 in
theorem ggL_law_X7_play : GoodIn wsL_law wsX7_play := goodIn_r _ [839, 99, 101, 157, 801, 217, 793, 794, 5, 795, 796, 797, 798, 799, 168, 800, 790, 649, 791, 792, 802, 803, 804, 805, 102, 806, 807, 808, 809, 810, 161, 162, 163, 811, 812, 813, 814, 103, 815, 816, 817, 818, 819, 820, 821, 822, 823, 153, 154, 155, 156, 158, 159, 160, 164, 165, 166, 167, 169, 100, 824, 214, 215, 216, 196, 197, 198, 199, 200, 201, 202, 203, 204, 825, 223, 224, 225, 826, 190, 191, 192, 193, 194, 195, 827, 245, 246, 247, 248, 249, 250, 251, 252, 253, 254, 828, 333, 334, 335, 336, 337, 338, 339, 280, 281, 282, 283, 340, 341, 342, 343, 846, 847, 848, 849, 850, 851, 852, 853, 854, 855, 856, 857, 858, 859] (by decide +kernel) (by decide +kernel)
set_option maxRecDepth 20000 in
theorem gL_law_X7_play : GoodIn wsL_law (wsV RL 124 RX7 yX7_play wsX7_play) := goodIn_app (goodIn_of _ (by decide +kernel)) ggL_law_X7_play
theorem dL_law_0 : decode cL_law 0 = .ok (.new 7, 3) := by decide +kernel
theorem dL_law_3 : decode cL_law 3 = .ok (.dup, 1) := by decide +kernel
theorem dL_law_4 : decode cL_law 4 = .ok (.invokespecial 9, 3) := by decide +kernel
theorem dL_law_7 : decode cL_law 7 = .ok (.astore_n 1, 1) := by decide +kernel
theorem dL_law_8 : decode cL_law 8 = .ok (.new 10, 3) := by decide +kernel
theorem dL_law_11 : decode cL_law 11 = .ok (.dup, 1) := by decide +kernel
theorem dL_law_12 : decode cL_law 12 = .ok (.invokespecial 12, 3) := by decide +kernel
theorem dL_law_15 : decode cL_law 15 = .ok (.astore_n 2, 1) := by decide +kernel
theorem dL_law_16 : decode cL_law 16 = .ok (.iconst 0, 1) := by decide +kernel
theorem dL_law_17 : decode cL_law 17 = .ok (.istore_n 3, 1) := by decide +kernel
theorem dL_law_18 : decode cL_law 18 = .ok (.iload_n 3, 1) := by decide +kernel
theorem dL_law_19 : decode cL_law 19 = .ok (.aload_n 0, 1) := by decide +kernel
theorem dL_law_20 : decode cL_law 20 = .ok (.arraylength, 1) := by decide +kernel
theorem dL_law_21 : decode cL_law 21 = .ok (.iconst 4, 1) := by decide +kernel
theorem dL_law_22 : decode cL_law 22 = .ok (.isub, 1) := by decide +kernel
theorem dL_law_23 : decode cL_law 23 = .ok (.if_icmp .gt 860, 3) := by decide +kernel
theorem dL_law_26 : decode cL_law 26 = .ok (.aload_n 0, 1) := by decide +kernel
theorem dL_law_27 : decode cL_law 27 = .ok (.iload_n 3, 1) := by decide +kernel
theorem dL_law_28 : decode cL_law 28 = .ok (.iaload, 1) := by decide +kernel
theorem dL_law_29 : decode cL_law 29 = .ok (.bipush 31, 2) := by decide +kernel
theorem dL_law_31 : decode cL_law 31 = .ok (.iand, 1) := by decide +kernel
theorem dL_law_32 : decode cL_law 32 = .ok (.tableswitch 845 0 26 #[124, 147, 190, 213, 236, 269, 302, 325, 348, 371, 394, 427, 470, 503, 526, 549, 582, 615, 648, 681, 704, 737, 760, 773, 796, 809, 832], 124) := by decide +kernel
theorem dL_law_156 : decode cL_law 156 = .ok (.aload_n 1, 1) := by decide +kernel
theorem dL_law_157 : decode cL_law 157 = .ok (.aload_n 0, 1) := by decide +kernel
theorem dL_law_158 : decode cL_law 158 = .ok (.iload_n 3, 1) := by decide +kernel
theorem dL_law_159 : decode cL_law 159 = .ok (.iconst 1, 1) := by decide +kernel
theorem dL_law_160 : decode cL_law 160 = .ok (.iadd, 1) := by decide +kernel
theorem dL_law_161 : decode cL_law 161 = .ok (.iaload, 1) := by decide +kernel
theorem dL_law_162 : decode cL_law 162 = .ok (.invokevirtual 13, 3) := by decide +kernel
theorem dL_law_165 : decode cL_law 165 = .ok (.aload_n 2, 1) := by decide +kernel
theorem dL_law_166 : decode cL_law 166 = .ok (.aload_n 0, 1) := by decide +kernel
theorem dL_law_167 : decode cL_law 167 = .ok (.iload_n 3, 1) := by decide +kernel
theorem dL_law_168 : decode cL_law 168 = .ok (.iconst 1, 1) := by decide +kernel
theorem dL_law_169 : decode cL_law 169 = .ok (.iadd, 1) := by decide +kernel
theorem dL_law_170 : decode cL_law 170 = .ok (.iaload, 1) := by decide +kernel
theorem dL_law_171 : decode cL_law 171 = .ok (.invokevirtual 17, 3) := by decide +kernel
theorem dL_law_174 : decode cL_law 174 = .ok (.if_icmp .eq 703, 3) := by decide +kernel
theorem dL_law_177 : decode cL_law 177 = .ok (.iconst 0, 1) := by decide +kernel
theorem dL_law_178 : decode cL_law 178 = .ok (.ireturn, 1) := by decide +kernel
theorem dL_law_179 : decode cL_law 179 = .ok (.aload_n 1, 1) := by decide +kernel
theorem dL_law_180 : decode cL_law 180 = .ok (.aload_n 0, 1) := by decide +kernel
theorem dL_law_181 : decode cL_law 181 = .ok (.iload_n 3, 1) := by decide +kernel
theorem dL_law_182 : decode cL_law 182 = .ok (.iconst 1, 1) := by decide +kernel
theorem dL_law_183 : decode cL_law 183 = .ok (.iadd, 1) := by decide +kernel
theorem dL_law_184 : decode cL_law 184 = .ok (.iaload, 1) := by decide +kernel
theorem dL_law_185 : decode cL_law 185 = .ok (.aload_n 0, 1) := by decide +kernel
theorem dL_law_186 : decode cL_law 186 = .ok (.iload_n 3, 1) := by decide +kernel
theorem dL_law_187 : decode cL_law 187 = .ok (.iconst 2, 1) := by decide +kernel
theorem dL_law_188 : decode cL_law 188 = .ok (.iadd, 1) := by decide +kernel
theorem dL_law_189 : decode cL_law 189 = .ok (.iaload, 1) := by decide +kernel
theorem dL_law_190 : decode cL_law 190 = .ok (.aload_n 0, 1) := by decide +kernel
theorem dL_law_191 : decode cL_law 191 = .ok (.iload_n 3, 1) := by decide +kernel
theorem dL_law_192 : decode cL_law 192 = .ok (.iconst 3, 1) := by decide +kernel
theorem dL_law_193 : decode cL_law 193 = .ok (.iadd, 1) := by decide +kernel
theorem dL_law_194 : decode cL_law 194 = .ok (.iaload, 1) := by decide +kernel
theorem dL_law_195 : decode cL_law 195 = .ok (.invokevirtual 18, 3) := by decide +kernel
theorem dL_law_198 : decode cL_law 198 = .ok (.aload_n 2, 1) := by decide +kernel
theorem dL_law_199 : decode cL_law 199 = .ok (.aload_n 0, 1) := by decide +kernel
theorem dL_law_200 : decode cL_law 200 = .ok (.iload_n 3, 1) := by decide +kernel
theorem dL_law_201 : decode cL_law 201 = .ok (.iconst 1, 1) := by decide +kernel
theorem dL_law_202 : decode cL_law 202 = .ok (.iadd, 1) := by decide +kernel
theorem dL_law_203 : decode cL_law 203 = .ok (.iaload, 1) := by decide +kernel
theorem dL_law_204 : decode cL_law 204 = .ok (.aload_n 0, 1) := by decide +kernel
theorem dL_law_205 : decode cL_law 205 = .ok (.iload_n 3, 1) := by decide +kernel
theorem dL_law_206 : decode cL_law 206 = .ok (.iconst 2, 1) := by decide +kernel
theorem dL_law_207 : decode cL_law 207 = .ok (.iadd, 1) := by decide +kernel
theorem dL_law_208 : decode cL_law 208 = .ok (.iaload, 1) := by decide +kernel
theorem dL_law_209 : decode cL_law 209 = .ok (.aload_n 0, 1) := by decide +kernel
theorem dL_law_210 : decode cL_law 210 = .ok (.iload_n 3, 1) := by decide +kernel
theorem dL_law_211 : decode cL_law 211 = .ok (.iconst 3, 1) := by decide +kernel
theorem dL_law_212 : decode cL_law 212 = .ok (.iadd, 1) := by decide +kernel
theorem dL_law_213 : decode cL_law 213 = .ok (.iaload, 1) := by decide +kernel
theorem dL_law_214 : decode cL_law 214 = .ok (.invokevirtual 22, 3) := by decide +kernel
theorem dL_law_217 : decode cL_law 217 = .ok (.if_icmp .eq 660, 3) := by decide +kernel
theorem dL_law_220 : decode cL_law 220 = .ok (.iconst 0, 1) := by decide +kernel
theorem dL_law_221 : decode cL_law 221 = .ok (.ireturn, 1) := by decide +kernel
theorem dL_law_222 : decode cL_law 222 = .ok (.aload_n 1, 1) := by decide +kernel
theorem dL_law_223 : decode cL_law 223 = .ok (.aload_n 0, 1) := by decide +kernel
theorem dL_law_224 : decode cL_law 224 = .ok (.iload_n 3, 1) := by decide +kernel
theorem dL_law_225 : decode cL_law 225 = .ok (.iconst 1, 1) := by decide +kernel
theorem dL_law_226 : decode cL_law 226 = .ok (.iadd, 1) := by decide +kernel
theorem dL_law_227 : decode cL_law 227 = .ok (.iaload, 1) := by decide +kernel
theorem dL_law_228 : decode cL_law 228 = .ok (.invokevirtual 23, 3) := by decide +kernel
theorem dL_law_231 : decode cL_law 231 = .ok (.aload_n 2, 1) := by decide +kernel
theorem dL_law_232 : decode cL_law 232 = .ok (.aload_n 0, 1) := by decide +kernel
theorem dL_law_233 : decode cL_law 233 = .ok (.iload_n 3, 1) := by decide +kernel
theorem dL_law_234 : decode cL_law 234 = .ok (.iconst 1, 1) := by decide +kernel
theorem dL_law_235 : decode cL_law 235 = .ok (.iadd, 1) := by decide +kernel
theorem dL_law_236 : decode cL_law 236 = .ok (.iaload, 1) := by decide +kernel
theorem dL_law_237 : decode cL_law 237 = .ok (.invokevirtual 26, 3) := by decide +kernel
theorem dL_law_240 : decode cL_law 240 = .ok (.if_icmp .eq 637, 3) := by decide +kernel
theorem dL_law_243 : decode cL_law 243 = .ok (.iconst 0, 1) := by decide +kernel
theorem dL_law_244 : decode cL_law 244 = .ok (.ireturn, 1) := by decide +kernel
theorem dL_law_245 : decode cL_law 245 = .ok (.aload_n 1, 1) := by decide +kernel
theorem dL_law_246 : decode cL_law 246 = .ok (.aload_n 0, 1) := by decide +kernel
theorem dL_law_247 : decode cL_law 247 = .ok (.iload_n 3, 1) := by decide +kernel
theorem dL_law_248 : decode cL_law 248 = .ok (.iconst 1, 1) := by decide +kernel
theorem dL_law_249 : decode cL_law 249 = .ok (.iadd, 1) := by decide +kernel
theorem dL_law_250 : decode cL_law 250 = .ok (.iaload, 1) := by decide +kernel
theorem dL_law_251 : decode cL_law 251 = .ok (.invokevirtual 27, 3) := by decide +kernel
theorem dL_law_254 : decode cL_law 254 = .ok (.aload_n 2, 1) := by decide +kernel
theorem dL_law_255 : decode cL_law 255 = .ok (.aload_n 0, 1) := by decide +kernel
theorem dL_law_256 : decode cL_law 256 = .ok (.iload_n 3, 1) := by decide +kernel
theorem dL_law_257 : decode cL_law 257 = .ok (.iconst 1, 1) := by decide +kernel
theorem dL_law_258 : decode cL_law 258 = .ok (.iadd, 1) := by decide +kernel
theorem dL_law_259 : decode cL_law 259 = .ok (.iaload, 1) := by decide +kernel
theorem dL_law_260 : decode cL_law 260 = .ok (.invokevirtual 30, 3) := by decide +kernel
theorem dL_law_263 : decode cL_law 263 = .ok (.if_icmp .eq 614, 3) := by decide +kernel
theorem dL_law_266 : decode cL_law 266 = .ok (.iconst 0, 1) := by decide +kernel
theorem dL_law_267 : decode cL_law 267 = .ok (.ireturn, 1) := by decide +kernel
theorem dL_law_268 : decode cL_law 268 = .ok (.aload_n 1, 1) := by decide +kernel
theorem dL_law_269 : decode cL_law 269 = .ok (.aload_n 0, 1) := by decide +kernel
theorem dL_law_270 : decode cL_law 270 = .ok (.iload_n 3, 1) := by decide +kernel
theorem dL_law_271 : decode cL_law 271 = .ok (.iconst 1, 1) := by decide +kernel
theorem dL_law_272 : decode cL_law 272 = .ok (.iadd, 1) := by decide +kernel
theorem dL_law_273 : decode cL_law 273 = .ok (.iaload, 1) := by decide +kernel
theorem dL_law_274 : decode cL_law 274 = .ok (.aload_n 0, 1) := by decide +kernel
theorem dL_law_275 : decode cL_law 275 = .ok (.iload_n 3, 1) := by decide +kernel
theorem dL_law_276 : decode cL_law 276 = .ok (.iconst 2, 1) := by decide +kernel
theorem dL_law_277 : decode cL_law 277 = .ok (.iadd, 1) := by decide +kernel
theorem dL_law_278 : decode cL_law 278 = .ok (.iaload, 1) := by decide +kernel
theorem dL_law_279 : decode cL_law 279 = .ok (.invokevirtual 31, 3) := by decide +kernel
theorem dL_law_282 : decode cL_law 282 = .ok (.aload_n 2, 1) := by decide +kernel
theorem dL_law_283 : decode cL_law 283 = .ok (.aload_n 0, 1) := by decide +kernel
theorem dL_law_284 : decode cL_law 284 = .ok (.iload_n 3, 1) := by decide +kernel
theorem dL_law_285 : decode cL_law 285 = .ok (.iconst 1, 1) := by decide +kernel
theorem dL_law_286 : decode cL_law 286 = .ok (.iadd, 1) := by decide +kernel
theorem dL_law_287 : decode cL_law 287 = .ok (.iaload, 1) := by decide +kernel
theorem dL_law_288 : decode cL_law 288 = .ok (.aload_n 0, 1) := by decide +kernel
theorem dL_law_289 : decode cL_law 289 = .ok (.iload_n 3, 1) := by decide +kernel
theorem dL_law_290 : decode cL_law 290 = .ok (.iconst 2, 1) := by decide +kernel
theorem dL_law_291 : decode cL_law 291 = .ok (.iadd, 1) := by decide +kernel
theorem dL_law_292 : decode cL_law 292 = .ok (.iaload, 1) := by decide +kernel
theorem dL_law_293 : decode cL_law 293 = .ok (.invokevirtual 35, 3) := by decide +kernel
theorem dL_law_296 : decode cL_law 296 = .ok (.if_icmp .eq 581, 3) := by decide +kernel
theorem dL_law_299 : decode cL_law 299 = .ok (.iconst 0, 1) := by decide +kernel
theorem dL_law_300 : decode cL_law 300 = .ok (.ireturn, 1) := by decide +kernel
theorem dL_law_301 : decode cL_law 301 = .ok (.aload_n 1, 1) := by decide +kernel
theorem dL_law_302 : decode cL_law 302 = .ok (.aload_n 0, 1) := by decide +kernel
theorem dL_law_303 : decode cL_law 303 = .ok (.iload_n 3, 1) := by decide +kernel
theorem dL_law_304 : decode cL_law 304 = .ok (.iconst 1, 1) := by decide +kernel
theorem dL_law_305 : decode cL_law 305 = .ok (.iadd, 1) := by decide +kernel
theorem dL_law_306 : decode cL_law 306 = .ok (.iaload, 1) := by decide +kernel
theorem dL_law_307 : decode cL_law 307 = .ok (.aload_n 0, 1) := by decide +kernel
theorem dL_law_308 : decode cL_law 308 = .ok (.iload_n 3, 1) := by decide +kernel
theorem dL_law_309 : decode cL_law 309 = .ok (.iconst 2, 1) := by decide +kernel
theorem dL_law_310 : decode cL_law 310 = .ok (.iadd, 1) := by decide +kernel
theorem dL_law_311 : decode cL_law 311 = .ok (.iaload, 1) := by decide +kernel
theorem dL_law_312 : decode cL_law 312 = .ok (.invokevirtual 36, 3) := by decide +kernel
theorem dL_law_315 : decode cL_law 315 = .ok (.aload_n 2, 1) := by decide +kernel
theorem dL_law_316 : decode cL_law 316 = .ok (.aload_n 0, 1) := by decide +kernel
theorem dL_law_317 : decode cL_law 317 = .ok (.iload_n 3, 1) := by decide +kernel
theorem dL_law_318 : decode cL_law 318 = .ok (.iconst 1, 1) := by decide +kernel
theorem dL_law_319 : decode cL_law 319 = .ok (.iadd, 1) := by decide +kernel
theorem dL_law_320 : decode cL_law 320 = .ok (.iaload, 1) := by decide +kernel
theorem dL_law_321 : decode cL_law 321 = .ok (.aload_n 0, 1) := by decide +kernel
theorem dL_law_322 : decode cL_law 322 = .ok (.iload_n 3, 1) := by decide +kernel
theorem dL_law_323 : decode cL_law 323 = .ok (.iconst 2, 1) := by decide +kernel
theorem dL_law_324 : decode cL_law 324 = .ok (.iadd, 1) := by decide +kernel
theorem dL_law_325 : decode cL_law 325 = .ok (.iaload, 1) := by decide +kernel
theorem dL_law_326 : decode cL_law 326 = .ok (.invokevirtual 39, 3) := by decide +kernel
theorem dL_law_329 : decode cL_law 329 = .ok (.if_icmp .eq 548, 3) := by decide +kernel
theorem dL_law_332 : decode cL_law 332 = .ok (.iconst 0, 1) := by decide +kernel
theorem dL_law_333 : decode cL_law 333 = .ok (.ireturn, 1) := by decide +kernel
theorem dL_law_334 : decode cL_law 334 = .ok (.aload_n 1, 1) := by decide +kernel
theorem dL_law_335 : decode cL_law 335 = .ok (.aload_n 0, 1) := by decide +kernel
theorem dL_law_336 : decode cL_law 336 = .ok (.iload_n 3, 1) := by decide +kernel
theorem dL_law_337 : decode cL_law 337 = .ok (.iconst 1, 1) := by decide +kernel
theorem dL_law_338 : decode cL_law 338 = .ok (.iadd, 1) := by decide +kernel
theorem dL_law_339 : decode cL_law 339 = .ok (.iaload, 1) := by decide +kernel
theorem dL_law_340 : decode cL_law 340 = .ok (.invokevirtual 40, 3) := by decide +kernel
theorem dL_law_343 : decode cL_law 343 = .ok (.aload_n 2, 1) := by decide +kernel
theorem dL_law_344 : decode cL_law 344 = .ok (.aload_n 0, 1) := by decide +kernel
theorem dL_law_345 : decode cL_law 345 = .ok (.iload_n 3, 1) := by decide +kernel
theorem dL_law_346 : decode cL_law 346 = .ok (.iconst 1, 1) := by decide +kernel
theorem dL_law_347 : decode cL_law 347 = .ok (.iadd, 1) := by decide +kernel
theorem dL_law_348 : decode cL_law 348 = .ok (.iaload, 1) := by decide +kernel
theorem dL_law_349 : decode cL_law 349 = .ok (.invokevirtual 43, 3) := by decide +kernel
theorem dL_law_352 : decode cL_law 352 = .ok (.if_icmp .eq 525, 3) := by decide +kernel
theorem dL_law_355 : decode cL_law 355 = .ok (.iconst 0, 1) := by decide +kernel
theorem dL_law_356 : decode cL_law 356 = .ok (.ireturn, 1) := by decide +kernel
theorem dL_law_357 : decode cL_law 357 = .ok (.aload_n 1, 1) := by decide +kernel
theorem dL_law_358 : decode cL_law 358 = .ok (.aload_n 0, 1) := by decide +kernel
theorem dL_law_359 : decode cL_law 359 = .ok (.iload_n 3, 1) := by decide +kernel
theorem dL_law_360 : decode cL_law 360 = .ok (.iconst 1, 1) := by decide +kernel
theorem dL_law_361 : decode cL_law 361 = .ok (.iadd, 1) := by decide +kernel
theorem dL_law_362 : decode cL_law 362 = .ok (.iaload, 1) := by decide +kernel
theorem dL_law_363 : decode cL_law 363 = .ok (.invokevirtual 44, 3) := by decide +kernel
theorem dL_law_366 : decode cL_law 366 = .ok (.aload_n 2, 1) := by decide +kernel
theorem dL_law_367 : decode cL_law 367 = .ok (.aload_n 0, 1) := by decide +kernel
theorem dL_law_368 : decode cL_law 368 = .ok (.iload_n 3, 1) := by decide +kernel
theorem dL_law_369 : decode cL_law 369 = .ok (.iconst 1, 1) := by decide +kernel
theorem dL_law_370 : decode cL_law 370 = .ok (.iadd, 1) := by decide +kernel
theorem dL_law_371 : decode cL_law 371 = .ok (.iaload, 1) := by decide +kernel
theorem dL_law_372 : decode cL_law 372 = .ok (.invokevirtual 47, 3) := by decide +kernel
theorem dL_law_375 : decode cL_law 375 = .ok (.if_icmp .eq 502, 3) := by decide +kernel
theorem dL_law_378 : decode cL_law 378 = .ok (.iconst 0, 1) := by decide +kernel
theorem dL_law_379 : decode cL_law 379 = .ok (.ireturn, 1) := by decide +kernel
theorem dL_law_380 : decode cL_law 380 = .ok (.aload_n 1, 1) := by decide +kernel
theorem dL_law_381 : decode cL_law 381 = .ok (.aload_n 0, 1) := by decide +kernel
theorem dL_law_382 : decode cL_law 382 = .ok (.iload_n 3, 1) := by decide +kernel
theorem dL_law_383 : decode cL_law 383 = .ok (.iconst 1, 1) := by decide +kernel
theorem dL_law_384 : decode cL_law 384 = .ok (.iadd, 1) := by decide +kernel
theorem dL_law_385 : decode cL_law 385 = .ok (.iaload, 1) := by decide +kernel
theorem dL_law_386 : decode cL_law 386 = .ok (.invokevirtual 48, 3) := by decide +kernel
theorem dL_law_389 : decode cL_law 389 = .ok (.aload_n 2, 1) := by decide +kernel
theorem dL_law_390 : decode cL_law 390 = .ok (.aload_n 0, 1) := by decide +kernel
theorem dL_law_391 : decode cL_law 391 = .ok (.iload_n 3, 1) := by decide +kernel
theorem dL_law_392 : decode cL_law 392 = .ok (.iconst 1, 1) := by decide +kernel
theorem dL_law_393 : decode cL_law 393 = .ok (.iadd, 1) := by decide +kernel
theorem dL_law_394 : decode cL_law 394 = .ok (.iaload, 1) := by decide +kernel
theorem dL_law_395 : decode cL_law 395 = .ok (.invokevirtual 51, 3) := by decide +kernel
theorem dL_law_398 : decode cL_law 398 = .ok (.if_icmp .eq 479, 3) := by decide +kernel
theorem dL_law_401 : decode cL_law 401 = .ok (.iconst 0, 1) := by decide +kernel
theorem dL_law_402 : decode cL_law 402 = .ok (.ireturn, 1) := by decide +kernel
theorem dL_law_403 : decode cL_law 403 = .ok (.aload_n 1, 1) := by decide +kernel
theorem dL_law_404 : decode cL_law 404 = .ok (.aload_n 0, 1) := by decide +kernel
theorem dL_law_405 : decode cL_law 405 = .ok (.iload_n 3, 1) := by decide +kernel
theorem dL_law_406 : decode cL_law 406 = .ok (.iconst 1, 1) := by decide +kernel
theorem dL_law_407 : decode cL_law 407 = .ok (.iadd, 1) := by decide +kernel
theorem dL_law_408 : decode cL_law 408 = .ok (.iaload, 1) := by decide +kernel
theorem dL_law_409 : decode cL_law 409 = .ok (.invokevirtual 52, 3) := by decide +kernel
theorem dL_law_412 : decode cL_law 412 = .ok (.aload_n 2, 1) := by decide +kernel
theorem dL_law_413 : decode cL_law 413 = .ok (.aload_n 0, 1) := by decide +kernel
theorem dL_law_414 : decode cL_law 414 = .ok (.iload_n 3, 1) := by decide +kernel
theorem dL_law_415 : decode cL_law 415 = .ok (.iconst 1, 1) := by decide +kernel
theorem dL_law_416 : decode cL_law 416 = .ok (.iadd, 1) := by decide +kernel
theorem dL_law_417 : decode cL_law 417 = .ok (.iaload, 1) := by decide +kernel
theorem dL_law_418 : decode cL_law 418 = .ok (.invokevirtual 55, 3) := by decide +kernel
theorem dL_law_421 : decode cL_law 421 = .ok (.if_icmp .eq 456, 3) := by decide +kernel
theorem dL_law_424 : decode cL_law 424 = .ok (.iconst 0, 1) := by decide +kernel
theorem dL_law_425 : decode cL_law 425 = .ok (.ireturn, 1) := by decide +kernel
theorem dL_law_426 : decode cL_law 426 = .ok (.aload_n 1, 1) := by decide +kernel
theorem dL_law_427 : decode cL_law 427 = .ok (.aload_n 0, 1) := by decide +kernel
theorem dL_law_428 : decode cL_law 428 = .ok (.iload_n 3, 1) := by decide +kernel
theorem dL_law_429 : decode cL_law 429 = .ok (.iconst 1, 1) := by decide +kernel
theorem dL_law_430 : decode cL_law 430 = .ok (.iadd, 1) := by decide +kernel
theorem dL_law_431 : decode cL_law 431 = .ok (.iaload, 1) := by decide +kernel
theorem dL_law_432 : decode cL_law 432 = .ok (.aload_n 0, 1) := by decide +kernel
theorem dL_law_433 : decode cL_law 433 = .ok (.iload_n 3, 1) := by decide +kernel
theorem dL_law_434 : decode cL_law 434 = .ok (.iconst 2, 1) := by decide +kernel
theorem dL_law_435 : decode cL_law 435 = .ok (.iadd, 1) := by decide +kernel
theorem dL_law_436 : decode cL_law 436 = .ok (.iaload, 1) := by decide +kernel
theorem dL_law_437 : decode cL_law 437 = .ok (.invokevirtual 56, 3) := by decide +kernel
theorem dL_law_440 : decode cL_law 440 = .ok (.aload_n 2, 1) := by decide +kernel
theorem dL_law_441 : decode cL_law 441 = .ok (.aload_n 0, 1) := by decide +kernel
theorem dL_law_442 : decode cL_law 442 = .ok (.iload_n 3, 1) := by decide +kernel
theorem dL_law_443 : decode cL_law 443 = .ok (.iconst 1, 1) := by decide +kernel
theorem dL_law_444 : decode cL_law 444 = .ok (.iadd, 1) := by decide +kernel
theorem dL_law_445 : decode cL_law 445 = .ok (.iaload, 1) := by decide +kernel
theorem dL_law_446 : decode cL_law 446 = .ok (.aload_n 0, 1) := by decide +kernel
theorem dL_law_447 : decode cL_law 447 = .ok (.iload_n 3, 1) := by decide +kernel
theorem dL_law_448 : decode cL_law 448 = .ok (.iconst 2, 1) := by decide +kernel
theorem dL_law_449 : decode cL_law 449 = .ok (.iadd, 1) := by decide +kernel
theorem dL_law_450 : decode cL_law 450 = .ok (.iaload, 1) := by decide +kernel
theorem dL_law_451 : decode cL_law 451 = .ok (.invokevirtual 59, 3) := by decide +kernel
theorem dL_law_454 : decode cL_law 454 = .ok (.if_icmp .eq 423, 3) := by decide +kernel
theorem dL_law_457 : decode cL_law 457 = .ok (.iconst 0, 1) := by decide +kernel
theorem dL_law_458 : decode cL_law 458 = .ok (.ireturn, 1) := by decide +kernel
theorem dL_law_459 : decode cL_law 459 = .ok (.aload_n 1, 1) := by decide +kernel
theorem dL_law_460 : decode cL_law 460 = .ok (.aload_n 0, 1) := by decide +kernel
theorem dL_law_461 : decode cL_law 461 = .ok (.iload_n 3, 1) := by decide +kernel
theorem dL_law_462 : decode cL_law 462 = .ok (.iconst 1, 1) := by decide +kernel
theorem dL_law_463 : decode cL_law 463 = .ok (.iadd, 1) := by decide +kernel
theorem dL_law_464 : decode cL_law 464 = .ok (.iaload, 1) := by decide +kernel
theorem dL_law_465 : decode cL_law 465 = .ok (.aload_n 0, 1) := by decide +kernel
theorem dL_law_466 : decode cL_law 466 = .ok (.iload_n 3, 1) := by decide +kernel
theorem dL_law_467 : decode cL_law 467 = .ok (.iconst 2, 1) := by decide +kernel
theorem dL_law_468 : decode cL_law 468 = .ok (.iadd, 1) := by decide +kernel
theorem dL_law_469 : decode cL_law 469 = .ok (.iaload, 1) := by decide +kernel
theorem dL_law_470 : decode cL_law 470 = .ok (.aload_n 0, 1) := by decide +kernel
theorem dL_law_471 : decode cL_law 471 = .ok (.iload_n 3, 1) := by decide +kernel
theorem dL_law_472 : decode cL_law 472 = .ok (.iconst 3, 1) := by decide +kernel
theorem dL_law_473 : decode cL_law 473 = .ok (.iadd, 1) := by decide +kernel
theorem dL_law_474 : decode cL_law 474 = .ok (.iaload, 1) := by decide +kernel
theorem dL_law_475 : decode cL_law 475 = .ok (.invokevirtual 60, 3) := by decide +kernel
theorem dL_law_478 : decode cL_law 478 = .ok (.aload_n 2, 1) := by decide +kernel
theorem dL_law_479 : decode cL_law 479 = .ok (.aload_n 0, 1) := by decide +kernel
theorem dL_law_480 : decode cL_law 480 = .ok (.iload_n 3, 1) := by decide +kernel
theorem dL_law_481 : decode cL_law 481 = .ok (.iconst 1, 1) := by decide +kernel
theorem dL_law_482 : decode cL_law 482 = .ok (.iadd, 1) := by decide +kernel
theorem dL_law_483 : decode cL_law 483 = .ok (.iaload, 1) := by decide +kernel
theorem dL_law_484 : decode cL_law 484 = .ok (.aload_n 0, 1) := by decide +kernel
theorem dL_law_485 : decode cL_law 485 = .ok (.iload_n 3, 1) := by decide +kernel
theorem dL_law_486 : decode cL_law 486 = .ok (.iconst 2, 1) := by decide +kernel
theorem dL_law_487 : decode cL_law 487 = .ok (.iadd, 1) := by decide +kernel
theorem dL_law_488 : decode cL_law 488 = .ok (.iaload, 1) := by decide +kernel
theorem dL_law_489 : decode cL_law 489 = .ok (.aload_n 0, 1) := by decide +kernel
theorem dL_law_490 : decode cL_law 490 = .ok (.iload_n 3, 1) := by decide +kernel
theorem dL_law_491 : decode cL_law 491 = .ok (.iconst 3, 1) := by decide +kernel
theorem dL_law_492 : decode cL_law 492 = .ok (.iadd, 1) := by decide +kernel
theorem dL_law_493 : decode cL_law 493 = .ok (.iaload, 1) := by decide +kernel
theorem dL_law_494 : decode cL_law 494 = .ok (.invokevirtual 63, 3) := by decide +kernel
theorem dL_law_497 : decode cL_law 497 = .ok (.if_icmp .eq 380, 3) := by decide +kernel
theorem dL_law_500 : decode cL_law 500 = .ok (.iconst 0, 1) := by decide +kernel
theorem dL_law_501 : decode cL_law 501 = .ok (.ireturn, 1) := by decide +kernel
theorem dL_law_502 : decode cL_law 502 = .ok (.aload_n 1, 1) := by decide +kernel
theorem dL_law_503 : decode cL_law 503 = .ok (.aload_n 0, 1) := by decide +kernel
theorem dL_law_504 : decode cL_law 504 = .ok (.iload_n 3, 1) := by decide +kernel
theorem dL_law_505 : decode cL_law 505 = .ok (.iconst 1, 1) := by decide +kernel
theorem dL_law_506 : decode cL_law 506 = .ok (.iadd, 1) := by decide +kernel
theorem dL_law_507 : decode cL_law 507 = .ok (.iaload, 1) := by decide +kernel
theorem dL_law_508 : decode cL_law 508 = .ok (.aload_n 0, 1) := by decide +kernel
theorem dL_law_509 : decode cL_law 509 = .ok (.iload_n 3, 1) := by decide +kernel
theorem dL_law_510 : decode cL_law 510 = .ok (.iconst 2, 1) := by decide +kernel
theorem dL_law_511 : decode cL_law 511 = .ok (.iadd, 1) := by decide +kernel
theorem dL_law_512 : decode cL_law 512 = .ok (.iaload, 1) := by decide +kernel
theorem dL_law_513 : decode cL_law 513 = .ok (.invokevirtual 64, 3) := by decide +kernel
theorem dL_law_516 : decode cL_law 516 = .ok (.aload_n 2, 1) := by decide +kernel
theorem dL_law_517 : decode cL_law 517 = .ok (.aload_n 0, 1) := by decide +kernel
theorem dL_law_518 : decode cL_law 518 = .ok (.iload_n 3, 1) := by decide +kernel
theorem dL_law_519 : decode cL_law 519 = .ok (.iconst 1, 1) := by decide +kernel
theorem dL_law_520 : decode cL_law 520 = .ok (.iadd, 1) := by decide +kernel
theorem dL_law_521 : decode cL_law 521 = .ok (.iaload, 1) := by decide +kernel
theorem dL_law_522 : decode cL_law 522 = .ok (.aload_n 0, 1) := by decide +kernel
theorem dL_law_523 : decode cL_law 523 = .ok (.iload_n 3, 1) := by decide +kernel
theorem dL_law_524 : decode cL_law 524 = .ok (.iconst 2, 1) := by decide +kernel
theorem dL_law_525 : decode cL_law 525 = .ok (.iadd, 1) := by decide +kernel
theorem dL_law_526 : decode cL_law 526 = .ok (.iaload, 1) := by decide +kernel
theorem dL_law_527 : decode cL_law 527 = .ok (.invokevirtual 67, 3) := by decide +kernel
theorem dL_law_530 : decode cL_law 530 = .ok (.if_icmp .eq 347, 3) := by decide +kernel
theorem dL_law_533 : decode cL_law 533 = .ok (.iconst 0, 1) := by decide +kernel
theorem dL_law_534 : decode cL_law 534 = .ok (.ireturn, 1) := by decide +kernel
theorem dL_law_535 : decode cL_law 535 = .ok (.aload_n 1, 1) := by decide +kernel
theorem dL_law_536 : decode cL_law 536 = .ok (.aload_n 0, 1) := by decide +kernel
theorem dL_law_537 : decode cL_law 537 = .ok (.iload_n 3, 1) := by decide +kernel
theorem dL_law_538 : decode cL_law 538 = .ok (.iconst 1, 1) := by decide +kernel
theorem dL_law_539 : decode cL_law 539 = .ok (.iadd, 1) := by decide +kernel
theorem dL_law_540 : decode cL_law 540 = .ok (.iaload, 1) := by decide +kernel
theorem dL_law_541 : decode cL_law 541 = .ok (.invokevirtual 68, 3) := by decide +kernel
theorem dL_law_544 : decode cL_law 544 = .ok (.aload_n 2, 1) := by decide +kernel
theorem dL_law_545 : decode cL_law 545 = .ok (.aload_n 0, 1) := by decide +kernel
theorem dL_law_546 : decode cL_law 546 = .ok (.iload_n 3, 1) := by decide +kernel
theorem dL_law_547 : decode cL_law 547 = .ok (.iconst 1, 1) := by decide +kernel
theorem dL_law_548 : decode cL_law 548 = .ok (.iadd, 1) := by decide +kernel
theorem dL_law_549 : decode cL_law 549 = .ok (.iaload, 1) := by decide +kernel
theorem dL_law_550 : decode cL_law 550 = .ok (.invokevirtual 71, 3) := by decide +kernel
theorem dL_law_553 : decode cL_law 553 = .ok (.if_icmp .eq 324, 3) := by decide +kernel
theorem dL_law_556 : decode cL_law 556 = .ok (.iconst 0, 1) := by decide +kernel
theorem dL_law_557 : decode cL_law 557 = .ok (.ireturn, 1) := by decide +kernel
theorem dL_law_558 : decode cL_law 558 = .ok (.aload_n 1, 1) := by decide +kernel
theorem dL_law_559 : decode cL_law 559 = .ok (.aload_n 0, 1) := by decide +kernel
theorem dL_law_560 : decode cL_law 560 = .ok (.iload_n 3, 1) := by decide +kernel
theorem dL_law_561 : decode cL_law 561 = .ok (.iconst 1, 1) := by decide +kernel
theorem dL_law_562 : decode cL_law 562 = .ok (.iadd, 1) := by decide +kernel
theorem dL_law_563 : decode cL_law 563 = .ok (.iaload, 1) := by decide +kernel
theorem dL_law_564 : decode cL_law 564 = .ok (.invokevirtual 72, 3) := by decide +kernel
theorem dL_law_567 : decode cL_law 567 = .ok (.aload_n 2, 1) := by decide +kernel
theorem dL_law_568 : decode cL_law 568 = .ok (.aload_n 0, 1) := by decide +kernel
theorem dL_law_569 : decode cL_law 569 = .ok (.iload_n 3, 1) := by decide +kernel
theorem dL_law_570 : decode cL_law 570 = .ok (.iconst 1, 1) := by decide +kernel
theorem dL_law_571 : decode cL_law 571 = .ok (.iadd, 1) := by decide +kernel
theorem dL_law_572 : decode cL_law 572 = .ok (.iaload, 1) := by decide +kernel
theorem dL_law_573 : decode cL_law 573 = .ok (.invokevirtual 75, 3) := by decide +kernel
theorem dL_law_576 : decode cL_law 576 = .ok (.if_icmp .eq 301, 3) := by decide +kernel
theorem dL_law_579 : decode cL_law 579 = .ok (.iconst 0, 1) := by decide +kernel
theorem dL_law_580 : decode cL_law 580 = .ok (.ireturn, 1) := by decide +kernel
theorem dL_law_581 : decode cL_law 581 = .ok (.aload_n 1, 1) := by decide +kernel
theorem dL_law_582 : decode cL_law 582 = .ok (.aload_n 0, 1) := by decide +kernel
theorem dL_law_583 : decode cL_law 583 = .ok (.iload_n 3, 1) := by decide +kernel
theorem dL_law_584 : decode cL_law 584 = .ok (.iconst 1, 1) := by decide +kernel
theorem dL_law_585 : decode cL_law 585 = .ok (.iadd, 1) := by decide +kernel
theorem dL_law_586 : decode cL_law 586 = .ok (.iaload, 1) := by decide +kernel
theorem dL_law_587 : decode cL_law 587 = .ok (.aload_n 0, 1) := by decide +kernel
theorem dL_law_588 : decode cL_law 588 = .ok (.iload_n 3, 1) := by decide +kernel
theorem dL_law_589 : decode cL_law 589 = .ok (.iconst 2, 1) := by decide +kernel
theorem dL_law_590 : decode cL_law 590 = .ok (.iadd, 1) := by decide +kernel
theorem dL_law_591 : decode cL_law 591 = .ok (.iaload, 1) := by decide +kernel
theorem dL_law_592 : decode cL_law 592 = .ok (.invokevirtual 76, 3) := by decide +kernel
theorem dL_law_595 : decode cL_law 595 = .ok (.aload_n 2, 1) := by decide +kernel
theorem dL_law_596 : decode cL_law 596 = .ok (.aload_n 0, 1) := by decide +kernel
theorem dL_law_597 : decode cL_law 597 = .ok (.iload_n 3, 1) := by decide +kernel
theorem dL_law_598 : decode cL_law 598 = .ok (.iconst 1, 1) := by decide +kernel
