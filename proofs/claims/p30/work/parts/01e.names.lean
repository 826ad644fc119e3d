theorem dX4_copyFrom_34 : decode cX4_copyFrom 34 = .ok (.getfield 28, 3) := by decide +kernel
theorem dX4_copyFrom_37 : decode cX4_copyFrom 37 = .ok (.iconst 0, 1) := by decide +kernel
theorem dX4_copyFrom_38 : decode cX4_copyFrom 38 = .ok (.aload_n 0, 1) := by decide +kernel
theorem dX4_copyFrom_39 : decode cX4_copyFrom 39 = .ok (.getfield 28, 3) := by decide +kernel
theorem dX4_copyFrom_42 : decode cX4_copyFrom 42 = .ok (.iconst 0, 1) := by decide +kernel
theorem dX4_copyFrom_43 : decode cX4_copyFrom 43 = .ok (.iconst 3, 1) := by decide +kernel
theorem dX4_copyFrom_44 : decode cX4_copyFrom 44 = .ok (.invokestatic 150, 3) := by decide +kernel
theorem dX4_copyFrom_47 : decode cX4_copyFrom 47 = .ok (.aload_n 0, 1) := by decide +kernel
theorem dX4_copyFrom_48 : decode cX4_copyFrom 48 = .ok (.aload_n 1, 1) := by decide +kernel
theorem dX4_copyFrom_49 : decode cX4_copyFrom 49 = .ok (.getfield 32, 3) := by decide +kernel
theorem dX4_copyFrom_52 : decode cX4_copyFrom 52 = .ok (.putfield 32, 3) := by decide +kernel
theorem dX4_copyFrom_55 : decode cX4_copyFrom 55 = .ok (.aload_n 0, 1) := by decide +kernel
theorem dX4_copyFrom_56 : decode cX4_copyFrom 56 = .ok (.aload_n 1, 1) := by decide +kernel
theorem dX4_copyFrom_57 : decode cX4_copyFrom 57 = .ok (.getfield 36, 3) := by decide +kernel
theorem dX4_copyFrom_60 : decode cX4_copyFrom 60 = .ok (.putfield 36, 3) := by decide +kernel
theorem dX4_copyFrom_63 : decode cX4_copyFrom 63 = .ok (.aload_n 0, 1) := by decide +kernel
theorem dX4_copyFrom_64 : decode cX4_copyFrom 64 = .ok (.aload_n 1, 1) := by decide +kernel
theorem dX4_copyFrom_65 : decode cX4_copyFrom 65 = .ok (.getfield 39, 3) := by decide +kernel
theorem dX4_copyFrom_68 : decode cX4_copyFrom 68 = .ok (.putfield 39, 3) := by decide +kernel
theorem dX4_copyFrom_71 : decode cX4_copyFrom 71 = .ok (.aload_n 0, 1) := by decide +kernel
theorem dX4_copyFrom_72 : decode cX4_copyFrom 72 = .ok (.aload_n 1, 1) := by decide +kernel
theorem dX4_copyFrom_73 : decode cX4_copyFrom 73 = .ok (.getfield 42, 3) := by decide +kernel
theorem dX4_copyFrom_76 : decode cX4_copyFrom 76 = .ok (.putfield 42, 3) := by decide +kernel
theorem dX4_copyFrom_79 : decode cX4_copyFrom 79 = .ok (.aload_n 0, 1) := by decide +kernel
theorem dX4_copyFrom_80 : decode cX4_copyFrom 80 = .ok (.aload_n 1, 1) := by decide +kernel
theorem dX4_copyFrom_81 : decode cX4_copyFrom 81 = .ok (.getfield 45, 3) := by decide +kernel
theorem dX4_copyFrom_84 : decode cX4_copyFrom 84 = .ok (.putfield 45, 3) := by decide +kernel
theorem dX4_copyFrom_87 : decode cX4_copyFrom 87 = .ok (.aload_n 0, 1) := by decide +kernel
theorem dX4_copyFrom_88 : decode cX4_copyFrom 88 = .ok (.aload_n 1, 1) := by decide +kernel
theorem dX4_copyFrom_89 : decode cX4_copyFrom 89 = .ok (.getfield 48, 3) := by decide +kernel
theorem dX4_copyFrom_92 : decode cX4_copyFrom 92 = .ok (.putfield 48, 3) := by decide +kernel
theorem dX4_copyFrom_95 : decode cX4_copyFrom 95 = .ok (.aload_n 0, 1) := by decide +kernel
theorem dX4_copyFrom_96 : decode cX4_copyFrom 96 = .ok (.aload_n 1, 1) := by decide +kernel
theorem dX4_copyFrom_97 : decode cX4_copyFrom 97 = .ok (.getfield 51, 3) := by decide +kernel
theorem dX4_copyFrom_100 : decode cX4_copyFrom 100 = .ok (.putfield 51, 3) := by decide +kernel
theorem dX4_copyFrom_103 : decode cX4_copyFrom 103 = .ok (.aload_n 0, 1) := by decide +kernel
theorem dX4_copyFrom_104 : decode cX4_copyFrom 104 = .ok (.aload_n 1, 1) := by decide +kernel
theorem dX4_copyFrom_105 : decode cX4_copyFrom 105 = .ok (.getfield 54, 3) := by decide +kernel
theorem dX4_copyFrom_108 : decode cX4_copyFrom 108 = .ok (.putfield 54, 3) := by decide +kernel
theorem dX4_copyFrom_111 : decode cX4_copyFrom 111 = .ok (.return_, 1) := by decide +kernel
set_option maxRecDepth 20000 in
theorem ggX5_init_X4_init : GoodIn wsX5_init wsX4_init := goodIn_r _ [13, 14, 2, 3, 15, 16, 17, 18, 19, 20, 21, 22, 23, 24, 25, 26, 27, 28, 29, 30, 31, 32, 33, 34, 35, 36, 37, 38, 39, 40, 41, 42, 43, 44, 45, 46, 47, 48, 49, 50, 68, 69, 70, 71, 72, 73, 51, 52, 53, 54, 55, 56, 57, 58, 59, 60, 61, 62, 74, 75, 76, 77] (by decide +kernel) (by decide +kernel)
set_option maxRecDepth 20000 in
theorem gX5_init_X4_init_n11 : GoodIn wsX5_init (wsX4_init) := ggX5_init_X4_init
theorem dX5_init_0 : decode cX5_init 0 = .ok (.aload_n 0, 1) := by decide +kernel
theorem dX5_init_1 : decode cX5_init 1 = .ok (.invokespecial 3, 3) := by decide +kernel
theorem dX5_init_4 : decode cX5_init 4 = .ok (.aload_n 0, 1) := by decide +kernel
theorem dX5_init_5 : decode cX5_init 5 = .ok (.new 9, 3) := by decide +kernel
theorem dX5_init_8 : decode cX5_init 8 = .ok (.dup, 1) := by decide +kernel
theorem dX5_init_9 : decode cX5_init 9 = .ok (.invokespecial 11, 3) := by decide +kernel
theorem dX5_init_12 : decode cX5_init 12 = .ok (.putfield 12, 3) := by decide +kernel
theorem dX5_init_15 : decode cX5_init 15 = .ok (.aload_n 0, 1) := by decide +kernel
theorem dX5_init_16 : decode cX5_init 16 = .ok (.iconst 0, 1) := by decide +kernel
theorem dX5_init_17 : decode cX5_init 17 = .ok (.putfield 18, 3) := by decide +kernel
theorem dX5_init_20 : decode cX5_init 20 = .ok (.aload_n 0, 1) := by decide +kernel
theorem dX5_init_21 : decode cX5_init 21 = .ok (.iconst 0, 1) := by decide +kernel
theorem dX5_init_22 : decode cX5_init 22 = .ok (.putfield 22, 3) := by decide +kernel
theorem dX5_init_25 : decode cX5_init 25 = .ok (.aload_n 0, 1) := by decide +kernel
theorem dX5_init_26 : decode cX5_init 26 = .ok (.iconst 0, 1) := by decide +kernel
theorem dX5_init_27 : decode cX5_init 27 = .ok (.putfield 25, 3) := by decide +kernel
theorem dX5_init_30 : decode cX5_init 30 = .ok (.aload_n 0, 1) := by decide +kernel
theorem dX5_init_31 : decode cX5_init 31 = .ok (.iconst 0, 1) := by decide +kernel
theorem dX5_init_32 : decode cX5_init 32 = .ok (.putfield 28, 3) := by decide +kernel
theorem dX5_init_35 : decode cX5_init 35 = .ok (.return_, 1) := by decide +kernel
set_option maxRecDepth 20000 in
theorem ggX6_init_X4_init : GoodIn wsX6_init wsX4_init := goodIn_r _ [24, 25, 2, 3, 26, 27, 28, 29, 30, 31, 32, 33, 34, 20, 35, 36, 37, 38, 39, 40, 41, 42, 43, 44, 45, 46, 47, 48, 49, 50, 51, 52, 53, 54, 55, 56, 57, 58, 59, 60, 118, 119, 120, 121, 122, 123, 87, 88, 89, 90, 91, 92, 93, 94, 95, 96, 97, 98, 124, 125, 126, 127] (by decide +kernel) (by decide +kernel)
set_option maxRecDepth 20000 in
theorem gX6_init_X4_init_n9 : GoodIn wsX6_init (wsX4_init) := ggX6_init_X4_init
set_option maxRecDepth 20000 in
theorem ggX6_init_X0_init : GoodIn wsX6_init wsX0_init := goodIn_r _ [63, 64, 2, 3, 65, 66, 67, 5, 6, 23, 24, 25, 26, 27, 28, 29, 30, 31, 32, 33, 34, 20, 35, 36, 37, 38, 39, 40, 41, 42, 43, 44, 45, 46, 47, 48, 49, 50, 51, 52, 53, 54, 55, 56, 57, 58, 59, 60, 105, 106, 87, 88, 89, 90, 91, 92, 93, 94, 95, 96, 97, 98, 118, 119, 120, 121, 122, 123, 124, 125, 126, 127] (by decide +kernel) (by decide +kernel)
set_option maxRecDepth 20000 in
theorem gX6_init_X0_init : GoodIn wsX6_init (wsX0_init) := ggX6_init_X0_init
set_option maxRecDepth 20000 in
theorem ggX6_init_X2_init : GoodIn wsX6_init wsX2_init := goodIn_r _ [69, 70, 2, 3, 71, 72, 73, 74, 75, 20, 76, 77, 107, 108, 109, 110, 111, 112] (by decide +kernel) (by decide +kernel)
set_option maxRecDepth 20000 in
theorem gX6_init_X2_init_n25 : GoodIn wsX6_init (wsX2_init) := ggX6_init_X2_init
set_option maxRecDepth 20000 in
theorem ggX6_init_X5_init : GoodIn wsX6_init wsX5_init := goodIn_r _ [79, 80, 2, 3, 81, 5, 6, 82, 83, 84, 85, 86, 23, 24, 25, 26, 27, 28, 29, 30, 31, 32, 33, 34, 20, 35, 36, 37, 38, 39, 40, 41, 42, 43, 44, 45, 46, 47, 48, 49, 50, 51, 52, 53, 54, 55, 56, 57, 58, 59, 60, 87, 88, 89, 90, 91, 92, 93, 94, 95, 96, 97, 98, 113, 114, 115, 116, 117, 118, 119, 120, 121, 122, 123, 124, 125, 126, 127] (by decide +kernel) (by decide +kernel)
set_option maxRecDepth 20000 in
theorem gX6_init_X5_init_n32 : GoodIn wsX6_init (wsX5_init) := ggX6_init_X5_init
theorem dX6_init_0 : decode cX6_init 0 = .ok (.aload_n 0, 1) := by decide +kernel
theorem dX6_init_1 : decode cX6_init 1 = .ok (.invokespecial 1, 3) := by decide +kernel
theorem dX6_init_4 : decode cX6_init 4 = .ok (.aload_n 0, 1) := by decide +kernel
theorem dX6_init_5 : decode cX6_init 5 = .ok (.new 7, 3) := by decide +kernel
theorem dX6_init_8 : decode cX6_init 8 = .ok (.dup, 1) := by decide +kernel
theorem dX6_init_9 : decode cX6_init 9 = .ok (.invokespecial 9, 3) := by decide +kernel
theorem dX6_init_12 : decode cX6_init 12 = .ok (.putfield 10, 3) := by decide +kernel
theorem dX6_init_15 : decode cX6_init 15 = .ok (.aload_n 0, 1) := by decide +kernel
theorem dX6_init_16 : decode cX6_init 16 = .ok (.new 16, 3) := by decide +kernel
theorem dX6_init_19 : decode cX6_init 19 = .ok (.dup, 1) := by decide +kernel
theorem dX6_init_20 : decode cX6_init 20 = .ok (.invokespecial 18, 3) := by decide +kernel
theorem dX6_init_23 : decode cX6_init 23 = .ok (.putfield 19, 3) := by decide +kernel
theorem dX6_init_26 : decode cX6_init 26 = .ok (.aload_n 0, 1) := by decide +kernel
theorem dX6_init_27 : decode cX6_init 27 = .ok (.new 23, 3) := by decide +kernel
theorem dX6_init_30 : decode cX6_init 30 = .ok (.dup, 1) := by decide +kernel
theorem dX6_init_31 : decode cX6_init 31 = .ok (.invokespecial 25, 3) := by decide +kernel
theorem dX6_init_34 : decode cX6_init 34 = .ok (.putfield 26, 3) := by decide +kernel
theorem dX6_init_37 : decode cX6_init 37 = .ok (.aload_n 0, 1) := by decide +kernel
theorem dX6_init_38 : decode cX6_init 38 = .ok (.new 30, 3) := by decide +kernel
theorem dX6_init_41 : decode cX6_init 41 = .ok (.dup, 1) := by decide +kernel
theorem dX6_init_42 : decode cX6_init 42 = .ok (.invokespecial 32, 3) := by decide +kernel
theorem dX6_init_45 : decode cX6_init 45 = .ok (.putfield 33, 3) := by decide +kernel
theorem dX6_init_48 : decode cX6_init 48 = .ok (.aload_n 0, 1) := by decide +kernel
theorem dX6_init_49 : decode cX6_init 49 = .ok (.bipush 24, 2) := by decide +kernel
theorem dX6_init_51 : decode cX6_init 51 = .ok (.newarray .int, 2) := by decide +kernel
theorem dX6_init_53 : decode cX6_init 53 = .ok (.putfield 37, 3) := by decide +kernel
theorem dX6_init_56 : decode cX6_init 56 = .ok (.aload_n 0, 1) := by decide +kernel
theorem dX6_init_57 : decode cX6_init 57 = .ok (.bipush 24, 2) := by decide +kernel
theorem dX6_init_59 : decode cX6_init 59 = .ok (.newarray .int, 2) := by decide +kernel
theorem dX6_init_61 : decode cX6_init 61 = .ok (.putfield 41, 3) := by decide +kernel
theorem dX6_init_64 : decode cX6_init 64 = .ok (.return_, 1) := by decide +kernel
set_option maxRecDepth 20000 in
theorem ggX6_open_X0_prepare : GoodIn wsX6_open wsX0_prepare := goodIn_r _ [7, 8, 9, 10, 11, 12, 13, 14, 15, 16, 17, 18, 19, 20, 21, 22, 23, 24, 25, 26, 27, 28, 29, 30, 31, 32, 33, 34, 35, 36, 37, 38, 39, 40, 41, 42, 43, 44, 45, 46, 47, 48, 49, 50, 51, 52, 53, 54, 55, 56, 57, 58, 82, 83, 84, 85, 86, 87, 88, 89, 90, 91, 92, 93, 94, 95, 96, 97, 98, 99, 100, 101, 102, 103, 104, 105] (by decide +kernel) (by decide +kernel)
set_option maxRecDepth 20000 in
theorem gX6_open_X0_prepare : GoodIn wsX6_open (wsV RX6 44 RX0 yX0_prepare wsX0_prepare) := goodIn_app (goodIn_of _ (by decide +kernel)) ggX6_open_X0_prepare
set_option maxRecDepth 20000 in
theorem ggX6_open_X4_openIn : GoodIn wsX6_open wsX4_openIn := goodIn_r _ [62, 63, 18, 64, 25, 65, 66, 67, 84, 85, 86, 87, 88, 89, 90, 91, 92, 93, 94, 95] (by decide +kernel) (by decide +kernel)
set_option maxRecDepth 20000 in
theorem gX6_open_X4_openIn : GoodIn wsX6_open (wsV RX6 48 RX4 yX4_openIn wsX4_openIn) := goodIn_app (goodIn_of _ (by decide +kernel)) ggX6_open_X4_openIn
set_option maxRecDepth 20000 in
theorem ggX6_open_X6_changed : GoodIn wsX6_open wsX6_changed := goodIn_r _ [71, 1, 72, 73, 74, 6, 75, 8, 9, 76, 77, 78, 79, 80, 81, 82, 83] (by decide +kernel) (by decide +kernel)
set_option maxRecDepth 20000 in
theorem gX6_open_X6_changed : GoodIn wsX6_open (wsV RX6 52 RX6 yX6_changed wsX6_changed) := goodIn_app (goodIn_of _ (by decide +kernel)) ggX6_open_X6_changed
theorem dX6_open_0 : decode cX6_open 0 = .ok (.aload_n 0, 1) := by decide +kernel
theorem dX6_open_1 : decode cX6_open 1 = .ok (.getfield 19, 3) := by decide +kernel
theorem dX6_open_4 : decode cX6_open 4 = .ok (.aload_n 0, 1) := by decide +kernel
theorem dX6_open_5 : decode cX6_open 5 = .ok (.getfield 10, 3) := by decide +kernel
theorem dX6_open_8 : decode cX6_open 8 = .ok (.invokevirtual 44, 3) := by decide +kernel
theorem dX6_open_11 : decode cX6_open 11 = .ok (.aload_n 0, 1) := by decide +kernel
theorem dX6_open_12 : decode cX6_open 12 = .ok (.aload_n 0, 1) := by decide +kernel
theorem dX6_open_13 : decode cX6_open 13 = .ok (.getfield 10, 3) := by decide +kernel
theorem dX6_open_16 : decode cX6_open 16 = .ok (.iload_n 1, 1) := by decide +kernel
theorem dX6_open_17 : decode cX6_open 17 = .ok (.invokevirtual 48, 3) := by decide +kernel
theorem dX6_open_20 : decode cX6_open 20 = .ok (.invokevirtual 52, 3) := by decide +kernel
theorem dX6_open_23 : decode cX6_open 23 = .ok (.ireturn, 1) := by decide +kernel
set_option maxRecDepth 20000 in
theorem ggX6_put_X0_prepare : GoodIn wsX6_put wsX0_prepare := goodIn_r _ [7, 8, 9, 10, 11, 12, 13, 14, 15, 16, 17, 18, 19, 20, 21, 22, 23, 24, 25, 26, 27, 28, 29, 30, 31, 32, 33, 34, 35, 36, 37, 38, 39, 40, 41, 42, 43, 44, 45, 46, 47, 48, 49, 50, 51, 52, 53, 54, 55, 56, 57, 58, 93, 94, 95, 96, 97, 98, 99, 100, 101, 102, 103, 104, 105, 106, 107, 108, 109, 110, 111, 112, 113, 114, 115, 116] (by decide +kernel) (by decide +kernel)
set_option maxRecDepth 20000 in
theorem gX6_put_X0_prepare : GoodIn wsX6_put (wsV RX6 44 RX0 yX0_prepare wsX0_prepare) := goodIn_app (goodIn_of _ (by decide +kernel)) ggX6_put_X0_prepare
set_option maxRecDepth 20000 in
theorem ggX6_put_X4_putBy : GoodIn wsX6_put wsX4_putBy := goodIn_r _ [62, 63, 18, 64, 65, 66, 67, 68, 69, 70, 71, 13, 72, 73, 15, 23, 74, 75, 76, 34, 77, 36, 78, 44, 46, 47, 48, 49, 95, 96, 97, 98, 99, 100, 101, 102, 103, 104, 105, 106, 107, 108, 109, 110, 111, 112] (by decide +kernel) (by decide +kernel)
set_option maxRecDepth 20000 in
theorem gX6_put_X4_putBy : GoodIn wsX6_put (wsV RX6 55 RX4 yX4_putBy wsX4_putBy) := goodIn_app (goodIn_of _ (by decide +kernel)) ggX6_put_X4_putBy
set_option maxRecDepth 20000 in
theorem ggX6_put_X6_changed : GoodIn wsX6_put wsX6_changed := goodIn_r _ [82, 1, 83, 84, 85, 6, 86, 8, 9, 87, 88, 89, 90, 91, 92, 93, 94] (by decide +kernel) (by decide +kernel)
set_option maxRecDepth 20000 in
theorem gX6_put_X6_changed : GoodIn wsX6_put (wsV RX6 52 RX6 yX6_changed wsX6_changed) := goodIn_app (goodIn_of _ (by decide +kernel)) ggX6_put_X6_changed
theorem dX6_put_0 : decode cX6_put 0 = .ok (.aload_n 0, 1) := by decide +kernel
theorem dX6_put_1 : decode cX6_put 1 = .ok (.getfield 19, 3) := by decide +kernel
theorem dX6_put_4 : decode cX6_put 4 = .ok (.aload_n 0, 1) := by decide +kernel
theorem dX6_put_5 : decode cX6_put 5 = .ok (.getfield 10, 3) := by decide +kernel
theorem dX6_put_8 : decode cX6_put 8 = .ok (.invokevirtual 44, 3) := by decide +kernel
theorem dX6_put_11 : decode cX6_put 11 = .ok (.aload_n 0, 1) := by decide +kernel
theorem dX6_put_12 : decode cX6_put 12 = .ok (.aload_n 0, 1) := by decide +kernel
theorem dX6_put_13 : decode cX6_put 13 = .ok (.getfield 10, 3) := by decide +kernel
theorem dX6_put_16 : decode cX6_put 16 = .ok (.iload_n 1, 1) := by decide +kernel
theorem dX6_put_17 : decode cX6_put 17 = .ok (.iload_n 2, 1) := by decide +kernel
theorem dX6_put_18 : decode cX6_put 18 = .ok (.iload_n 3, 1) := by decide +kernel
theorem dX6_put_19 : decode cX6_put 19 = .ok (.invokevirtual 55, 3) := by decide +kernel
theorem dX6_put_22 : decode cX6_put 22 = .ok (.invokevirtual 52, 3) := by decide +kernel
theorem dX6_put_25 : decode cX6_put 25 = .ok (.ireturn, 1) := by decide +kernel
set_option maxRecDepth 20000 in
theorem ggX6_commit_X0_prepare : GoodIn wsX6_commit wsX0_prepare := goodIn_r _ [7, 8, 9, 10, 11, 12, 13, 14, 15, 16, 17, 18, 19, 20, 21, 22, 23, 24, 25, 26, 27, 28, 29, 30, 31, 32, 33, 34, 35, 36, 37, 38, 39, 40, 41, 42, 43, 44, 45, 46, 47, 48, 49, 50, 51, 52, 53, 54, 55, 56, 57, 58, 91, 92, 93, 94, 95, 96, 97, 98, 99, 100, 101, 102, 103, 104, 105, 106, 107, 108, 109, 110, 111, 112, 113, 114] (by decide +kernel) (by decide +kernel)
set_option maxRecDepth 20000 in
theorem gX6_commit_X0_prepare : GoodIn wsX6_commit (wsV RX6 44 RX0 yX0_prepare wsX0_prepare) := goodIn_app (goodIn_of _ (by decide +kernel)) ggX6_commit_X0_prepare
set_option maxRecDepth 20000 in
theorem ggX6_commit_X4_endIn : GoodIn wsX6_commit wsX4_endIn := goodIn_r _ [62, 63, 18, 64, 65, 66, 67, 68, 69, 13, 70, 71, 15, 23, 72, 73, 74, 34, 75, 36, 76, 44, 46, 47, 48, 49, 93, 94, 95, 96, 97, 98, 99, 100, 101, 102, 103, 104, 105, 106, 107, 108, 109, 110] (by decide +kernel) (by decide +kernel)
set_option maxRecDepth 20000 in
theorem gX6_commit_X4_endIn : GoodIn wsX6_commit (wsV RX6 59 RX4 yX4_endIn wsX4_endIn) := goodIn_app (goodIn_of _ (by decide +kernel)) ggX6_commit_X4_endIn
set_option maxRecDepth 20000 in
theorem ggX6_commit_X6_changed : GoodIn wsX6_commit wsX6_changed := goodIn_r _ [80, 1, 81, 82, 83, 6, 84, 8, 9, 85, 86, 87, 88, 89, 90, 91, 92] (by decide +kernel) (by decide +kernel)
set_option maxRecDepth 20000 in
theorem gX6_commit_X6_changed : GoodIn wsX6_commit (wsV RX6 52 RX6 yX6_changed wsX6_changed) := goodIn_app (goodIn_of _ (by decide +kernel)) ggX6_commit_X6_changed
theorem dX6_commit_0 : decode cX6_commit 0 = .ok (.aload_n 0, 1) := by decide +kernel
theorem dX6_commit_1 : decode cX6_commit 1 = .ok (.getfield 19, 3) := by decide +kernel
theorem dX6_commit_4 : decode cX6_commit 4 = .ok (.aload_n 0, 1) := by decide +kernel
theorem dX6_commit_5 : decode cX6_commit 5 = .ok (.getfield 10, 3) := by decide +kernel
theorem dX6_commit_8 : decode cX6_commit 8 = .ok (.invokevirtual 44, 3) := by decide +kernel
theorem dX6_commit_11 : decode cX6_commit 11 = .ok (.aload_n 0, 1) := by decide +kernel
theorem dX6_commit_12 : decode cX6_commit 12 = .ok (.aload_n 0, 1) := by decide +kernel
theorem dX6_commit_13 : decode cX6_commit 13 = .ok (.getfield 10, 3) := by decide +kernel
theorem dX6_commit_16 : decode cX6_commit 16 = .ok (.iload_n 1, 1) := by decide +kernel
theorem dX6_commit_17 : decode cX6_commit 17 = .ok (.iconst 1, 1) := by decide +kernel
theorem dX6_commit_18 : decode cX6_commit 18 = .ok (.invokevirtual 59, 3) := by decide +kernel
theorem dX6_commit_21 : decode cX6_commit 21 = .ok (.invokevirtual 52, 3) := by decide +kernel
theorem dX6_commit_24 : decode cX6_commit 24 = .ok (.ireturn, 1) := by decide +kernel
set_option maxRecDepth 20000 in
theorem ggX6_abort_X0_prepare : GoodIn wsX6_abort wsX0_prepare := goodIn_r _ [7, 8, 9, 10, 11, 12, 13, 14, 15, 16, 17, 18, 19, 20, 21, 22, 23, 24, 25, 26, 27, 28, 29, 30, 31, 32, 33, 34, 35, 36, 37, 38, 39, 40, 41, 42, 43, 44, 45, 46, 47, 48, 49, 50, 51, 52, 53, 54, 55, 56, 57, 58, 91, 92, 93, 94, 95, 96, 97, 98, 99, 100, 101, 102, 103, 104, 105, 106, 107, 108, 109, 110, 111, 112, 113, 114] (by decide +kernel) (by decide +kernel)
set_option maxRecDepth 20000 in
theorem gX6_abort_X0_prepare : GoodIn wsX6_abort (wsV RX6 44 RX0 yX0_prepare wsX0_prepare) := goodIn_app (goodIn_of _ (by decide +kernel)) ggX6_abort_X0_prepare
set_option maxRecDepth 20000 in
theorem ggX6_abort_X4_endIn : GoodIn wsX6_abort wsX4_endIn := goodIn_r _ [62, 63, 18, 64, 65, 66, 67, 68, 69, 13, 70, 71, 15, 23, 72, 73, 74, 34, 75, 36, 76, 44, 46, 47, 48, 49, 93, 94, 95, 96, 97, 98, 99, 100, 101, 102, 103, 104, 105, 106, 107, 108, 109, 110] (by decide +kernel) (by decide +kernel)
set_option maxRecDepth 20000 in
theorem gX6_abort_X4_endIn : GoodIn wsX6_abort (wsV RX6 59 RX4 yX4_endIn wsX4_endIn) := goodIn_app (goodIn_of _ (by decide +kernel)) ggX6_abort_X4_endIn
set_option maxRecDepth 20000 in
theorem ggX6_abort_X6_changed : GoodIn wsX6_abort wsX6_changed := goodIn_r _ [80, 1, 81, 82, 83, 6, 84, 8, 9, 85, 86, 87, 88, 89, 90, 91, 92] (by decide +kernel) (by decide +kernel)
set_option maxRecDepth 20000 in
theorem gX6_abort_X6_changed : GoodIn wsX6_abort (wsV RX6 52 RX6 yX6_changed wsX6_changed) := goodIn_app (goodIn_of _ (by decide +kernel)) ggX6_abort_X6_changed
theorem dX6_abort_0 : decode cX6_abort 0 = .ok (.aload_n 0, 1) := by decide +kernel
theorem dX6_abort_1 : decode cX6_abort 1 = .ok (.getfield 19, 3) := by decide +kernel
theorem dX6_abort_4 : decode cX6_abort 4 = .ok (.aload_n 0, 1) := by decide +kernel
theorem dX6_abort_5 : decode cX6_abort 5 = .ok (.getfield 10, 3) := by decide +kernel
theorem dX6_abort_8 : decode cX6_abort 8 = .ok (.invokevirtual 44, 3) := by decide +kernel
theorem dX6_abort_11 : decode cX6_abort 11 = .ok (.aload_n 0, 1) := by decide +kernel
theorem dX6_abort_12 : decode cX6_abort 12 = .ok (.aload_n 0, 1) := by decide +kernel
theorem dX6_abort_13 : decode cX6_abort 13 = .ok (.getfield 10, 3) := by decide +kernel
theorem dX6_abort_16 : decode cX6_abort 16 = .ok (.iload_n 1, 1) := by decide +kernel
theorem dX6_abort_17 : decode cX6_abort 17 = .ok (.iconst 2, 1) := by decide +kernel
theorem dX6_abort_18 : decode cX6_abort 18 = .ok (.invokevirtual 59, 3) := by decide +kernel
theorem dX6_abort_21 : decode cX6_abort 21 = .ok (.invokevirtual 52, 3) := by decide +kernel
theorem dX6_abort_24 : decode cX6_abort 24 = .ok (.ireturn, 1) := by decide +kernel
set_option maxRecDepth 20000 in
theorem ggX6_ship_X0_prepare : GoodIn wsX6_ship wsX0_prepare := goodIn_r _ [7, 8, 9, 10, 11, 12, 13, 14, 15, 16, 17, 18, 19, 20, 21, 22, 23, 24, 25, 26, 27, 28, 29, 30, 31, 32, 33, 34, 35, 36, 37, 38, 39, 40, 41, 42, 43, 44, 45, 46, 47, 48, 49, 50, 51, 52, 53, 54, 55, 56, 57, 58, 90, 91, 92, 93, 94, 95, 96, 97, 98, 99, 100, 101, 102, 103, 104, 105, 106, 107, 108, 109, 110, 111, 112, 113] (by decide +kernel) (by decide +kernel)
set_option maxRecDepth 20000 in
theorem gX6_ship_X0_prepare : GoodIn wsX6_ship (wsV RX6 44 RX0 yX0_prepare wsX0_prepare) := goodIn_app (goodIn_of _ (by decide +kernel)) ggX6_ship_X0_prepare
set_option maxRecDepth 20000 in
theorem ggX6_ship_X4_shipTo : GoodIn wsX6_ship wsX4_shipTo := goodIn_r _ [62, 63, 64, 65, 15, 66, 67, 68, 38, 39, 40, 69, 70, 71, 72, 73, 74, 13, 75, 16, 17, 110, 111, 112, 113, 92, 93, 94, 95, 96, 97, 98, 99, 100, 101, 102, 103, 104, 105, 106, 107, 108, 109] (by decide +kernel) (by decide +kernel)
set_option maxRecDepth 20000 in
theorem gX6_ship_X4_shipTo : GoodIn wsX6_ship (wsV RX6 63 RX4 yX4_shipTo wsX4_shipTo) := goodIn_app (goodIn_of _ (by decide +kernel)) ggX6_ship_X4_shipTo
set_option maxRecDepth 20000 in
theorem ggX6_ship_X6_changed : GoodIn wsX6_ship wsX6_changed := goodIn_r _ [79, 1, 80, 81, 82, 6, 83, 8, 9, 84, 85, 86, 87, 88, 89, 90, 91] (by decide +kernel) (by decide +kernel)
set_option maxRecDepth 20000 in
theorem gX6_ship_X6_changed : GoodIn wsX6_ship (wsV RX6 52 RX6 yX6_changed wsX6_changed) := goodIn_app (goodIn_of _ (by decide +kernel)) ggX6_ship_X6_changed
theorem dX6_ship_0 : decode cX6_ship 0 = .ok (.aload_n 0, 1) := by decide +kernel
theorem dX6_ship_1 : decode cX6_ship 1 = .ok (.getfield 19, 3) := by decide +kernel
theorem dX6_ship_4 : decode cX6_ship 4 = .ok (.aload_n 0, 1) := by decide +kernel
theorem dX6_ship_5 : decode cX6_ship 5 = .ok (.getfield 10, 3) := by decide +kernel
theorem dX6_ship_8 : decode cX6_ship 8 = .ok (.invokevirtual 44, 3) := by decide +kernel
theorem dX6_ship_11 : decode cX6_ship 11 = .ok (.aload_n 0, 1) := by decide +kernel
theorem dX6_ship_12 : decode cX6_ship 12 = .ok (.aload_n 0, 1) := by decide +kernel
theorem dX6_ship_13 : decode cX6_ship 13 = .ok (.getfield 10, 3) := by decide +kernel
theorem dX6_ship_16 : decode cX6_ship 16 = .ok (.iload_n 1, 1) := by decide +kernel
theorem dX6_ship_17 : decode cX6_ship 17 = .ok (.iload_n 2, 1) := by decide +kernel
theorem dX6_ship_18 : decode cX6_ship 18 = .ok (.invokevirtual 63, 3) := by decide +kernel
theorem dX6_ship_21 : decode cX6_ship 21 = .ok (.invokevirtual 52, 3) := by decide +kernel
theorem dX6_ship_24 : decode cX6_ship 24 = .ok (.ireturn, 1) := by decide +kernel
set_option maxRecDepth 20000 in
theorem ggX6_lose_X0_prepare : GoodIn wsX6_lose wsX0_prepare := goodIn_r _ [7, 8, 9, 10, 11, 12, 13, 14, 15, 16, 17, 18, 19, 20, 21, 22, 23, 24, 25, 26, 27, 28, 29, 30, 31, 32, 33, 34, 35, 36, 37, 38, 39, 40, 41, 42, 43, 44, 45, 46, 47, 48, 49, 50, 51, 52, 53, 54, 55, 56, 57, 58, 101, 102, 103, 104, 105, 106, 107, 108, 109, 110, 111, 112, 113, 114, 115, 116, 117, 118, 119, 120, 121, 122, 123, 124] (by decide +kernel) (by decide +kernel)
set_option maxRecDepth 20000 in
theorem gX6_lose_X0_prepare : GoodIn wsX6_lose (wsV RX6 44 RX0 yX0_prepare wsX0_prepare) := goodIn_app (goodIn_of _ (by decide +kernel)) ggX6_lose_X0_prepare
set_option maxRecDepth 20000 in
theorem ggX6_lose_X4_loseFor : GoodIn wsX6_lose wsX4_loseFor := goodIn_r _ [62, 63, 64, 65, 66, 67, 27, 68, 69, 70, 71, 72, 73, 13, 74, 16, 17, 75, 76, 77, 53, 78, 58, 79, 80, 81, 82, 83, 84, 85, 86, 121, 122, 123, 124, 103, 104, 105, 106, 107, 108, 109, 110, 111, 112, 113, 114] (by decide +kernel) (by decide +kernel)
set_option maxRecDepth 20000 in
theorem gX6_lose_X4_loseFor : GoodIn wsX6_lose (wsV RX6 66 RX4 yX4_loseFor wsX4_loseFor) := goodIn_app (goodIn_of _ (by decide +kernel)) ggX6_lose_X4_loseFor
set_option maxRecDepth 20000 in
theorem ggX6_lose_X6_changed : GoodIn wsX6_lose wsX6_changed := goodIn_r _ [90, 1, 91, 92, 93, 6, 94, 8, 9, 95, 96, 97, 98, 99, 100, 101, 102] (by decide +kernel) (by decide +kernel)
set_option maxRecDepth 20000 in
theorem gX6_lose_X6_changed : GoodIn wsX6_lose (wsV RX6 52 RX6 yX6_changed wsX6_changed) := goodIn_app (goodIn_of _ (by decide +kernel)) ggX6_lose_X6_changed
theorem dX6_lose_0 : decode cX6_lose 0 = .ok (.aload_n 0, 1) := by decide +kernel
theorem dX6_lose_1 : decode cX6_lose 1 = .ok (.getfield 19, 3) := by decide +kernel
theorem dX6_lose_4 : decode cX6_lose 4 = .ok (.aload_n 0, 1) := by decide +kernel
theorem dX6_lose_5 : decode cX6_lose 5 = .ok (.getfield 10, 3) := by decide +kernel
theorem dX6_lose_8 : decode cX6_lose 8 = .ok (.invokevirtual 44, 3) := by decide +kernel
theorem dX6_lose_11 : decode cX6_lose 11 = .ok (.aload_n 0, 1) := by decide +kernel
theorem dX6_lose_12 : decode cX6_lose 12 = .ok (.aload_n 0, 1) := by decide +kernel
theorem dX6_lose_13 : decode cX6_lose 13 = .ok (.getfield 10, 3) := by decide +kernel
theorem dX6_lose_16 : decode cX6_lose 16 = .ok (.iload_n 1, 1) := by decide +kernel
theorem dX6_lose_17 : decode cX6_lose 17 = .ok (.iload_n 2, 1) := by decide +kernel
theorem dX6_lose_18 : decode cX6_lose 18 = .ok (.invokevirtual 66, 3) := by decide +kernel
theorem dX6_lose_21 : decode cX6_lose 21 = .ok (.invokevirtual 52, 3) := by decide +kernel
theorem dX6_lose_24 : decode cX6_lose 24 = .ok (.ireturn, 1) := by decide +kernel
set_option maxRecDepth 20000 in
theorem ggX6_resend_X0_prepare : GoodIn wsX6_resend wsX0_prepare := goodIn_r _ [7, 8, 9, 10, 11, 12, 13, 14, 15, 16, 17, 18, 19, 20, 21, 22, 23, 24, 25, 26, 27, 28, 29, 30, 31, 32, 33, 34, 35, 36, 37, 38, 39, 40, 41, 42, 43, 44, 45, 46, 47, 48, 49, 50, 51, 52, 53, 54, 55, 56, 57, 58, 96, 97, 98, 99, 100, 101, 102, 103, 104, 105, 106, 107, 108, 109, 110, 111, 112, 113, 114, 115, 116, 117, 118, 119] (by decide +kernel) (by decide +kernel)
set_option maxRecDepth 20000 in
theorem gX6_resend_X0_prepare : GoodIn wsX6_resend (wsV RX6 44 RX0 yX0_prepare wsX0_prepare) := goodIn_app (goodIn_of _ (by decide +kernel)) ggX6_resend_X0_prepare
set_option maxRecDepth 20000 in
theorem ggX6_resend_X4_resendTo : GoodIn wsX6_resend wsX4_resendTo := goodIn_r _ [62, 63, 64, 65, 66, 67, 68, 69, 70, 71, 13, 72, 16, 17, 73, 74, 75, 53, 76, 58, 77, 78, 79, 80, 81, 42, 39, 43, 116, 117, 118, 119, 98, 99, 100, 101, 102, 103, 104, 105, 106, 107, 108, 109] (by decide +kernel) (by decide +kernel)
set_option maxRecDepth 20000 in
theorem gX6_resend_X4_resendTo : GoodIn wsX6_resend (wsV RX6 69 RX4 yX4_resendTo wsX4_resendTo) := goodIn_app (goodIn_of _ (by decide +kernel)) ggX6_resend_X4_resendTo
set_option maxRecDepth 20000 in
theorem ggX6_resend_X6_changed : GoodIn wsX6_resend wsX6_changed := goodIn_r _ [85, 1, 86, 87, 88, 6, 89, 8, 9, 90, 91, 92, 93, 94, 95, 96, 97] (by decide +kernel) (by decide +kernel)
set_option maxRecDepth 20000 in
theorem gX6_resend_X6_changed : GoodIn wsX6_resend (wsV RX6 52 RX6 yX6_changed wsX6_changed) := goodIn_app (goodIn_of _ (by decide +kernel)) ggX6_resend_X6_changed
theorem dX6_resend_0 : decode cX6_resend 0 = .ok (.aload_n 0, 1) := by decide +kernel
theorem dX6_resend_1 : decode cX6_resend 1 = .ok (.getfield 19, 3) := by decide +kernel
theorem dX6_resend_4 : decode cX6_resend 4 = .ok (.aload_n 0, 1) := by decide +kernel
theorem dX6_resend_5 : decode cX6_resend 5 = .ok (.getfield 10, 3) := by decide +kernel
theorem dX6_resend_8 : decode cX6_resend 8 = .ok (.invokevirtual 44, 3) := by decide +kernel
theorem dX6_resend_11 : decode cX6_resend 11 = .ok (.aload_n 0, 1) := by decide +kernel
theorem dX6_resend_12 : decode cX6_resend 12 = .ok (.aload_n 0, 1) := by decide +kernel
theorem dX6_resend_13 : decode cX6_resend 13 = .ok (.getfield 10, 3) := by decide +kernel
theorem dX6_resend_16 : decode cX6_resend 16 = .ok (.iload_n 1, 1) := by decide +kernel
theorem dX6_resend_17 : decode cX6_resend 17 = .ok (.invokevirtual 69, 3) := by decide +kernel
theorem dX6_resend_20 : decode cX6_resend 20 = .ok (.invokevirtual 52, 3) := by decide +kernel
theorem dX6_resend_23 : decode cX6_resend 23 = .ok (.ireturn, 1) := by decide +kernel
set_option maxRecDepth 20000 in
theorem ggX6_tick_X0_prepare : GoodIn wsX6_tick wsX0_prepare := goodIn_r _ [7, 8, 9, 10, 11, 12, 13, 14, 15, 16, 17, 18, 19, 20, 21, 22, 23, 24, 25, 26, 27, 28, 29, 30, 31, 32, 33, 34, 35, 36, 37, 38, 39, 40, 41, 42, 43, 44, 45, 46, 47, 48, 49, 50, 51, 52, 53, 54, 55, 56, 57, 58, 105, 106, 107, 108, 109, 110, 111, 112, 113, 114, 115, 116, 117, 118, 119, 120, 121, 122, 123, 124, 125, 126, 127, 128] (by decide +kernel) (by decide +kernel)
set_option maxRecDepth 20000 in
theorem gX6_tick_X0_prepare : GoodIn wsX6_tick (wsV RX6 44 RX0 yX0_prepare wsX0_prepare) := goodIn_app (goodIn_of _ (by decide +kernel)) ggX6_tick_X0_prepare
set_option maxRecDepth 20000 in
theorem ggX6_tick_X4_pass : GoodIn wsX6_tick wsX4_pass := goodIn_r _ [62, 63, 23, 64, 29, 28, 65, 66, 67, 68, 69, 70, 13, 71, 16, 17, 72, 73, 74, 75, 76, 77, 15, 30, 78, 79, 80, 53, 81, 58, 82, 83, 84, 34, 85, 49, 86, 87, 88, 89, 90, 36, 107, 108, 109, 110, 111, 112, 113, 114, 115, 116, 117, 118, 125, 126, 127, 128, 119, 120, 121, 122, 123, 124] (by decide +kernel) (by decide +kernel)
set_option maxRecDepth 20000 in
theorem gX6_tick_X4_pass : GoodIn wsX6_tick (wsV RX6 72 RX4 yX4_pass wsX4_pass) := goodIn_app (goodIn_of _ (by decide +kernel)) ggX6_tick_X4_pass
set_option maxRecDepth 20000 in
theorem ggX6_tick_X6_changed : GoodIn wsX6_tick wsX6_changed := goodIn_r _ [94, 1, 95, 96, 97, 6, 98, 8, 9, 99, 100, 101, 102, 103, 104, 105, 106] (by decide +kernel) (by decide +kernel)
set_option maxRecDepth 20000 in
theorem gX6_tick_X6_changed : GoodIn wsX6_tick (wsV RX6 52 RX6 yX6_changed wsX6_changed) := goodIn_app (goodIn_of _ (by decide +kernel)) ggX6_tick_X6_changed
theorem dX6_tick_0 : decode cX6_tick 0 = .ok (.aload_n 0, 1) := by decide +kernel
theorem dX6_tick_1 : decode cX6_tick 1 = .ok (.getfield 19, 3) := by decide +kernel
theorem dX6_tick_4 : decode cX6_tick 4 = .ok (.aload_n 0, 1) := by decide +kernel
theorem dX6_tick_5 : decode cX6_tick 5 = .ok (.getfield 10, 3) := by decide +kernel
theorem dX6_tick_8 : decode cX6_tick 8 = .ok (.invokevirtual 44, 3) := by decide +kernel
theorem dX6_tick_11 : decode cX6_tick 11 = .ok (.aload_n 0, 1) := by decide +kernel
theorem dX6_tick_12 : decode cX6_tick 12 = .ok (.aload_n 0, 1) := by decide +kernel
theorem dX6_tick_13 : decode cX6_tick 13 = .ok (.getfield 10, 3) := by decide +kernel
theorem dX6_tick_16 : decode cX6_tick 16 = .ok (.iload_n 1, 1) := by decide +kernel
theorem dX6_tick_17 : decode cX6_tick 17 = .ok (.invokevirtual 72, 3) := by decide +kernel
theorem dX6_tick_20 : decode cX6_tick 20 = .ok (.invokevirtual 52, 3) := by decide +kernel
theorem dX6_tick_23 : decode cX6_tick 23 = .ok (.ireturn, 1) := by decide +kernel
set_option maxRecDepth 20000 in
theorem ggX6_promote_X0_prepare : GoodIn wsX6_promote wsX0_prepare := goodIn_r _ [7, 8, 9, 10, 11, 12, 13, 14, 15, 16, 17, 18, 19, 20, 21, 22, 23, 24, 25, 26, 27, 28, 29, 30, 31, 32, 33, 34, 35, 36, 37, 38, 39, 40, 41, 42, 43, 44, 45, 46, 47, 48, 49, 50, 51, 52, 53, 54, 55, 56, 57, 58, 116, 117, 118, 119, 120, 121, 122, 123, 124, 125, 126, 127, 128, 129, 130, 131, 132, 133, 134, 135, 136, 137, 138, 139] (by decide +kernel) (by decide +kernel)
set_option maxRecDepth 20000 in
theorem gX6_promote_X0_prepare : GoodIn wsX6_promote (wsV RX6 44 RX0 yX0_prepare wsX0_prepare) := goodIn_app (goodIn_of _ (by decide +kernel)) ggX6_promote_X0_prepare
set_option maxRecDepth 20000 in
theorem ggX6_promote_X4_promoteTo : GoodIn wsX6_promote wsX4_promoteTo := goodIn_r _ [62, 63, 64, 65, 66, 15, 67, 18, 24, 26, 68, 69, 70, 71, 72, 73, 13, 74, 16, 17, 75, 76, 77, 34, 78, 36, 79, 80, 81, 82, 44, 83, 84, 85, 86, 87, 88, 89, 90, 53, 91, 55, 56, 57, 92, 93, 94, 95, 96, 42, 39, 43, 58, 97, 98, 99, 100, 101, 38, 40, 136, 137, 138, 139, 118, 119, 120, 121, 122, 123, 124, 125, 126, 127, 128, 129, 130, 131, 132, 133, 134, 135] (by decide +kernel) (by decide +kernel)
set_option maxRecDepth 20000 in
theorem gX6_promote_X4_promoteTo : GoodIn wsX6_promote (wsV RX6 75 RX4 yX4_promoteTo wsX4_promoteTo) := goodIn_app (goodIn_of _ (by decide +kernel)) ggX6_promote_X4_promoteTo
set_option maxRecDepth 20000 in
theorem ggX6_promote_X6_changed : GoodIn wsX6_promote wsX6_changed := goodIn_r _ [105, 1, 106, 107, 108, 6, 109, 8, 9, 110, 111, 112, 113, 114, 115, 116, 117] (by decide +kernel) (by decide +kernel)
set_option maxRecDepth 20000 in
theorem gX6_promote_X6_changed : GoodIn wsX6_promote (wsV RX6 52 RX6 yX6_changed wsX6_changed) := goodIn_app (goodIn_of _ (by decide +kernel)) ggX6_promote_X6_changed
theorem dX6_promote_0 : decode cX6_promote 0 = .ok (.aload_n 0, 1) := by decide +kernel
theorem dX6_promote_1 : decode cX6_promote 1 = .ok (.getfield 19, 3) := by decide +kernel
theorem dX6_promote_4 : decode cX6_promote 4 = .ok (.aload_n 0, 1) := by decide +kernel
theorem dX6_promote_5 : decode cX6_promote 5 = .ok (.getfield 10, 3) := by decide +kernel
theorem dX6_promote_8 : decode cX6_promote 8 = .ok (.invokevirtual 44, 3) := by decide +kernel
theorem dX6_promote_11 : decode cX6_promote 11 = .ok (.aload_n 0, 1) := by decide +kernel
theorem dX6_promote_12 : decode cX6_promote 12 = .ok (.aload_n 0, 1) := by decide +kernel
theorem dX6_promote_13 : decode cX6_promote 13 = .ok (.getfield 10, 3) := by decide +kernel
theorem dX6_promote_16 : decode cX6_promote 16 = .ok (.iload_n 1, 1) := by decide +kernel
theorem dX6_promote_17 : decode cX6_promote 17 = .ok (.invokevirtual 75, 3) := by decide +kernel
theorem dX6_promote_20 : decode cX6_promote 20 = .ok (.invokevirtual 52, 3) := by decide +kernel
theorem dX6_promote_23 : decode cX6_promote 23 = .ok (.ireturn, 1) := by decide +kernel
set_option maxRecDepth 20000 in
theorem ggX6_rebuild_X0_prepare : GoodIn wsX6_rebuild wsX0_prepare := goodIn_r _ [7, 8, 9, 10, 11, 12, 13, 14, 15, 16, 17, 18, 19, 20, 21, 22, 23, 24, 25, 26, 27, 28, 29, 30, 31, 32, 33, 34, 35, 36, 37, 38, 39, 40, 41, 42, 43, 44, 45, 46, 47, 48, 49, 50, 51, 52, 53, 54, 55, 56, 57, 58, 95, 96, 97, 98, 99, 100, 101, 102, 103, 104, 105, 106, 107, 108, 109, 110, 111, 112, 113, 114, 115, 116, 117, 118] (by decide +kernel) (by decide +kernel)
set_option maxRecDepth 20000 in
theorem gX6_rebuild_X0_prepare : GoodIn wsX6_rebuild (wsV RX6 44 RX0 yX0_prepare wsX0_prepare) := goodIn_app (goodIn_of _ (by decide +kernel)) ggX6_rebuild_X0_prepare
set_option maxRecDepth 20000 in
theorem ggX6_rebuild_X4_rebuildOf : GoodIn wsX6_rebuild wsX4_rebuildOf := goodIn_r _ [62, 63, 15, 64, 65, 66, 67, 68, 69, 70, 13, 71, 16, 17, 72, 73, 74, 53, 75, 55, 56, 57, 76, 77, 78, 79, 80, 42, 39, 43, 58, 97, 98, 99, 100, 101, 102, 103, 104, 105, 106, 107, 108, 109, 110, 111, 112, 113, 114, 115, 116, 117, 118] (by decide +kernel) (by decide +kernel)
set_option maxRecDepth 20000 in
theorem gX6_rebuild_X4_rebuildOf : GoodIn wsX6_rebuild (wsV RX6 78 RX4 yX4_rebuildOf wsX4_rebuildOf) := goodIn_app (goodIn_of _ (by decide +kernel)) ggX6_rebuild_X4_rebuildOf
set_option maxRecDepth 20000 in
theorem ggX6_rebuild_X6_changed : GoodIn wsX6_rebuild wsX6_changed := goodIn_r _ [84, 1, 85, 86, 87, 6, 88, 8, 9, 89, 90, 91, 92, 93, 94, 95, 96] (by decide +kernel) (by decide +kernel)
set_option maxRecDepth 20000 in
theorem gX6_rebuild_X6_changed : GoodIn wsX6_rebuild (wsV RX6 52 RX6 yX6_changed wsX6_changed) := goodIn_app (goodIn_of _ (by decide +kernel)) ggX6_rebuild_X6_changed
theorem dX6_rebuild_0 : decode cX6_rebuild 0 = .ok (.aload_n 0, 1) := by decide +kernel
theorem dX6_rebuild_1 : decode cX6_rebuild 1 = .ok (.getfield 19, 3) := by decide +kernel
theorem dX6_rebuild_4 : decode cX6_rebuild 4 = .ok (.aload_n 0, 1) := by decide +kernel
theorem dX6_rebuild_5 : decode cX6_rebuild 5 = .ok (.getfield 10, 3) := by decide +kernel
theorem dX6_rebuild_8 : decode cX6_rebuild 8 = .ok (.invokevirtual 44, 3) := by decide +kernel
theorem dX6_rebuild_11 : decode cX6_rebuild 11 = .ok (.aload_n 0, 1) := by decide +kernel
theorem dX6_rebuild_12 : decode cX6_rebuild 12 = .ok (.aload_n 0, 1) := by decide +kernel
theorem dX6_rebuild_13 : decode cX6_rebuild 13 = .ok (.getfield 10, 3) := by decide +kernel
theorem dX6_rebuild_16 : decode cX6_rebuild 16 = .ok (.iload_n 1, 1) := by decide +kernel
theorem dX6_rebuild_17 : decode cX6_rebuild 17 = .ok (.invokevirtual 78, 3) := by decide +kernel
theorem dX6_rebuild_20 : decode cX6_rebuild 20 = .ok (.invokevirtual 52, 3) := by decide +kernel
theorem dX6_rebuild_23 : decode cX6_rebuild 23 = .ok (.ireturn, 1) := by decide +kernel
set_option maxRecDepth 20000 in
theorem ggX6_set_X0_prepare : GoodIn wsX6_set wsX0_prepare := goodIn_r _ [7, 8, 9, 10, 11, 12, 13, 14, 15, 16, 17, 18, 19, 20, 21, 22, 23, 24, 25, 26, 27, 28, 29, 30, 31, 32, 33, 34, 35, 36, 37, 38, 39, 40, 41, 42, 43, 44, 45, 46, 47, 48, 49, 50, 51, 52, 53, 54, 55, 56, 57, 58, 79, 80, 81, 82, 83, 84, 85, 86, 87, 88, 89, 90, 91, 92, 93, 94, 95, 96, 97, 98, 99, 100, 101, 102] (by decide +kernel) (by decide +kernel)
set_option maxRecDepth 20000 in
theorem gX6_set_X0_prepare : GoodIn wsX6_set (wsV RX6 44 RX0 yX0_prepare wsX0_prepare) := goodIn_app (goodIn_of _ (by decide +kernel)) ggX6_set_X0_prepare
set_option maxRecDepth 20000 in
theorem ggX6_set_X4_setTo : GoodIn wsX6_set wsX4_setTo := goodIn_r _ [62, 29, 30, 63, 81, 82, 83, 84, 85, 86, 87, 88, 89, 90, 91, 92] (by decide +kernel) (by decide +kernel)
set_option maxRecDepth 20000 in
theorem gX6_set_X4_setTo : GoodIn wsX6_set (wsV RX6 81 RX4 yX4_setTo wsX4_setTo) := goodIn_app (goodIn_of _ (by decide +kernel)) ggX6_set_X4_setTo
set_option maxRecDepth 20000 in
theorem ggX6_set_X6_changed : GoodIn wsX6_set wsX6_changed := goodIn_r _ [68, 1, 69, 70, 71, 6, 72, 8, 9, 73, 74, 75, 76, 77, 78, 79, 80] (by decide +kernel) (by decide +kernel)
set_option maxRecDepth 20000 in
theorem gX6_set_X6_changed : GoodIn wsX6_set (wsV RX6 52 RX6 yX6_changed wsX6_changed) := goodIn_app (goodIn_of _ (by decide +kernel)) ggX6_set_X6_changed
theorem dX6_set_0 : decode cX6_set 0 = .ok (.aload_n 0, 1) := by decide +kernel
theorem dX6_set_1 : decode cX6_set 1 = .ok (.getfield 19, 3) := by decide +kernel
theorem dX6_set_4 : decode cX6_set 4 = .ok (.aload_n 0, 1) := by decide +kernel
theorem dX6_set_5 : decode cX6_set 5 = .ok (.getfield 10, 3) := by decide +kernel
theorem dX6_set_8 : decode cX6_set 8 = .ok (.invokevirtual 44, 3) := by decide +kernel
theorem dX6_set_11 : decode cX6_set 11 = .ok (.aload_n 0, 1) := by decide +kernel
theorem dX6_set_12 : decode cX6_set 12 = .ok (.aload_n 0, 1) := by decide +kernel
theorem dX6_set_13 : decode cX6_set 13 = .ok (.getfield 10, 3) := by decide +kernel
theorem dX6_set_16 : decode cX6_set 16 = .ok (.iload_n 1, 1) := by decide +kernel
theorem dX6_set_17 : decode cX6_set 17 = .ok (.iload_n 2, 1) := by decide +kernel
theorem dX6_set_18 : decode cX6_set 18 = .ok (.invokevirtual 81, 3) := by decide +kernel
theorem dX6_set_21 : decode cX6_set 21 = .ok (.invokevirtual 52, 3) := by decide +kernel
theorem dX6_set_24 : decode cX6_set 24 = .ok (.ireturn, 1) := by decide +kernel
set_option maxRecDepth 20000 in
theorem ggX6_recordOf_X1_has : GoodIn wsX6_recordOf wsX1_has := goodIn_r _ [9, 10, 56, 57, 58, 59, 60, 61] (by decide +kernel) (by decide +kernel)
set_option maxRecDepth 20000 in
theorem gX6_recordOf_X1_has : GoodIn wsX6_recordOf (wsV RX6 147 RX1 yX1_has wsX1_has) := goodIn_app (goodIn_of _ (by decide +kernel)) ggX6_recordOf_X1_has
set_option maxRecDepth 20000 in
theorem ggX6_recordOf_X1_kindOf : GoodIn wsX6_recordOf wsX1_kindOf := goodIn_r _ [14, 15, 16, 17, 6, 7, 8, 9, 10, 56, 57, 58, 59, 60, 61] (by decide +kernel) (by decide +kernel)
set_option maxRecDepth 20000 in
theorem gX6_recordOf_X1_kindOf : GoodIn wsX6_recordOf (wsV RX6 150 RX1 yX1_kindOf wsX1_kindOf) := goodIn_app (goodIn_of _ (by decide +kernel)) ggX6_recordOf_X1_kindOf
set_option maxRecDepth 20000 in
theorem ggX6_recordOf_X1_transactionOf : GoodIn wsX6_recordOf wsX1_transactionOf := goodIn_r _ [21, 22, 16, 17, 6, 7, 8, 9, 10, 56, 57, 58, 59, 60, 61] (by decide +kernel) (by decide +kernel)
set_option maxRecDepth 20000 in
theorem gX6_recordOf_X1_transactionOf : GoodIn wsX6_recordOf (wsV RX6 153 RX1 yX1_transactionOf wsX1_transactionOf) := goodIn_app (goodIn_of _ (by decide +kernel)) ggX6_recordOf_X1_transactionOf
set_option maxRecDepth 20000 in
theorem ggX6_recordOf_X1_keyOf : GoodIn wsX6_recordOf wsX1_keyOf := goodIn_r _ [26, 27, 16, 17, 6, 7, 8, 9, 10, 56, 57, 58, 59, 60, 61] (by decide +kernel) (by decide +kernel)
set_option maxRecDepth 20000 in
theorem gX6_recordOf_X1_keyOf : GoodIn wsX6_recordOf (wsV RX6 156 RX1 yX1_keyOf wsX1_keyOf) := goodIn_app (goodIn_of _ (by decide +kernel)) ggX6_recordOf_X1_keyOf
set_option maxRecDepth 20000 in
theorem ggX6_recordOf_X1_valueIn : GoodIn wsX6_recordOf wsX1_valueIn := goodIn_r _ [31, 32, 16, 17, 6, 7, 8, 9, 10, 56, 57, 58, 59, 60, 61] (by decide +kernel) (by decide +kernel)
set_option maxRecDepth 20000 in
theorem gX6_recordOf_X1_valueIn : GoodIn wsX6_recordOf (wsV RX6 130 RX1 yX1_valueIn wsX1_valueIn) := goodIn_app (goodIn_of _ (by decide +kernel)) ggX6_recordOf_X1_valueIn
set_option maxRecDepth 20000 in
theorem ggX6_recordOf_X1_tickOf : GoodIn wsX6_recordOf wsX1_tickOf := goodIn_r _ [36, 37, 16, 17, 6, 7, 8, 9, 10, 56, 57, 58, 59, 60, 61] (by decide +kernel) (by decide +kernel)
set_option maxRecDepth 20000 in
theorem gX6_recordOf_X1_tickOf : GoodIn wsX6_recordOf (wsV RX6 159 RX1 yX1_tickOf wsX1_tickOf) := goodIn_app (goodIn_of _ (by decide +kernel)) ggX6_recordOf_X1_tickOf
theorem dX6_recordOf_0 : decode cX6_recordOf 0 = .ok (.iload_n 1, 1) := by decide +kernel
theorem dX6_recordOf_1 : decode cX6_recordOf 1 = .ok (.iconst 1, 1) := by decide +kernel
theorem dX6_recordOf_2 : decode cX6_recordOf 2 = .ok (.if_icmp .lt 12, 3) := by decide +kernel
theorem dX6_recordOf_5 : decode cX6_recordOf 5 = .ok (.iload_n 2, 1) := by decide +kernel
theorem dX6_recordOf_6 : decode cX6_recordOf 6 = .ok (.ifCond .lt 8, 3) := by decide +kernel
theorem dX6_recordOf_9 : decode cX6_recordOf 9 = .ok (.iload_n 2, 1) := by decide +kernel
theorem dX6_recordOf_10 : decode cX6_recordOf 10 = .ok (.iconst 4, 1) := by decide +kernel
theorem dX6_recordOf_11 : decode cX6_recordOf 11 = .ok (.if_icmp .le 6, 3) := by decide +kernel
theorem dX6_recordOf_14 : decode cX6_recordOf 14 = .ok (.ldc 94, 2) := by decide +kernel
theorem dX6_recordOf_16 : decode cX6_recordOf 16 = .ok (.ireturn, 1) := by decide +kernel
theorem dX6_recordOf_17 : decode cX6_recordOf 17 = .ok (.aload_n 0, 1) := by decide +kernel
theorem dX6_recordOf_18 : decode cX6_recordOf 18 = .ok (.getfield 10, 3) := by decide +kernel
theorem dX6_recordOf_21 : decode cX6_recordOf 21 = .ok (.getfield 105, 3) := by decide +kernel
theorem dX6_recordOf_24 : decode cX6_recordOf 24 = .ok (.astore_n 3, 1) := by decide +kernel
theorem dX6_recordOf_25 : decode cX6_recordOf 25 = .ok (.iload_n 2, 1) := by decide +kernel
theorem dX6_recordOf_26 : decode cX6_recordOf 26 = .ok (.iconst 2, 1) := by decide +kernel
theorem dX6_recordOf_27 : decode cX6_recordOf 27 = .ok (.if_icmp .eq 8, 3) := by decide +kernel
theorem dX6_recordOf_30 : decode cX6_recordOf 30 = .ok (.iload_n 2, 1) := by decide +kernel
theorem dX6_recordOf_31 : decode cX6_recordOf 31 = .ok (.iconst 3, 1) := by decide +kernel
theorem dX6_recordOf_32 : decode cX6_recordOf 32 = .ok (.if_icmp .ne 7, 3) := by decide +kernel
theorem dX6_recordOf_35 : decode cX6_recordOf 35 = .ok (.iconst 1, 1) := by decide +kernel
theorem dX6_recordOf_36 : decode cX6_recordOf 36 = .ok (.goto 4, 3) := by decide +kernel
theorem dX6_recordOf_39 : decode cX6_recordOf 39 = .ok (.iconst 0, 1) := by decide +kernel
theorem dX6_recordOf_40 : decode cX6_recordOf 40 = .ok (.istore 4, 2) := by decide +kernel
theorem dX6_recordOf_42 : decode cX6_recordOf 42 = .ok (.aload_n 3, 1) := by decide +kernel
theorem dX6_recordOf_43 : decode cX6_recordOf 43 = .ok (.iload_n 1, 1) := by decide +kernel
theorem dX6_recordOf_44 : decode cX6_recordOf 44 = .ok (.invokevirtual 147, 3) := by decide +kernel
theorem dX6_recordOf_47 : decode cX6_recordOf 47 = .ok (.ifCond .eq 16, 3) := by decide +kernel
theorem dX6_recordOf_50 : decode cX6_recordOf 50 = .ok (.iload 4, 2) := by decide +kernel
theorem dX6_recordOf_52 : decode cX6_recordOf 52 = .ok (.ifCond .eq 14, 3) := by decide +kernel
theorem dX6_recordOf_55 : decode cX6_recordOf 55 = .ok (.aload_n 3, 1) := by decide +kernel
theorem dX6_recordOf_56 : decode cX6_recordOf 56 = .ok (.iload_n 1, 1) := by decide +kernel
theorem dX6_recordOf_57 : decode cX6_recordOf 57 = .ok (.invokevirtual 150, 3) := by decide +kernel
theorem dX6_recordOf_60 : decode cX6_recordOf 60 = .ok (.ifCond .eq 6, 3) := by decide +kernel
theorem dX6_recordOf_63 : decode cX6_recordOf 63 = .ok (.ldc 140, 2) := by decide +kernel
theorem dX6_recordOf_65 : decode cX6_recordOf 65 = .ok (.ireturn, 1) := by decide +kernel
theorem dX6_recordOf_66 : decode cX6_recordOf 66 = .ok (.iload_n 2, 1) := by decide +kernel
theorem dX6_recordOf_67 : decode cX6_recordOf 67 = .ok (.tableswitch 53 0 3 #[29, 35, 41, 47], 29) := by decide +kernel
theorem dX6_recordOf_96 : decode cX6_recordOf 96 = .ok (.aload_n 3, 1) := by decide +kernel
theorem dX6_recordOf_97 : decode cX6_recordOf 97 = .ok (.iload_n 1, 1) := by decide +kernel
theorem dX6_recordOf_98 : decode cX6_recordOf 98 = .ok (.invokevirtual 150, 3) := by decide +kernel
theorem dX6_recordOf_101 : decode cX6_recordOf 101 = .ok (.ireturn, 1) := by decide +kernel
theorem dX6_recordOf_102 : decode cX6_recordOf 102 = .ok (.aload_n 3, 1) := by decide +kernel
theorem dX6_recordOf_103 : decode cX6_recordOf 103 = .ok (.iload_n 1, 1) := by decide +kernel
theorem dX6_recordOf_104 : decode cX6_recordOf 104 = .ok (.invokevirtual 153, 3) := by decide +kernel
theorem dX6_recordOf_107 : decode cX6_recordOf 107 = .ok (.ireturn, 1) := by decide +kernel
theorem dX6_recordOf_108 : decode cX6_recordOf 108 = .ok (.aload_n 3, 1) := by decide +kernel
theorem dX6_recordOf_109 : decode cX6_recordOf 109 = .ok (.iload_n 1, 1) := by decide +kernel
theorem dX6_recordOf_110 : decode cX6_recordOf 110 = .ok (.invokevirtual 156, 3) := by decide +kernel
theorem dX6_recordOf_113 : decode cX6_recordOf 113 = .ok (.ireturn, 1) := by decide +kernel
theorem dX6_recordOf_114 : decode cX6_recordOf 114 = .ok (.aload_n 3, 1) := by decide +kernel
theorem dX6_recordOf_115 : decode cX6_recordOf 115 = .ok (.iload_n 1, 1) := by decide +kernel
theorem dX6_recordOf_116 : decode cX6_recordOf 116 = .ok (.invokevirtual 130, 3) := by decide +kernel
theorem dX6_recordOf_119 : decode cX6_recordOf 119 = .ok (.ireturn, 1) := by decide +kernel
theorem dX6_recordOf_120 : decode cX6_recordOf 120 = .ok (.aload_n 3, 1) := by decide +kernel
theorem dX6_recordOf_121 : decode cX6_recordOf 121 = .ok (.iload_n 1, 1) := by decide +kernel
theorem dX6_recordOf_122 : decode cX6_recordOf 122 = .ok (.invokevirtual 159, 3) := by decide +kernel
theorem dX6_recordOf_125 : decode cX6_recordOf 125 = .ok (.ireturn, 1) := by decide +kernel
set_option maxRecDepth 20000 in
theorem ggX6_standbyOf_X6_isStandby : GoodIn wsX6_standbyOf wsX6_isStandby := goodIn_r _ [13] (by decide +kernel) (by decide +kernel)
set_option maxRecDepth 20000 in
theorem gX6_standbyOf_X6_isStandby : GoodIn wsX6_standbyOf (va_wsS RX6 84 yX6_isStandby wsX6_isStandby) := goodIn_app (goodIn_of _ (by decide +kernel)) ggX6_standbyOf_X6_isStandby
set_option maxRecDepth 20000 in
theorem ggX6_standbyOf_X4_standby : GoodIn wsX6_standbyOf wsX4_standby := goodIn_r _ [18, 19, 20, 98, 99, 100, 101, 102, 103, 104, 105, 106, 107, 108, 109] (by decide +kernel) (by decide +kernel)
set_option maxRecDepth 20000 in
theorem gX6_standbyOf_X4_standby : GoodIn wsX6_standbyOf (wsV RX6 95 RX4 yX4_standby wsX4_standby) := goodIn_app (goodIn_of _ (by decide +kernel)) ggX6_standbyOf_X4_standby
set_option maxRecDepth 20000 in
theorem ggX6_standbyOf_X3_gapCount : GoodIn wsX6_standbyOf wsX3_gapCount := goodIn_r _ [25, 26, 110, 111, 112, 113] (by decide +kernel) (by decide +kernel)
set_option maxRecDepth 20000 in
theorem gX6_standbyOf_X3_gapCount : GoodIn wsX6_standbyOf (wsV RX6 165 RX3 yX3_gapCount wsX3_gapCount) := goodIn_app (goodIn_of _ (by decide +kernel)) ggX6_standbyOf_X3_gapCount
set_option maxRecDepth 20000 in
theorem ggX6_standbyOf_X3_lowestGap : GoodIn wsX6_standbyOf wsX3_lowestGap := goodIn_r _ [30, 26, 110, 111, 112, 113] (by decide +kernel) (by decide +kernel)
set_option maxRecDepth 20000 in
theorem gX6_standbyOf_X3_lowestGap : GoodIn wsX6_standbyOf (wsV RX6 169 RX3 yX3_lowestGap wsX3_lowestGap) := goodIn_app (goodIn_of _ (by decide +kernel)) ggX6_standbyOf_X3_lowestGap
set_option maxRecDepth 20000 in
theorem ggX6_standbyOf_X6_found : GoodIn wsX6_standbyOf wsX6_found := goodIn_r _ [33, 9] (by decide +kernel) (by decide +kernel)
set_option maxRecDepth 20000 in
theorem gX6_standbyOf_X6_found : GoodIn wsX6_standbyOf (va_wsS RX6 144 yX6_found wsX6_found) := goodIn_app (goodIn_of _ (by decide +kernel)) ggX6_standbyOf_X6_found
set_option maxRecDepth 20000 in
theorem ggX6_standbyOf_X1_commitsBehind : GoodIn wsX6_standbyOf wsX1_commitsBehind := goodIn_r _ [38, 39, 40, 41, 42, 37, 43, 44, 45, 46, 47, 48, 49, 114, 115, 116, 117, 118, 119] (by decide +kernel) (by decide +kernel)
set_option maxRecDepth 20000 in
theorem gX6_standbyOf_X1_commitsBehind : GoodIn wsX6_standbyOf (wsV RX6 176 RX1 yX1_commitsBehind wsX1_commitsBehind) := goodIn_app (goodIn_of _ (by decide +kernel)) ggX6_standbyOf_X1_commitsBehind
set_option maxRecDepth 20000 in
theorem ggX6_standbyOf_X1_has : GoodIn wsX6_standbyOf wsX1_has := goodIn_r _ [49, 39, 114, 115, 116, 117, 118, 119] (by decide +kernel) (by decide +kernel)
set_option maxRecDepth 20000 in
theorem gX6_standbyOf_X1_has : GoodIn wsX6_standbyOf (wsV RX6 147 RX1 yX1_has wsX1_has) := goodIn_app (goodIn_of _ (by decide +kernel)) ggX6_standbyOf_X1_has
set_option maxRecDepth 20000 in
theorem ggX6_standbyOf_X1_tickOf : GoodIn wsX6_standbyOf wsX1_tickOf := goodIn_r _ [54, 55, 45, 46, 47, 48, 37, 49, 39, 114, 115, 116, 117, 118, 119] (by decide +kernel) (by decide +kernel)
set_option maxRecDepth 20000 in
theorem gX6_standbyOf_X1_tickOf : GoodIn wsX6_standbyOf (wsV RX6 159 RX1 yX1_tickOf wsX1_tickOf) := goodIn_app (goodIn_of _ (by decide +kernel)) ggX6_standbyOf_X1_tickOf
set_option maxRecDepth 20000 in
theorem ggX6_standbyOf_X6_keysNotAsAtEnd : GoodIn wsX6_standbyOf wsX6_keysNotAsAtEnd := goodIn_r _ [59, 2, 3, 60, 7, 61, 62, 63, 64, 37, 65, 40, 41, 42, 43, 44, 45, 46, 47, 48, 49, 39, 66, 67, 68, 69, 70, 71, 72, 73, 74, 75, 76, 77, 78, 79, 80, 81, 82, 83, 84, 85, 86, 87, 88, 89, 90, 91, 92, 93, 94, 95, 96, 97, 98, 99, 100, 101, 102, 103, 104, 105, 106, 107, 108, 109, 114, 115, 116, 117, 118, 119] (by decide +kernel) (by decide +kernel)
set_option maxRecDepth 20000 in
theorem gX6_standbyOf_X6_keysNotAsAtEnd : GoodIn wsX6_standbyOf (wsV RX6 182 RX6 yX6_keysNotAsAtEnd wsX6_keysNotAsAtEnd) := goodIn_app (goodIn_of _ (by decide +kernel)) ggX6_standbyOf_X6_keysNotAsAtEnd
theorem dX6_standbyOf_0 : decode cX6_standbyOf 0 = .ok (.iload_n 1, 1) := by decide +kernel
theorem dX6_standbyOf_1 : decode cX6_standbyOf 1 = .ok (.invokestatic 84, 3) := by decide +kernel
theorem dX6_standbyOf_4 : decode cX6_standbyOf 4 = .ok (.ifCond .eq 13, 3) := by decide +kernel
theorem dX6_standbyOf_7 : decode cX6_standbyOf 7 = .ok (.iload_n 2, 1) := by decide +kernel
theorem dX6_standbyOf_8 : decode cX6_standbyOf 8 = .ok (.ifCond .lt 9, 3) := by decide +kernel
theorem dX6_standbyOf_11 : decode cX6_standbyOf 11 = .ok (.iload_n 2, 1) := by decide +kernel
theorem dX6_standbyOf_12 : decode cX6_standbyOf 12 = .ok (.bipush 8, 2) := by decide +kernel
theorem dX6_standbyOf_14 : decode cX6_standbyOf 14 = .ok (.if_icmp .le 6, 3) := by decide +kernel
theorem dX6_standbyOf_17 : decode cX6_standbyOf 17 = .ok (.ldc 94, 2) := by decide +kernel
theorem dX6_standbyOf_19 : decode cX6_standbyOf 19 = .ok (.ireturn, 1) := by decide +kernel
theorem dX6_standbyOf_20 : decode cX6_standbyOf 20 = .ok (.aload_n 0, 1) := by decide +kernel
theorem dX6_standbyOf_21 : decode cX6_standbyOf 21 = .ok (.getfield 10, 3) := by decide +kernel
theorem dX6_standbyOf_24 : decode cX6_standbyOf 24 = .ok (.iload_n 1, 1) := by decide +kernel
theorem dX6_standbyOf_25 : decode cX6_standbyOf 25 = .ok (.invokevirtual 95, 3) := by decide +kernel
theorem dX6_standbyOf_28 : decode cX6_standbyOf 28 = .ok (.astore_n 3, 1) := by decide +kernel
theorem dX6_standbyOf_29 : decode cX6_standbyOf 29 = .ok (.aload_n 0, 1) := by decide +kernel
theorem dX6_standbyOf_30 : decode cX6_standbyOf 30 = .ok (.getfield 10, 3) := by decide +kernel
theorem dX6_standbyOf_33 : decode cX6_standbyOf 33 = .ok (.getfield 105, 3) := by decide +kernel
theorem dX6_standbyOf_36 : decode cX6_standbyOf 36 = .ok (.astore 4, 2) := by decide +kernel
theorem dX6_standbyOf_38 : decode cX6_standbyOf 38 = .ok (.iload_n 2, 1) := by decide +kernel
theorem dX6_standbyOf_39 : decode cX6_standbyOf 39 = .ok (.tableswitch 141 0 7 #[45, 50, 55, 60, 68, 81, 92, 102], 45) := by decide +kernel
theorem dX6_standbyOf_84 : decode cX6_standbyOf 84 = .ok (.aload_n 3, 1) := by decide +kernel
theorem dX6_standbyOf_85 : decode cX6_standbyOf 85 = .ok (.getfield 162, 3) := by decide +kernel
theorem dX6_standbyOf_88 : decode cX6_standbyOf 88 = .ok (.ireturn, 1) := by decide +kernel
theorem dX6_standbyOf_89 : decode cX6_standbyOf 89 = .ok (.aload_n 3, 1) := by decide +kernel
theorem dX6_standbyOf_90 : decode cX6_standbyOf 90 = .ok (.getfield 109, 3) := by decide +kernel
theorem dX6_standbyOf_93 : decode cX6_standbyOf 93 = .ok (.ireturn, 1) := by decide +kernel
theorem dX6_standbyOf_94 : decode cX6_standbyOf 94 = .ok (.aload_n 3, 1) := by decide +kernel
theorem dX6_standbyOf_95 : decode cX6_standbyOf 95 = .ok (.invokevirtual 165, 3) := by decide +kernel
theorem dX6_standbyOf_98 : decode cX6_standbyOf 98 = .ok (.ireturn, 1) := by decide +kernel
theorem dX6_standbyOf_99 : decode cX6_standbyOf 99 = .ok (.aload_n 3, 1) := by decide +kernel
theorem dX6_standbyOf_100 : decode cX6_standbyOf 100 = .ok (.invokevirtual 169, 3) := by decide +kernel
theorem dX6_standbyOf_103 : decode cX6_standbyOf 103 = .ok (.invokestatic 144, 3) := by decide +kernel
theorem dX6_standbyOf_106 : decode cX6_standbyOf 106 = .ok (.ireturn, 1) := by decide +kernel
theorem dX6_standbyOf_107 : decode cX6_standbyOf 107 = .ok (.aload_n 3, 1) := by decide +kernel
theorem dX6_standbyOf_108 : decode cX6_standbyOf 108 = .ok (.getfield 172, 3) := by decide +kernel
theorem dX6_standbyOf_111 : decode cX6_standbyOf 111 = .ok (.ifCond .eq 7, 3) := by decide +kernel
theorem dX6_standbyOf_114 : decode cX6_standbyOf 114 = .ok (.iconst 1, 1) := by decide +kernel
theorem dX6_standbyOf_115 : decode cX6_standbyOf 115 = .ok (.goto 4, 3) := by decide +kernel
theorem dX6_standbyOf_118 : decode cX6_standbyOf 118 = .ok (.iconst 0, 1) := by decide +kernel
theorem dX6_standbyOf_119 : decode cX6_standbyOf 119 = .ok (.ireturn, 1) := by decide +kernel
theorem dX6_standbyOf_120 : decode cX6_standbyOf 120 = .ok (.aload 4, 2) := by decide +kernel
theorem dX6_standbyOf_122 : decode cX6_standbyOf 122 = .ok (.getfield 121, 3) := by decide +kernel
theorem dX6_standbyOf_125 : decode cX6_standbyOf 125 = .ok (.aload_n 3, 1) := by decide +kernel
theorem dX6_standbyOf_126 : decode cX6_standbyOf 126 = .ok (.getfield 109, 3) := by decide +kernel
theorem dX6_standbyOf_129 : decode cX6_standbyOf 129 = .ok (.isub, 1) := by decide +kernel
theorem dX6_standbyOf_130 : decode cX6_standbyOf 130 = .ok (.ireturn, 1) := by decide +kernel
theorem dX6_standbyOf_131 : decode cX6_standbyOf 131 = .ok (.aload 4, 2) := by decide +kernel
theorem dX6_standbyOf_133 : decode cX6_standbyOf 133 = .ok (.aload_n 3, 1) := by decide +kernel
theorem dX6_standbyOf_134 : decode cX6_standbyOf 134 = .ok (.getfield 109, 3) := by decide +kernel
theorem dX6_standbyOf_137 : decode cX6_standbyOf 137 = .ok (.invokevirtual 176, 3) := by decide +kernel
theorem dX6_standbyOf_140 : decode cX6_standbyOf 140 = .ok (.ireturn, 1) := by decide +kernel
theorem dX6_standbyOf_141 : decode cX6_standbyOf 141 = .ok (.aload 4, 2) := by decide +kernel
theorem dX6_standbyOf_143 : decode cX6_standbyOf 143 = .ok (.aload_n 3, 1) := by decide +kernel
theorem dX6_standbyOf_144 : decode cX6_standbyOf 144 = .ok (.getfield 109, 3) := by decide +kernel
theorem dX6_standbyOf_147 : decode cX6_standbyOf 147 = .ok (.iconst 1, 1) := by decide +kernel
theorem dX6_standbyOf_148 : decode cX6_standbyOf 148 = .ok (.iadd, 1) := by decide +kernel
theorem dX6_standbyOf_149 : decode cX6_standbyOf 149 = .ok (.invokevirtual 147, 3) := by decide +kernel
theorem dX6_standbyOf_152 : decode cX6_standbyOf 152 = .ok (.ifCond .eq 25, 3) := by decide +kernel
theorem dX6_standbyOf_155 : decode cX6_standbyOf 155 = .ok (.aload_n 0, 1) := by decide +kernel
theorem dX6_standbyOf_156 : decode cX6_standbyOf 156 = .ok (.getfield 10, 3) := by decide +kernel
theorem dX6_standbyOf_159 : decode cX6_standbyOf 159 = .ok (.getfield 179, 3) := by decide +kernel
theorem dX6_standbyOf_162 : decode cX6_standbyOf 162 = .ok (.aload 4, 2) := by decide +kernel
theorem dX6_standbyOf_164 : decode cX6_standbyOf 164 = .ok (.aload_n 3, 1) := by decide +kernel
theorem dX6_standbyOf_165 : decode cX6_standbyOf 165 = .ok (.getfield 109, 3) := by decide +kernel
theorem dX6_standbyOf_168 : decode cX6_standbyOf 168 = .ok (.iconst 1, 1) := by decide +kernel
theorem dX6_standbyOf_169 : decode cX6_standbyOf 169 = .ok (.iadd, 1) := by decide +kernel
theorem dX6_standbyOf_170 : decode cX6_standbyOf 170 = .ok (.invokevirtual 159, 3) := by decide +kernel
theorem dX6_standbyOf_173 : decode cX6_standbyOf 173 = .ok (.isub, 1) := by decide +kernel
theorem dX6_standbyOf_174 : decode cX6_standbyOf 174 = .ok (.goto 5, 3) := by decide +kernel
theorem dX6_standbyOf_177 : decode cX6_standbyOf 177 = .ok (.ldc 140, 2) := by decide +kernel
theorem dX6_standbyOf_179 : decode cX6_standbyOf 179 = .ok (.ireturn, 1) := by decide +kernel
theorem dX6_standbyOf_180 : decode cX6_standbyOf 180 = .ok (.aload_n 0, 1) := by decide +kernel
theorem dX6_standbyOf_181 : decode cX6_standbyOf 181 = .ok (.aload_n 3, 1) := by decide +kernel
theorem dX6_standbyOf_182 : decode cX6_standbyOf 182 = .ok (.getfield 109, 3) := by decide +kernel
theorem dX6_standbyOf_185 : decode cX6_standbyOf 185 = .ok (.invokevirtual 182, 3) := by decide +kernel
theorem dX6_standbyOf_188 : decode cX6_standbyOf 188 = .ok (.ireturn, 1) := by decide +kernel
set_option maxRecDepth 20000 in
theorem ggX6_slotOf_X6_isSlot : GoodIn wsX6_slotOf wsX6_isSlot := goodIn_r _ [8] (by decide +kernel) (by decide +kernel)
set_option maxRecDepth 20000 in
theorem gX6_slotOf_X6_isSlot : GoodIn wsX6_slotOf (va_wsS RX6 118 yX6_isSlot wsX6_isSlot) := goodIn_app (goodIn_of _ (by decide +kernel)) ggX6_slotOf_X6_isSlot
set_option maxRecDepth 20000 in
theorem ggX6_slotOf_X4_transactionIn : GoodIn wsX6_slotOf wsX4_transactionIn := goodIn_r _ [13, 14, 6, 7, 8, 46, 47, 48, 49, 50, 51, 52, 53, 54, 55, 56, 57] (by decide +kernel) (by decide +kernel)
set_option maxRecDepth 20000 in
theorem gX6_slotOf_X4_transactionIn : GoodIn wsX6_slotOf (wsV RX6 124 RX4 yX4_transactionIn wsX4_transactionIn) := goodIn_app (goodIn_of _ (by decide +kernel)) ggX6_slotOf_X4_transactionIn
set_option maxRecDepth 20000 in
theorem ggX6_slotOf_X1_putsOf : GoodIn wsX6_slotOf wsX1_putsOf := goodIn_r _ [19, 20, 21, 22, 23, 18, 24, 25, 26, 27, 28, 29, 30, 31, 32, 33, 34, 35, 36, 37, 38, 39, 58, 59, 60, 61, 62, 63] (by decide +kernel) (by decide +kernel)
set_option maxRecDepth 20000 in
theorem gX6_slotOf_X1_putsOf : GoodIn wsX6_slotOf (wsV RX6 185 RX1 yX1_putsOf wsX1_putsOf) := goodIn_app (goodIn_of _ (by decide +kernel)) ggX6_slotOf_X1_putsOf
theorem dX6_slotOf_0 : decode cX6_slotOf 0 = .ok (.iload_n 1, 1) := by decide +kernel
theorem dX6_slotOf_1 : decode cX6_slotOf 1 = .ok (.invokestatic 118, 3) := by decide +kernel
theorem dX6_slotOf_4 : decode cX6_slotOf 4 = .ok (.ifCond .eq 12, 3) := by decide +kernel
theorem dX6_slotOf_7 : decode cX6_slotOf 7 = .ok (.iload_n 2, 1) := by decide +kernel
theorem dX6_slotOf_8 : decode cX6_slotOf 8 = .ok (.ifCond .lt 8, 3) := by decide +kernel
theorem dX6_slotOf_11 : decode cX6_slotOf 11 = .ok (.iload_n 2, 1) := by decide +kernel
theorem dX6_slotOf_12 : decode cX6_slotOf 12 = .ok (.iconst 1, 1) := by decide +kernel
theorem dX6_slotOf_13 : decode cX6_slotOf 13 = .ok (.if_icmp .le 6, 3) := by decide +kernel
theorem dX6_slotOf_16 : decode cX6_slotOf 16 = .ok (.ldc 94, 2) := by decide +kernel
theorem dX6_slotOf_18 : decode cX6_slotOf 18 = .ok (.ireturn, 1) := by decide +kernel
theorem dX6_slotOf_19 : decode cX6_slotOf 19 = .ok (.aload_n 0, 1) := by decide +kernel
theorem dX6_slotOf_20 : decode cX6_slotOf 20 = .ok (.getfield 10, 3) := by decide +kernel
theorem dX6_slotOf_23 : decode cX6_slotOf 23 = .ok (.iload_n 1, 1) := by decide +kernel
theorem dX6_slotOf_24 : decode cX6_slotOf 24 = .ok (.invokevirtual 124, 3) := by decide +kernel
theorem dX6_slotOf_27 : decode cX6_slotOf 27 = .ok (.istore_n 3, 1) := by decide +kernel
theorem dX6_slotOf_28 : decode cX6_slotOf 28 = .ok (.iload_n 3, 1) := by decide +kernel
theorem dX6_slotOf_29 : decode cX6_slotOf 29 = .ok (.ifCond .ne 6, 3) := by decide +kernel
theorem dX6_slotOf_32 : decode cX6_slotOf 32 = .ok (.ldc 140, 2) := by decide +kernel
theorem dX6_slotOf_34 : decode cX6_slotOf 34 = .ok (.ireturn, 1) := by decide +kernel
theorem dX6_slotOf_35 : decode cX6_slotOf 35 = .ok (.iload_n 2, 1) := by decide +kernel
theorem dX6_slotOf_36 : decode cX6_slotOf 36 = .ok (.ifCond .ne 7, 3) := by decide +kernel
theorem dX6_slotOf_39 : decode cX6_slotOf 39 = .ok (.iload_n 3, 1) := by decide +kernel
theorem dX6_slotOf_40 : decode cX6_slotOf 40 = .ok (.goto 14, 3) := by decide +kernel
theorem dX6_slotOf_43 : decode cX6_slotOf 43 = .ok (.aload_n 0, 1) := by decide +kernel
theorem dX6_slotOf_44 : decode cX6_slotOf 44 = .ok (.getfield 10, 3) := by decide +kernel
theorem dX6_slotOf_47 : decode cX6_slotOf 47 = .ok (.getfield 105, 3) := by decide +kernel
theorem dX6_slotOf_50 : decode cX6_slotOf 50 = .ok (.iload_n 3, 1) := by decide +kernel
theorem dX6_slotOf_51 : decode cX6_slotOf 51 = .ok (.invokevirtual 185, 3) := by decide +kernel
theorem dX6_slotOf_54 : decode cX6_slotOf 54 = .ok (.ireturn, 1) := by decide +kernel
set_option maxRecDepth 20000 in
theorem ggX6_count_X1_commitsBehind : GoodIn wsX6_count wsX1_commitsBehind := goodIn_r _ [21, 22, 23, 24, 25, 20, 26, 27, 28, 29, 30, 31, 32, 51, 52, 53, 54, 55, 56] (by decide +kernel) (by decide +kernel)
set_option maxRecDepth 20000 in
theorem gX6_count_X1_commitsBehind : GoodIn wsX6_count (wsV RX6 176 RX1 yX1_commitsBehind wsX1_commitsBehind) := goodIn_app (goodIn_of _ (by decide +kernel)) ggX6_count_X1_commitsBehind
theorem dX6_count_0 : decode cX6_count 0 = .ok (.iload_n 1, 1) := by decide +kernel
theorem dX6_count_1 : decode cX6_count 1 = .ok (.tableswitch 206 0 21 #[103, 114, 122, 130, 138, 150, 158, 166, 174, 182, 206, 206, 206, 206, 206, 206, 206, 206, 206, 206, 190, 198], 103) := by decide +kernel
theorem dX6_count_104 : decode cX6_count 104 = .ok (.aload_n 0, 1) := by decide +kernel
theorem dX6_count_105 : decode cX6_count 105 = .ok (.getfield 10, 3) := by decide +kernel
theorem dX6_count_108 : decode cX6_count 108 = .ok (.getfield 105, 3) := by decide +kernel
theorem dX6_count_111 : decode cX6_count 111 = .ok (.getfield 121, 3) := by decide +kernel
theorem dX6_count_114 : decode cX6_count 114 = .ok (.ireturn, 1) := by decide +kernel
theorem dX6_count_115 : decode cX6_count 115 = .ok (.aload_n 0, 1) := by decide +kernel
theorem dX6_count_116 : decode cX6_count 116 = .ok (.getfield 10, 3) := by decide +kernel
theorem dX6_count_119 : decode cX6_count 119 = .ok (.getfield 179, 3) := by decide +kernel
theorem dX6_count_122 : decode cX6_count 122 = .ok (.ireturn, 1) := by decide +kernel
theorem dX6_count_123 : decode cX6_count 123 = .ok (.aload_n 0, 1) := by decide +kernel
theorem dX6_count_124 : decode cX6_count 124 = .ok (.getfield 10, 3) := by decide +kernel
theorem dX6_count_127 : decode cX6_count 127 = .ok (.getfield 198, 3) := by decide +kernel
theorem dX6_count_130 : decode cX6_count 130 = .ok (.ireturn, 1) := by decide +kernel
theorem dX6_count_131 : decode cX6_count 131 = .ok (.aload_n 0, 1) := by decide +kernel
theorem dX6_count_132 : decode cX6_count 132 = .ok (.getfield 10, 3) := by decide +kernel
theorem dX6_count_135 : decode cX6_count 135 = .ok (.getfield 201, 3) := by decide +kernel
theorem dX6_count_138 : decode cX6_count 138 = .ok (.ireturn, 1) := by decide +kernel
theorem dX6_count_139 : decode cX6_count 139 = .ok (.aload_n 0, 1) := by decide +kernel
theorem dX6_count_140 : decode cX6_count 140 = .ok (.getfield 10, 3) := by decide +kernel
theorem dX6_count_143 : decode cX6_count 143 = .ok (.getfield 105, 3) := by decide +kernel
theorem dX6_count_146 : decode cX6_count 146 = .ok (.iconst 0, 1) := by decide +kernel
theorem dX6_count_147 : decode cX6_count 147 = .ok (.invokevirtual 176, 3) := by decide +kernel
theorem dX6_count_150 : decode cX6_count 150 = .ok (.ireturn, 1) := by decide +kernel
theorem dX6_count_151 : decode cX6_count 151 = .ok (.aload_n 0, 1) := by decide +kernel
theorem dX6_count_152 : decode cX6_count 152 = .ok (.getfield 10, 3) := by decide +kernel
theorem dX6_count_155 : decode cX6_count 155 = .ok (.getfield 204, 3) := by decide +kernel
theorem dX6_count_158 : decode cX6_count 158 = .ok (.ireturn, 1) := by decide +kernel
theorem dX6_count_159 : decode cX6_count 159 = .ok (.aload_n 0, 1) := by decide +kernel
theorem dX6_count_160 : decode cX6_count 160 = .ok (.getfield 10, 3) := by decide +kernel
theorem dX6_count_163 : decode cX6_count 163 = .ok (.getfield 207, 3) := by decide +kernel
theorem dX6_count_166 : decode cX6_count 166 = .ok (.ireturn, 1) := by decide +kernel
theorem dX6_count_167 : decode cX6_count 167 = .ok (.aload_n 0, 1) := by decide +kernel
theorem dX6_count_168 : decode cX6_count 168 = .ok (.getfield 10, 3) := by decide +kernel
theorem dX6_count_171 : decode cX6_count 171 = .ok (.getfield 210, 3) := by decide +kernel
theorem dX6_count_174 : decode cX6_count 174 = .ok (.ireturn, 1) := by decide +kernel
theorem dX6_count_175 : decode cX6_count 175 = .ok (.aload_n 0, 1) := by decide +kernel
theorem dX6_count_176 : decode cX6_count 176 = .ok (.getfield 19, 3) := by decide +kernel
theorem dX6_count_179 : decode cX6_count 179 = .ok (.getfield 213, 3) := by decide +kernel
theorem dX6_count_182 : decode cX6_count 182 = .ok (.ireturn, 1) := by decide +kernel
theorem dX6_count_183 : decode cX6_count 183 = .ok (.aload_n 0, 1) := by decide +kernel
theorem dX6_count_184 : decode cX6_count 184 = .ok (.getfield 26, 3) := by decide +kernel
theorem dX6_count_187 : decode cX6_count 187 = .ok (.getfield 214, 3) := by decide +kernel
theorem dX6_count_190 : decode cX6_count 190 = .ok (.ireturn, 1) := by decide +kernel
theorem dX6_count_191 : decode cX6_count 191 = .ok (.aload_n 0, 1) := by decide +kernel
theorem dX6_count_192 : decode cX6_count 192 = .ok (.getfield 10, 3) := by decide +kernel
theorem dX6_count_195 : decode cX6_count 195 = .ok (.getfield 217, 3) := by decide +kernel
theorem dX6_count_198 : decode cX6_count 198 = .ok (.ireturn, 1) := by decide +kernel
theorem dX6_count_199 : decode cX6_count 199 = .ok (.aload_n 0, 1) := by decide +kernel
theorem dX6_count_200 : decode cX6_count 200 = .ok (.getfield 10, 3) := by decide +kernel
theorem dX6_count_203 : decode cX6_count 203 = .ok (.getfield 220, 3) := by decide +kernel
theorem dX6_count_206 : decode cX6_count 206 = .ok (.ireturn, 1) := by decide +kernel
theorem dX6_count_207 : decode cX6_count 207 = .ok (.ldc 94, 2) := by decide +kernel
theorem dX6_count_209 : decode cX6_count 209 = .ok (.ireturn, 1) := by decide +kernel
set_option maxRecDepth 20000 in
theorem ggX6_changed_X0_keep : GoodIn wsX6_changed wsX0_keep := goodIn_r _ [6, 7, 8, 15, 16] (by decide +kernel) (by decide +kernel)
set_option maxRecDepth 20000 in
theorem gX6_changed_X0_keep : GoodIn wsX6_changed (wsV RX6 252 RX0 yX0_keep wsX0_keep) := goodIn_app (goodIn_of _ (by decide +kernel)) ggX6_changed_X0_keep
theorem dX6_changed_0 : decode cX6_changed 0 = .ok (.iload_n 1, 1) := by decide +kernel
theorem dX6_changed_1 : decode cX6_changed 1 = .ok (.ifCond .lt 10, 3) := by decide +kernel
theorem dX6_changed_4 : decode cX6_changed 4 = .ok (.aload_n 0, 1) := by decide +kernel
theorem dX6_changed_5 : decode cX6_changed 5 = .ok (.getfield 19, 3) := by decide +kernel
theorem dX6_changed_8 : decode cX6_changed 8 = .ok (.invokevirtual 252, 3) := by decide +kernel
theorem dX6_changed_11 : decode cX6_changed 11 = .ok (.iload_n 1, 1) := by decide +kernel
theorem dX6_changed_12 : decode cX6_changed 12 = .ok (.ireturn, 1) := by decide +kernel
set_option maxRecDepth 20000 in
theorem ggX6_keysNotAsAtEnd_X1_fillValues : GoodIn wsX6_keysNotAsAtEnd wsX1_fillValues := goodIn_r _ [10, 11, 12, 13, 9, 14, 15, 16, 17, 18, 19, 20, 21, 22, 23, 24, 25, 26, 27, 28, 29, 30, 31, 32, 33, 34, 35, 36, 37, 38, 39, 40, 41, 42, 43, 44, 45, 46, 47, 66, 67, 68, 69, 70, 71] (by decide +kernel) (by decide +kernel)
set_option maxRecDepth 20000 in
theorem gX6_keysNotAsAtEnd_X1_fillValues : GoodIn wsX6_keysNotAsAtEnd (wsV RX6 255 RX1 yX1_fillValues wsX1_fillValues) := goodIn_app (goodIn_of _ (by decide +kernel)) ggX6_keysNotAsAtEnd_X1_fillValues
theorem dX6_keysNotAsAtEnd_0 : decode cX6_keysNotAsAtEnd 0 = .ok (.aload_n 0, 1) := by decide +kernel
theorem dX6_keysNotAsAtEnd_1 : decode cX6_keysNotAsAtEnd 1 = .ok (.getfield 10, 3) := by decide +kernel
theorem dX6_keysNotAsAtEnd_4 : decode cX6_keysNotAsAtEnd 4 = .ok (.getfield 105, 3) := by decide +kernel
theorem dX6_keysNotAsAtEnd_7 : decode cX6_keysNotAsAtEnd 7 = .ok (.iload_n 1, 1) := by decide +kernel
theorem dX6_keysNotAsAtEnd_8 : decode cX6_keysNotAsAtEnd 8 = .ok (.aload_n 0, 1) := by decide +kernel
theorem dX6_keysNotAsAtEnd_9 : decode cX6_keysNotAsAtEnd 9 = .ok (.getfield 37, 3) := by decide +kernel
theorem dX6_keysNotAsAtEnd_12 : decode cX6_keysNotAsAtEnd 12 = .ok (.invokevirtual 255, 3) := by decide +kernel
theorem dX6_keysNotAsAtEnd_15 : decode cX6_keysNotAsAtEnd 15 = .ok (.aload_n 0, 1) := by decide +kernel
theorem dX6_keysNotAsAtEnd_16 : decode cX6_keysNotAsAtEnd 16 = .ok (.getfield 10, 3) := by decide +kernel
theorem dX6_keysNotAsAtEnd_19 : decode cX6_keysNotAsAtEnd 19 = .ok (.getfield 105, 3) := by decide +kernel
theorem dX6_keysNotAsAtEnd_22 : decode cX6_keysNotAsAtEnd 22 = .ok (.aload_n 0, 1) := by decide +kernel
theorem dX6_keysNotAsAtEnd_23 : decode cX6_keysNotAsAtEnd 23 = .ok (.getfield 10, 3) := by decide +kernel
theorem dX6_keysNotAsAtEnd_26 : decode cX6_keysNotAsAtEnd 26 = .ok (.getfield 105, 3) := by decide +kernel
theorem dX6_keysNotAsAtEnd_29 : decode cX6_keysNotAsAtEnd 29 = .ok (.getfield 121, 3) := by decide +kernel
theorem dX6_keysNotAsAtEnd_32 : decode cX6_keysNotAsAtEnd 32 = .ok (.aload_n 0, 1) := by decide +kernel
theorem dX6_keysNotAsAtEnd_33 : decode cX6_keysNotAsAtEnd 33 = .ok (.getfield 41, 3) := by decide +kernel
theorem dX6_keysNotAsAtEnd_36 : decode cX6_keysNotAsAtEnd 36 = .ok (.invokevirtual 255, 3) := by decide +kernel
theorem dX6_keysNotAsAtEnd_39 : decode cX6_keysNotAsAtEnd 39 = .ok (.iconst 0, 1) := by decide +kernel
theorem dX6_keysNotAsAtEnd_40 : decode cX6_keysNotAsAtEnd 40 = .ok (.istore_n 2, 1) := by decide +kernel
theorem dX6_keysNotAsAtEnd_41 : decode cX6_keysNotAsAtEnd 41 = .ok (.iconst 0, 1) := by decide +kernel
theorem dX6_keysNotAsAtEnd_42 : decode cX6_keysNotAsAtEnd 42 = .ok (.istore_n 3, 1) := by decide +kernel
theorem dX6_keysNotAsAtEnd_43 : decode cX6_keysNotAsAtEnd 43 = .ok (.iload_n 3, 1) := by decide +kernel
theorem dX6_keysNotAsAtEnd_44 : decode cX6_keysNotAsAtEnd 44 = .ok (.bipush 24, 2) := by decide +kernel
theorem dX6_keysNotAsAtEnd_46 : decode cX6_keysNotAsAtEnd 46 = .ok (.if_icmp .ge 27, 3) := by decide +kernel
theorem dX6_keysNotAsAtEnd_49 : decode cX6_keysNotAsAtEnd 49 = .ok (.aload_n 0, 1) := by decide +kernel
theorem dX6_keysNotAsAtEnd_50 : decode cX6_keysNotAsAtEnd 50 = .ok (.getfield 37, 3) := by decide +kernel
theorem dX6_keysNotAsAtEnd_53 : decode cX6_keysNotAsAtEnd 53 = .ok (.iload_n 3, 1) := by decide +kernel
theorem dX6_keysNotAsAtEnd_54 : decode cX6_keysNotAsAtEnd 54 = .ok (.iaload, 1) := by decide +kernel
theorem dX6_keysNotAsAtEnd_55 : decode cX6_keysNotAsAtEnd 55 = .ok (.aload_n 0, 1) := by decide +kernel
theorem dX6_keysNotAsAtEnd_56 : decode cX6_keysNotAsAtEnd 56 = .ok (.getfield 41, 3) := by decide +kernel
theorem dX6_keysNotAsAtEnd_59 : decode cX6_keysNotAsAtEnd 59 = .ok (.iload_n 3, 1) := by decide +kernel
theorem dX6_keysNotAsAtEnd_60 : decode cX6_keysNotAsAtEnd 60 = .ok (.iaload, 1) := by decide +kernel
theorem dX6_keysNotAsAtEnd_61 : decode cX6_keysNotAsAtEnd 61 = .ok (.if_icmp .eq 6, 3) := by decide +kernel
theorem dX6_keysNotAsAtEnd_64 : decode cX6_keysNotAsAtEnd 64 = .ok (.iinc 2 1, 3) := by decide +kernel
theorem dX6_keysNotAsAtEnd_67 : decode cX6_keysNotAsAtEnd 67 = .ok (.iinc 3 1, 3) := by decide +kernel
theorem dX6_keysNotAsAtEnd_70 : decode cX6_keysNotAsAtEnd 70 = .ok (.goto (-27), 3) := by decide +kernel
theorem dX6_keysNotAsAtEnd_73 : decode cX6_keysNotAsAtEnd 73 = .ok (.iload_n 2, 1) := by decide +kernel
theorem dX6_keysNotAsAtEnd_74 : decode cX6_keysNotAsAtEnd 74 = .ok (.ireturn, 1) := by decide +kernel
theorem dX6_found_0 : decode cX6_found 0 = .ok (.iload_n 0, 1) := by decide +kernel
theorem dX6_found_1 : decode cX6_found 1 = .ok (.ifCond .ne 8, 3) := by decide +kernel
theorem dX6_found_4 : decode cX6_found 4 = .ok (.ldc 140, 2) := by decide +kernel
theorem dX6_found_6 : decode cX6_found 6 = .ok (.goto 4, 3) := by decide +kernel
theorem dX6_found_9 : decode cX6_found 9 = .ok (.iload_n 0, 1) := by decide +kernel
theorem dX6_found_10 : decode cX6_found 10 = .ok (.ireturn, 1) := by decide +kernel
theorem dX6_isSlot_0 : decode cX6_isSlot 0 = .ok (.iload_n 0, 1) := by decide +kernel
theorem dX6_isSlot_1 : decode cX6_isSlot 1 = .ok (.ifCond .lt 12, 3) := by decide +kernel
theorem dX6_isSlot_4 : decode cX6_isSlot 4 = .ok (.iload_n 0, 1) := by decide +kernel
theorem dX6_isSlot_5 : decode cX6_isSlot 5 = .ok (.iconst 3, 1) := by decide +kernel
theorem dX6_isSlot_6 : decode cX6_isSlot 6 = .ok (.if_icmp .ge 7, 3) := by decide +kernel
theorem dX6_isSlot_9 : decode cX6_isSlot 9 = .ok (.iconst 1, 1) := by decide +kernel
theorem dX6_isSlot_10 : decode cX6_isSlot 10 = .ok (.goto 4, 3) := by decide +kernel
theorem dX6_isSlot_13 : decode cX6_isSlot 13 = .ok (.iconst 0, 1) := by decide +kernel
theorem dX6_isSlot_14 : decode cX6_isSlot 14 = .ok (.ireturn, 1) := by decide +kernel
theorem dX6_isKey_0 : decode cX6_isKey 0 = .ok (.iload_n 0, 1) := by decide +kernel
theorem dX6_isKey_1 : decode cX6_isKey 1 = .ok (.ifCond .lt 13, 3) := by decide +kernel
theorem dX6_isKey_4 : decode cX6_isKey 4 = .ok (.iload_n 0, 1) := by decide +kernel
theorem dX6_isKey_5 : decode cX6_isKey 5 = .ok (.bipush 24, 2) := by decide +kernel
theorem dX6_isKey_7 : decode cX6_isKey 7 = .ok (.if_icmp .ge 7, 3) := by decide +kernel
theorem dX6_isKey_10 : decode cX6_isKey 10 = .ok (.iconst 1, 1) := by decide +kernel
theorem dX6_isKey_11 : decode cX6_isKey 11 = .ok (.goto 4, 3) := by decide +kernel
theorem dX6_isKey_14 : decode cX6_isKey 14 = .ok (.iconst 0, 1) := by decide +kernel
theorem dX6_isKey_15 : decode cX6_isKey 15 = .ok (.ireturn, 1) := by decide +kernel
theorem dX6_isStandby_0 : decode cX6_isStandby 0 = .ok (.iload_n 0, 1) := by decide +kernel
theorem dX6_isStandby_1 : decode cX6_isStandby 1 = .ok (.ifCond .lt 12, 3) := by decide +kernel
theorem dX6_isStandby_4 : decode cX6_isStandby 4 = .ok (.iload_n 0, 1) := by decide +kernel
theorem dX6_isStandby_5 : decode cX6_isStandby 5 = .ok (.iconst 2, 1) := by decide +kernel
theorem dX6_isStandby_6 : decode cX6_isStandby 6 = .ok (.if_icmp .ge 7, 3) := by decide +kernel
theorem dX6_isStandby_9 : decode cX6_isStandby 9 = .ok (.iconst 1, 1) := by decide +kernel
theorem dX6_isStandby_10 : decode cX6_isStandby 10 = .ok (.goto 4, 3) := by decide +kernel
theorem dX6_isStandby_13 : decode cX6_isStandby 13 = .ok (.iconst 0, 1) := by decide +kernel
theorem dX6_isStandby_14 : decode cX6_isStandby 14 = .ok (.ireturn, 1) := by decide +kernel
theorem dX6_isTicks_0 : decode cX6_isTicks 0 = .ok (.iload_n 0, 1) := by decide +kernel
theorem dX6_isTicks_1 : decode cX6_isTicks 1 = .ok (.iconst 1, 1) := by decide +kernel
theorem dX6_isTicks_2 : decode cX6_isTicks 2 = .ok (.if_icmp .lt 13, 3) := by decide +kernel
theorem dX6_isTicks_5 : decode cX6_isTicks 5 = .ok (.iload_n 0, 1) := by decide +kernel
theorem dX6_isTicks_6 : decode cX6_isTicks 6 = .ok (.bipush 99, 2) := by decide +kernel
theorem dX6_isTicks_8 : decode cX6_isTicks 8 = .ok (.if_icmp .gt 7, 3) := by decide +kernel
theorem dX6_isTicks_11 : decode cX6_isTicks 11 = .ok (.iconst 1, 1) := by decide +kernel
theorem dX6_isTicks_12 : decode cX6_isTicks 12 = .ok (.goto 4, 3) := by decide +kernel
theorem dX6_isTicks_15 : decode cX6_isTicks 15 = .ok (.iconst 0, 1) := by decide +kernel
theorem dX6_isTicks_16 : decode cX6_isTicks 16 = .ok (.ireturn, 1) := by decide +kernel
theorem dJ9_max_7cf53_0 : decode cJ9_max_7cf53 0 = .ok (.iload_n 0, 1) := by decide +kernel
theorem dJ9_max_7cf53_1 : decode cJ9_max_7cf53 1 = .ok (.iload_n 1, 1) := by decide +kernel
theorem dJ9_max_7cf53_2 : decode cJ9_max_7cf53 2 = .ok (.if_icmp .lt 7, 3) := by decide +kernel
theorem dJ9_max_7cf53_5 : decode cJ9_max_7cf53 5 = .ok (.iload_n 0, 1) := by decide +kernel
theorem dJ9_max_7cf53_6 : decode cJ9_max_7cf53 6 = .ok (.goto 4, 3) := by decide +kernel
theorem dJ9_max_7cf53_9 : decode cJ9_max_7cf53 9 = .ok (.iload_n 1, 1) := by decide +kernel
theorem dJ9_max_7cf53_10 : decode cJ9_max_7cf53 10 = .ok (.ireturn, 1) := by decide +kernel
theorem dJ9_min_7cf53_0 : decode cJ9_min_7cf53 0 = .ok (.iload_n 0, 1) := by decide +kernel
theorem dJ9_min_7cf53_1 : decode cJ9_min_7cf53 1 = .ok (.iload_n 1, 1) := by decide +kernel
theorem dJ9_min_7cf53_2 : decode cJ9_min_7cf53 2 = .ok (.if_icmp .gt 7, 3) := by decide +kernel
theorem dJ9_min_7cf53_5 : decode cJ9_min_7cf53 5 = .ok (.iload_n 0, 1) := by decide +kernel
theorem dJ9_min_7cf53_6 : decode cJ9_min_7cf53 6 = .ok (.goto 4, 3) := by decide +kernel
theorem dJ9_min_7cf53_9 : decode cJ9_min_7cf53 9 = .ok (.iload_n 1, 1) := by decide +kernel
theorem dJ9_min_7cf53_10 : decode cJ9_min_7cf53 10 = .ok (.ireturn, 1) := by decide +kernel
theorem dL_cell_0 : decode cL_cell 0 = .ok (.iload_n 1, 1) := by decide +kernel
theorem dL_cell_1 : decode cL_cell 1 = .ok (.aload_n 0, 1) := by decide +kernel
theorem dL_cell_2 : decode cL_cell 2 = .ok (.arraylength, 1) := by decide +kernel
theorem dL_cell_3 : decode cL_cell 3 = .ok (.if_icmp .ge 9, 3) := by decide +kernel
theorem dL_cell_6 : decode cL_cell 6 = .ok (.aload_n 0, 1) := by decide +kernel
theorem dL_cell_7 : decode cL_cell 7 = .ok (.iload_n 1, 1) := by decide +kernel
theorem dL_cell_8 : decode cL_cell 8 = .ok (.iaload, 1) := by decide +kernel
theorem dL_cell_9 : decode cL_cell 9 = .ok (.goto 9, 3) := by decide +kernel
theorem dL_cell_12 : decode cL_cell 12 = .ok (.ldc 7, 2) := by decide +kernel
theorem dL_cell_14 : decode cL_cell 14 = .ok (.iload_n 1, 1) := by decide +kernel
theorem dL_cell_15 : decode cL_cell 15 = .ok (.iconst 3, 1) := by decide +kernel
theorem dL_cell_16 : decode cL_cell 16 = .ok (.iadd, 1) := by decide +kernel
theorem dL_cell_17 : decode cL_cell 17 = .ok (.imul, 1) := by decide +kernel
theorem dL_cell_18 : decode cL_cell 18 = .ok (.ireturn, 1) := by decide +kernel
theorem dL_low_0 : decode cL_low 0 = .ok (.iload_n 0, 1) := by decide +kernel
theorem dL_low_1 : decode cL_low 1 = .ok (.ldc 8, 2) := by decide +kernel
theorem dL_low_3 : decode cL_low 3 = .ok (.iand, 1) := by decide +kernel
theorem dL_low_4 : decode cL_low 4 = .ok (.iload_n 1, 1) := by decide +kernel
theorem dL_low_5 : decode cL_low 5 = .ok (.irem, 1) := by decide +kernel
theorem dL_low_6 : decode cL_low 6 = .ok (.ireturn, 1) := by decide +kernel
theorem dL_kind_0 : decode cL_kind 0 = .ok (.aload_n 0, 1) := by decide +kernel
theorem dL_kind_1 : decode cL_kind 1 = .ok (.iload_n 1, 1) := by decide +kernel
theorem dL_kind_2 : decode cL_kind 2 = .ok (.laload, 1) := by decide +kernel
theorem dL_kind_3 : decode cL_kind 3 = .ok (.ldc2_w 9, 3) := by decide +kernel
theorem dL_kind_6 : decode cL_kind 6 = .ok (.lrem, 1) := by decide +kernel
theorem dL_kind_7 : decode cL_kind 7 = .ok (.l2i, 1) := by decide +kernel
theorem dL_kind_8 : decode cL_kind 8 = .ok (.ireturn, 1) := by decide +kernel
theorem dL_key_0 : decode cL_key 0 = .ok (.aload_n 0, 1) := by decide +kernel
theorem dL_key_1 : decode cL_key 1 = .ok (.iload_n 1, 1) := by decide +kernel
theorem dL_key_2 : decode cL_key 2 = .ok (.laload, 1) := by decide +kernel
theorem dL_key_3 : decode cL_key 3 = .ok (.ldc2_w 9, 3) := by decide +kernel
theorem dL_key_6 : decode cL_key 6 = .ok (.ldiv, 1) := by decide +kernel
theorem dL_key_7 : decode cL_key 7 = .ok (.ldc2_w 11, 3) := by decide +kernel
theorem dL_key_10 : decode cL_key 10 = .ok (.lrem, 1) := by decide +kernel
theorem dL_key_11 : decode cL_key 11 = .ok (.l2i, 1) := by decide +kernel
theorem dL_key_12 : decode cL_key 12 = .ok (.ireturn, 1) := by decide +kernel
theorem dL_value_0 : decode cL_value 0 = .ok (.aload_n 0, 1) := by decide +kernel
theorem dL_value_1 : decode cL_value 1 = .ok (.iload_n 1, 1) := by decide +kernel
theorem dL_value_2 : decode cL_value 2 = .ok (.laload, 1) := by decide +kernel
theorem dL_value_3 : decode cL_value 3 = .ok (.ldc2_w 13, 3) := by decide +kernel
theorem dL_value_6 : decode cL_value 6 = .ok (.ldiv, 1) := by decide +kernel
theorem dL_value_7 : decode cL_value 7 = .ok (.ldc2_w 15, 3) := by decide +kernel
theorem dL_value_10 : decode cL_value 10 = .ok (.lrem, 1) := by decide +kernel
theorem dL_value_11 : decode cL_value 11 = .ok (.l2i, 1) := by decide +kernel
theorem dL_value_12 : decode cL_value 12 = .ok (.ireturn, 1) := by decide +kernel
theorem dL_by_0 : decode cL_by 0 = .ok (.aload_n 0, 1) := by decide +kernel
theorem dL_by_1 : decode cL_by 1 = .ok (.iload_n 1, 1) := by decide +kernel
theorem dL_by_2 : decode cL_by 2 = .ok (.laload, 1) := by decide +kernel
theorem dL_by_3 : decode cL_by 3 = .ok (.ldc2_w 17, 3) := by decide +kernel
theorem dL_by_6 : decode cL_by 6 = .ok (.ldiv, 1) := by decide +kernel
theorem dL_by_7 : decode cL_by 7 = .ok (.ldc2_w 15, 3) := by decide +kernel
theorem dL_by_10 : decode cL_by 10 = .ok (.lrem, 1) := by decide +kernel
theorem dL_by_11 : decode cL_by 11 = .ok (.l2i, 1) := by decide +kernel
theorem dL_by_12 : decode cL_by 12 = .ok (.ireturn, 1) := by decide +kernel
theorem dL_at_0 : decode cL_at 0 = .ok (.aload_n 0, 1) := by decide +kernel
theorem dL_at_1 : decode cL_at 1 = .ok (.iload_n 1, 1) := by decide +kernel
theorem dL_at_2 : decode cL_at 2 = .ok (.laload, 1) := by decide +kernel
theorem dL_at_3 : decode cL_at 3 = .ok (.ldc2_w 19, 3) := by decide +kernel
theorem dL_at_6 : decode cL_at 6 = .ok (.ldiv, 1) := by decide +kernel
theorem dL_at_7 : decode cL_at 7 = .ok (.l2i, 1) := by decide +kernel
theorem dL_at_8 : decode cL_at 8 = .ok (.ireturn, 1) := by decide +kernel
theorem dL_write_0 : decode cL_write 0 = .ok (.aload_n 0, 1) := by decide +kernel
theorem dL_write_1 : decode cL_write 1 = .ok (.iconst 0, 1) := by decide +kernel
theorem dL_write_2 : decode cL_write 2 = .ok (.dup2, 1) := by decide +kernel
theorem dL_write_3 : decode cL_write 3 = .ok (.iaload, 1) := by decide +kernel
theorem dL_write_4 : decode cL_write 4 = .ok (.iconst 1, 1) := by decide +kernel
theorem dL_write_5 : decode cL_write 5 = .ok (.iadd, 1) := by decide +kernel
theorem dL_write_6 : decode cL_write 6 = .ok (.iastore, 1) := by decide +kernel
theorem dL_write_7 : decode cL_write 7 = .ok (.aload_n 1, 1) := by decide +kernel
theorem dL_write_8 : decode cL_write 8 = .ok (.aload_n 0, 1) := by decide +kernel
theorem dL_write_9 : decode cL_write 9 = .ok (.iconst 0, 1) := by decide +kernel
theorem dL_write_10 : decode cL_write 10 = .ok (.iaload, 1) := by decide +kernel
theorem dL_write_11 : decode cL_write 11 = .ok (.iload_n 2, 1) := by decide +kernel
theorem dL_write_12 : decode cL_write 12 = .ok (.i2l, 1) := by decide +kernel
theorem dL_write_13 : decode cL_write 13 = .ok (.ldc2_w 9, 3) := by decide +kernel
theorem dL_write_16 : decode cL_write 16 = .ok (.iload_n 3, 1) := by decide +kernel
theorem dL_write_17 : decode cL_write 17 = .ok (.i2l, 1) := by decide +kernel
theorem dL_write_18 : decode cL_write 18 = .ok (.lmul, 1) := by decide +kernel
theorem dL_write_19 : decode cL_write 19 = .ok (.ladd, 1) := by decide +kernel
theorem dL_write_20 : decode cL_write 20 = .ok (.ldc2_w 13, 3) := by decide +kernel
theorem dL_write_23 : decode cL_write 23 = .ok (.iload 4, 2) := by decide +kernel
theorem dL_write_25 : decode cL_write 25 = .ok (.i2l, 1) := by decide +kernel
theorem dL_write_26 : decode cL_write 26 = .ok (.lmul, 1) := by decide +kernel
theorem dL_write_27 : decode cL_write 27 = .ok (.ladd, 1) := by decide +kernel
theorem dL_write_28 : decode cL_write 28 = .ok (.ldc2_w 17, 3) := by decide +kernel
theorem dL_write_31 : decode cL_write 31 = .ok (.iload 5, 2) := by decide +kernel
theorem dL_write_33 : decode cL_write 33 = .ok (.i2l, 1) := by decide +kernel
theorem dL_write_34 : decode cL_write 34 = .ok (.lmul, 1) := by decide +kernel
theorem dL_write_35 : decode cL_write 35 = .ok (.ladd, 1) := by decide +kernel
theorem dL_write_36 : decode cL_write 36 = .ok (.ldc2_w 19, 3) := by decide +kernel
theorem dL_write_39 : decode cL_write 39 = .ok (.aload_n 0, 1) := by decide +kernel
theorem dL_write_40 : decode cL_write 40 = .ok (.iconst 1, 1) := by decide +kernel
theorem dL_write_41 : decode cL_write 41 = .ok (.iaload, 1) := by decide +kernel
theorem dL_write_42 : decode cL_write 42 = .ok (.i2l, 1) := by decide +kernel
theorem dL_write_43 : decode cL_write 43 = .ok (.lmul, 1) := by decide +kernel
theorem dL_write_44 : decode cL_write 44 = .ok (.ladd, 1) := by decide +kernel
theorem dL_write_45 : decode cL_write 45 = .ok (.lastore, 1) := by decide +kernel
theorem dL_write_46 : decode cL_write 46 = .ok (.return_, 1) := by decide +kernel
set_option maxRecDepth 20000 in
theorem ggL_commits_L_kind : GoodIn wsL_commits wsL_kind := goodIn_r _ [4, 5] (by decide +kernel) (by decide +kernel)
set_option maxRecDepth 20000 in
theorem gL_commits_L_kind : GoodIn wsL_commits (va_wsS RL 21 yL_kind wsL_kind) := goodIn_app (goodIn_of _ (by decide +kernel)) ggL_commits_L_kind
theorem dL_commits_0 : decode cL_commits 0 = .ok (.iconst 0, 1) := by decide +kernel
theorem dL_commits_1 : decode cL_commits 1 = .ok (.istore_n 3, 1) := by decide +kernel
theorem dL_commits_2 : decode cL_commits 2 = .ok (.iload_n 1, 1) := by decide +kernel
theorem dL_commits_3 : decode cL_commits 3 = .ok (.iconst 1, 1) := by decide +kernel
theorem dL_commits_4 : decode cL_commits 4 = .ok (.iadd, 1) := by decide +kernel
theorem dL_commits_5 : decode cL_commits 5 = .ok (.istore 4, 2) := by decide +kernel
theorem dL_commits_7 : decode cL_commits 7 = .ok (.iload 4, 2) := by decide +kernel
theorem dL_commits_9 : decode cL_commits 9 = .ok (.iload_n 2, 1) := by decide +kernel
theorem dL_commits_10 : decode cL_commits 10 = .ok (.if_icmp .gt 27, 3) := by decide +kernel
theorem dL_commits_13 : decode cL_commits 13 = .ok (.iload_n 3, 1) := by decide +kernel
theorem dL_commits_14 : decode cL_commits 14 = .ok (.aload_n 0, 1) := by decide +kernel
theorem dL_commits_15 : decode cL_commits 15 = .ok (.iload 4, 2) := by decide +kernel
theorem dL_commits_17 : decode cL_commits 17 = .ok (.invokestatic 21, 3) := by decide +kernel
theorem dL_commits_20 : decode cL_commits 20 = .ok (.iconst 1, 1) := by decide +kernel
theorem dL_commits_21 : decode cL_commits 21 = .ok (.if_icmp .ne 7, 3) := by decide +kernel
theorem dL_commits_24 : decode cL_commits 24 = .ok (.iconst 1, 1) := by decide +kernel
theorem dL_commits_25 : decode cL_commits 25 = .ok (.goto 4, 3) := by decide +kernel
theorem dL_commits_28 : decode cL_commits 28 = .ok (.iconst 0, 1) := by decide +kernel
theorem dL_commits_29 : decode cL_commits 29 = .ok (.iadd, 1) := by decide +kernel
theorem dL_commits_30 : decode cL_commits 30 = .ok (.istore_n 3, 1) := by decide +kernel
theorem dL_commits_31 : decode cL_commits 31 = .ok (.iinc 4 1, 3) := by decide +kernel
theorem dL_commits_34 : decode cL_commits 34 = .ok (.goto (-27), 3) := by decide +kernel
theorem dL_commits_37 : decode cL_commits 37 = .ok (.iload_n 3, 1) := by decide +kernel
theorem dL_commits_38 : decode cL_commits 38 = .ok (.ireturn, 1) := by decide +kernel
theorem dL_ones_0 : decode cL_ones 0 = .ok (.iconst 0, 1) := by decide +kernel
theorem dL_ones_1 : decode cL_ones 1 = .ok (.istore_n 2, 1) := by decide +kernel
theorem dL_ones_2 : decode cL_ones 2 = .ok (.lload_n 0, 1) := by decide +kernel
theorem dL_ones_3 : decode cL_ones 3 = .ok (.lstore_n 3, 1) := by decide +kernel
theorem dL_ones_4 : decode cL_ones 4 = .ok (.lload_n 3, 1) := by decide +kernel
theorem dL_ones_5 : decode cL_ones 5 = .ok (.lconst 0, 1) := by decide +kernel
theorem dL_ones_6 : decode cL_ones 6 = .ok (.lcmp, 1) := by decide +kernel
theorem dL_ones_7 : decode cL_ones 7 = .ok (.ifCond .eq 15, 3) := by decide +kernel
theorem dL_ones_10 : decode cL_ones 10 = .ok (.iinc 2 1, 3) := by decide +kernel
theorem dL_ones_13 : decode cL_ones 13 = .ok (.lload_n 3, 1) := by decide +kernel
theorem dL_ones_14 : decode cL_ones 14 = .ok (.lload_n 3, 1) := by decide +kernel
theorem dL_ones_15 : decode cL_ones 15 = .ok (.lconst 1, 1) := by decide +kernel
theorem dL_ones_16 : decode cL_ones 16 = .ok (.lsub, 1) := by decide +kernel
theorem dL_ones_17 : decode cL_ones 17 = .ok (.land, 1) := by decide +kernel
theorem dL_ones_18 : decode cL_ones 18 = .ok (.lstore_n 3, 1) := by decide +kernel
theorem dL_ones_19 : decode cL_ones 19 = .ok (.goto (-15), 3) := by decide +kernel
theorem dL_ones_22 : decode cL_ones 22 = .ok (.iload_n 2, 1) := by decide +kernel
theorem dL_ones_23 : decode cL_ones 23 = .ok (.ireturn, 1) := by decide +kernel
set_option maxRecDepth 20000 in
theorem ggL_applies_L_at : GoodIn wsL_applies wsL_at := goodIn_r _ [4, 5] (by decide +kernel) (by decide +kernel)
set_option maxRecDepth 20000 in
theorem gL_applies_L_at : GoodIn wsL_applies (va_wsS RL 36 yL_at wsL_at) := goodIn_app (goodIn_of _ (by decide +kernel)) ggL_applies_L_at
theorem dL_applies_0 : decode cL_applies 0 = .ok (.iconst 0, 1) := by decide +kernel
theorem dL_applies_1 : decode cL_applies 1 = .ok (.istore 7, 2) := by decide +kernel
theorem dL_applies_3 : decode cL_applies 3 = .ok (.iload 7, 2) := by decide +kernel
theorem dL_applies_5 : decode cL_applies 5 = .ok (.iload 6, 2) := by decide +kernel
theorem dL_applies_7 : decode cL_applies 7 = .ok (.if_icmp .ge 75, 3) := by decide +kernel
theorem dL_applies_10 : decode cL_applies 10 = .ok (.aload_n 0, 1) := by decide +kernel
theorem dL_applies_11 : decode cL_applies 11 = .ok (.bipush 14, 2) := by decide +kernel
theorem dL_applies_13 : decode cL_applies 13 = .ok (.iconst 3, 1) := by decide +kernel
theorem dL_applies_14 : decode cL_applies 14 = .ok (.iload_n 3, 1) := by decide +kernel
theorem dL_applies_15 : decode cL_applies 15 = .ok (.imul, 1) := by decide +kernel
theorem dL_applies_16 : decode cL_applies 16 = .ok (.iadd, 1) := by decide +kernel
theorem dL_applies_17 : decode cL_applies 17 = .ok (.iaload, 1) := by decide +kernel
theorem dL_applies_18 : decode cL_applies 18 = .ok (.ifCond .ne 64, 3) := by decide +kernel
theorem dL_applies_21 : decode cL_applies 21 = .ok (.iload 4, 2) := by decide +kernel
theorem dL_applies_23 : decode cL_applies 23 = .ok (.iload 7, 2) := by decide +kernel
theorem dL_applies_25 : decode cL_applies 25 = .ok (.iadd, 1) := by decide +kernel
theorem dL_applies_26 : decode cL_applies 26 = .ok (.aload_n 0, 1) := by decide +kernel
theorem dL_applies_27 : decode cL_applies 27 = .ok (.bipush 12, 2) := by decide +kernel
theorem dL_applies_29 : decode cL_applies 29 = .ok (.iconst 3, 1) := by decide +kernel
theorem dL_applies_30 : decode cL_applies 30 = .ok (.iload_n 3, 1) := by decide +kernel
theorem dL_applies_31 : decode cL_applies 31 = .ok (.imul, 1) := by decide +kernel
theorem dL_applies_32 : decode cL_applies 32 = .ok (.iadd, 1) := by decide +kernel
theorem dL_applies_33 : decode cL_applies 33 = .ok (.iaload, 1) := by decide +kernel
theorem dL_applies_34 : decode cL_applies 34 = .ok (.if_icmp .ge 48, 3) := by decide +kernel
theorem dL_applies_37 : decode cL_applies 37 = .ok (.aload_n 2, 1) := by decide +kernel
theorem dL_applies_38 : decode cL_applies 38 = .ok (.iload_n 3, 1) := by decide +kernel
theorem dL_applies_39 : decode cL_applies 39 = .ok (.laload, 1) := by decide +kernel
theorem dL_applies_40 : decode cL_applies 40 = .ok (.iload 4, 2) := by decide +kernel
theorem dL_applies_42 : decode cL_applies 42 = .ok (.iload 7, 2) := by decide +kernel
theorem dL_applies_44 : decode cL_applies 44 = .ok (.iadd, 1) := by decide +kernel
theorem dL_applies_45 : decode cL_applies 45 = .ok (.iconst 1, 1) := by decide +kernel
theorem dL_applies_46 : decode cL_applies 46 = .ok (.iadd, 1) := by decide +kernel
theorem dL_applies_47 : decode cL_applies 47 = .ok (.lshr, 1) := by decide +kernel
theorem dL_applies_48 : decode cL_applies 48 = .ok (.lconst 1, 1) := by decide +kernel
theorem dL_applies_49 : decode cL_applies 49 = .ok (.land, 1) := by decide +kernel
theorem dL_applies_50 : decode cL_applies 50 = .ok (.lconst 0, 1) := by decide +kernel
theorem dL_applies_51 : decode cL_applies 51 = .ok (.lcmp, 1) := by decide +kernel
theorem dL_applies_52 : decode cL_applies 52 = .ok (.ifCond .ne 30, 3) := by decide +kernel
theorem dL_applies_55 : decode cL_applies 55 = .ok (.aload_n 1, 1) := by decide +kernel
theorem dL_applies_56 : decode cL_applies 56 = .ok (.iload 4, 2) := by decide +kernel
theorem dL_applies_58 : decode cL_applies 58 = .ok (.iload 7, 2) := by decide +kernel
theorem dL_applies_60 : decode cL_applies 60 = .ok (.iadd, 1) := by decide +kernel
theorem dL_applies_61 : decode cL_applies 61 = .ok (.iconst 1, 1) := by decide +kernel
theorem dL_applies_62 : decode cL_applies 62 = .ok (.iadd, 1) := by decide +kernel
theorem dL_applies_63 : decode cL_applies 63 = .ok (.invokestatic 36, 3) := by decide +kernel
theorem dL_applies_66 : decode cL_applies 66 = .ok (.aload_n 0, 1) := by decide +kernel
theorem dL_applies_67 : decode cL_applies 67 = .ok (.bipush 8, 2) := by decide +kernel
theorem dL_applies_69 : decode cL_applies 69 = .ok (.iaload, 1) := by decide +kernel
theorem dL_applies_70 : decode cL_applies 70 = .ok (.iadd, 1) := by decide +kernel
theorem dL_applies_71 : decode cL_applies 71 = .ok (.iload 5, 2) := by decide +kernel
theorem dL_applies_73 : decode cL_applies 73 = .ok (.if_icmp .gt 9, 3) := by decide +kernel
theorem dL_applies_76 : decode cL_applies 76 = .ok (.iinc 7 1, 3) := by decide +kernel
theorem dL_applies_79 : decode cL_applies 79 = .ok (.goto (-76), 3) := by decide +kernel
theorem dL_applies_82 : decode cL_applies 82 = .ok (.iload 7, 2) := by decide +kernel
theorem dL_applies_84 : decode cL_applies 84 = .ok (.ireturn, 1) := by decide +kernel
set_option maxRecDepth 20000 in
theorem ggL_writes_X6_open : GoodIn wsL_writes wsX6_open := goodIn_r _ [6, 7, 8, 9, 10, 11, 12, 13, 14, 15, 16, 17, 18, 19, 20, 21, 22, 23, 24, 25, 26, 27, 28, 29, 30, 31, 32, 33, 34, 35, 36, 37, 38, 39, 40, 41, 42, 43, 44, 45, 46, 47, 48, 49, 50, 51, 52, 53, 54, 55, 56, 57, 58, 59, 60, 61, 62, 63, 64, 65, 66, 67, 68, 69, 70, 71, 5, 72, 73, 74, 75, 76, 77, 78, 79, 80, 120, 121, 122, 123, 124, 125, 126, 127, 128, 129, 130, 131, 132, 133, 134, 135, 136, 137, 138, 139, 140, 141, 142, 143, 144, 145, 146, 147, 148, 149] (by decide +kernel) (by decide +kernel)
set_option maxRecDepth 20000 in
theorem gL_writes_X6_open : GoodIn wsL_writes (wsV RL 39 RX6 yX6_open wsX6_open) := goodIn_app (goodIn_of _ (by decide +kernel)) ggL_writes_X6_open
set_option maxRecDepth 20000 in
theorem ggL_writes_X6_put : GoodIn wsL_writes wsX6_put := goodIn_r _ [84, 7, 8, 9, 10, 11, 12, 13, 14, 15, 16, 17, 18, 19, 20, 21, 22, 23, 24, 25, 26, 27, 28, 29, 30, 31, 32, 33, 34, 35, 36, 37, 38, 39, 40, 41, 42, 43, 44, 45, 46, 47, 48, 49, 50, 51, 52, 53, 54, 55, 56, 57, 58, 59, 60, 61, 62, 63, 64, 85, 86, 87, 88, 69, 71, 5, 72, 89, 90, 91, 92, 93, 94, 70, 95, 96, 97, 98, 99, 73, 74, 75, 76, 77, 78, 79, 80, 120, 121, 122, 123, 124, 125, 126, 127, 128, 129, 130, 131, 132, 133, 134, 135, 136, 137, 138, 139, 140, 141, 142, 143, 144, 145, 146, 147, 148, 149] (by decide +kernel) (by decide +kernel)
set_option maxRecDepth 20000 in
theorem gL_writes_X6_put : GoodIn wsL_writes (wsV RL 46 RX6 yX6_put wsX6_put) := goodIn_app (goodIn_of _ (by decide +kernel)) ggL_writes_X6_put
set_option maxRecDepth 20000 in
theorem ggL_writes_X6_commit : GoodIn wsL_writes wsX6_commit := goodIn_r _ [103, 7, 8, 9, 10, 11, 12, 13, 14, 15, 16, 17, 18, 19, 20, 21, 22, 23, 24, 25, 26, 27, 28, 29, 30, 31, 32, 33, 34, 35, 36, 37, 38, 39, 40, 41, 42, 43, 44, 45, 46, 47, 48, 49, 50, 51, 52, 53, 54, 55, 56, 57, 58, 59, 60, 61, 62, 63, 64, 104, 105, 106, 107, 69, 71, 5, 72, 91, 92, 93, 94, 70, 95, 96, 97, 98, 99, 73, 74, 75, 76, 77, 78, 79, 80, 120, 121, 122, 123, 124, 125, 126, 127, 128, 129, 130, 131, 132, 133, 134, 135, 136, 137, 138, 139, 140, 141, 142, 143, 144, 145, 146, 147, 148, 149] (by decide +kernel) (by decide +kernel)
set_option maxRecDepth 20000 in
theorem gL_writes_X6_commit : GoodIn wsL_writes (wsV RL 50 RX6 yX6_commit wsX6_commit) := goodIn_app (goodIn_of _ (by decide +kernel)) ggL_writes_X6_commit
set_option maxRecDepth 20000 in
theorem ggL_writes_X6_abort : GoodIn wsL_writes wsX6_abort := goodIn_r _ [111, 7, 8, 9, 10, 11, 12, 13, 14, 15, 16, 17, 18, 19, 20, 21, 22, 23, 24, 25, 26, 27, 28, 29, 30, 31, 32, 33, 34, 35, 36, 37, 38, 39, 40, 41, 42, 43, 44, 45, 46, 47, 48, 49, 50, 51, 52, 53, 54, 55, 56, 57, 58, 59, 60, 61, 62, 63, 64, 104, 105, 106, 107, 69, 71, 5, 72, 91, 92, 93, 94, 70, 95, 96, 97, 98, 99, 73, 74, 75, 76, 77, 78, 79, 80, 120, 121, 122, 123, 124, 125, 126, 127, 128, 129, 130, 131, 132, 133, 134, 135, 136, 137, 138, 139, 140, 141, 142, 143, 144, 145, 146, 147, 148, 149] (by decide +kernel) (by decide +kernel)
set_option maxRecDepth 20000 in
theorem gL_writes_X6_abort : GoodIn wsL_writes (wsV RL 53 RX6 yX6_abort wsX6_abort) := goodIn_app (goodIn_of _ (by decide +kernel)) ggL_writes_X6_abort
set_option maxRecDepth 20000 in
theorem ggL_writes_L_write : GoodIn wsL_writes wsL_write := goodIn_r _ [115, 116, 117, 118, 119] (by decide +kernel) (by decide +kernel)
set_option maxRecDepth 20000 in
theorem gL_writes_L_write : GoodIn wsL_writes (va_wsS RL 56 yL_write wsL_write) := goodIn_app (goodIn_of _ (by decide +kernel)) ggL_writes_L_write
theorem dL_writes_0 : decode cL_writes 0 = .ok (.iload 4, 2) := by decide +kernel
theorem dL_writes_2 : decode cL_writes 2 = .ok (.iconst 3, 1) := by decide +kernel
theorem dL_writes_3 : decode cL_writes 3 = .ok (.irem, 1) := by decide +kernel
theorem dL_writes_4 : decode cL_writes 4 = .ok (.istore 5, 2) := by decide +kernel
theorem dL_writes_6 : decode cL_writes 6 = .ok (.aload_n 1, 1) := by decide +kernel
theorem dL_writes_7 : decode cL_writes 7 = .ok (.bipush 9, 2) := by decide +kernel
theorem dL_writes_9 : decode cL_writes 9 = .ok (.iload 5, 2) := by decide +kernel
theorem dL_writes_11 : decode cL_writes 11 = .ok (.iadd, 1) := by decide +kernel
theorem dL_writes_12 : decode cL_writes 12 = .ok (.iaload, 1) := by decide +kernel
theorem dL_writes_13 : decode cL_writes 13 = .ok (.istore 6, 2) := by decide +kernel
theorem dL_writes_15 : decode cL_writes 15 = .ok (.iload_n 3, 1) := by decide +kernel
theorem dL_writes_16 : decode cL_writes 16 = .ok (.iconst 4, 1) := by decide +kernel
theorem dL_writes_17 : decode cL_writes 17 = .ok (.if_icmp .ge 60, 3) := by decide +kernel
theorem dL_writes_20 : decode cL_writes 20 = .ok (.iload 6, 2) := by decide +kernel
theorem dL_writes_22 : decode cL_writes 22 = .ok (.ifCond .le 20, 3) := by decide +kernel
theorem dL_writes_25 : decode cL_writes 25 = .ok (.aload_n 0, 1) := by decide +kernel
theorem dL_writes_26 : decode cL_writes 26 = .ok (.iload 5, 2) := by decide +kernel
theorem dL_writes_28 : decode cL_writes 28 = .ok (.invokevirtual 39, 3) := by decide +kernel
theorem dL_writes_31 : decode cL_writes 31 = .ok (.ldc 45, 2) := by decide +kernel
theorem dL_writes_33 : decode cL_writes 33 = .ok (.if_icmp .ne 7, 3) := by decide +kernel
theorem dL_writes_36 : decode cL_writes 36 = .ok (.iconst 1, 1) := by decide +kernel
theorem dL_writes_37 : decode cL_writes 37 = .ok (.goto 4, 3) := by decide +kernel
theorem dL_writes_40 : decode cL_writes 40 = .ok (.iconst 0, 1) := by decide +kernel
theorem dL_writes_41 : decode cL_writes 41 = .ok (.ireturn, 1) := by decide +kernel
theorem dL_writes_42 : decode cL_writes 42 = .ok (.aload_n 1, 1) := by decide +kernel
theorem dL_writes_43 : decode cL_writes 43 = .ok (.iconst 3, 1) := by decide +kernel
theorem dL_writes_44 : decode cL_writes 44 = .ok (.dup2, 1) := by decide +kernel
theorem dL_writes_45 : decode cL_writes 45 = .ok (.iaload, 1) := by decide +kernel
theorem dL_writes_46 : decode cL_writes 46 = .ok (.iconst 1, 1) := by decide +kernel
theorem dL_writes_47 : decode cL_writes 47 = .ok (.iadd, 1) := by decide +kernel
theorem dL_writes_48 : decode cL_writes 48 = .ok (.iastore, 1) := by decide +kernel
theorem dL_writes_49 : decode cL_writes 49 = .ok (.aload_n 1, 1) := by decide +kernel
theorem dL_writes_50 : decode cL_writes 50 = .ok (.bipush 9, 2) := by decide +kernel
theorem dL_writes_52 : decode cL_writes 52 = .ok (.iload 5, 2) := by decide +kernel
theorem dL_writes_54 : decode cL_writes 54 = .ok (.iadd, 1) := by decide +kernel
theorem dL_writes_55 : decode cL_writes 55 = .ok (.aload_n 1, 1) := by decide +kernel
theorem dL_writes_56 : decode cL_writes 56 = .ok (.iconst 3, 1) := by decide +kernel
theorem dL_writes_57 : decode cL_writes 57 = .ok (.iaload, 1) := by decide +kernel
theorem dL_writes_58 : decode cL_writes 58 = .ok (.iastore, 1) := by decide +kernel
theorem dL_writes_59 : decode cL_writes 59 = .ok (.aload_n 0, 1) := by decide +kernel
theorem dL_writes_60 : decode cL_writes 60 = .ok (.iload 5, 2) := by decide +kernel
theorem dL_writes_62 : decode cL_writes 62 = .ok (.invokevirtual 39, 3) := by decide +kernel
theorem dL_writes_65 : decode cL_writes 65 = .ok (.aload_n 1, 1) := by decide +kernel
theorem dL_writes_66 : decode cL_writes 66 = .ok (.iconst 3, 1) := by decide +kernel
theorem dL_writes_67 : decode cL_writes 67 = .ok (.iaload, 1) := by decide +kernel
theorem dL_writes_68 : decode cL_writes 68 = .ok (.if_icmp .ne 7, 3) := by decide +kernel
theorem dL_writes_71 : decode cL_writes 71 = .ok (.iconst 1, 1) := by decide +kernel
theorem dL_writes_72 : decode cL_writes 72 = .ok (.goto 4, 3) := by decide +kernel
theorem dL_writes_75 : decode cL_writes 75 = .ok (.iconst 0, 1) := by decide +kernel
theorem dL_writes_76 : decode cL_writes 76 = .ok (.ireturn, 1) := by decide +kernel
theorem dL_writes_77 : decode cL_writes 77 = .ok (.iload 4, 2) := by decide +kernel
theorem dL_writes_79 : decode cL_writes 79 = .ok (.iconst 3, 1) := by decide +kernel
theorem dL_writes_80 : decode cL_writes 80 = .ok (.idiv, 1) := by decide +kernel
theorem dL_writes_81 : decode cL_writes 81 = .ok (.iload 4, 2) := by decide +kernel
theorem dL_writes_83 : decode cL_writes 83 = .ok (.iconst 5, 1) := by decide +kernel
theorem dL_writes_84 : decode cL_writes 84 = .ok (.irem, 1) := by decide +kernel
theorem dL_writes_85 : decode cL_writes 85 = .ok (.ifCond .ne 8, 3) := by decide +kernel
theorem dL_writes_88 : decode cL_writes 88 = .ok (.bipush 24, 2) := by decide +kernel
theorem dL_writes_90 : decode cL_writes 90 = .ok (.goto 4, 3) := by decide +kernel
theorem dL_writes_93 : decode cL_writes 93 = .ok (.iconst 4, 1) := by decide +kernel
theorem dL_writes_94 : decode cL_writes 94 = .ok (.irem, 1) := by decide +kernel
theorem dL_writes_95 : decode cL_writes 95 = .ok (.istore 7, 2) := by decide +kernel
theorem dL_writes_97 : decode cL_writes 97 = .ok (.iload 4, 2) := by decide +kernel
theorem dL_writes_99 : decode cL_writes 99 = .ok (.bipush 72, 2) := by decide +kernel
theorem dL_writes_101 : decode cL_writes 101 = .ok (.idiv, 1) := by decide +kernel
theorem dL_writes_102 : decode cL_writes 102 = .ok (.sipush 1000, 3) := by decide +kernel
theorem dL_writes_105 : decode cL_writes 105 = .ok (.irem, 1) := by decide +kernel
theorem dL_writes_106 : decode cL_writes 106 = .ok (.istore 8, 2) := by decide +kernel
theorem dL_writes_108 : decode cL_writes 108 = .ok (.iload 6, 2) := by decide +kernel
theorem dL_writes_110 : decode cL_writes 110 = .ok (.ifCond .eq 11, 3) := by decide +kernel
theorem dL_writes_113 : decode cL_writes 113 = .ok (.aload_n 1, 1) := by decide +kernel
theorem dL_writes_114 : decode cL_writes 114 = .ok (.iconst 0, 1) := by decide +kernel
theorem dL_writes_115 : decode cL_writes 115 = .ok (.iaload, 1) := by decide +kernel
theorem dL_writes_116 : decode cL_writes 116 = .ok (.bipush 60, 2) := by decide +kernel
theorem dL_writes_118 : decode cL_writes 118 = .ok (.if_icmp .le 63, 3) := by decide +kernel
theorem dL_writes_121 : decode cL_writes 121 = .ok (.iload 6, 2) := by decide +kernel
theorem dL_writes_123 : decode cL_writes 123 = .ok (.ifCond .ne 7, 3) := by decide +kernel
theorem dL_writes_126 : decode cL_writes 126 = .ok (.iconst 1, 1) := by decide +kernel
theorem dL_writes_127 : decode cL_writes 127 = .ok (.goto 4, 3) := by decide +kernel
theorem dL_writes_130 : decode cL_writes 130 = .ok (.iconst 0, 1) := by decide +kernel
theorem dL_writes_131 : decode cL_writes 131 = .ok (.istore 9, 2) := by decide +kernel
theorem dL_writes_133 : decode cL_writes 133 = .ok (.iload 9, 2) := by decide +kernel
theorem dL_writes_135 : decode cL_writes 135 = .ok (.ifCond .eq 40, 3) := by decide +kernel
theorem dL_writes_138 : decode cL_writes 138 = .ok (.aload_n 0, 1) := by decide +kernel
theorem dL_writes_139 : decode cL_writes 139 = .ok (.iload 5, 2) := by decide +kernel
theorem dL_writes_141 : decode cL_writes 141 = .ok (.iload 7, 2) := by decide +kernel
theorem dL_writes_143 : decode cL_writes 143 = .ok (.iload 8, 2) := by decide +kernel
theorem dL_writes_145 : decode cL_writes 145 = .ok (.invokevirtual 46, 3) := by decide +kernel
theorem dL_writes_148 : decode cL_writes 148 = .ok (.ldc 45, 2) := by decide +kernel
theorem dL_writes_150 : decode cL_writes 150 = .ok (.if_icmp .ne 29, 3) := by decide +kernel
theorem dL_writes_153 : decode cL_writes 153 = .ok (.aload_n 0, 1) := by decide +kernel
theorem dL_writes_154 : decode cL_writes 154 = .ok (.iload 5, 2) := by decide +kernel
theorem dL_writes_156 : decode cL_writes 156 = .ok (.invokevirtual 50, 3) := by decide +kernel
theorem dL_writes_159 : decode cL_writes 159 = .ok (.ldc 45, 2) := by decide +kernel
theorem dL_writes_161 : decode cL_writes 161 = .ok (.if_icmp .ne 18, 3) := by decide +kernel
theorem dL_writes_164 : decode cL_writes 164 = .ok (.aload_n 0, 1) := by decide +kernel
theorem dL_writes_165 : decode cL_writes 165 = .ok (.iload 5, 2) := by decide +kernel
theorem dL_writes_167 : decode cL_writes 167 = .ok (.invokevirtual 53, 3) := by decide +kernel
theorem dL_writes_170 : decode cL_writes 170 = .ok (.ldc 45, 2) := by decide +kernel
theorem dL_writes_172 : decode cL_writes 172 = .ok (.if_icmp .ne 7, 3) := by decide +kernel
theorem dL_writes_175 : decode cL_writes 175 = .ok (.iconst 1, 1) := by decide +kernel
theorem dL_writes_176 : decode cL_writes 176 = .ok (.goto 4, 3) := by decide +kernel
theorem dL_writes_179 : decode cL_writes 179 = .ok (.iconst 0, 1) := by decide +kernel
theorem dL_writes_180 : decode cL_writes 180 = .ok (.ireturn, 1) := by decide +kernel
theorem dL_writes_181 : decode cL_writes 181 = .ok (.iload_n 3, 1) := by decide +kernel
theorem dL_writes_182 : decode cL_writes 182 = .ok (.bipush 13, 2) := by decide +kernel
theorem dL_writes_184 : decode cL_writes 184 = .ok (.if_icmp .ge 37, 3) := by decide +kernel
theorem dL_writes_187 : decode cL_writes 187 = .ok (.aload_n 1, 1) := by decide +kernel
theorem dL_writes_188 : decode cL_writes 188 = .ok (.aload_n 2, 1) := by decide +kernel
theorem dL_writes_189 : decode cL_writes 189 = .ok (.iconst 0, 1) := by decide +kernel
theorem dL_writes_190 : decode cL_writes 190 = .ok (.iload 7, 2) := by decide +kernel
theorem dL_writes_192 : decode cL_writes 192 = .ok (.iload 8, 2) := by decide +kernel
theorem dL_writes_194 : decode cL_writes 194 = .ok (.iload 6, 2) := by decide +kernel
theorem dL_writes_196 : decode cL_writes 196 = .ok (.invokestatic 56, 3) := by decide +kernel
theorem dL_writes_199 : decode cL_writes 199 = .ok (.aload_n 0, 1) := by decide +kernel
theorem dL_writes_200 : decode cL_writes 200 = .ok (.iload 5, 2) := by decide +kernel
theorem dL_writes_202 : decode cL_writes 202 = .ok (.iload 7, 2) := by decide +kernel
theorem dL_writes_204 : decode cL_writes 204 = .ok (.iload 8, 2) := by decide +kernel
theorem dL_writes_206 : decode cL_writes 206 = .ok (.invokevirtual 46, 3) := by decide +kernel
theorem dL_writes_209 : decode cL_writes 209 = .ok (.aload_n 1, 1) := by decide +kernel
theorem dL_writes_210 : decode cL_writes 210 = .ok (.iconst 0, 1) := by decide +kernel
theorem dL_writes_211 : decode cL_writes 211 = .ok (.iaload, 1) := by decide +kernel
theorem dL_writes_212 : decode cL_writes 212 = .ok (.if_icmp .ne 7, 3) := by decide +kernel
theorem dL_writes_215 : decode cL_writes 215 = .ok (.iconst 1, 1) := by decide +kernel
theorem dL_writes_216 : decode cL_writes 216 = .ok (.goto 4, 3) := by decide +kernel
theorem dL_writes_219 : decode cL_writes 219 = .ok (.iconst 0, 1) := by decide +kernel
theorem dL_writes_220 : decode cL_writes 220 = .ok (.ireturn, 1) := by decide +kernel
theorem dL_writes_221 : decode cL_writes 221 = .ok (.aload_n 1, 1) := by decide +kernel
theorem dL_writes_222 : decode cL_writes 222 = .ok (.aload_n 2, 1) := by decide +kernel
theorem dL_writes_223 : decode cL_writes 223 = .ok (.iload_n 3, 1) := by decide +kernel
theorem dL_writes_224 : decode cL_writes 224 = .ok (.bipush 18, 2) := by decide +kernel
theorem dL_writes_226 : decode cL_writes 226 = .ok (.if_icmp .ge 7, 3) := by decide +kernel
theorem dL_writes_229 : decode cL_writes 229 = .ok (.iconst 1, 1) := by decide +kernel
theorem dL_writes_230 : decode cL_writes 230 = .ok (.goto 4, 3) := by decide +kernel
theorem dL_writes_233 : decode cL_writes 233 = .ok (.iconst 2, 1) := by decide +kernel
theorem dL_writes_234 : decode cL_writes 234 = .ok (.iconst 0, 1) := by decide +kernel
theorem dL_writes_235 : decode cL_writes 235 = .ok (.iconst 0, 1) := by decide +kernel
theorem dL_writes_236 : decode cL_writes 236 = .ok (.iload 6, 2) := by decide +kernel
theorem dL_writes_238 : decode cL_writes 238 = .ok (.invokestatic 56, 3) := by decide +kernel
theorem dL_writes_241 : decode cL_writes 241 = .ok (.aload_n 1, 1) := by decide +kernel
theorem dL_writes_242 : decode cL_writes 242 = .ok (.bipush 9, 2) := by decide +kernel
theorem dL_writes_244 : decode cL_writes 244 = .ok (.iload 5, 2) := by decide +kernel
theorem dL_writes_246 : decode cL_writes 246 = .ok (.iadd, 1) := by decide +kernel
theorem dL_writes_247 : decode cL_writes 247 = .ok (.iconst 0, 1) := by decide +kernel
theorem dL_writes_248 : decode cL_writes 248 = .ok (.iastore, 1) := by decide +kernel
theorem dL_writes_249 : decode cL_writes 249 = .ok (.iload_n 3, 1) := by decide +kernel
theorem dL_writes_250 : decode cL_writes 250 = .ok (.bipush 18, 2) := by decide +kernel
theorem dL_writes_252 : decode cL_writes 252 = .ok (.if_icmp .ge 12, 3) := by decide +kernel
theorem dL_writes_255 : decode cL_writes 255 = .ok (.aload_n 0, 1) := by decide +kernel
theorem dL_writes_256 : decode cL_writes 256 = .ok (.iload 5, 2) := by decide +kernel
theorem dL_writes_258 : decode cL_writes 258 = .ok (.invokevirtual 50, 3) := by decide +kernel
theorem dL_writes_261 : decode cL_writes 261 = .ok (.goto 9, 3) := by decide +kernel
theorem dL_writes_264 : decode cL_writes 264 = .ok (.aload_n 0, 1) := by decide +kernel
theorem dL_writes_265 : decode cL_writes 265 = .ok (.iload 5, 2) := by decide +kernel
theorem dL_writes_267 : decode cL_writes 267 = .ok (.invokevirtual 53, 3) := by decide +kernel
theorem dL_writes_270 : decode cL_writes 270 = .ok (.aload_n 1, 1) := by decide +kernel
theorem dL_writes_271 : decode cL_writes 271 = .ok (.iconst 0, 1) := by decide +kernel
theorem dL_writes_272 : decode cL_writes 272 = .ok (.iaload, 1) := by decide +kernel
theorem dL_writes_273 : decode cL_writes 273 = .ok (.if_icmp .ne 7, 3) := by decide +kernel
theorem dL_writes_276 : decode cL_writes 276 = .ok (.iconst 1, 1) := by decide +kernel
theorem dL_writes_277 : decode cL_writes 277 = .ok (.goto 4, 3) := by decide +kernel
theorem dL_writes_280 : decode cL_writes 280 = .ok (.iconst 0, 1) := by decide +kernel
theorem dL_writes_281 : decode cL_writes 281 = .ok (.ireturn, 1) := by decide +kernel
set_option maxRecDepth 20000 in
theorem ggL_promotes_L_commits : GoodIn wsL_promotes wsL_commits := goodIn_r _ [5, 6, 7, 4, 8, 9] (by decide +kernel) (by decide +kernel)
set_option maxRecDepth 20000 in
theorem gL_promotes_L_commits : GoodIn wsL_promotes (va_wsS RL 60 yL_commits wsL_commits) := goodIn_app (goodIn_of _ (by decide +kernel)) ggL_promotes_L_commits
set_option maxRecDepth 20000 in
theorem ggL_promotes_X6_promote : GoodIn wsL_promotes wsX6_promote := goodIn_r _ [14, 15, 16, 17, 18, 19, 20, 21, 22, 23, 24, 25, 26, 27, 28, 29, 30, 31, 32, 33, 34, 35, 36, 37, 38, 39, 40, 41, 42, 43, 44, 45, 46, 47, 48, 49, 50, 51, 52, 53, 54, 55, 56, 57, 58, 59, 60, 61, 62, 63, 64, 65, 66, 67, 68, 69, 70, 71, 72, 73, 74, 75, 76, 77, 78, 79, 80, 81, 82, 13, 83, 84, 85, 86, 87, 88, 89, 90, 91, 92, 93, 94, 95, 96, 97, 98, 99, 100, 101, 102, 103, 104, 105, 106, 107, 108, 109, 110, 111, 112, 113, 114, 115, 116, 117, 118, 119, 120, 121, 122, 123, 124, 125, 126, 127, 128, 129, 130, 131, 132, 133, 134, 135, 136, 137, 138, 139, 140, 141, 142, 143, 144, 145, 146, 147, 148, 149, 150, 151, 152] (by decide +kernel) (by decide +kernel)
set_option maxRecDepth 20000 in
theorem gL_promotes_X6_promote : GoodIn wsL_promotes (wsV RL 66 RX6 yX6_promote wsX6_promote) := goodIn_app (goodIn_of _ (by decide +kernel)) ggL_promotes_X6_promote
theorem dL_promotes_0 : decode cL_promotes 0 = .ok (.bipush 12, 2) := by decide +kernel
theorem dL_promotes_2 : decode cL_promotes 2 = .ok (.iconst 3, 1) := by decide +kernel
theorem dL_promotes_3 : decode cL_promotes 3 = .ok (.iload 4, 2) := by decide +kernel
theorem dL_promotes_5 : decode cL_promotes 5 = .ok (.imul, 1) := by decide +kernel
theorem dL_promotes_6 : decode cL_promotes 6 = .ok (.iadd, 1) := by decide +kernel
theorem dL_promotes_7 : decode cL_promotes 7 = .ok (.istore 5, 2) := by decide +kernel
theorem dL_promotes_9 : decode cL_promotes 9 = .ok (.bipush 15, 2) := by decide +kernel
theorem dL_promotes_11 : decode cL_promotes 11 = .ok (.iconst 3, 1) := by decide +kernel
theorem dL_promotes_12 : decode cL_promotes 12 = .ok (.iload 4, 2) := by decide +kernel
theorem dL_promotes_14 : decode cL_promotes 14 = .ok (.imul, 1) := by decide +kernel
theorem dL_promotes_15 : decode cL_promotes 15 = .ok (.isub, 1) := by decide +kernel
theorem dL_promotes_16 : decode cL_promotes 16 = .ok (.istore 6, 2) := by decide +kernel
theorem dL_promotes_18 : decode cL_promotes 18 = .ok (.aload_n 1, 1) := by decide +kernel
theorem dL_promotes_19 : decode cL_promotes 19 = .ok (.iload 5, 2) := by decide +kernel
theorem dL_promotes_21 : decode cL_promotes 21 = .ok (.iconst 1, 1) := by decide +kernel
theorem dL_promotes_22 : decode cL_promotes 22 = .ok (.iadd, 1) := by decide +kernel
theorem dL_promotes_23 : decode cL_promotes 23 = .ok (.iaload, 1) := by decide +kernel
theorem dL_promotes_24 : decode cL_promotes 24 = .ok (.istore 7, 2) := by decide +kernel
theorem dL_promotes_26 : decode cL_promotes 26 = .ok (.aload_n 2, 1) := by decide +kernel
theorem dL_promotes_27 : decode cL_promotes 27 = .ok (.iload 7, 2) := by decide +kernel
theorem dL_promotes_29 : decode cL_promotes 29 = .ok (.aload_n 1, 1) := by decide +kernel
theorem dL_promotes_30 : decode cL_promotes 30 = .ok (.iconst 0, 1) := by decide +kernel
theorem dL_promotes_31 : decode cL_promotes 31 = .ok (.iaload, 1) := by decide +kernel
theorem dL_promotes_32 : decode cL_promotes 32 = .ok (.invokestatic 60, 3) := by decide +kernel
theorem dL_promotes_35 : decode cL_promotes 35 = .ok (.istore 8, 2) := by decide +kernel
theorem dL_promotes_37 : decode cL_promotes 37 = .ok (.aload_n 1, 1) := by decide +kernel
theorem dL_promotes_38 : decode cL_promotes 38 = .ok (.iload 5, 2) := by decide +kernel
theorem dL_promotes_40 : decode cL_promotes 40 = .ok (.iload 7, 2) := by decide +kernel
theorem dL_promotes_42 : decode cL_promotes 42 = .ok (.iastore, 1) := by decide +kernel
theorem dL_promotes_43 : decode cL_promotes 43 = .ok (.aload_n 1, 1) := by decide +kernel
theorem dL_promotes_44 : decode cL_promotes 44 = .ok (.iload 5, 2) := by decide +kernel
theorem dL_promotes_46 : decode cL_promotes 46 = .ok (.iconst 2, 1) := by decide +kernel
theorem dL_promotes_47 : decode cL_promotes 47 = .ok (.iadd, 1) := by decide +kernel
theorem dL_promotes_48 : decode cL_promotes 48 = .ok (.iload 7, 2) := by decide +kernel
theorem dL_promotes_50 : decode cL_promotes 50 = .ok (.aload_n 1, 1) := by decide +kernel
theorem dL_promotes_51 : decode cL_promotes 51 = .ok (.iconst 0, 1) := by decide +kernel
theorem dL_promotes_52 : decode cL_promotes 52 = .ok (.iaload, 1) := by decide +kernel
theorem dL_promotes_53 : decode cL_promotes 53 = .ok (.if_icmp .ge 7, 3) := by decide +kernel
theorem dL_promotes_56 : decode cL_promotes 56 = .ok (.iconst 1, 1) := by decide +kernel
theorem dL_promotes_57 : decode cL_promotes 57 = .ok (.goto 4, 3) := by decide +kernel
theorem dL_promotes_60 : decode cL_promotes 60 = .ok (.iconst 0, 1) := by decide +kernel
theorem dL_promotes_61 : decode cL_promotes 61 = .ok (.iastore, 1) := by decide +kernel
theorem dL_promotes_62 : decode cL_promotes 62 = .ok (.aload_n 1, 1) := by decide +kernel
theorem dL_promotes_63 : decode cL_promotes 63 = .ok (.iconst 0, 1) := by decide +kernel
theorem dL_promotes_64 : decode cL_promotes 64 = .ok (.iload 7, 2) := by decide +kernel
theorem dL_promotes_66 : decode cL_promotes 66 = .ok (.iastore, 1) := by decide +kernel
theorem dL_promotes_67 : decode cL_promotes 67 = .ok (.aload_n 3, 1) := by decide +kernel
theorem dL_promotes_68 : decode cL_promotes 68 = .ok (.iload 4, 2) := by decide +kernel
theorem dL_promotes_70 : decode cL_promotes 70 = .ok (.lconst 0, 1) := by decide +kernel
theorem dL_promotes_71 : decode cL_promotes 71 = .ok (.lastore, 1) := by decide +kernel
theorem dL_promotes_72 : decode cL_promotes 72 = .ok (.aload_n 3, 1) := by decide +kernel
theorem dL_promotes_73 : decode cL_promotes 73 = .ok (.iconst 1, 1) := by decide +kernel
theorem dL_promotes_74 : decode cL_promotes 74 = .ok (.iload 4, 2) := by decide +kernel
theorem dL_promotes_76 : decode cL_promotes 76 = .ok (.isub, 1) := by decide +kernel
theorem dL_promotes_77 : decode cL_promotes 77 = .ok (.dup2, 1) := by decide +kernel
theorem dL_promotes_78 : decode cL_promotes 78 = .ok (.laload, 1) := by decide +kernel
theorem dL_promotes_79 : decode cL_promotes 79 = .ok (.ldc2_w 64, 3) := by decide +kernel
theorem dL_promotes_82 : decode cL_promotes 82 = .ok (.iload 7, 2) := by decide +kernel
theorem dL_promotes_84 : decode cL_promotes 84 = .ok (.lshl, 1) := by decide +kernel
theorem dL_promotes_85 : decode cL_promotes 85 = .ok (.lconst 1, 1) := by decide +kernel
theorem dL_promotes_86 : decode cL_promotes 86 = .ok (.lsub, 1) := by decide +kernel
theorem dL_promotes_87 : decode cL_promotes 87 = .ok (.land, 1) := by decide +kernel
theorem dL_promotes_88 : decode cL_promotes 88 = .ok (.lastore, 1) := by decide +kernel
theorem dL_promotes_89 : decode cL_promotes 89 = .ok (.aload_n 1, 1) := by decide +kernel
theorem dL_promotes_90 : decode cL_promotes 90 = .ok (.iload 6, 2) := by decide +kernel
theorem dL_promotes_92 : decode cL_promotes 92 = .ok (.aload_n 1, 1) := by decide +kernel
theorem dL_promotes_93 : decode cL_promotes 93 = .ok (.iload 6, 2) := by decide +kernel
theorem dL_promotes_95 : decode cL_promotes 95 = .ok (.iaload, 1) := by decide +kernel
theorem dL_promotes_96 : decode cL_promotes 96 = .ok (.iload 7, 2) := by decide +kernel
theorem dL_promotes_98 : decode cL_promotes 98 = .ok (.if_icmp .ge 10, 3) := by decide +kernel
theorem dL_promotes_101 : decode cL_promotes 101 = .ok (.aload_n 1, 1) := by decide +kernel
theorem dL_promotes_102 : decode cL_promotes 102 = .ok (.iload 6, 2) := by decide +kernel
theorem dL_promotes_104 : decode cL_promotes 104 = .ok (.iaload, 1) := by decide +kernel
theorem dL_promotes_105 : decode cL_promotes 105 = .ok (.goto 5, 3) := by decide +kernel
theorem dL_promotes_108 : decode cL_promotes 108 = .ok (.iload 7, 2) := by decide +kernel
theorem dL_promotes_110 : decode cL_promotes 110 = .ok (.iastore, 1) := by decide +kernel
theorem dL_promotes_111 : decode cL_promotes 111 = .ok (.aload_n 1, 1) := by decide +kernel
theorem dL_promotes_112 : decode cL_promotes 112 = .ok (.iload 6, 2) := by decide +kernel
theorem dL_promotes_114 : decode cL_promotes 114 = .ok (.iconst 2, 1) := by decide +kernel
theorem dL_promotes_115 : decode cL_promotes 115 = .ok (.iadd, 1) := by decide +kernel
theorem dL_promotes_116 : decode cL_promotes 116 = .ok (.aload_n 1, 1) := by decide +kernel
theorem dL_promotes_117 : decode cL_promotes 117 = .ok (.iload 6, 2) := by decide +kernel
theorem dL_promotes_119 : decode cL_promotes 119 = .ok (.iconst 1, 1) := by decide +kernel
theorem dL_promotes_120 : decode cL_promotes 120 = .ok (.iadd, 1) := by decide +kernel
theorem dL_promotes_121 : decode cL_promotes 121 = .ok (.iaload, 1) := by decide +kernel
theorem dL_promotes_122 : decode cL_promotes 122 = .ok (.iload 7, 2) := by decide +kernel
theorem dL_promotes_124 : decode cL_promotes 124 = .ok (.if_icmp .le 7, 3) := by decide +kernel
theorem dL_promotes_127 : decode cL_promotes 127 = .ok (.iconst 1, 1) := by decide +kernel
theorem dL_promotes_128 : decode cL_promotes 128 = .ok (.goto 9, 3) := by decide +kernel
theorem dL_promotes_131 : decode cL_promotes 131 = .ok (.aload_n 1, 1) := by decide +kernel
theorem dL_promotes_132 : decode cL_promotes 132 = .ok (.iload 6, 2) := by decide +kernel
theorem dL_promotes_134 : decode cL_promotes 134 = .ok (.iconst 2, 1) := by decide +kernel
theorem dL_promotes_135 : decode cL_promotes 135 = .ok (.iadd, 1) := by decide +kernel
theorem dL_promotes_136 : decode cL_promotes 136 = .ok (.iaload, 1) := by decide +kernel
theorem dL_promotes_137 : decode cL_promotes 137 = .ok (.iastore, 1) := by decide +kernel
theorem dL_promotes_138 : decode cL_promotes 138 = .ok (.aload_n 1, 1) := by decide +kernel
theorem dL_promotes_139 : decode cL_promotes 139 = .ok (.iload 6, 2) := by decide +kernel
theorem dL_promotes_141 : decode cL_promotes 141 = .ok (.iconst 1, 1) := by decide +kernel
theorem dL_promotes_142 : decode cL_promotes 142 = .ok (.iadd, 1) := by decide +kernel
theorem dL_promotes_143 : decode cL_promotes 143 = .ok (.aload_n 1, 1) := by decide +kernel
theorem dL_promotes_144 : decode cL_promotes 144 = .ok (.iload 6, 2) := by decide +kernel
theorem dL_promotes_146 : decode cL_promotes 146 = .ok (.iconst 1, 1) := by decide +kernel
theorem dL_promotes_147 : decode cL_promotes 147 = .ok (.iadd, 1) := by decide +kernel
theorem dL_promotes_148 : decode cL_promotes 148 = .ok (.iaload, 1) := by decide +kernel
theorem dL_promotes_149 : decode cL_promotes 149 = .ok (.iload 7, 2) := by decide +kernel
theorem dL_promotes_151 : decode cL_promotes 151 = .ok (.if_icmp .le 8, 3) := by decide +kernel
theorem dL_promotes_154 : decode cL_promotes 154 = .ok (.iload 7, 2) := by decide +kernel
theorem dL_promotes_156 : decode cL_promotes 156 = .ok (.goto 9, 3) := by decide +kernel
theorem dL_promotes_159 : decode cL_promotes 159 = .ok (.aload_n 1, 1) := by decide +kernel
theorem dL_promotes_160 : decode cL_promotes 160 = .ok (.iload 6, 2) := by decide +kernel
theorem dL_promotes_162 : decode cL_promotes 162 = .ok (.iconst 1, 1) := by decide +kernel
theorem dL_promotes_163 : decode cL_promotes 163 = .ok (.iadd, 1) := by decide +kernel
theorem dL_promotes_164 : decode cL_promotes 164 = .ok (.iaload, 1) := by decide +kernel
theorem dL_promotes_165 : decode cL_promotes 165 = .ok (.iastore, 1) := by decide +kernel
theorem dL_promotes_166 : decode cL_promotes 166 = .ok (.aload_n 1, 1) := by decide +kernel
theorem dL_promotes_167 : decode cL_promotes 167 = .ok (.bipush 9, 2) := by decide +kernel
theorem dL_promotes_169 : decode cL_promotes 169 = .ok (.iconst 0, 1) := by decide +kernel
theorem dL_promotes_170 : decode cL_promotes 170 = .ok (.iastore, 1) := by decide +kernel
theorem dL_promotes_171 : decode cL_promotes 171 = .ok (.aload_n 1, 1) := by decide +kernel
