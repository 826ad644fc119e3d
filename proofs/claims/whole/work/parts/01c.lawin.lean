/-! ===== the law's words stand in its tables ===== -/
set_option maxRecDepth 20000 in
theorem lw_in_wsL_law_r1 : GoodIn lw_tbl wsL_law_r1 := goodIn_p _ [47, 50] (by decide +kernel) (by decide +kernel)
set_option maxRecDepth 20000 in
theorem lw_in_wsL_law_r2 : GoodIn lw_tbl wsL_law_r2 := goodIn_p _ [55] (by decide +kernel) (by decide +kernel)
set_option maxRecDepth 20000 in
theorem lw_in_wsL_law_r3 : GoodIn lw_tbl wsL_law_r3 := goodIn_p _ [61, 89, 163] (by decide +kernel) (by decide +kernel)
set_option maxRecDepth 20000 in
theorem lw_in_wsL_law_r4 : GoodIn lw_tbl wsL_law_r4 := goodIn_p _ [180, 210] (by decide +kernel) (by decide +kernel)
set_option maxRecDepth 20000 in
theorem lw_in_wsL_law_r5 : GoodIn lw_tbl wsL_law_r5 := goodIn_p _ [725, 257, 261, 265] (by decide +kernel) (by decide +kernel)
set_option maxRecDepth 20000 in
theorem lw_in_wsL_law_r6 : GoodIn lw_tbl wsL_law_r6 := goodIn_p _ [269, 272, 275, 282, 287, 290] (by decide +kernel) (by decide +kernel)
set_option maxRecDepth 20000 in
theorem lw_in_wsL_law_r7 : GoodIn lw_tbl wsL_law_r7 := goodIn_p _ [296, 300, 773, 776, 779, 785] (by decide +kernel) (by decide +kernel)
set_option maxRecDepth 20000 in
theorem lw_in_wsL_law_r8 : GoodIn lw_tbl wsL_law_r8 := goodIn_p _ [304, 308, 311, 315, 319] (by decide +kernel) (by decide +kernel)
set_option maxRecDepth 20000 in
theorem lw_in_wsL_law_r9 : GoodIn lw_tbl wsL_law_r9 := goodIn_p _ [789, 792, 796, 801, 324, 328] (by decide +kernel) (by decide +kernel)
set_option maxRecDepth 20000 in
theorem lw_in_wsL_law_r10 : GoodIn lw_tbl wsL_law_r10 := goodIn_p _ [805, 332, 810, 336, 340, 343] (by decide +kernel) (by decide +kernel)
set_option maxRecDepth 20000 in
theorem lw_in_wsL_law_r11 : GoodIn lw_tbl wsL_law_r11 := goodIn_p _ [347, 814, 817, 821, 352, 356] (by decide +kernel) (by decide +kernel)
set_option maxRecDepth 20000 in
theorem lw_in_wsL_law_r12 : GoodIn lw_tbl wsL_law_r12 := goodIn_p _ [360, 364, 368, 825, 829, 833] (by decide +kernel) (by decide +kernel)
set_option maxRecDepth 20000 in
theorem lw_in_wsL_law_r13 : GoodIn lw_tbl wsL_law_r13 := goodIn_p _ [372, 376, 380, 837, 841] (by decide +kernel) (by decide +kernel)
set_option maxRecDepth 20000 in
theorem lw_in_wsL_law_r14 : GoodIn lw_tbl wsL_law_r14 := goodIn_p _ [385, 389, 392, 396, 400, 404, 845] (by decide +kernel) (by decide +kernel)
set_option maxRecDepth 20000 in
theorem lw_in_wsL_law_r15 : GoodIn lw_tbl wsL_law_r15 := goodIn_p _ [849, 853, 409, 413, 417, 421] (by decide +kernel) (by decide +kernel)
set_option maxRecDepth 20000 in
theorem lw_in_wsL_law_r16 : GoodIn lw_tbl wsL_law_r16 := goodIn_p _ [425, 430, 857, 861, 865] (by decide +kernel) (by decide +kernel)
set_option maxRecDepth 20000 in
theorem lw_in_wsL_law_r17 : GoodIn lw_tbl wsL_law_r17 := goodIn_p _ [869, 435, 439, 873, 443, 447] (by decide +kernel) (by decide +kernel)
set_option maxRecDepth 20000 in
theorem lw_in_wsL_law_r18 : GoodIn lw_tbl wsL_law_r18 := goodIn_p _ [877, 451, 457, 463] (by decide +kernel) (by decide +kernel)
set_option maxRecDepth 20000 in
theorem lw_in_wsL_law_r19 : GoodIn lw_tbl wsL_law_r19 := goodIn_p _ [468, 472, 476, 480, 484, 488] (by decide +kernel) (by decide +kernel)
set_option maxRecDepth 20000 in
theorem lw_in_wsL_law_r20 : GoodIn lw_tbl wsL_law_r20 := goodIn_p _ [492, 881, 885, 889, 893, 897] (by decide +kernel) (by decide +kernel)
set_option maxRecDepth 20000 in
theorem lw_in_wsL_law_r21 : GoodIn lw_tbl wsL_law_r21 := goodIn_p _ [901, 496, 501, 905, 507] (by decide +kernel) (by decide +kernel)
set_option maxRecDepth 20000 in
theorem lw_in_wsL_law_r22 : GoodIn lw_tbl wsL_law_r22 := goodIn_p _ [909, 512, 516, 913, 520] (by decide +kernel) (by decide +kernel)
set_option maxRecDepth 20000 in
theorem lw_in_wsL_law_r23 : GoodIn lw_tbl wsL_law_r23 := goodIn_p _ [917, 529, 534, 539] (by decide +kernel) (by decide +kernel)
set_option maxRecDepth 20000 in
theorem lw_in_wsL_law_r24 : GoodIn lw_tbl wsL_law_r24 := goodIn_p _ [543, 547, 550, 921, 925, 929] (by decide +kernel) (by decide +kernel)
set_option maxRecDepth 20000 in
theorem lw_in_wsL_law_r25 : GoodIn lw_tbl wsL_law_r25 := goodIn_p _ [554, 558, 933, 562, 566, 937] (by decide +kernel) (by decide +kernel)
set_option maxRecDepth 20000 in
theorem lw_in_wsL_law_r26 : GoodIn lw_tbl wsL_law_r26 := goodIn_p _ [941, 571, 945, 575, 580, 584] (by decide +kernel) (by decide +kernel)
set_option maxRecDepth 20000 in
theorem lw_in_wsL_law_r27 : GoodIn lw_tbl wsL_law_r27 := goodIn_p _ [589, 949, 593] (by decide +kernel) (by decide +kernel)
set_option maxRecDepth 20000 in
theorem lw_in_wsL_law_r28 : GoodIn lw_tbl wsL_law_r28 := goodIn_p _ [953, 597, 601, 957, 605, 609] (by decide +kernel) (by decide +kernel)
set_option maxRecDepth 20000 in
theorem lw_in_wsL_law_r29 : GoodIn lw_tbl wsL_law_r29 := goodIn_p _ [961, 614, 965, 618, 622] (by decide +kernel) (by decide +kernel)
set_option maxRecDepth 20000 in
theorem lw_in_wsL_law_r30 : GoodIn lw_tbl wsL_law_r30 := goodIn_p _ [627, 631, 634, 642, 646] (by decide +kernel) (by decide +kernel)
set_option maxRecDepth 20000 in
theorem lw_in_wsL_law_r31 : GoodIn lw_tbl wsL_law_r31 := goodIn_p _ [650, 656, 660, 663, 666, 671] (by decide +kernel) (by decide +kernel)
set_option maxRecDepth 20000 in
theorem lw_in_wsL_law_r32 : GoodIn lw_tbl wsL_law_r32 := goodIn_p _ [674, 677, 680, 684, 694] (by decide +kernel) (by decide +kernel)
set_option maxRecDepth 20000 in
theorem lw_in_wsL_law_r33 : GoodIn lw_tbl wsL_law_r33 := goodIn_p _ [698, 701, 705, 709, 969] (by decide +kernel) (by decide +kernel)
set_option maxRecDepth 20000 in
theorem lw_in_wsL_law_r34 : GoodIn lw_tbl wsL_law_r34 := goodIn_p _ [972, 976, 980, 984, 988] (by decide +kernel) (by decide +kernel)
set_option maxRecDepth 20000 in
theorem lw_in_wsL_law_r35 : GoodIn lw_tbl wsL_law_r35 := goodIn_p _ [992, 996, 719, 1006] (by decide +kernel) (by decide +kernel)
set_option maxRecDepth 20000 in
theorem lw_in_wsX60 : GoodIn lw_tbl wsX60 := goodIn_p _ [] (by decide +kernel) (by decide +kernel)
set_option maxRecDepth 20000 in
theorem lw_in_wsX70 : GoodIn lw_tbl wsX70 := goodIn_p _ [] (by decide +kernel) (by decide +kernel)
set_option maxRecDepth 20000 in
theorem lw_in_wsX40 : GoodIn lw_tbl wsX40 := goodIn_p _ [] (by decide +kernel) (by decide +kernel)
set_option maxRecDepth 20000 in
theorem lw_in_wsX00 : GoodIn lw_tbl wsX00 := goodIn_p _ [] (by decide +kernel) (by decide +kernel)
set_option maxRecDepth 20000 in
theorem lw_in_wsX20 : GoodIn lw_tbl wsX20 := goodIn_p _ [] (by decide +kernel) (by decide +kernel)
set_option maxRecDepth 20000 in
theorem lw_in_wsX50 : GoodIn lw_tbl wsX50 := goodIn_p _ [] (by decide +kernel) (by decide +kernel)
set_option maxRecDepth 20000 in
theorem lw_in_wsX10 : GoodIn lw_tbl wsX10 := goodIn_p _ [] (by decide +kernel) (by decide +kernel)
set_option maxRecDepth 20000 in
theorem lw_in_wsX30 : GoodIn lw_tbl wsX30 := goodIn_p _ [] (by decide +kernel) (by decide +kernel)
theorem lw_law : GoodIn lw_tbl wsL_law := (goodIn_app (goodIn_app (goodIn_app (goodIn_app (goodIn_app (goodIn_app (goodIn_app (goodIn_app (goodIn_app (goodIn_app lw_in_wsL_law_r1 (goodIn_app lw_in_wsL_law_r2 (goodIn_app lw_in_wsL_law_r3 (goodIn_app lw_in_wsL_law_r4 (goodIn_app lw_in_wsL_law_r5 (goodIn_app lw_in_wsL_law_r6 (goodIn_app lw_in_wsL_law_r7 (goodIn_app lw_in_wsL_law_r8 (goodIn_app lw_in_wsL_law_r9 (goodIn_app lw_in_wsL_law_r10 (goodIn_app lw_in_wsL_law_r11 (goodIn_app lw_in_wsL_law_r12 (goodIn_app lw_in_wsL_law_r13 (goodIn_app lw_in_wsL_law_r14 (goodIn_app lw_in_wsL_law_r15 (goodIn_app lw_in_wsL_law_r16 (goodIn_app lw_in_wsL_law_r17 (goodIn_app lw_in_wsL_law_r18 (goodIn_app lw_in_wsL_law_r19 (goodIn_app lw_in_wsL_law_r20 (goodIn_app lw_in_wsL_law_r21 (goodIn_app lw_in_wsL_law_r22 (goodIn_app lw_in_wsL_law_r23 (goodIn_app lw_in_wsL_law_r24 (goodIn_app lw_in_wsL_law_r25 (goodIn_app lw_in_wsL_law_r26 (goodIn_app lw_in_wsL_law_r27 (goodIn_app lw_in_wsL_law_r28 (goodIn_app lw_in_wsL_law_r29 (goodIn_app lw_in_wsL_law_r30 (goodIn_app lw_in_wsL_law_r31 (goodIn_app lw_in_wsL_law_r32 (goodIn_app lw_in_wsL_law_r33 (goodIn_app lw_in_wsL_law_r34 lw_in_wsL_law_r35)))))))))))))))))))))))))))))))))) lw_in_wsX60) lw_in_wsX70) lw_in_wsX40) lw_in_wsX00) lw_in_wsX20) lw_in_wsX50) lw_in_wsX10) lw_in_wsX30) (goodIn_of [] (by decide +kernel)))
theorem wsL_law_in : ∀ w ∈ wsL_law, w ∈ lw_tbl := fun w h => (lw_law w h).1
