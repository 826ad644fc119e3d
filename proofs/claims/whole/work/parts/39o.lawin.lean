/-! ===== the law's words stand in its tables ===== -/
set_option maxRecDepth 20000 in
theorem lw_in_wsL_law_r1 : GoodIn lw_tbl wsL_law_r1 := goodIn_p _ [47, 50] (by decide +kernel) (by decide +kernel)
set_option maxRecDepth 20000 in
theorem lw_in_wsL_law_r2 : GoodIn lw_tbl wsL_law_r2 := goodIn_p _ [55] (by decide +kernel) (by decide +kernel)
set_option maxRecDepth 20000 in
theorem lw_in_wsL_law_r3 : GoodIn lw_tbl wsL_law_r3 := goodIn_p _ [61, 89, 163] (by decide +kernel) (by decide +kernel)
set_option maxRecDepth 20000 in
theorem lw_in_wsL_law_r4 : GoodIn lw_tbl wsL_law_r4 := goodIn_p _ [180, 210] (by decide +kernel) (by decide +kernel)
set_option maxRecDepth 20000 in
theorem lw_in_wsL_law_r5 : GoodIn lw_tbl wsL_law_r5 := goodIn_p _ [726, 257, 261, 265] (by decide +kernel) (by decide +kernel)
set_option maxRecDepth 20000 in
theorem lw_in_wsL_law_r6 : GoodIn lw_tbl wsL_law_r6 := goodIn_p _ [269, 272, 275, 282, 288] (by decide +kernel) (by decide +kernel)
set_option maxRecDepth 20000 in
theorem lw_in_wsL_law_r7 : GoodIn lw_tbl wsL_law_r7 := goodIn_p _ [291, 297, 301, 774, 777, 780] (by decide +kernel) (by decide +kernel)
set_option maxRecDepth 20000 in
theorem lw_in_wsL_law_r8 : GoodIn lw_tbl wsL_law_r8 := goodIn_p _ [786, 305, 309, 312, 316, 320] (by decide +kernel) (by decide +kernel)
set_option maxRecDepth 20000 in
theorem lw_in_wsL_law_r9 : GoodIn lw_tbl wsL_law_r9 := goodIn_p _ [790, 793, 797, 802, 325, 329] (by decide +kernel) (by decide +kernel)
set_option maxRecDepth 20000 in
theorem lw_in_wsL_law_r10 : GoodIn lw_tbl wsL_law_r10 := goodIn_p _ [806, 333, 811, 337, 341] (by decide +kernel) (by decide +kernel)
set_option maxRecDepth 20000 in
theorem lw_in_wsL_law_r11 : GoodIn lw_tbl wsL_law_r11 := goodIn_p _ [344, 348, 815, 818, 822, 353, 357] (by decide +kernel) (by decide +kernel)
set_option maxRecDepth 20000 in
theorem lw_in_wsL_law_r12 : GoodIn lw_tbl wsL_law_r12 := goodIn_p _ [361, 365, 369, 826, 830] (by decide +kernel) (by decide +kernel)
set_option maxRecDepth 20000 in
theorem lw_in_wsL_law_r13 : GoodIn lw_tbl wsL_law_r13 := goodIn_p _ [834, 373, 377, 381, 838, 842] (by decide +kernel) (by decide +kernel)
set_option maxRecDepth 20000 in
theorem lw_in_wsL_law_r14 : GoodIn lw_tbl wsL_law_r14 := goodIn_p _ [386, 390, 393, 397, 401, 405] (by decide +kernel) (by decide +kernel)
set_option maxRecDepth 20000 in
theorem lw_in_wsL_law_r15 : GoodIn lw_tbl wsL_law_r15 := goodIn_p _ [846, 850, 854, 410, 414, 418] (by decide +kernel) (by decide +kernel)
set_option maxRecDepth 20000 in
theorem lw_in_wsL_law_r16 : GoodIn lw_tbl wsL_law_r16 := goodIn_p _ [422, 426, 431, 858, 862, 866] (by decide +kernel) (by decide +kernel)
set_option maxRecDepth 20000 in
theorem lw_in_wsL_law_r17 : GoodIn lw_tbl wsL_law_r17 := goodIn_p _ [870, 436, 440, 874, 444, 448] (by decide +kernel) (by decide +kernel)
set_option maxRecDepth 20000 in
theorem lw_in_wsL_law_r18 : GoodIn lw_tbl wsL_law_r18 := goodIn_p _ [878, 452, 458, 464] (by decide +kernel) (by decide +kernel)
set_option maxRecDepth 20000 in
theorem lw_in_wsL_law_r19 : GoodIn lw_tbl wsL_law_r19 := goodIn_p _ [469, 473, 477, 481, 485, 489] (by decide +kernel) (by decide +kernel)
set_option maxRecDepth 20000 in
theorem lw_in_wsL_law_r20 : GoodIn lw_tbl wsL_law_r20 := goodIn_p _ [493, 882, 886, 890, 894, 898] (by decide +kernel) (by decide +kernel)
set_option maxRecDepth 20000 in
theorem lw_in_wsL_law_r21 : GoodIn lw_tbl wsL_law_r21 := goodIn_p _ [902, 497, 502, 906, 508] (by decide +kernel) (by decide +kernel)
set_option maxRecDepth 20000 in
theorem lw_in_wsL_law_r22 : GoodIn lw_tbl wsL_law_r22 := goodIn_p _ [910, 513, 517, 914, 521] (by decide +kernel) (by decide +kernel)
set_option maxRecDepth 20000 in
theorem lw_in_wsL_law_r23 : GoodIn lw_tbl wsL_law_r23 := goodIn_p _ [918, 530, 535, 540] (by decide +kernel) (by decide +kernel)
set_option maxRecDepth 20000 in
theorem lw_in_wsL_law_r24 : GoodIn lw_tbl wsL_law_r24 := goodIn_p _ [544, 548, 551, 922, 926, 930] (by decide +kernel) (by decide +kernel)
set_option maxRecDepth 20000 in
theorem lw_in_wsL_law_r25 : GoodIn lw_tbl wsL_law_r25 := goodIn_p _ [555, 559, 934, 563, 567, 938] (by decide +kernel) (by decide +kernel)
set_option maxRecDepth 20000 in
theorem lw_in_wsL_law_r26 : GoodIn lw_tbl wsL_law_r26 := goodIn_p _ [942, 572, 946, 576, 581, 585] (by decide +kernel) (by decide +kernel)
set_option maxRecDepth 20000 in
theorem lw_in_wsL_law_r27 : GoodIn lw_tbl wsL_law_r27 := goodIn_p _ [590, 950, 594] (by decide +kernel) (by decide +kernel)
set_option maxRecDepth 20000 in
theorem lw_in_wsL_law_r28 : GoodIn lw_tbl wsL_law_r28 := goodIn_p _ [954, 598, 602, 958, 606, 610] (by decide +kernel) (by decide +kernel)
set_option maxRecDepth 20000 in
theorem lw_in_wsL_law_r29 : GoodIn lw_tbl wsL_law_r29 := goodIn_p _ [962, 615, 966, 619, 623] (by decide +kernel) (by decide +kernel)
set_option maxRecDepth 20000 in
theorem lw_in_wsL_law_r30 : GoodIn lw_tbl wsL_law_r30 := goodIn_p _ [628, 632, 635, 643, 647] (by decide +kernel) (by decide +kernel)
set_option maxRecDepth 20000 in
theorem lw_in_wsL_law_r31 : GoodIn lw_tbl wsL_law_r31 := goodIn_p _ [651, 657, 661, 664, 667] (by decide +kernel) (by decide +kernel)
set_option maxRecDepth 20000 in
theorem lw_in_wsL_law_r32 : GoodIn lw_tbl wsL_law_r32 := goodIn_p _ [672, 675, 678, 681, 685, 695] (by decide +kernel) (by decide +kernel)
set_option maxRecDepth 20000 in
theorem lw_in_wsL_law_r33 : GoodIn lw_tbl wsL_law_r33 := goodIn_p _ [699, 702, 706, 710, 970] (by decide +kernel) (by decide +kernel)
set_option maxRecDepth 20000 in
theorem lw_in_wsL_law_r34 : GoodIn lw_tbl wsL_law_r34 := goodIn_p _ [973, 977, 981, 985, 989] (by decide +kernel) (by decide +kernel)
set_option maxRecDepth 20000 in
theorem lw_in_wsL_law_r35 : GoodIn lw_tbl wsL_law_r35 := goodIn_p _ [993, 997, 720] (by decide +kernel) (by decide +kernel)
set_option maxRecDepth 20000 in
theorem lw_in_wsL_law_r36 : GoodIn lw_tbl wsL_law_r36 := goodIn_p _ [1007] (by decide +kernel) (by decide +kernel)
set_option maxRecDepth 20000 in
theorem lw_in_wsX60 : GoodIn lw_tbl wsX60 := goodIn_of _ (by decide +kernel)
set_option maxRecDepth 20000 in
theorem lw_in_wsX70 : GoodIn lw_tbl wsX70 := goodIn_of _ (by decide +kernel)
set_option maxRecDepth 20000 in
theorem lw_in_wsX40 : GoodIn lw_tbl wsX40 := goodIn_of _ (by decide +kernel)
set_option maxRecDepth 20000 in
theorem lw_in_wsX00 : GoodIn lw_tbl wsX00 := goodIn_of _ (by decide +kernel)
set_option maxRecDepth 20000 in
theorem lw_in_wsX20 : GoodIn lw_tbl wsX20 := goodIn_of _ (by decide +kernel)
set_option maxRecDepth 20000 in
theorem lw_in_wsX50 : GoodIn lw_tbl wsX50 := goodIn_of _ (by decide +kernel)
set_option maxRecDepth 20000 in
theorem lw_in_wsX10 : GoodIn lw_tbl wsX10 := goodIn_of _ (by decide +kernel)
set_option maxRecDepth 20000 in
theorem lw_in_wsX30 : GoodIn lw_tbl wsX30 := goodIn_of _ (by decide +kernel)
theorem lw_law : GoodIn lw_tbl wsL_law := (goodIn_app (goodIn_app (goodIn_app (goodIn_app (goodIn_app (goodIn_app (goodIn_app (goodIn_app (goodIn_app (goodIn_app lw_in_wsL_law_r1 (goodIn_app lw_in_wsL_law_r2 (goodIn_app lw_in_wsL_law_r3 (goodIn_app lw_in_wsL_law_r4 (goodIn_app lw_in_wsL_law_r5 (goodIn_app lw_in_wsL_law_r6 (goodIn_app lw_in_wsL_law_r7 (goodIn_app lw_in_wsL_law_r8 (goodIn_app lw_in_wsL_law_r9 (goodIn_app lw_in_wsL_law_r10 (goodIn_app lw_in_wsL_law_r11 (goodIn_app lw_in_wsL_law_r12 (goodIn_app lw_in_wsL_law_r13 (goodIn_app lw_in_wsL_law_r14 (goodIn_app lw_in_wsL_law_r15 (goodIn_app lw_in_wsL_law_r16 (goodIn_app lw_in_wsL_law_r17 (goodIn_app lw_in_wsL_law_r18 (goodIn_app lw_in_wsL_law_r19 (goodIn_app lw_in_wsL_law_r20 (goodIn_app lw_in_wsL_law_r21 (goodIn_app lw_in_wsL_law_r22 (goodIn_app lw_in_wsL_law_r23 (goodIn_app lw_in_wsL_law_r24 (goodIn_app lw_in_wsL_law_r25 (goodIn_app lw_in_wsL_law_r26 (goodIn_app lw_in_wsL_law_r27 (goodIn_app lw_in_wsL_law_r28 (goodIn_app lw_in_wsL_law_r29 (goodIn_app lw_in_wsL_law_r30 (goodIn_app lw_in_wsL_law_r31 (goodIn_app lw_in_wsL_law_r32 (goodIn_app lw_in_wsL_law_r33 (goodIn_app lw_in_wsL_law_r34 (goodIn_app lw_in_wsL_law_r35 lw_in_wsL_law_r36))))))))))))))))))))))))))))))))))) lw_in_wsX60) lw_in_wsX70) lw_in_wsX40) lw_in_wsX00) lw_in_wsX20) lw_in_wsX50) lw_in_wsX10) lw_in_wsX30) (goodIn_of [] (by decide +kernel)))
