/-! ===== the law's words stand in its tables ===== -/
set_option maxRecDepth 20000 in
theorem lw_in_wsL_law_r1 : GoodIn lw_tbl wsL_law_r1 := goodIn_p _ [16, 19] (by decide +kernel) (by decide +kernel)
set_option maxRecDepth 20000 in
theorem lw_in_wsL_law_r2 : GoodIn lw_tbl wsL_law_r2 := goodIn_p _ [24] (by decide +kernel) (by decide +kernel)
set_option maxRecDepth 20000 in
theorem lw_in_wsL_law_r3 : GoodIn lw_tbl wsL_law_r3 := goodIn_p _ [30, 58, 130] (by decide +kernel) (by decide +kernel)
set_option maxRecDepth 20000 in
theorem lw_in_wsL_law_r4 : GoodIn lw_tbl wsL_law_r4 := goodIn_p _ [147, 174] (by decide +kernel) (by decide +kernel)
set_option maxRecDepth 20000 in
theorem lw_in_wsL_law_r5 : GoodIn lw_tbl wsL_law_r5 := goodIn_p _ [480, 483, 488, 365] (by decide +kernel) (by decide +kernel)
set_option maxRecDepth 20000 in
theorem lw_in_wsL_law_r6 : GoodIn lw_tbl wsL_law_r6 := goodIn_p _ [369, 390, 495, 498, 255, 247] (by decide +kernel) (by decide +kernel)
set_option maxRecDepth 20000 in
theorem lw_in_wsL_law_r7 : GoodIn lw_tbl wsL_law_r7 := goodIn_p _ [242, 432, 504, 508, 238, 512] (by decide +kernel) (by decide +kernel)
set_option maxRecDepth 20000 in
theorem lw_in_wsL_law_r8 : GoodIn lw_tbl wsL_law_r8 := goodIn_p _ [234, 516, 520, 523, 394, 457, 460] (by decide +kernel) (by decide +kernel)
set_option maxRecDepth 20000 in
theorem lw_in_wsL_law_r9 : GoodIn lw_tbl wsL_law_r9 := goodIn_p _ [413, 251, 526, 530] (by decide +kernel) (by decide +kernel)
set_option maxRecDepth 20000 in
theorem lw_in_wsL_law_r10 : GoodIn lw_tbl wsL_law_r10 := goodIn_p _ [537, 541, 545, 216, 219] (by decide +kernel) (by decide +kernel)
def wsL_law_r11a : List Cond := [Cond.instanceMethod yX4_transactionIn, Cond.selects RX4 yX4_transactionIn yX4_transactionIn, Cond.code yX4_transactionIn cX4_transactionIn 2 (some .int), Cond.methodLink RX6 185 yX1_putsOf, Cond.instanceMethod yX1_putsOf, Cond.selects RX1 yX1_putsOf yX1_putsOf, Cond.code yX1_putsOf cX1_putsOf 4 (some .int), Cond.methodLink RL 134 yL_cell, Cond.static yL_cell, Cond.code yL_cell cL_cell 2 (some .int), Cond.constant RL 7 (40503), Cond.methodLink RL 70 yL_low, Cond.static yL_low, Cond.code yL_low cL_low 2 (some .int), Cond.constant RL 8 (2147483647), Cond.methodLink RL 138 yL_acts, Cond.static yL_acts]
def wsL_law_r11b : List Cond := [Cond.constant RL 69 (10000000), Cond.constant RL 45 (-1000002), Cond.methodLink RL 74 yL_writes, Cond.static yL_writes, Cond.code yL_writes cL_writes 10 (some .boolean), Cond.methodLink RL 39 yX6_open]
set_option maxRecDepth 100000 in
theorem lw_hv_acts : GoodIn lw_tbl [Cond.code yL_acts cL_acts 15 (some .boolean)] := fun w h => by
  rw [List.mem_singleton] at h
  subst h
  exact ⟨List.mem_of_getElem? (i := 266) rfl, Or.inl rfl⟩
set_option maxRecDepth 20000 in
theorem lw_in_r11a : GoodIn lw_tbl wsL_law_r11a := goodIn_p _ [224, 230, 258, 262] (by decide +kernel) (by decide +kernel)
set_option maxRecDepth 20000 in
theorem lw_in_r11b : GoodIn lw_tbl wsL_law_r11b := goodIn_p _ [270] (by decide +kernel) (by decide +kernel)
theorem lw_in_wsL_law_r11 : GoodIn lw_tbl wsL_law_r11 := (goodIn_app lw_in_r11a (goodIn_app lw_hv_acts lw_in_r11b) : GoodIn lw_tbl (wsL_law_r11a ++ ([Cond.code yL_acts cL_acts 15 (some .boolean)] ++ wsL_law_r11b)))
set_option maxRecDepth 20000 in
theorem lw_in_wsL_law_r12 : GoodIn lw_tbl wsL_law_r12 := goodIn_p _ [274, 278, 282, 286, 289] (by decide +kernel) (by decide +kernel)
set_option maxRecDepth 20000 in
theorem lw_in_wsL_law_r13 : GoodIn lw_tbl wsL_law_r13 := goodIn_p _ [292, 299, 304, 310, 314] (by decide +kernel) (by decide +kernel)
set_option maxRecDepth 20000 in
theorem lw_in_wsL_law_r14 : GoodIn lw_tbl wsL_law_r14 := goodIn_p _ [319, 323, 326, 330, 334, 339, 343] (by decide +kernel) (by decide +kernel)
set_option maxRecDepth 20000 in
theorem lw_in_wsL_law_r15 : GoodIn lw_tbl wsL_law_r15 := goodIn_p _ [347, 350, 358, 362, 374] (by decide +kernel) (by decide +kernel)
set_option maxRecDepth 20000 in
theorem lw_in_wsL_law_r16 : GoodIn lw_tbl wsL_law_r16 := goodIn_p _ [378, 382, 386, 398, 402] (by decide +kernel) (by decide +kernel)
set_option maxRecDepth 20000 in
theorem lw_in_wsL_law_r17 : GoodIn lw_tbl wsL_law_r17 := goodIn_p _ [406, 410, 417, 421, 424, 428] (by decide +kernel) (by decide +kernel)
set_option maxRecDepth 20000 in
theorem lw_in_wsL_law_r18 : GoodIn lw_tbl wsL_law_r18 := goodIn_p _ [436, 440, 445, 450, 454, 465] (by decide +kernel) (by decide +kernel)
set_option maxRecDepth 20000 in
theorem lw_in_wsL_law_r19 : GoodIn lw_tbl wsL_law_r19 := goodIn_p _ [469, 473, 477] (by decide +kernel) (by decide +kernel)
set_option maxRecDepth 20000 in
theorem lw_in_wsX60 : GoodIn lw_tbl wsX60 := goodIn_p _ [] (by decide +kernel) (by decide +kernel)
set_option maxRecDepth 20000 in
theorem lw_in_wsX40 : GoodIn lw_tbl wsX40 := goodIn_p _ [] (by decide +kernel) (by decide +kernel)
set_option maxRecDepth 20000 in
theorem lw_in_wsX00 : GoodIn lw_tbl wsX00 := goodIn_p _ [] (by decide +kernel) (by decide +kernel)
set_option maxRecDepth 20000 in
theorem lw_in_wsX20 : GoodIn lw_tbl wsX20 := goodIn_p _ [] (by decide +kernel) (by decide +kernel)
set_option maxRecDepth 20000 in
theorem lw_in_wsX50 : GoodIn lw_tbl wsX50 := goodIn_p _ [] (by decide +kernel) (by decide +kernel)
set_option maxRecDepth 20000 in
theorem lw_in_wsX10 : GoodIn lw_tbl wsX10 := goodIn_p _ [] (by decide +kernel) (by decide +kernel)
set_option maxRecDepth 20000 in
theorem lw_in_wsX30 : GoodIn lw_tbl wsX30 := goodIn_p _ [] (by decide +kernel) (by decide +kernel)
theorem lw_law : GoodIn lw_tbl wsL_law := (goodIn_app (goodIn_app (goodIn_app (goodIn_app (goodIn_app (goodIn_app (goodIn_app (goodIn_app (goodIn_app lw_in_wsL_law_r1 (goodIn_app lw_in_wsL_law_r2 (goodIn_app lw_in_wsL_law_r3 (goodIn_app lw_in_wsL_law_r4 (goodIn_app lw_in_wsL_law_r5 (goodIn_app lw_in_wsL_law_r6 (goodIn_app lw_in_wsL_law_r7 (goodIn_app lw_in_wsL_law_r8 (goodIn_app lw_in_wsL_law_r9 (goodIn_app lw_in_wsL_law_r10 (goodIn_app lw_in_wsL_law_r11 (goodIn_app lw_in_wsL_law_r12 (goodIn_app lw_in_wsL_law_r13 (goodIn_app lw_in_wsL_law_r14 (goodIn_app lw_in_wsL_law_r15 (goodIn_app lw_in_wsL_law_r16 (goodIn_app lw_in_wsL_law_r17 (goodIn_app lw_in_wsL_law_r18 lw_in_wsL_law_r19)))))))))))))))))) lw_in_wsX60) lw_in_wsX40) lw_in_wsX00) lw_in_wsX20) lw_in_wsX50) lw_in_wsX10) lw_in_wsX30) (goodIn_of [] (by decide +kernel)))
theorem wsL_law_in : ∀ w ∈ wsL_law, w ∈ lw_tbl := fun w h => (lw_law w h).1
