set_option maxRecDepth 20000 in
theorem clb_wsL_book_r22 : GoodIn wsL_law wsL_book_r22 := goodIn_r _ [507, 508, 509, 510, 511, 512, 513, 514, 515, 516, 517, 518, 519, 520, 521, 522, 523, 524, 525, 526, 527, 528, 529, 530] rfl (by decide +kernel)
set_option maxRecDepth 20000 in
theorem clb_wsL_book_r23 : GoodIn wsL_law wsL_book_r23 := goodIn_r _ [531, 532, 533, 534] rfl (by decide +kernel)
set_option maxRecDepth 20000 in
theorem clb_wsX70 : GoodIn wsL_law wsX70 := goodIn_r _ [535, 536, 537, 538, 539, 540, 541, 542, 543, 544] rfl (by decide +kernel)
set_option maxRecDepth 20000 in
theorem clb_wsX50 : GoodIn wsL_law wsX50 := goodIn_r _ [545, 546, 547] rfl (by decide +kernel)
set_option maxRecDepth 20000 in
theorem clb_wsX20 : GoodIn wsL_law wsX20 := goodIn_r _ [548, 549] rfl (by decide +kernel)
set_option maxRecDepth 20000 in
theorem clb_wsX60 : GoodIn wsL_law wsX60 := goodIn_r _ [550, 551, 552, 553, 554] rfl (by decide +kernel)
set_option maxRecDepth 20000 in
theorem clb_wsX30 : GoodIn wsL_law wsX30 := goodIn_r _ [555, 556] rfl (by decide +kernel)
set_option maxRecDepth 20000 in
theorem clb_wsX10 : GoodIn wsL_law wsX10 := goodIn_r _ [557, 558, 559] rfl (by decide +kernel)
set_option maxRecDepth 20000 in
theorem clb_wsX40 : GoodIn wsL_law wsX40 := goodIn_r _ [560, 561, 562, 563, 564, 565] rfl (by decide +kernel)
set_option maxRecDepth 20000 in
theorem clb_wsX00 : GoodIn wsL_law wsX00 := goodIn_r _ [566, 567, 568, 569, 570, 571, 572, 573, 574] rfl (by decide +kernel)
set_option maxRecDepth 20000 in
theorem ggL_law_L_book : GoodIn wsL_law wsL_book := goodIn_ca (goodIn_ca (goodIn_ca (goodIn_app clb_head (goodIn_app (goodIn_app (goodIn_app (goodIn_app (goodIn_app (goodIn_app (goodIn_app (goodIn_app (goodIn_app clb_wsL_book_r1 (goodIn_app clb_wsL_book_r2 (goodIn_app clb_wsL_book_r3 (goodIn_app clb_wsL_book_r4 (goodIn_app clb_wsL_book_r5 (goodIn_app clb_wsL_book_r6 (goodIn_app clb_wsL_book_r7 (goodIn_app clb_wsL_book_r8 (goodIn_app clb_wsL_book_r9 (goodIn_app clb_wsL_book_r10 (goodIn_app clb_wsL_book_r11 (goodIn_app clb_wsL_book_r12 (goodIn_app clb_wsL_book_r13 (goodIn_app clb_wsL_book_r14 (goodIn_app clb_wsL_book_r15 (goodIn_app clb_wsL_book_r16 (goodIn_app clb_wsL_book_r17 (goodIn_app clb_wsL_book_r18 (goodIn_app clb_wsL_book_r19 (goodIn_app clb_wsL_book_r20 (goodIn_app clb_wsL_book_r21 (goodIn_app clb_wsL_book_r22 (clb_wsL_book_r23))))))))))))))))))))))) clb_wsX70) clb_wsX50) clb_wsX20) clb_wsX60) clb_wsX30) clb_wsX10) clb_wsX40) clb_wsX00)) (goodIn_sub (fun _ h => List.mem_append_left _ (List.mem_append_left _ (List.mem_append_right _ h))) (by decide +kernel))) (goodIn_sub (fun _ h => List.mem_append_left _ (List.mem_append_right _ h)) (by decide +kernel))) (goodIn_sub (fun _ h => List.mem_append_right _ h) (by decide +kernel))
set_option maxRecDepth 20000 in
theorem gL_law_L_book : GoodIn wsL_law (va_wsS RL 173 yL_book wsL_book) := goodIn_app (goodIn_of _ (by decide +kernel)) ggL_law_L_book
