set_option maxRecDepth 20000 in
theorem cbs_wsL_isSound_r13 : GoodIn wsL_book wsL_isSound_r13 := goodIn_r _ [240, 425, 426, 427, 455, 456, 457, 458, 459, 460, 461, 462, 463, 464, 465, 466, 467, 468, 469, 470, 471, 472, 473, 474] (by decide +kernel) (by decide +kernel)
set_option maxRecDepth 20000 in
theorem cbs_wsL_isSound_r14 : GoodIn wsL_book wsL_isSound_r14 := goodIn_r _ [475, 476, 477, 478, 479, 480, 481, 482, 230, 231, 232, 483, 484, 485, 486, 24, 487, 488, 489, 490, 491, 492, 493, 494] (by decide +kernel) (by decide +kernel)
set_option maxRecDepth 20000 in
theorem cbs_wsL_isSound_r15 : GoodIn wsL_book wsL_isSound_r15 := goodIn_r _ [495, 496, 497, 498, 499, 500, 501, 502, 503, 504, 505, 506, 507, 508, 509, 510, 511, 512, 513, 514, 515, 516, 517, 518] (by decide +kernel) (by decide +kernel)
set_option maxRecDepth 20000 in
theorem cbs_wsL_isSound_r16 : GoodIn wsL_book wsL_isSound_r16 := goodIn_r _ [519, 520, 94, 95, 96, 521, 522, 523, 524, 525, 526, 527, 528, 529, 530, 531, 532] (by decide +kernel) (by decide +kernel)
set_option maxRecDepth 20000 in
theorem cbs_wsX70 : GoodIn wsL_book wsX70 := goodIn_r _ [533, 534, 535, 536, 537, 538, 539, 540, 541, 542] (by decide +kernel) (by decide +kernel)
set_option maxRecDepth 20000 in
theorem cbs_wsX20 : GoodIn wsL_book wsX20 := goodIn_r _ [546, 547] (by decide +kernel) (by decide +kernel)
set_option maxRecDepth 20000 in
theorem cbs_wsX40 : GoodIn wsL_book wsX40 := goodIn_r _ [558, 559, 560, 561, 562, 563] (by decide +kernel) (by decide +kernel)
set_option maxRecDepth 20000 in
theorem cbs_wsX50 : GoodIn wsL_book wsX50 := goodIn_r _ [543, 544, 545] (by decide +kernel) (by decide +kernel)
set_option maxRecDepth 20000 in
theorem cbs_wsX00 : GoodIn wsL_book wsX00 := goodIn_r _ [564, 565, 566, 567, 568, 569, 570, 571, 572] (by decide +kernel) (by decide +kernel)
set_option maxRecDepth 20000 in
theorem cbs_wsX10 : GoodIn wsL_book wsX10 := goodIn_r _ [555, 556, 557] (by decide +kernel) (by decide +kernel)
set_option maxRecDepth 20000 in
theorem cbs_wsX30 : GoodIn wsL_book wsX30 := goodIn_r _ [553, 554] (by decide +kernel) (by decide +kernel)
set_option maxRecDepth 20000 in
theorem cbs_wsX60 : GoodIn wsL_book wsX60 := goodIn_r _ [548, 549, 550, 551, 552] (by decide +kernel) (by decide +kernel)
set_option maxRecDepth 20000 in
theorem ggL_book_L_isSound : GoodIn wsL_book wsL_isSound := goodIn_ca (goodIn_ca (goodIn_ca (goodIn_app cbs_head (goodIn_app (goodIn_app (goodIn_app (goodIn_app (goodIn_app (goodIn_app (goodIn_app (goodIn_app (goodIn_app cbs_wsL_isSound_r1 (goodIn_app cbs_wsL_isSound_r2 (goodIn_app cbs_wsL_isSound_r3 (goodIn_app cbs_wsL_isSound_r4 (goodIn_app cbs_wsL_isSound_r5 (goodIn_app cbs_wsL_isSound_r6 (goodIn_app cbs_wsL_isSound_r7 (goodIn_app cbs_wsL_isSound_r8 (goodIn_app cbs_wsL_isSound_r9 (goodIn_app cbs_wsL_isSound_r10 (goodIn_app cbs_wsL_isSound_r11 (goodIn_app cbs_wsL_isSound_r12 (goodIn_app cbs_wsL_isSound_r13 (goodIn_app cbs_wsL_isSound_r14 (goodIn_app cbs_wsL_isSound_r15 (cbs_wsL_isSound_r16)))))))))))))))) cbs_wsX70) cbs_wsX20) cbs_wsX40) cbs_wsX50) cbs_wsX00) cbs_wsX10) cbs_wsX30) cbs_wsX60)) (goodIn_sub (fun _ h => List.mem_cons_of_mem _ (List.mem_append_right _ h)) (by decide +kernel))) (goodIn_sub (fun _ h => List.mem_cons_of_mem _ (List.mem_append_left _ (List.mem_append_right _ h))) (by decide +kernel))) (goodIn_sub (fun _ h => List.mem_cons_of_mem _ (List.mem_append_left _ (List.mem_append_left _ (List.mem_append_right _ h)))) (by decide +kernel))
set_option maxRecDepth 20000 in
theorem gL_book_L_isSound : GoodIn wsL_book (va_wsS RL 169 yL_isSound wsL_isSound) := goodIn_app (goodIn_of _ (by decide +kernel)) ggL_book_L_isSound
