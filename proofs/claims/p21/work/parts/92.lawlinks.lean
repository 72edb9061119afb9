set_option maxRecDepth 20000 in
theorem ggL_book_X7_init : GoodIn wsL_book wsX7_init := goodIn_r _ [9, 10, 11, 12, 13, 14, 15, 16, 17, 18, 4, 19, 20, 21, 22, 23, 24, 25, 26, 27, 28, 29, 30, 31, 32, 33, 34, 35, 36, 37, 38, 39, 40, 41, 42, 43, 44, 45, 46, 47, 48, 49, 50, 51, 52, 53, 54, 55, 56, 57, 58, 59, 60, 61, 62, 63, 64, 65, 66, 67, 68, 69, 543, 544, 545, 533, 534, 535, 536, 537, 538, 539, 540, 541, 542, 546, 547, 548, 549, 550, 551, 552, 553, 554, 555, 556, 557] (by decide +kernel) (by decide +kernel)
set_option maxRecDepth 20000 in
theorem gL_book_X7_init : GoodIn wsL_book (wsX7_init) := ggL_book_X7_init
set_option maxRecDepth 20000 in
theorem ggL_book_L_draw : GoodIn wsL_book wsL_draw := goodIn_r _ [73, 74, 75, 76] (by decide +kernel) (by decide +kernel)
set_option maxRecDepth 20000 in
theorem gL_book_L_draw : GoodIn wsL_book (va_wsS RL 144 yL_draw wsL_draw) := goodIn_app (goodIn_of _ (by decide +kernel)) ggL_book_L_draw
set_option maxRecDepth 20000 in
theorem ggL_book_X7_lamp : GoodIn wsL_book wsX7_lamp := goodIn_ca (goodIn_ca (goodIn_r _ [80, 81, 82, 83, 84, 16, 85, 86, 87, 88, 89, 3, 90, 91, 92, 93, 94, 95, 96, 97, 98, 99, 15, 100, 101, 38, 102, 103, 104, 105, 11, 12, 106, 107, 108, 109, 110, 111, 112, 113, 114, 115, 116, 117, 118, 18, 119, 120, 121, 122, 123, 124, 125, 126, 127, 41, 42, 43, 128, 129, 130, 131, 132, 133, 134, 135, 136, 39, 137, 138, 139, 140, 141, 142, 143, 144, 145, 146, 147, 148, 149, 150, 151, 152, 153, 154, 155, 533, 534, 535, 536, 537, 538, 539, 540, 541, 542, 558, 559, 560, 561, 562, 563, 543, 544, 545, 564, 565, 566, 567, 568, 569, 570, 571, 572] (by decide +kernel) (by decide +kernel)) (goodIn_sub (fun _ h => List.mem_cons_of_mem _ (List.mem_append_left _ (List.mem_append_left _ (List.mem_append_right _ h)))) (by decide +kernel))) (goodIn_sub (fun _ h => List.mem_cons_of_mem _ (List.mem_append_left _ (List.mem_append_right _ h))) (by decide +kernel))
set_option maxRecDepth 20000 in
theorem gL_book_X7_lamp : GoodIn wsL_book (wsV RL 148 RX7 yX7_lamp wsX7_lamp) := goodIn_app (goodIn_of _ (by decide +kernel)) ggL_book_X7_lamp
set_option maxRecDepth 20000 in
theorem ggL_book_X7_cue : GoodIn wsL_book wsX7_cue := goodIn_ca (goodIn_ca (goodIn_r _ [159, 81, 82, 83, 84, 160, 18, 17, 161, 122, 88, 89, 3, 90, 162, 163, 164, 165, 11, 12, 166, 167, 168, 169, 4, 126, 124, 125, 127, 41, 42, 43, 533, 534, 535, 536, 537, 538, 539, 540, 541, 542, 564, 565, 566, 567, 568, 569, 570, 571, 572] (by decide +kernel) (by decide +kernel)) (goodIn_sub (fun _ h => List.mem_cons_of_mem _ (List.mem_append_left _ (List.mem_append_left _ (List.mem_append_right _ h)))) (by decide +kernel))) (goodIn_sub (fun _ h => List.mem_cons_of_mem _ (List.mem_append_left _ (List.mem_append_right _ h))) (by decide +kernel))
set_option maxRecDepth 20000 in
theorem gL_book_X7_cue : GoodIn wsL_book (wsV RL 152 RX7 yX7_cue wsX7_cue) := goodIn_app (goodIn_of _ (by decide +kernel)) ggL_book_X7_cue
set_option maxRecDepth 20000 in
theorem ggL_book_X7_level : GoodIn wsL_book wsX7_level := goodIn_ca (goodIn_ca (goodIn_r _ [173, 174, 175, 81, 82, 16, 176, 177, 178, 3, 179, 18, 180, 129, 130, 15, 131, 38, 88, 89, 90, 181, 182, 183, 122, 184, 126, 119, 120, 121, 123, 124, 125, 127, 41, 42, 43, 128, 132, 133, 134, 135, 136, 39, 137, 138, 139, 140, 141, 142, 143, 144, 145, 146, 147, 148, 149, 150, 87, 151, 106, 152, 153, 154, 155, 107, 533, 534, 535, 536, 537, 538, 539, 540, 541, 542, 543, 544, 545, 564, 565, 566, 567, 568, 569, 570, 571, 572, 558, 559, 560, 561, 562, 563] (by decide +kernel) (by decide +kernel)) (goodIn_sub (fun _ h => List.mem_cons_of_mem _ (List.mem_append_right _ h)) (by decide +kernel))) (goodIn_sub (fun _ h => List.mem_cons_of_mem _ (List.mem_append_left _ (List.mem_append_left _ (List.mem_append_right _ h)))) (by decide +kernel))
set_option maxRecDepth 20000 in
theorem gL_book_X7_level : GoodIn wsL_book (wsV RL 27 RX7 yX7_level wsX7_level) := goodIn_app (goodIn_of _ (by decide +kernel)) ggL_book_X7_level
