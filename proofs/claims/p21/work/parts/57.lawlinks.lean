set_option maxRecDepth 20000 in
theorem ggL_asks_X7_go : GoodIn wsL_asks wsX7_go := goodIn_ca (goodIn_ca (goodIn_r _ [11, 12, 13, 14, 15, 16, 17, 18, 19, 20, 10, 21, 22, 23, 24, 25, 26, 27, 28, 29, 30, 31, 32, 33, 34, 35, 36, 37, 38, 39, 40, 41, 42, 43, 44, 45, 46, 47, 48, 49, 50, 51, 52, 53, 54, 55, 56, 57, 58, 59, 60, 61, 62, 63, 64, 65, 66, 67, 68, 69, 70, 71, 72, 73, 74, 75, 76, 77, 78, 79, 80, 81, 82, 83, 84, 85, 86, 87, 88, 89, 90, 91, 92, 93, 94, 95, 96, 97, 98, 99, 100, 101, 102, 103, 104, 105, 106, 107, 108, 109, 110, 111, 112, 113, 114, 115, 116, 117, 118, 119, 120, 121, 122, 123, 124, 125, 126, 127, 128, 129, 130, 131, 132, 133, 134, 135, 136, 137, 138, 139, 140, 141, 142, 143, 144, 145, 146, 147, 148, 149, 150, 151, 152, 153, 154, 155, 156, 157, 158, 159, 269, 270, 271, 272, 273, 274, 275, 276, 277, 278, 279, 280, 281, 282, 283, 284, 285, 286, 287, 288, 289, 290, 291, 292, 293, 294, 295, 296, 297, 298, 299, 300, 301, 302, 303, 304, 305, 306, 307, 308] (by decide +kernel) (by decide +kernel)) (goodIn_sub (fun _ h => List.mem_cons_of_mem _ (List.mem_append_left _ (List.mem_append_left _ (List.mem_append_right _ h)))) (by decide +kernel))) (goodIn_sub (fun _ h => List.mem_cons_of_mem _ (List.mem_append_left _ (List.mem_append_right _ h))) (by decide +kernel))
set_option maxRecDepth 20000 in
theorem gL_asks_X7_go : GoodIn wsL_asks (wsV RL 10 RX7 yX7_go wsX7_go) := goodIn_app (goodIn_of _ (by decide +kernel)) ggL_asks_X7_go
set_option maxRecDepth 20000 in
theorem ggL_asks_X7_release : GoodIn wsL_asks wsX7_release := goodIn_ca (goodIn_ca (goodIn_r _ [163, 12, 13, 14, 15, 16, 79, 80, 81, 18, 19, 20, 10, 21, 22, 164, 165, 166, 54, 167, 89, 90, 91, 92, 56, 93, 58, 59, 60, 61, 62, 168, 64, 65, 66, 67, 68, 169, 170, 171, 172, 173, 174, 175, 106, 176, 108, 109, 110, 128, 129, 130, 131, 115, 120, 132, 133, 134, 37, 135, 136, 137, 138, 139, 140, 141, 142, 143, 144, 145, 146, 147, 148, 149, 150, 151, 177, 178, 179, 180, 181, 182, 183, 184, 73, 185, 186, 94, 95, 96, 97, 269, 270, 271, 272, 273, 274, 275, 276, 277, 278, 290, 291, 292, 293, 294, 295, 296, 297, 298, 279, 280, 299, 300, 301, 302, 303] (by decide +kernel) (by decide +kernel)) (goodIn_sub (fun _ h => List.mem_cons_of_mem _ (List.mem_append_left _ (List.mem_append_left _ (List.mem_append_right _ h)))) (by decide +kernel))) (goodIn_sub (fun _ h => List.mem_cons_of_mem _ (List.mem_append_left _ (List.mem_append_right _ h))) (by decide +kernel))
set_option maxRecDepth 20000 in
theorem gL_asks_X7_release : GoodIn wsL_asks (wsV RL 16 RX7 yX7_release wsX7_release) := goodIn_app (goodIn_of _ (by decide +kernel)) ggL_asks_X7_release
set_option maxRecDepth 20000 in
theorem ggL_asks_X7_playing : GoodIn wsL_asks wsX7_playing := goodIn_ca (goodIn_ca (goodIn_r _ [190, 12, 13, 191, 192, 16, 193, 79, 18, 19, 20, 10, 21, 22, 194, 195, 196, 164, 165, 166, 54, 167, 89, 90, 91, 92, 56, 93, 58, 59, 60, 61, 62, 168, 64, 65, 66, 67, 68, 197, 198, 199, 200, 73, 102, 185, 186, 201, 202, 203, 48, 204, 205, 206, 207, 208, 209, 269, 270, 271, 272, 273, 274, 275, 276, 277, 278, 299, 300, 301, 279, 280, 290, 291, 292, 293, 294, 295, 296, 297, 298] (by decide +kernel) (by decide +kernel)) (goodIn_sub (fun _ h => List.mem_cons_of_mem _ (List.mem_append_left _ (List.mem_append_left _ (List.mem_append_right _ h)))) (by decide +kernel))) (goodIn_sub (fun _ h => List.mem_cons_of_mem _ (List.mem_append_right _ h)) (by decide +kernel))
set_option maxRecDepth 20000 in
theorem gL_asks_X7_playing : GoodIn wsL_asks (wsV RL 20 RX7 yX7_playing wsX7_playing) := goodIn_app (goodIn_of _ (by decide +kernel)) ggL_asks_X7_playing
set_option maxRecDepth 20000 in
theorem ggL_asks_X7_levelOf : GoodIn wsL_asks wsX7_levelOf := goodIn_ca (goodIn_r _ [213, 12, 13, 32, 16, 79, 39, 40, 41, 42, 43, 44, 214, 215, 216, 54, 217, 56, 58, 59, 60, 61, 62, 218, 219, 220, 66, 221, 73, 222, 69, 70, 71, 72, 74, 46, 47, 48, 49, 50, 223, 198, 199, 200, 102, 185, 68, 186, 64, 65, 67, 201, 202, 203, 204, 205, 206, 207, 10, 208, 209, 269, 270, 271, 272, 273, 274, 275, 276, 277, 278, 287, 288, 289, 279, 280, 299, 300, 301, 290, 291, 292, 293, 294, 295, 296, 297, 298] (by decide +kernel) (by decide +kernel)) (goodIn_sub (fun _ h => List.mem_cons_of_mem _ (List.mem_append_left _ (List.mem_append_left _ (List.mem_append_right _ h)))) (by decide +kernel))
set_option maxRecDepth 20000 in
theorem gL_asks_X7_levelOf : GoodIn wsL_asks (wsV RL 24 RX7 yX7_levelOf wsX7_levelOf) := goodIn_app (goodIn_of _ (by decide +kernel)) ggL_asks_X7_levelOf
set_option maxRecDepth 20000 in
theorem ggL_asks_X7_level : GoodIn wsL_asks wsX7_level := goodIn_ca (goodIn_ca (goodIn_r _ [227, 12, 13, 191, 192, 32, 18, 19, 20, 10, 21, 22, 39, 40, 41, 42, 43, 44, 194, 195, 196, 228, 229, 230, 48, 231, 232, 233, 234, 235, 236, 237, 50, 238, 239, 138, 240, 241, 242, 243, 244, 245, 246, 247, 248, 249, 250, 251, 252, 253, 254, 255, 256, 257, 258, 259, 260, 261, 262, 263, 264, 265, 266, 37, 267, 268, 269, 270, 271, 272, 273, 274, 275, 276, 277, 278, 287, 288, 289, 290, 291, 292, 293, 294, 295, 296, 297, 298, 281, 282, 283, 284, 285, 286] (by decide +kernel) (by decide +kernel)) (goodIn_sub (fun _ h => List.mem_cons_of_mem _ (List.mem_append_left _ (List.mem_append_left _ (List.mem_append_right _ h)))) (by decide +kernel))) (goodIn_sub (fun _ h => List.mem_cons_of_mem _ (List.mem_append_right _ h)) (by decide +kernel))
set_option maxRecDepth 20000 in
theorem gL_asks_X7_level : GoodIn wsL_asks (wsV RL 27 RX7 yX7_level wsX7_level) := goodIn_app (goodIn_of _ (by decide +kernel)) ggL_asks_X7_level
set_option maxRecDepth 20000 in
theorem ggL_whole_L_packed : GoodIn wsL_whole wsL_packed := goodIn_r _ [4, 5, 6, 7, 8] (by decide +kernel) (by decide +kernel)
set_option maxRecDepth 20000 in
theorem gL_whole_L_packed : GoodIn wsL_whole (va_wsS RL 49 yL_packed wsL_packed) := goodIn_app (goodIn_of _ (by decide +kernel)) ggL_whole_L_packed
set_option maxRecDepth 20000 in
theorem ggL_times_L_steps : GoodIn wsL_times wsL_steps := goodIn_r _ [4, 5, 6] (by decide +kernel) (by decide +kernel)
set_option maxRecDepth 20000 in
theorem gL_times_L_steps : GoodIn wsL_times (va_wsS RL 55 yL_steps wsL_steps) := goodIn_app (goodIn_of _ (by decide +kernel)) ggL_times_L_steps
set_option maxRecDepth 20000 in
theorem ggL_times_L_power : GoodIn wsL_times wsL_power := goodIn_r _ [9] (by decide +kernel) (by decide +kernel)
set_option maxRecDepth 20000 in
theorem gL_times_L_power : GoodIn wsL_times (va_wsS RL 59 yL_power wsL_power) := goodIn_app (goodIn_of _ (by decide +kernel)) ggL_times_L_power
set_option maxRecDepth 20000 in
theorem ggL_times_L_packed : GoodIn wsL_times wsL_packed := goodIn_r _ [12, 13, 14, 15, 16] (by decide +kernel) (by decide +kernel)
set_option maxRecDepth 20000 in
theorem gL_times_L_packed : GoodIn wsL_times (va_wsS RL 49 yL_packed wsL_packed) := goodIn_app (goodIn_of _ (by decide +kernel)) ggL_times_L_packed
set_option maxRecDepth 20000 in
theorem ggL_over_L_steps : GoodIn wsL_over wsL_steps := goodIn_r _ [5, 6, 7] (by decide +kernel) (by decide +kernel)
set_option maxRecDepth 20000 in
theorem gL_over_L_steps : GoodIn wsL_over (va_wsS RL 55 yL_steps wsL_steps) := goodIn_app (goodIn_of _ (by decide +kernel)) ggL_over_L_steps
set_option maxRecDepth 20000 in
theorem ggL_over_L_power : GoodIn wsL_over wsL_power := goodIn_r _ [10] (by decide +kernel) (by decide +kernel)
set_option maxRecDepth 20000 in
theorem gL_over_L_power : GoodIn wsL_over (va_wsS RL 59 yL_power wsL_power) := goodIn_app (goodIn_of _ (by decide +kernel)) ggL_over_L_power
set_option maxRecDepth 20000 in
theorem ggL_over_L_packed : GoodIn wsL_over wsL_packed := goodIn_r _ [13, 14, 15, 16, 17] (by decide +kernel) (by decide +kernel)
set_option maxRecDepth 20000 in
theorem gL_over_L_packed : GoodIn wsL_over (va_wsS RL 49 yL_packed wsL_packed) := goodIn_app (goodIn_of _ (by decide +kernel)) ggL_over_L_packed
set_option maxRecDepth 20000 in
theorem ggL_plus_L_steps : GoodIn wsL_plus wsL_steps := goodIn_r _ [5, 6, 7] (by decide +kernel) (by decide +kernel)
set_option maxRecDepth 20000 in
theorem gL_plus_L_steps : GoodIn wsL_plus (va_wsS RL 55 yL_steps wsL_steps) := goodIn_app (goodIn_of _ (by decide +kernel)) ggL_plus_L_steps
set_option maxRecDepth 20000 in
theorem ggL_plus_L_power : GoodIn wsL_plus wsL_power := goodIn_r _ [10] (by decide +kernel) (by decide +kernel)
set_option maxRecDepth 20000 in
theorem gL_plus_L_power : GoodIn wsL_plus (va_wsS RL 59 yL_power wsL_power) := goodIn_app (goodIn_of _ (by decide +kernel)) ggL_plus_L_power
set_option maxRecDepth 20000 in
theorem ggL_plus_L_packed : GoodIn wsL_plus wsL_packed := goodIn_r _ [13, 14, 15, 16, 17] (by decide +kernel) (by decide +kernel)
set_option maxRecDepth 20000 in
theorem gL_plus_L_packed : GoodIn wsL_plus (va_wsS RL 49 yL_packed wsL_packed) := goodIn_app (goodIn_of _ (by decide +kernel)) ggL_plus_L_packed
set_option maxRecDepth 20000 in
theorem ggL_cast_L_power : GoodIn wsL_cast wsL_power := goodIn_r _ [4] (by decide +kernel) (by decide +kernel)
set_option maxRecDepth 20000 in
theorem gL_cast_L_power : GoodIn wsL_cast (va_wsS RL 59 yL_power wsL_power) := goodIn_app (goodIn_of _ (by decide +kernel)) ggL_cast_L_power
set_option maxRecDepth 20000 in
theorem ggL_cast_L_steps : GoodIn wsL_cast wsL_steps := goodIn_r _ [7, 8, 9] (by decide +kernel) (by decide +kernel)
set_option maxRecDepth 20000 in
theorem gL_cast_L_steps : GoodIn wsL_cast (va_wsS RL 55 yL_steps wsL_steps) := goodIn_app (goodIn_of _ (by decide +kernel)) ggL_cast_L_steps
set_option maxRecDepth 20000 in
theorem ggL_areShining_X7_shines : GoodIn wsL_areShining wsX7_shines := goodIn_ca (goodIn_r _ [5, 6, 7, 8, 9, 10, 11, 4, 12, 13, 14, 15, 16, 17, 18, 19, 20, 21, 22, 23, 24, 25, 33, 34, 35, 36, 37, 38, 39, 40, 41, 42, 43, 44, 45, 46, 47, 48, 49, 50, 51, 52, 53, 54] (by decide +kernel) (by decide +kernel)) (goodIn_sub (fun _ h => List.mem_cons_of_mem _ (List.mem_append_right _ h)) (by decide +kernel))
set_option maxRecDepth 20000 in
theorem gL_areShining_X7_shines : GoodIn wsL_areShining (wsV RL 66 RX7 yX7_shines wsX7_shines) := goodIn_app (goodIn_of _ (by decide +kernel)) ggL_areShining_X7_shines
set_option maxRecDepth 20000 in
theorem ggL_areShining_L_isUsable : GoodIn wsL_areShining wsL_isUsable := goodIn_r _ [29] (by decide +kernel) (by decide +kernel)
set_option maxRecDepth 20000 in
theorem gL_areShining_L_isUsable : GoodIn wsL_areShining (va_wsS RL 69 yL_isUsable wsL_isUsable) := goodIn_app (goodIn_of _ (by decide +kernel)) ggL_areShining_L_isUsable
set_option maxRecDepth 20000 in
theorem ggL_areShining_L_distance : GoodIn wsL_areShining wsL_distance := goodIn_r _ [32] (by decide +kernel) (by decide +kernel)
set_option maxRecDepth 20000 in
theorem gL_areShining_L_distance : GoodIn wsL_areShining (va_wsS RL 73 yL_distance wsL_distance) := goodIn_app (goodIn_of _ (by decide +kernel)) ggL_areShining_L_distance
set_option maxRecDepth 20000 in
theorem ggL_levelBy_X7_shines : GoodIn wsL_levelBy wsX7_shines := goodIn_ca (goodIn_r _ [5, 6, 7, 8, 9, 10, 11, 4, 12, 13, 14, 15, 16, 17, 18, 19, 20, 21, 22, 23, 24, 25, 26, 27, 28, 29, 30, 31, 32, 33, 34, 35, 36, 37, 38, 39, 40, 41, 42, 43, 44, 45, 46, 47] (by decide +kernel) (by decide +kernel)) (goodIn_sub (fun _ h => List.mem_cons_of_mem _ (List.mem_append_right _ h)) (by decide +kernel))
set_option maxRecDepth 20000 in
theorem gL_levelBy_X7_shines : GoodIn wsL_levelBy (wsV RL 66 RX7 yX7_shines wsX7_shines) := goodIn_app (goodIn_of _ (by decide +kernel)) ggL_levelBy_X7_shines
set_option maxRecDepth 20000 in
theorem ggL_due_L_levelBy : GoodIn wsL_due wsL_levelBy := goodIn_ca (goodIn_r _ [4, 5, 6, 7, 8, 9, 10, 11, 12, 13, 14, 15, 16, 17, 18, 19, 20, 21, 22, 23, 24, 25, 26, 27, 28, 29, 81, 82, 83, 84, 85, 86, 87, 88, 89, 90, 91, 92, 93, 94, 95, 96, 97, 98, 99, 100, 101, 102] (by decide +kernel) (by decide +kernel)) (goodIn_sub (fun _ h => List.mem_cons_of_mem _ (List.mem_append_left _ (List.mem_append_right _ h))) (by decide +kernel))
set_option maxRecDepth 20000 in
theorem gL_due_L_levelBy : GoodIn wsL_due (va_wsS RL 77 yL_levelBy wsL_levelBy) := goodIn_app (goodIn_of _ (by decide +kernel)) ggL_due_L_levelBy
set_option maxRecDepth 20000 in
theorem ggL_due_X7_playing : GoodIn wsL_due wsX7_playing := goodIn_ca (goodIn_ca (goodIn_r _ [33, 10, 11, 34, 35, 36, 37, 38, 13, 14, 15, 8, 16, 17, 39, 40, 41, 42, 43, 44, 45, 46, 47, 48, 49, 50, 51, 52, 53, 54, 55, 56, 57, 58, 59, 60, 61, 62, 63, 64, 65, 66, 67, 68, 69, 70, 71, 72, 73, 74, 27, 75, 76, 77, 78, 79, 80, 81, 82, 83, 84, 85, 86, 87, 88, 89, 90, 103, 104, 105, 106, 107, 94, 95, 96, 97, 98, 99, 100, 101, 102] (by decide +kernel) (by decide +kernel)) (goodIn_sub (fun _ h => List.mem_cons_of_mem _ (List.mem_append_left _ (List.mem_append_right _ h))) (by decide +kernel))) (goodIn_sub (fun _ h => List.mem_cons_of_mem _ (List.mem_append_right _ h)) (by decide +kernel))
set_option maxRecDepth 20000 in
theorem gL_due_X7_playing : GoodIn wsL_due (wsV RL 20 RX7 yX7_playing wsX7_playing) := goodIn_app (goodIn_of _ (by decide +kernel)) ggL_due_X7_playing
set_option maxRecDepth 20000 in
theorem ggL_areLevels_X7_levelOf : GoodIn wsL_areLevels wsX7_levelOf := goodIn_ca (goodIn_r _ [6, 7, 8, 9, 10, 11, 12, 13, 14, 15, 16, 17, 18, 19, 20, 21, 22, 23, 24, 25, 26, 27, 28, 29, 30, 31, 32, 33, 34, 35, 36, 37, 38, 39, 40, 41, 42, 43, 44, 45, 46, 47, 48, 49, 50, 51, 52, 53, 54, 55, 56, 57, 58, 59, 60, 61, 62, 63, 5, 64, 65, 214, 215, 216, 217, 218, 219, 220, 221, 222, 223, 224, 225, 226, 227, 228, 229, 230, 231, 232, 233, 234, 235, 236, 237, 238, 239, 240] (by decide +kernel) (by decide +kernel)) (goodIn_sub (fun _ h => List.mem_cons_of_mem _ (List.mem_append_left _ (List.mem_append_right _ h))) (by decide +kernel))
set_option maxRecDepth 20000 in
theorem gL_areLevels_X7_levelOf : GoodIn wsL_areLevels (wsV RL 24 RX7 yX7_levelOf wsX7_levelOf) := goodIn_app (goodIn_of _ (by decide +kernel)) ggL_areLevels_X7_levelOf
set_option maxRecDepth 20000 in
theorem ggL_areLevels_X7_playing : GoodIn wsL_areLevels wsX7_playing := goodIn_ca (goodIn_ca (goodIn_r _ [69, 7, 8, 70, 71, 10, 72, 11, 73, 74, 75, 5, 76, 77, 78, 79, 80, 81, 82, 83, 21, 84, 85, 86, 87, 88, 23, 89, 24, 25, 26, 27, 28, 90, 54, 55, 32, 56, 52, 91, 47, 48, 49, 34, 50, 51, 53, 57, 58, 59, 43, 60, 61, 62, 63, 64, 65, 214, 215, 216, 217, 218, 219, 220, 221, 222, 223, 229, 230, 231, 227, 228, 232, 233, 234, 235, 236, 237, 238, 239, 240] (by decide +kernel) (by decide +kernel)) (goodIn_sub (fun _ h => List.mem_cons_of_mem _ (List.mem_append_left _ (List.mem_append_right _ h))) (by decide +kernel))) (goodIn_sub (fun _ h => List.mem_cons_of_mem _ (List.mem_append_right _ h)) (by decide +kernel))
set_option maxRecDepth 20000 in
theorem gL_areLevels_X7_playing : GoodIn wsL_areLevels (wsV RL 20 RX7 yX7_playing wsX7_playing) := goodIn_app (goodIn_of _ (by decide +kernel)) ggL_areLevels_X7_playing
set_option maxRecDepth 20000 in
theorem ggL_areLevels_L_levelBy : GoodIn wsL_areLevels wsL_levelBy := goodIn_ca (goodIn_r _ [95, 96, 97, 98, 5, 99, 7, 8, 9, 73, 74, 75, 76, 77, 12, 13, 14, 15, 16, 17, 100, 101, 102, 43, 103, 104, 214, 215, 216, 217, 218, 219, 220, 221, 222, 223, 224, 225, 226, 232, 233, 234, 235, 236, 237, 238, 239, 240] (by decide +kernel) (by decide +kernel)) (goodIn_sub (fun _ h => List.mem_cons_of_mem _ (List.mem_append_left _ (List.mem_append_right _ h))) (by decide +kernel))
set_option maxRecDepth 20000 in
theorem gL_areLevels_L_levelBy : GoodIn wsL_areLevels (va_wsS RL 77 yL_levelBy wsL_levelBy) := goodIn_app (goodIn_of _ (by decide +kernel)) ggL_areLevels_L_levelBy
set_option maxRecDepth 20000 in
theorem ggL_areLevels_X7_levelAnew : GoodIn wsL_areLevels wsX7_levelAnew := goodIn_ca (goodIn_r _ [108, 7, 8, 9, 109, 11, 12, 13, 14, 15, 16, 17, 110, 111, 112, 5, 113, 114, 115, 116, 117, 118, 21, 119, 23, 120, 121, 122, 123, 124, 125, 126, 127, 128, 73, 74, 75, 76, 77, 129, 130, 131, 132, 133, 134, 135, 136, 137, 138, 139, 82, 83, 84, 85, 86, 87, 88, 89, 24, 25, 26, 27, 28, 140, 141, 142, 32, 143, 52, 144, 145, 146, 147, 148, 149, 150, 151, 152, 153, 154, 155, 34, 50, 156, 157, 158, 159, 160, 161, 162, 163, 51, 53, 54, 55, 56, 18, 19, 20, 22, 29, 30, 31, 33, 35, 36, 37, 38, 39, 40, 41, 42, 43, 44, 45, 46, 47, 48, 49, 57, 58, 59, 60, 61, 62, 63, 64, 65, 214, 215, 216, 217, 218, 219, 220, 221, 222, 223, 224, 225, 226, 241, 242, 227, 228, 229, 230, 231, 232, 233, 234, 235, 236, 237, 238, 239, 240] (by decide +kernel) (by decide +kernel)) (goodIn_sub (fun _ h => List.mem_cons_of_mem _ (List.mem_append_left _ (List.mem_append_right _ h))) (by decide +kernel))
set_option maxRecDepth 20000 in
theorem gL_areLevels_X7_levelAnew : GoodIn wsL_areLevels (wsV RL 81 RX7 yX7_levelAnew wsX7_levelAnew) := goodIn_app (goodIn_of _ (by decide +kernel)) ggL_areLevels_X7_levelAnew
set_option maxRecDepth 20000 in
theorem ggL_areLevels_L_whole : GoodIn wsL_areLevels wsL_whole := goodIn_r _ [166, 167, 168, 94, 169, 170, 171, 172, 173] (by decide +kernel) (by decide +kernel)
set_option maxRecDepth 20000 in
theorem gL_areLevels_L_whole : GoodIn wsL_areLevels (va_wsS RL 84 yL_whole wsL_whole) := goodIn_app (goodIn_of _ (by decide +kernel)) ggL_areLevels_L_whole
set_option maxRecDepth 20000 in
theorem ggL_areLevels_L_times : GoodIn wsL_areLevels wsL_times := goodIn_r _ [176, 177, 178, 94, 179, 180, 181, 182, 183, 184, 167, 168, 169, 170, 171, 172, 173] (by decide +kernel) (by decide +kernel)
set_option maxRecDepth 20000 in
theorem gL_areLevels_L_times : GoodIn wsL_areLevels (va_wsS RL 87 yL_times wsL_times) := goodIn_app (goodIn_of _ (by decide +kernel)) ggL_areLevels_L_times
set_option maxRecDepth 20000 in
theorem ggL_areLevels_L_over : GoodIn wsL_areLevels wsL_over := goodIn_r _ [187, 188, 177, 178, 94, 179, 180, 181, 182, 183, 184, 167, 168, 169, 170, 171, 172, 173] (by decide +kernel) (by decide +kernel)
set_option maxRecDepth 20000 in
theorem gL_areLevels_L_over : GoodIn wsL_areLevels (va_wsS RL 90 yL_over wsL_over) := goodIn_app (goodIn_of _ (by decide +kernel)) ggL_areLevels_L_over
set_option maxRecDepth 20000 in
theorem ggL_areLevels_L_plus : GoodIn wsL_areLevels wsL_plus := goodIn_r _ [191, 192, 177, 178, 94, 179, 180, 181, 182, 183, 184, 167, 168, 169, 170, 171, 172, 173] (by decide +kernel) (by decide +kernel)
set_option maxRecDepth 20000 in
theorem gL_areLevels_L_plus : GoodIn wsL_areLevels (va_wsS RL 93 yL_plus wsL_plus) := goodIn_app (goodIn_of _ (by decide +kernel)) ggL_areLevels_L_plus
set_option maxRecDepth 20000 in
theorem ggL_areLevels_X7_loadOf : GoodIn wsL_areLevels wsX7_loadOf := goodIn_ca (goodIn_r _ [196, 7, 8, 197, 198, 5, 199, 78, 79, 80, 200, 201, 202, 203, 9, 204, 205, 10, 11, 206, 12, 13, 14, 15, 16, 17, 18, 19, 20, 21, 22, 23, 24, 25, 26, 27, 28, 29, 30, 31, 32, 33, 34, 35, 36, 37, 38, 39, 40, 41, 42, 43, 44, 45, 46, 47, 48, 49, 50, 51, 52, 53, 54, 55, 56, 57, 58, 59, 60, 61, 62, 63, 64, 65, 214, 215, 216, 217, 218, 219, 220, 221, 222, 223, 243, 244, 245, 246, 247, 248, 224, 225, 226, 227, 228, 229, 230, 231, 232, 233, 234, 235, 236, 237, 238, 239, 240] (by decide +kernel) (by decide +kernel)) (goodIn_sub (fun _ h => List.mem_cons_of_mem _ (List.mem_append_left _ (List.mem_append_right _ h))) (by decide +kernel))
set_option maxRecDepth 20000 in
theorem gL_areLevels_X7_loadOf : GoodIn wsL_areLevels (wsV RL 96 RX7 yX7_loadOf wsX7_loadOf) := goodIn_app (goodIn_of _ (by decide +kernel)) ggL_areLevels_X7_loadOf
set_option maxRecDepth 20000 in
theorem ggL_areLevels_X7_watts : GoodIn wsL_areLevels wsX7_watts := goodIn_ca (goodIn_r _ [210, 7, 8, 197, 198, 5, 199, 78, 79, 80, 200, 201, 202, 203, 9, 204, 205, 10, 11, 206, 12, 13, 14, 15, 16, 17, 18, 19, 20, 21, 22, 23, 24, 25, 26, 27, 28, 29, 30, 31, 32, 33, 34, 35, 36, 37, 38, 39, 40, 41, 42, 43, 44, 45, 46, 47, 48, 49, 50, 51, 52, 53, 54, 55, 56, 57, 58, 59, 60, 61, 214, 215, 216, 217, 218, 219, 220, 221, 222, 223, 243, 244, 245, 246, 247, 248, 224, 225, 226, 227, 228, 229, 230, 231, 232, 233, 234, 235, 236, 237, 238, 239, 240] (by decide +kernel) (by decide +kernel)) (goodIn_sub (fun _ h => List.mem_cons_of_mem _ (List.mem_append_left _ (List.mem_append_right _ h))) (by decide +kernel))
set_option maxRecDepth 20000 in
theorem gL_areLevels_X7_watts : GoodIn wsL_areLevels (wsV RL 99 RX7 yX7_watts wsX7_watts) := goodIn_app (goodIn_of _ (by decide +kernel)) ggL_areLevels_X7_watts
set_option maxRecDepth 20000 in
theorem ggL_areLevels_L_cast : GoodIn wsL_areLevels wsL_cast := goodIn_r _ [213, 182, 183, 94, 184, 177, 178, 179, 180, 181] (by decide +kernel) (by decide +kernel)
set_option maxRecDepth 20000 in
theorem gL_areLevels_L_cast : GoodIn wsL_areLevels (va_wsS RL 102 yL_cast wsL_cast) := goodIn_app (goodIn_of _ (by decide +kernel)) ggL_areLevels_L_cast
