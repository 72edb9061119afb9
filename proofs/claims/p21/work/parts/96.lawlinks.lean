set_option maxRecDepth 20000 in
theorem cbs_head : GoodIn wsL_book [.code yL_isSound cL_isSound 11 (some .boolean)] := goodIn_r _ [447] (by decide +kernel) (by decide +kernel)
set_option maxRecDepth 20000 in
theorem cbs_wsL_isSound_r1 : GoodIn wsL_book wsL_isSound_r1 := goodIn_r _ [278, 189, 272, 273, 72, 274, 275, 276, 277, 279, 188, 280, 281, 282, 3, 283, 174, 175, 83, 84, 23, 284, 176, 177] (by decide +kernel) (by decide +kernel)
set_option maxRecDepth 20000 in
theorem cbs_wsL_isSound_r2 : GoodIn wsL_book wsL_isSound_r2 := goodIn_r _ [178, 179, 18, 285, 286, 287, 288, 19, 194, 195, 196, 197, 16, 198, 199, 200, 201, 154, 202, 180, 129, 130, 15, 131] (by decide +kernel) (by decide +kernel)
set_option maxRecDepth 20000 in
theorem cbs_wsL_isSound_r3 : GoodIn wsL_book wsL_isSound_r3 := goodIn_r _ [38, 203, 204, 205, 122, 206, 125, 207, 208, 209, 22, 210, 211, 212, 213, 214, 215, 216, 49, 217, 218, 219, 51, 220] (by decide +kernel) (by decide +kernel)
set_option maxRecDepth 20000 in
theorem cbs_wsL_isSound_r4 : GoodIn wsL_book wsL_isSound_r4 := goodIn_r _ [56, 221, 222, 223, 224, 225, 226, 289, 290, 291, 292, 246, 32, 293, 294, 28, 295, 296, 297, 298, 299, 251, 252, 253] (by decide +kernel) (by decide +kernel)
set_option maxRecDepth 20000 in
theorem cbs_wsL_isSound_r5 : GoodIn wsL_book wsL_isSound_r5 := goodIn_r _ [254, 255, 300, 301, 302, 303, 304, 305, 306, 307, 261, 308, 309, 310, 31, 311, 312, 313, 314, 315, 316, 317, 318, 319] (by decide +kernel) (by decide +kernel)
set_option maxRecDepth 20000 in
theorem cbs_wsL_isSound_r6 : GoodIn wsL_book wsL_isSound_r6 := goodIn_r _ [320, 321, 322, 323, 69, 324, 325, 326, 327, 328, 329, 330, 331, 332, 333, 334, 335, 336, 337, 338, 339, 340, 42, 341] (by decide +kernel) (by decide +kernel)
set_option maxRecDepth 20000 in
theorem cbs_wsL_isSound_r7 : GoodIn wsL_book wsL_isSound_r7 := goodIn_r _ [342, 343, 344, 345, 346, 347, 4, 348, 349, 350, 351, 352, 353, 354, 355, 27, 356, 357, 62, 63, 358, 359, 360, 361] (by decide +kernel) (by decide +kernel)
set_option maxRecDepth 20000 in
theorem cbs_wsL_isSound_r8 : GoodIn wsL_book wsL_isSound_r8 := goodIn_r _ [247, 248, 249, 250, 256, 362, 363, 364, 365, 366, 367, 368, 369, 370, 371, 372, 373, 374, 375, 376, 377, 262, 263, 241] (by decide +kernel) (by decide +kernel)
set_option maxRecDepth 20000 in
theorem cbs_wsL_isSound_r9 : GoodIn wsL_book wsL_isSound_r9 := goodIn_r _ [242, 243, 244, 81, 82, 245, 88, 89, 90, 257, 258, 259, 260, 264, 265, 266, 267, 168, 268, 269, 270, 271, 378, 379] (by decide +kernel) (by decide +kernel)
set_option maxRecDepth 20000 in
theorem cbs_wsL_isSound_r10 : GoodIn wsL_book wsL_isSound_r10 := goodIn_r _ [380, 381, 382, 383, 384, 385, 386, 387, 388, 389, 390, 391, 170, 171, 172, 173, 181, 182, 183, 184, 126, 119, 120, 121] (by decide +kernel) (by decide +kernel)
set_option maxRecDepth 20000 in
theorem cbs_wsL_isSound_r11 : GoodIn wsL_book wsL_isSound_r11 := goodIn_r _ [123, 124, 127, 41, 43, 128, 132, 133, 134, 135, 136, 39, 137, 138, 139, 140, 141, 142, 143, 144, 145, 146, 147, 148] (by decide +kernel) (by decide +kernel)
set_option maxRecDepth 20000 in
theorem cbs_wsL_isSound_r12 : GoodIn wsL_book wsL_isSound_r12 := goodIn_r _ [149, 150, 87, 151, 106, 152, 153, 155, 107, 448, 449, 450, 451, 407, 452, 453, 454, 233, 234, 235, 236, 237, 238, 239] (by decide +kernel) (by decide +kernel)
