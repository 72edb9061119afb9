set_option maxRecDepth 20000 in
theorem clb_wsL_book_r11 : GoodIn wsL_law wsL_book_r11 := goodIn_r _ [243, 244, 245, 246, 247, 248, 249, 250, 251, 252, 253, 254, 255, 256, 257, 258, 259, 260, 261, 262, 263, 264, 265, 266] rfl (by decide +kernel)
set_option maxRecDepth 20000 in
theorem clb_wsL_book_r12 : GoodIn wsL_law wsL_book_r12 := goodIn_r _ [267, 268, 269, 270, 271, 272, 273, 274, 275, 276, 277, 278, 279, 280, 281, 282, 283, 284, 285, 286, 287, 288, 289, 290] rfl (by decide +kernel)
set_option maxRecDepth 20000 in
theorem clb_wsL_book_r13 : GoodIn wsL_law wsL_book_r13 := goodIn_r _ [291, 292, 293, 294, 295, 296, 297, 298, 299, 300, 301, 302, 303, 304, 305, 306, 307, 308, 309, 310, 311, 312, 313, 314] rfl (by decide +kernel)
set_option maxRecDepth 20000 in
theorem clb_wsL_book_r14 : GoodIn wsL_law wsL_book_r14 := goodIn_r _ [315, 316, 317, 318, 319, 320, 321, 322, 323, 324, 325, 326, 327, 328, 329, 330, 331, 332, 333, 334, 335, 336, 337, 338] rfl (by decide +kernel)
set_option maxRecDepth 20000 in
theorem clb_wsL_book_r15 : GoodIn wsL_law wsL_book_r15 := goodIn_r _ [339, 340, 341, 342, 343, 344, 345, 346, 347, 348, 349, 350, 351, 352, 353, 354, 355, 356, 357, 358, 359, 360, 361, 362] rfl (by decide +kernel)
set_option maxRecDepth 20000 in
theorem clb_wsL_book_r16 : GoodIn wsL_law wsL_book_r16 := goodIn_r _ [363, 364, 365, 366, 367, 368, 369, 370, 371, 372, 373, 374, 375, 376, 377, 378, 379, 380, 381, 382, 383, 384, 385, 386] rfl (by decide +kernel)
set_option maxRecDepth 20000 in
theorem clb_wsL_book_r17 : GoodIn wsL_law wsL_book_r17 := goodIn_r _ [387, 388, 389, 390, 391, 392, 393, 394, 395, 396, 397, 398, 399, 400, 401, 402, 403, 404, 405, 406, 407, 408, 409, 410] rfl (by decide +kernel)
set_option maxRecDepth 20000 in
theorem clb_wsL_book_r18 : GoodIn wsL_law wsL_book_r18 := goodIn_r _ [411, 412, 413, 414, 415, 416, 417, 418, 419, 420, 421, 422, 423, 424, 425, 426, 427, 428, 429, 430, 431, 432, 433, 434] rfl (by decide +kernel)
set_option maxRecDepth 20000 in
theorem clb_wsL_book_r19 : GoodIn wsL_law wsL_book_r19 := goodIn_r _ [435, 436, 437, 438, 439, 440, 441, 442, 443, 444, 445, 446, 447, 448, 449, 450, 451, 452, 453, 454, 455, 456, 457, 458] rfl (by decide +kernel)
set_option maxRecDepth 20000 in
theorem clb_wsL_book_r20 : GoodIn wsL_law wsL_book_r20 := goodIn_r _ [459, 460, 461, 462, 463, 464, 465, 466, 467, 468, 469, 470, 471, 472, 473, 474, 475, 476, 477, 478, 479, 480, 481, 482] rfl (by decide +kernel)
set_option maxRecDepth 20000 in
theorem clb_wsL_book_r21 : GoodIn wsL_law wsL_book_r21 := goodIn_r _ [483, 484, 485, 486, 487, 488, 489, 490, 491, 492, 493, 494, 495, 496, 497, 498, 499, 500, 501, 502, 503, 504, 505, 506] rfl (by decide +kernel)
