set_option maxRecDepth 100000 in
theorem ggL_law_X5_init : GoodIn wsL_law wsX5_init := goodIn_r _ [8, 9, 10, 11, 12, 13, 14, 15, 16, 17, 18, 19, 20, 21, 22, 23, 24, 25, 26, 27, 28, 29, 30, 31, 32, 33, 34, 35, 36, 37, 38, 39, 40, 41, 42, 43, 44, 45, 46, 47, 48, 49, 50, 51, 52, 53, 54, 55, 56, 57, 58, 59, 60, 61, 62, 839, 840, 841, 842, 843, 826, 827, 828, 844, 845, 846, 847, 848, 849, 850, 851, 852, 853, 854, 855, 856, 857, 858] rfl (by decide +kernel)
set_option maxRecDepth 20000 in
theorem gL_law_X5_init : GoodIn wsL_law (wsX5_init) := ggL_law_X5_init
set_option maxRecDepth 100000 in
theorem ggL_law_X6_init : GoodIn wsL_law wsX6_init := goodIn_r _ [65, 66, 10, 11, 32, 67, 68, 69, 61, 70, 71, 829, 830, 831, 832, 833, 834, 835, 836, 837, 838] rfl (by decide +kernel)
set_option maxRecDepth 20000 in
theorem gL_law_X6_init : GoodIn wsL_law (wsX6_init) := ggL_law_X6_init
set_option maxRecDepth 100000 in
theorem ggL_law_X5_track : GoodIn wsL_law wsX5_track := goodIn_r _ [75, 15, 76, 19, 77, 78, 79, 80, 18, 81, 82, 83, 84, 85, 86, 57, 87, 88, 89, 90, 91, 92, 93, 94, 14, 95, 30, 31, 33, 37, 38, 96, 97, 98, 29, 99, 47, 100, 101, 2, 102, 103, 104, 45, 105, 106, 107, 108, 109, 110, 111, 112, 36, 113, 51, 114, 115, 116, 117, 118, 119, 120, 121, 122, 123, 124, 125, 126, 127, 128, 129, 130, 826, 827, 828, 839, 840, 841, 842, 843, 844, 845, 846, 855, 856, 857, 858] rfl (by decide +kernel)
set_option maxRecDepth 20000 in
theorem gL_law_X5_track : GoodIn wsL_law (wsV RL 13 RX5 yX5_track wsX5_track) := goodIn_app (goodIn_of _ (by decide +kernel)) ggL_law_X5_track
set_option maxRecDepth 100000 in
theorem ggL_law_X6_track : GoodIn wsL_law wsX6_track := goodIn_r _ [134, 67, 135, 136, 137, 5, 138, 68, 139, 140, 141, 142, 143, 144, 145, 146, 147, 148, 149, 150, 151, 152, 153, 154, 155, 69, 829, 830, 831, 832, 833, 834, 835, 836, 837, 838] rfl (by decide +kernel)
set_option maxRecDepth 20000 in
theorem gL_law_X6_track : GoodIn wsL_law (wsV RL 17 RX6 yX6_track wsX6_track) := goodIn_app (goodIn_of _ (by decide +kernel)) ggL_law_X6_track
set_option maxRecDepth 100000 in
theorem ggL_law_X5_insert : GoodIn wsL_law wsX5_insert := goodIn_r _ [159, 19, 15, 78, 79, 80, 18, 81, 82, 83, 84, 85, 86, 57, 87, 88, 89, 90, 91, 92, 93, 94, 14, 95, 30, 31, 33, 37, 38, 96, 97, 98, 29, 99, 47, 100, 101, 2, 102, 103, 104, 45, 105, 106, 107, 108, 109, 110, 111, 112, 36, 113, 51, 114, 160, 161, 162, 163, 164, 165, 166, 167, 168, 169, 170, 171, 172, 173, 174, 175, 176, 177, 178, 179, 180, 181, 182, 183, 184, 185, 186, 187, 188, 189, 190, 191, 192, 193, 194, 195, 196, 197, 198, 199, 200, 201, 202, 203, 204, 205, 206, 207, 208, 209, 210, 211, 212, 123, 124, 125, 126, 127, 128, 129, 130, 826, 827, 828, 844, 845, 846, 839, 840, 841, 842, 843, 855, 856, 857, 858] rfl (by decide +kernel)
set_option maxRecDepth 20000 in
theorem gL_law_X5_insert : GoodIn wsL_law (wsV RL 18 RX5 yX5_insert wsX5_insert) := goodIn_app (goodIn_of _ (by decide +kernel)) ggL_law_X5_insert
set_option maxRecDepth 100000 in
theorem ggL_law_X6_insert : GoodIn wsL_law wsX6_insert := goodIn_r _ [216, 135, 136, 137, 5, 138, 68, 67, 217, 218, 219, 220, 221, 222, 223, 224, 225, 226, 227, 228, 229, 230, 231, 232, 233, 234, 235, 236, 237, 238, 239, 240, 241, 242, 243, 244, 245, 246, 247, 248, 249, 250, 251, 252, 253, 254, 151, 152, 153, 154, 155, 69, 829, 830, 831, 832, 833, 834, 835, 836, 837, 838] rfl (by decide +kernel)
set_option maxRecDepth 20000 in
theorem gL_law_X6_insert : GoodIn wsL_law (wsV RL 22 RX6 yX6_insert wsX6_insert) := goodIn_app (goodIn_of _ (by decide +kernel)) ggL_law_X6_insert
set_option maxRecDepth 100000 in
theorem ggL_law_X5_remove : GoodIn wsL_law wsX5_remove := goodIn_r _ [258, 19, 15, 78, 79, 80, 18, 81, 82, 83, 84, 85, 86, 57, 87, 88, 89, 90, 91, 92, 93, 94, 14, 95, 30, 31, 33, 37, 38, 96, 97, 98, 29, 99, 47, 100, 101, 2, 102, 103, 104, 45, 105, 106, 107, 108, 109, 110, 111, 112, 36, 113, 51, 114, 259, 260, 261, 262, 263, 264, 265, 266, 167, 168, 169, 170, 171, 172, 267, 268, 269, 270, 165, 166, 271, 272, 273, 274, 275, 276, 277, 278, 119, 120, 121, 122, 279, 280, 281, 282, 205, 206, 207, 208, 209, 210, 211, 212, 283, 284, 285, 286, 287, 288, 289, 290, 291, 292, 293, 294, 295, 296, 297, 298, 197, 198, 199, 299, 300, 301, 302, 303, 193, 194, 195, 196, 200, 201, 202, 203, 204, 178, 179, 180, 123, 124, 125, 126, 127, 128, 129, 130, 826, 827, 828, 844, 845, 846, 839, 840, 841, 842, 843, 855, 856, 857, 858] rfl (by decide +kernel)
set_option maxRecDepth 20000 in
theorem gL_law_X5_remove : GoodIn wsL_law (wsV RL 23 RX5 yX5_remove wsX5_remove) := goodIn_app (goodIn_of _ (by decide +kernel)) ggL_law_X5_remove
set_option maxRecDepth 100000 in
theorem ggL_law_X6_remove : GoodIn wsL_law wsX6_remove := goodIn_r _ [307, 135, 136, 137, 5, 138, 68, 67, 308, 309, 310, 311, 221, 222, 223, 224, 225, 226, 312, 313, 314, 315, 227, 228, 229, 230, 316, 317, 318, 319, 243, 244, 245, 246, 231, 232, 233, 234, 320, 321, 322, 323, 143, 144, 145, 146, 147, 148, 149, 150, 324, 325, 326, 327, 328, 329, 330, 331, 332, 333, 334, 335, 336, 337, 338, 339, 340, 341, 342, 343, 344, 345, 346, 347, 251, 252, 253, 254, 151, 152, 153, 154, 155, 69, 829, 830, 831, 832, 833, 834, 835, 836, 837, 838] rfl (by decide +kernel)
set_option maxRecDepth 20000 in
theorem gL_law_X6_remove : GoodIn wsL_law (wsV RL 26 RX6 yX6_remove wsX6_remove) := goodIn_app (goodIn_of _ (by decide +kernel)) ggL_law_X6_remove
set_option maxRecDepth 100000 in
theorem ggL_law_X5_set : GoodIn wsL_law wsX5_set := goodIn_r _ [351, 19, 15, 78, 79, 80, 18, 81, 82, 83, 84, 85, 86, 57, 87, 88, 89, 90, 91, 92, 93, 94, 14, 95, 30, 31, 33, 37, 38, 96, 97, 98, 29, 99, 47, 100, 101, 2, 102, 103, 104, 45, 105, 106, 107, 108, 109, 110, 111, 112, 36, 113, 51, 114, 352, 353, 354, 355, 267, 268, 269, 270, 165, 166, 291, 292, 293, 294, 295, 296, 297, 298, 197, 198, 199, 119, 120, 121, 122, 356, 357, 358, 359, 360, 361, 362, 363, 364, 365, 366, 367, 368, 369, 370, 371, 372, 303, 373, 374, 375, 376, 205, 206, 207, 208, 209, 210, 211, 212, 189, 190, 191, 192, 377, 378, 379, 380, 381, 382, 201, 202, 203, 204, 178, 179, 180, 123, 124, 125, 126, 127, 128, 129, 130, 826, 827, 828, 844, 845, 846, 839, 840, 841, 842, 843, 855, 856, 857, 858] rfl (by decide +kernel)
set_option maxRecDepth 20000 in
theorem gL_law_X5_set : GoodIn wsL_law (wsV RL 27 RX5 yX5_set wsX5_set) := goodIn_app (goodIn_of _ (by decide +kernel)) ggL_law_X5_set
set_option maxRecDepth 100000 in
theorem ggL_law_X6_set : GoodIn wsL_law wsX6_set := goodIn_r _ [386, 135, 136, 137, 5, 138, 68, 67, 387, 388, 389, 390, 221, 222, 223, 224, 225, 226, 312, 313, 314, 315, 227, 228, 229, 230, 316, 317, 318, 319, 243, 244, 245, 246, 332, 333, 334, 335, 336, 337, 338, 339, 340, 341, 342, 343, 143, 144, 145, 146, 147, 148, 149, 150, 391, 392, 393, 394, 395, 396, 397, 398, 399, 400, 401, 402, 403, 404, 405, 406, 407, 408, 409, 410, 247, 248, 249, 250, 231, 232, 233, 234, 251, 252, 253, 254, 151, 152, 153, 154, 155, 69, 829, 830, 831, 832, 833, 834, 835, 836, 837, 838] rfl (by decide +kernel)
set_option maxRecDepth 20000 in
theorem gL_law_X6_set : GoodIn wsL_law (wsV RL 31 RX6 yX6_set wsX6_set) := goodIn_app (goodIn_of _ (by decide +kernel)) ggL_law_X6_set
set_option maxRecDepth 100000 in
theorem ggL_law_X5_accept : GoodIn wsL_law wsX5_accept := goodIn_r _ [414, 15, 77, 19, 415, 210, 211, 36, 212, 114, 416, 280, 281, 282, 119, 120, 121, 122, 51, 78, 79, 80, 18, 81, 82, 83, 84, 85, 86, 57, 87, 88, 89, 90, 91, 92, 93, 94, 14, 95, 30, 31, 33, 37, 38, 96, 97, 98, 29, 99, 47, 100, 101, 2, 102, 103, 104, 45, 105, 106, 107, 108, 109, 110, 111, 112, 113, 417, 418, 419, 420, 421, 422, 423, 424, 425, 279, 426, 427, 428, 429, 381, 206, 207, 208, 209, 303, 271, 272, 273, 274, 275, 276, 277, 278, 205, 169, 170, 171, 172, 283, 284, 285, 286, 287, 288, 289, 290, 189, 190, 191, 192, 123, 124, 125, 126, 127, 128, 129, 130, 826, 827, 828, 839, 840, 841, 842, 843, 857, 858, 844, 845, 846, 855, 856] rfl (by decide +kernel)
set_option maxRecDepth 20000 in
theorem gL_law_X5_accept : GoodIn wsL_law (wsV RL 32 RX5 yX5_accept wsX5_accept) := goodIn_app (goodIn_of _ (by decide +kernel)) ggL_law_X5_accept
set_option maxRecDepth 100000 in
theorem ggL_law_X6_accept : GoodIn wsL_law wsX6_accept := goodIn_r _ [433, 434, 435, 436, 5, 437, 438, 439, 440, 441, 67, 224, 225, 226, 143, 144, 145, 146, 147, 148, 149, 150, 135, 136, 137, 138, 68, 442, 443, 444, 445, 446, 447, 448, 449, 399, 400, 401, 402, 324, 325, 326, 327, 450, 451, 452, 453, 407, 408, 409, 410, 227, 228, 229, 230, 316, 317, 318, 319, 243, 244, 245, 246, 247, 248, 249, 250, 320, 321, 322, 323, 328, 329, 330, 331, 454, 455, 456, 457, 151, 152, 153, 154, 155, 69, 829, 830, 831, 832, 833, 834, 835, 836, 837, 838] rfl (by decide +kernel)
set_option maxRecDepth 20000 in
theorem gL_law_X6_accept : GoodIn wsL_law (wsV RL 36 RX6 yX6_accept wsX6_accept) := goodIn_app (goodIn_of _ (by decide +kernel)) ggL_law_X6_accept
set_option maxRecDepth 100000 in
theorem ggL_law_X5_reject : GoodIn wsL_law wsX5_reject := goodIn_r _ [461, 15, 77, 19, 415, 210, 211, 36, 212, 114, 416, 280, 281, 282, 119, 120, 121, 122, 51, 78, 79, 80, 18, 81, 82, 83, 84, 85, 86, 57, 87, 88, 89, 90, 91, 92, 93, 94, 14, 95, 30, 31, 33, 37, 38, 96, 97, 98, 29, 99, 47, 100, 101, 2, 102, 103, 104, 45, 105, 106, 107, 108, 109, 110, 111, 112, 113, 462, 463, 464, 465, 421, 422, 423, 424, 425, 279, 381, 206, 207, 208, 209, 303, 271, 272, 273, 274, 275, 276, 277, 278, 205, 169, 170, 171, 172, 283, 284, 285, 286, 287, 288, 289, 290, 123, 124, 125, 126, 127, 128, 129, 130, 826, 827, 828, 839, 840, 841, 842, 843, 857, 858, 844, 845, 846, 855, 856] rfl (by decide +kernel)
set_option maxRecDepth 20000 in
theorem gL_law_X5_reject : GoodIn wsL_law (wsV RL 37 RX5 yX5_reject wsX5_reject) := goodIn_app (goodIn_of _ (by decide +kernel)) ggL_law_X5_reject
set_option maxRecDepth 100000 in
theorem ggL_law_X6_reject : GoodIn wsL_law wsX6_reject := goodIn_r _ [469, 434, 435, 436, 5, 437, 438, 439, 440, 441, 67, 224, 225, 226, 143, 144, 145, 146, 147, 148, 149, 150, 135, 136, 137, 138, 68, 442, 443, 444, 445, 446, 447, 448, 449, 399, 400, 401, 402, 324, 325, 326, 327, 450, 451, 452, 453, 407, 408, 409, 410, 227, 228, 229, 230, 316, 317, 318, 319, 243, 244, 245, 246, 247, 248, 249, 250, 320, 321, 322, 323, 328, 329, 330, 331, 454, 455, 456, 457, 151, 152, 153, 154, 155, 69, 829, 830, 831, 832, 833, 834, 835, 836, 837, 838] rfl (by decide +kernel)
set_option maxRecDepth 20000 in
theorem gL_law_X6_reject : GoodIn wsL_law (wsV RL 40 RX6 yX6_reject wsX6_reject) := goodIn_app (goodIn_of _ (by decide +kernel)) ggL_law_X6_reject
set_option maxRecDepth 100000 in
theorem ggL_law_X5_settle : GoodIn wsL_law wsX5_settle := goodIn_r _ [473, 15, 77, 19, 474, 165, 2, 166, 115, 116, 117, 36, 118, 114, 119, 120, 121, 122, 51, 78, 79, 80, 18, 81, 82, 83, 84, 85, 86, 57, 87, 88, 89, 90, 91, 92, 93, 94, 14, 95, 30, 31, 33, 37, 38, 96, 97, 98, 29, 99, 47, 100, 101, 102, 103, 104, 45, 105, 106, 107, 108, 109, 110, 111, 112, 113, 475, 476, 477, 478, 421, 303, 479, 280, 281, 282, 480, 418, 419, 420, 422, 423, 424, 425, 279, 426, 427, 428, 429, 381, 206, 207, 208, 209, 210, 211, 212, 271, 272, 273, 274, 275, 276, 277, 278, 205, 169, 170, 171, 172, 283, 284, 285, 286, 287, 288, 289, 290, 189, 190, 191, 192, 481, 463, 464, 465, 123, 124, 125, 126, 127, 128, 129, 130, 826, 827, 828, 839, 840, 841, 842, 843, 857, 858, 844, 845, 846, 855, 856] rfl (by decide +kernel)
set_option maxRecDepth 20000 in
theorem gL_law_X5_settle : GoodIn wsL_law (wsV RL 41 RX5 yX5_settle wsX5_settle) := goodIn_app (goodIn_of _ (by decide +kernel)) ggL_law_X5_settle
set_option maxRecDepth 100000 in
theorem ggL_law_X6_settle : GoodIn wsL_law wsX6_settle := goodIn_r _ [485, 221, 222, 5, 223, 224, 225, 226, 486, 487, 488, 489, 67, 143, 144, 145, 146, 147, 148, 149, 150, 135, 136, 137, 138, 68, 442, 443, 444, 445, 446, 447, 448, 449, 399, 400, 401, 402, 324, 325, 326, 327, 450, 451, 452, 453, 407, 408, 409, 410, 227, 228, 229, 230, 316, 317, 318, 319, 243, 244, 245, 246, 247, 248, 249, 250, 320, 321, 322, 323, 328, 329, 330, 331, 454, 455, 456, 457, 151, 152, 153, 154, 155, 69, 829, 830, 831, 832, 833, 834, 835, 836, 837, 838] rfl (by decide +kernel)
set_option maxRecDepth 20000 in
theorem gL_law_X6_settle : GoodIn wsL_law (wsV RL 45 RX6 yX6_settle wsX6_settle) := goodIn_app (goodIn_of _ (by decide +kernel)) ggL_law_X6_settle
set_option maxRecDepth 100000 in
theorem ggL_law_X5_type : GoodIn wsL_law wsX5_type := goodIn_r _ [493, 23, 494, 495, 496, 22, 497, 498, 62, 826, 827, 828, 847, 848, 849, 850, 851, 852, 853, 854] rfl (by decide +kernel)
set_option maxRecDepth 20000 in
theorem gL_law_X5_type : GoodIn wsL_law (wsV RL 46 RX5 yX5_type wsX5_type) := goodIn_app (goodIn_of _ (by decide +kernel)) ggL_law_X5_type
set_option maxRecDepth 100000 in
theorem ggL_law_X6_type : GoodIn wsL_law wsX6_type := goodIn_r _ [502, 503, 70, 829, 830, 831, 832, 833, 834, 835, 836, 837, 838] rfl (by decide +kernel)
set_option maxRecDepth 20000 in
theorem gL_law_X6_type : GoodIn wsL_law (wsV RL 50 RX6 yX6_type wsX6_type) := goodIn_app (goodIn_of _ (by decide +kernel)) ggL_law_X6_type
set_option maxRecDepth 100000 in
theorem ggL_law_X5_clearText : GoodIn wsL_law wsX5_clearText := goodIn_r _ [507, 23, 508, 826, 827, 828, 847, 848, 849, 850, 851, 852, 853, 854] rfl (by decide +kernel)
set_option maxRecDepth 20000 in
theorem gL_law_X5_clearText : GoodIn wsL_law (wsV RL 51 RX5 yX5_clearText wsX5_clearText) := goodIn_app (goodIn_of _ (by decide +kernel)) ggL_law_X5_clearText
set_option maxRecDepth 100000 in
theorem ggL_law_X6_clearText : GoodIn wsL_law wsX6_clearText := goodIn_r _ [512, 503, 829, 830, 831, 832, 833, 834, 835, 836, 837, 838] rfl (by decide +kernel)
set_option maxRecDepth 20000 in
theorem gL_law_X6_clearText : GoodIn wsL_law (wsV RL 55 RX6 yX6_clearText wsX6_clearText) := goodIn_app (goodIn_of _ (by decide +kernel)) ggL_law_X6_clearText
set_option maxRecDepth 100000 in
theorem ggL_law_X5_run : GoodIn wsL_law wsX5_run := goodIn_r _ [516, 23, 19, 15, 474, 165, 2, 166, 517, 518, 519, 22, 520, 521, 498, 522, 523, 524, 525, 526, 527, 528, 529, 530, 531, 532, 533, 534, 535, 536, 537, 538, 62, 539, 540, 541, 542, 543, 544, 545, 546, 547, 548, 549, 550, 551, 552, 553, 554, 555, 556, 557, 558, 559, 560, 561, 562, 563, 564, 565, 78, 79, 80, 18, 81, 82, 83, 84, 85, 86, 57, 87, 88, 89, 90, 91, 92, 93, 94, 14, 95, 30, 31, 33, 37, 38, 96, 97, 98, 29, 99, 47, 100, 101, 102, 103, 104, 45, 105, 106, 107, 108, 109, 110, 111, 112, 36, 113, 51, 114, 566, 567, 568, 569, 570, 571, 572, 573, 574, 575, 576, 577, 578, 579, 580, 160, 161, 162, 163, 164, 167, 168, 169, 170, 171, 172, 173, 174, 175, 176, 177, 178, 179, 180, 181, 182, 183, 184, 185, 186, 187, 188, 189, 190, 191, 192, 193, 194, 195, 196, 197, 198, 199, 200, 201, 202, 203, 204, 205, 206, 207, 208, 209, 210, 211, 212, 259, 260, 261, 262, 263, 264, 265, 266, 267, 268, 269, 270, 271, 272, 273, 274, 275, 276, 277, 278, 119, 120, 121, 122, 279, 280, 281, 282, 283, 284, 285, 286, 287, 288, 289, 290, 291, 292, 293, 294, 295, 296, 297, 298, 299, 300, 301, 302, 303, 352, 353, 354, 355, 356, 357, 358, 359, 360, 361, 362, 363, 364, 365, 366, 367, 368, 369, 370, 371, 372, 373, 374, 375, 376, 377, 378, 379, 380, 381, 382, 123, 124, 125, 126, 127, 128, 129, 130, 826, 827, 828, 847, 848, 849, 850, 851, 852, 853, 854, 844, 845, 846, 839, 840, 841, 842, 843, 855, 856, 857, 858] rfl (by decide +kernel)
set_option maxRecDepth 20000 in
theorem gL_law_X5_run : GoodIn wsL_law (wsV RL 56 RX5 yX5_run wsX5_run) := goodIn_app (goodIn_of _ (by decide +kernel)) ggL_law_X5_run
set_option maxRecDepth 100000 in
theorem ggL_law_X6_run : GoodIn wsL_law wsX6_run := goodIn_r _ [584, 585, 586, 587, 503, 221, 222, 5, 223, 224, 225, 226, 588, 589, 590, 591, 71, 592, 593, 594, 595, 596, 597, 598, 599, 70, 600, 601, 602, 603, 135, 136, 137, 138, 68, 67, 604, 605, 606, 607, 387, 388, 389, 390, 312, 313, 314, 315, 227, 228, 229, 230, 316, 317, 318, 319, 243, 244, 245, 246, 332, 333, 334, 335, 336, 337, 338, 339, 340, 341, 342, 343, 143, 144, 145, 146, 147, 148, 149, 150, 391, 392, 393, 394, 395, 396, 397, 398, 399, 400, 401, 402, 403, 404, 405, 406, 407, 408, 409, 410, 247, 248, 249, 250, 231, 232, 233, 234, 251, 252, 253, 254, 217, 218, 219, 220, 235, 236, 237, 238, 239, 240, 241, 242, 308, 309, 310, 311, 320, 321, 322, 323, 324, 325, 326, 327, 328, 329, 330, 331, 344, 345, 346, 347, 151, 152, 153, 154, 155, 69, 829, 830, 831, 832, 833, 834, 835, 836, 837, 838] rfl (by decide +kernel)
set_option maxRecDepth 20000 in
theorem gL_law_X6_run : GoodIn wsL_law (wsV RL 59 RX6 yX6_run wsX6_run) := goodIn_app (goodIn_of _ (by decide +kernel)) ggL_law_X6_run
set_option maxRecDepth 100000 in
theorem ggL_law_X5_undo : GoodIn wsL_law wsX5_undo := goodIn_r _ [611, 19, 15, 612, 613, 614, 18, 615, 82, 83, 84, 85, 86, 57, 87, 88, 89, 90, 91, 92, 93, 94, 14, 95, 30, 31, 33, 37, 38, 96, 97, 98, 29, 99, 47, 100, 101, 2, 102, 103, 104, 45, 105, 106, 107, 108, 109, 110, 111, 112, 36, 113, 51, 114, 826, 827, 828, 844, 845, 846, 839, 840, 841, 842, 843, 855, 856, 857, 858] rfl (by decide +kernel)
set_option maxRecDepth 20000 in
theorem gL_law_X5_undo : GoodIn wsL_law (wsV RL 60 RX5 yX5_undo wsX5_undo) := goodIn_app (goodIn_of _ (by decide +kernel)) ggL_law_X5_undo
set_option maxRecDepth 100000 in
theorem ggL_law_X6_undo : GoodIn wsL_law wsX6_undo := goodIn_r _ [619, 155, 67, 69, 829, 830, 831, 832, 833, 834, 835, 836, 837, 838] rfl (by decide +kernel)
set_option maxRecDepth 20000 in
theorem gL_law_X6_undo : GoodIn wsL_law (wsV RL 63 RX6 yX6_undo wsX6_undo) := goodIn_app (goodIn_of _ (by decide +kernel)) ggL_law_X6_undo
set_option maxRecDepth 100000 in
theorem ggL_law_X5_size : GoodIn wsL_law wsX5_size := goodIn_r _ [623, 15, 624, 625, 2, 626, 627, 167, 168, 628, 629, 630, 14, 631, 164, 169, 170, 171, 172, 30, 31, 267, 268, 269, 29, 270, 100, 47, 632, 633, 634, 635, 37, 291, 292, 293, 36, 294, 295, 296, 297, 298, 114, 197, 198, 199, 119, 120, 121, 122, 51, 299, 300, 301, 302, 826, 827, 828, 855, 856, 839, 840, 841, 842, 843, 857, 858] rfl (by decide +kernel)
set_option maxRecDepth 20000 in
theorem gL_law_X5_size : GoodIn wsL_law (wsV RL 64 RX5 yX5_size wsX5_size) := goodIn_app (goodIn_of _ (by decide +kernel)) ggL_law_X5_size
set_option maxRecDepth 100000 in
theorem ggL_law_X6_size : GoodIn wsL_law wsX6_size := goodIn_r _ [639, 224, 225, 5, 226, 640, 641, 642, 643, 227, 228, 229, 230, 67, 644, 645, 646, 647, 332, 333, 334, 335, 336, 337, 338, 339, 316, 317, 318, 319, 243, 244, 245, 246, 340, 341, 342, 343, 143, 144, 145, 146, 147, 148, 149, 150, 648, 649, 650, 651, 344, 345, 346, 347, 829, 830, 831, 832, 833, 834, 835, 836, 837, 838] rfl (by decide +kernel)
set_option maxRecDepth 20000 in
theorem gL_law_X6_size : GoodIn wsL_law (wsV RL 68 RX6 yX6_size wsX6_size) := goodIn_app (goodIn_of _ (by decide +kernel)) ggL_law_X6_size
set_option maxRecDepth 100000 in
theorem ggL_law_X5_cell : GoodIn wsL_law wsX5_cell := goodIn_r _ [655, 15, 656, 657, 658, 14, 659, 164, 169, 170, 171, 172, 30, 31, 267, 268, 269, 29, 270, 100, 47, 632, 633, 634, 635, 37, 291, 292, 293, 36, 294, 295, 296, 297, 298, 114, 197, 198, 199, 119, 120, 121, 122, 51, 299, 300, 301, 302, 660, 661, 662, 663, 369, 370, 371, 372, 33, 356, 357, 358, 359, 360, 361, 362, 363, 364, 104, 45, 105, 365, 366, 367, 368, 303, 826, 827, 828, 855, 856, 839, 840, 841, 842, 843, 857, 858] rfl (by decide +kernel)
set_option maxRecDepth 20000 in
theorem gL_law_X5_cell : GoodIn wsL_law (wsV RL 69 RX5 yX5_cell wsX5_cell) := goodIn_app (goodIn_of _ (by decide +kernel)) ggL_law_X5_cell
set_option maxRecDepth 100000 in
theorem ggL_law_X6_cell : GoodIn wsL_law wsX6_cell := goodIn_r _ [667, 224, 225, 5, 226, 668, 669, 670, 671, 227, 228, 229, 230, 67, 644, 645, 646, 647, 332, 333, 334, 335, 336, 337, 338, 339, 316, 317, 318, 319, 243, 244, 245, 246, 340, 341, 342, 343, 143, 144, 145, 146, 147, 148, 149, 150, 648, 649, 650, 651, 344, 345, 346, 347, 672, 673, 674, 675, 247, 248, 249, 250, 391, 392, 393, 394, 395, 396, 397, 398, 399, 400, 401, 402, 403, 404, 405, 406, 407, 408, 409, 410, 829, 830, 831, 832, 833, 834, 835, 836, 837, 838] rfl (by decide +kernel)
set_option maxRecDepth 20000 in
theorem gL_law_X6_cell : GoodIn wsL_law (wsV RL 72 RX6 yX6_cell wsX6_cell) := goodIn_app (goodIn_of _ (by decide +kernel)) ggL_law_X6_cell
set_option maxRecDepth 100000 in
theorem ggL_law_X5_line : GoodIn wsL_law wsX5_line := goodIn_r _ [679, 15, 77, 680, 264, 265, 14, 266, 167, 2, 168, 169, 170, 171, 172, 30, 31, 267, 268, 269, 29, 270, 100, 47, 681, 300, 301, 36, 302, 295, 296, 297, 298, 114, 197, 198, 199, 119, 120, 121, 122, 51, 682, 292, 293, 294, 683, 684, 685, 686, 164, 632, 633, 634, 635, 37, 291, 299, 687, 688, 689, 690, 279, 280, 281, 282, 826, 827, 828, 839, 840, 841, 842, 843, 855, 856, 857, 858] rfl (by decide +kernel)
set_option maxRecDepth 20000 in
theorem gL_law_X5_line : GoodIn wsL_law (wsV RL 73 RX5 yX5_line wsX5_line) := goodIn_app (goodIn_of _ (by decide +kernel)) ggL_law_X5_line
set_option maxRecDepth 100000 in
theorem ggL_law_X6_line : GoodIn wsL_law wsX6_line := goodIn_r _ [694, 67, 312, 313, 314, 5, 315, 224, 225, 226, 227, 228, 229, 230, 143, 144, 145, 146, 147, 148, 149, 150, 316, 317, 318, 319, 243, 244, 245, 246, 324, 325, 326, 327, 344, 345, 346, 347, 340, 341, 342, 343, 336, 337, 338, 339, 695, 696, 697, 698, 644, 645, 646, 647, 332, 333, 334, 335, 648, 649, 650, 651, 829, 830, 831, 832, 833, 834, 835, 836, 837, 838] rfl (by decide +kernel)
set_option maxRecDepth 20000 in
theorem gL_law_X6_line : GoodIn wsL_law (wsV RL 76 RX6 yX6_line wsX6_line) := goodIn_app (goodIn_of _ (by decide +kernel)) ggL_law_X6_line
set_option maxRecDepth 100000 in
theorem ggL_law_X5_setting : GoodIn wsL_law wsX5_setting := goodIn_r _ [702, 15, 77, 680, 264, 265, 14, 266, 167, 2, 168, 169, 170, 171, 172, 30, 31, 267, 268, 269, 29, 270, 100, 47, 703, 704, 705, 36, 706, 114, 365, 366, 367, 368, 51, 826, 827, 828, 839, 840, 841, 842, 843, 855, 856, 857, 858] rfl (by decide +kernel)
set_option maxRecDepth 20000 in
theorem gL_law_X5_setting : GoodIn wsL_law (wsV RL 77 RX5 yX5_setting wsX5_setting) := goodIn_app (goodIn_of _ (by decide +kernel)) ggL_law_X5_setting
set_option maxRecDepth 100000 in
theorem ggL_law_X6_setting : GoodIn wsL_law wsX6_setting := goodIn_r _ [710, 67, 312, 313, 314, 5, 315, 224, 225, 226, 227, 228, 229, 230, 316, 317, 318, 319, 243, 244, 245, 246, 399, 400, 401, 402, 143, 144, 145, 146, 147, 148, 149, 150, 829, 830, 831, 832, 833, 834, 835, 836, 837, 838] rfl (by decide +kernel)
set_option maxRecDepth 20000 in
theorem gL_law_X6_setting : GoodIn wsL_law (wsV RL 80 RX6 yX6_setting wsX6_setting) := goodIn_app (goodIn_of _ (by decide +kernel)) ggL_law_X6_setting
set_option maxRecDepth 100000 in
theorem ggL_law_X5_change : GoodIn wsL_law wsX5_change := goodIn_r _ [714, 15, 77, 715, 716, 415, 210, 211, 36, 212, 114, 717, 120, 121, 122, 51, 718, 288, 289, 29, 290, 100, 47, 719, 720, 721, 14, 722, 37, 303, 479, 280, 281, 282, 119, 356, 357, 358, 359, 360, 361, 362, 363, 364, 104, 45, 105, 365, 366, 367, 368, 369, 370, 371, 372, 33, 723, 724, 725, 726, 727, 423, 424, 425, 279, 728, 729, 730, 731, 826, 827, 828, 839, 840, 841, 842, 843, 857, 858, 855, 856] rfl (by decide +kernel)
set_option maxRecDepth 20000 in
theorem gL_law_X5_change : GoodIn wsL_law (wsV RL 81 RX5 yX5_change wsX5_change) := goodIn_app (goodIn_of _ (by decide +kernel)) ggL_law_X5_change
set_option maxRecDepth 100000 in
theorem ggL_law_X6_change : GoodIn wsL_law wsX6_change := goodIn_r _ [735, 67, 438, 439, 440, 5, 441, 224, 225, 226, 446, 447, 448, 449, 143, 144, 145, 146, 147, 148, 149, 150, 399, 400, 401, 402, 324, 325, 326, 327, 736, 737, 738, 739, 407, 408, 409, 410, 227, 228, 229, 230, 316, 317, 318, 319, 243, 244, 245, 246, 740, 741, 742, 743, 391, 392, 393, 394, 395, 396, 397, 398, 403, 404, 405, 406, 247, 248, 249, 250, 829, 830, 831, 832, 833, 834, 835, 836, 837, 838] rfl (by decide +kernel)
set_option maxRecDepth 20000 in
theorem gL_law_X6_change : GoodIn wsL_law (wsV RL 84 RX6 yX6_change wsX6_change) := goodIn_app (goodIn_of _ (by decide +kernel)) ggL_law_X6_change
set_option maxRecDepth 100000 in
theorem ggL_law_X5_restsOn : GoodIn wsL_law wsX5_restsOn := goodIn_r _ [747, 15, 77, 415, 210, 211, 36, 212, 114, 748, 423, 424, 425, 279, 280, 281, 282, 119, 120, 121, 122, 51, 826, 827, 828, 839, 840, 841, 842, 843, 857, 858] rfl (by decide +kernel)
set_option maxRecDepth 20000 in
theorem gL_law_X5_restsOn : GoodIn wsL_law (wsV RL 85 RX5 yX5_restsOn wsX5_restsOn) := goodIn_app (goodIn_of _ (by decide +kernel)) ggL_law_X5_restsOn
set_option maxRecDepth 100000 in
theorem ggL_law_X6_restsOn : GoodIn wsL_law wsX6_restsOn := goodIn_r _ [752, 438, 439, 440, 5, 441, 67, 224, 225, 226, 446, 447, 448, 449, 143, 144, 145, 146, 147, 148, 149, 150, 399, 400, 401, 402, 324, 325, 326, 327, 829, 830, 831, 832, 833, 834, 835, 836, 837, 838] rfl (by decide +kernel)
set_option maxRecDepth 20000 in
theorem gL_law_X6_restsOn : GoodIn wsL_law (wsV RL 88 RX6 yX6_restsOn wsX6_restsOn) := goodIn_app (goodIn_of _ (by decide +kernel)) ggL_law_X6_restsOn
set_option maxRecDepth 100000 in
theorem ggL_law_X5_pending : GoodIn wsL_law wsX5_pending := goodIn_r _ [756, 15, 757, 758, 759, 14, 760, 761, 762, 763, 764, 37, 765, 766, 767, 36, 768, 114, 119, 120, 121, 122, 51, 279, 280, 281, 282, 769, 770, 771, 772, 164, 169, 170, 171, 172, 30, 31, 267, 268, 269, 29, 270, 100, 47, 299, 300, 301, 302, 295, 296, 297, 298, 197, 198, 199, 291, 292, 293, 294, 773, 774, 775, 776, 777, 778, 779, 780, 365, 366, 367, 368, 781, 704, 705, 706, 826, 827, 828, 839, 840, 841, 842, 843, 857, 858, 855, 856] rfl (by decide +kernel)
set_option maxRecDepth 20000 in
theorem gL_law_X5_pending : GoodIn wsL_law (wsV RL 89 RX5 yX5_pending wsX5_pending) := goodIn_app (goodIn_of _ (by decide +kernel)) ggL_law_X5_pending
set_option maxRecDepth 100000 in
theorem ggL_law_X6_pending : GoodIn wsL_law wsX6_pending := goodIn_r _ [785, 67, 143, 144, 145, 5, 146, 147, 148, 149, 150, 786, 787, 788, 789, 736, 737, 738, 739, 407, 408, 409, 410, 227, 228, 229, 230, 316, 317, 318, 319, 243, 244, 245, 246, 740, 741, 742, 743, 829, 830, 831, 832, 833, 834, 835, 836, 837, 838] rfl (by decide +kernel)
set_option maxRecDepth 20000 in
theorem gL_law_X6_pending : GoodIn wsL_law (wsV RL 92 RX6 yX6_pending wsX6_pending) := goodIn_app (goodIn_of _ (by decide +kernel)) ggL_law_X6_pending
set_option maxRecDepth 100000 in
theorem ggL_law_X5_author : GoodIn wsL_law wsX5_author := goodIn_r _ [793, 15, 77, 474, 165, 2, 166, 115, 116, 117, 36, 118, 114, 119, 120, 121, 122, 51, 826, 827, 828, 839, 840, 841, 842, 843, 857, 858] rfl (by decide +kernel)
set_option maxRecDepth 20000 in
theorem gL_law_X5_author : GoodIn wsL_law (wsV RL 93 RX5 yX5_author wsX5_author) := goodIn_app (goodIn_of _ (by decide +kernel)) ggL_law_X5_author
set_option maxRecDepth 100000 in
theorem ggL_law_X6_author : GoodIn wsL_law wsX6_author := goodIn_r _ [797, 67, 221, 222, 5, 223, 224, 225, 226, 147, 148, 149, 150, 829, 830, 831, 832, 833, 834, 835, 836, 837, 838] rfl (by decide +kernel)
set_option maxRecDepth 20000 in
theorem gL_law_X6_author : GoodIn wsL_law (wsV RL 96 RX6 yX6_author wsX6_author) := goodIn_app (goodIn_of _ (by decide +kernel)) ggL_law_X6_author
set_option maxRecDepth 100000 in
theorem ggL_law_X5_sum : GoodIn wsL_law wsX5_sum := goodIn_r _ [801, 15, 624, 625, 2, 626, 802, 803, 804, 14, 805, 30, 164, 267, 268, 269, 29, 270, 100, 47, 632, 633, 634, 635, 37, 291, 292, 293, 36, 294, 295, 296, 297, 298, 114, 197, 198, 199, 119, 120, 121, 122, 51, 299, 300, 301, 302, 806, 807, 808, 809, 31, 810, 661, 662, 663, 369, 370, 371, 372, 33, 356, 357, 358, 359, 360, 361, 362, 363, 364, 104, 45, 105, 365, 366, 367, 368, 303, 826, 827, 828, 839, 840, 841, 842, 843, 855, 856, 857, 858] rfl (by decide +kernel)
set_option maxRecDepth 20000 in
theorem gL_law_X5_sum : GoodIn wsL_law (wsV RL 97 RX5 yX5_sum wsX5_sum) := goodIn_app (goodIn_of _ (by decide +kernel)) ggL_law_X5_sum
set_option maxRecDepth 100000 in
theorem ggL_law_X6_sum : GoodIn wsL_law wsX6_sum := goodIn_r _ [814, 224, 225, 5, 226, 227, 228, 229, 230, 67, 644, 645, 646, 647, 332, 333, 334, 335, 336, 337, 338, 339, 316, 317, 318, 319, 243, 244, 245, 246, 340, 341, 342, 343, 143, 144, 145, 146, 147, 148, 149, 150, 648, 649, 650, 651, 344, 345, 346, 347, 672, 673, 674, 675, 247, 248, 249, 250, 391, 392, 393, 394, 395, 396, 397, 398, 399, 400, 401, 402, 403, 404, 405, 406, 407, 408, 409, 410, 829, 830, 831, 832, 833, 834, 835, 836, 837, 838] rfl (by decide +kernel)
set_option maxRecDepth 20000 in
theorem gL_law_X6_sum : GoodIn wsL_law (wsV RL 100 RX6 yX6_sum wsX6_sum) := goodIn_app (goodIn_of _ (by decide +kernel)) ggL_law_X6_sum
set_option maxRecDepth 100000 in
theorem ggL_law_X5_count : GoodIn wsL_law wsX5_count := goodIn_r _ [818, 15, 77, 819, 76, 19, 820, 23, 508, 115, 116, 117, 36, 118, 114, 119, 120, 121, 122, 51, 821, 766, 767, 768, 279, 280, 281, 282, 826, 827, 828, 839, 840, 841, 842, 843, 857, 858, 844, 845, 846, 847, 848, 849, 850, 851, 852, 853, 854] rfl (by decide +kernel)
set_option maxRecDepth 20000 in
theorem gL_law_X5_count : GoodIn wsL_law (wsV RL 101 RX5 yX5_count wsX5_count) := goodIn_app (goodIn_of _ (by decide +kernel)) ggL_law_X5_count
set_option maxRecDepth 100000 in
theorem ggL_law_X6_count : GoodIn wsL_law wsX6_count := goodIn_r _ [825, 67, 155, 503, 227, 228, 229, 5, 230, 648, 649, 650, 651, 344, 345, 346, 347, 316, 317, 318, 319, 243, 244, 245, 246, 340, 341, 342, 343, 143, 144, 145, 146, 147, 148, 149, 150, 332, 333, 334, 335, 336, 337, 338, 339, 224, 225, 226, 829, 830, 831, 832, 833, 834, 835, 836, 837, 838] rfl (by decide +kernel)
set_option maxRecDepth 20000 in
theorem gL_law_X6_count : GoodIn wsL_law (wsV RL 104 RX6 yX6_count wsX6_count) := goodIn_app (goodIn_of _ (by decide +kernel)) ggL_law_X6_count
