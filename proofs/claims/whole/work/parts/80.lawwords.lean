set_option maxRecDepth 20000 in
theorem ggL_law_X6_init : GoodIn wsL_law wsX6_init := goodIn_r _ [8, 9, 10, 11, 12, 13, 14, 15, 16, 17, 18, 19, 20, 21, 22, 23, 24, 25, 26, 27, 28, 29, 30, 31, 32, 33, 34, 35, 36, 37, 38, 39, 40, 41, 42, 43, 44, 45, 46, 47, 48, 49, 50, 51, 52, 53, 54, 55, 56, 57, 58, 59, 60, 61, 62, 698, 699, 700, 701, 702, 703, 704, 705, 736, 737, 738, 739, 740, 741, 742, 743, 744, 745, 746, 747, 748, 749, 750, 751, 752, 753, 754] (by decide +kernel) (by decide +kernel)
set_option maxRecDepth 20000 in
theorem gL_law_X6_init : GoodIn wsL_law (wsX6_init) := ggL_law_X6_init
set_option maxRecDepth 20000 in
theorem ggL_law_X7_init : GoodIn wsL_law wsX7_init := goodIn_r _ [65, 66, 10, 11, 38, 67, 68, 69, 70, 71, 72, 73, 74, 75, 76, 77, 30, 78, 79, 80, 47, 81, 82, 83, 84, 85, 706, 707, 708, 709, 710, 711, 712, 713, 714, 715, 716, 717, 718, 719, 720, 721, 722, 723, 724, 725, 726, 727, 728, 729, 730, 731, 732, 733, 734, 735] (by decide +kernel) (by decide +kernel)
set_option maxRecDepth 20000 in
theorem gL_law_X7_init : GoodIn wsL_law (wsX7_init) := ggL_law_X7_init
set_option maxRecDepth 20000 in
theorem ggL_law_X6_kingdom : GoodIn wsL_law wsX6_kingdom := goodIn_r _ [89, 90, 13, 91, 92, 93, 17, 21, 94, 95, 96, 97, 2, 98, 99, 100, 101, 102, 103, 104, 105, 106, 107, 108, 109, 110, 111, 112, 113, 33, 114, 115, 116, 117, 118, 119, 10, 11, 120, 121, 122, 123, 124, 125, 126, 127, 128, 129, 130, 131, 132, 133, 134, 135, 136, 137, 138, 139, 140, 141, 142, 143, 144, 16, 145, 146, 147, 148, 149, 39, 40, 41, 150, 151, 152, 153, 154, 155, 156, 157, 158, 159, 160, 161, 698, 699, 700, 701, 702, 703, 704, 705, 755, 756, 757, 758, 759, 741, 742, 743, 744, 736, 737, 738, 739, 740, 751, 752, 753, 754] (by decide +kernel) (by decide +kernel)
set_option maxRecDepth 20000 in
theorem gL_law_X6_kingdom : GoodIn wsL_law (wsV RL 13 RX6 yX6_kingdom wsX6_kingdom) := goodIn_app (goodIn_of _ (by decide +kernel)) ggL_law_X6_kingdom
set_option maxRecDepth 20000 in
theorem ggL_law_X7_kingdom : GoodIn wsL_law wsX7_kingdom := goodIn_r _ [165, 166, 167, 168, 169, 170, 171, 67, 72, 68, 73, 69, 74, 70, 75, 71, 76, 172, 173, 174, 5, 175, 176, 177, 178, 179, 180, 181, 182, 183, 184, 185, 186, 187, 188, 82, 83, 189, 190, 191, 192, 193, 194, 195, 196, 197, 198, 199, 200, 201, 202, 203, 84, 204, 205, 206, 207, 208, 209, 210, 211, 212, 213, 214, 215, 706, 707, 708, 709, 710, 711, 712, 713, 714, 715, 716, 717, 718, 719, 720, 721, 722, 723, 724, 725, 726, 727, 728, 729, 730, 731, 732, 733, 734, 735] (by decide +kernel) (by decide +kernel)
set_option maxRecDepth 20000 in
theorem gL_law_X7_kingdom : GoodIn wsL_law (wsV RL 17 RX7 yX7_kingdom wsX7_kingdom) := goodIn_app (goodIn_of _ (by decide +kernel)) ggL_law_X7_kingdom
set_option maxRecDepth 20000 in
theorem ggL_law_X6_ofDeed : GoodIn wsL_law wsX6_ofDeed := goodIn_r _ [219, 17, 220, 221, 222, 223, 16, 224, 147, 100, 2, 101, 99, 698, 699, 700, 701, 702, 703, 704, 705, 736, 737, 738, 739, 740] (by decide +kernel) (by decide +kernel)
set_option maxRecDepth 20000 in
theorem gL_law_X6_ofDeed : GoodIn wsL_law (wsV RL 18 RX6 yX6_ofDeed wsX6_ofDeed) := goodIn_app (goodIn_of _ (by decide +kernel)) ggL_law_X6_ofDeed
set_option maxRecDepth 20000 in
theorem ggL_law_X7_ofDeed : GoodIn wsL_law wsX7_ofDeed := goodIn_r _ [228, 166, 229, 230, 231, 5, 232, 169, 177, 178, 179, 233, 234, 235, 236, 67, 68, 69, 706, 707, 708, 709, 710, 711, 712, 713, 714, 715, 716, 717, 718, 719, 720, 721, 722, 723, 724, 725, 726, 727, 728, 729, 730, 731, 732, 733, 734, 735] (by decide +kernel) (by decide +kernel)
set_option maxRecDepth 20000 in
theorem gL_law_X7_ofDeed : GoodIn wsL_law (wsV RL 22 RX7 yX7_ofDeed wsX7_ofDeed) := goodIn_app (goodIn_of _ (by decide +kernel)) ggL_law_X7_ofDeed
set_option maxRecDepth 20000 in
theorem ggL_law_X6_ofSubject : GoodIn wsL_law wsX6_ofSubject := goodIn_r _ [240, 17, 241, 242, 243, 244, 245, 16, 246, 149, 100, 2, 101, 247, 248, 249, 250, 147, 251, 252, 253, 254, 255, 256, 257, 258, 259, 260, 261, 262, 39, 263, 264, 265, 266, 40, 698, 699, 700, 701, 702, 703, 704, 705, 736, 737, 738, 739, 740] (by decide +kernel) (by decide +kernel)
set_option maxRecDepth 20000 in
theorem gL_law_X6_ofSubject : GoodIn wsL_law (wsV RL 23 RX6 yX6_ofSubject wsX6_ofSubject) := goodIn_app (goodIn_of _ (by decide +kernel)) ggL_law_X6_ofSubject
set_option maxRecDepth 20000 in
theorem ggL_law_X7_ofSubject : GoodIn wsL_law wsX7_ofSubject := goodIn_r _ [270, 70, 71, 271, 272, 273, 5, 274, 171, 177, 178, 179, 275, 276, 277, 278, 169, 279, 280, 281, 282, 67, 283, 284, 285, 286, 68, 69, 706, 707, 708, 709, 710, 711, 712, 713, 714, 715, 716, 717, 718, 719, 720, 721, 722, 723, 724, 725, 726, 727, 728, 729, 730, 731, 732, 733, 734, 735] (by decide +kernel) (by decide +kernel)
set_option maxRecDepth 20000 in
theorem gL_law_X7_ofSubject : GoodIn wsL_law (wsV RL 26 RX7 yX7_ofSubject wsX7_ofSubject) := goodIn_app (goodIn_of _ (by decide +kernel)) ggL_law_X7_ofSubject
set_option maxRecDepth 20000 in
theorem ggL_law_X6_fear : GoodIn wsL_law wsX6_fear := goodIn_r _ [290, 17, 243, 244, 245, 16, 246, 149, 100, 2, 101, 221, 222, 223, 224, 147, 291, 264, 265, 266, 39, 40, 698, 699, 700, 701, 702, 703, 704, 705, 736, 737, 738, 739, 740] (by decide +kernel) (by decide +kernel)
set_option maxRecDepth 20000 in
theorem gL_law_X6_fear : GoodIn wsL_law (wsV RL 27 RX6 yX6_fear wsX6_fear) := goodIn_app (goodIn_of _ (by decide +kernel)) ggL_law_X6_fear
set_option maxRecDepth 20000 in
theorem ggL_law_X7_fear : GoodIn wsL_law wsX7_fear := goodIn_r _ [295, 271, 272, 273, 5, 274, 171, 177, 178, 179, 229, 230, 231, 232, 169, 283, 284, 285, 286, 68, 69, 70, 706, 707, 708, 709, 710, 711, 712, 713, 714, 715, 716, 717, 718, 719, 720, 721, 722, 723, 724, 725, 726, 727, 728, 729, 730, 731, 732, 733, 734, 735] (by decide +kernel) (by decide +kernel)
set_option maxRecDepth 20000 in
theorem gL_law_X7_fear : GoodIn wsL_law (wsV RL 30 RX7 yX7_fear wsX7_fear) := goodIn_app (goodIn_of _ (by decide +kernel)) ggL_law_X7_fear
set_option maxRecDepth 20000 in
theorem ggL_law_X6_alter : GoodIn wsL_law wsX6_alter := goodIn_r _ [299, 17, 220, 221, 222, 223, 16, 224, 147, 100, 2, 101, 99, 698, 699, 700, 701, 702, 703, 704, 705, 736, 737, 738, 739, 740] (by decide +kernel) (by decide +kernel)
set_option maxRecDepth 20000 in
theorem gL_law_X6_alter : GoodIn wsL_law (wsV RL 31 RX6 yX6_alter wsX6_alter) := goodIn_app (goodIn_of _ (by decide +kernel)) ggL_law_X6_alter
set_option maxRecDepth 20000 in
theorem ggL_law_X7_alter : GoodIn wsL_law wsX7_alter := goodIn_r _ [303, 166, 304, 67, 68, 69, 229, 230, 231, 5, 232, 169, 177, 178, 179, 233, 234, 235, 236, 706, 707, 708, 709, 710, 711, 712, 713, 714, 715, 716, 717, 718, 719, 720, 721, 722, 723, 724, 725, 726, 727, 728, 729, 730, 731, 732, 733, 734, 735] (by decide +kernel) (by decide +kernel)
set_option maxRecDepth 20000 in
theorem gL_law_X7_alter : GoodIn wsL_law (wsV RL 35 RX7 yX7_alter wsX7_alter) := goodIn_app (goodIn_of _ (by decide +kernel)) ggL_law_X7_alter
set_option maxRecDepth 20000 in
theorem ggL_law_X6_grant : GoodIn wsL_law wsX6_grant := goodIn_r _ [308, 17, 242, 243, 244, 245, 16, 246, 149, 100, 2, 101, 99, 698, 699, 700, 701, 702, 703, 704, 705, 736, 737, 738, 739, 740] (by decide +kernel) (by decide +kernel)
set_option maxRecDepth 20000 in
theorem gL_law_X6_grant : GoodIn wsL_law (wsV RL 36 RX6 yX6_grant wsX6_grant) := goodIn_app (goodIn_of _ (by decide +kernel)) ggL_law_X6_grant
set_option maxRecDepth 20000 in
theorem ggL_law_X7_grant : GoodIn wsL_law wsX7_grant := goodIn_r _ [312, 176, 71, 271, 272, 273, 5, 274, 171, 177, 178, 179, 706, 707, 708, 709, 710, 711, 712, 713, 714, 715, 716, 717, 718, 719, 720, 721, 722, 723, 724, 725, 726, 727, 728, 729, 730, 731, 732, 733, 734, 735] (by decide +kernel) (by decide +kernel)
set_option maxRecDepth 20000 in
theorem gL_law_X7_grant : GoodIn wsL_law (wsV RL 39 RX7 yX7_grant wsX7_grant) := goodIn_app (goodIn_of _ (by decide +kernel)) ggL_law_X7_grant
set_option maxRecDepth 20000 in
theorem ggL_law_X6_year : GoodIn wsL_law wsX6_year := goodIn_r _ [316, 90, 17, 13, 29, 96, 97, 2, 98, 99, 100, 101, 317, 318, 319, 320, 321, 322, 16, 323, 149, 102, 103, 104, 105, 106, 107, 108, 109, 110, 111, 112, 113, 33, 114, 115, 324, 325, 326, 327, 328, 243, 244, 245, 246, 221, 222, 223, 224, 147, 329, 330, 331, 28, 332, 333, 334, 335, 336, 58, 337, 338, 339, 340, 341, 342, 343, 260, 261, 262, 39, 344, 256, 257, 258, 259, 263, 264, 265, 266, 40, 345, 252, 253, 254, 255, 346, 347, 348, 349, 350, 351, 352, 353, 354, 698, 699, 700, 701, 702, 703, 704, 705, 736, 737, 738, 739, 740, 751, 752, 753, 754, 747, 748, 749, 750] (by decide +kernel) (by decide +kernel)
set_option maxRecDepth 20000 in
theorem gL_law_X6_year : GoodIn wsL_law (wsV RL 40 RX6 yX6_year wsX6_year) := goodIn_app (goodIn_of _ (by decide +kernel)) ggL_law_X6_year
set_option maxRecDepth 20000 in
theorem ggL_law_X7_year : GoodIn wsL_law wsX7_year := goodIn_r _ [358, 166, 359, 360, 361, 171, 176, 84, 362, 363, 77, 364, 365, 173, 174, 5, 175, 177, 178, 179, 180, 181, 182, 183, 184, 185, 186, 187, 188, 82, 83, 189, 190, 191, 192, 193, 194, 195, 271, 272, 273, 274, 229, 230, 231, 232, 169, 366, 367, 368, 369, 71, 67, 279, 280, 281, 282, 283, 284, 285, 286, 68, 69, 70, 706, 707, 708, 709, 710, 711, 712, 713, 714, 715, 716, 717, 718, 719, 720, 721, 722, 723, 724, 725, 726, 727, 728, 729, 730, 731, 732, 733, 734, 735] (by decide +kernel) (by decide +kernel)
set_option maxRecDepth 20000 in
theorem gL_law_X7_year : GoodIn wsL_law (wsV RL 44 RX7 yX7_year wsX7_year) := goodIn_app (goodIn_of _ (by decide +kernel)) ggL_law_X7_year
set_option maxRecDepth 20000 in
theorem ggL_law_X6_hope : GoodIn wsL_law wsX6_hope := goodIn_r _ [373, 17, 374, 25, 375, 376, 243, 244, 245, 16, 246, 149, 100, 2, 101, 99, 377, 378, 379, 24, 380, 54, 53, 381, 382, 383, 384, 385, 386, 387, 388, 389, 390, 391, 392, 393, 394, 395, 396, 397, 256, 257, 258, 259, 260, 261, 262, 39, 263, 264, 265, 266, 40, 398, 399, 400, 401, 402, 403, 404, 405, 406, 407, 408, 698, 699, 700, 701, 702, 703, 704, 705, 745, 746, 736, 737, 738, 739, 740] (by decide +kernel) (by decide +kernel)
set_option maxRecDepth 20000 in
theorem gL_law_X6_hope : GoodIn wsL_law (wsV RL 45 RX6 yX6_hope wsX6_hope) := goodIn_app (goodIn_of _ (by decide +kernel)) ggL_law_X6_hope
set_option maxRecDepth 20000 in
theorem ggL_law_X7_hope : GoodIn wsL_law wsX7_hope := goodIn_r _ [412, 413, 176, 78, 271, 272, 273, 5, 274, 171, 177, 178, 179, 414, 415, 416, 417, 418, 419, 420, 421, 169, 422, 423, 424, 425, 359, 67, 426, 427, 428, 429, 279, 280, 281, 282, 283, 284, 285, 286, 68, 69, 70, 430, 431, 432, 433, 434, 435, 436, 706, 707, 708, 709, 710, 711, 712, 713, 714, 715, 716, 717, 718, 719, 720, 721, 722, 723, 724, 725, 726, 727, 728, 729, 730, 731, 732, 733, 734, 735] (by decide +kernel) (by decide +kernel)
set_option maxRecDepth 20000 in
theorem gL_law_X7_hope : GoodIn wsL_law (wsV RL 49 RX7 yX7_hope wsX7_hope) := goodIn_app (goodIn_of _ (by decide +kernel)) ggL_law_X7_hope
set_option maxRecDepth 20000 in
theorem ggL_law_X6_uses : GoodIn wsL_law wsX6_uses := goodIn_r _ [440, 17, 25, 441, 243, 244, 245, 16, 246, 149, 100, 2, 101, 377, 378, 379, 24, 380, 54, 53, 381, 382, 383, 384, 385, 386, 387, 388, 389, 390, 391, 392, 393, 394, 395, 396, 397, 256, 257, 258, 259, 260, 261, 262, 39, 263, 264, 265, 266, 40, 398, 399, 400, 401, 402, 442, 443, 698, 699, 700, 701, 702, 703, 704, 705, 736, 737, 738, 739, 740, 745, 746] (by decide +kernel) (by decide +kernel)
set_option maxRecDepth 20000 in
theorem gL_law_X6_uses : GoodIn wsL_law (wsV RL 50 RX6 yX6_uses wsX6_uses) := goodIn_app (goodIn_of _ (by decide +kernel)) ggL_law_X6_uses
set_option maxRecDepth 20000 in
theorem ggL_law_X7_uses : GoodIn wsL_law wsX7_uses := goodIn_r _ [447, 413, 176, 78, 169, 359, 67, 271, 272, 273, 5, 274, 171, 177, 178, 179, 418, 419, 420, 421, 422, 423, 424, 425, 426, 427, 428, 429, 279, 280, 281, 282, 283, 284, 285, 286, 68, 69, 70, 430, 431, 432, 433, 706, 707, 708, 709, 710, 711, 712, 713, 714, 715, 716, 717, 718, 719, 720, 721, 722, 723, 724, 725, 726, 727, 728, 729, 730, 731, 732, 733, 734, 735] (by decide +kernel) (by decide +kernel)
set_option maxRecDepth 20000 in
theorem gL_law_X7_uses : GoodIn wsL_law (wsV RL 53 RX7 yX7_uses wsX7_uses) := goodIn_app (goodIn_of _ (by decide +kernel)) ggL_law_X7_uses
set_option maxRecDepth 20000 in
theorem ggL_law_X6_buyers : GoodIn wsL_law wsX6_buyers := goodIn_r _ [451, 17, 99, 100, 2, 101, 320, 321, 322, 16, 323, 149, 452, 453, 454, 455, 95, 25, 31, 375, 377, 378, 379, 24, 380, 54, 53, 381, 382, 383, 384, 385, 386, 387, 388, 389, 390, 391, 392, 393, 394, 395, 396, 397, 256, 257, 258, 259, 260, 261, 262, 39, 263, 264, 265, 266, 40, 398, 399, 400, 401, 402, 456, 457, 458, 459, 376, 698, 699, 700, 701, 702, 703, 704, 705, 736, 737, 738, 739, 740, 745, 746] (by decide +kernel) (by decide +kernel)
set_option maxRecDepth 20000 in
theorem gL_law_X6_buyers : GoodIn wsL_law (wsV RL 54 RX6 yX6_buyers wsX6_buyers) := goodIn_app (goodIn_of _ (by decide +kernel)) ggL_law_X6_buyers
set_option maxRecDepth 20000 in
theorem ggL_law_X7_buyers : GoodIn wsL_law wsX7_buyers := goodIn_r _ [463, 464, 413, 171, 177, 178, 5, 179, 465, 466, 467, 468, 78, 418, 419, 420, 421, 169, 422, 423, 424, 425, 359, 67, 426, 427, 428, 429, 279, 280, 281, 282, 283, 284, 285, 286, 68, 69, 70, 430, 431, 432, 433, 706, 707, 708, 709, 710, 711, 712, 713, 714, 715, 716, 717, 718, 719, 720, 721, 722, 723, 724, 725, 726, 727, 728, 729, 730, 731, 732, 733, 734, 735] (by decide +kernel) (by decide +kernel)
set_option maxRecDepth 20000 in
theorem gL_law_X7_buyers : GoodIn wsL_law (wsV RL 57 RX7 yX7_buyers wsX7_buyers) := goodIn_app (goodIn_of _ (by decide +kernel)) ggL_law_X7_buyers
set_option maxRecDepth 20000 in
theorem ggL_law_X6_best : GoodIn wsL_law wsX6_best := goodIn_r _ [472, 17, 99, 100, 2, 101, 320, 321, 322, 16, 323, 149, 452, 453, 454, 455, 95, 25, 31, 375, 377, 378, 379, 24, 380, 54, 53, 381, 382, 383, 384, 385, 386, 387, 388, 389, 390, 391, 392, 393, 394, 395, 396, 397, 256, 257, 258, 259, 260, 261, 262, 39, 263, 264, 265, 266, 40, 398, 399, 400, 401, 402, 456, 457, 458, 459, 376, 473, 474, 475, 476, 477, 478, 479, 698, 699, 700, 701, 702, 703, 704, 705, 736, 737, 738, 739, 740, 745, 746] (by decide +kernel) (by decide +kernel)
set_option maxRecDepth 20000 in
theorem gL_law_X6_best : GoodIn wsL_law (wsV RL 58 RX6 yX6_best wsX6_best) := goodIn_app (goodIn_of _ (by decide +kernel)) ggL_law_X6_best
set_option maxRecDepth 20000 in
theorem ggL_law_X7_best : GoodIn wsL_law wsX7_best := goodIn_r _ [483, 413, 171, 177, 178, 5, 179, 465, 466, 467, 468, 78, 418, 419, 420, 421, 169, 422, 423, 424, 425, 359, 67, 426, 427, 428, 429, 279, 280, 281, 282, 283, 284, 285, 286, 68, 69, 70, 430, 431, 432, 433, 484, 485, 486, 706, 707, 708, 709, 710, 711, 712, 713, 714, 715, 716, 717, 718, 719, 720, 721, 722, 723, 724, 725, 726, 727, 728, 729, 730, 731, 732, 733, 734, 735] (by decide +kernel) (by decide +kernel)
set_option maxRecDepth 20000 in
theorem gL_law_X7_best : GoodIn wsL_law (wsV RL 62 RX7 yX7_best wsX7_best) := goodIn_app (goodIn_of _ (by decide +kernel)) ggL_law_X7_best
set_option maxRecDepth 20000 in
theorem ggL_law_X6_reading : GoodIn wsL_law wsX6_reading := goodIn_r _ [490, 17, 21, 94, 243, 244, 245, 16, 246, 149, 100, 2, 101, 221, 222, 223, 224, 147, 491, 492, 493, 20, 494, 45, 495, 46, 48, 698, 699, 700, 701, 702, 703, 704, 705, 741, 742, 743, 744, 736, 737, 738, 739, 740] (by decide +kernel) (by decide +kernel)
set_option maxRecDepth 20000 in
theorem gL_law_X6_reading : GoodIn wsL_law (wsV RL 63 RX6 yX6_reading wsX6_reading) := goodIn_app (goodIn_of _ (by decide +kernel)) ggL_law_X6_reading
set_option maxRecDepth 20000 in
theorem ggL_law_X7_reading : GoodIn wsL_law wsX7_reading := goodIn_r _ [499, 172, 79, 80, 81, 271, 272, 273, 5, 274, 171, 177, 178, 179, 229, 230, 231, 232, 169, 706, 707, 708, 709, 710, 711, 712, 713, 714, 715, 716, 717, 718, 719, 720, 721, 722, 723, 724, 725, 726, 727, 728, 729, 730, 731, 732, 733, 734, 735] (by decide +kernel) (by decide +kernel)
set_option maxRecDepth 20000 in
theorem gL_law_X7_reading : GoodIn wsL_law (wsV RL 67 RX7 yX7_reading wsX7_reading) := goodIn_app (goodIn_of _ (by decide +kernel)) ggL_law_X7_reading
set_option maxRecDepth 20000 in
theorem ggL_law_X6_back : GoodIn wsL_law wsX6_back := goodIn_r _ [503, 21, 94, 698, 699, 700, 701, 702, 703, 704, 705, 741, 742, 743, 744] (by decide +kernel) (by decide +kernel)
set_option maxRecDepth 20000 in
theorem gL_law_X6_back : GoodIn wsL_law (wsV RL 68 RX6 yX6_back wsX6_back) := goodIn_app (goodIn_of _ (by decide +kernel)) ggL_law_X6_back
set_option maxRecDepth 20000 in
theorem ggL_law_X7_back : GoodIn wsL_law wsX7_back := goodIn_r _ [507, 172, 177, 178, 5, 179, 706, 707, 708, 709, 710, 711, 712, 713, 714, 715, 716, 717, 718, 719, 720, 721, 722, 723, 724, 725, 726, 727, 728, 729, 730, 731, 732, 733, 734, 735] (by decide +kernel) (by decide +kernel)
set_option maxRecDepth 20000 in
theorem gL_law_X7_back : GoodIn wsL_law (wsV RL 71 RX7 yX7_back wsX7_back) := goodIn_app (goodIn_of _ (by decide +kernel)) ggL_law_X7_back
set_option maxRecDepth 20000 in
theorem ggL_law_X6_risks : GoodIn wsL_law wsX6_risks := goodIn_r _ [511, 17, 21, 220, 221, 222, 223, 16, 224, 147, 100, 2, 101, 512, 513, 514, 20, 515, 516, 517, 518, 519, 495, 45, 46, 48, 520, 252, 253, 254, 255, 256, 257, 258, 259, 260, 261, 262, 39, 263, 264, 265, 266, 40, 698, 699, 700, 701, 702, 703, 704, 705, 736, 737, 738, 739, 740, 741, 742, 743, 744] (by decide +kernel) (by decide +kernel)
set_option maxRecDepth 20000 in
theorem gL_law_X6_risks : GoodIn wsL_law (wsV RL 72 RX6 yX6_risks wsX6_risks) := goodIn_app (goodIn_of _ (by decide +kernel)) ggL_law_X6_risks
set_option maxRecDepth 20000 in
theorem ggL_law_X7_risks : GoodIn wsL_law wsX7_risks := goodIn_r _ [524, 68, 229, 230, 231, 5, 232, 169, 177, 178, 179, 525, 526, 527, 528, 172, 79, 80, 81, 279, 280, 281, 282, 67, 283, 284, 285, 286, 69, 70, 706, 707, 708, 709, 710, 711, 712, 713, 714, 715, 716, 717, 718, 719, 720, 721, 722, 723, 724, 725, 726, 727, 728, 729, 730, 731, 732, 733, 734, 735] (by decide +kernel) (by decide +kernel)
set_option maxRecDepth 20000 in
theorem gL_law_X7_risks : GoodIn wsL_law (wsV RL 75 RX7 yX7_risks wsX7_risks) := goodIn_app (goodIn_of _ (by decide +kernel)) ggL_law_X7_risks
set_option maxRecDepth 20000 in
theorem ggL_law_X6_hurts : GoodIn wsL_law wsX6_hurts := goodIn_r _ [532, 17, 21, 220, 221, 222, 223, 16, 224, 147, 100, 2, 101, 512, 513, 514, 20, 515, 516, 517, 518, 519, 495, 45, 46, 48, 520, 252, 253, 254, 255, 256, 257, 258, 259, 260, 261, 262, 39, 263, 264, 265, 266, 40, 698, 699, 700, 701, 702, 703, 704, 705, 736, 737, 738, 739, 740, 741, 742, 743, 744] (by decide +kernel) (by decide +kernel)
set_option maxRecDepth 20000 in
theorem gL_law_X6_hurts : GoodIn wsL_law (wsV RL 76 RX6 yX6_hurts wsX6_hurts) := goodIn_app (goodIn_of _ (by decide +kernel)) ggL_law_X6_hurts
set_option maxRecDepth 20000 in
theorem ggL_law_X7_hurts : GoodIn wsL_law wsX7_hurts := goodIn_r _ [536, 69, 229, 230, 231, 5, 232, 169, 177, 178, 179, 525, 526, 527, 528, 172, 79, 80, 81, 279, 280, 281, 282, 67, 283, 284, 285, 286, 68, 70, 706, 707, 708, 709, 710, 711, 712, 713, 714, 715, 716, 717, 718, 719, 720, 721, 722, 723, 724, 725, 726, 727, 728, 729, 730, 731, 732, 733, 734, 735] (by decide +kernel) (by decide +kernel)
set_option maxRecDepth 20000 in
theorem gL_law_X7_hurts : GoodIn wsL_law (wsV RL 79 RX7 yX7_hurts wsX7_hurts) := goodIn_app (goodIn_of _ (by decide +kernel)) ggL_law_X7_hurts
set_option maxRecDepth 20000 in
theorem ggL_law_X6_kinds : GoodIn wsL_law wsX6_kinds := goodIn_r _ [540, 17, 21, 241, 243, 244, 245, 16, 246, 149, 100, 2, 101, 512, 513, 514, 20, 515, 516, 517, 518, 519, 495, 45, 46, 48, 520, 252, 253, 254, 255, 256, 257, 258, 259, 260, 261, 262, 39, 263, 264, 265, 266, 40, 698, 699, 700, 701, 702, 703, 704, 705, 736, 737, 738, 739, 740, 741, 742, 743, 744] (by decide +kernel) (by decide +kernel)
set_option maxRecDepth 20000 in
theorem gL_law_X6_kinds : GoodIn wsL_law (wsV RL 80 RX6 yX6_kinds wsX6_kinds) := goodIn_app (goodIn_of _ (by decide +kernel)) ggL_law_X6_kinds
set_option maxRecDepth 20000 in
theorem ggL_law_X7_kinds : GoodIn wsL_law wsX7_kinds := goodIn_r _ [544, 70, 271, 272, 273, 5, 274, 171, 177, 178, 179, 525, 526, 527, 528, 172, 79, 80, 81, 279, 280, 281, 282, 67, 283, 284, 285, 286, 68, 69, 706, 707, 708, 709, 710, 711, 712, 713, 714, 715, 716, 717, 718, 719, 720, 721, 722, 723, 724, 725, 726, 727, 728, 729, 730, 731, 732, 733, 734, 735] (by decide +kernel) (by decide +kernel)
set_option maxRecDepth 20000 in
theorem gL_law_X7_kinds : GoodIn wsL_law (wsV RL 83 RX7 yX7_kinds wsX7_kinds) := goodIn_app (goodIn_of _ (by decide +kernel)) ggL_law_X7_kinds
set_option maxRecDepth 20000 in
theorem ggL_law_X6_odds : GoodIn wsL_law wsX6_odds := goodIn_r _ [548, 17, 374, 441, 220, 549, 320, 321, 322, 16, 323, 149, 99, 100, 2, 101, 403, 404, 405, 406, 407, 408, 698, 699, 700, 701, 702, 703, 704, 705, 736, 737, 738, 739, 740] (by decide +kernel) (by decide +kernel)
set_option maxRecDepth 20000 in
theorem gL_law_X6_odds : GoodIn wsL_law (wsV RL 84 RX6 yX6_odds wsX6_odds) := goodIn_app (goodIn_of _ (by decide +kernel)) ggL_law_X6_odds
set_option maxRecDepth 20000 in
theorem ggL_law_X7_odds : GoodIn wsL_law wsX7_odds := goodIn_r _ [553, 171, 169, 176, 359, 68, 177, 178, 5, 179, 414, 415, 416, 417, 554, 555, 556, 434, 435, 436, 706, 707, 708, 709, 710, 711, 712, 713, 714, 715, 716, 717, 718, 719, 720, 721, 722, 723, 724, 725, 726, 727, 728, 729, 730, 731, 732, 733, 734, 735] (by decide +kernel) (by decide +kernel)
set_option maxRecDepth 20000 in
theorem gL_law_X7_odds : GoodIn wsL_law (wsV RL 88 RX7 yX7_odds wsX7_odds) := goodIn_app (goodIn_of _ (by decide +kernel)) ggL_law_X7_odds
set_option maxRecDepth 20000 in
theorem ggL_law_X6_sheet : GoodIn wsL_law wsX6_sheet := goodIn_r _ [560, 90, 13, 96, 97, 2, 98, 99, 100, 101, 107, 108, 109, 110, 561, 562, 563, 33, 564, 565, 566, 115, 62, 698, 699, 700, 701, 702, 703, 704, 705, 751, 752, 753, 754] (by decide +kernel) (by decide +kernel)
set_option maxRecDepth 20000 in
theorem gL_law_X6_sheet : GoodIn wsL_law (wsV RL 89 RX6 yX6_sheet wsX6_sheet) := goodIn_app (goodIn_of _ (by decide +kernel)) ggL_law_X6_sheet
set_option maxRecDepth 20000 in
theorem ggL_law_X7_sheet : GoodIn wsL_law wsX7_sheet := goodIn_r _ [570, 166, 82, 83, 84, 173, 174, 5, 175, 176, 177, 178, 179, 180, 181, 182, 183, 184, 189, 190, 191, 192, 706, 707, 708, 709, 710, 711, 712, 713, 714, 715, 716, 717, 718, 719, 720, 721, 722, 723, 724, 725, 726, 727, 728, 729, 730, 731, 732, 733, 734, 735] (by decide +kernel) (by decide +kernel)
set_option maxRecDepth 20000 in
theorem gL_law_X7_sheet : GoodIn wsL_law (wsV RL 92 RX7 yX7_sheet wsX7_sheet) := goodIn_app (goodIn_of _ (by decide +kernel)) ggL_law_X7_sheet
set_option maxRecDepth 20000 in
theorem ggL_law_X6_lose : GoodIn wsL_law wsX6_lose := goodIn_r _ [574, 13, 105, 96, 97, 2, 98, 99, 100, 101, 698, 699, 700, 701, 702, 703, 704, 705, 751, 752, 753, 754] (by decide +kernel) (by decide +kernel)
set_option maxRecDepth 20000 in
theorem gL_law_X6_lose : GoodIn wsL_law (wsV RL 93 RX6 yX6_lose wsX6_lose) := goodIn_app (goodIn_of _ (by decide +kernel)) ggL_law_X6_lose
set_option maxRecDepth 20000 in
theorem ggL_law_X7_lose : GoodIn wsL_law wsX7_lose := goodIn_r _ [578, 82, 173, 174, 5, 175, 176, 177, 178, 179, 706, 707, 708, 709, 710, 711, 712, 713, 714, 715, 716, 717, 718, 719, 720, 721, 722, 723, 724, 725, 726, 727, 728, 729, 730, 731, 732, 733, 734, 735] (by decide +kernel) (by decide +kernel)
set_option maxRecDepth 20000 in
theorem gL_law_X7_lose : GoodIn wsL_law (wsV RL 96 RX7 yX7_lose wsX7_lose) := goodIn_app (goodIn_of _ (by decide +kernel)) ggL_law_X7_lose
set_option maxRecDepth 20000 in
theorem ggL_law_X6_put : GoodIn wsL_law wsX6_put := goodIn_r _ [582, 90, 13, 105, 583, 328, 96, 97, 2, 98, 99, 100, 101, 107, 108, 109, 110, 584, 585, 586, 33, 587, 566, 698, 699, 700, 701, 702, 703, 704, 705, 751, 752, 753, 754] (by decide +kernel) (by decide +kernel)
set_option maxRecDepth 20000 in
theorem gL_law_X6_put : GoodIn wsL_law (wsV RL 97 RX6 yX6_put wsX6_put) := goodIn_app (goodIn_of _ (by decide +kernel)) ggL_law_X6_put
set_option maxRecDepth 20000 in
theorem ggL_law_X7_put : GoodIn wsL_law wsX7_put := goodIn_r _ [591, 84, 83, 173, 174, 5, 175, 176, 177, 178, 179, 180, 181, 182, 183, 184, 592, 593, 594, 595, 82, 189, 190, 191, 192, 706, 707, 708, 709, 710, 711, 712, 713, 714, 715, 716, 717, 718, 719, 720, 721, 722, 723, 724, 725, 726, 727, 728, 729, 730, 731, 732, 733, 734, 735] (by decide +kernel) (by decide +kernel)
set_option maxRecDepth 20000 in
theorem gL_law_X7_put : GoodIn wsL_law (wsV RL 100 RX7 yX7_put wsX7_put) := goodIn_app (goodIn_of _ (by decide +kernel)) ggL_law_X7_put
set_option maxRecDepth 20000 in
theorem ggL_law_X6_cell : GoodIn wsL_law wsX6_cell := goodIn_r _ [599, 90, 374, 13, 583, 328, 96, 97, 2, 98, 99, 100, 101, 102, 103, 104, 105, 106, 698, 699, 700, 701, 702, 703, 704, 705, 751, 752, 753, 754] (by decide +kernel) (by decide +kernel)
set_option maxRecDepth 20000 in
theorem gL_law_X6_cell : GoodIn wsL_law (wsV RL 101 RX6 yX6_cell wsX6_cell) := goodIn_app (goodIn_of _ (by decide +kernel)) ggL_law_X6_cell
set_option maxRecDepth 20000 in
theorem ggL_law_X7_cell : GoodIn wsL_law wsX7_cell := goodIn_r _ [603, 184, 166, 82, 83, 84, 173, 174, 5, 175, 176, 177, 178, 179, 414, 415, 416, 417, 604, 605, 606, 607, 592, 593, 594, 595, 706, 707, 708, 709, 710, 711, 712, 713, 714, 715, 716, 717, 718, 719, 720, 721, 722, 723, 724, 725, 726, 727, 728, 729, 730, 731, 732, 733, 734, 735] (by decide +kernel) (by decide +kernel)
set_option maxRecDepth 20000 in
theorem gL_law_X7_cell : GoodIn wsL_law (wsV RL 104 RX7 yX7_cell wsX7_cell) := goodIn_app (goodIn_of _ (by decide +kernel)) ggL_law_X7_cell
set_option maxRecDepth 20000 in
theorem ggL_law_X6_copy : GoodIn wsL_law wsX6_copy := goodIn_r _ [611, 90, 13, 105, 106, 328, 612, 613, 614, 615, 96, 97, 2, 98, 99, 100, 101, 107, 108, 109, 110, 111, 112, 113, 33, 114, 115, 698, 699, 700, 701, 702, 703, 704, 705, 751, 752, 753, 754] (by decide +kernel) (by decide +kernel)
set_option maxRecDepth 20000 in
theorem gL_law_X6_copy : GoodIn wsL_law (wsV RL 105 RX6 yX6_copy wsX6_copy) := goodIn_app (goodIn_of _ (by decide +kernel)) ggL_law_X6_copy
set_option maxRecDepth 20000 in
theorem ggL_law_X7_copy : GoodIn wsL_law wsX7_copy := goodIn_r _ [619, 82, 83, 85, 84, 173, 174, 5, 175, 176, 177, 178, 179, 180, 181, 182, 183, 184, 189, 190, 191, 192, 193, 194, 195, 706, 707, 708, 709, 710, 711, 712, 713, 714, 715, 716, 717, 718, 719, 720, 721, 722, 723, 724, 725, 726, 727, 728, 729, 730, 731, 732, 733, 734, 735] (by decide +kernel) (by decide +kernel)
set_option maxRecDepth 20000 in
theorem gL_law_X7_copy : GoodIn wsL_law (wsV RL 108 RX7 yX7_copy wsX7_copy) := goodIn_app (goodIn_of _ (by decide +kernel)) ggL_law_X7_copy
set_option maxRecDepth 20000 in
theorem ggL_law_X6_tell : GoodIn wsL_law wsX6_tell := goodIn_r _ [623, 17, 241, 243, 244, 245, 16, 246, 149, 100, 2, 101, 624, 625, 626, 627, 628, 629, 630, 631, 632, 633, 634, 635, 636, 637, 638, 639, 640, 242, 698, 699, 700, 701, 702, 703, 704, 705, 736, 737, 738, 739, 740] (by decide +kernel) (by decide +kernel)
set_option maxRecDepth 20000 in
theorem gL_law_X6_tell : GoodIn wsL_law (wsV RL 109 RX6 yX6_tell wsX6_tell) := goodIn_app (goodIn_of _ (by decide +kernel)) ggL_law_X6_tell
set_option maxRecDepth 20000 in
theorem ggL_law_X7_tell : GoodIn wsL_law wsX7_tell := goodIn_r _ [644, 70, 71, 271, 272, 273, 5, 274, 171, 177, 178, 179, 645, 646, 647, 648, 649, 706, 707, 708, 709, 710, 711, 712, 713, 714, 715, 716, 717, 718, 719, 720, 721, 722, 723, 724, 725, 726, 727, 728, 729, 730, 731, 732, 733, 734, 735] (by decide +kernel) (by decide +kernel)
set_option maxRecDepth 20000 in
theorem gL_law_X7_tell : GoodIn wsL_law (wsV RL 112 RX7 yX7_tell wsX7_tell) := goodIn_app (goodIn_of _ (by decide +kernel)) ggL_law_X7_tell
set_option maxRecDepth 20000 in
theorem ggL_law_X6_name : GoodIn wsL_law wsX6_name := goodIn_r _ [653, 17, 241, 243, 244, 245, 16, 246, 149, 100, 2, 101, 628, 629, 630, 631, 632, 698, 699, 700, 701, 702, 703, 704, 705, 736, 737, 738, 739, 740] (by decide +kernel) (by decide +kernel)
set_option maxRecDepth 20000 in
theorem gL_law_X6_name : GoodIn wsL_law (wsV RL 113 RX6 yX6_name wsX6_name) := goodIn_app (goodIn_of _ (by decide +kernel)) ggL_law_X6_name
set_option maxRecDepth 20000 in
theorem ggL_law_X7_name : GoodIn wsL_law wsX7_name := goodIn_r _ [657, 70, 271, 272, 273, 5, 274, 171, 177, 178, 179, 645, 646, 647, 648, 649, 706, 707, 708, 709, 710, 711, 712, 713, 714, 715, 716, 717, 718, 719, 720, 721, 722, 723, 724, 725, 726, 727, 728, 729, 730, 731, 732, 733, 734, 735] (by decide +kernel) (by decide +kernel)
set_option maxRecDepth 20000 in
theorem gL_law_X7_name : GoodIn wsL_law (wsV RL 116 RX7 yX7_name wsX7_name) := goodIn_app (goodIn_of _ (by decide +kernel)) ggL_law_X7_name
set_option maxRecDepth 20000 in
theorem ggL_law_X6_as : GoodIn wsL_law wsX6_as := goodIn_r _ [661, 90, 17, 241, 243, 244, 245, 16, 246, 149, 100, 2, 101, 99, 107, 108, 109, 110, 698, 699, 700, 701, 702, 703, 704, 705, 736, 737, 738, 739, 740] (by decide +kernel) (by decide +kernel)
set_option maxRecDepth 20000 in
theorem gL_law_X6_as : GoodIn wsL_law (wsV RL 117 RX6 yX6_as wsX6_as) := goodIn_app (goodIn_of _ (by decide +kernel)) ggL_law_X6_as
set_option maxRecDepth 20000 in
theorem ggL_law_X7_as : GoodIn wsL_law wsX7_as := goodIn_r _ [665, 166, 70, 271, 272, 273, 5, 274, 171, 177, 178, 179, 180, 181, 182, 183, 184, 189, 190, 191, 192, 706, 707, 708, 709, 710, 711, 712, 713, 714, 715, 716, 717, 718, 719, 720, 721, 722, 723, 724, 725, 726, 727, 728, 729, 730, 731, 732, 733, 734, 735] (by decide +kernel) (by decide +kernel)
set_option maxRecDepth 20000 in
theorem gL_law_X7_as : GoodIn wsL_law (wsV RL 120 RX7 yX7_as wsX7_as) := goodIn_app (goodIn_of _ (by decide +kernel)) ggL_law_X7_as
set_option maxRecDepth 20000 in
theorem ggL_law_X6_trace : GoodIn wsL_law wsX6_trace := goodIn_r _ [669, 632, 698, 699, 700, 701, 702, 703, 704, 705] (by decide +kernel) (by decide +kernel)
set_option maxRecDepth 20000 in
theorem gL_law_X6_trace : GoodIn wsL_law (wsV RL 121 RX6 yX6_trace wsX6_trace) := goodIn_app (goodIn_of _ (by decide +kernel)) ggL_law_X6_trace
set_option maxRecDepth 20000 in
theorem ggL_law_X7_trace : GoodIn wsL_law wsX7_trace := goodIn_r _ [673, 649, 706, 707, 708, 709, 710, 711, 712, 713, 714, 715, 716, 717, 718, 719, 720, 721, 722, 723, 724, 725, 726, 727, 728, 729, 730, 731, 732, 733, 734, 735] (by decide +kernel) (by decide +kernel)
set_option maxRecDepth 20000 in
theorem gL_law_X7_trace : GoodIn wsL_law (wsV RL 125 RX7 yX7_trace wsX7_trace) := goodIn_app (goodIn_of _ (by decide +kernel)) ggL_law_X7_trace
set_option maxRecDepth 20000 in
theorem ggL_law_X6_fault : GoodIn wsL_law wsX6_fault := goodIn_r _ [677, 90, 698, 699, 700, 701, 702, 703, 704, 705] (by decide +kernel) (by decide +kernel)
set_option maxRecDepth 20000 in
theorem gL_law_X6_fault : GoodIn wsL_law (wsV RL 126 RX6 yX6_fault wsX6_fault) := goodIn_app (goodIn_of _ (by decide +kernel)) ggL_law_X6_fault
set_option maxRecDepth 20000 in
theorem ggL_law_X7_fault : GoodIn wsL_law wsX7_fault := goodIn_r _ [681, 184, 706, 707, 708, 709, 710, 711, 712, 713, 714, 715, 716, 717, 718, 719, 720, 721, 722, 723, 724, 725, 726, 727, 728, 729, 730, 731, 732, 733, 734, 735] (by decide +kernel) (by decide +kernel)
set_option maxRecDepth 20000 in
theorem gL_law_X7_fault : GoodIn wsL_law (wsV RL 129 RX7 yX7_fault wsX7_fault) := goodIn_app (goodIn_of _ (by decide +kernel)) ggL_law_X7_fault
set_option maxRecDepth 20000 in
theorem ggL_law_X6_many : GoodIn wsL_law wsX6_many := goodIn_r _ [685, 17, 95, 441, 21, 94, 686, 687, 688, 16, 689, 149, 41, 698, 699, 700, 701, 702, 703, 704, 705, 736, 737, 738, 739, 740, 741, 742, 743, 744] (by decide +kernel) (by decide +kernel)
set_option maxRecDepth 20000 in
theorem gL_law_X6_many : GoodIn wsL_law (wsV RL 130 RX6 yX6_many wsX6_many) := goodIn_app (goodIn_of _ (by decide +kernel)) ggL_law_X6_many
set_option maxRecDepth 20000 in
theorem ggL_law_X7_many : GoodIn wsL_law wsX7_many := goodIn_r _ [693, 171, 169, 172, 694, 695, 696, 5, 697, 71, 706, 707, 708, 709, 710, 711, 712, 713, 714, 715, 716, 717, 718, 719, 720, 721, 722, 723, 724, 725, 726, 727, 728, 729, 730, 731, 732, 733, 734, 735] (by decide +kernel) (by decide +kernel)
set_option maxRecDepth 20000 in
theorem gL_law_X7_many : GoodIn wsL_law (wsV RL 133 RX7 yX7_many wsX7_many) := goodIn_app (goodIn_of _ (by decide +kernel)) ggL_law_X7_many
