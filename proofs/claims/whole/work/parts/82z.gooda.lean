set_option maxRecDepth 20000 in
theorem ggL_law_X7_init : GoodIn wsL_law wsX7_init := goodIn_r _ [8, 9, 10, 11, 12, 13, 14, 15, 16, 17, 18, 19, 20, 21, 22, 23, 24, 25, 26, 27, 28, 29, 30, 31, 32, 33, 34, 35, 36, 37, 38, 39, 40, 41, 42, 43, 44, 45, 46, 47, 48, 49, 50, 51, 52, 53, 54, 55, 56, 57, 58, 59, 60, 61, 62, 63, 64, 65, 66, 67, 68, 69, 70, 71, 72, 73, 74, 75, 76, 77, 78, 79, 80, 81, 82, 83, 84, 85, 86, 87, 88, 89, 90, 91, 92, 93, 94, 95, 96, 97, 98, 99, 100, 101, 102, 103, 104, 105, 106, 107, 108, 109, 110, 111, 112, 113, 114, 708, 709, 710, 711, 712, 713, 714, 715, 716, 717, 718, 719, 683, 684, 685, 686, 687, 688, 689, 720, 721, 722, 723, 724, 725, 726, 727, 728, 729, 730, 731, 732, 733, 734, 735, 736, 737] (by decide +kernel) (by decide +kernel)
set_option maxRecDepth 20000 in
theorem gL_law_X7_init : GoodIn wsL_law (wsX7_init) := ggL_law_X7_init
set_option maxRecDepth 20000 in
theorem ggL_law_X8_init : GoodIn wsL_law wsX8_init := goodIn_r _ [117, 118, 10, 11, 62, 119, 120, 121, 122, 123, 124, 125, 690, 691, 692, 693, 694, 695, 696, 697, 698, 699, 700, 701, 702, 703, 704, 705, 706, 707] (by decide +kernel) (by decide +kernel)
set_option maxRecDepth 20000 in
theorem gL_law_X8_init : GoodIn wsL_law (wsX8_init) := ggL_law_X8_init
set_option maxRecDepth 20000 in
theorem ggL_law_X7_card : GoodIn wsL_law wsX7_card := goodIn_r _ [129, 16, 15, 130, 131, 132, 14, 133, 42, 43, 44, 45, 46, 47, 48, 49, 50, 51, 52, 53, 134, 135, 136, 35, 137, 63, 138, 139, 60, 140, 141, 142, 143, 144, 145, 146, 147, 148, 149, 150, 151, 152, 153, 154, 2, 155, 156, 157, 158, 159, 69, 70, 71, 72, 64, 160, 161, 162, 163, 20, 164, 165, 166, 19, 167, 79, 78, 168, 169, 170, 171, 172, 683, 684, 685, 686, 687, 688, 689, 708, 709, 710, 711, 712, 713, 714, 715, 716, 717, 718, 719, 733, 734, 720, 721] (by decide +kernel) (by decide +kernel)
set_option maxRecDepth 20000 in
theorem gL_law_X7_card : GoodIn wsL_law (wsV RL 13 RX7 yX7_card wsX7_card) := goodIn_app (goodIn_of _ (by decide +kernel)) ggL_law_X7_card
set_option maxRecDepth 20000 in
theorem ggL_law_X8_card : GoodIn wsL_law wsX8_card := goodIn_r _ [176, 177, 178, 179, 5, 180, 120, 119, 181, 182, 183, 184, 185, 186, 187, 188, 189, 190, 191, 192, 193, 194, 195, 196, 197, 198, 199, 200, 201, 121, 202, 203, 204, 205, 690, 691, 692, 693, 694, 695, 696, 697, 698, 699, 700, 701, 702, 703, 704, 705, 706, 707] (by decide +kernel) (by decide +kernel)
set_option maxRecDepth 20000 in
theorem gL_law_X8_card : GoodIn wsL_law (wsV RL 17 RX8 yX8_card wsX8_card) := goodIn_app (goodIn_of _ (by decide +kernel)) ggL_law_X8_card
set_option maxRecDepth 20000 in
theorem ggL_law_X7_weather : GoodIn wsL_law wsX7_weather := goodIn_r _ [209, 16, 15, 130, 131, 132, 14, 133, 42, 43, 44, 45, 46, 47, 48, 49, 50, 51, 52, 53, 134, 135, 136, 35, 137, 63, 138, 139, 60, 140, 141, 142, 143, 144, 210, 211, 212, 213, 149, 154, 2, 155, 151, 152, 153, 65, 66, 67, 68, 69, 70, 71, 72, 64, 214, 215, 216, 217, 218, 219, 220, 221, 222, 223, 224, 225, 226, 227, 228, 229, 230, 231, 232, 160, 161, 162, 163, 20, 164, 165, 166, 19, 167, 79, 78, 168, 169, 170, 171, 172, 683, 684, 685, 686, 687, 688, 689, 708, 709, 710, 711, 712, 713, 714, 715, 716, 717, 718, 719, 733, 734, 720, 721] (by decide +kernel) (by decide +kernel)
set_option maxRecDepth 20000 in
theorem gL_law_X7_weather : GoodIn wsL_law (wsV RL 18 RX7 yX7_weather wsX7_weather) := goodIn_app (goodIn_of _ (by decide +kernel)) ggL_law_X7_weather
set_option maxRecDepth 20000 in
theorem ggL_law_X8_weather : GoodIn wsL_law wsX8_weather := goodIn_r _ [236, 177, 178, 179, 5, 180, 120, 119, 237, 238, 239, 240, 185, 190, 191, 192, 187, 188, 189, 241, 242, 243, 244, 245, 246, 247, 248, 249, 250, 251, 252, 253, 254, 255, 256, 257, 258, 259, 197, 198, 199, 200, 201, 121, 202, 203, 204, 205, 690, 691, 692, 693, 694, 695, 696, 697, 698, 699, 700, 701, 702, 703, 704, 705, 706, 707] (by decide +kernel) (by decide +kernel)
set_option maxRecDepth 20000 in
theorem gL_law_X8_weather : GoodIn wsL_law (wsV RL 22 RX8 yX8_weather wsX8_weather) := goodIn_app (goodIn_of _ (by decide +kernel)) ggL_law_X8_weather
set_option maxRecDepth 20000 in
theorem ggL_law_X7_fly : GoodIn wsL_law wsX7_fly := goodIn_r _ [263, 16, 15, 130, 131, 132, 14, 133, 42, 43, 44, 45, 46, 47, 48, 49, 50, 51, 52, 53, 134, 135, 136, 35, 137, 63, 138, 139, 60, 140, 141, 142, 143, 144, 264, 265, 266, 267, 149, 268, 156, 157, 158, 159, 154, 2, 155, 269, 270, 271, 272, 273, 274, 275, 276, 222, 223, 224, 225, 64, 218, 219, 220, 221, 277, 278, 279, 280, 281, 282, 283, 284, 285, 286, 287, 288, 289, 290, 291, 69, 70, 71, 72, 160, 161, 162, 163, 20, 164, 165, 166, 19, 167, 79, 78, 168, 169, 170, 171, 172, 683, 684, 685, 686, 687, 688, 689, 708, 709, 710, 711, 712, 713, 714, 715, 716, 717, 718, 719, 733, 734, 720, 721] (by decide +kernel) (by decide +kernel)
set_option maxRecDepth 20000 in
theorem gL_law_X7_fly : GoodIn wsL_law (wsV RL 23 RX7 yX7_fly wsX7_fly) := goodIn_app (goodIn_of _ (by decide +kernel)) ggL_law_X7_fly
set_option maxRecDepth 20000 in
theorem ggL_law_X8_fly : GoodIn wsL_law wsX8_fly := goodIn_r _ [295, 177, 178, 179, 5, 180, 120, 119, 296, 297, 298, 299, 185, 300, 301, 302, 303, 304, 190, 191, 192, 305, 306, 307, 308, 253, 254, 255, 256, 309, 310, 311, 312, 245, 246, 247, 248, 249, 250, 251, 252, 313, 314, 315, 316, 193, 194, 195, 196, 197, 198, 199, 200, 201, 121, 202, 203, 204, 205, 690, 691, 692, 693, 694, 695, 696, 697, 698, 699, 700, 701, 702, 703, 704, 705, 706, 707] (by decide +kernel) (by decide +kernel)
set_option maxRecDepth 20000 in
theorem gL_law_X8_fly : GoodIn wsL_law (wsV RL 27 RX8 yX8_fly wsX8_fly) := goodIn_app (goodIn_of _ (by decide +kernel)) ggL_law_X8_fly
set_option maxRecDepth 20000 in
theorem ggL_law_X7_waive : GoodIn wsL_law wsX7_waive := goodIn_r _ [320, 16, 15, 130, 131, 132, 14, 133, 42, 43, 44, 45, 46, 47, 48, 49, 50, 51, 52, 53, 134, 135, 136, 35, 137, 63, 138, 139, 60, 140, 141, 142, 143, 144, 321, 322, 323, 324, 149, 268, 156, 157, 158, 159, 273, 274, 275, 276, 222, 223, 224, 225, 64, 69, 70, 71, 72, 160, 161, 162, 2, 163, 20, 164, 165, 166, 19, 167, 79, 78, 168, 169, 170, 171, 172, 683, 684, 685, 686, 687, 688, 689, 708, 709, 710, 711, 712, 713, 714, 715, 716, 717, 718, 719, 733, 734, 720, 721] (by decide +kernel) (by decide +kernel)
set_option maxRecDepth 20000 in
theorem gL_law_X7_waive : GoodIn wsL_law (wsV RL 28 RX7 yX7_waive wsX7_waive) := goodIn_app (goodIn_of _ (by decide +kernel)) ggL_law_X7_waive
set_option maxRecDepth 20000 in
theorem ggL_law_X8_waive : GoodIn wsL_law wsX8_waive := goodIn_r _ [328, 185, 300, 177, 178, 179, 5, 180, 120, 119, 301, 302, 303, 304, 190, 191, 192, 309, 310, 311, 312, 253, 254, 255, 256, 193, 194, 195, 196, 197, 198, 199, 200, 201, 121, 202, 203, 204, 205, 690, 691, 692, 693, 694, 695, 696, 697, 698, 699, 700, 701, 702, 703, 704, 705, 706, 707] (by decide +kernel) (by decide +kernel)
set_option maxRecDepth 20000 in
theorem gL_law_X8_waive : GoodIn wsL_law (wsV RL 32 RX8 yX8_waive wsX8_waive) := goodIn_app (goodIn_of _ (by decide +kernel)) ggL_law_X8_waive
set_option maxRecDepth 20000 in
theorem ggL_law_X7_reopen : GoodIn wsL_law wsX7_reopen := goodIn_r _ [332, 16, 15, 130, 131, 132, 14, 133, 42, 43, 44, 45, 46, 47, 48, 49, 50, 51, 52, 53, 134, 135, 136, 35, 137, 63, 138, 139, 60, 140, 141, 142, 143, 144, 333, 334, 335, 336, 149, 268, 156, 157, 158, 159, 273, 274, 275, 276, 222, 223, 224, 225, 64, 337, 338, 339, 340, 341, 342, 343, 344, 69, 70, 71, 72, 226, 227, 228, 229, 230, 231, 232, 160, 161, 162, 2, 163, 20, 164, 165, 166, 19, 167, 79, 78, 168, 169, 170, 171, 172, 683, 684, 685, 686, 687, 688, 689, 708, 709, 710, 711, 712, 713, 714, 715, 716, 717, 718, 719, 733, 734, 720, 721] (by decide +kernel) (by decide +kernel)
set_option maxRecDepth 20000 in
theorem gL_law_X7_reopen : GoodIn wsL_law (wsV RL 33 RX7 yX7_reopen wsX7_reopen) := goodIn_app (goodIn_of _ (by decide +kernel)) ggL_law_X7_reopen
set_option maxRecDepth 20000 in
theorem ggL_law_X8_reopen : GoodIn wsL_law wsX8_reopen := goodIn_r _ [348, 185, 300, 177, 178, 179, 5, 180, 120, 119, 301, 302, 303, 304, 190, 191, 192, 309, 310, 311, 312, 253, 254, 255, 256, 349, 350, 351, 352, 193, 194, 195, 196, 353, 354, 355, 356, 197, 198, 199, 200, 201, 121, 202, 203, 204, 205, 690, 691, 692, 693, 694, 695, 696, 697, 698, 699, 700, 701, 702, 703, 704, 705, 706, 707] (by decide +kernel) (by decide +kernel)
set_option maxRecDepth 20000 in
theorem gL_law_X8_reopen : GoodIn wsL_law (wsV RL 36 RX8 yX8_reopen wsX8_reopen) := goodIn_app (goodIn_of _ (by decide +kernel)) ggL_law_X8_reopen
set_option maxRecDepth 20000 in
theorem ggL_law_X7_pass : GoodIn wsL_law wsX7_pass := goodIn_r _ [360, 16, 15, 130, 131, 132, 14, 133, 42, 43, 44, 45, 46, 47, 48, 49, 50, 51, 52, 53, 134, 135, 136, 35, 137, 63, 138, 139, 60, 140, 141, 142, 143, 144, 361, 362, 363, 364, 149, 150, 154, 2, 155, 365, 366, 367, 368, 281, 282, 283, 160, 161, 162, 163, 20, 164, 165, 166, 19, 167, 79, 78, 168, 169, 170, 171, 172, 683, 684, 685, 686, 687, 688, 689, 708, 709, 710, 711, 712, 713, 714, 715, 716, 717, 718, 719, 733, 734, 720, 721] (by decide +kernel) (by decide +kernel)
set_option maxRecDepth 20000 in
theorem gL_law_X7_pass : GoodIn wsL_law (wsV RL 37 RX7 yX7_pass wsX7_pass) := goodIn_app (goodIn_of _ (by decide +kernel)) ggL_law_X7_pass
set_option maxRecDepth 20000 in
theorem ggL_law_X8_pass : GoodIn wsL_law wsX8_pass := goodIn_r _ [372, 177, 178, 179, 5, 180, 120, 119, 373, 374, 375, 376, 185, 186, 190, 191, 192, 377, 378, 379, 380, 197, 198, 199, 200, 201, 121, 202, 203, 204, 205, 690, 691, 692, 693, 694, 695, 696, 697, 698, 699, 700, 701, 702, 703, 704, 705, 706, 707] (by decide +kernel) (by decide +kernel)
set_option maxRecDepth 20000 in
theorem gL_law_X8_pass : GoodIn wsL_law (wsV RL 40 RX8 yX8_pass wsX8_pass) := goodIn_app (goodIn_of _ (by decide +kernel)) ggL_law_X8_pass
set_option maxRecDepth 20000 in
theorem ggL_law_X7_set : GoodIn wsL_law wsX7_set := goodIn_r _ [384, 16, 15, 130, 131, 132, 14, 133, 42, 43, 44, 45, 46, 47, 48, 49, 50, 51, 52, 53, 134, 135, 136, 35, 137, 63, 138, 139, 60, 140, 141, 142, 143, 144, 385, 386, 387, 388, 149, 154, 2, 155, 222, 223, 224, 225, 64, 69, 70, 71, 72, 160, 161, 162, 163, 20, 164, 165, 166, 19, 167, 79, 78, 168, 169, 170, 171, 172, 683, 684, 685, 686, 687, 688, 689, 708, 709, 710, 711, 712, 713, 714, 715, 716, 717, 718, 719, 733, 734, 720, 721] (by decide +kernel) (by decide +kernel)
set_option maxRecDepth 20000 in
theorem gL_law_X7_set : GoodIn wsL_law (wsV RL 41 RX7 yX7_set wsX7_set) := goodIn_app (goodIn_of _ (by decide +kernel)) ggL_law_X7_set
set_option maxRecDepth 20000 in
theorem ggL_law_X8_set : GoodIn wsL_law wsX8_set := goodIn_r _ [392, 185, 119, 177, 178, 179, 5, 180, 120, 190, 191, 192, 197, 198, 199, 200, 201, 121, 202, 203, 204, 205, 690, 691, 692, 693, 694, 695, 696, 697, 698, 699, 700, 701, 702, 703, 704, 705, 706, 707] (by decide +kernel) (by decide +kernel)
set_option maxRecDepth 20000 in
theorem gL_law_X8_set : GoodIn wsL_law (wsV RL 44 RX8 yX8_set wsX8_set) := goodIn_app (goodIn_of _ (by decide +kernel)) ggL_law_X8_set
set_option maxRecDepth 20000 in
theorem ggL_law_X7_why : GoodIn wsL_law wsX7_why := goodIn_r _ [396, 15, 397, 398, 157, 158, 14, 159, 46, 399, 154, 2, 155, 400, 270, 271, 272, 42, 47, 273, 274, 275, 276, 222, 223, 224, 35, 225, 64, 63, 218, 219, 220, 221, 43, 277, 278, 279, 280, 48, 49, 50, 45, 281, 282, 283, 683, 684, 685, 686, 687, 688, 689, 708, 709, 710, 711, 712, 713, 714, 715, 716, 717, 718, 719, 733, 734] (by decide +kernel) (by decide +kernel)
set_option maxRecDepth 20000 in
theorem gL_law_X7_why : GoodIn wsL_law (wsV RL 45 RX7 yX7_why wsX7_why) := goodIn_app (goodIn_of _ (by decide +kernel)) ggL_law_X7_why
set_option maxRecDepth 20000 in
theorem ggL_law_X8_why : GoodIn wsL_law wsX8_why := goodIn_r _ [404, 185, 301, 302, 303, 5, 304, 119, 190, 191, 192, 187, 188, 189, 305, 306, 307, 308, 253, 254, 255, 256, 309, 310, 311, 312, 245, 246, 247, 248, 249, 250, 251, 252, 690, 691, 692, 693, 694, 695, 696, 697, 698, 699, 700, 701, 702, 703, 704, 705, 706, 707] (by decide +kernel) (by decide +kernel)
set_option maxRecDepth 20000 in
theorem gL_law_X8_why : GoodIn wsL_law (wsV RL 48 RX8 yX8_why wsX8_why) := goodIn_app (goodIn_of _ (by decide +kernel)) ggL_law_X8_why
set_option maxRecDepth 20000 in
theorem ggL_law_X7_cardOf : GoodIn wsL_law wsX7_cardOf := goodIn_r _ [408, 15, 397, 409, 398, 157, 158, 14, 159, 46, 399, 154, 2, 155, 410, 338, 339, 340, 42, 222, 223, 224, 35, 225, 64, 63, 411, 227, 228, 229, 230, 231, 232, 412, 413, 414, 415, 416, 683, 684, 685, 686, 687, 688, 689, 708, 709, 710, 711, 712, 713, 714, 715, 716, 717, 718, 719, 733, 734] (by decide +kernel) (by decide +kernel)
set_option maxRecDepth 20000 in
theorem gL_law_X7_cardOf : GoodIn wsL_law (wsV RL 49 RX7 yX7_cardOf wsX7_cardOf) := goodIn_app (goodIn_of _ (by decide +kernel)) ggL_law_X7_cardOf
set_option maxRecDepth 20000 in
theorem ggL_law_X8_cardOf : GoodIn wsL_law wsX8_cardOf := goodIn_r _ [420, 185, 421, 301, 302, 303, 5, 304, 119, 190, 191, 192, 253, 254, 255, 256, 422, 423, 424, 425, 353, 354, 355, 356, 426, 427, 428, 429, 690, 691, 692, 693, 694, 695, 696, 697, 698, 699, 700, 701, 702, 703, 704, 705, 706, 707] (by decide +kernel) (by decide +kernel)
set_option maxRecDepth 20000 in
theorem gL_law_X8_cardOf : GoodIn wsL_law (wsV RL 52 RX8 yX8_cardOf wsX8_cardOf) := goodIn_app (goodIn_of _ (by decide +kernel)) ggL_law_X8_cardOf
set_option maxRecDepth 20000 in
theorem ggL_law_X7_flightOf : GoodIn wsL_law wsX7_flightOf := goodIn_r _ [433, 397, 15, 409, 399, 154, 2, 155, 434, 435, 436, 14, 437, 51, 438, 139, 60, 140, 439, 440, 441, 442, 416, 223, 224, 35, 225, 64, 63, 683, 684, 685, 686, 687, 688, 689, 708, 709, 710, 711, 712, 713, 714, 715, 716, 717, 718, 719, 733, 734] (by decide +kernel) (by decide +kernel)
set_option maxRecDepth 20000 in
theorem gL_law_X7_flightOf : GoodIn wsL_law (wsV RL 53 RX7 yX7_flightOf wsX7_flightOf) := goodIn_app (goodIn_of _ (by decide +kernel)) ggL_law_X7_flightOf
set_option maxRecDepth 20000 in
theorem ggL_law_X8_flightOf : GoodIn wsL_law wsX8_flightOf := goodIn_r _ [446, 185, 119, 421, 190, 191, 5, 192, 690, 691, 692, 693, 694, 695, 696, 697, 698, 699, 700, 701, 702, 703, 704, 705, 706, 707] (by decide +kernel) (by decide +kernel)
set_option maxRecDepth 20000 in
theorem gL_law_X8_flightOf : GoodIn wsL_law (wsV RL 56 RX8 yX8_flightOf wsX8_flightOf) := goodIn_app (goodIn_of _ (by decide +kernel)) ggL_law_X8_flightOf
set_option maxRecDepth 20000 in
theorem ggL_law_X7_weatherOf : GoodIn wsL_law wsX7_weatherOf := goodIn_r _ [450, 397, 15, 399, 154, 2, 155, 451, 215, 216, 14, 217, 46, 218, 219, 220, 221, 43, 42, 222, 223, 224, 35, 225, 64, 63, 416, 683, 684, 685, 686, 687, 688, 689, 708, 709, 710, 711, 712, 713, 714, 715, 716, 717, 718, 719, 733, 734] (by decide +kernel) (by decide +kernel)
set_option maxRecDepth 20000 in
theorem gL_law_X7_weatherOf : GoodIn wsL_law (wsV RL 57 RX7 yX7_weatherOf wsX7_weatherOf) := goodIn_app (goodIn_of _ (by decide +kernel)) ggL_law_X7_weatherOf
