set_option maxRecDepth 20000 in
theorem gL_acts_X7_weatherOf : GoodIn wsL_acts (wsV RL 23 RX7 yX7_weatherOf wsX7_weatherOf) := goodIn_app (goodIn_of _ (by decide +kernel)) ggL_acts_X7_weatherOf
set_option maxRecDepth 20000 in
theorem ggL_acts_X7_why : GoodIn wsL_acts wsX7_why := goodIn_r _ [146, 14, 17, 30, 31, 32, 33, 34, 35, 36, 37, 12, 38, 147, 148, 149, 150, 43, 68, 151, 152, 153, 154, 44, 19, 20, 21, 22, 23, 24, 133, 134, 135, 136, 65, 155, 156, 157, 158, 69, 70, 71, 67, 159, 160, 161, 316, 317, 318, 319, 320, 321, 322, 323, 324, 325, 326, 327, 328, 329, 330, 331, 332, 333, 334, 339, 340] (by decide +kernel) (by decide +kernel)
set_option maxRecDepth 20000 in
theorem gL_acts_X7_why : GoodIn wsL_acts (wsV RL 29 RX7 yX7_why wsX7_why) := goodIn_app (goodIn_of _ (by decide +kernel)) ggL_acts_X7_why
set_option maxRecDepth 20000 in
theorem ggL_acts_X7_fly : GoodIn wsL_acts wsX7_fly := goodIn_r _ [165, 60, 14, 61, 62, 63, 33, 64, 43, 65, 66, 67, 35, 68, 69, 70, 71, 72, 73, 74, 75, 76, 77, 21, 78, 24, 79, 80, 81, 82, 83, 84, 85, 86, 166, 167, 168, 169, 91, 170, 96, 31, 32, 34, 37, 12, 38, 171, 148, 149, 150, 151, 152, 153, 154, 44, 19, 20, 22, 23, 133, 134, 135, 136, 155, 156, 157, 158, 159, 160, 161, 172, 173, 174, 175, 176, 177, 178, 179, 97, 98, 99, 100, 101, 102, 103, 104, 15, 105, 106, 107, 108, 109, 110, 111, 112, 113, 114, 115, 116, 316, 317, 318, 319, 320, 321, 322, 323, 324, 325, 326, 327, 328, 329, 330, 331, 332, 333, 334, 339, 340, 335, 336] (by decide +kernel) (by decide +kernel)
set_option maxRecDepth 20000 in
theorem gL_acts_X7_fly : GoodIn wsL_acts (wsV RL 72 RX7 yX7_fly wsX7_fly) := goodIn_app (goodIn_of _ (by decide +kernel)) ggL_acts_X7_fly
set_option maxRecDepth 20000 in
theorem ggL_acts_X7_flightOf : GoodIn wsL_acts wsX7_flightOf := goodIn_r _ [183, 17, 14, 29, 36, 37, 12, 38, 184, 185, 186, 33, 187, 72, 188, 80, 81, 82, 189, 190, 191, 192, 18, 19, 20, 21, 22, 23, 24, 316, 317, 318, 319, 320, 321, 322, 323, 324, 325, 326, 327, 328, 329, 330, 331, 332, 333, 334, 339, 340] (by decide +kernel) (by decide +kernel)
set_option maxRecDepth 20000 in
theorem gL_acts_X7_flightOf : GoodIn wsL_acts (wsV RL 26 RX7 yX7_flightOf wsX7_flightOf) := goodIn_app (goodIn_of _ (by decide +kernel)) ggL_acts_X7_flightOf
set_option maxRecDepth 20000 in
theorem ggL_acts_X7_waive : GoodIn wsL_acts wsX7_waive := goodIn_r _ [196, 60, 14, 61, 62, 63, 33, 64, 43, 65, 66, 67, 35, 68, 69, 70, 71, 72, 73, 74, 75, 76, 77, 21, 78, 24, 79, 80, 81, 82, 83, 84, 85, 86, 197, 198, 199, 200, 91, 170, 96, 31, 32, 34, 151, 152, 153, 154, 44, 19, 20, 22, 23, 97, 98, 99, 100, 101, 102, 103, 12, 104, 15, 105, 106, 107, 108, 109, 110, 111, 112, 113, 114, 115, 116, 316, 317, 318, 319, 320, 321, 322, 323, 324, 325, 326, 327, 328, 329, 330, 331, 332, 333, 334, 339, 340, 335, 336] (by decide +kernel) (by decide +kernel)
set_option maxRecDepth 20000 in
theorem gL_acts_X7_waive : GoodIn wsL_acts (wsV RL 75 RX7 yX7_waive wsX7_waive) := goodIn_app (goodIn_of _ (by decide +kernel)) ggL_acts_X7_waive
set_option maxRecDepth 20000 in
theorem ggL_acts_X7_reopen : GoodIn wsL_acts wsX7_reopen := goodIn_r _ [204, 60, 14, 61, 62, 63, 33, 64, 43, 65, 66, 67, 35, 68, 69, 70, 71, 72, 73, 74, 75, 76, 77, 21, 78, 24, 79, 80, 81, 82, 83, 84, 85, 86, 205, 206, 207, 208, 91, 170, 96, 31, 32, 34, 151, 152, 153, 154, 44, 19, 20, 22, 23, 209, 40, 41, 42, 210, 211, 212, 213, 97, 98, 99, 100, 137, 46, 47, 48, 49, 50, 51, 101, 102, 103, 12, 104, 15, 105, 106, 107, 108, 109, 110, 111, 112, 113, 114, 115, 116, 316, 317, 318, 319, 320, 321, 322, 323, 324, 325, 326, 327, 328, 329, 330, 331, 332, 333, 334, 339, 340, 335, 336] (by decide +kernel) (by decide +kernel)
set_option maxRecDepth 20000 in
theorem gL_acts_X7_reopen : GoodIn wsL_acts (wsV RL 78 RX7 yX7_reopen wsX7_reopen) := goodIn_app (goodIn_of _ (by decide +kernel)) ggL_acts_X7_reopen
set_option maxRecDepth 20000 in
theorem ggL_acts_X7_set : GoodIn wsL_acts wsX7_set := goodIn_r _ [217, 60, 14, 61, 62, 63, 33, 64, 43, 65, 66, 67, 35, 68, 69, 70, 71, 72, 73, 74, 75, 76, 77, 21, 78, 24, 79, 80, 81, 82, 83, 84, 85, 86, 218, 219, 220, 221, 91, 37, 12, 38, 44, 19, 20, 22, 23, 97, 98, 99, 100, 101, 102, 103, 104, 15, 105, 106, 107, 108, 109, 110, 111, 112, 113, 114, 115, 116, 316, 317, 318, 319, 320, 321, 322, 323, 324, 325, 326, 327, 328, 329, 330, 331, 332, 333, 334, 339, 340, 335, 336] (by decide +kernel) (by decide +kernel)
set_option maxRecDepth 20000 in
theorem gL_acts_X7_set : GoodIn wsL_acts (wsV RL 81 RX7 yX7_set wsX7_set) := goodIn_app (goodIn_of _ (by decide +kernel)) ggL_acts_X7_set
set_option maxRecDepth 20000 in
theorem ggL_acts_X7_pass : GoodIn wsL_acts wsX7_pass := goodIn_r _ [225, 60, 14, 61, 62, 63, 33, 64, 43, 65, 66, 67, 35, 68, 69, 70, 71, 72, 73, 74, 75, 76, 77, 21, 78, 24, 79, 80, 81, 82, 83, 84, 85, 86, 226, 227, 228, 229, 91, 92, 37, 12, 38, 230, 231, 232, 233, 159, 160, 161, 101, 102, 103, 104, 15, 105, 106, 107, 108, 109, 110, 111, 112, 113, 114, 115, 116, 316, 317, 318, 319, 320, 321, 322, 323, 324, 325, 326, 327, 328, 329, 330, 331, 332, 333, 334, 339, 340, 335, 336] (by decide +kernel) (by decide +kernel)
set_option maxRecDepth 20000 in
theorem gL_acts_X7_pass : GoodIn wsL_acts (wsV RL 84 RX7 yX7_pass wsX7_pass) := goodIn_app (goodIn_of _ (by decide +kernel)) ggL_acts_X7_pass
set_option maxRecDepth 20000 in
theorem ggL_acts_L_types : GoodIn wsL_acts wsL_types := goodIn_r _ [236, 4, 5, 6, 7, 8, 237, 238, 239, 12, 240, 16, 241, 242, 243, 244, 17, 245, 36, 37, 38, 246, 247, 248, 249, 250, 251, 252, 253, 254, 255, 316, 317, 318, 319, 320, 321, 322, 337, 338] (by decide +kernel) (by decide +kernel)
set_option maxRecDepth 20000 in
theorem gL_acts_L_types : GoodIn wsL_acts (va_wsS RL 87 yL_types wsL_types) := goodIn_app (goodIn_of _ (by decide +kernel)) ggL_acts_L_types
set_option maxRecDepth 20000 in
theorem ggL_acts_L_reads : GoodIn wsL_acts wsL_reads := goodIn_r _ [258, 259, 3, 1, 260, 261, 262, 12, 263, 17, 60, 14, 264, 16, 29, 36, 37, 38, 61, 62, 63, 33, 64, 43, 65, 66, 67, 35, 68, 69, 70, 71, 72, 73, 74, 75, 76, 77, 21, 78, 24, 79, 80, 81, 82, 83, 84, 85, 86, 265, 266, 267, 268, 269, 270, 271, 272, 273, 274, 275, 276, 277, 278, 279, 280, 281, 282, 283, 284, 249, 285, 251, 252, 286, 287, 288, 289, 290, 291, 292, 293, 294, 295, 296, 297, 98, 99, 100, 23, 298, 299, 300, 301, 302, 303, 304, 305, 306, 19, 20, 22, 307, 88, 89, 90, 91, 92, 93, 94, 95, 96, 31, 32, 34, 97, 308, 122, 123, 124, 125, 126, 127, 128, 129, 130, 131, 132, 133, 134, 135, 136, 44, 137, 46, 47, 48, 49, 50, 51, 309, 167, 168, 169, 170, 171, 148, 149, 150, 151, 152, 153, 154, 155, 156, 157, 158, 159, 160, 161, 172, 173, 174, 175, 176, 177, 178, 179, 310, 227, 228, 229, 230, 231, 232, 233, 9, 10, 11, 13, 15, 18, 311, 312, 313, 314, 315, 101, 102, 103, 104, 105, 106, 107, 108, 109, 110, 111, 112, 113, 114, 115, 116, 316, 317, 318, 319, 320, 321, 322, 341, 342, 343, 344, 345, 323, 324, 325, 326, 327, 328, 329, 330, 331, 332, 333, 334, 339, 340, 337, 338, 346, 347, 348, 335, 336] (by decide +kernel) (by decide +kernel)
set_option maxRecDepth 20000 in
theorem gL_acts_L_reads : GoodIn wsL_acts (va_wsS RL 90 yL_reads wsL_reads) := goodIn_app (goodIn_of _ (by decide +kernel)) ggL_acts_L_reads
