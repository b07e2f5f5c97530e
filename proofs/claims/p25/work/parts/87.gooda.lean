set_option maxRecDepth 20000 in
theorem ggL_digest_X7_count : GoodIn wsL_digest wsX7_count := goodIn_r _ [7, 8, 9, 10, 11, 12, 13, 14, 15, 16, 17, 18, 104, 105, 106, 107, 108, 109, 110, 111, 112, 113, 114, 115, 116, 117, 118, 119, 120, 121, 122, 123, 124, 125, 126, 127, 128] (by decide +kernel) (by decide +kernel)
set_option maxRecDepth 20000 in
theorem gL_digest_X7_count : GoodIn wsL_digest (wsV RL 13 RX7 yX7_count wsX7_count) := goodIn_app (goodIn_of _ (by decide +kernel)) ggL_digest_X7_count
set_option maxRecDepth 20000 in
theorem ggL_digest_X7_cardOf : GoodIn wsL_digest wsX7_cardOf := goodIn_r _ [22, 8, 11, 23, 24, 25, 26, 27, 28, 29, 30, 31, 6, 32, 33, 34, 35, 36, 37, 38, 13, 14, 15, 16, 17, 18, 39, 40, 41, 42, 43, 44, 45, 46, 47, 48, 49, 12, 104, 105, 106, 107, 108, 109, 110, 111, 112, 113, 114, 115, 116, 117, 118, 119, 120, 121, 122, 127, 128] (by decide +kernel) (by decide +kernel)
set_option maxRecDepth 20000 in
theorem gL_digest_X7_cardOf : GoodIn wsL_digest (wsV RL 19 RX7 yX7_cardOf wsX7_cardOf) := goodIn_app (goodIn_of _ (by decide +kernel)) ggL_digest_X7_cardOf
set_option maxRecDepth 20000 in
theorem ggL_digest_X7_weatherOf : GoodIn wsL_digest wsX7_weatherOf := goodIn_r _ [53, 11, 8, 30, 31, 6, 32, 54, 55, 56, 27, 57, 29, 58, 59, 60, 61, 62, 37, 38, 13, 14, 15, 16, 17, 18, 12, 104, 105, 106, 107, 108, 109, 110, 111, 112, 113, 114, 115, 116, 117, 118, 119, 120, 121, 122, 127, 128] (by decide +kernel) (by decide +kernel)
set_option maxRecDepth 20000 in
theorem gL_digest_X7_weatherOf : GoodIn wsL_digest (wsV RL 23 RX7 yX7_weatherOf wsX7_weatherOf) := goodIn_app (goodIn_of _ (by decide +kernel)) ggL_digest_X7_weatherOf
set_option maxRecDepth 20000 in
theorem ggL_digest_X7_flightOf : GoodIn wsL_digest wsX7_flightOf := goodIn_r _ [66, 11, 8, 23, 30, 31, 6, 32, 67, 68, 69, 27, 70, 71, 72, 73, 74, 75, 76, 77, 78, 79, 12, 13, 14, 15, 16, 17, 18, 104, 105, 106, 107, 108, 109, 110, 111, 112, 113, 114, 115, 116, 117, 118, 119, 120, 121, 122, 127, 128] (by decide +kernel) (by decide +kernel)
set_option maxRecDepth 20000 in
theorem gL_digest_X7_flightOf : GoodIn wsL_digest (wsV RL 26 RX7 yX7_flightOf wsX7_flightOf) := goodIn_app (goodIn_of _ (by decide +kernel)) ggL_digest_X7_flightOf
set_option maxRecDepth 20000 in
theorem ggL_digest_X7_why : GoodIn wsL_digest wsX7_why := goodIn_r _ [83, 8, 11, 24, 25, 26, 27, 28, 29, 30, 31, 6, 32, 84, 85, 86, 87, 37, 88, 89, 90, 91, 92, 38, 13, 14, 15, 16, 17, 18, 58, 59, 60, 61, 62, 93, 94, 95, 96, 97, 98, 99, 100, 101, 102, 103, 104, 105, 106, 107, 108, 109, 110, 111, 112, 113, 114, 115, 116, 117, 118, 119, 120, 121, 122, 127, 128] (by decide +kernel) (by decide +kernel)
set_option maxRecDepth 20000 in
theorem gL_digest_X7_why : GoodIn wsL_digest (wsV RL 29 RX7 yX7_why wsX7_why) := goodIn_app (goodIn_of _ (by decide +kernel)) ggL_digest_X7_why
set_option maxRecDepth 20000 in
theorem ggL_holds_X7_count : GoodIn wsL_holds wsX7_count := goodIn_r _ [6, 7, 8, 9, 10, 11, 12, 13, 14, 15, 16, 17, 192, 193, 194, 195, 196, 197, 198, 199, 200, 201, 202, 203, 204, 205, 206, 207, 208, 209, 210, 211, 212, 213, 214, 215, 216] (by decide +kernel) (by decide +kernel)
set_option maxRecDepth 20000 in
theorem gL_holds_X7_count : GoodIn wsL_holds (wsV RL 13 RX7 yX7_count wsX7_count) := goodIn_app (goodIn_of _ (by decide +kernel)) ggL_holds_X7_count
set_option maxRecDepth 20000 in
theorem ggL_holds_X7_cardOf : GoodIn wsL_holds wsX7_cardOf := goodIn_r _ [21, 7, 10, 22, 23, 24, 25, 26, 27, 28, 29, 30, 5, 31, 32, 33, 34, 35, 36, 37, 12, 13, 14, 15, 16, 17, 38, 39, 40, 41, 42, 43, 44, 45, 46, 47, 48, 11, 192, 193, 194, 195, 196, 197, 198, 199, 200, 201, 202, 203, 204, 205, 206, 207, 208, 209, 210, 215, 216] (by decide +kernel) (by decide +kernel)
set_option maxRecDepth 20000 in
theorem gL_holds_X7_cardOf : GoodIn wsL_holds (wsV RL 19 RX7 yX7_cardOf wsX7_cardOf) := goodIn_app (goodIn_of _ (by decide +kernel)) ggL_holds_X7_cardOf
set_option maxRecDepth 20000 in
theorem ggL_holds_L_low : GoodIn wsL_holds wsL_low := goodIn_r _ [52, 53] (by decide +kernel) (by decide +kernel)
set_option maxRecDepth 20000 in
theorem gL_holds_L_low : GoodIn wsL_holds (va_wsS RL 32 yL_low wsL_low) := goodIn_app (goodIn_of _ (by decide +kernel)) ggL_holds_L_low
set_option maxRecDepth 20000 in
theorem ggL_holds_X7_why : GoodIn wsL_holds wsX7_why := goodIn_r _ [57, 7, 10, 23, 24, 25, 26, 27, 28, 29, 30, 5, 31, 58, 59, 60, 61, 36, 62, 63, 64, 65, 66, 37, 12, 13, 14, 15, 16, 17, 67, 68, 69, 70, 71, 72, 73, 74, 75, 76, 77, 78, 79, 80, 81, 82, 192, 193, 194, 195, 196, 197, 198, 199, 200, 201, 202, 203, 204, 205, 206, 207, 208, 209, 210, 215, 216] (by decide +kernel) (by decide +kernel)
set_option maxRecDepth 20000 in
theorem gL_holds_X7_why : GoodIn wsL_holds (wsV RL 29 RX7 yX7_why wsX7_why) := goodIn_app (goodIn_of _ (by decide +kernel)) ggL_holds_X7_why
set_option maxRecDepth 20000 in
theorem ggL_holds_X7_weatherOf : GoodIn wsL_holds wsX7_weatherOf := goodIn_r _ [86, 10, 7, 29, 30, 5, 31, 87, 88, 89, 26, 90, 28, 67, 68, 69, 70, 71, 36, 37, 12, 13, 14, 15, 16, 17, 11, 192, 193, 194, 195, 196, 197, 198, 199, 200, 201, 202, 203, 204, 205, 206, 207, 208, 209, 210, 215, 216] (by decide +kernel) (by decide +kernel)
set_option maxRecDepth 20000 in
theorem gL_holds_X7_weatherOf : GoodIn wsL_holds (wsV RL 23 RX7 yX7_weatherOf wsX7_weatherOf) := goodIn_app (goodIn_of _ (by decide +kernel)) ggL_holds_X7_weatherOf
set_option maxRecDepth 20000 in
theorem ggL_holds_X7_flightOf : GoodIn wsL_holds wsX7_flightOf := goodIn_r _ [94, 10, 7, 22, 29, 30, 5, 31, 95, 96, 97, 26, 98, 99, 100, 101, 102, 103, 104, 105, 106, 107, 11, 12, 13, 14, 15, 16, 17, 192, 193, 194, 195, 196, 197, 198, 199, 200, 201, 202, 203, 204, 205, 206, 207, 208, 209, 210, 215, 216] (by decide +kernel) (by decide +kernel)
set_option maxRecDepth 20000 in
theorem gL_holds_X7_flightOf : GoodIn wsL_holds (wsV RL 26 RX7 yX7_flightOf wsX7_flightOf) := goodIn_app (goodIn_of _ (by decide +kernel)) ggL_holds_X7_flightOf
set_option maxRecDepth 20000 in
theorem ggL_holds_X7_worst : GoodIn wsL_holds wsX7_worst := goodIn_r _ [111, 10, 112, 22, 29, 30, 5, 31, 113, 114, 115, 116, 7, 117, 118, 119, 14, 120, 17, 121, 122, 123, 26, 124, 125, 126, 127, 128, 28, 36, 37, 12, 13, 15, 16, 58, 59, 60, 61, 62, 63, 64, 65, 66, 67, 68, 69, 70, 71, 72, 73, 74, 75, 76, 77, 78, 79, 80, 81, 82, 11, 129, 130, 131, 132, 192, 193, 194, 195, 196, 197, 198, 199, 200, 201, 202, 203, 204, 205, 206, 207, 208, 209, 210, 215, 216] (by decide +kernel) (by decide +kernel)
set_option maxRecDepth 20000 in
theorem gL_holds_X7_worst : GoodIn wsL_holds (wsV RL 38 RX7 yX7_worst wsX7_worst) := goodIn_app (goodIn_of _ (by decide +kernel)) ggL_holds_X7_worst
set_option maxRecDepth 20000 in
theorem ggL_holds_X7_plan : GoodIn wsL_holds wsX7_plan := goodIn_r _ [136, 10, 137, 7, 138, 22, 29, 30, 5, 31, 139, 140, 141, 26, 142, 36, 71, 143, 79, 28, 62, 76, 77, 78, 99, 144, 145, 146, 147, 148, 14, 149, 17, 150, 101, 102, 103, 151, 152, 153, 154, 155, 156, 157, 158, 159, 160, 161, 162, 163, 164, 165, 166, 122, 123, 124, 125, 126, 127, 128, 37, 12, 13, 15, 16, 167, 168, 169, 170, 80, 81, 82, 171, 172, 173, 174, 175, 176, 177, 178, 179, 180, 59, 60, 61, 63, 64, 65, 66, 67, 68, 69, 70, 72, 73, 74, 75, 181, 130, 131, 132, 182, 183, 184, 185, 186, 187, 188, 189, 190, 191, 121, 11, 192, 193, 194, 195, 196, 197, 198, 217, 218, 219, 220, 199, 200, 201, 202, 203, 204, 205, 206, 207, 208, 209, 210, 215, 216] (by decide +kernel) (by decide +kernel)
set_option maxRecDepth 20000 in
theorem gL_holds_X7_plan : GoodIn wsL_holds (wsV RL 41 RX7 yX7_plan wsX7_plan) := goodIn_app (goodIn_of _ (by decide +kernel)) ggL_holds_X7_plan
set_option maxRecDepth 20000 in
theorem ggL_digits_X7_type : GoodIn wsL_digits wsX7_type := goodIn_r _ [5, 6, 7, 8, 9, 10, 4, 11, 12, 13, 14, 15, 16, 17, 18, 19, 20, 21, 22, 23, 24, 25, 26, 27] (by decide +kernel) (by decide +kernel)
set_option maxRecDepth 20000 in
theorem gL_digits_X7_type : GoodIn wsL_digits (wsV RL 44 RX7 yX7_type wsX7_type) := goodIn_app (goodIn_of _ (by decide +kernel)) ggL_digits_X7_type
set_option maxRecDepth 20000 in
theorem ggL_types_L_low : GoodIn wsL_types wsL_low := goodIn_r _ [4, 5] (by decide +kernel) (by decide +kernel)
set_option maxRecDepth 20000 in
theorem gL_types_L_low : GoodIn wsL_types (va_wsS RL 32 yL_low wsL_low) := goodIn_app (goodIn_of _ (by decide +kernel)) ggL_types_L_low
set_option maxRecDepth 20000 in
theorem ggL_types_X7_clearText : GoodIn wsL_types wsX7_clearText := goodIn_r _ [10, 11, 31, 32, 33, 34, 35, 36, 37, 38, 39] (by decide +kernel) (by decide +kernel)
set_option maxRecDepth 20000 in
theorem gL_types_X7_clearText : GoodIn wsL_types (wsV RL 47 RX7 yX7_clearText wsX7_clearText) := goodIn_app (goodIn_of _ (by decide +kernel)) ggL_types_X7_clearText
set_option maxRecDepth 20000 in
theorem ggL_types_X7_type : GoodIn wsL_types wsX7_type := goodIn_r _ [15, 16, 11, 17, 18, 19, 9, 20, 21, 22, 23, 24, 25, 26, 27, 31, 32, 33, 34, 35, 36, 37, 38, 39] (by decide +kernel) (by decide +kernel)
set_option maxRecDepth 20000 in
theorem gL_types_X7_type : GoodIn wsL_types (wsV RL 44 RX7 yX7_type wsX7_type) := goodIn_app (goodIn_of _ (by decide +kernel)) ggL_types_X7_type
set_option maxRecDepth 20000 in
theorem ggL_types_L_digits : GoodIn wsL_types wsL_digits := goodIn_r _ [30, 12, 13, 14, 9, 15, 16, 11, 17, 18, 19, 20, 21, 22, 23, 24, 25, 26, 27, 31, 32, 33, 34, 35, 36, 37, 38, 39] (by decide +kernel) (by decide +kernel)
set_option maxRecDepth 20000 in
theorem gL_types_L_digits : GoodIn wsL_types (va_wsS RL 51 yL_digits wsL_digits) := goodIn_app (goodIn_of _ (by decide +kernel)) ggL_types_L_digits
set_option maxRecDepth 20000 in
theorem ggL_reads_X7_fault : GoodIn wsL_reads wsX7_fault := goodIn_r _ [8, 9, 10, 11, 12, 13, 14, 15, 16, 7, 17, 18, 19, 20, 21, 22, 23, 24, 25, 26, 27, 28, 29, 30, 31, 32, 33, 34, 35, 36, 37, 38, 39, 40, 41, 42, 43, 44, 45, 46, 47, 48, 49, 50, 51, 52, 53, 54, 55, 56, 57, 58, 59, 60, 61, 62, 63, 64, 65, 66, 67, 68, 69, 70, 71, 72, 73, 74, 75, 76, 77, 78, 79, 80, 81, 82, 83, 84, 85, 86, 87, 88, 89, 90, 91, 92, 93, 94, 95, 96, 97, 98, 99, 100, 101, 102, 103, 104, 105, 106, 107, 108, 109, 110, 111, 112, 113, 114, 115, 116, 117, 118, 119, 120, 121, 122, 123, 124, 125, 126, 127, 128, 129, 130, 131, 132, 133, 134, 135, 136, 137, 138, 139, 140, 141, 142, 143, 144, 145, 146, 147, 148, 149, 150, 151, 152, 153, 154, 155, 156, 157, 158, 159, 160, 161, 162, 163, 164, 165, 166, 167, 168, 169, 170, 171, 172, 173, 174, 202, 203, 204, 205, 206, 207, 208, 209, 210, 211, 212, 213, 214, 215, 216, 217, 218, 219, 220, 221, 222, 223, 224, 225, 226, 227, 228, 229, 230, 231, 232] (by decide +kernel) (by decide +kernel)
set_option maxRecDepth 20000 in
theorem gL_reads_X7_fault : GoodIn wsL_reads (wsV RL 55 RX7 yX7_fault wsX7_fault) := goodIn_app (goodIn_of _ (by decide +kernel)) ggL_reads_X7_fault
set_option maxRecDepth 20000 in
theorem ggL_reads_X7_count : GoodIn wsL_reads wsX7_count := goodIn_r _ [178, 11, 179, 13, 9, 180, 98, 99, 38, 100, 88, 40, 202, 203, 204, 205, 206, 207, 208, 214, 215, 216, 217, 218, 219, 220, 221, 222, 223, 224, 225, 233, 234, 228, 229, 226, 227] (by decide +kernel) (by decide +kernel)
set_option maxRecDepth 20000 in
theorem gL_reads_X7_count : GoodIn wsL_reads (wsV RL 13 RX7 yX7_count wsX7_count) := goodIn_app (goodIn_of _ (by decide +kernel)) ggL_reads_X7_count
set_option maxRecDepth 20000 in
theorem ggL_reads_X7_play : GoodIn wsL_reads wsX7_play := goodIn_r _ [184, 10, 11, 12, 13, 185, 18, 19, 20, 21, 22, 23, 24, 25, 26, 27, 28, 29, 30, 31, 32, 33, 34, 35, 36, 37, 38, 39, 40, 41, 42, 43, 44, 45, 46, 47, 48, 49, 50, 51, 52, 53, 54, 55, 56, 57, 58, 59, 60, 61, 62, 63, 64, 65, 66, 67, 68, 69, 70, 71, 72, 73, 74, 75, 76, 77, 78, 79, 80, 81, 82, 83, 84, 85, 86, 87, 88, 89, 90, 91, 92, 93, 94, 95, 96, 97, 98, 99, 100, 101, 102, 103, 104, 105, 106, 107, 108, 109, 16, 7, 17, 110, 111, 112, 113, 114, 115, 116, 117, 118, 119, 120, 121, 122, 123, 124, 125, 126, 127, 128, 129, 130, 131, 132, 133, 134, 135, 136, 137, 138, 139, 140, 141, 142, 143, 144, 145, 146, 147, 148, 149, 150, 151, 152, 153, 154, 155, 156, 157, 158, 159, 160, 161, 162, 163, 164, 165, 166, 167, 168, 169, 170, 171, 172, 173, 174, 186, 187, 188, 189, 179, 190, 191, 192, 193, 194, 195, 196, 197, 198, 199, 200, 201, 202, 203, 204, 205, 206, 207, 208, 209, 210, 211, 212, 213, 214, 215, 216, 217, 218, 219, 220, 221, 222, 223, 224, 225, 226, 227, 228, 229, 230, 231, 232, 233, 234] (by decide +kernel) (by decide +kernel)
set_option maxRecDepth 20000 in
theorem gL_reads_X7_play : GoodIn wsL_reads (wsV RL 58 RX7 yX7_play wsX7_play) := goodIn_app (goodIn_of _ (by decide +kernel)) ggL_reads_X7_play
set_option maxRecDepth 20000 in
theorem ggL_acts_L_low : GoodIn wsL_acts wsL_low := goodIn_r _ [7, 8] (by decide +kernel) (by decide +kernel)
set_option maxRecDepth 20000 in
theorem gL_acts_L_low : GoodIn wsL_acts (va_wsS RL 32 yL_low wsL_low) := goodIn_app (goodIn_of _ (by decide +kernel)) ggL_acts_L_low
set_option maxRecDepth 20000 in
theorem ggL_acts_X7_count : GoodIn wsL_acts wsX7_count := goodIn_r _ [13, 14, 15, 16, 17, 18, 19, 20, 21, 22, 23, 24, 316, 317, 318, 319, 320, 321, 322, 323, 324, 325, 326, 327, 328, 329, 330, 331, 332, 333, 334, 335, 336, 337, 338, 339, 340] (by decide +kernel) (by decide +kernel)
set_option maxRecDepth 20000 in
theorem gL_acts_X7_count : GoodIn wsL_acts (wsV RL 13 RX7 yX7_count wsX7_count) := goodIn_app (goodIn_of _ (by decide +kernel)) ggL_acts_X7_count
set_option maxRecDepth 20000 in
theorem ggL_acts_X7_cardOf : GoodIn wsL_acts wsX7_cardOf := goodIn_r _ [28, 14, 17, 29, 30, 31, 32, 33, 34, 35, 36, 37, 12, 38, 39, 40, 41, 42, 43, 44, 19, 20, 21, 22, 23, 24, 45, 46, 47, 48, 49, 50, 51, 52, 53, 54, 55, 18, 316, 317, 318, 319, 320, 321, 322, 323, 324, 325, 326, 327, 328, 329, 330, 331, 332, 333, 334, 339, 340] (by decide +kernel) (by decide +kernel)
set_option maxRecDepth 20000 in
theorem gL_acts_X7_cardOf : GoodIn wsL_acts (wsV RL 19 RX7 yX7_cardOf wsX7_cardOf) := goodIn_app (goodIn_of _ (by decide +kernel)) ggL_acts_X7_cardOf
set_option maxRecDepth 20000 in
theorem ggL_acts_X7_card : GoodIn wsL_acts wsX7_card := goodIn_r _ [59, 60, 14, 61, 62, 63, 33, 64, 43, 65, 66, 67, 35, 68, 69, 70, 71, 72, 73, 74, 75, 76, 77, 21, 78, 24, 79, 80, 81, 82, 83, 84, 85, 86, 87, 88, 89, 90, 91, 92, 93, 94, 95, 37, 12, 38, 96, 31, 32, 34, 97, 98, 99, 100, 23, 101, 102, 103, 104, 15, 105, 106, 107, 108, 109, 110, 111, 112, 113, 114, 115, 116, 316, 317, 318, 319, 320, 321, 322, 323, 324, 325, 326, 327, 328, 329, 330, 331, 332, 333, 334, 339, 340, 335, 336] (by decide +kernel) (by decide +kernel)
set_option maxRecDepth 20000 in
theorem gL_acts_X7_card : GoodIn wsL_acts (wsV RL 63 RX7 yX7_card wsX7_card) := goodIn_app (goodIn_of _ (by decide +kernel)) ggL_acts_X7_card
set_option maxRecDepth 20000 in
theorem ggL_acts_X7_weather : GoodIn wsL_acts wsX7_weather := goodIn_r _ [120, 60, 14, 61, 62, 63, 33, 64, 43, 65, 66, 67, 35, 68, 69, 70, 71, 72, 73, 74, 75, 76, 77, 21, 78, 24, 79, 80, 81, 82, 83, 84, 85, 86, 121, 122, 123, 124, 91, 37, 12, 38, 93, 94, 95, 125, 126, 127, 128, 97, 98, 99, 100, 23, 129, 130, 131, 132, 133, 134, 135, 136, 44, 19, 20, 22, 137, 46, 47, 48, 49, 50, 51, 101, 102, 103, 104, 15, 105, 106, 107, 108, 109, 110, 111, 112, 113, 114, 115, 116, 316, 317, 318, 319, 320, 321, 322, 323, 324, 325, 326, 327, 328, 329, 330, 331, 332, 333, 334, 339, 340, 335, 336] (by decide +kernel) (by decide +kernel)
set_option maxRecDepth 20000 in
theorem gL_acts_X7_weather : GoodIn wsL_acts (wsV RL 68 RX7 yX7_weather wsX7_weather) := goodIn_app (goodIn_of _ (by decide +kernel)) ggL_acts_X7_weather
set_option maxRecDepth 20000 in
theorem ggL_acts_X7_weatherOf : GoodIn wsL_acts wsX7_weatherOf := goodIn_r _ [141, 17, 14, 36, 37, 12, 38, 142, 130, 131, 33, 132, 35, 133, 134, 135, 136, 65, 43, 44, 19, 20, 21, 22, 23, 24, 18, 316, 317, 318, 319, 320, 321, 322, 323, 324, 325, 326, 327, 328, 329, 330, 331, 332, 333, 334, 339, 340] (by decide +kernel) (by decide +kernel)
