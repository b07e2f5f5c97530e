set_option maxRecDepth 20000 in
theorem ggL_law_X8_weatherOf : GoodIn wsL_law wsX8_weatherOf := goodIn_r _ [455, 185, 190, 191, 5, 192, 241, 242, 243, 244, 119, 245, 246, 247, 248, 249, 250, 251, 252, 253, 254, 255, 256, 690, 691, 692, 693, 694, 695, 696, 697, 698, 699, 700, 701, 702, 703, 704, 705, 706, 707] (by decide +kernel) (by decide +kernel)
set_option maxRecDepth 20000 in
theorem gL_law_X8_weatherOf : GoodIn wsL_law (wsV RL 60 RX8 yX8_weatherOf wsX8_weatherOf) := goodIn_app (goodIn_of _ (by decide +kernel)) ggL_law_X8_weatherOf
set_option maxRecDepth 20000 in
theorem ggL_law_X7_cards : GoodIn wsL_law wsX7_cards := goodIn_r _ [459, 397, 15, 399, 154, 2, 155, 460, 342, 343, 14, 344, 46, 42, 222, 223, 224, 35, 225, 64, 63, 461, 462, 463, 464, 269, 270, 271, 272, 47, 273, 274, 275, 276, 218, 219, 220, 221, 43, 277, 278, 279, 280, 48, 49, 50, 45, 281, 282, 283, 683, 684, 685, 686, 687, 688, 689, 708, 709, 710, 711, 712, 713, 714, 715, 716, 717, 718, 719, 733, 734] (by decide +kernel) (by decide +kernel)
set_option maxRecDepth 20000 in
theorem gL_law_X7_cards : GoodIn wsL_law (wsV RL 61 RX7 yX7_cards wsX7_cards) := goodIn_app (goodIn_of _ (by decide +kernel)) ggL_law_X7_cards
set_option maxRecDepth 20000 in
theorem ggL_law_X8_cards : GoodIn wsL_law wsX8_cards := goodIn_r _ [468, 185, 119, 190, 191, 5, 192, 305, 306, 307, 308, 253, 254, 255, 256, 309, 310, 311, 312, 245, 246, 247, 248, 249, 250, 251, 252, 690, 691, 692, 693, 694, 695, 696, 697, 698, 699, 700, 701, 702, 703, 704, 705, 706, 707] (by decide +kernel) (by decide +kernel)
set_option maxRecDepth 20000 in
theorem gL_law_X8_cards : GoodIn wsL_law (wsV RL 64 RX8 yX8_cards wsX8_cards) := goodIn_app (goodIn_of _ (by decide +kernel)) ggL_law_X8_cards
set_option maxRecDepth 20000 in
theorem ggL_law_X7_first : GoodIn wsL_law wsX7_first := goodIn_r _ [472, 15, 397, 409, 398, 157, 158, 14, 159, 46, 400, 270, 271, 272, 42, 47, 273, 274, 275, 276, 222, 223, 224, 35, 225, 64, 63, 218, 219, 220, 221, 43, 277, 278, 279, 280, 48, 49, 50, 45, 281, 282, 283, 683, 684, 685, 686, 687, 688, 689, 708, 709, 710, 711, 712, 713, 714, 715, 716, 717, 718, 719, 733, 734] (by decide +kernel) (by decide +kernel)
set_option maxRecDepth 20000 in
theorem gL_law_X7_first : GoodIn wsL_law (wsV RL 65 RX7 yX7_first wsX7_first) := goodIn_app (goodIn_of _ (by decide +kernel)) ggL_law_X7_first
set_option maxRecDepth 20000 in
theorem ggL_law_X8_first : GoodIn wsL_law wsX8_first := goodIn_r _ [476, 185, 421, 301, 302, 303, 5, 304, 119, 190, 191, 192, 305, 306, 307, 308, 253, 254, 255, 256, 309, 310, 311, 312, 245, 246, 247, 248, 249, 250, 251, 252, 690, 691, 692, 693, 694, 695, 696, 697, 698, 699, 700, 701, 702, 703, 704, 705, 706, 707] (by decide +kernel) (by decide +kernel)
set_option maxRecDepth 20000 in
theorem gL_law_X8_first : GoodIn wsL_law (wsV RL 68 RX8 yX8_first wsX8_first) := goodIn_app (goodIn_of _ (by decide +kernel)) ggL_law_X8_first
set_option maxRecDepth 20000 in
theorem ggL_law_X7_planned : GoodIn wsL_law wsX7_planned := goodIn_r _ [480, 397, 16, 15, 32, 409, 399, 154, 2, 155, 130, 131, 132, 14, 133, 42, 43, 44, 45, 46, 47, 48, 49, 50, 51, 52, 53, 134, 135, 136, 35, 137, 63, 138, 139, 60, 140, 141, 142, 143, 144, 481, 482, 483, 31, 484, 110, 111, 112, 485, 59, 61, 486, 487, 488, 489, 341, 342, 343, 344, 222, 223, 224, 225, 64, 490, 366, 367, 368, 281, 282, 283, 491, 492, 493, 494, 109, 495, 496, 497, 498, 269, 270, 271, 272, 273, 274, 275, 276, 218, 219, 220, 221, 277, 278, 279, 280, 499, 70, 71, 72, 500, 501, 285, 286, 287, 288, 289, 290, 291, 69, 416, 683, 684, 685, 686, 687, 688, 689, 729, 730, 731, 732, 708, 709, 710, 711, 712, 713, 714, 715, 716, 717, 718, 719, 733, 734] (by decide +kernel) (by decide +kernel)
set_option maxRecDepth 20000 in
theorem gL_law_X7_planned : GoodIn wsL_law (wsV RL 69 RX7 yX7_planned wsX7_planned) := goodIn_app (goodIn_of _ (by decide +kernel)) ggL_law_X7_planned
set_option maxRecDepth 20000 in
theorem ggL_law_X8_planned : GoodIn wsL_law wsX8_planned := goodIn_r _ [505, 185, 506, 421, 123, 124, 190, 191, 5, 192, 507, 508, 509, 510, 511, 512, 119, 513, 177, 178, 179, 180, 120, 514, 515, 516, 517, 309, 310, 311, 312, 253, 254, 255, 256, 518, 519, 520, 521, 522, 523, 524, 525, 305, 306, 307, 308, 245, 246, 247, 248, 249, 250, 251, 252, 296, 297, 298, 299, 300, 301, 302, 303, 304, 313, 314, 315, 316, 193, 194, 195, 196, 377, 378, 379, 380, 202, 203, 204, 205, 690, 691, 692, 693, 694, 695, 696, 697, 698, 699, 700, 701, 702, 703, 704, 705, 706, 707] (by decide +kernel) (by decide +kernel)
set_option maxRecDepth 20000 in
theorem gL_law_X8_planned : GoodIn wsL_law (wsV RL 72 RX8 yX8_planned wsX8_planned) := goodIn_app (goodIn_of _ (by decide +kernel)) ggL_law_X8_planned
set_option maxRecDepth 20000 in
theorem ggL_law_X7_plan : GoodIn wsL_law wsX7_plan := goodIn_r _ [529, 397, 16, 15, 32, 409, 399, 154, 2, 155, 130, 131, 132, 14, 133, 42, 43, 44, 45, 46, 47, 48, 49, 50, 51, 52, 53, 134, 135, 136, 35, 137, 63, 138, 139, 60, 140, 141, 142, 143, 144, 481, 482, 483, 31, 484, 110, 111, 112, 485, 59, 61, 486, 487, 488, 489, 341, 342, 343, 344, 222, 223, 224, 225, 64, 490, 366, 367, 368, 281, 282, 283, 491, 492, 493, 494, 109, 495, 496, 497, 498, 269, 270, 271, 272, 273, 274, 275, 276, 218, 219, 220, 221, 277, 278, 279, 280, 499, 70, 71, 72, 500, 501, 285, 286, 287, 288, 289, 290, 291, 69, 530, 416, 683, 684, 685, 686, 687, 688, 689, 729, 730, 731, 732, 708, 709, 710, 711, 712, 713, 714, 715, 716, 717, 718, 719, 733, 734] (by decide +kernel) (by decide +kernel)
set_option maxRecDepth 20000 in
theorem gL_law_X7_plan : GoodIn wsL_law (wsV RL 73 RX7 yX7_plan wsX7_plan) := goodIn_app (goodIn_of _ (by decide +kernel)) ggL_law_X7_plan
set_option maxRecDepth 20000 in
theorem ggL_law_X8_plan : GoodIn wsL_law wsX8_plan := goodIn_r _ [534, 185, 513, 506, 421, 124, 511, 512, 190, 191, 5, 192, 507, 508, 509, 510, 119, 177, 178, 179, 180, 120, 514, 515, 516, 517, 309, 310, 311, 312, 253, 254, 255, 256, 518, 519, 520, 521, 123, 522, 523, 524, 525, 305, 306, 307, 308, 245, 246, 247, 248, 249, 250, 251, 252, 296, 297, 298, 299, 300, 301, 302, 303, 304, 313, 314, 315, 316, 193, 194, 195, 196, 377, 378, 379, 380, 202, 203, 204, 205, 690, 691, 692, 693, 694, 695, 696, 697, 698, 699, 700, 701, 702, 703, 704, 705, 706, 707] (by decide +kernel) (by decide +kernel)
set_option maxRecDepth 20000 in
theorem gL_law_X8_plan : GoodIn wsL_law (wsV RL 76 RX8 yX8_plan wsX8_plan) := goodIn_app (goodIn_of _ (by decide +kernel)) ggL_law_X8_plan
set_option maxRecDepth 20000 in
theorem ggL_law_X7_worst : GoodIn wsL_law wsX7_worst := goodIn_r _ [538, 397, 36, 409, 399, 154, 2, 155, 539, 540, 541, 542, 15, 543, 544, 545, 35, 546, 63, 530, 487, 488, 14, 489, 341, 342, 343, 344, 46, 42, 222, 223, 224, 225, 64, 400, 270, 271, 272, 47, 273, 274, 275, 276, 218, 219, 220, 221, 43, 277, 278, 279, 280, 48, 49, 50, 45, 281, 282, 283, 416, 547, 70, 71, 72, 683, 684, 685, 686, 687, 688, 689, 708, 709, 710, 711, 712, 713, 714, 715, 716, 717, 718, 719, 733, 734] (by decide +kernel) (by decide +kernel)
set_option maxRecDepth 20000 in
theorem gL_law_X7_worst : GoodIn wsL_law (wsV RL 77 RX7 yX7_worst wsX7_worst) := goodIn_app (goodIn_of _ (by decide +kernel)) ggL_law_X7_worst
set_option maxRecDepth 20000 in
theorem ggL_law_X8_worst : GoodIn wsL_law wsX8_worst := goodIn_r _ [551, 185, 421, 190, 191, 5, 192, 552, 553, 554, 555, 119, 305, 306, 307, 308, 253, 254, 255, 256, 309, 310, 311, 312, 245, 246, 247, 248, 249, 250, 251, 252, 690, 691, 692, 693, 694, 695, 696, 697, 698, 699, 700, 701, 702, 703, 704, 705, 706, 707] (by decide +kernel) (by decide +kernel)
set_option maxRecDepth 20000 in
theorem gL_law_X8_worst : GoodIn wsL_law (wsV RL 80 RX8 yX8_worst wsX8_worst) := goodIn_app (goodIn_of _ (by decide +kernel)) ggL_law_X8_worst
set_option maxRecDepth 20000 in
theorem ggL_law_X7_count : GoodIn wsL_law wsX7_count := goodIn_r _ [559, 15, 20, 24, 397, 416, 223, 224, 35, 225, 64, 63, 683, 684, 685, 686, 687, 688, 689, 708, 709, 710, 711, 712, 713, 714, 715, 716, 717, 718, 719, 720, 721, 722, 723, 733, 734] (by decide +kernel) (by decide +kernel)
set_option maxRecDepth 20000 in
theorem gL_law_X7_count : GoodIn wsL_law (wsV RL 81 RX7 yX7_count wsX7_count) := goodIn_app (goodIn_of _ (by decide +kernel)) ggL_law_X7_count
set_option maxRecDepth 20000 in
theorem ggL_law_X8_count : GoodIn wsL_law wsX8_count := goodIn_r _ [563, 201, 564, 119, 185, 190, 191, 5, 192, 690, 691, 692, 693, 694, 695, 696, 697, 698, 699, 700, 701, 702, 703, 704, 705, 706, 707] (by decide +kernel) (by decide +kernel)
set_option maxRecDepth 20000 in
theorem gL_law_X8_count : GoodIn wsL_law (wsV RL 84 RX8 yX8_count wsX8_count) := goodIn_app (goodIn_of _ (by decide +kernel)) ggL_law_X8_count
set_option maxRecDepth 20000 in
theorem ggL_law_X7_undo : GoodIn wsL_law wsX7_undo := goodIn_r _ [568, 20, 569, 15, 570, 571, 572, 19, 573, 79, 78, 172, 131, 132, 14, 133, 42, 43, 44, 45, 46, 47, 48, 49, 50, 51, 52, 53, 134, 135, 136, 35, 137, 63, 138, 139, 60, 140, 141, 142, 143, 144, 683, 684, 685, 686, 687, 688, 689, 720, 721, 708, 709, 710, 711, 712, 713, 714, 715, 716, 717, 718, 719, 733, 734] (by decide +kernel) (by decide +kernel)
set_option maxRecDepth 20000 in
theorem gL_law_X7_undo : GoodIn wsL_law (wsV RL 85 RX7 yX7_undo wsX7_undo) := goodIn_app (goodIn_of _ (by decide +kernel)) ggL_law_X7_undo
set_option maxRecDepth 20000 in
theorem ggL_law_X8_undo : GoodIn wsL_law wsX8_undo := goodIn_r _ [577, 201, 300, 119, 121, 690, 691, 692, 693, 694, 695, 696, 697, 698, 699, 700, 701, 702, 703, 704, 705, 706, 707] (by decide +kernel) (by decide +kernel)
set_option maxRecDepth 20000 in
theorem gL_law_X8_undo : GoodIn wsL_law (wsV RL 89 RX8 yX8_undo wsX8_undo) := goodIn_app (goodIn_of _ (by decide +kernel)) ggL_law_X8_undo
set_option maxRecDepth 20000 in
theorem ggL_law_X7_type : GoodIn wsL_law wsX7_type := goodIn_r _ [581, 397, 24, 582, 399, 154, 2, 155, 583, 584, 585, 23, 586, 85, 84, 683, 684, 685, 686, 687, 688, 689, 722, 723] (by decide +kernel) (by decide +kernel)
set_option maxRecDepth 20000 in
theorem gL_law_X7_type : GoodIn wsL_law (wsV RL 90 RX7 yX7_type wsX7_type) := goodIn_app (goodIn_of _ (by decide +kernel)) ggL_law_X7_type
set_option maxRecDepth 20000 in
theorem ggL_law_X8_type : GoodIn wsL_law wsX8_type := goodIn_r _ [590, 185, 564, 186, 122, 190, 191, 5, 192, 690, 691, 692, 693, 694, 695, 696, 697, 698, 699, 700, 701, 702, 703, 704, 705, 706, 707] (by decide +kernel) (by decide +kernel)
set_option maxRecDepth 20000 in
theorem gL_law_X8_type : GoodIn wsL_law (wsV RL 93 RX8 yX8_type wsX8_type) := goodIn_app (goodIn_of _ (by decide +kernel)) ggL_law_X8_type
set_option maxRecDepth 20000 in
theorem ggL_law_X7_clearText : GoodIn wsL_law wsX7_clearText := goodIn_r _ [594, 24, 683, 684, 685, 686, 687, 688, 689, 722, 723] (by decide +kernel) (by decide +kernel)
set_option maxRecDepth 20000 in
theorem gL_law_X7_clearText : GoodIn wsL_law (wsV RL 94 RX7 yX7_clearText wsX7_clearText) := goodIn_app (goodIn_of _ (by decide +kernel)) ggL_law_X7_clearText
set_option maxRecDepth 20000 in
theorem ggL_law_X8_clearText : GoodIn wsL_law wsX8_clearText := goodIn_r _ [598, 564, 690, 691, 692, 693, 694, 695, 696, 697, 698, 699, 700, 701, 702, 703, 704, 705, 706, 707] (by decide +kernel) (by decide +kernel)
set_option maxRecDepth 20000 in
theorem gL_law_X8_clearText : GoodIn wsL_law (wsV RL 97 RX8 yX8_clearText wsX8_clearText) := goodIn_app (goodIn_of _ (by decide +kernel)) ggL_law_X8_clearText
set_option maxRecDepth 20000 in
theorem ggL_law_X7_fault : GoodIn wsL_law wsX7_fault := goodIn_r _ [602, 397, 16, 15, 28, 24, 409, 399, 154, 2, 155, 130, 131, 132, 14, 133, 42, 43, 44, 45, 46, 47, 48, 49, 50, 51, 52, 53, 134, 135, 136, 35, 137, 63, 138, 139, 60, 140, 141, 142, 143, 144, 603, 604, 605, 27, 606, 93, 94, 95, 96, 92, 607, 608, 609, 91, 610, 103, 102, 611, 612, 613, 23, 614, 85, 84, 615, 616, 617, 618, 619, 620, 621, 101, 622, 623, 624, 625, 70, 71, 72, 64, 626, 627, 628, 629, 630, 631, 632, 633, 634, 223, 224, 225, 635, 146, 147, 148, 149, 150, 151, 152, 153, 156, 157, 158, 159, 69, 636, 211, 212, 213, 65, 66, 67, 68, 214, 215, 216, 217, 218, 219, 220, 221, 222, 226, 227, 228, 229, 230, 231, 232, 637, 265, 266, 267, 268, 269, 270, 271, 272, 273, 274, 275, 276, 277, 278, 279, 280, 281, 282, 283, 284, 285, 286, 287, 288, 289, 290, 291, 638, 362, 363, 364, 365, 366, 367, 368, 683, 684, 685, 686, 687, 688, 689, 724, 725, 726, 727, 728, 708, 709, 710, 711, 712, 713, 714, 715, 716, 717, 718, 719, 733, 734, 722, 723, 735, 736, 737] (by decide +kernel) (by decide +kernel)
set_option maxRecDepth 20000 in
theorem gL_law_X7_fault : GoodIn wsL_law (wsV RL 98 RX7 yX7_fault wsX7_fault) := goodIn_app (goodIn_of _ (by decide +kernel)) ggL_law_X7_fault
set_option maxRecDepth 20000 in
theorem ggL_law_X8_fault : GoodIn wsL_law wsX8_fault := goodIn_r _ [642, 185, 421, 643, 644, 645, 646, 190, 191, 5, 192, 177, 178, 179, 180, 120, 119, 647, 648, 649, 650, 651, 564, 125, 652, 653, 654, 655, 122, 656, 657, 658, 659, 660, 661, 662, 663, 664, 665, 666, 667, 668, 669, 670, 671, 672, 673, 674, 181, 182, 183, 184, 186, 187, 188, 189, 193, 194, 195, 196, 237, 238, 239, 240, 241, 242, 243, 244, 245, 246, 247, 248, 249, 250, 251, 252, 253, 254, 255, 256, 257, 258, 259, 296, 297, 298, 299, 300, 301, 302, 303, 304, 305, 306, 307, 308, 309, 310, 311, 312, 313, 314, 315, 316, 373, 374, 375, 376, 377, 378, 379, 380, 202, 203, 204, 205, 690, 691, 692, 693, 694, 695, 696, 697, 698, 699, 700, 701, 702, 703, 704, 705, 706, 707] (by decide +kernel) (by decide +kernel)
set_option maxRecDepth 20000 in
theorem gL_law_X8_fault : GoodIn wsL_law (wsV RL 101 RX8 yX8_fault wsX8_fault) := goodIn_app (goodIn_of _ (by decide +kernel)) ggL_law_X8_fault
set_option maxRecDepth 20000 in
theorem ggL_law_X7_play : GoodIn wsL_law wsX7_play := goodIn_r _ [678, 16, 15, 28, 24, 569, 130, 131, 132, 14, 133, 42, 43, 44, 45, 46, 47, 48, 49, 50, 51, 52, 53, 134, 135, 136, 35, 137, 63, 138, 139, 60, 140, 141, 142, 143, 144, 603, 604, 605, 27, 606, 93, 94, 95, 96, 92, 607, 608, 609, 91, 610, 103, 102, 611, 612, 613, 23, 614, 85, 84, 615, 616, 617, 618, 619, 620, 621, 101, 622, 623, 624, 625, 70, 71, 72, 64, 626, 627, 628, 629, 630, 631, 632, 633, 634, 223, 224, 225, 635, 146, 147, 148, 149, 150, 151, 152, 153, 154, 2, 155, 156, 157, 158, 159, 69, 636, 211, 212, 213, 65, 66, 67, 68, 214, 215, 216, 217, 218, 219, 220, 221, 222, 226, 227, 228, 229, 230, 231, 232, 637, 265, 266, 267, 268, 269, 270, 271, 272, 273, 274, 275, 276, 277, 278, 279, 280, 281, 282, 283, 284, 285, 286, 287, 288, 289, 290, 291, 638, 362, 363, 364, 365, 366, 367, 368, 160, 161, 162, 163, 20, 164, 165, 166, 19, 167, 79, 78, 168, 169, 170, 171, 172, 683, 684, 685, 686, 687, 688, 689, 724, 725, 726, 727, 728, 708, 709, 710, 711, 712, 713, 714, 715, 716, 717, 718, 719, 733, 734, 722, 723, 735, 736, 737, 720, 721] (by decide +kernel) (by decide +kernel)
set_option maxRecDepth 20000 in
theorem gL_law_X7_play : GoodIn wsL_law (wsV RL 102 RX7 yX7_play wsX7_play) := goodIn_app (goodIn_of _ (by decide +kernel)) ggL_law_X7_play
set_option maxRecDepth 20000 in
theorem ggL_law_X8_play : GoodIn wsL_law wsX8_play := goodIn_r _ [682, 651, 300, 177, 178, 179, 5, 180, 120, 119, 647, 648, 649, 650, 646, 564, 643, 644, 125, 645, 185, 652, 653, 654, 655, 122, 656, 657, 658, 659, 660, 661, 662, 663, 664, 665, 666, 667, 668, 669, 670, 190, 191, 192, 671, 672, 673, 674, 181, 182, 183, 184, 186, 187, 188, 189, 193, 194, 195, 196, 237, 238, 239, 240, 241, 242, 243, 244, 245, 246, 247, 248, 249, 250, 251, 252, 253, 254, 255, 256, 257, 258, 259, 296, 297, 298, 299, 301, 302, 303, 304, 305, 306, 307, 308, 309, 310, 311, 312, 313, 314, 315, 316, 373, 374, 375, 376, 377, 378, 379, 380, 197, 198, 199, 200, 201, 121, 202, 203, 204, 205, 690, 691, 692, 693, 694, 695, 696, 697, 698, 699, 700, 701, 702, 703, 704, 705, 706, 707] (by decide +kernel) (by decide +kernel)
set_option maxRecDepth 20000 in
theorem gL_law_X8_play : GoodIn wsL_law (wsV RL 105 RX8 yX8_play wsX8_play) := goodIn_app (goodIn_of _ (by decide +kernel)) ggL_law_X8_play
