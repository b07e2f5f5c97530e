theorem gh_acts : GoodIn wsL_law [.code yL_acts cL_acts 14 (some .boolean)] := fun w h => by
  have e := List.mem_singleton.mp h
  subst e
  exact ⟨List.mem_append_left _ (List.mem_append_left _ (List.mem_append_left _ (List.mem_append_left _ (List.mem_append_left _ (List.mem_append_left _ (List.mem_append_left _ (List.mem_append_left _ (List.mem_append_left _ (List.mem_append_right _ (List.mem_append_right _ (List.mem_append_right _ (List.mem_append_right _ (List.mem_append_right _ (List.mem_append_right _ (List.mem_append_right _ (List.mem_append_right _ (List.mem_append_right _ (List.mem_append_right _ (List.mem_append_right _ (List.mem_append_right _ (List.mem_append_left _ (List.mem_of_getElem? (i := 5) rfl)))))))))))))))))))))), good_of_word rfl⟩
set_option maxRecDepth 20000 in
theorem g_wsL_acts_r1 : GoodIn wsL_law wsL_acts_r1 := goodIn_r _ [294, 295, 3, 155, 156, 115, 157, 158, 118, 119, 120, 2, 121, 13, 18, 22, 122, 123, 124, 125, 33, 126, 62, 61] (by decide +kernel) (by decide +kernel)
set_option maxRecDepth 20000 in
theorem g_wsL_acts_r2 : GoodIn wsL_law wsL_acts_r2 := goodIn_r _ [127, 128, 129, 130, 131, 132, 133, 134, 12, 135, 44, 136, 137, 138, 139, 140, 141, 142, 40, 143, 144, 145, 146, 147] (by decide +kernel) (by decide +kernel)
set_option maxRecDepth 20000 in
theorem g_wsL_acts_r3 : GoodIn wsL_law wsL_acts_r3 := goodIn_r _ [148, 149, 150, 151, 152, 153, 154, 296, 297, 298, 299, 14, 230, 231, 232, 233, 41, 42, 43, 45, 46, 47, 48, 49] (by decide +kernel) (by decide +kernel)
set_option maxRecDepth 20000 in
theorem g_wsL_acts_r4 : GoodIn wsL_law wsL_acts_r4 := goodIn_r _ [50, 51, 234, 235, 236, 237, 238, 199, 58, 200, 239, 240, 241, 242, 300, 301, 302, 303, 304, 305, 306, 307, 308, 309] (by decide +kernel) (by decide +kernel)
set_option maxRecDepth 20000 in
theorem g_wsL_acts_r5 : GoodIn wsL_law wsL_acts_r5 := goodIn_r _ [67, 68, 69, 70, 310, 311, 312, 313, 314, 315, 316, 17, 317, 77, 76, 318, 319, 320, 321, 281, 322, 323, 324, 325] (by decide +kernel) (by decide +kernel)
set_option maxRecDepth 20000 in
theorem g_wsL_acts_r6 : GoodIn wsL_law wsL_acts_r6 := goodIn_r _ [326, 327, 328, 329, 63, 64, 65, 66, 330, 187, 188, 189, 171, 172, 173, 174, 331, 182, 183, 184, 185, 186, 159, 160] (by decide +kernel) (by decide +kernel)
set_option maxRecDepth 20000 in
theorem g_wsL_acts_r7 : GoodIn wsL_law wsL_acts_r7 := goodIn_r _ [161, 162, 163, 164, 165, 166, 167, 168, 169, 170, 175, 176, 177, 178, 179, 180, 181, 332, 333, 334, 335, 336, 337, 338] (by decide +kernel) (by decide +kernel)
set_option maxRecDepth 20000 in
theorem g_wsL_acts_r8 : GoodIn wsL_law wsL_acts_r8 := goodIn_r _ [339, 340, 261, 341, 265, 266, 267, 268, 269, 270, 271, 190, 191, 192, 193, 194, 195, 196, 197, 198, 201, 202, 203, 204] (by decide +kernel) (by decide +kernel)
set_option maxRecDepth 20000 in
theorem g_wsL_acts_r9 : GoodIn wsL_law wsL_acts_r9 := goodIn_r _ [342, 343, 344, 345, 346, 347, 348, 349, 350, 351, 352, 353, 354, 355, 356, 357, 358, 221, 222, 223, 224, 359, 360, 361] (by decide +kernel) (by decide +kernel)
set_option maxRecDepth 20000 in
theorem g_wsL_acts_r10 : GoodIn wsL_law wsL_acts_r10 := goodIn_r _ [362, 363, 364, 365, 366, 367, 368, 369, 370, 371, 372, 373, 374, 375, 250, 251, 252, 376, 377, 378, 379, 380, 381, 382] (by decide +kernel) (by decide +kernel)
set_option maxRecDepth 20000 in
theorem g_wsL_acts_r11 : GoodIn wsL_law wsL_acts_r11 := goodIn_r _ [383, 384, 385, 386, 387, 388, 389, 390, 21, 391, 83, 82, 392, 393, 394, 395, 396, 397, 117, 398, 399, 400, 401, 26] (by decide +kernel) (by decide +kernel)
set_option maxRecDepth 20000 in
theorem g_wsL_acts_r12 : GoodIn wsL_law wsL_acts_r12 := goodIn_r _ [402, 403, 404, 25, 405, 91, 92, 93, 94, 90, 406, 407, 408, 89, 409, 101, 100, 410, 411, 412, 413, 414, 415, 416] (by decide +kernel) (by decide +kernel)
set_option maxRecDepth 20000 in
theorem g_wsL_acts_r13 : GoodIn wsL_law wsL_acts_r13 := goodIn_r _ [417, 418, 419, 420, 99, 421, 422, 423, 424, 425, 426, 427, 428, 429, 430, 431, 432, 433, 434, 435, 436, 437, 438, 439] (by decide +kernel) (by decide +kernel)
set_option maxRecDepth 20000 in
theorem g_wsL_acts_r14 : GoodIn wsL_law wsL_acts_r14 := goodIn_r _ [440, 441, 276] (by decide +kernel) (by decide +kernel)
theorem ggL_law_L_acts : GoodIn wsL_law wsL_acts := goodIn_hd gh_acts (goodIn_app (goodIn_app (goodIn_app (goodIn_app (goodIn_app (goodIn_app (goodIn_app (goodIn_app g_wsL_acts_r1 (goodIn_app g_wsL_acts_r2 (goodIn_app g_wsL_acts_r3 (goodIn_app g_wsL_acts_r4 (goodIn_app g_wsL_acts_r5 (goodIn_app g_wsL_acts_r6 (goodIn_app g_wsL_acts_r7 (goodIn_app g_wsL_acts_r8 (goodIn_app g_wsL_acts_r9 (goodIn_app g_wsL_acts_r10 (goodIn_app g_wsL_acts_r11 (goodIn_app g_wsL_acts_r12 (goodIn_app g_wsL_acts_r13 (g_wsL_acts_r14)))))))))))))) gs_X7) gs_X0) gs_X1) gs_X6) gs_X5) gs_X4) gs_X2)
set_option maxRecDepth 20000 in
theorem gL_law_L_acts : GoodIn wsL_law (va_wsS RL 109 yL_acts wsL_acts) := goodIn_app (goodIn_of _ (by decide +kernel)) ggL_law_L_acts
