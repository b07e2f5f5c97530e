theorem goodIn_hd {big b : List Cond} {c : Cond} (hc : GoodIn big [c]) (hb : GoodIn big b) : GoodIn big (c :: b) := goodIn_app (a := [c]) hc hb
theorem inlX0 : ∀ w ∈ wsX00, w ∈ wsL_law := fun _ h => List.mem_append_left _ (List.mem_append_left _ (List.mem_append_left _ (List.mem_append_left _ (List.mem_append_left _ (List.mem_append_left _ (List.mem_append_left _ (List.mem_append_right _ h)))))))
theorem inlX1 : ∀ w ∈ wsX10, w ∈ wsL_law := fun _ h => List.mem_append_left _ (List.mem_append_left _ (List.mem_append_left _ (List.mem_append_left _ (List.mem_append_left _ (List.mem_append_left _ (List.mem_append_right _ h))))))
theorem inlX2 : ∀ w ∈ wsX20, w ∈ wsL_law := fun _ h => List.mem_append_left _ (List.mem_append_right _ h)
theorem inlX3 : ∀ w ∈ wsX30, w ∈ wsL_law := fun _ h => List.mem_append_left _ (List.mem_append_left _ (List.mem_append_left _ (List.mem_append_right _ h)))
theorem inlX4 : ∀ w ∈ wsX40, w ∈ wsL_law := fun _ h => List.mem_append_left _ (List.mem_append_left _ (List.mem_append_left _ (List.mem_append_left _ (List.mem_append_right _ h))))
theorem inlX5 : ∀ w ∈ wsX50, w ∈ wsL_law := fun _ h => List.mem_append_left _ (List.mem_append_left _ (List.mem_append_right _ h))
theorem inlX6 : ∀ w ∈ wsX60, w ∈ wsL_law := fun _ h => List.mem_append_left _ (List.mem_append_left _ (List.mem_append_left _ (List.mem_append_left _ (List.mem_append_left _ (List.mem_append_right _ h)))))
theorem inlX7 : ∀ w ∈ wsX70, w ∈ wsL_law := fun _ h => List.mem_append_left _ (List.mem_append_left _ (List.mem_append_left _ (List.mem_append_left _ (List.mem_append_left _ (List.mem_append_left _ (List.mem_append_left _ (List.mem_append_left _ (List.mem_append_right _ h))))))))
theorem gs_X0 : GoodIn wsL_law wsX00 := goodIn_sub inlX0 (by decide +kernel)
theorem gs_X1 : GoodIn wsL_law wsX10 := goodIn_sub inlX1 (by decide +kernel)
theorem gs_X2 : GoodIn wsL_law wsX20 := goodIn_sub inlX2 (by decide +kernel)
theorem gs_X3 : GoodIn wsL_law wsX30 := goodIn_sub inlX3 (by decide +kernel)
theorem gs_X4 : GoodIn wsL_law wsX40 := goodIn_sub inlX4 (by decide +kernel)
theorem gs_X5 : GoodIn wsL_law wsX50 := goodIn_sub inlX5 (by decide +kernel)
theorem gs_X6 : GoodIn wsL_law wsX60 := goodIn_sub inlX6 (by decide +kernel)
theorem gs_X7 : GoodIn wsL_law wsX70 := goodIn_sub inlX7 (by decide +kernel)
theorem gh_holds : GoodIn wsL_law [.code yL_holds cL_holds 11 (some .boolean)] := goodIn_r _ [116] (by decide +kernel) (by decide +kernel)
set_option maxRecDepth 20000 in
theorem g_wsL_holds_r1 : GoodIn wsL_law wsL_holds_r1 := goodIn_r _ [117, 118, 119, 120, 2, 121, 13, 18, 22, 122, 123, 124, 125, 33, 126, 62, 61, 127, 128, 129, 130, 131, 132, 133] (by decide +kernel) (by decide +kernel)
set_option maxRecDepth 20000 in
theorem g_wsL_holds_r2 : GoodIn wsL_law wsL_holds_r2 := goodIn_r _ [134, 12, 135, 44, 136, 137, 138, 139, 140, 141, 142, 40, 143, 144, 145, 146, 147, 148, 149, 150, 151, 152, 153, 154] (by decide +kernel) (by decide +kernel)
set_option maxRecDepth 20000 in
theorem g_wsL_holds_r3 : GoodIn wsL_law wsL_holds_r3 := goodIn_r _ [155, 156, 115, 157, 158, 159, 160, 161, 162, 163, 164, 165, 166, 45, 167, 168, 169, 170, 171, 172, 173, 174, 41, 175] (by decide +kernel) (by decide +kernel)
set_option maxRecDepth 20000 in
theorem g_wsL_holds_r4 : GoodIn wsL_law wsL_holds_r4 := goodIn_r _ [176, 177, 178, 46, 47, 48, 43, 179, 180, 181, 182, 183, 184, 185, 186, 187, 188, 189, 190, 191, 192, 193, 194, 195] (by decide +kernel) (by decide +kernel)
set_option maxRecDepth 20000 in
theorem g_wsL_holds_r5 : GoodIn wsL_law wsL_holds_r5 := goodIn_r _ [196, 197, 49, 198, 199, 58, 200, 201, 202, 203, 204, 205, 206, 207, 208, 34, 209, 210, 211, 212, 213, 214, 215, 216] (by decide +kernel) (by decide +kernel)
set_option maxRecDepth 20000 in
theorem g_wsL_holds_r6 : GoodIn wsL_law wsL_holds_r6 := goodIn_r _ [217, 218, 219, 220, 221, 222, 223, 224, 225, 68, 69, 70, 226, 227, 228, 229, 14, 30, 230, 231, 232, 233, 42, 50] (by decide +kernel) (by decide +kernel)
set_option maxRecDepth 20000 in
theorem g_wsL_holds_r7 : GoodIn wsL_law wsL_holds_r7 := goodIn_r _ [51, 234, 235, 236, 237, 238, 239, 240, 241, 242, 243, 244, 245, 29, 246, 108, 109, 110, 247, 57, 59, 248, 249, 250] (by decide +kernel) (by decide +kernel)
set_option maxRecDepth 20000 in
theorem g_wsL_holds_r8 : GoodIn wsL_law wsL_holds_r8 := goodIn_r _ [251, 252, 253, 254, 255, 256, 107, 257, 258, 259, 260, 261, 262, 263, 264, 265, 266, 267, 268, 269, 270, 271, 67] (by decide +kernel) (by decide +kernel)
theorem ggL_law_L_holds : GoodIn wsL_law wsL_holds := goodIn_hd gh_holds (goodIn_app (goodIn_app (goodIn_app (goodIn_app (goodIn_app (goodIn_app (goodIn_app g_wsL_holds_r1 (goodIn_app g_wsL_holds_r2 (goodIn_app g_wsL_holds_r3 (goodIn_app g_wsL_holds_r4 (goodIn_app g_wsL_holds_r5 (goodIn_app g_wsL_holds_r6 (goodIn_app g_wsL_holds_r7 (g_wsL_holds_r8)))))))) gs_X7) gs_X0) gs_X1) gs_X6) gs_X5) gs_X3)
set_option maxRecDepth 20000 in
theorem gL_law_L_holds : GoodIn wsL_law (va_wsS RL 95 yL_holds wsL_holds) := goodIn_app (goodIn_of _ (by decide +kernel)) ggL_law_L_holds
