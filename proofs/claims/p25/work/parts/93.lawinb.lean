set_option maxRecDepth 20000 in
theorem in_wsL_law_r8 : ∀ w ∈ wsL_law_r8, w ∈ lw_tbl := fun w h => (goodIn_p wsL_law_r8 [347, 322, 351, 354, 314, 318] (by decide +kernel) (by decide +kernel) w h).1
set_option maxRecDepth 20000 in
theorem in_wsL_law_r9 : ∀ w ∈ wsL_law_r9, w ∈ lw_tbl := fun w h => (goodIn_p wsL_law_r9 [326, 330, 267, 335, 362, 366] (by decide +kernel) (by decide +kernel) w h).1
set_option maxRecDepth 20000 in
theorem in_wsL_law_r10 : ∀ w ∈ wsL_law_r10, w ∈ lw_tbl := fun w h => (goodIn_p wsL_law_r10 [370, 374, 378, 383, 260, 264] (by decide +kernel) (by decide +kernel) w h).1
set_option maxRecDepth 20000 in
theorem in_wsL_law_r11 : ∀ w ∈ wsL_law_r11, w ∈ lw_tbl := fun w h => (goodIn_p wsL_law_r11 [388, 393, 397, 401] (by decide +kernel) (by decide +kernel) w h).1
set_option maxRecDepth 20000 in
theorem in_wsL_law_r12 : ∀ w ∈ wsL_law_r12, w ∈ lw_tbl := fun w h => (goodIn_p wsL_law_r12 [408, 412, 251, 256, 273] (by decide +kernel) (by decide +kernel) w h).1
set_option maxRecDepth 20000 in
theorem in_r13a : ∀ w ∈ ([Cond.code yL_digest cL_digest 4 (some .long), Cond.constantLong RL 9 (89), Cond.constantLong RL 11 (31), Cond.methodLink RL 109 yL_acts, Cond.static yL_acts] : List Cond), w ∈ lw_tbl := fun w h => (goodIn_p _ [281] (by decide +kernel) (by decide +kernel) w h).1
set_option maxRecDepth 100000 in
theorem in_r13b : Cond.code yL_acts cL_acts 14 (some .boolean) ∈ lw_tbl := List.mem_append_right _ (List.mem_append_right _ (List.mem_append_left _ (List.mem_of_getElem? (i := 165) rfl)))
set_option maxRecDepth 20000 in
theorem in_r13c : ∀ w ∈ ([Cond.constant RL 62 (-1000001), Cond.constant RL 67 (-1000003), Cond.methodLink RL 63 yX7_card, Cond.instanceMethod yX7_card, Cond.selects RX7 yX7_card yX7_card, Cond.code yX7_card cX7_card 7 (some .int), Cond.methodLink RX7 60 yX0_addCard, Cond.instanceMethod yX0_addCard, Cond.selects RX0 yX0_addCard yX0_addCard, Cond.code yX0_addCard cX0_addCard 8 (some .int), Cond.constant RX0 73 (-1000001), Cond.constant RX0 78 (-1000003), Cond.methodLink RX0 66 yX0_areWeatherNumbers, Cond.static yX0_areWeatherNumbers, Cond.code yX0_areWeatherNumbers cX0_areWeatherNumbers 3 (some .boolean), Cond.methodLink RX0 74 yX0_hasCard, Cond.methodLink RX7 64 yX7_settle, Cond.instanceMethod yX7_settle] : List Cond), w ∈ lw_tbl := fun w h => (goodIn_p _ [420, 424, 427] (by decide +kernel) (by decide +kernel) w h).1
theorem in_r13d : ∀ w ∈ (([Cond.code yL_digest cL_digest 4 (some .long), Cond.constantLong RL 9 (89), Cond.constantLong RL 11 (31), Cond.methodLink RL 109 yL_acts, Cond.static yL_acts] : List Cond) ++ (Cond.code yL_acts cL_acts 14 (some .boolean) :: ([Cond.constant RL 62 (-1000001), Cond.constant RL 67 (-1000003), Cond.methodLink RL 63 yX7_card, Cond.instanceMethod yX7_card, Cond.selects RX7 yX7_card yX7_card, Cond.code yX7_card cX7_card 7 (some .int), Cond.methodLink RX7 60 yX0_addCard, Cond.instanceMethod yX0_addCard, Cond.selects RX0 yX0_addCard yX0_addCard, Cond.code yX0_addCard cX0_addCard 8 (some .int), Cond.constant RX0 73 (-1000001), Cond.constant RX0 78 (-1000003), Cond.methodLink RX0 66 yX0_areWeatherNumbers, Cond.static yX0_areWeatherNumbers, Cond.code yX0_areWeatherNumbers cX0_areWeatherNumbers 3 (some .boolean), Cond.methodLink RX0 74 yX0_hasCard, Cond.methodLink RX7 64 yX7_settle, Cond.instanceMethod yX7_settle] : List Cond))), w ∈ lw_tbl := List.forall_mem_append.mpr ⟨in_r13a, List.forall_mem_cons.mpr ⟨in_r13b, in_r13c⟩⟩
theorem in_wsL_law_r13 : ∀ w ∈ wsL_law_r13, w ∈ lw_tbl := in_r13d
set_option maxRecDepth 20000 in
theorem in_wsL_law_r14 : ∀ w ∈ wsL_law_r14, w ∈ lw_tbl := fun w h => (goodIn_p wsL_law_r14 [435, 439, 443, 449, 453, 459] (by decide +kernel) (by decide +kernel) w h).1
