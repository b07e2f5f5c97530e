theorem dX8_undo_9 : decode cX8_undo 9 = .ok (.ireturn, 1) := by decide +kernel
theorem dX8_undo_10 : decode cX8_undo 10 = .ok (.aload_n 0, 1) := by decide +kernel
theorem dX8_undo_11 : decode cX8_undo 11 = .ok (.dup, 1) := by decide +kernel
theorem dX8_undo_12 : decode cX8_undo 12 = .ok (.getfield 39, 3) := by decide +kernel
theorem dX8_undo_15 : decode cX8_undo 15 = .ok (.iconst 1, 1) := by decide +kernel
theorem dX8_undo_16 : decode cX8_undo 16 = .ok (.isub, 1) := by decide +kernel
theorem dX8_undo_17 : decode cX8_undo 17 = .ok (.putfield 39, 3) := by decide +kernel
theorem dX8_undo_20 : decode cX8_undo 20 = .ok (.iconst 0, 1) := by decide +kernel
theorem dX8_undo_21 : decode cX8_undo 21 = .ok (.istore_n 1, 1) := by decide +kernel
theorem dX8_undo_22 : decode cX8_undo 22 = .ok (.iload_n 1, 1) := by decide +kernel
theorem dX8_undo_23 : decode cX8_undo 23 = .ok (.sipush 242, 3) := by decide +kernel
theorem dX8_undo_26 : decode cX8_undo 26 = .ok (.if_icmp .ge 30, 3) := by decide +kernel
theorem dX8_undo_29 : decode cX8_undo 29 = .ok (.aload_n 0, 1) := by decide +kernel
theorem dX8_undo_30 : decode cX8_undo 30 = .ok (.getfield 7, 3) := by decide +kernel
theorem dX8_undo_33 : decode cX8_undo 33 = .ok (.iload_n 1, 1) := by decide +kernel
theorem dX8_undo_34 : decode cX8_undo 34 = .ok (.aload_n 0, 1) := by decide +kernel
theorem dX8_undo_35 : decode cX8_undo 35 = .ok (.getfield 16, 3) := by decide +kernel
theorem dX8_undo_38 : decode cX8_undo 38 = .ok (.sipush 242, 3) := by decide +kernel
theorem dX8_undo_41 : decode cX8_undo 41 = .ok (.aload_n 0, 1) := by decide +kernel
theorem dX8_undo_42 : decode cX8_undo 42 = .ok (.getfield 39, 3) := by decide +kernel
theorem dX8_undo_45 : decode cX8_undo 45 = .ok (.imul, 1) := by decide +kernel
theorem dX8_undo_46 : decode cX8_undo 46 = .ok (.iload_n 1, 1) := by decide +kernel
theorem dX8_undo_47 : decode cX8_undo 47 = .ok (.iadd, 1) := by decide +kernel
theorem dX8_undo_48 : decode cX8_undo 48 = .ok (.iaload, 1) := by decide +kernel
theorem dX8_undo_49 : decode cX8_undo 49 = .ok (.iastore, 1) := by decide +kernel
theorem dX8_undo_50 : decode cX8_undo 50 = .ok (.iinc 1 1, 3) := by decide +kernel
theorem dX8_undo_53 : decode cX8_undo 53 = .ok (.goto (-31), 3) := by decide +kernel
theorem dX8_undo_56 : decode cX8_undo 56 = .ok (.aload_n 0, 1) := by decide +kernel
theorem dX8_undo_57 : decode cX8_undo 57 = .ok (.getfield 39, 3) := by decide +kernel
theorem dX8_undo_60 : decode cX8_undo 60 = .ok (.ireturn, 1) := by decide +kernel
set_option maxRecDepth 20000 in
theorem ggX8_type_X8_in : GoodIn wsX8_type wsX8_in := goodIn_r _ [8] (by decide +kernel) (by decide +kernel)
set_option maxRecDepth 20000 in
theorem gX8_type_X8_in : GoodIn wsX8_type (va_wsS RX8 31 yX8_in wsX8_in) := goodIn_app (goodIn_of _ (by decide +kernel)) ggX8_type_X8_in
theorem dX8_type_0 : decode cX8_type 0 = .ok (.iload_n 1, 1) := by decide +kernel
theorem dX8_type_1 : decode cX8_type 1 = .ok (.bipush 32, 2) := by decide +kernel
theorem dX8_type_3 : decode cX8_type 3 = .ok (.bipush 126, 2) := by decide +kernel
theorem dX8_type_5 : decode cX8_type 5 = .ok (.invokestatic 31, 3) := by decide +kernel
theorem dX8_type_8 : decode cX8_type 8 = .ok (.ifCond .ne 6, 3) := by decide +kernel
theorem dX8_type_11 : decode cX8_type 11 = .ok (.ldc 35, 2) := by decide +kernel
theorem dX8_type_13 : decode cX8_type 13 = .ok (.ireturn, 1) := by decide +kernel
theorem dX8_type_14 : decode cX8_type 14 = .ok (.aload_n 0, 1) := by decide +kernel
theorem dX8_type_15 : decode cX8_type 15 = .ok (.getfield 149, 3) := by decide +kernel
theorem dX8_type_18 : decode cX8_type 18 = .ok (.bipush 60, 2) := by decide +kernel
theorem dX8_type_20 : decode cX8_type 20 = .ok (.if_icmp .ne 6, 3) := by decide +kernel
theorem dX8_type_23 : decode cX8_type 23 = .ok (.ldc 72, 2) := by decide +kernel
theorem dX8_type_25 : decode cX8_type 25 = .ok (.ireturn, 1) := by decide +kernel
theorem dX8_type_26 : decode cX8_type 26 = .ok (.aload_n 0, 1) := by decide +kernel
theorem dX8_type_27 : decode cX8_type 27 = .ok (.getfield 19, 3) := by decide +kernel
theorem dX8_type_30 : decode cX8_type 30 = .ok (.aload_n 0, 1) := by decide +kernel
theorem dX8_type_31 : decode cX8_type 31 = .ok (.getfield 149, 3) := by decide +kernel
theorem dX8_type_34 : decode cX8_type 34 = .ok (.iload_n 1, 1) := by decide +kernel
theorem dX8_type_35 : decode cX8_type 35 = .ok (.iastore, 1) := by decide +kernel
theorem dX8_type_36 : decode cX8_type 36 = .ok (.aload_n 0, 1) := by decide +kernel
theorem dX8_type_37 : decode cX8_type 37 = .ok (.dup, 1) := by decide +kernel
theorem dX8_type_38 : decode cX8_type 38 = .ok (.getfield 149, 3) := by decide +kernel
theorem dX8_type_41 : decode cX8_type 41 = .ok (.iconst 1, 1) := by decide +kernel
theorem dX8_type_42 : decode cX8_type 42 = .ok (.iadd, 1) := by decide +kernel
theorem dX8_type_43 : decode cX8_type 43 = .ok (.putfield 149, 3) := by decide +kernel
theorem dX8_type_46 : decode cX8_type 46 = .ok (.aload_n 0, 1) := by decide +kernel
theorem dX8_type_47 : decode cX8_type 47 = .ok (.getfield 149, 3) := by decide +kernel
theorem dX8_type_50 : decode cX8_type 50 = .ok (.ireturn, 1) := by decide +kernel
theorem dX8_clearText_0 : decode cX8_clearText 0 = .ok (.aload_n 0, 1) := by decide +kernel
theorem dX8_clearText_1 : decode cX8_clearText 1 = .ok (.getfield 149, 3) := by decide +kernel
theorem dX8_clearText_4 : decode cX8_clearText 4 = .ok (.istore_n 1, 1) := by decide +kernel
theorem dX8_clearText_5 : decode cX8_clearText 5 = .ok (.aload_n 0, 1) := by decide +kernel
theorem dX8_clearText_6 : decode cX8_clearText 6 = .ok (.iconst 0, 1) := by decide +kernel
theorem dX8_clearText_7 : decode cX8_clearText 7 = .ok (.putfield 149, 3) := by decide +kernel
theorem dX8_clearText_10 : decode cX8_clearText 10 = .ok (.iload_n 1, 1) := by decide +kernel
theorem dX8_clearText_11 : decode cX8_clearText 11 = .ok (.ireturn, 1) := by decide +kernel
theorem dX8_here_0 : decode cX8_here 0 = .ok (.aload_n 0, 1) := by decide +kernel
theorem dX8_here_1 : decode cX8_here 1 = .ok (.getfield 152, 3) := by decide +kernel
theorem dX8_here_4 : decode cX8_here 4 = .ok (.aload_n 0, 1) := by decide +kernel
theorem dX8_here_5 : decode cX8_here 5 = .ok (.getfield 149, 3) := by decide +kernel
theorem dX8_here_8 : decode cX8_here 8 = .ok (.if_icmp .ge 15, 3) := by decide +kernel
theorem dX8_here_11 : decode cX8_here 11 = .ok (.aload_n 0, 1) := by decide +kernel
theorem dX8_here_12 : decode cX8_here 12 = .ok (.getfield 19, 3) := by decide +kernel
theorem dX8_here_15 : decode cX8_here 15 = .ok (.aload_n 0, 1) := by decide +kernel
theorem dX8_here_16 : decode cX8_here 16 = .ok (.getfield 152, 3) := by decide +kernel
theorem dX8_here_19 : decode cX8_here 19 = .ok (.iaload, 1) := by decide +kernel
theorem dX8_here_20 : decode cX8_here 20 = .ok (.goto 4, 3) := by decide +kernel
theorem dX8_here_23 : decode cX8_here 23 = .ok (.iconst (-1), 1) := by decide +kernel
theorem dX8_here_24 : decode cX8_here 24 = .ok (.ireturn, 1) := by decide +kernel
set_option maxRecDepth 20000 in
theorem ggX8_isDigit_X8_here : GoodIn wsX8_isDigit wsX8_here := goodIn_r _ [5, 6, 7, 8, 12, 13, 14, 15, 16, 17, 18, 19, 20, 21, 22, 23, 24, 25, 26, 27, 28, 29] (by decide +kernel) (by decide +kernel)
set_option maxRecDepth 20000 in
theorem gX8_isDigit_X8_here : GoodIn wsX8_isDigit (wsV RX8 155 RX8 yX8_here wsX8_here) := goodIn_app (goodIn_of _ (by decide +kernel)) ggX8_isDigit_X8_here
set_option maxRecDepth 20000 in
theorem ggX8_isDigit_X8_in : GoodIn wsX8_isDigit wsX8_in := goodIn_r _ [11] (by decide +kernel) (by decide +kernel)
set_option maxRecDepth 20000 in
theorem gX8_isDigit_X8_in : GoodIn wsX8_isDigit (va_wsS RX8 31 yX8_in wsX8_in) := goodIn_app (goodIn_of _ (by decide +kernel)) ggX8_isDigit_X8_in
theorem dX8_isDigit_0 : decode cX8_isDigit 0 = .ok (.aload_n 0, 1) := by decide +kernel
theorem dX8_isDigit_1 : decode cX8_isDigit 1 = .ok (.invokevirtual 155, 3) := by decide +kernel
theorem dX8_isDigit_4 : decode cX8_isDigit 4 = .ok (.bipush 48, 2) := by decide +kernel
theorem dX8_isDigit_6 : decode cX8_isDigit 6 = .ok (.bipush 57, 2) := by decide +kernel
theorem dX8_isDigit_8 : decode cX8_isDigit 8 = .ok (.invokestatic 31, 3) := by decide +kernel
theorem dX8_isDigit_11 : decode cX8_isDigit 11 = .ok (.ireturn, 1) := by decide +kernel
set_option maxRecDepth 20000 in
theorem ggX8_takesSign_X8_here : GoodIn wsX8_takesSign wsX8_here := goodIn_r _ [7, 2, 8, 9, 10, 11, 12, 13, 14, 15, 16, 17, 18, 19, 20, 21, 22, 23, 24, 25, 26, 27] (by decide +kernel) (by decide +kernel)
set_option maxRecDepth 20000 in
theorem gX8_takesSign_X8_here : GoodIn wsX8_takesSign (wsV RX8 155 RX8 yX8_here wsX8_here) := goodIn_app (goodIn_of _ (by decide +kernel)) ggX8_takesSign_X8_here
theorem dX8_takesSign_0 : decode cX8_takesSign 0 = .ok (.aload_n 0, 1) := by decide +kernel
theorem dX8_takesSign_1 : decode cX8_takesSign 1 = .ok (.aload_n 0, 1) := by decide +kernel
theorem dX8_takesSign_2 : decode cX8_takesSign 2 = .ok (.getfield 158, 3) := by decide +kernel
theorem dX8_takesSign_5 : decode cX8_takesSign 5 = .ok (.ifCond .eq 15, 3) := by decide +kernel
theorem dX8_takesSign_8 : decode cX8_takesSign 8 = .ok (.aload_n 0, 1) := by decide +kernel
theorem dX8_takesSign_9 : decode cX8_takesSign 9 = .ok (.invokevirtual 155, 3) := by decide +kernel
theorem dX8_takesSign_12 : decode cX8_takesSign 12 = .ok (.iload_n 1, 1) := by decide +kernel
theorem dX8_takesSign_13 : decode cX8_takesSign 13 = .ok (.if_icmp .ne 7, 3) := by decide +kernel
theorem dX8_takesSign_16 : decode cX8_takesSign 16 = .ok (.iconst 1, 1) := by decide +kernel
theorem dX8_takesSign_17 : decode cX8_takesSign 17 = .ok (.goto 4, 3) := by decide +kernel
theorem dX8_takesSign_20 : decode cX8_takesSign 20 = .ok (.iconst 0, 1) := by decide +kernel
theorem dX8_takesSign_21 : decode cX8_takesSign 21 = .ok (.putfield 158, 3) := by decide +kernel
theorem dX8_takesSign_24 : decode cX8_takesSign 24 = .ok (.aload_n 0, 1) := by decide +kernel
theorem dX8_takesSign_25 : decode cX8_takesSign 25 = .ok (.dup, 1) := by decide +kernel
theorem dX8_takesSign_26 : decode cX8_takesSign 26 = .ok (.getfield 152, 3) := by decide +kernel
theorem dX8_takesSign_29 : decode cX8_takesSign 29 = .ok (.aload_n 0, 1) := by decide +kernel
theorem dX8_takesSign_30 : decode cX8_takesSign 30 = .ok (.getfield 158, 3) := by decide +kernel
theorem dX8_takesSign_33 : decode cX8_takesSign 33 = .ok (.ifCond .eq 7, 3) := by decide +kernel
theorem dX8_takesSign_36 : decode cX8_takesSign 36 = .ok (.iconst 1, 1) := by decide +kernel
theorem dX8_takesSign_37 : decode cX8_takesSign 37 = .ok (.goto 4, 3) := by decide +kernel
theorem dX8_takesSign_40 : decode cX8_takesSign 40 = .ok (.iconst 0, 1) := by decide +kernel
theorem dX8_takesSign_41 : decode cX8_takesSign 41 = .ok (.iadd, 1) := by decide +kernel
theorem dX8_takesSign_42 : decode cX8_takesSign 42 = .ok (.putfield 152, 3) := by decide +kernel
theorem dX8_takesSign_45 : decode cX8_takesSign 45 = .ok (.return_, 1) := by decide +kernel
set_option maxRecDepth 20000 in
theorem ggX8_number_X8_isDigit : GoodIn wsX8_number wsX8_isDigit := goodIn_r _ [7, 8, 9, 10, 6, 11, 2, 12, 13, 14, 15, 16, 17, 18, 19, 20, 21, 22, 23, 24, 25, 26, 27, 28, 29, 30, 31, 32, 33, 34] (by decide +kernel) (by decide +kernel)
set_option maxRecDepth 20000 in
theorem gX8_number_X8_isDigit : GoodIn wsX8_number (wsV RX8 162 RX8 yX8_isDigit wsX8_isDigit) := goodIn_app (goodIn_of _ (by decide +kernel)) ggX8_number_X8_isDigit
set_option maxRecDepth 20000 in
theorem ggX8_number_X8_here : GoodIn wsX8_number wsX8_here := goodIn_r _ [11, 2, 12, 13, 17, 18, 19, 20, 21, 22, 23, 24, 25, 26, 27, 28, 29, 30, 31, 32, 33, 34] (by decide +kernel) (by decide +kernel)
set_option maxRecDepth 20000 in
theorem gX8_number_X8_here : GoodIn wsX8_number (wsV RX8 155 RX8 yX8_here wsX8_here) := goodIn_app (goodIn_of _ (by decide +kernel)) ggX8_number_X8_here
theorem dX8_number_0 : decode cX8_number 0 = .ok (.aload_n 0, 1) := by decide +kernel
theorem dX8_number_1 : decode cX8_number 1 = .ok (.aload_n 0, 1) := by decide +kernel
theorem dX8_number_2 : decode cX8_number 2 = .ok (.getfield 158, 3) := by decide +kernel
theorem dX8_number_5 : decode cX8_number 5 = .ok (.ifCond .eq 14, 3) := by decide +kernel
theorem dX8_number_8 : decode cX8_number 8 = .ok (.aload_n 0, 1) := by decide +kernel
theorem dX8_number_9 : decode cX8_number 9 = .ok (.invokevirtual 162, 3) := by decide +kernel
theorem dX8_number_12 : decode cX8_number 12 = .ok (.ifCond .eq 7, 3) := by decide +kernel
theorem dX8_number_15 : decode cX8_number 15 = .ok (.iconst 1, 1) := by decide +kernel
theorem dX8_number_16 : decode cX8_number 16 = .ok (.goto 4, 3) := by decide +kernel
theorem dX8_number_19 : decode cX8_number 19 = .ok (.iconst 0, 1) := by decide +kernel
theorem dX8_number_20 : decode cX8_number 20 = .ok (.putfield 158, 3) := by decide +kernel
theorem dX8_number_23 : decode cX8_number 23 = .ok (.iconst 0, 1) := by decide +kernel
theorem dX8_number_24 : decode cX8_number 24 = .ok (.istore_n 1, 1) := by decide +kernel
theorem dX8_number_25 : decode cX8_number 25 = .ok (.iconst 0, 1) := by decide +kernel
theorem dX8_number_26 : decode cX8_number 26 = .ok (.istore_n 2, 1) := by decide +kernel
theorem dX8_number_27 : decode cX8_number 27 = .ok (.iload_n 2, 1) := by decide +kernel
theorem dX8_number_28 : decode cX8_number 28 = .ok (.iconst 2, 1) := by decide +kernel
theorem dX8_number_29 : decode cX8_number 29 = .ok (.if_icmp .ge 46, 3) := by decide +kernel
theorem dX8_number_32 : decode cX8_number 32 = .ok (.aload_n 0, 1) := by decide +kernel
theorem dX8_number_33 : decode cX8_number 33 = .ok (.getfield 158, 3) := by decide +kernel
theorem dX8_number_36 : decode cX8_number 36 = .ok (.ifCond .eq 39, 3) := by decide +kernel
theorem dX8_number_39 : decode cX8_number 39 = .ok (.aload_n 0, 1) := by decide +kernel
theorem dX8_number_40 : decode cX8_number 40 = .ok (.invokevirtual 162, 3) := by decide +kernel
theorem dX8_number_43 : decode cX8_number 43 = .ok (.ifCond .eq 32, 3) := by decide +kernel
theorem dX8_number_46 : decode cX8_number 46 = .ok (.bipush 10, 2) := by decide +kernel
theorem dX8_number_48 : decode cX8_number 48 = .ok (.iload_n 1, 1) := by decide +kernel
theorem dX8_number_49 : decode cX8_number 49 = .ok (.imul, 1) := by decide +kernel
theorem dX8_number_50 : decode cX8_number 50 = .ok (.aload_n 0, 1) := by decide +kernel
theorem dX8_number_51 : decode cX8_number 51 = .ok (.invokevirtual 155, 3) := by decide +kernel
theorem dX8_number_54 : decode cX8_number 54 = .ok (.iadd, 1) := by decide +kernel
theorem dX8_number_55 : decode cX8_number 55 = .ok (.bipush 48, 2) := by decide +kernel
theorem dX8_number_57 : decode cX8_number 57 = .ok (.isub, 1) := by decide +kernel
theorem dX8_number_58 : decode cX8_number 58 = .ok (.istore_n 1, 1) := by decide +kernel
theorem dX8_number_59 : decode cX8_number 59 = .ok (.aload_n 0, 1) := by decide +kernel
theorem dX8_number_60 : decode cX8_number 60 = .ok (.dup, 1) := by decide +kernel
theorem dX8_number_61 : decode cX8_number 61 = .ok (.getfield 152, 3) := by decide +kernel
theorem dX8_number_64 : decode cX8_number 64 = .ok (.iconst 1, 1) := by decide +kernel
theorem dX8_number_65 : decode cX8_number 65 = .ok (.iadd, 1) := by decide +kernel
theorem dX8_number_66 : decode cX8_number 66 = .ok (.putfield 152, 3) := by decide +kernel
theorem dX8_number_69 : decode cX8_number 69 = .ok (.iinc 2 1, 3) := by decide +kernel
theorem dX8_number_72 : decode cX8_number 72 = .ok (.goto (-45), 3) := by decide +kernel
theorem dX8_number_75 : decode cX8_number 75 = .ok (.iload_n 1, 1) := by decide +kernel
theorem dX8_number_76 : decode cX8_number 76 = .ok (.ireturn, 1) := by decide +kernel
theorem dX8_wants_0 : decode cX8_wants 0 = .ok (.iload_n 0, 1) := by decide +kernel
theorem dX8_wants_1 : decode cX8_wants 1 = .ok (.lookupswitch 32 #[(99, 27), (119, 30)], 27) := by decide +kernel
theorem dX8_wants_28 : decode cX8_wants 28 = .ok (.bipush 6, 2) := by decide +kernel
theorem dX8_wants_30 : decode cX8_wants 30 = .ok (.ireturn, 1) := by decide +kernel
theorem dX8_wants_31 : decode cX8_wants 31 = .ok (.iconst 4, 1) := by decide +kernel
theorem dX8_wants_32 : decode cX8_wants 32 = .ok (.ireturn, 1) := by decide +kernel
theorem dX8_wants_33 : decode cX8_wants 33 = .ok (.iload_n 0, 1) := by decide +kernel
theorem dX8_wants_34 : decode cX8_wants 34 = .ok (.bipush 102, 2) := by decide +kernel
theorem dX8_wants_36 : decode cX8_wants 36 = .ok (.if_icmp .eq 15, 3) := by decide +kernel
theorem dX8_wants_39 : decode cX8_wants 39 = .ok (.iload_n 0, 1) := by decide +kernel
theorem dX8_wants_40 : decode cX8_wants 40 = .ok (.bipush 120, 2) := by decide +kernel
theorem dX8_wants_42 : decode cX8_wants 42 = .ok (.if_icmp .eq 9, 3) := by decide +kernel
theorem dX8_wants_45 : decode cX8_wants 45 = .ok (.iload_n 0, 1) := by decide +kernel
theorem dX8_wants_46 : decode cX8_wants 46 = .ok (.bipush 100, 2) := by decide +kernel
theorem dX8_wants_48 : decode cX8_wants 48 = .ok (.if_icmp .ne 7, 3) := by decide +kernel
theorem dX8_wants_51 : decode cX8_wants 51 = .ok (.iconst 1, 1) := by decide +kernel
theorem dX8_wants_52 : decode cX8_wants 52 = .ok (.goto 4, 3) := by decide +kernel
theorem dX8_wants_55 : decode cX8_wants 55 = .ok (.iconst 0, 1) := by decide +kernel
theorem dX8_wants_56 : decode cX8_wants 56 = .ok (.ireturn, 1) := by decide +kernel
set_option maxRecDepth 20000 in
theorem ggX8_called_X8_comes : GoodIn wsX8_called wsX8_comes := goodIn_r _ [6, 7, 8, 9, 10, 11, 5, 12, 13, 14, 15, 16, 17, 18, 19, 72, 73, 74, 75, 76, 77, 78, 79, 80, 81, 82, 83, 84, 85, 86, 87, 88, 89] (by decide +kernel) (by decide +kernel)
set_option maxRecDepth 20000 in
theorem gX8_called_X8_comes : GoodIn wsX8_called (wsV RX8 94 RX8 yX8_comes wsX8_comes) := goodIn_app (goodIn_of _ (by decide +kernel)) ggX8_called_X8_comes
set_option maxRecDepth 20000 in
theorem ggX8_called_X8_tells : GoodIn wsX8_called wsX8_tells := goodIn_r _ [23, 8, 7, 13, 14, 5, 15, 10, 11, 12, 24, 25, 26, 27, 28, 29, 30, 31, 32, 33, 34, 35, 36, 37, 38, 39, 40, 41, 42, 72, 73, 74, 75, 76, 77, 78, 79, 80, 81, 82, 83, 84, 85, 86, 87, 88, 89] (by decide +kernel) (by decide +kernel)
set_option maxRecDepth 20000 in
theorem gX8_called_X8_tells : GoodIn wsX8_called (wsV RX8 101 RX8 yX8_tells wsX8_tells) := goodIn_app (goodIn_of _ (by decide +kernel)) ggX8_called_X8_tells
set_option maxRecDepth 20000 in
theorem ggX8_called_X8_flies : GoodIn wsX8_called wsX8_flies := goodIn_r _ [46, 8, 47, 7, 48, 49, 50, 5, 51, 13, 14, 15, 52, 53, 54, 55, 36, 37, 38, 39, 56, 57, 58, 59, 28, 29, 30, 31, 32, 33, 34, 35, 60, 61, 62, 63, 16, 17, 18, 19, 72, 73, 74, 75, 76, 77, 78, 79, 80, 81, 82, 83, 84, 85, 86, 87, 88, 89] (by decide +kernel) (by decide +kernel)
set_option maxRecDepth 20000 in
theorem gX8_called_X8_flies : GoodIn wsX8_called (wsV RX8 105 RX8 yX8_flies wsX8_flies) := goodIn_app (goodIn_of _ (by decide +kernel)) ggX8_called_X8_flies
set_option maxRecDepth 20000 in
theorem ggX8_called_X8_passes : GoodIn wsX8_called wsX8_passes := goodIn_r _ [67, 8, 7, 9, 13, 14, 5, 15, 68, 69, 70, 71, 72, 73, 74, 75, 76, 77, 78, 79, 80, 81, 82, 83, 84, 85, 86, 87, 88, 89] (by decide +kernel) (by decide +kernel)
set_option maxRecDepth 20000 in
theorem gX8_called_X8_passes : GoodIn wsX8_called (wsV RX8 111 RX8 yX8_passes wsX8_passes) := goodIn_app (goodIn_of _ (by decide +kernel)) ggX8_called_X8_passes
theorem dX8_called_0 : decode cX8_called 0 = .ok (.iload_n 1, 1) := by decide +kernel
theorem dX8_called_1 : decode cX8_called 1 = .ok (.lookupswitch 137 #[(99, 43), (102, 115), (119, 86), (120, 115)], 43) := by decide +kernel
theorem dX8_called_44 : decode cX8_called 44 = .ok (.aload_n 0, 1) := by decide +kernel
theorem dX8_called_45 : decode cX8_called 45 = .ok (.aload_n 0, 1) := by decide +kernel
theorem dX8_called_46 : decode cX8_called 46 = .ok (.getfield 28, 3) := by decide +kernel
theorem dX8_called_49 : decode cX8_called 49 = .ok (.iconst 0, 1) := by decide +kernel
theorem dX8_called_50 : decode cX8_called 50 = .ok (.iaload, 1) := by decide +kernel
theorem dX8_called_51 : decode cX8_called 51 = .ok (.aload_n 0, 1) := by decide +kernel
theorem dX8_called_52 : decode cX8_called 52 = .ok (.getfield 28, 3) := by decide +kernel
theorem dX8_called_55 : decode cX8_called 55 = .ok (.iconst 1, 1) := by decide +kernel
theorem dX8_called_56 : decode cX8_called 56 = .ok (.iaload, 1) := by decide +kernel
theorem dX8_called_57 : decode cX8_called 57 = .ok (.aload_n 0, 1) := by decide +kernel
theorem dX8_called_58 : decode cX8_called 58 = .ok (.getfield 28, 3) := by decide +kernel
theorem dX8_called_61 : decode cX8_called 61 = .ok (.iconst 2, 1) := by decide +kernel
theorem dX8_called_62 : decode cX8_called 62 = .ok (.iaload, 1) := by decide +kernel
theorem dX8_called_63 : decode cX8_called 63 = .ok (.aload_n 0, 1) := by decide +kernel
theorem dX8_called_64 : decode cX8_called 64 = .ok (.getfield 28, 3) := by decide +kernel
theorem dX8_called_67 : decode cX8_called 67 = .ok (.iconst 3, 1) := by decide +kernel
theorem dX8_called_68 : decode cX8_called 68 = .ok (.iaload, 1) := by decide +kernel
theorem dX8_called_69 : decode cX8_called 69 = .ok (.aload_n 0, 1) := by decide +kernel
theorem dX8_called_70 : decode cX8_called 70 = .ok (.getfield 28, 3) := by decide +kernel
theorem dX8_called_73 : decode cX8_called 73 = .ok (.iconst 4, 1) := by decide +kernel
theorem dX8_called_74 : decode cX8_called 74 = .ok (.iaload, 1) := by decide +kernel
theorem dX8_called_75 : decode cX8_called 75 = .ok (.aload_n 0, 1) := by decide +kernel
theorem dX8_called_76 : decode cX8_called 76 = .ok (.getfield 28, 3) := by decide +kernel
theorem dX8_called_79 : decode cX8_called 79 = .ok (.iconst 5, 1) := by decide +kernel
theorem dX8_called_80 : decode cX8_called 80 = .ok (.iaload, 1) := by decide +kernel
theorem dX8_called_81 : decode cX8_called 81 = .ok (.iconst 1, 1) := by decide +kernel
theorem dX8_called_82 : decode cX8_called 82 = .ok (.isub, 1) := by decide +kernel
theorem dX8_called_83 : decode cX8_called 83 = .ok (.invokevirtual 94, 3) := by decide +kernel
theorem dX8_called_86 : decode cX8_called 86 = .ok (.ireturn, 1) := by decide +kernel
theorem dX8_called_87 : decode cX8_called 87 = .ok (.aload_n 0, 1) := by decide +kernel
theorem dX8_called_88 : decode cX8_called 88 = .ok (.aload_n 0, 1) := by decide +kernel
theorem dX8_called_89 : decode cX8_called 89 = .ok (.getfield 28, 3) := by decide +kernel
theorem dX8_called_92 : decode cX8_called 92 = .ok (.iconst 0, 1) := by decide +kernel
theorem dX8_called_93 : decode cX8_called 93 = .ok (.iaload, 1) := by decide +kernel
theorem dX8_called_94 : decode cX8_called 94 = .ok (.aload_n 0, 1) := by decide +kernel
theorem dX8_called_95 : decode cX8_called 95 = .ok (.getfield 28, 3) := by decide +kernel
theorem dX8_called_98 : decode cX8_called 98 = .ok (.iconst 1, 1) := by decide +kernel
theorem dX8_called_99 : decode cX8_called 99 = .ok (.iaload, 1) := by decide +kernel
theorem dX8_called_100 : decode cX8_called 100 = .ok (.aload_n 0, 1) := by decide +kernel
theorem dX8_called_101 : decode cX8_called 101 = .ok (.getfield 28, 3) := by decide +kernel
theorem dX8_called_104 : decode cX8_called 104 = .ok (.iconst 2, 1) := by decide +kernel
theorem dX8_called_105 : decode cX8_called 105 = .ok (.iaload, 1) := by decide +kernel
theorem dX8_called_106 : decode cX8_called 106 = .ok (.aload_n 0, 1) := by decide +kernel
theorem dX8_called_107 : decode cX8_called 107 = .ok (.getfield 28, 3) := by decide +kernel
theorem dX8_called_110 : decode cX8_called 110 = .ok (.iconst 3, 1) := by decide +kernel
theorem dX8_called_111 : decode cX8_called 111 = .ok (.iaload, 1) := by decide +kernel
theorem dX8_called_112 : decode cX8_called 112 = .ok (.invokevirtual 101, 3) := by decide +kernel
theorem dX8_called_115 : decode cX8_called 115 = .ok (.ireturn, 1) := by decide +kernel
theorem dX8_called_116 : decode cX8_called 116 = .ok (.aload_n 0, 1) := by decide +kernel
theorem dX8_called_117 : decode cX8_called 117 = .ok (.aload_n 0, 1) := by decide +kernel
theorem dX8_called_118 : decode cX8_called 118 = .ok (.getfield 28, 3) := by decide +kernel
theorem dX8_called_121 : decode cX8_called 121 = .ok (.iconst 0, 1) := by decide +kernel
theorem dX8_called_122 : decode cX8_called 122 = .ok (.iaload, 1) := by decide +kernel
theorem dX8_called_123 : decode cX8_called 123 = .ok (.iload_n 1, 1) := by decide +kernel
theorem dX8_called_124 : decode cX8_called 124 = .ok (.bipush 102, 2) := by decide +kernel
theorem dX8_called_126 : decode cX8_called 126 = .ok (.if_icmp .ne 7, 3) := by decide +kernel
theorem dX8_called_129 : decode cX8_called 129 = .ok (.iconst 1, 1) := by decide +kernel
theorem dX8_called_130 : decode cX8_called 130 = .ok (.goto 4, 3) := by decide +kernel
theorem dX8_called_133 : decode cX8_called 133 = .ok (.iconst 2, 1) := by decide +kernel
theorem dX8_called_134 : decode cX8_called 134 = .ok (.invokevirtual 105, 3) := by decide +kernel
theorem dX8_called_137 : decode cX8_called 137 = .ok (.ireturn, 1) := by decide +kernel
theorem dX8_called_138 : decode cX8_called 138 = .ok (.aload_n 0, 1) := by decide +kernel
theorem dX8_called_139 : decode cX8_called 139 = .ok (.aload_n 0, 1) := by decide +kernel
theorem dX8_called_140 : decode cX8_called 140 = .ok (.getfield 28, 3) := by decide +kernel
theorem dX8_called_143 : decode cX8_called 143 = .ok (.iconst 0, 1) := by decide +kernel
theorem dX8_called_144 : decode cX8_called 144 = .ok (.iaload, 1) := by decide +kernel
theorem dX8_called_145 : decode cX8_called 145 = .ok (.invokevirtual 111, 3) := by decide +kernel
theorem dX8_called_148 : decode cX8_called 148 = .ok (.ireturn, 1) := by decide +kernel
set_option maxRecDepth 20000 in
theorem ggX8_does_X8_here : GoodIn wsX8_does wsX8_here := goodIn_r _ [13, 1, 3, 14, 102, 103, 104, 105, 106, 107, 108, 109, 110, 111, 112, 113, 114, 115, 116, 117, 118, 119] (by decide +kernel) (by decide +kernel)
set_option maxRecDepth 20000 in
theorem gX8_does_X8_here : GoodIn wsX8_does (wsV RX8 155 RX8 yX8_here wsX8_here) := goodIn_app (goodIn_of _ (by decide +kernel)) ggX8_does_X8_here
set_option maxRecDepth 20000 in
theorem ggX8_does_X8_wants : GoodIn wsX8_does wsX8_wants := goodIn_r _ [17] (by decide +kernel) (by decide +kernel)
set_option maxRecDepth 20000 in
theorem gX8_does_X8_wants : GoodIn wsX8_does (va_wsS RX8 172 yX8_wants wsX8_wants) := goodIn_app (goodIn_of _ (by decide +kernel)) ggX8_does_X8_wants
set_option maxRecDepth 20000 in
theorem ggX8_does_X8_takesSign : GoodIn wsX8_does wsX8_takesSign := goodIn_r _ [21, 5, 1, 9, 10, 11, 12, 13, 3, 14, 102, 103, 104, 105, 106, 107, 108, 109, 110, 111, 112, 113, 114, 115, 116, 117, 118, 119] (by decide +kernel) (by decide +kernel)
set_option maxRecDepth 20000 in
theorem gX8_does_X8_takesSign : GoodIn wsX8_does (wsV RX8 175 RX8 yX8_takesSign wsX8_takesSign) := goodIn_app (goodIn_of _ (by decide +kernel)) ggX8_does_X8_takesSign
set_option maxRecDepth 20000 in
theorem ggX8_does_X8_number : GoodIn wsX8_does wsX8_number := goodIn_r _ [25, 5, 1, 26, 27, 28, 12, 29, 9, 10, 11, 13, 3, 14, 30, 31, 32, 102, 103, 104, 105, 106, 107, 108, 109, 110, 111, 112, 113, 114, 115, 116, 117, 118, 119] (by decide +kernel) (by decide +kernel)
set_option maxRecDepth 20000 in
theorem gX8_does_X8_number : GoodIn wsX8_does (wsV RX8 178 RX8 yX8_number wsX8_number) := goodIn_app (goodIn_of _ (by decide +kernel)) ggX8_does_X8_number
set_option maxRecDepth 20000 in
theorem ggX8_does_X8_called : GoodIn wsX8_does wsX8_called := goodIn_r _ [36, 6, 37, 38, 39, 12, 40, 41, 8, 42, 43, 44, 45, 30, 31, 32, 46, 47, 48, 49, 50, 51, 52, 53, 54, 55, 56, 57, 58, 59, 60, 61, 62, 63, 64, 65, 66, 67, 68, 69, 70, 71, 72, 73, 74, 75, 76, 77, 78, 79, 80, 81, 82, 83, 84, 85, 86, 87, 88, 89, 90, 91, 92, 93, 94, 95, 96, 97, 98, 99, 100, 101, 102, 103, 104, 105, 106, 107, 108, 109, 110, 111, 112, 113, 114, 115, 116, 117, 118, 119] (by decide +kernel) (by decide +kernel)
set_option maxRecDepth 20000 in
theorem gX8_does_X8_called : GoodIn wsX8_does (wsV RX8 181 RX8 yX8_called wsX8_called) := goodIn_app (goodIn_of _ (by decide +kernel)) ggX8_does_X8_called
theorem dX8_does_0 : decode cX8_does 0 = .ok (.aload_n 0, 1) := by decide +kernel
theorem dX8_does_1 : decode cX8_does 1 = .ok (.iconst 0, 1) := by decide +kernel
theorem dX8_does_2 : decode cX8_does 2 = .ok (.putfield 152, 3) := by decide +kernel
theorem dX8_does_5 : decode cX8_does 5 = .ok (.aload_n 0, 1) := by decide +kernel
theorem dX8_does_6 : decode cX8_does 6 = .ok (.iconst 0, 1) := by decide +kernel
theorem dX8_does_7 : decode cX8_does 7 = .ok (.putfield 166, 3) := by decide +kernel
theorem dX8_does_10 : decode cX8_does 10 = .ok (.aload_n 0, 1) := by decide +kernel
theorem dX8_does_11 : decode cX8_does 11 = .ok (.getfield 152, 3) := by decide +kernel
theorem dX8_does_14 : decode cX8_does 14 = .ok (.aload_n 0, 1) := by decide +kernel
theorem dX8_does_15 : decode cX8_does 15 = .ok (.getfield 149, 3) := by decide +kernel
theorem dX8_does_18 : decode cX8_does 18 = .ok (.if_icmp .ge 146, 3) := by decide +kernel
theorem dX8_does_21 : decode cX8_does 21 = .ok (.aload_n 0, 1) := by decide +kernel
theorem dX8_does_22 : decode cX8_does 22 = .ok (.aload_n 0, 1) := by decide +kernel
theorem dX8_does_23 : decode cX8_does 23 = .ok (.getfield 152, 3) := by decide +kernel
theorem dX8_does_26 : decode cX8_does 26 = .ok (.putfield 169, 3) := by decide +kernel
theorem dX8_does_29 : decode cX8_does 29 = .ok (.aload_n 0, 1) := by decide +kernel
theorem dX8_does_30 : decode cX8_does 30 = .ok (.invokevirtual 155, 3) := by decide +kernel
theorem dX8_does_33 : decode cX8_does 33 = .ok (.istore_n 1, 1) := by decide +kernel
theorem dX8_does_34 : decode cX8_does 34 = .ok (.aload_n 0, 1) := by decide +kernel
theorem dX8_does_35 : decode cX8_does 35 = .ok (.iload_n 1, 1) := by decide +kernel
theorem dX8_does_36 : decode cX8_does 36 = .ok (.invokestatic 172, 3) := by decide +kernel
theorem dX8_does_39 : decode cX8_does 39 = .ok (.ifCond .le 7, 3) := by decide +kernel
theorem dX8_does_42 : decode cX8_does 42 = .ok (.iconst 1, 1) := by decide +kernel
theorem dX8_does_43 : decode cX8_does 43 = .ok (.goto 4, 3) := by decide +kernel
theorem dX8_does_46 : decode cX8_does 46 = .ok (.iconst 0, 1) := by decide +kernel
theorem dX8_does_47 : decode cX8_does 47 = .ok (.putfield 158, 3) := by decide +kernel
theorem dX8_does_50 : decode cX8_does 50 = .ok (.aload_n 0, 1) := by decide +kernel
theorem dX8_does_51 : decode cX8_does 51 = .ok (.dup, 1) := by decide +kernel
theorem dX8_does_52 : decode cX8_does 52 = .ok (.getfield 152, 3) := by decide +kernel
theorem dX8_does_55 : decode cX8_does 55 = .ok (.aload_n 0, 1) := by decide +kernel
theorem dX8_does_56 : decode cX8_does 56 = .ok (.getfield 158, 3) := by decide +kernel
theorem dX8_does_59 : decode cX8_does 59 = .ok (.ifCond .eq 7, 3) := by decide +kernel
theorem dX8_does_62 : decode cX8_does 62 = .ok (.iconst 1, 1) := by decide +kernel
theorem dX8_does_63 : decode cX8_does 63 = .ok (.goto 4, 3) := by decide +kernel
theorem dX8_does_66 : decode cX8_does 66 = .ok (.iconst 0, 1) := by decide +kernel
theorem dX8_does_67 : decode cX8_does 67 = .ok (.iadd, 1) := by decide +kernel
theorem dX8_does_68 : decode cX8_does 68 = .ok (.putfield 152, 3) := by decide +kernel
theorem dX8_does_71 : decode cX8_does 71 = .ok (.iconst 0, 1) := by decide +kernel
theorem dX8_does_72 : decode cX8_does 72 = .ok (.istore_n 2, 1) := by decide +kernel
theorem dX8_does_73 : decode cX8_does 73 = .ok (.iload_n 2, 1) := by decide +kernel
theorem dX8_does_74 : decode cX8_does 74 = .ok (.iload_n 1, 1) := by decide +kernel
theorem dX8_does_75 : decode cX8_does 75 = .ok (.invokestatic 172, 3) := by decide +kernel
theorem dX8_does_78 : decode cX8_does 78 = .ok (.if_icmp .ge 29, 3) := by decide +kernel
theorem dX8_does_81 : decode cX8_does 81 = .ok (.iload_n 2, 1) := by decide +kernel
theorem dX8_does_82 : decode cX8_does 82 = .ok (.ifCond .le 9, 3) := by decide +kernel
theorem dX8_does_85 : decode cX8_does 85 = .ok (.aload_n 0, 1) := by decide +kernel
theorem dX8_does_86 : decode cX8_does 86 = .ok (.bipush 44, 2) := by decide +kernel
theorem dX8_does_88 : decode cX8_does 88 = .ok (.invokevirtual 175, 3) := by decide +kernel
theorem dX8_does_91 : decode cX8_does 91 = .ok (.aload_n 0, 1) := by decide +kernel
theorem dX8_does_92 : decode cX8_does 92 = .ok (.getfield 28, 3) := by decide +kernel
theorem dX8_does_95 : decode cX8_does 95 = .ok (.iload_n 2, 1) := by decide +kernel
theorem dX8_does_96 : decode cX8_does 96 = .ok (.aload_n 0, 1) := by decide +kernel
theorem dX8_does_97 : decode cX8_does 97 = .ok (.invokevirtual 178, 3) := by decide +kernel
theorem dX8_does_100 : decode cX8_does 100 = .ok (.iastore, 1) := by decide +kernel
theorem dX8_does_101 : decode cX8_does 101 = .ok (.iinc 2 1, 3) := by decide +kernel
theorem dX8_does_104 : decode cX8_does 104 = .ok (.goto (-31), 3) := by decide +kernel
theorem dX8_does_107 : decode cX8_does 107 = .ok (.aload_n 0, 1) := by decide +kernel
theorem dX8_does_108 : decode cX8_does 108 = .ok (.bipush 59, 2) := by decide +kernel
theorem dX8_does_110 : decode cX8_does 110 = .ok (.invokevirtual 175, 3) := by decide +kernel
theorem dX8_does_113 : decode cX8_does 113 = .ok (.aload_n 0, 1) := by decide +kernel
theorem dX8_does_114 : decode cX8_does 114 = .ok (.aload_n 0, 1) := by decide +kernel
theorem dX8_does_115 : decode cX8_does 115 = .ok (.getfield 158, 3) := by decide +kernel
theorem dX8_does_118 : decode cX8_does 118 = .ok (.ifCond .eq 11, 3) := by decide +kernel
theorem dX8_does_121 : decode cX8_does 121 = .ok (.aload_n 0, 1) := by decide +kernel
theorem dX8_does_122 : decode cX8_does 122 = .ok (.iload_n 1, 1) := by decide +kernel
theorem dX8_does_123 : decode cX8_does 123 = .ok (.invokevirtual 181, 3) := by decide +kernel
theorem dX8_does_126 : decode cX8_does 126 = .ok (.goto 4, 3) := by decide +kernel
theorem dX8_does_129 : decode cX8_does 129 = .ok (.iconst 0, 1) := by decide +kernel
theorem dX8_does_130 : decode cX8_does 130 = .ok (.putfield 184, 3) := by decide +kernel
theorem dX8_does_133 : decode cX8_does 133 = .ok (.aload_n 0, 1) := by decide +kernel
theorem dX8_does_134 : decode cX8_does 134 = .ok (.getfield 158, 3) := by decide +kernel
theorem dX8_does_137 : decode cX8_does 137 = .ok (.ifCond .eq 12, 3) := by decide +kernel
theorem dX8_does_140 : decode cX8_does 140 = .ok (.aload_n 0, 1) := by decide +kernel
theorem dX8_does_141 : decode cX8_does 141 = .ok (.getfield 184, 3) := by decide +kernel
theorem dX8_does_144 : decode cX8_does 144 = .ok (.ldc 35, 2) := by decide +kernel
theorem dX8_does_146 : decode cX8_does 146 = .ok (.if_icmp .gt 5, 3) := by decide +kernel
theorem dX8_does_149 : decode cX8_does 149 = .ok (.iconst 0, 1) := by decide +kernel
theorem dX8_does_150 : decode cX8_does 150 = .ok (.ireturn, 1) := by decide +kernel
theorem dX8_does_151 : decode cX8_does 151 = .ok (.aload_n 0, 1) := by decide +kernel
theorem dX8_does_152 : decode cX8_does 152 = .ok (.dup, 1) := by decide +kernel
theorem dX8_does_153 : decode cX8_does 153 = .ok (.getfield 166, 3) := by decide +kernel
theorem dX8_does_156 : decode cX8_does 156 = .ok (.iconst 1, 1) := by decide +kernel
theorem dX8_does_157 : decode cX8_does 157 = .ok (.iadd, 1) := by decide +kernel
theorem dX8_does_158 : decode cX8_does 158 = .ok (.putfield 166, 3) := by decide +kernel
theorem dX8_does_161 : decode cX8_does 161 = .ok (.goto (-151), 3) := by decide +kernel
theorem dX8_does_164 : decode cX8_does 164 = .ok (.iconst 1, 1) := by decide +kernel
theorem dX8_does_165 : decode cX8_does 165 = .ok (.ireturn, 1) := by decide +kernel
set_option maxRecDepth 20000 in
theorem ggX8_fault_X8_in : GoodIn wsX8_fault wsX8_in := goodIn_r _ [10] (by decide +kernel) (by decide +kernel)
set_option maxRecDepth 20000 in
theorem gX8_fault_X8_in : GoodIn wsX8_fault (va_wsS RX8 31 yX8_in wsX8_in) := goodIn_app (goodIn_of _ (by decide +kernel)) ggX8_fault_X8_in
set_option maxRecDepth 20000 in
theorem ggX8_fault_X8_begins : GoodIn wsX8_fault wsX8_begins := goodIn_r _ [14, 15, 16, 116, 117, 118, 119, 120, 121, 122, 123, 124, 125, 126, 127, 128, 129, 130, 131, 132, 133] (by decide +kernel) (by decide +kernel)
set_option maxRecDepth 20000 in
theorem gX8_fault_X8_begins : GoodIn wsX8_fault (wsV RX8 91 RX8 yX8_begins wsX8_begins) := goodIn_app (goodIn_of _ (by decide +kernel)) ggX8_fault_X8_begins
set_option maxRecDepth 20000 in
theorem ggX8_fault_X8_does : GoodIn wsX8_fault wsX8_does := goodIn_r _ [20, 6, 21, 22, 3, 4, 23, 5, 1, 24, 25, 26, 9, 27, 28, 29, 30, 31, 32, 33, 34, 35, 36, 37, 38, 39, 40, 41, 42, 43, 7, 8, 10, 44, 45, 46, 47, 48, 49, 50, 51, 16, 52, 53, 54, 55, 56, 57, 58, 59, 60, 61, 62, 63, 64, 65, 66, 67, 68, 69, 70, 71, 72, 73, 74, 75, 76, 77, 78, 79, 80, 81, 82, 83, 84, 85, 86, 87, 88, 89, 90, 91, 92, 93, 94, 95, 96, 97, 98, 99, 100, 101, 102, 103, 104, 105, 106, 107, 108, 109, 110, 111, 116, 117, 118, 119, 120, 121, 122, 123, 124, 125, 126, 127, 128, 129, 130, 131, 132, 133] (by decide +kernel) (by decide +kernel)
set_option maxRecDepth 20000 in
theorem gX8_fault_X8_does : GoodIn wsX8_fault (wsV RX8 187 RX8 yX8_does wsX8_does) := goodIn_app (goodIn_of _ (by decide +kernel)) ggX8_fault_X8_does
set_option maxRecDepth 20000 in
theorem ggX8_fault_X8_returns : GoodIn wsX8_fault wsX8_returns := goodIn_r _ [115, 16, 15, 116, 117, 118, 119, 120, 121, 122, 123, 124, 125, 126, 127, 128, 129, 130, 131, 132, 133] (by decide +kernel) (by decide +kernel)
set_option maxRecDepth 20000 in
theorem gX8_fault_X8_returns : GoodIn wsX8_fault (wsV RX8 36 RX8 yX8_returns wsX8_returns) := goodIn_app (goodIn_of _ (by decide +kernel)) ggX8_fault_X8_returns
theorem dX8_fault_0 : decode cX8_fault 0 = .ok (.iload_n 1, 1) := by decide +kernel
theorem dX8_fault_1 : decode cX8_fault 1 = .ok (.iconst 0, 1) := by decide +kernel
theorem dX8_fault_2 : decode cX8_fault 2 = .ok (.iconst 2, 1) := by decide +kernel
theorem dX8_fault_3 : decode cX8_fault 3 = .ok (.invokestatic 31, 3) := by decide +kernel
theorem dX8_fault_6 : decode cX8_fault 6 = .ok (.ifCond .ne 6, 3) := by decide +kernel
theorem dX8_fault_9 : decode cX8_fault 9 = .ok (.ldc 35, 2) := by decide +kernel
theorem dX8_fault_11 : decode cX8_fault 11 = .ok (.ireturn, 1) := by decide +kernel
theorem dX8_fault_12 : decode cX8_fault 12 = .ok (.aload_n 0, 1) := by decide +kernel
theorem dX8_fault_13 : decode cX8_fault 13 = .ok (.invokevirtual 91, 3) := by decide +kernel
theorem dX8_fault_16 : decode cX8_fault 16 = .ok (.aload_n 0, 1) := by decide +kernel
theorem dX8_fault_17 : decode cX8_fault 17 = .ok (.invokevirtual 187, 3) := by decide +kernel
theorem dX8_fault_20 : decode cX8_fault 20 = .ok (.istore_n 2, 1) := by decide +kernel
theorem dX8_fault_21 : decode cX8_fault 21 = .ok (.aload_n 0, 1) := by decide +kernel
theorem dX8_fault_22 : decode cX8_fault 22 = .ok (.invokevirtual 36, 3) := by decide +kernel
theorem dX8_fault_25 : decode cX8_fault 25 = .ok (.iload_n 2, 1) := by decide +kernel
theorem dX8_fault_26 : decode cX8_fault 26 = .ok (.ifCond .eq 6, 3) := by decide +kernel
theorem dX8_fault_29 : decode cX8_fault 29 = .ok (.ldc 114, 2) := by decide +kernel
theorem dX8_fault_31 : decode cX8_fault 31 = .ok (.ireturn, 1) := by decide +kernel
theorem dX8_fault_32 : decode cX8_fault 32 = .ok (.iload_n 1, 1) := by decide +kernel
theorem dX8_fault_33 : decode cX8_fault 33 = .ok (.ifCond .ne 10, 3) := by decide +kernel
theorem dX8_fault_36 : decode cX8_fault 36 = .ok (.aload_n 0, 1) := by decide +kernel
theorem dX8_fault_37 : decode cX8_fault 37 = .ok (.getfield 169, 3) := by decide +kernel
theorem dX8_fault_40 : decode cX8_fault 40 = .ok (.goto 46, 3) := by decide +kernel
theorem dX8_fault_43 : decode cX8_fault 43 = .ok (.iload_n 1, 1) := by decide +kernel
theorem dX8_fault_44 : decode cX8_fault 44 = .ok (.iconst 1, 1) := by decide +kernel
theorem dX8_fault_45 : decode cX8_fault 45 = .ok (.if_icmp .ne 18, 3) := by decide +kernel
theorem dX8_fault_48 : decode cX8_fault 48 = .ok (.aload_n 0, 1) := by decide +kernel
theorem dX8_fault_49 : decode cX8_fault 49 = .ok (.getfield 158, 3) := by decide +kernel
theorem dX8_fault_52 : decode cX8_fault 52 = .ok (.ifCond .eq 7, 3) := by decide +kernel
theorem dX8_fault_55 : decode cX8_fault 55 = .ok (.iconst 2, 1) := by decide +kernel
theorem dX8_fault_56 : decode cX8_fault 56 = .ok (.goto 30, 3) := by decide +kernel
theorem dX8_fault_59 : decode cX8_fault 59 = .ok (.iconst 1, 1) := by decide +kernel
theorem dX8_fault_60 : decode cX8_fault 60 = .ok (.goto 26, 3) := by decide +kernel
theorem dX8_fault_63 : decode cX8_fault 63 = .ok (.aload_n 0, 1) := by decide +kernel
theorem dX8_fault_64 : decode cX8_fault 64 = .ok (.getfield 158, 3) := by decide +kernel
theorem dX8_fault_67 : decode cX8_fault 67 = .ok (.ifCond .eq 10, 3) := by decide +kernel
theorem dX8_fault_70 : decode cX8_fault 70 = .ok (.aload_n 0, 1) := by decide +kernel
theorem dX8_fault_71 : decode cX8_fault 71 = .ok (.getfield 184, 3) := by decide +kernel
theorem dX8_fault_74 : decode cX8_fault 74 = .ok (.goto 12, 3) := by decide +kernel
theorem dX8_fault_77 : decode cX8_fault 77 = .ok (.aload_n 0, 1) := by decide +kernel
theorem dX8_fault_78 : decode cX8_fault 78 = .ok (.getfield 152, 3) := by decide +kernel
theorem dX8_fault_81 : decode cX8_fault 81 = .ok (.aload_n 0, 1) := by decide +kernel
theorem dX8_fault_82 : decode cX8_fault 82 = .ok (.getfield 169, 3) := by decide +kernel
theorem dX8_fault_85 : decode cX8_fault 85 = .ok (.isub, 1) := by decide +kernel
theorem dX8_fault_86 : decode cX8_fault 86 = .ok (.ireturn, 1) := by decide +kernel
set_option maxRecDepth 20000 in
theorem ggX8_play_X8_begins : GoodIn wsX8_play wsX8_begins := goodIn_r _ [7, 8, 9, 121, 122, 123, 124, 125, 126, 127, 128, 129, 130, 131, 132, 133, 134, 135, 136, 137, 138] (by decide +kernel) (by decide +kernel)
set_option maxRecDepth 20000 in
theorem gX8_play_X8_begins : GoodIn wsX8_play (wsV RX8 91 RX8 yX8_begins wsX8_begins) := goodIn_app (goodIn_of _ (by decide +kernel)) ggX8_play_X8_begins
set_option maxRecDepth 20000 in
theorem ggX8_play_X8_does : GoodIn wsX8_play wsX8_does := goodIn_r _ [13, 14, 1, 15, 16, 17, 18, 19, 20, 21, 22, 23, 6, 24, 25, 26, 27, 28, 29, 30, 31, 32, 33, 34, 35, 36, 37, 38, 39, 40, 41, 42, 43, 44, 45, 46, 47, 48, 49, 50, 51, 9, 52, 53, 54, 55, 56, 57, 58, 59, 60, 61, 62, 63, 64, 65, 66, 67, 68, 69, 70, 71, 72, 73, 74, 75, 76, 77, 78, 79, 80, 81, 82, 83, 84, 85, 86, 2, 87, 88, 89, 90, 91, 92, 93, 94, 95, 96, 97, 98, 99, 100, 101, 102, 103, 104, 105, 106, 107, 108, 109, 110, 121, 122, 123, 124, 125, 126, 127, 128, 129, 130, 131, 132, 133, 134, 135, 136, 137, 138] (by decide +kernel) (by decide +kernel)
set_option maxRecDepth 20000 in
theorem gX8_play_X8_does : GoodIn wsX8_play (wsV RX8 187 RX8 yX8_does wsX8_does) := goodIn_app (goodIn_of _ (by decide +kernel)) ggX8_play_X8_does
set_option maxRecDepth 20000 in
theorem ggX8_play_X8_acted : GoodIn wsX8_play wsX8_acted := goodIn_r _ [114, 20, 115, 116, 8, 117, 118, 119, 6, 120, 9, 121, 122, 123, 124, 125, 126, 127, 128, 129, 130, 131, 132, 133, 134, 135, 136, 137, 138] (by decide +kernel) (by decide +kernel)
set_option maxRecDepth 20000 in
theorem gX8_play_X8_acted : GoodIn wsX8_play (wsV RX8 98 RX8 yX8_acted wsX8_acted) := goodIn_app (goodIn_of _ (by decide +kernel)) ggX8_play_X8_acted
theorem dX8_play_0 : decode cX8_play 0 = .ok (.aload_n 0, 1) := by decide +kernel
theorem dX8_play_1 : decode cX8_play 1 = .ok (.invokevirtual 91, 3) := by decide +kernel
theorem dX8_play_4 : decode cX8_play 4 = .ok (.aload_n 0, 1) := by decide +kernel
theorem dX8_play_5 : decode cX8_play 5 = .ok (.aload_n 0, 1) := by decide +kernel
theorem dX8_play_6 : decode cX8_play 6 = .ok (.invokevirtual 187, 3) := by decide +kernel
theorem dX8_play_9 : decode cX8_play 9 = .ok (.ifCond .eq 10, 3) := by decide +kernel
theorem dX8_play_12 : decode cX8_play 12 = .ok (.aload_n 0, 1) := by decide +kernel
theorem dX8_play_13 : decode cX8_play 13 = .ok (.getfield 166, 3) := by decide +kernel
theorem dX8_play_16 : decode cX8_play 16 = .ok (.goto 5, 3) := by decide +kernel
theorem dX8_play_19 : decode cX8_play 19 = .ok (.ldc 63, 2) := by decide +kernel
theorem dX8_play_21 : decode cX8_play 21 = .ok (.invokevirtual 98, 3) := by decide +kernel
theorem dX8_play_24 : decode cX8_play 24 = .ok (.ireturn, 1) := by decide +kernel
theorem dJ6_bitCount_0f7a4_0 : decode cJ6_bitCount_0f7a4 0 = .ok (.iload_n 0, 1) := by decide +kernel
theorem dJ6_bitCount_0f7a4_1 : decode cJ6_bitCount_0f7a4 1 = .ok (.iload_n 0, 1) := by decide +kernel
theorem dJ6_bitCount_0f7a4_2 : decode cJ6_bitCount_0f7a4 2 = .ok (.iconst 1, 1) := by decide +kernel
theorem dJ6_bitCount_0f7a4_3 : decode cJ6_bitCount_0f7a4 3 = .ok (.iushr, 1) := by decide +kernel
theorem dJ6_bitCount_0f7a4_4 : decode cJ6_bitCount_0f7a4 4 = .ok (.ldc_w 265, 3) := by decide +kernel
theorem dJ6_bitCount_0f7a4_7 : decode cJ6_bitCount_0f7a4 7 = .ok (.iand, 1) := by decide +kernel
theorem dJ6_bitCount_0f7a4_8 : decode cJ6_bitCount_0f7a4 8 = .ok (.isub, 1) := by decide +kernel
theorem dJ6_bitCount_0f7a4_9 : decode cJ6_bitCount_0f7a4 9 = .ok (.istore_n 0, 1) := by decide +kernel
theorem dJ6_bitCount_0f7a4_10 : decode cJ6_bitCount_0f7a4 10 = .ok (.iload_n 0, 1) := by decide +kernel
theorem dJ6_bitCount_0f7a4_11 : decode cJ6_bitCount_0f7a4 11 = .ok (.ldc_w 266, 3) := by decide +kernel
theorem dJ6_bitCount_0f7a4_14 : decode cJ6_bitCount_0f7a4 14 = .ok (.iand, 1) := by decide +kernel
theorem dJ6_bitCount_0f7a4_15 : decode cJ6_bitCount_0f7a4 15 = .ok (.iload_n 0, 1) := by decide +kernel
theorem dJ6_bitCount_0f7a4_16 : decode cJ6_bitCount_0f7a4 16 = .ok (.iconst 2, 1) := by decide +kernel
theorem dJ6_bitCount_0f7a4_17 : decode cJ6_bitCount_0f7a4 17 = .ok (.iushr, 1) := by decide +kernel
theorem dJ6_bitCount_0f7a4_18 : decode cJ6_bitCount_0f7a4 18 = .ok (.ldc_w 266, 3) := by decide +kernel
theorem dJ6_bitCount_0f7a4_21 : decode cJ6_bitCount_0f7a4 21 = .ok (.iand, 1) := by decide +kernel
theorem dJ6_bitCount_0f7a4_22 : decode cJ6_bitCount_0f7a4 22 = .ok (.iadd, 1) := by decide +kernel
theorem dJ6_bitCount_0f7a4_23 : decode cJ6_bitCount_0f7a4 23 = .ok (.istore_n 0, 1) := by decide +kernel
theorem dJ6_bitCount_0f7a4_24 : decode cJ6_bitCount_0f7a4 24 = .ok (.iload_n 0, 1) := by decide +kernel
theorem dJ6_bitCount_0f7a4_25 : decode cJ6_bitCount_0f7a4 25 = .ok (.iload_n 0, 1) := by decide +kernel
theorem dJ6_bitCount_0f7a4_26 : decode cJ6_bitCount_0f7a4 26 = .ok (.iconst 4, 1) := by decide +kernel
theorem dJ6_bitCount_0f7a4_27 : decode cJ6_bitCount_0f7a4 27 = .ok (.iushr, 1) := by decide +kernel
theorem dJ6_bitCount_0f7a4_28 : decode cJ6_bitCount_0f7a4 28 = .ok (.iadd, 1) := by decide +kernel
theorem dJ6_bitCount_0f7a4_29 : decode cJ6_bitCount_0f7a4 29 = .ok (.ldc_w 267, 3) := by decide +kernel
theorem dJ6_bitCount_0f7a4_32 : decode cJ6_bitCount_0f7a4 32 = .ok (.iand, 1) := by decide +kernel
theorem dJ6_bitCount_0f7a4_33 : decode cJ6_bitCount_0f7a4 33 = .ok (.istore_n 0, 1) := by decide +kernel
theorem dJ6_bitCount_0f7a4_34 : decode cJ6_bitCount_0f7a4 34 = .ok (.iload_n 0, 1) := by decide +kernel
theorem dJ6_bitCount_0f7a4_35 : decode cJ6_bitCount_0f7a4 35 = .ok (.iload_n 0, 1) := by decide +kernel
theorem dJ6_bitCount_0f7a4_36 : decode cJ6_bitCount_0f7a4 36 = .ok (.bipush 8, 2) := by decide +kernel
theorem dJ6_bitCount_0f7a4_38 : decode cJ6_bitCount_0f7a4 38 = .ok (.iushr, 1) := by decide +kernel
theorem dJ6_bitCount_0f7a4_39 : decode cJ6_bitCount_0f7a4 39 = .ok (.iadd, 1) := by decide +kernel
theorem dJ6_bitCount_0f7a4_40 : decode cJ6_bitCount_0f7a4 40 = .ok (.istore_n 0, 1) := by decide +kernel
theorem dJ6_bitCount_0f7a4_41 : decode cJ6_bitCount_0f7a4 41 = .ok (.iload_n 0, 1) := by decide +kernel
theorem dJ6_bitCount_0f7a4_42 : decode cJ6_bitCount_0f7a4 42 = .ok (.iload_n 0, 1) := by decide +kernel
theorem dJ6_bitCount_0f7a4_43 : decode cJ6_bitCount_0f7a4 43 = .ok (.bipush 16, 2) := by decide +kernel
theorem dJ6_bitCount_0f7a4_45 : decode cJ6_bitCount_0f7a4 45 = .ok (.iushr, 1) := by decide +kernel
theorem dJ6_bitCount_0f7a4_46 : decode cJ6_bitCount_0f7a4 46 = .ok (.iadd, 1) := by decide +kernel
theorem dJ6_bitCount_0f7a4_47 : decode cJ6_bitCount_0f7a4 47 = .ok (.istore_n 0, 1) := by decide +kernel
theorem dJ6_bitCount_0f7a4_48 : decode cJ6_bitCount_0f7a4 48 = .ok (.iload_n 0, 1) := by decide +kernel
theorem dJ6_bitCount_0f7a4_49 : decode cJ6_bitCount_0f7a4 49 = .ok (.bipush 63, 2) := by decide +kernel
theorem dJ6_bitCount_0f7a4_51 : decode cJ6_bitCount_0f7a4 51 = .ok (.iand, 1) := by decide +kernel
theorem dJ6_bitCount_0f7a4_52 : decode cJ6_bitCount_0f7a4 52 = .ok (.ireturn, 1) := by decide +kernel
theorem dJ9_max_7cf53_0 : decode cJ9_max_7cf53 0 = .ok (.iload_n 0, 1) := by decide +kernel
theorem dJ9_max_7cf53_1 : decode cJ9_max_7cf53 1 = .ok (.iload_n 1, 1) := by decide +kernel
theorem dJ9_max_7cf53_2 : decode cJ9_max_7cf53 2 = .ok (.if_icmp .lt 7, 3) := by decide +kernel
theorem dJ9_max_7cf53_5 : decode cJ9_max_7cf53 5 = .ok (.iload_n 0, 1) := by decide +kernel
theorem dJ9_max_7cf53_6 : decode cJ9_max_7cf53 6 = .ok (.goto 4, 3) := by decide +kernel
theorem dJ9_max_7cf53_9 : decode cJ9_max_7cf53 9 = .ok (.iload_n 1, 1) := by decide +kernel
theorem dJ9_max_7cf53_10 : decode cJ9_max_7cf53 10 = .ok (.ireturn, 1) := by decide +kernel
theorem dJ9_min_7cf53_0 : decode cJ9_min_7cf53 0 = .ok (.iload_n 0, 1) := by decide +kernel
theorem dJ9_min_7cf53_1 : decode cJ9_min_7cf53 1 = .ok (.iload_n 1, 1) := by decide +kernel
theorem dJ9_min_7cf53_2 : decode cJ9_min_7cf53 2 = .ok (.if_icmp .gt 7, 3) := by decide +kernel
theorem dJ9_min_7cf53_5 : decode cJ9_min_7cf53 5 = .ok (.iload_n 0, 1) := by decide +kernel
theorem dJ9_min_7cf53_6 : decode cJ9_min_7cf53 6 = .ok (.goto 4, 3) := by decide +kernel
theorem dJ9_min_7cf53_9 : decode cJ9_min_7cf53 9 = .ok (.iload_n 1, 1) := by decide +kernel
theorem dJ9_min_7cf53_10 : decode cJ9_min_7cf53 10 = .ok (.ireturn, 1) := by decide +kernel
abbrev vwCl : List vw_C := [(RX0, TX0, 12), (RX1, TX1, 2), (RX2, TX2, 3), (RX3, TX3, 4), (RX4, TX4, 5), (RX5, TX5, 2), (RX6, TX6, 2), (RX7, TX7, 7), (RX8, TX8, 18)]
