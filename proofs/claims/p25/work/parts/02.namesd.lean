theorem dX1_restoreTo_30 : decode cX1_restoreTo 30 = .ok (.aload_n 0, 1) := by decide +kernel
theorem dX1_restoreTo_31 : decode cX1_restoreTo 31 = .ok (.getfield 11, 3) := by decide +kernel
theorem dX1_restoreTo_34 : decode cX1_restoreTo 34 = .ok (.iload_n 2, 1) := by decide +kernel
theorem dX1_restoreTo_35 : decode cX1_restoreTo 35 = .ok (.aaload, 1) := by decide +kernel
theorem dX1_restoreTo_36 : decode cX1_restoreTo 36 = .ok (.invokevirtual 25, 3) := by decide +kernel
theorem dX1_restoreTo_39 : decode cX1_restoreTo 39 = .ok (.aload_n 0, 1) := by decide +kernel
theorem dX1_restoreTo_40 : decode cX1_restoreTo 40 = .ok (.iload_n 2, 1) := by decide +kernel
theorem dX1_restoreTo_41 : decode cX1_restoreTo 41 = .ok (.putfield 17, 3) := by decide +kernel
theorem dX1_restoreTo_44 : decode cX1_restoreTo 44 = .ok (.return_, 1) := by decide +kernel
theorem dX1_dropOldest_0 : decode cX1_dropOldest 0 = .ok (.aload_n 0, 1) := by decide +kernel
theorem dX1_dropOldest_1 : decode cX1_dropOldest 1 = .ok (.getfield 11, 3) := by decide +kernel
theorem dX1_dropOldest_4 : decode cX1_dropOldest 4 = .ok (.arraylength, 1) := by decide +kernel
theorem dX1_dropOldest_5 : decode cX1_dropOldest 5 = .ok (.ifCond .ne 4, 3) := by decide +kernel
theorem dX1_dropOldest_8 : decode cX1_dropOldest 8 = .ok (.return_, 1) := by decide +kernel
theorem dX1_dropOldest_9 : decode cX1_dropOldest 9 = .ok (.aload_n 0, 1) := by decide +kernel
theorem dX1_dropOldest_10 : decode cX1_dropOldest 10 = .ok (.getfield 11, 3) := by decide +kernel
theorem dX1_dropOldest_13 : decode cX1_dropOldest 13 = .ok (.iconst 0, 1) := by decide +kernel
theorem dX1_dropOldest_14 : decode cX1_dropOldest 14 = .ok (.aaload, 1) := by decide +kernel
theorem dX1_dropOldest_15 : decode cX1_dropOldest 15 = .ok (.astore_n 1, 1) := by decide +kernel
theorem dX1_dropOldest_16 : decode cX1_dropOldest 16 = .ok (.iconst 1, 1) := by decide +kernel
theorem dX1_dropOldest_17 : decode cX1_dropOldest 17 = .ok (.istore_n 2, 1) := by decide +kernel
theorem dX1_dropOldest_18 : decode cX1_dropOldest 18 = .ok (.iload_n 2, 1) := by decide +kernel
theorem dX1_dropOldest_19 : decode cX1_dropOldest 19 = .ok (.aload_n 0, 1) := by decide +kernel
theorem dX1_dropOldest_20 : decode cX1_dropOldest 20 = .ok (.getfield 11, 3) := by decide +kernel
theorem dX1_dropOldest_23 : decode cX1_dropOldest 23 = .ok (.arraylength, 1) := by decide +kernel
theorem dX1_dropOldest_24 : decode cX1_dropOldest 24 = .ok (.if_icmp .ge 23, 3) := by decide +kernel
theorem dX1_dropOldest_27 : decode cX1_dropOldest 27 = .ok (.aload_n 0, 1) := by decide +kernel
theorem dX1_dropOldest_28 : decode cX1_dropOldest 28 = .ok (.getfield 11, 3) := by decide +kernel
theorem dX1_dropOldest_31 : decode cX1_dropOldest 31 = .ok (.iload_n 2, 1) := by decide +kernel
theorem dX1_dropOldest_32 : decode cX1_dropOldest 32 = .ok (.iconst 1, 1) := by decide +kernel
theorem dX1_dropOldest_33 : decode cX1_dropOldest 33 = .ok (.isub, 1) := by decide +kernel
theorem dX1_dropOldest_34 : decode cX1_dropOldest 34 = .ok (.aload_n 0, 1) := by decide +kernel
theorem dX1_dropOldest_35 : decode cX1_dropOldest 35 = .ok (.getfield 11, 3) := by decide +kernel
theorem dX1_dropOldest_38 : decode cX1_dropOldest 38 = .ok (.iload_n 2, 1) := by decide +kernel
theorem dX1_dropOldest_39 : decode cX1_dropOldest 39 = .ok (.aaload, 1) := by decide +kernel
theorem dX1_dropOldest_40 : decode cX1_dropOldest 40 = .ok (.aastore, 1) := by decide +kernel
theorem dX1_dropOldest_41 : decode cX1_dropOldest 41 = .ok (.iinc 2 1, 3) := by decide +kernel
theorem dX1_dropOldest_44 : decode cX1_dropOldest 44 = .ok (.goto (-26), 3) := by decide +kernel
theorem dX1_dropOldest_47 : decode cX1_dropOldest 47 = .ok (.aload_n 0, 1) := by decide +kernel
theorem dX1_dropOldest_48 : decode cX1_dropOldest 48 = .ok (.getfield 11, 3) := by decide +kernel
theorem dX1_dropOldest_51 : decode cX1_dropOldest 51 = .ok (.aload_n 0, 1) := by decide +kernel
theorem dX1_dropOldest_52 : decode cX1_dropOldest 52 = .ok (.getfield 11, 3) := by decide +kernel
theorem dX1_dropOldest_55 : decode cX1_dropOldest 55 = .ok (.arraylength, 1) := by decide +kernel
theorem dX1_dropOldest_56 : decode cX1_dropOldest 56 = .ok (.iconst 1, 1) := by decide +kernel
theorem dX1_dropOldest_57 : decode cX1_dropOldest 57 = .ok (.isub, 1) := by decide +kernel
theorem dX1_dropOldest_58 : decode cX1_dropOldest 58 = .ok (.aload_n 1, 1) := by decide +kernel
theorem dX1_dropOldest_59 : decode cX1_dropOldest 59 = .ok (.aastore, 1) := by decide +kernel
theorem dX1_dropOldest_60 : decode cX1_dropOldest 60 = .ok (.aload_n 0, 1) := by decide +kernel
theorem dX1_dropOldest_61 : decode cX1_dropOldest 61 = .ok (.aload_n 0, 1) := by decide +kernel
theorem dX1_dropOldest_62 : decode cX1_dropOldest 62 = .ok (.getfield 11, 3) := by decide +kernel
theorem dX1_dropOldest_65 : decode cX1_dropOldest 65 = .ok (.arraylength, 1) := by decide +kernel
theorem dX1_dropOldest_66 : decode cX1_dropOldest 66 = .ok (.iconst 1, 1) := by decide +kernel
theorem dX1_dropOldest_67 : decode cX1_dropOldest 67 = .ok (.isub, 1) := by decide +kernel
theorem dX1_dropOldest_68 : decode cX1_dropOldest 68 = .ok (.putfield 17, 3) := by decide +kernel
theorem dX1_dropOldest_71 : decode cX1_dropOldest 71 = .ok (.return_, 1) := by decide +kernel
set_option maxRecDepth 20000 in
theorem ggX2_init_X5_init : GoodIn wsX2_init wsX5_init := goodIn_r _ [12, 13, 2, 3, 14, 15, 16, 17, 18, 19, 20, 21, 22] (by decide +kernel) (by decide +kernel)
set_option maxRecDepth 20000 in
theorem gX2_init_X5_init : GoodIn wsX2_init (wsX5_init) := ggX2_init_X5_init
theorem dX2_init_0 : decode cX2_init 0 = .ok (.aload_n 0, 1) := by decide +kernel
theorem dX2_init_1 : decode cX2_init 1 = .ok (.invokespecial 3, 3) := by decide +kernel
theorem dX2_init_4 : decode cX2_init 4 = .ok (.aload_n 0, 1) := by decide +kernel
theorem dX2_init_5 : decode cX2_init 5 = .ok (.new 9, 3) := by decide +kernel
theorem dX2_init_8 : decode cX2_init 8 = .ok (.dup, 1) := by decide +kernel
theorem dX2_init_9 : decode cX2_init 9 = .ok (.iconst 1, 1) := by decide +kernel
theorem dX2_init_10 : decode cX2_init 10 = .ok (.bipush 6, 2) := by decide +kernel
theorem dX2_init_12 : decode cX2_init 12 = .ok (.invokespecial 13, 3) := by decide +kernel
theorem dX2_init_15 : decode cX2_init 15 = .ok (.putfield 16, 3) := by decide +kernel
theorem dX2_init_18 : decode cX2_init 18 = .ok (.aload_n 0, 1) := by decide +kernel
theorem dX2_init_19 : decode cX2_init 19 = .ok (.iconst (-1), 1) := by decide +kernel
theorem dX2_init_20 : decode cX2_init 20 = .ok (.putfield 20, 3) := by decide +kernel
theorem dX2_init_23 : decode cX2_init 23 = .ok (.aload_n 0, 1) := by decide +kernel
theorem dX2_init_24 : decode cX2_init 24 = .ok (.iconst 0, 1) := by decide +kernel
theorem dX2_init_25 : decode cX2_init 25 = .ok (.putfield 24, 3) := by decide +kernel
theorem dX2_init_28 : decode cX2_init 28 = .ok (.return_, 1) := by decide +kernel
set_option maxRecDepth 20000 in
theorem ggX2_readFrom_X6_characterAt : GoodIn wsX2_readFrom wsX6_characterAt := goodIn_r _ [7, 8, 9, 32, 33] (by decide +kernel) (by decide +kernel)
set_option maxRecDepth 20000 in
theorem gX2_readFrom_X6_characterAt : GoodIn wsX2_readFrom (wsV RX2 27 RX6 yX6_characterAt wsX6_characterAt) := goodIn_app (goodIn_of _ (by decide +kernel)) ggX2_readFrom_X6_characterAt
set_option maxRecDepth 20000 in
theorem ggX2_readFrom_X2_numbersFor : GoodIn wsX2_readFrom wsX2_numbersFor := goodIn_r _ [13] (by decide +kernel) (by decide +kernel)
set_option maxRecDepth 20000 in
theorem gX2_readFrom_X2_numbersFor : GoodIn wsX2_readFrom (va_wsS RX2 33 yX2_numbersFor wsX2_numbersFor) := goodIn_app (goodIn_of _ (by decide +kernel)) ggX2_readFrom_X2_numbersFor
set_option maxRecDepth 20000 in
theorem ggX2_readFrom_X2_readNumber : GoodIn wsX2_readFrom wsX2_readNumber := goodIn_r _ [17, 1, 18, 3, 4, 5, 6, 7, 8, 9, 19, 20, 12, 21, 22, 23, 24, 25, 26, 27, 28, 29, 30, 31, 32, 33, 34, 35] (by decide +kernel) (by decide +kernel)
set_option maxRecDepth 20000 in
theorem gX2_readFrom_X2_readNumber : GoodIn wsX2_readFrom (wsV RX2 36 RX2 yX2_readNumber wsX2_readNumber) := goodIn_app (goodIn_of _ (by decide +kernel)) ggX2_readFrom_X2_readNumber
theorem dX2_readFrom_0 : decode cX2_readFrom 0 = .ok (.aload_n 0, 1) := by decide +kernel
theorem dX2_readFrom_1 : decode cX2_readFrom 1 = .ok (.iload_n 2, 1) := by decide +kernel
theorem dX2_readFrom_2 : decode cX2_readFrom 2 = .ok (.putfield 24, 3) := by decide +kernel
theorem dX2_readFrom_5 : decode cX2_readFrom 5 = .ok (.aload_n 0, 1) := by decide +kernel
theorem dX2_readFrom_6 : decode cX2_readFrom 6 = .ok (.aload_n 1, 1) := by decide +kernel
theorem dX2_readFrom_7 : decode cX2_readFrom 7 = .ok (.iload_n 2, 1) := by decide +kernel
theorem dX2_readFrom_8 : decode cX2_readFrom 8 = .ok (.invokevirtual 27, 3) := by decide +kernel
theorem dX2_readFrom_11 : decode cX2_readFrom 11 = .ok (.putfield 20, 3) := by decide +kernel
theorem dX2_readFrom_14 : decode cX2_readFrom 14 = .ok (.aload_n 0, 1) := by decide +kernel
theorem dX2_readFrom_15 : decode cX2_readFrom 15 = .ok (.getfield 20, 3) := by decide +kernel
theorem dX2_readFrom_18 : decode cX2_readFrom 18 = .ok (.invokestatic 33, 3) := by decide +kernel
theorem dX2_readFrom_21 : decode cX2_readFrom 21 = .ok (.istore_n 3, 1) := by decide +kernel
theorem dX2_readFrom_22 : decode cX2_readFrom 22 = .ok (.iload_n 3, 1) := by decide +kernel
theorem dX2_readFrom_23 : decode cX2_readFrom 23 = .ok (.ifCond .ne 5, 3) := by decide +kernel
theorem dX2_readFrom_26 : decode cX2_readFrom 26 = .ok (.iconst 0, 1) := by decide +kernel
theorem dX2_readFrom_27 : decode cX2_readFrom 27 = .ok (.ireturn, 1) := by decide +kernel
theorem dX2_readFrom_28 : decode cX2_readFrom 28 = .ok (.aload_n 0, 1) := by decide +kernel
theorem dX2_readFrom_29 : decode cX2_readFrom 29 = .ok (.dup, 1) := by decide +kernel
theorem dX2_readFrom_30 : decode cX2_readFrom 30 = .ok (.getfield 24, 3) := by decide +kernel
theorem dX2_readFrom_33 : decode cX2_readFrom 33 = .ok (.iconst 1, 1) := by decide +kernel
theorem dX2_readFrom_34 : decode cX2_readFrom 34 = .ok (.iadd, 1) := by decide +kernel
theorem dX2_readFrom_35 : decode cX2_readFrom 35 = .ok (.putfield 24, 3) := by decide +kernel
theorem dX2_readFrom_38 : decode cX2_readFrom 38 = .ok (.iconst 0, 1) := by decide +kernel
theorem dX2_readFrom_39 : decode cX2_readFrom 39 = .ok (.istore 4, 2) := by decide +kernel
theorem dX2_readFrom_41 : decode cX2_readFrom 41 = .ok (.iload 4, 2) := by decide +kernel
theorem dX2_readFrom_43 : decode cX2_readFrom 43 = .ok (.iload_n 3, 1) := by decide +kernel
theorem dX2_readFrom_44 : decode cX2_readFrom 44 = .ok (.if_icmp .ge 59, 3) := by decide +kernel
theorem dX2_readFrom_47 : decode cX2_readFrom 47 = .ok (.aload_n 0, 1) := by decide +kernel
theorem dX2_readFrom_48 : decode cX2_readFrom 48 = .ok (.aload_n 1, 1) := by decide +kernel
theorem dX2_readFrom_49 : decode cX2_readFrom 49 = .ok (.iload 4, 2) := by decide +kernel
theorem dX2_readFrom_51 : decode cX2_readFrom 51 = .ok (.invokevirtual 36, 3) := by decide +kernel
theorem dX2_readFrom_54 : decode cX2_readFrom 54 = .ok (.ifCond .ne 5, 3) := by decide +kernel
theorem dX2_readFrom_57 : decode cX2_readFrom 57 = .ok (.iconst 0, 1) := by decide +kernel
theorem dX2_readFrom_58 : decode cX2_readFrom 58 = .ok (.ireturn, 1) := by decide +kernel
theorem dX2_readFrom_59 : decode cX2_readFrom 59 = .ok (.aload_n 1, 1) := by decide +kernel
theorem dX2_readFrom_60 : decode cX2_readFrom 60 = .ok (.aload_n 0, 1) := by decide +kernel
theorem dX2_readFrom_61 : decode cX2_readFrom 61 = .ok (.getfield 24, 3) := by decide +kernel
theorem dX2_readFrom_64 : decode cX2_readFrom 64 = .ok (.invokevirtual 27, 3) := by decide +kernel
theorem dX2_readFrom_67 : decode cX2_readFrom 67 = .ok (.iload 4, 2) := by decide +kernel
theorem dX2_readFrom_69 : decode cX2_readFrom 69 = .ok (.iload_n 3, 1) := by decide +kernel
theorem dX2_readFrom_70 : decode cX2_readFrom 70 = .ok (.iconst 1, 1) := by decide +kernel
theorem dX2_readFrom_71 : decode cX2_readFrom 71 = .ok (.isub, 1) := by decide +kernel
theorem dX2_readFrom_72 : decode cX2_readFrom 72 = .ok (.if_icmp .ne 8, 3) := by decide +kernel
theorem dX2_readFrom_75 : decode cX2_readFrom 75 = .ok (.bipush 59, 2) := by decide +kernel
theorem dX2_readFrom_77 : decode cX2_readFrom 77 = .ok (.goto 5, 3) := by decide +kernel
theorem dX2_readFrom_80 : decode cX2_readFrom 80 = .ok (.bipush 44, 2) := by decide +kernel
theorem dX2_readFrom_82 : decode cX2_readFrom 82 = .ok (.if_icmp .eq 5, 3) := by decide +kernel
theorem dX2_readFrom_85 : decode cX2_readFrom 85 = .ok (.iconst 0, 1) := by decide +kernel
theorem dX2_readFrom_86 : decode cX2_readFrom 86 = .ok (.ireturn, 1) := by decide +kernel
theorem dX2_readFrom_87 : decode cX2_readFrom 87 = .ok (.aload_n 0, 1) := by decide +kernel
theorem dX2_readFrom_88 : decode cX2_readFrom 88 = .ok (.dup, 1) := by decide +kernel
theorem dX2_readFrom_89 : decode cX2_readFrom 89 = .ok (.getfield 24, 3) := by decide +kernel
theorem dX2_readFrom_92 : decode cX2_readFrom 92 = .ok (.iconst 1, 1) := by decide +kernel
theorem dX2_readFrom_93 : decode cX2_readFrom 93 = .ok (.iadd, 1) := by decide +kernel
theorem dX2_readFrom_94 : decode cX2_readFrom 94 = .ok (.putfield 24, 3) := by decide +kernel
theorem dX2_readFrom_97 : decode cX2_readFrom 97 = .ok (.iinc 4 1, 3) := by decide +kernel
theorem dX2_readFrom_100 : decode cX2_readFrom 100 = .ok (.goto (-59), 3) := by decide +kernel
theorem dX2_readFrom_103 : decode cX2_readFrom 103 = .ok (.iconst 1, 1) := by decide +kernel
theorem dX2_readFrom_104 : decode cX2_readFrom 104 = .ok (.ireturn, 1) := by decide +kernel
set_option maxRecDepth 20000 in
theorem ggX2_readNumber_X6_characterAt : GoodIn wsX2_readNumber wsX6_characterAt := goodIn_r _ [7, 8, 9, 24, 25] (by decide +kernel) (by decide +kernel)
set_option maxRecDepth 20000 in
theorem gX2_readNumber_X6_characterAt : GoodIn wsX2_readNumber (wsV RX2 27 RX6 yX6_characterAt wsX6_characterAt) := goodIn_app (goodIn_of _ (by decide +kernel)) ggX2_readNumber_X6_characterAt
set_option maxRecDepth 20000 in
theorem ggX2_readNumber_X2_isDigit : GoodIn wsX2_readNumber wsX2_isDigit := goodIn_r _ [13] (by decide +kernel) (by decide +kernel)
set_option maxRecDepth 20000 in
theorem gX2_readNumber_X2_isDigit : GoodIn wsX2_readNumber (va_wsS RX2 40 yX2_isDigit wsX2_isDigit) := goodIn_app (goodIn_of _ (by decide +kernel)) ggX2_readNumber_X2_isDigit
set_option maxRecDepth 20000 in
theorem ggX2_readNumber_X5_put : GoodIn wsX2_readNumber wsX5_put := goodIn_r _ [18, 19, 20, 26, 27] (by decide +kernel) (by decide +kernel)
set_option maxRecDepth 20000 in
theorem gX2_readNumber_X5_put : GoodIn wsX2_readNumber (wsV RX2 44 RX5 yX5_put wsX5_put) := goodIn_app (goodIn_of _ (by decide +kernel)) ggX2_readNumber_X5_put
theorem dX2_readNumber_0 : decode cX2_readNumber 0 = .ok (.aload_n 1, 1) := by decide +kernel
theorem dX2_readNumber_1 : decode cX2_readNumber 1 = .ok (.aload_n 0, 1) := by decide +kernel
theorem dX2_readNumber_2 : decode cX2_readNumber 2 = .ok (.getfield 24, 3) := by decide +kernel
theorem dX2_readNumber_5 : decode cX2_readNumber 5 = .ok (.invokevirtual 27, 3) := by decide +kernel
theorem dX2_readNumber_8 : decode cX2_readNumber 8 = .ok (.istore_n 3, 1) := by decide +kernel
theorem dX2_readNumber_9 : decode cX2_readNumber 9 = .ok (.iload_n 3, 1) := by decide +kernel
theorem dX2_readNumber_10 : decode cX2_readNumber 10 = .ok (.invokestatic 40, 3) := by decide +kernel
theorem dX2_readNumber_13 : decode cX2_readNumber 13 = .ok (.ifCond .ne 5, 3) := by decide +kernel
theorem dX2_readNumber_16 : decode cX2_readNumber 16 = .ok (.iconst 0, 1) := by decide +kernel
theorem dX2_readNumber_17 : decode cX2_readNumber 17 = .ok (.ireturn, 1) := by decide +kernel
theorem dX2_readNumber_18 : decode cX2_readNumber 18 = .ok (.iinc 3 (-48), 3) := by decide +kernel
theorem dX2_readNumber_21 : decode cX2_readNumber 21 = .ok (.aload_n 0, 1) := by decide +kernel
theorem dX2_readNumber_22 : decode cX2_readNumber 22 = .ok (.dup, 1) := by decide +kernel
theorem dX2_readNumber_23 : decode cX2_readNumber 23 = .ok (.getfield 24, 3) := by decide +kernel
theorem dX2_readNumber_26 : decode cX2_readNumber 26 = .ok (.iconst 1, 1) := by decide +kernel
theorem dX2_readNumber_27 : decode cX2_readNumber 27 = .ok (.iadd, 1) := by decide +kernel
theorem dX2_readNumber_28 : decode cX2_readNumber 28 = .ok (.putfield 24, 3) := by decide +kernel
theorem dX2_readNumber_31 : decode cX2_readNumber 31 = .ok (.aload_n 1, 1) := by decide +kernel
theorem dX2_readNumber_32 : decode cX2_readNumber 32 = .ok (.aload_n 0, 1) := by decide +kernel
theorem dX2_readNumber_33 : decode cX2_readNumber 33 = .ok (.getfield 24, 3) := by decide +kernel
theorem dX2_readNumber_36 : decode cX2_readNumber 36 = .ok (.invokevirtual 27, 3) := by decide +kernel
theorem dX2_readNumber_39 : decode cX2_readNumber 39 = .ok (.istore 4, 2) := by decide +kernel
theorem dX2_readNumber_41 : decode cX2_readNumber 41 = .ok (.iload 4, 2) := by decide +kernel
theorem dX2_readNumber_43 : decode cX2_readNumber 43 = .ok (.invokestatic 40, 3) := by decide +kernel
theorem dX2_readNumber_46 : decode cX2_readNumber 46 = .ok (.ifCond .eq 24, 3) := by decide +kernel
theorem dX2_readNumber_49 : decode cX2_readNumber 49 = .ok (.iload_n 3, 1) := by decide +kernel
theorem dX2_readNumber_50 : decode cX2_readNumber 50 = .ok (.bipush 10, 2) := by decide +kernel
theorem dX2_readNumber_52 : decode cX2_readNumber 52 = .ok (.imul, 1) := by decide +kernel
theorem dX2_readNumber_53 : decode cX2_readNumber 53 = .ok (.iload 4, 2) := by decide +kernel
theorem dX2_readNumber_55 : decode cX2_readNumber 55 = .ok (.iadd, 1) := by decide +kernel
theorem dX2_readNumber_56 : decode cX2_readNumber 56 = .ok (.bipush 48, 2) := by decide +kernel
theorem dX2_readNumber_58 : decode cX2_readNumber 58 = .ok (.isub, 1) := by decide +kernel
theorem dX2_readNumber_59 : decode cX2_readNumber 59 = .ok (.istore_n 3, 1) := by decide +kernel
theorem dX2_readNumber_60 : decode cX2_readNumber 60 = .ok (.aload_n 0, 1) := by decide +kernel
theorem dX2_readNumber_61 : decode cX2_readNumber 61 = .ok (.dup, 1) := by decide +kernel
theorem dX2_readNumber_62 : decode cX2_readNumber 62 = .ok (.getfield 24, 3) := by decide +kernel
theorem dX2_readNumber_65 : decode cX2_readNumber 65 = .ok (.iconst 1, 1) := by decide +kernel
theorem dX2_readNumber_66 : decode cX2_readNumber 66 = .ok (.iadd, 1) := by decide +kernel
theorem dX2_readNumber_67 : decode cX2_readNumber 67 = .ok (.putfield 24, 3) := by decide +kernel
theorem dX2_readNumber_70 : decode cX2_readNumber 70 = .ok (.aload_n 0, 1) := by decide +kernel
theorem dX2_readNumber_71 : decode cX2_readNumber 71 = .ok (.getfield 16, 3) := by decide +kernel
theorem dX2_readNumber_74 : decode cX2_readNumber 74 = .ok (.iconst 0, 1) := by decide +kernel
theorem dX2_readNumber_75 : decode cX2_readNumber 75 = .ok (.iload_n 2, 1) := by decide +kernel
theorem dX2_readNumber_76 : decode cX2_readNumber 76 = .ok (.iload_n 3, 1) := by decide +kernel
theorem dX2_readNumber_77 : decode cX2_readNumber 77 = .ok (.invokevirtual 44, 3) := by decide +kernel
theorem dX2_readNumber_80 : decode cX2_readNumber 80 = .ok (.iconst 1, 1) := by decide +kernel
theorem dX2_readNumber_81 : decode cX2_readNumber 81 = .ok (.ireturn, 1) := by decide +kernel
set_option maxRecDepth 20000 in
theorem ggX2_doOn_X2_numberAt : GoodIn wsX2_doOn wsX2_numberAt := goodIn_r _ [6, 7, 8, 9, 10, 11, 12, 13, 14, 108, 109, 110, 111, 112] (by decide +kernel) (by decide +kernel)
set_option maxRecDepth 20000 in
theorem gX2_doOn_X2_numberAt : GoodIn wsX2_doOn (wsV RX2 48 RX2 yX2_numberAt wsX2_numberAt) := goodIn_app (goodIn_of _ (by decide +kernel)) ggX2_doOn_X2_numberAt
set_option maxRecDepth 20000 in
theorem ggX2_doOn_X0_addCard : GoodIn wsX2_doOn wsX0_addCard := goodIn_r _ [19, 20, 21, 22, 23, 24, 25, 18, 26, 27, 28, 29, 30, 31, 32, 33, 34, 35, 36, 11, 37, 13, 14, 113, 114, 115, 116, 117, 118, 119, 120, 121, 122, 123, 124, 111, 112] (by decide +kernel) (by decide +kernel)
set_option maxRecDepth 20000 in
theorem gX2_doOn_X0_addCard : GoodIn wsX2_doOn (wsV RX2 51 RX0 yX0_addCard wsX0_addCard) := goodIn_app (goodIn_of _ (by decide +kernel)) ggX2_doOn_X0_addCard
set_option maxRecDepth 20000 in
theorem ggX2_doOn_X0_tellWeather : GoodIn wsX2_doOn wsX0_tellWeather := goodIn_r _ [41, 20, 27, 28, 29, 24, 25, 18, 26, 42, 43, 44, 45, 46, 34, 35, 36, 11, 37, 13, 14, 47, 48, 49, 50, 21, 51, 52, 53, 54, 23, 55, 9, 10, 12, 56, 57, 58, 59, 60, 61, 62, 113, 114, 115, 116, 117, 118, 119, 120, 121, 122, 123, 124, 111, 112] (by decide +kernel) (by decide +kernel)
set_option maxRecDepth 20000 in
theorem gX2_doOn_X0_tellWeather : GoodIn wsX2_doOn (wsV RX2 57 RX0 yX0_tellWeather wsX0_tellWeather) := goodIn_app (goodIn_of _ (by decide +kernel)) ggX2_doOn_X0_tellWeather
set_option maxRecDepth 20000 in
theorem ggX2_doOn_X0_flyCard : GoodIn wsX2_doOn wsX0_flyCard := goodIn_r _ [66, 20, 67, 68, 30, 31, 32, 18, 33, 21, 27, 28, 29, 69, 70, 71, 72, 23, 73, 74, 75, 76, 77, 55, 9, 10, 11, 12, 13, 14, 51, 52, 53, 54, 46, 78, 79, 80, 81, 82, 83, 84, 85, 86, 87, 88, 89, 90, 91, 92, 93, 94, 95, 96, 97, 98, 99, 34, 35, 36, 37, 113, 114, 115, 116, 117, 118, 119, 120, 121, 122, 123, 124, 111, 112] (by decide +kernel) (by decide +kernel)
set_option maxRecDepth 20000 in
theorem gX2_doOn_X0_flyCard : GoodIn wsX2_doOn (wsV RX2 61 RX0 yX0_flyCard wsX0_flyCard) := goodIn_app (goodIn_of _ (by decide +kernel)) ggX2_doOn_X0_flyCard
set_option maxRecDepth 20000 in
theorem ggX2_doOn_X0_passDays : GoodIn wsX2_doOn wsX0_passDays := goodIn_r _ [103, 20, 73, 22, 27, 28, 29, 104, 105, 106, 18, 107, 83, 68, 82, 85, 86, 87, 113, 114, 115, 116, 117, 118, 119, 120, 121, 122, 123, 124] (by decide +kernel) (by decide +kernel)
set_option maxRecDepth 20000 in
theorem gX2_doOn_X0_passDays : GoodIn wsX2_doOn (wsV RX2 65 RX0 yX0_passDays wsX0_passDays) := goodIn_app (goodIn_of _ (by decide +kernel)) ggX2_doOn_X0_passDays
theorem dX2_doOn_0 : decode cX2_doOn 0 = .ok (.aload_n 0, 1) := by decide +kernel
theorem dX2_doOn_1 : decode cX2_doOn 1 = .ok (.iconst 0, 1) := by decide +kernel
theorem dX2_doOn_2 : decode cX2_doOn 2 = .ok (.invokevirtual 48, 3) := by decide +kernel
theorem dX2_doOn_5 : decode cX2_doOn 5 = .ok (.istore_n 2, 1) := by decide +kernel
theorem dX2_doOn_6 : decode cX2_doOn 6 = .ok (.aload_n 0, 1) := by decide +kernel
theorem dX2_doOn_7 : decode cX2_doOn 7 = .ok (.getfield 20, 3) := by decide +kernel
theorem dX2_doOn_10 : decode cX2_doOn 10 = .ok (.lookupswitch 110 #[(99, 42), (102, 96), (119, 75), (120, 103)], 42) := by decide +kernel
theorem dX2_doOn_52 : decode cX2_doOn 52 = .ok (.aload_n 1, 1) := by decide +kernel
theorem dX2_doOn_53 : decode cX2_doOn 53 = .ok (.iload_n 2, 1) := by decide +kernel
theorem dX2_doOn_54 : decode cX2_doOn 54 = .ok (.aload_n 0, 1) := by decide +kernel
theorem dX2_doOn_55 : decode cX2_doOn 55 = .ok (.iconst 1, 1) := by decide +kernel
theorem dX2_doOn_56 : decode cX2_doOn 56 = .ok (.invokevirtual 48, 3) := by decide +kernel
theorem dX2_doOn_59 : decode cX2_doOn 59 = .ok (.aload_n 0, 1) := by decide +kernel
theorem dX2_doOn_60 : decode cX2_doOn 60 = .ok (.iconst 2, 1) := by decide +kernel
theorem dX2_doOn_61 : decode cX2_doOn 61 = .ok (.invokevirtual 48, 3) := by decide +kernel
theorem dX2_doOn_64 : decode cX2_doOn 64 = .ok (.aload_n 0, 1) := by decide +kernel
theorem dX2_doOn_65 : decode cX2_doOn 65 = .ok (.iconst 3, 1) := by decide +kernel
theorem dX2_doOn_66 : decode cX2_doOn 66 = .ok (.invokevirtual 48, 3) := by decide +kernel
theorem dX2_doOn_69 : decode cX2_doOn 69 = .ok (.aload_n 0, 1) := by decide +kernel
theorem dX2_doOn_70 : decode cX2_doOn 70 = .ok (.iconst 4, 1) := by decide +kernel
theorem dX2_doOn_71 : decode cX2_doOn 71 = .ok (.invokevirtual 48, 3) := by decide +kernel
theorem dX2_doOn_74 : decode cX2_doOn 74 = .ok (.aload_n 0, 1) := by decide +kernel
theorem dX2_doOn_75 : decode cX2_doOn 75 = .ok (.iconst 5, 1) := by decide +kernel
theorem dX2_doOn_76 : decode cX2_doOn 76 = .ok (.invokevirtual 48, 3) := by decide +kernel
theorem dX2_doOn_79 : decode cX2_doOn 79 = .ok (.iconst 1, 1) := by decide +kernel
theorem dX2_doOn_80 : decode cX2_doOn 80 = .ok (.isub, 1) := by decide +kernel
theorem dX2_doOn_81 : decode cX2_doOn 81 = .ok (.invokevirtual 51, 3) := by decide +kernel
theorem dX2_doOn_84 : decode cX2_doOn 84 = .ok (.ireturn, 1) := by decide +kernel
theorem dX2_doOn_85 : decode cX2_doOn 85 = .ok (.aload_n 1, 1) := by decide +kernel
theorem dX2_doOn_86 : decode cX2_doOn 86 = .ok (.iload_n 2, 1) := by decide +kernel
theorem dX2_doOn_87 : decode cX2_doOn 87 = .ok (.aload_n 0, 1) := by decide +kernel
theorem dX2_doOn_88 : decode cX2_doOn 88 = .ok (.iconst 1, 1) := by decide +kernel
theorem dX2_doOn_89 : decode cX2_doOn 89 = .ok (.invokevirtual 48, 3) := by decide +kernel
theorem dX2_doOn_92 : decode cX2_doOn 92 = .ok (.aload_n 0, 1) := by decide +kernel
theorem dX2_doOn_93 : decode cX2_doOn 93 = .ok (.iconst 2, 1) := by decide +kernel
theorem dX2_doOn_94 : decode cX2_doOn 94 = .ok (.invokevirtual 48, 3) := by decide +kernel
theorem dX2_doOn_97 : decode cX2_doOn 97 = .ok (.aload_n 0, 1) := by decide +kernel
theorem dX2_doOn_98 : decode cX2_doOn 98 = .ok (.iconst 3, 1) := by decide +kernel
theorem dX2_doOn_99 : decode cX2_doOn 99 = .ok (.invokevirtual 48, 3) := by decide +kernel
theorem dX2_doOn_102 : decode cX2_doOn 102 = .ok (.invokevirtual 57, 3) := by decide +kernel
theorem dX2_doOn_105 : decode cX2_doOn 105 = .ok (.ireturn, 1) := by decide +kernel
theorem dX2_doOn_106 : decode cX2_doOn 106 = .ok (.aload_n 1, 1) := by decide +kernel
theorem dX2_doOn_107 : decode cX2_doOn 107 = .ok (.iload_n 2, 1) := by decide +kernel
theorem dX2_doOn_108 : decode cX2_doOn 108 = .ok (.iconst 1, 1) := by decide +kernel
theorem dX2_doOn_109 : decode cX2_doOn 109 = .ok (.invokevirtual 61, 3) := by decide +kernel
theorem dX2_doOn_112 : decode cX2_doOn 112 = .ok (.ireturn, 1) := by decide +kernel
theorem dX2_doOn_113 : decode cX2_doOn 113 = .ok (.aload_n 1, 1) := by decide +kernel
theorem dX2_doOn_114 : decode cX2_doOn 114 = .ok (.iload_n 2, 1) := by decide +kernel
theorem dX2_doOn_115 : decode cX2_doOn 115 = .ok (.iconst 2, 1) := by decide +kernel
theorem dX2_doOn_116 : decode cX2_doOn 116 = .ok (.invokevirtual 61, 3) := by decide +kernel
theorem dX2_doOn_119 : decode cX2_doOn 119 = .ok (.ireturn, 1) := by decide +kernel
theorem dX2_doOn_120 : decode cX2_doOn 120 = .ok (.aload_n 1, 1) := by decide +kernel
theorem dX2_doOn_121 : decode cX2_doOn 121 = .ok (.iload_n 2, 1) := by decide +kernel
theorem dX2_doOn_122 : decode cX2_doOn 122 = .ok (.invokevirtual 65, 3) := by decide +kernel
theorem dX2_doOn_125 : decode cX2_doOn 125 = .ok (.ireturn, 1) := by decide +kernel
set_option maxRecDepth 20000 in
theorem ggX2_numberAt_X5_get : GoodIn wsX2_numberAt wsX5_get := goodIn_r _ [6, 7, 8, 12, 13] (by decide +kernel) (by decide +kernel)
set_option maxRecDepth 20000 in
theorem gX2_numberAt_X5_get : GoodIn wsX2_numberAt (wsV RX2 68 RX5 yX5_get wsX5_get) := goodIn_app (goodIn_of _ (by decide +kernel)) ggX2_numberAt_X5_get
theorem dX2_numberAt_0 : decode cX2_numberAt 0 = .ok (.aload_n 0, 1) := by decide +kernel
theorem dX2_numberAt_1 : decode cX2_numberAt 1 = .ok (.getfield 16, 3) := by decide +kernel
theorem dX2_numberAt_4 : decode cX2_numberAt 4 = .ok (.iconst 0, 1) := by decide +kernel
theorem dX2_numberAt_5 : decode cX2_numberAt 5 = .ok (.iload_n 1, 1) := by decide +kernel
theorem dX2_numberAt_6 : decode cX2_numberAt 6 = .ok (.invokevirtual 68, 3) := by decide +kernel
theorem dX2_numberAt_9 : decode cX2_numberAt 9 = .ok (.ireturn, 1) := by decide +kernel
theorem dX2_numbersFor_0 : decode cX2_numbersFor 0 = .ok (.iload_n 0, 1) := by decide +kernel
theorem dX2_numbersFor_1 : decode cX2_numbersFor 1 = .ok (.lookupswitch 58 #[(99, 51), (100, 56), (102, 56), (119, 54), (120, 56)], 51) := by decide +kernel
theorem dX2_numbersFor_52 : decode cX2_numbersFor 52 = .ok (.bipush 6, 2) := by decide +kernel
theorem dX2_numbersFor_54 : decode cX2_numbersFor 54 = .ok (.ireturn, 1) := by decide +kernel
theorem dX2_numbersFor_55 : decode cX2_numbersFor 55 = .ok (.iconst 4, 1) := by decide +kernel
theorem dX2_numbersFor_56 : decode cX2_numbersFor 56 = .ok (.ireturn, 1) := by decide +kernel
theorem dX2_numbersFor_57 : decode cX2_numbersFor 57 = .ok (.iconst 1, 1) := by decide +kernel
theorem dX2_numbersFor_58 : decode cX2_numbersFor 58 = .ok (.ireturn, 1) := by decide +kernel
theorem dX2_numbersFor_59 : decode cX2_numbersFor 59 = .ok (.iconst 0, 1) := by decide +kernel
theorem dX2_numbersFor_60 : decode cX2_numbersFor 60 = .ok (.ireturn, 1) := by decide +kernel
theorem dX2_isDigit_0 : decode cX2_isDigit 0 = .ok (.iload_n 0, 1) := by decide +kernel
theorem dX2_isDigit_1 : decode cX2_isDigit 1 = .ok (.bipush 48, 2) := by decide +kernel
theorem dX2_isDigit_3 : decode cX2_isDigit 3 = .ok (.if_icmp .lt 13, 3) := by decide +kernel
theorem dX2_isDigit_6 : decode cX2_isDigit 6 = .ok (.iload_n 0, 1) := by decide +kernel
theorem dX2_isDigit_7 : decode cX2_isDigit 7 = .ok (.bipush 57, 2) := by decide +kernel
theorem dX2_isDigit_9 : decode cX2_isDigit 9 = .ok (.if_icmp .gt 7, 3) := by decide +kernel
theorem dX2_isDigit_12 : decode cX2_isDigit 12 = .ok (.iconst 1, 1) := by decide +kernel
theorem dX2_isDigit_13 : decode cX2_isDigit 13 = .ok (.goto 4, 3) := by decide +kernel
theorem dX2_isDigit_16 : decode cX2_isDigit 16 = .ok (.iconst 0, 1) := by decide +kernel
theorem dX2_isDigit_17 : decode cX2_isDigit 17 = .ok (.ireturn, 1) := by decide +kernel
set_option maxRecDepth 20000 in
theorem ggX3_init_X5_init : GoodIn wsX3_init wsX5_init := goodIn_r _ [13, 14, 2, 3, 15, 16, 17, 18, 19, 20, 21, 22, 23] (by decide +kernel) (by decide +kernel)
set_option maxRecDepth 20000 in
theorem gX3_init_X5_init : GoodIn wsX3_init (wsX5_init) := ggX3_init_X5_init
theorem dX3_init_0 : decode cX3_init 0 = .ok (.aload_n 0, 1) := by decide +kernel
theorem dX3_init_1 : decode cX3_init 1 = .ok (.invokespecial 3, 3) := by decide +kernel
theorem dX3_init_4 : decode cX3_init 4 = .ok (.aload_n 0, 1) := by decide +kernel
theorem dX3_init_5 : decode cX3_init 5 = .ok (.new 9, 3) := by decide +kernel
theorem dX3_init_8 : decode cX3_init 8 = .ok (.dup, 1) := by decide +kernel
theorem dX3_init_9 : decode cX3_init 9 = .ok (.bipush 12, 2) := by decide +kernel
theorem dX3_init_11 : decode cX3_init 11 = .ok (.iconst 2, 1) := by decide +kernel
theorem dX3_init_12 : decode cX3_init 12 = .ok (.invokespecial 13, 3) := by decide +kernel
theorem dX3_init_15 : decode cX3_init 15 = .ok (.putfield 16, 3) := by decide +kernel
theorem dX3_init_18 : decode cX3_init 18 = .ok (.aload_n 0, 1) := by decide +kernel
theorem dX3_init_19 : decode cX3_init 19 = .ok (.iconst 0, 1) := by decide +kernel
theorem dX3_init_20 : decode cX3_init 20 = .ok (.putfield 20, 3) := by decide +kernel
theorem dX3_init_23 : decode cX3_init 23 = .ok (.aload_n 0, 1) := by decide +kernel
theorem dX3_init_24 : decode cX3_init 24 = .ok (.iconst 0, 1) := by decide +kernel
theorem dX3_init_25 : decode cX3_init 25 = .ok (.putfield 24, 3) := by decide +kernel
theorem dX3_init_28 : decode cX3_init 28 = .ok (.aload_n 0, 1) := by decide +kernel
theorem dX3_init_29 : decode cX3_init 29 = .ok (.iconst 0, 1) := by decide +kernel
theorem dX3_init_30 : decode cX3_init 30 = .ok (.putfield 27, 3) := by decide +kernel
theorem dX3_init_33 : decode cX3_init 33 = .ok (.return_, 1) := by decide +kernel
set_option maxRecDepth 20000 in
theorem ggX3_makeOn_X0_cardsLeft : GoodIn wsX3_makeOn wsX0_cardsLeft := goodIn_r _ [12, 13, 14, 15, 11, 16, 17, 18, 19, 20, 21, 22, 23, 24, 25, 87, 88, 89, 90, 91, 92, 93, 94, 95, 96, 97, 98, 99, 100] (by decide +kernel) (by decide +kernel)
set_option maxRecDepth 20000 in
theorem gX3_makeOn_X0_cardsLeft : GoodIn wsX3_makeOn (wsV RX3 30 RX0 yX0_cardsLeft wsX0_cardsLeft) := goodIn_app (goodIn_of _ (by decide +kernel)) ggX3_makeOn_X0_cardsLeft
set_option maxRecDepth 20000 in
theorem ggX3_makeOn_X0_goToDay : GoodIn wsX3_makeOn wsX0_goToDay := goodIn_r _ [29, 30, 31, 32, 33, 34, 35, 11, 36, 87, 88, 89, 90, 91, 92, 93, 94, 95, 96, 97, 98] (by decide +kernel) (by decide +kernel)
set_option maxRecDepth 20000 in
theorem gX3_makeOn_X0_goToDay : GoodIn wsX3_makeOn (wsV RX3 39 RX0 yX0_goToDay wsX0_goToDay) := goodIn_app (goodIn_of _ (by decide +kernel)) ggX3_makeOn_X0_goToDay
set_option maxRecDepth 20000 in
theorem ggX3_makeOn_X3_flyDay : GoodIn wsX3_makeOn wsX3_flyDay := goodIn_r _ [41, 42, 1, 2, 43, 44, 45, 11, 46, 17, 47, 48, 49, 50, 18, 30, 51, 52, 53, 54, 19, 20, 21, 22, 23, 24, 25, 55, 56, 57, 58, 59, 60, 61, 62, 63, 32, 33, 31, 64, 34, 35, 36, 65, 66, 67, 68, 69, 70, 71, 72, 73, 74, 75, 76, 77, 78, 79, 80, 81, 82, 83, 84, 85, 86, 87, 88, 89, 90, 91, 92, 93, 94, 95, 96, 97, 98, 99, 100] (by decide +kernel) (by decide +kernel)
set_option maxRecDepth 20000 in
theorem gX3_makeOn_X3_flyDay : GoodIn wsX3_makeOn (wsV RX3 43 RX3 yX3_flyDay wsX3_flyDay) := goodIn_app (goodIn_of _ (by decide +kernel)) ggX3_makeOn_X3_flyDay
theorem dX3_makeOn_0 : decode cX3_makeOn 0 = .ok (.aload_n 0, 1) := by decide +kernel
theorem dX3_makeOn_1 : decode cX3_makeOn 1 = .ok (.iconst 0, 1) := by decide +kernel
theorem dX3_makeOn_2 : decode cX3_makeOn 2 = .ok (.putfield 20, 3) := by decide +kernel
theorem dX3_makeOn_5 : decode cX3_makeOn 5 = .ok (.aload_n 0, 1) := by decide +kernel
theorem dX3_makeOn_6 : decode cX3_makeOn 6 = .ok (.iconst 0, 1) := by decide +kernel
theorem dX3_makeOn_7 : decode cX3_makeOn 7 = .ok (.putfield 24, 3) := by decide +kernel
theorem dX3_makeOn_10 : decode cX3_makeOn 10 = .ok (.aload_n 0, 1) := by decide +kernel
theorem dX3_makeOn_11 : decode cX3_makeOn 11 = .ok (.iconst 0, 1) := by decide +kernel
theorem dX3_makeOn_12 : decode cX3_makeOn 12 = .ok (.putfield 27, 3) := by decide +kernel
theorem dX3_makeOn_15 : decode cX3_makeOn 15 = .ok (.iconst 0, 1) := by decide +kernel
theorem dX3_makeOn_16 : decode cX3_makeOn 16 = .ok (.istore_n 2, 1) := by decide +kernel
theorem dX3_makeOn_17 : decode cX3_makeOn 17 = .ok (.iload_n 2, 1) := by decide +kernel
theorem dX3_makeOn_18 : decode cX3_makeOn 18 = .ok (.bipush 100, 2) := by decide +kernel
theorem dX3_makeOn_20 : decode cX3_makeOn 20 = .ok (.if_icmp .ge 47, 3) := by decide +kernel
theorem dX3_makeOn_23 : decode cX3_makeOn 23 = .ok (.aload_n 1, 1) := by decide +kernel
theorem dX3_makeOn_24 : decode cX3_makeOn 24 = .ok (.invokevirtual 30, 3) := by decide +kernel
theorem dX3_makeOn_27 : decode cX3_makeOn 27 = .ok (.ifCond .eq 40, 3) := by decide +kernel
theorem dX3_makeOn_30 : decode cX3_makeOn 30 = .ok (.iload_n 2, 1) := by decide +kernel
theorem dX3_makeOn_31 : decode cX3_makeOn 31 = .ok (.ifCond .le 13, 3) := by decide +kernel
theorem dX3_makeOn_34 : decode cX3_makeOn 34 = .ok (.aload_n 1, 1) := by decide +kernel
theorem dX3_makeOn_35 : decode cX3_makeOn 35 = .ok (.aload_n 1, 1) := by decide +kernel
theorem dX3_makeOn_36 : decode cX3_makeOn 36 = .ok (.getfield 36, 3) := by decide +kernel
theorem dX3_makeOn_39 : decode cX3_makeOn 39 = .ok (.iconst 1, 1) := by decide +kernel
theorem dX3_makeOn_40 : decode cX3_makeOn 40 = .ok (.iadd, 1) := by decide +kernel
theorem dX3_makeOn_41 : decode cX3_makeOn 41 = .ok (.invokevirtual 39, 3) := by decide +kernel
theorem dX3_makeOn_44 : decode cX3_makeOn 44 = .ok (.aload_n 0, 1) := by decide +kernel
theorem dX3_makeOn_45 : decode cX3_makeOn 45 = .ok (.aload_n 0, 1) := by decide +kernel
theorem dX3_makeOn_46 : decode cX3_makeOn 46 = .ok (.getfield 27, 3) := by decide +kernel
theorem dX3_makeOn_49 : decode cX3_makeOn 49 = .ok (.aload_n 0, 1) := by decide +kernel
theorem dX3_makeOn_50 : decode cX3_makeOn 50 = .ok (.aload_n 1, 1) := by decide +kernel
theorem dX3_makeOn_51 : decode cX3_makeOn 51 = .ok (.iload_n 2, 1) := by decide +kernel
theorem dX3_makeOn_52 : decode cX3_makeOn 52 = .ok (.invokevirtual 43, 3) := by decide +kernel
theorem dX3_makeOn_55 : decode cX3_makeOn 55 = .ok (.invokestatic 47, 3) := by decide +kernel
theorem dX3_makeOn_58 : decode cX3_makeOn 58 = .ok (.putfield 27, 3) := by decide +kernel
theorem dX3_makeOn_61 : decode cX3_makeOn 61 = .ok (.iinc 2 1, 3) := by decide +kernel
theorem dX3_makeOn_64 : decode cX3_makeOn 64 = .ok (.goto (-47), 3) := by decide +kernel
theorem dX3_makeOn_67 : decode cX3_makeOn 67 = .ok (.return_, 1) := by decide +kernel
set_option maxRecDepth 20000 in
theorem ggX3_flyDay_X0_lowestForToday : GoodIn wsX3_flyDay wsX0_lowestForToday := goodIn_r _ [8, 9, 10, 11, 12, 7, 13, 14, 15, 16, 17, 18, 19, 20, 21, 22, 23, 24, 25, 26, 27, 28, 29, 30, 31, 32, 33, 34, 35, 36, 37, 38, 39, 40, 41, 42, 65, 66, 67, 68, 69, 70, 71, 72, 73, 74, 75, 76, 77, 78] (by decide +kernel) (by decide +kernel)
set_option maxRecDepth 20000 in
theorem gX3_flyDay_X0_lowestForToday : GoodIn wsX3_flyDay (wsV RX3 53 RX0 yX0_lowestForToday wsX0_lowestForToday) := goodIn_app (goodIn_of _ (by decide +kernel)) ggX3_flyDay_X0_lowestForToday
set_option maxRecDepth 20000 in
theorem ggX3_flyDay_X5_put : GoodIn wsX3_flyDay wsX5_put := goodIn_r _ [46, 25, 26, 77, 78] (by decide +kernel) (by decide +kernel)
set_option maxRecDepth 20000 in
theorem gX3_flyDay_X5_put : GoodIn wsX3_flyDay (wsV RX3 56 RX5 yX5_put wsX5_put) := goodIn_app (goodIn_of _ (by decide +kernel)) ggX3_flyDay_X5_put
set_option maxRecDepth 20000 in
theorem ggX3_flyDay_X5_get : GoodIn wsX3_flyDay wsX5_get := goodIn_r _ [24, 25, 26, 77, 78] (by decide +kernel) (by decide +kernel)
set_option maxRecDepth 20000 in
theorem gX3_flyDay_X5_get : GoodIn wsX3_flyDay (wsV RX3 63 RX5 yX5_get wsX5_get) := goodIn_app (goodIn_of _ (by decide +kernel)) ggX3_flyDay_X5_get
set_option maxRecDepth 20000 in
theorem ggX3_flyDay_X0_takeFlight : GoodIn wsX3_flyDay wsX0_takeFlight := goodIn_r _ [51, 14, 36, 37, 38, 52, 53, 54, 55, 56, 57, 7, 58, 15, 59, 31, 60, 44, 45, 23, 46, 25, 26, 20, 21, 22, 24, 65, 66, 67, 68, 69, 70, 71, 72, 73, 74, 75, 76, 77, 78] (by decide +kernel) (by decide +kernel)
set_option maxRecDepth 20000 in
theorem gX3_flyDay_X0_takeFlight : GoodIn wsX3_flyDay (wsV RX3 66 RX0 yX0_takeFlight wsX0_takeFlight) := goodIn_app (goodIn_of _ (by decide +kernel)) ggX3_flyDay_X0_takeFlight
theorem dX3_flyDay_0 : decode cX3_flyDay 0 = .ok (.iconst 0, 1) := by decide +kernel
theorem dX3_flyDay_1 : decode cX3_flyDay 1 = .ok (.istore_n 3, 1) := by decide +kernel
theorem dX3_flyDay_2 : decode cX3_flyDay 2 = .ok (.aload_n 1, 1) := by decide +kernel
theorem dX3_flyDay_3 : decode cX3_flyDay 3 = .ok (.invokevirtual 53, 3) := by decide +kernel
theorem dX3_flyDay_6 : decode cX3_flyDay 6 = .ok (.istore 4, 2) := by decide +kernel
theorem dX3_flyDay_8 : decode cX3_flyDay 8 = .ok (.iload 4, 2) := by decide +kernel
theorem dX3_flyDay_10 : decode cX3_flyDay 10 = .ok (.iconst (-1), 1) := by decide +kernel
theorem dX3_flyDay_11 : decode cX3_flyDay 11 = .ok (.if_icmp .eq 84, 3) := by decide +kernel
theorem dX3_flyDay_14 : decode cX3_flyDay 14 = .ok (.iload_n 3, 1) := by decide +kernel
theorem dX3_flyDay_15 : decode cX3_flyDay 15 = .ok (.bipush 12, 2) := by decide +kernel
theorem dX3_flyDay_17 : decode cX3_flyDay 17 = .ok (.if_icmp .ge 78, 3) := by decide +kernel
theorem dX3_flyDay_20 : decode cX3_flyDay 20 = .ok (.aload_n 0, 1) := by decide +kernel
theorem dX3_flyDay_21 : decode cX3_flyDay 21 = .ok (.getfield 16, 3) := by decide +kernel
theorem dX3_flyDay_24 : decode cX3_flyDay 24 = .ok (.aload_n 0, 1) := by decide +kernel
theorem dX3_flyDay_25 : decode cX3_flyDay 25 = .ok (.getfield 20, 3) := by decide +kernel
theorem dX3_flyDay_28 : decode cX3_flyDay 28 = .ok (.iconst 0, 1) := by decide +kernel
theorem dX3_flyDay_29 : decode cX3_flyDay 29 = .ok (.iload 4, 2) := by decide +kernel
theorem dX3_flyDay_31 : decode cX3_flyDay 31 = .ok (.invokevirtual 56, 3) := by decide +kernel
theorem dX3_flyDay_34 : decode cX3_flyDay 34 = .ok (.aload_n 0, 1) := by decide +kernel
theorem dX3_flyDay_35 : decode cX3_flyDay 35 = .ok (.getfield 16, 3) := by decide +kernel
theorem dX3_flyDay_38 : decode cX3_flyDay 38 = .ok (.aload_n 0, 1) := by decide +kernel
theorem dX3_flyDay_39 : decode cX3_flyDay 39 = .ok (.getfield 20, 3) := by decide +kernel
theorem dX3_flyDay_42 : decode cX3_flyDay 42 = .ok (.iconst 1, 1) := by decide +kernel
theorem dX3_flyDay_43 : decode cX3_flyDay 43 = .ok (.iload_n 2, 1) := by decide +kernel
theorem dX3_flyDay_44 : decode cX3_flyDay 44 = .ok (.invokevirtual 56, 3) := by decide +kernel
theorem dX3_flyDay_47 : decode cX3_flyDay 47 = .ok (.aload_n 0, 1) := by decide +kernel
theorem dX3_flyDay_48 : decode cX3_flyDay 48 = .ok (.dup, 1) := by decide +kernel
theorem dX3_flyDay_49 : decode cX3_flyDay 49 = .ok (.getfield 20, 3) := by decide +kernel
theorem dX3_flyDay_52 : decode cX3_flyDay 52 = .ok (.iconst 1, 1) := by decide +kernel
theorem dX3_flyDay_53 : decode cX3_flyDay 53 = .ok (.iadd, 1) := by decide +kernel
theorem dX3_flyDay_54 : decode cX3_flyDay 54 = .ok (.putfield 20, 3) := by decide +kernel
theorem dX3_flyDay_57 : decode cX3_flyDay 57 = .ok (.aload_n 0, 1) := by decide +kernel
theorem dX3_flyDay_58 : decode cX3_flyDay 58 = .ok (.dup, 1) := by decide +kernel
theorem dX3_flyDay_59 : decode cX3_flyDay 59 = .ok (.getfield 24, 3) := by decide +kernel
theorem dX3_flyDay_62 : decode cX3_flyDay 62 = .ok (.aload_n 1, 1) := by decide +kernel
theorem dX3_flyDay_63 : decode cX3_flyDay 63 = .ok (.getfield 60, 3) := by decide +kernel
theorem dX3_flyDay_66 : decode cX3_flyDay 66 = .ok (.iload 4, 2) := by decide +kernel
theorem dX3_flyDay_68 : decode cX3_flyDay 68 = .ok (.iconst 4, 1) := by decide +kernel
theorem dX3_flyDay_69 : decode cX3_flyDay 69 = .ok (.invokevirtual 63, 3) := by decide +kernel
theorem dX3_flyDay_72 : decode cX3_flyDay 72 = .ok (.iadd, 1) := by decide +kernel
theorem dX3_flyDay_73 : decode cX3_flyDay 73 = .ok (.putfield 24, 3) := by decide +kernel
theorem dX3_flyDay_76 : decode cX3_flyDay 76 = .ok (.aload_n 1, 1) := by decide +kernel
theorem dX3_flyDay_77 : decode cX3_flyDay 77 = .ok (.iload 4, 2) := by decide +kernel
theorem dX3_flyDay_79 : decode cX3_flyDay 79 = .ok (.iconst 1, 1) := by decide +kernel
theorem dX3_flyDay_80 : decode cX3_flyDay 80 = .ok (.invokevirtual 66, 3) := by decide +kernel
theorem dX3_flyDay_83 : decode cX3_flyDay 83 = .ok (.iinc 3 1, 3) := by decide +kernel
theorem dX3_flyDay_86 : decode cX3_flyDay 86 = .ok (.aload_n 1, 1) := by decide +kernel
theorem dX3_flyDay_87 : decode cX3_flyDay 87 = .ok (.invokevirtual 53, 3) := by decide +kernel
theorem dX3_flyDay_90 : decode cX3_flyDay 90 = .ok (.istore 4, 2) := by decide +kernel
theorem dX3_flyDay_92 : decode cX3_flyDay 92 = .ok (.goto (-84), 3) := by decide +kernel
theorem dX3_flyDay_95 : decode cX3_flyDay 95 = .ok (.iload_n 3, 1) := by decide +kernel
theorem dX3_flyDay_96 : decode cX3_flyDay 96 = .ok (.ireturn, 1) := by decide +kernel
set_option maxRecDepth 20000 in
theorem ggX4_init_X2_init : GoodIn wsX4_init wsX2_init := goodIn_r _ [13, 14, 2, 3, 15, 16, 17, 18, 19, 20, 21, 22, 23, 24, 25, 26, 27, 28, 29, 30, 31, 40, 41, 32, 33, 34] (by decide +kernel) (by decide +kernel)
set_option maxRecDepth 20000 in
theorem gX4_init_X2_init_n11 : GoodIn wsX4_init (wsX2_init) := ggX4_init_X2_init
theorem dX4_init_0 : decode cX4_init 0 = .ok (.aload_n 0, 1) := by decide +kernel
theorem dX4_init_1 : decode cX4_init 1 = .ok (.invokespecial 3, 3) := by decide +kernel
theorem dX4_init_4 : decode cX4_init 4 = .ok (.aload_n 0, 1) := by decide +kernel
theorem dX4_init_5 : decode cX4_init 5 = .ok (.new 9, 3) := by decide +kernel
theorem dX4_init_8 : decode cX4_init 8 = .ok (.dup, 1) := by decide +kernel
theorem dX4_init_9 : decode cX4_init 9 = .ok (.invokespecial 11, 3) := by decide +kernel
theorem dX4_init_12 : decode cX4_init 12 = .ok (.putfield 12, 3) := by decide +kernel
theorem dX4_init_15 : decode cX4_init 15 = .ok (.aload_n 0, 1) := by decide +kernel
theorem dX4_init_16 : decode cX4_init 16 = .ok (.iconst 0, 1) := by decide +kernel
theorem dX4_init_17 : decode cX4_init 17 = .ok (.putfield 18, 3) := by decide +kernel
theorem dX4_init_20 : decode cX4_init 20 = .ok (.aload_n 0, 1) := by decide +kernel
theorem dX4_init_21 : decode cX4_init 21 = .ok (.iconst 0, 1) := by decide +kernel
theorem dX4_init_22 : decode cX4_init 22 = .ok (.putfield 22, 3) := by decide +kernel
theorem dX4_init_25 : decode cX4_init 25 = .ok (.aload_n 0, 1) := by decide +kernel
theorem dX4_init_26 : decode cX4_init 26 = .ok (.iconst 0, 1) := by decide +kernel
theorem dX4_init_27 : decode cX4_init 27 = .ok (.putfield 25, 3) := by decide +kernel
theorem dX4_init_30 : decode cX4_init 30 = .ok (.aload_n 0, 1) := by decide +kernel
theorem dX4_init_31 : decode cX4_init 31 = .ok (.iconst 0, 1) := by decide +kernel
theorem dX4_init_32 : decode cX4_init 32 = .ok (.putfield 28, 3) := by decide +kernel
theorem dX4_init_35 : decode cX4_init 35 = .ok (.return_, 1) := by decide +kernel
set_option maxRecDepth 20000 in
theorem ggX4_playOn_X2_readFrom : GoodIn wsX4_playOn wsX2_readFrom := goodIn_r _ [10, 11, 12, 13, 14, 15, 16, 17, 18, 19, 20, 21, 9, 22, 23, 24, 25, 26, 27, 28, 29, 30, 31, 32, 33, 34, 35, 36, 37, 147, 148, 149, 145, 146, 150, 151] (by decide +kernel) (by decide +kernel)
set_option maxRecDepth 20000 in
theorem gX4_playOn_X2_readFrom : GoodIn wsX4_playOn (wsV RX4 36 RX2 yX2_readFrom wsX2_readFrom) := goodIn_app (goodIn_of _ (by decide +kernel)) ggX4_playOn_X2_readFrom
set_option maxRecDepth 20000 in
theorem ggX4_playOn_X2_doOn : GoodIn wsX4_playOn wsX2_doOn := goodIn_r _ [41, 12, 42, 43, 44, 9, 45, 27, 46, 47, 48, 34, 49, 36, 37, 50, 51, 52, 53, 54, 55, 56, 57, 58, 59, 60, 61, 62, 63, 64, 65, 66, 67, 68, 69, 32, 33, 35, 70, 71, 72, 73, 74, 75, 76, 77, 78, 79, 80, 81, 82, 83, 84, 85, 86, 87, 88, 89, 90, 91, 92, 93, 94, 95, 96, 97, 98, 99, 100, 101, 102, 103, 104, 105, 106, 107, 108, 109, 110, 111, 112, 113, 114, 115, 116, 117, 118, 119, 120, 121, 122, 123, 124, 125, 126, 127, 128, 129, 130, 131, 132, 133, 134, 135, 136, 137, 138, 139, 147, 148, 149, 150, 151, 152, 153, 154, 155, 156, 157, 158, 159, 160, 161, 162, 163] (by decide +kernel) (by decide +kernel)
set_option maxRecDepth 20000 in
theorem gX4_playOn_X2_doOn : GoodIn wsX4_playOn (wsV RX4 41 RX2 yX2_doOn wsX2_doOn) := goodIn_app (goodIn_of _ (by decide +kernel)) ggX4_playOn_X2_doOn
theorem dX4_playOn_0 : decode cX4_playOn 0 = .ok (.aload_n 0, 1) := by decide +kernel
theorem dX4_playOn_1 : decode cX4_playOn 1 = .ok (.iconst 0, 1) := by decide +kernel
theorem dX4_playOn_2 : decode cX4_playOn 2 = .ok (.putfield 18, 3) := by decide +kernel
theorem dX4_playOn_5 : decode cX4_playOn 5 = .ok (.aload_n 0, 1) := by decide +kernel
theorem dX4_playOn_6 : decode cX4_playOn 6 = .ok (.iconst 0, 1) := by decide +kernel
theorem dX4_playOn_7 : decode cX4_playOn 7 = .ok (.putfield 22, 3) := by decide +kernel
theorem dX4_playOn_10 : decode cX4_playOn 10 = .ok (.aload_n 0, 1) := by decide +kernel
theorem dX4_playOn_11 : decode cX4_playOn 11 = .ok (.iconst 0, 1) := by decide +kernel
theorem dX4_playOn_12 : decode cX4_playOn 12 = .ok (.putfield 25, 3) := by decide +kernel
theorem dX4_playOn_15 : decode cX4_playOn 15 = .ok (.aload_n 0, 1) := by decide +kernel
theorem dX4_playOn_16 : decode cX4_playOn 16 = .ok (.iconst 0, 1) := by decide +kernel
theorem dX4_playOn_17 : decode cX4_playOn 17 = .ok (.putfield 28, 3) := by decide +kernel
theorem dX4_playOn_20 : decode cX4_playOn 20 = .ok (.aload_n 0, 1) := by decide +kernel
theorem dX4_playOn_21 : decode cX4_playOn 21 = .ok (.getfield 22, 3) := by decide +kernel
theorem dX4_playOn_24 : decode cX4_playOn 24 = .ok (.aload_n 1, 1) := by decide +kernel
theorem dX4_playOn_25 : decode cX4_playOn 25 = .ok (.getfield 31, 3) := by decide +kernel
theorem dX4_playOn_28 : decode cX4_playOn 28 = .ok (.if_icmp .ge 97, 3) := by decide +kernel
theorem dX4_playOn_31 : decode cX4_playOn 31 = .ok (.aload_n 0, 1) := by decide +kernel
theorem dX4_playOn_32 : decode cX4_playOn 32 = .ok (.getfield 18, 3) := by decide +kernel
theorem dX4_playOn_35 : decode cX4_playOn 35 = .ok (.bipush 60, 2) := by decide +kernel
theorem dX4_playOn_37 : decode cX4_playOn 37 = .ok (.if_icmp .ge 88, 3) := by decide +kernel
theorem dX4_playOn_40 : decode cX4_playOn 40 = .ok (.aload_n 0, 1) := by decide +kernel
theorem dX4_playOn_41 : decode cX4_playOn 41 = .ok (.getfield 12, 3) := by decide +kernel
theorem dX4_playOn_44 : decode cX4_playOn 44 = .ok (.aload_n 1, 1) := by decide +kernel
theorem dX4_playOn_45 : decode cX4_playOn 45 = .ok (.aload_n 0, 1) := by decide +kernel
theorem dX4_playOn_46 : decode cX4_playOn 46 = .ok (.getfield 22, 3) := by decide +kernel
theorem dX4_playOn_49 : decode cX4_playOn 49 = .ok (.invokevirtual 36, 3) := by decide +kernel
theorem dX4_playOn_52 : decode cX4_playOn 52 = .ok (.ifCond .ne 25, 3) := by decide +kernel
theorem dX4_playOn_55 : decode cX4_playOn 55 = .ok (.aload_n 0, 1) := by decide +kernel
theorem dX4_playOn_56 : decode cX4_playOn 56 = .ok (.iconst 1, 1) := by decide +kernel
theorem dX4_playOn_57 : decode cX4_playOn 57 = .ok (.putfield 25, 3) := by decide +kernel
theorem dX4_playOn_60 : decode cX4_playOn 60 = .ok (.aload_n 0, 1) := by decide +kernel
theorem dX4_playOn_61 : decode cX4_playOn 61 = .ok (.aload_n 0, 1) := by decide +kernel
theorem dX4_playOn_62 : decode cX4_playOn 62 = .ok (.getfield 12, 3) := by decide +kernel
theorem dX4_playOn_65 : decode cX4_playOn 65 = .ok (.getfield 40, 3) := by decide +kernel
theorem dX4_playOn_68 : decode cX4_playOn 68 = .ok (.aload_n 0, 1) := by decide +kernel
theorem dX4_playOn_69 : decode cX4_playOn 69 = .ok (.getfield 22, 3) := by decide +kernel
theorem dX4_playOn_72 : decode cX4_playOn 72 = .ok (.isub, 1) := by decide +kernel
theorem dX4_playOn_73 : decode cX4_playOn 73 = .ok (.putfield 28, 3) := by decide +kernel
theorem dX4_playOn_76 : decode cX4_playOn 76 = .ok (.return_, 1) := by decide +kernel
theorem dX4_playOn_77 : decode cX4_playOn 77 = .ok (.aload_n 0, 1) := by decide +kernel
theorem dX4_playOn_78 : decode cX4_playOn 78 = .ok (.getfield 12, 3) := by decide +kernel
theorem dX4_playOn_81 : decode cX4_playOn 81 = .ok (.aload_n 2, 1) := by decide +kernel
theorem dX4_playOn_82 : decode cX4_playOn 82 = .ok (.invokevirtual 41, 3) := by decide +kernel
theorem dX4_playOn_85 : decode cX4_playOn 85 = .ok (.istore_n 3, 1) := by decide +kernel
theorem dX4_playOn_86 : decode cX4_playOn 86 = .ok (.iload_n 3, 1) := by decide +kernel
theorem dX4_playOn_87 : decode cX4_playOn 87 = .ok (.ifCond .ge 14, 3) := by decide +kernel
theorem dX4_playOn_90 : decode cX4_playOn 90 = .ok (.aload_n 0, 1) := by decide +kernel
theorem dX4_playOn_91 : decode cX4_playOn 91 = .ok (.iconst 2, 1) := by decide +kernel
theorem dX4_playOn_92 : decode cX4_playOn 92 = .ok (.putfield 25, 3) := by decide +kernel
theorem dX4_playOn_95 : decode cX4_playOn 95 = .ok (.aload_n 0, 1) := by decide +kernel
theorem dX4_playOn_96 : decode cX4_playOn 96 = .ok (.iload_n 3, 1) := by decide +kernel
theorem dX4_playOn_97 : decode cX4_playOn 97 = .ok (.putfield 28, 3) := by decide +kernel
theorem dX4_playOn_100 : decode cX4_playOn 100 = .ok (.return_, 1) := by decide +kernel
theorem dX4_playOn_101 : decode cX4_playOn 101 = .ok (.aload_n 0, 1) := by decide +kernel
theorem dX4_playOn_102 : decode cX4_playOn 102 = .ok (.dup, 1) := by decide +kernel
theorem dX4_playOn_103 : decode cX4_playOn 103 = .ok (.getfield 18, 3) := by decide +kernel
theorem dX4_playOn_106 : decode cX4_playOn 106 = .ok (.iconst 1, 1) := by decide +kernel
theorem dX4_playOn_107 : decode cX4_playOn 107 = .ok (.iadd, 1) := by decide +kernel
theorem dX4_playOn_108 : decode cX4_playOn 108 = .ok (.putfield 18, 3) := by decide +kernel
theorem dX4_playOn_111 : decode cX4_playOn 111 = .ok (.aload_n 0, 1) := by decide +kernel
theorem dX4_playOn_112 : decode cX4_playOn 112 = .ok (.aload_n 0, 1) := by decide +kernel
theorem dX4_playOn_113 : decode cX4_playOn 113 = .ok (.getfield 12, 3) := by decide +kernel
theorem dX4_playOn_116 : decode cX4_playOn 116 = .ok (.getfield 40, 3) := by decide +kernel
theorem dX4_playOn_119 : decode cX4_playOn 119 = .ok (.putfield 22, 3) := by decide +kernel
theorem dX4_playOn_122 : decode cX4_playOn 122 = .ok (.goto (-102), 3) := by decide +kernel
theorem dX4_playOn_125 : decode cX4_playOn 125 = .ok (.return_, 1) := by decide +kernel
theorem dX5_init_0 : decode cX5_init 0 = .ok (.aload_n 0, 1) := by decide +kernel
theorem dX5_init_1 : decode cX5_init 1 = .ok (.invokespecial 1, 3) := by decide +kernel
theorem dX5_init_4 : decode cX5_init 4 = .ok (.aload_n 0, 1) := by decide +kernel
theorem dX5_init_5 : decode cX5_init 5 = .ok (.iconst 0, 1) := by decide +kernel
theorem dX5_init_6 : decode cX5_init 6 = .ok (.iload_n 1, 1) := by decide +kernel
theorem dX5_init_7 : decode cX5_init 7 = .ok (.iload_n 2, 1) := by decide +kernel
theorem dX5_init_8 : decode cX5_init 8 = .ok (.imul, 1) := by decide +kernel
theorem dX5_init_9 : decode cX5_init 9 = .ok (.invokestatic 7, 3) := by decide +kernel
theorem dX5_init_12 : decode cX5_init 12 = .ok (.newarray .int, 2) := by decide +kernel
theorem dX5_init_14 : decode cX5_init 14 = .ok (.putfield 13, 3) := by decide +kernel
theorem dX5_init_17 : decode cX5_init 17 = .ok (.aload_n 0, 1) := by decide +kernel
theorem dX5_init_18 : decode cX5_init 18 = .ok (.iload_n 2, 1) := by decide +kernel
theorem dX5_init_19 : decode cX5_init 19 = .ok (.putfield 19, 3) := by decide +kernel
theorem dX5_init_22 : decode cX5_init 22 = .ok (.return_, 1) := by decide +kernel
theorem dX5_get_0 : decode cX5_get 0 = .ok (.iload_n 1, 1) := by decide +kernel
theorem dX5_get_1 : decode cX5_get 1 = .ok (.aload_n 0, 1) := by decide +kernel
theorem dX5_get_2 : decode cX5_get 2 = .ok (.getfield 19, 3) := by decide +kernel
theorem dX5_get_5 : decode cX5_get 5 = .ok (.imul, 1) := by decide +kernel
theorem dX5_get_6 : decode cX5_get 6 = .ok (.iload_n 2, 1) := by decide +kernel
theorem dX5_get_7 : decode cX5_get 7 = .ok (.iadd, 1) := by decide +kernel
theorem dX5_get_8 : decode cX5_get 8 = .ok (.istore_n 3, 1) := by decide +kernel
theorem dX5_get_9 : decode cX5_get 9 = .ok (.iload_n 2, 1) := by decide +kernel
theorem dX5_get_10 : decode cX5_get 10 = .ok (.ifCond .lt 28, 3) := by decide +kernel
theorem dX5_get_13 : decode cX5_get 13 = .ok (.iload_n 2, 1) := by decide +kernel
theorem dX5_get_14 : decode cX5_get 14 = .ok (.aload_n 0, 1) := by decide +kernel
theorem dX5_get_15 : decode cX5_get 15 = .ok (.getfield 19, 3) := by decide +kernel
theorem dX5_get_18 : decode cX5_get 18 = .ok (.if_icmp .ge 20, 3) := by decide +kernel
theorem dX5_get_21 : decode cX5_get 21 = .ok (.iload_n 3, 1) := by decide +kernel
theorem dX5_get_22 : decode cX5_get 22 = .ok (.ifCond .lt 16, 3) := by decide +kernel
theorem dX5_get_25 : decode cX5_get 25 = .ok (.iload_n 3, 1) := by decide +kernel
theorem dX5_get_26 : decode cX5_get 26 = .ok (.aload_n 0, 1) := by decide +kernel
theorem dX5_get_27 : decode cX5_get 27 = .ok (.getfield 13, 3) := by decide +kernel
theorem dX5_get_30 : decode cX5_get 30 = .ok (.arraylength, 1) := by decide +kernel
theorem dX5_get_31 : decode cX5_get 31 = .ok (.if_icmp .ge 7, 3) := by decide +kernel
theorem dX5_get_34 : decode cX5_get 34 = .ok (.iconst 1, 1) := by decide +kernel
theorem dX5_get_35 : decode cX5_get 35 = .ok (.goto 4, 3) := by decide +kernel
theorem dX5_get_38 : decode cX5_get 38 = .ok (.iconst 0, 1) := by decide +kernel
theorem dX5_get_39 : decode cX5_get 39 = .ok (.istore 4, 2) := by decide +kernel
theorem dX5_get_41 : decode cX5_get 41 = .ok (.iload 4, 2) := by decide +kernel
theorem dX5_get_43 : decode cX5_get 43 = .ok (.ifCond .eq 12, 3) := by decide +kernel
theorem dX5_get_46 : decode cX5_get 46 = .ok (.aload_n 0, 1) := by decide +kernel
theorem dX5_get_47 : decode cX5_get 47 = .ok (.getfield 13, 3) := by decide +kernel
theorem dX5_get_50 : decode cX5_get 50 = .ok (.iload_n 3, 1) := by decide +kernel
theorem dX5_get_51 : decode cX5_get 51 = .ok (.iaload, 1) := by decide +kernel
theorem dX5_get_52 : decode cX5_get 52 = .ok (.goto 4, 3) := by decide +kernel
theorem dX5_get_55 : decode cX5_get 55 = .ok (.iconst 0, 1) := by decide +kernel
theorem dX5_get_56 : decode cX5_get 56 = .ok (.ireturn, 1) := by decide +kernel
theorem dX5_put_0 : decode cX5_put 0 = .ok (.iload_n 1, 1) := by decide +kernel
theorem dX5_put_1 : decode cX5_put 1 = .ok (.aload_n 0, 1) := by decide +kernel
theorem dX5_put_2 : decode cX5_put 2 = .ok (.getfield 19, 3) := by decide +kernel
theorem dX5_put_5 : decode cX5_put 5 = .ok (.imul, 1) := by decide +kernel
theorem dX5_put_6 : decode cX5_put 6 = .ok (.iload_n 2, 1) := by decide +kernel
theorem dX5_put_7 : decode cX5_put 7 = .ok (.iadd, 1) := by decide +kernel
theorem dX5_put_8 : decode cX5_put 8 = .ok (.istore 4, 2) := by decide +kernel
theorem dX5_put_10 : decode cX5_put 10 = .ok (.iload_n 2, 1) := by decide +kernel
theorem dX5_put_11 : decode cX5_put 11 = .ok (.ifCond .lt 34, 3) := by decide +kernel
theorem dX5_put_14 : decode cX5_put 14 = .ok (.iload_n 2, 1) := by decide +kernel
theorem dX5_put_15 : decode cX5_put 15 = .ok (.aload_n 0, 1) := by decide +kernel
theorem dX5_put_16 : decode cX5_put 16 = .ok (.getfield 19, 3) := by decide +kernel
theorem dX5_put_19 : decode cX5_put 19 = .ok (.if_icmp .ge 26, 3) := by decide +kernel
theorem dX5_put_22 : decode cX5_put 22 = .ok (.iload 4, 2) := by decide +kernel
theorem dX5_put_24 : decode cX5_put 24 = .ok (.ifCond .lt 21, 3) := by decide +kernel
theorem dX5_put_27 : decode cX5_put 27 = .ok (.iload 4, 2) := by decide +kernel
theorem dX5_put_29 : decode cX5_put 29 = .ok (.aload_n 0, 1) := by decide +kernel
theorem dX5_put_30 : decode cX5_put 30 = .ok (.getfield 13, 3) := by decide +kernel
theorem dX5_put_33 : decode cX5_put 33 = .ok (.arraylength, 1) := by decide +kernel
theorem dX5_put_34 : decode cX5_put 34 = .ok (.if_icmp .ge 11, 3) := by decide +kernel
theorem dX5_put_37 : decode cX5_put 37 = .ok (.aload_n 0, 1) := by decide +kernel
theorem dX5_put_38 : decode cX5_put 38 = .ok (.getfield 13, 3) := by decide +kernel
theorem dX5_put_41 : decode cX5_put 41 = .ok (.iload 4, 2) := by decide +kernel
theorem dX5_put_43 : decode cX5_put 43 = .ok (.iload_n 3, 1) := by decide +kernel
theorem dX5_put_44 : decode cX5_put 44 = .ok (.iastore, 1) := by decide +kernel
theorem dX5_put_45 : decode cX5_put 45 = .ok (.return_, 1) := by decide +kernel
theorem dX5_clear_0 : decode cX5_clear 0 = .ok (.iconst 0, 1) := by decide +kernel
theorem dX5_clear_1 : decode cX5_clear 1 = .ok (.istore_n 1, 1) := by decide +kernel
theorem dX5_clear_2 : decode cX5_clear 2 = .ok (.iload_n 1, 1) := by decide +kernel
theorem dX5_clear_3 : decode cX5_clear 3 = .ok (.aload_n 0, 1) := by decide +kernel
theorem dX5_clear_4 : decode cX5_clear 4 = .ok (.getfield 13, 3) := by decide +kernel
theorem dX5_clear_7 : decode cX5_clear 7 = .ok (.arraylength, 1) := by decide +kernel
theorem dX5_clear_8 : decode cX5_clear 8 = .ok (.if_icmp .ge 16, 3) := by decide +kernel
theorem dX5_clear_11 : decode cX5_clear 11 = .ok (.aload_n 0, 1) := by decide +kernel
theorem dX5_clear_12 : decode cX5_clear 12 = .ok (.getfield 13, 3) := by decide +kernel
theorem dX5_clear_15 : decode cX5_clear 15 = .ok (.iload_n 1, 1) := by decide +kernel
theorem dX5_clear_16 : decode cX5_clear 16 = .ok (.iconst 0, 1) := by decide +kernel
theorem dX5_clear_17 : decode cX5_clear 17 = .ok (.iastore, 1) := by decide +kernel
theorem dX5_clear_18 : decode cX5_clear 18 = .ok (.iinc 1 1, 3) := by decide +kernel
theorem dX5_clear_21 : decode cX5_clear 21 = .ok (.goto (-19), 3) := by decide +kernel
theorem dX5_clear_24 : decode cX5_clear 24 = .ok (.return_, 1) := by decide +kernel
theorem dX5_copyFrom_0 : decode cX5_copyFrom 0 = .ok (.aload_n 1, 1) := by decide +kernel
theorem dX5_copyFrom_1 : decode cX5_copyFrom 1 = .ok (.getfield 13, 3) := by decide +kernel
theorem dX5_copyFrom_4 : decode cX5_copyFrom 4 = .ok (.iconst 0, 1) := by decide +kernel
theorem dX5_copyFrom_5 : decode cX5_copyFrom 5 = .ok (.aload_n 0, 1) := by decide +kernel
theorem dX5_copyFrom_6 : decode cX5_copyFrom 6 = .ok (.getfield 13, 3) := by decide +kernel
theorem dX5_copyFrom_9 : decode cX5_copyFrom 9 = .ok (.iconst 0, 1) := by decide +kernel
theorem dX5_copyFrom_10 : decode cX5_copyFrom 10 = .ok (.aload_n 1, 1) := by decide +kernel
theorem dX5_copyFrom_11 : decode cX5_copyFrom 11 = .ok (.getfield 13, 3) := by decide +kernel
theorem dX5_copyFrom_14 : decode cX5_copyFrom 14 = .ok (.arraylength, 1) := by decide +kernel
theorem dX5_copyFrom_15 : decode cX5_copyFrom 15 = .ok (.aload_n 0, 1) := by decide +kernel
theorem dX5_copyFrom_16 : decode cX5_copyFrom 16 = .ok (.getfield 13, 3) := by decide +kernel
theorem dX5_copyFrom_19 : decode cX5_copyFrom 19 = .ok (.arraylength, 1) := by decide +kernel
theorem dX5_copyFrom_20 : decode cX5_copyFrom 20 = .ok (.invokestatic 23, 3) := by decide +kernel
theorem dX5_copyFrom_23 : decode cX5_copyFrom 23 = .ok (.invokestatic 26, 3) := by decide +kernel
theorem dX5_copyFrom_26 : decode cX5_copyFrom 26 = .ok (.return_, 1) := by decide +kernel
theorem dX6_init_0 : decode cX6_init 0 = .ok (.aload_n 0, 1) := by decide +kernel
theorem dX6_init_1 : decode cX6_init 1 = .ok (.invokespecial 3, 3) := by decide +kernel
theorem dX6_init_4 : decode cX6_init 4 = .ok (.aload_n 0, 1) := by decide +kernel
theorem dX6_init_5 : decode cX6_init 5 = .ok (.bipush 60, 2) := by decide +kernel
theorem dX6_init_7 : decode cX6_init 7 = .ok (.newarray .int, 2) := by decide +kernel
theorem dX6_init_9 : decode cX6_init 9 = .ok (.putfield 9, 3) := by decide +kernel
theorem dX6_init_12 : decode cX6_init 12 = .ok (.aload_n 0, 1) := by decide +kernel
theorem dX6_init_13 : decode cX6_init 13 = .ok (.iconst 0, 1) := by decide +kernel
theorem dX6_init_14 : decode cX6_init 14 = .ok (.putfield 15, 3) := by decide +kernel
theorem dX6_init_17 : decode cX6_init 17 = .ok (.return_, 1) := by decide +kernel
theorem dX6_append_0 : decode cX6_append 0 = .ok (.aload_n 0, 1) := by decide +kernel
theorem dX6_append_1 : decode cX6_append 1 = .ok (.getfield 15, 3) := by decide +kernel
theorem dX6_append_4 : decode cX6_append 4 = .ok (.ifCond .lt 35, 3) := by decide +kernel
theorem dX6_append_7 : decode cX6_append 7 = .ok (.aload_n 0, 1) := by decide +kernel
theorem dX6_append_8 : decode cX6_append 8 = .ok (.getfield 15, 3) := by decide +kernel
theorem dX6_append_11 : decode cX6_append 11 = .ok (.aload_n 0, 1) := by decide +kernel
theorem dX6_append_12 : decode cX6_append 12 = .ok (.getfield 9, 3) := by decide +kernel
theorem dX6_append_15 : decode cX6_append 15 = .ok (.arraylength, 1) := by decide +kernel
theorem dX6_append_16 : decode cX6_append 16 = .ok (.if_icmp .ge 23, 3) := by decide +kernel
theorem dX6_append_19 : decode cX6_append 19 = .ok (.aload_n 0, 1) := by decide +kernel
theorem dX6_append_20 : decode cX6_append 20 = .ok (.getfield 9, 3) := by decide +kernel
theorem dX6_append_23 : decode cX6_append 23 = .ok (.aload_n 0, 1) := by decide +kernel
theorem dX6_append_24 : decode cX6_append 24 = .ok (.getfield 15, 3) := by decide +kernel
theorem dX6_append_27 : decode cX6_append 27 = .ok (.iload_n 1, 1) := by decide +kernel
theorem dX6_append_28 : decode cX6_append 28 = .ok (.iastore, 1) := by decide +kernel
theorem dX6_append_29 : decode cX6_append 29 = .ok (.aload_n 0, 1) := by decide +kernel
theorem dX6_append_30 : decode cX6_append 30 = .ok (.dup, 1) := by decide +kernel
theorem dX6_append_31 : decode cX6_append 31 = .ok (.getfield 15, 3) := by decide +kernel
theorem dX6_append_34 : decode cX6_append 34 = .ok (.iconst 1, 1) := by decide +kernel
theorem dX6_append_35 : decode cX6_append 35 = .ok (.iadd, 1) := by decide +kernel
theorem dX6_append_36 : decode cX6_append 36 = .ok (.putfield 15, 3) := by decide +kernel
theorem dX6_append_39 : decode cX6_append 39 = .ok (.return_, 1) := by decide +kernel
theorem dX6_characterAt_0 : decode cX6_characterAt 0 = .ok (.iload_n 1, 1) := by decide +kernel
theorem dX6_characterAt_1 : decode cX6_characterAt 1 = .ok (.ifCond .lt 24, 3) := by decide +kernel
theorem dX6_characterAt_4 : decode cX6_characterAt 4 = .ok (.iload_n 1, 1) := by decide +kernel
theorem dX6_characterAt_5 : decode cX6_characterAt 5 = .ok (.aload_n 0, 1) := by decide +kernel
theorem dX6_characterAt_6 : decode cX6_characterAt 6 = .ok (.getfield 15, 3) := by decide +kernel
theorem dX6_characterAt_9 : decode cX6_characterAt 9 = .ok (.if_icmp .ge 16, 3) := by decide +kernel
theorem dX6_characterAt_12 : decode cX6_characterAt 12 = .ok (.iload_n 1, 1) := by decide +kernel
theorem dX6_characterAt_13 : decode cX6_characterAt 13 = .ok (.aload_n 0, 1) := by decide +kernel
theorem dX6_characterAt_14 : decode cX6_characterAt 14 = .ok (.getfield 9, 3) := by decide +kernel
theorem dX6_characterAt_17 : decode cX6_characterAt 17 = .ok (.arraylength, 1) := by decide +kernel
theorem dX6_characterAt_18 : decode cX6_characterAt 18 = .ok (.if_icmp .ge 7, 3) := by decide +kernel
theorem dX6_characterAt_21 : decode cX6_characterAt 21 = .ok (.iconst 1, 1) := by decide +kernel
theorem dX6_characterAt_22 : decode cX6_characterAt 22 = .ok (.goto 4, 3) := by decide +kernel
theorem dX6_characterAt_25 : decode cX6_characterAt 25 = .ok (.iconst 0, 1) := by decide +kernel
theorem dX6_characterAt_26 : decode cX6_characterAt 26 = .ok (.istore_n 2, 1) := by decide +kernel
theorem dX6_characterAt_27 : decode cX6_characterAt 27 = .ok (.iload_n 2, 1) := by decide +kernel
theorem dX6_characterAt_28 : decode cX6_characterAt 28 = .ok (.ifCond .eq 12, 3) := by decide +kernel
theorem dX6_characterAt_31 : decode cX6_characterAt 31 = .ok (.aload_n 0, 1) := by decide +kernel
theorem dX6_characterAt_32 : decode cX6_characterAt 32 = .ok (.getfield 9, 3) := by decide +kernel
theorem dX6_characterAt_35 : decode cX6_characterAt 35 = .ok (.iload_n 1, 1) := by decide +kernel
theorem dX6_characterAt_36 : decode cX6_characterAt 36 = .ok (.iaload, 1) := by decide +kernel
theorem dX6_characterAt_37 : decode cX6_characterAt 37 = .ok (.goto 4, 3) := by decide +kernel
theorem dX6_characterAt_40 : decode cX6_characterAt 40 = .ok (.iconst (-1), 1) := by decide +kernel
theorem dX6_characterAt_41 : decode cX6_characterAt 41 = .ok (.ireturn, 1) := by decide +kernel
set_option maxRecDepth 20000 in
theorem ggX7_init_X0_init : GoodIn wsX7_init wsX0_init := goodIn_r _ [31, 32, 2, 3, 33, 26, 27, 34, 35, 36, 37, 38, 39, 40, 41, 42, 43, 44, 45, 46, 47, 48, 49, 50, 51, 52, 53, 54, 55, 56, 57, 58, 59, 6, 60, 61, 62, 63, 64, 139, 140, 107, 108, 109, 110, 111, 112, 113, 114, 115, 116, 117, 118] (by decide +kernel) (by decide +kernel)
set_option maxRecDepth 20000 in
theorem gX7_init_X0_init : GoodIn wsX7_init (wsX0_init) := ggX7_init_X0_init
set_option maxRecDepth 20000 in
theorem ggX7_init_X1_init : GoodIn wsX7_init wsX1_init := goodIn_r _ [67, 68, 2, 3, 69, 70, 71, 5, 6, 72, 30, 31, 32, 33, 26, 27, 34, 35, 36, 37, 38, 39, 40, 41, 42, 43, 44, 45, 46, 47, 48, 49, 50, 51, 52, 53, 54, 55, 56, 57, 58, 59, 60, 61, 62, 63, 64, 126, 127, 107, 108, 109, 110, 111, 112, 113, 114, 115, 116, 117, 118, 139, 140] (by decide +kernel) (by decide +kernel)
set_option maxRecDepth 20000 in
theorem gX7_init_X1_init : GoodIn wsX7_init (wsX1_init) := ggX7_init_X1_init
set_option maxRecDepth 20000 in
theorem ggX7_init_X6_init : GoodIn wsX7_init wsX6_init := goodIn_r _ [74, 75, 2, 3, 54, 76, 77, 128, 129] (by decide +kernel) (by decide +kernel)
set_option maxRecDepth 20000 in
theorem gX7_init_X6_init_n28 : GoodIn wsX7_init (wsX6_init) := ggX7_init_X6_init
set_option maxRecDepth 20000 in
theorem ggX7_init_X4_init : GoodIn wsX7_init wsX4_init := goodIn_r _ [79, 80, 2, 3, 81, 82, 83, 84, 85, 86, 87, 88, 89, 90, 91, 92, 26, 27, 93, 94, 95, 96, 47, 48, 49, 50, 51, 52, 53, 54, 55, 56, 141, 142, 143, 130, 131, 132, 133, 134, 139, 140] (by decide +kernel) (by decide +kernel)
set_option maxRecDepth 20000 in
theorem gX7_init_X4_init_n35 : GoodIn wsX7_init (wsX4_init) := ggX7_init_X4_init
set_option maxRecDepth 20000 in
theorem ggX7_init_X3_init : GoodIn wsX7_init wsX3_init := goodIn_r _ [98, 99, 2, 3, 100, 26, 27, 101, 102, 103, 104, 105, 47, 48, 49, 50, 51, 52, 53, 54, 55, 56, 139, 140, 135, 136, 137, 138] (by decide +kernel) (by decide +kernel)
set_option maxRecDepth 20000 in
theorem gX7_init_X3_init_n42 : GoodIn wsX7_init (wsX3_init) := ggX7_init_X3_init
set_option maxRecDepth 20000 in
theorem ggX7_init_X5_init : GoodIn wsX7_init wsX5_init := goodIn_r _ [48, 49, 2, 3, 50, 51, 52, 53, 54, 55, 56, 139, 140] (by decide +kernel) (by decide +kernel)
set_option maxRecDepth 20000 in
theorem gX7_init_X5_init : GoodIn wsX7_init (wsX5_init) := ggX7_init_X5_init
theorem dX7_init_0 : decode cX7_init 0 = .ok (.aload_n 0, 1) := by decide +kernel
theorem dX7_init_1 : decode cX7_init 1 = .ok (.invokespecial 1, 3) := by decide +kernel
theorem dX7_init_4 : decode cX7_init 4 = .ok (.aload_n 0, 1) := by decide +kernel
theorem dX7_init_5 : decode cX7_init 5 = .ok (.new 7, 3) := by decide +kernel
theorem dX7_init_8 : decode cX7_init 8 = .ok (.dup, 1) := by decide +kernel
theorem dX7_init_9 : decode cX7_init 9 = .ok (.invokespecial 9, 3) := by decide +kernel
theorem dX7_init_12 : decode cX7_init 12 = .ok (.putfield 10, 3) := by decide +kernel
theorem dX7_init_15 : decode cX7_init 15 = .ok (.aload_n 0, 1) := by decide +kernel
theorem dX7_init_16 : decode cX7_init 16 = .ok (.new 7, 3) := by decide +kernel
theorem dX7_init_19 : decode cX7_init 19 = .ok (.dup, 1) := by decide +kernel
theorem dX7_init_20 : decode cX7_init 20 = .ok (.invokespecial 9, 3) := by decide +kernel
theorem dX7_init_23 : decode cX7_init 23 = .ok (.putfield 16, 3) := by decide +kernel
theorem dX7_init_26 : decode cX7_init 26 = .ok (.aload_n 0, 1) := by decide +kernel
theorem dX7_init_27 : decode cX7_init 27 = .ok (.new 19, 3) := by decide +kernel
theorem dX7_init_30 : decode cX7_init 30 = .ok (.dup, 1) := by decide +kernel
theorem dX7_init_31 : decode cX7_init 31 = .ok (.invokespecial 21, 3) := by decide +kernel
theorem dX7_init_34 : decode cX7_init 34 = .ok (.putfield 22, 3) := by decide +kernel
theorem dX7_init_37 : decode cX7_init 37 = .ok (.aload_n 0, 1) := by decide +kernel
theorem dX7_init_38 : decode cX7_init 38 = .ok (.new 26, 3) := by decide +kernel
theorem dX7_init_41 : decode cX7_init 41 = .ok (.dup, 1) := by decide +kernel
theorem dX7_init_42 : decode cX7_init 42 = .ok (.invokespecial 28, 3) := by decide +kernel
theorem dX7_init_45 : decode cX7_init 45 = .ok (.putfield 29, 3) := by decide +kernel
theorem dX7_init_48 : decode cX7_init 48 = .ok (.aload_n 0, 1) := by decide +kernel
theorem dX7_init_49 : decode cX7_init 49 = .ok (.new 33, 3) := by decide +kernel
theorem dX7_init_52 : decode cX7_init 52 = .ok (.dup, 1) := by decide +kernel
theorem dX7_init_53 : decode cX7_init 53 = .ok (.invokespecial 35, 3) := by decide +kernel
theorem dX7_init_56 : decode cX7_init 56 = .ok (.putfield 36, 3) := by decide +kernel
theorem dX7_init_59 : decode cX7_init 59 = .ok (.aload_n 0, 1) := by decide +kernel
theorem dX7_init_60 : decode cX7_init 60 = .ok (.new 40, 3) := by decide +kernel
theorem dX7_init_63 : decode cX7_init 63 = .ok (.dup, 1) := by decide +kernel
theorem dX7_init_64 : decode cX7_init 64 = .ok (.invokespecial 42, 3) := by decide +kernel
theorem dX7_init_67 : decode cX7_init 67 = .ok (.putfield 43, 3) := by decide +kernel
theorem dX7_init_70 : decode cX7_init 70 = .ok (.aload_n 0, 1) := by decide +kernel
theorem dX7_init_71 : decode cX7_init 71 = .ok (.new 47, 3) := by decide +kernel
theorem dX7_init_74 : decode cX7_init 74 = .ok (.dup, 1) := by decide +kernel
theorem dX7_init_75 : decode cX7_init 75 = .ok (.iconst 1, 1) := by decide +kernel
theorem dX7_init_76 : decode cX7_init 76 = .ok (.bipush 9, 2) := by decide +kernel
theorem dX7_init_78 : decode cX7_init 78 = .ok (.invokespecial 49, 3) := by decide +kernel
theorem dX7_init_81 : decode cX7_init 81 = .ok (.putfield 52, 3) := by decide +kernel
theorem dX7_init_84 : decode cX7_init 84 = .ok (.return_, 1) := by decide +kernel
set_option maxRecDepth 20000 in
theorem ggX7_card_X0_copyFrom : GoodIn wsX7_card wsX0_copyFrom := goodIn_r _ [7, 8, 9, 10, 11, 12, 13, 14, 15, 16, 17, 18, 19, 20, 21, 22, 23, 24, 25, 26, 27, 28, 29, 30, 31, 32, 33, 79, 80, 81, 82, 83, 84, 85, 86, 87, 88, 89, 90, 91, 92] (by decide +kernel) (by decide +kernel)
set_option maxRecDepth 20000 in
theorem gX7_card_X0_copyFrom : GoodIn wsX7_card (wsV RX7 56 RX0 yX0_copyFrom wsX0_copyFrom) := goodIn_app (goodIn_of _ (by decide +kernel)) ggX7_card_X0_copyFrom
set_option maxRecDepth 20000 in
theorem ggX7_card_X0_addCard : GoodIn wsX7_card wsX0_addCard := goodIn_r _ [37, 38, 12, 39, 8, 40, 41, 6, 42, 43, 44, 45, 46, 47, 48, 49, 50, 51, 52, 23, 53, 54, 25, 79, 80, 81, 82, 83, 84, 85, 86, 87, 88, 89, 90, 91, 92] (by decide +kernel) (by decide +kernel)
set_option maxRecDepth 20000 in
theorem gX7_card_X0_addCard : GoodIn wsX7_card (wsV RX7 60 RX0 yX0_addCard wsX0_addCard) := goodIn_app (goodIn_of _ (by decide +kernel)) ggX7_card_X0_addCard
set_option maxRecDepth 20000 in
theorem ggX7_card_X7_settle : GoodIn wsX7_card wsX7_settle := goodIn_r _ [58, 59, 2, 1, 60, 61, 62, 63, 64, 65, 66, 67, 68, 69, 70, 71, 4, 5, 6, 7, 8, 9, 10, 11, 12, 13, 14, 15, 16, 17, 18, 19, 20, 21, 22, 23, 24, 25, 26, 27, 28, 29, 30, 31, 32, 33, 3, 72, 73, 74, 75, 76, 77, 78, 93, 94, 79, 80, 81, 82, 83, 84, 85, 86, 87, 88, 89, 90, 91, 92] (by decide +kernel) (by decide +kernel)
set_option maxRecDepth 20000 in
theorem gX7_card_X7_settle : GoodIn wsX7_card (wsV RX7 64 RX7 yX7_settle wsX7_settle) := goodIn_app (goodIn_of _ (by decide +kernel)) ggX7_card_X7_settle
theorem dX7_card_0 : decode cX7_card 0 = .ok (.aload_n 0, 1) := by decide +kernel
theorem dX7_card_1 : decode cX7_card 1 = .ok (.getfield 16, 3) := by decide +kernel
theorem dX7_card_4 : decode cX7_card 4 = .ok (.aload_n 0, 1) := by decide +kernel
theorem dX7_card_5 : decode cX7_card 5 = .ok (.getfield 10, 3) := by decide +kernel
theorem dX7_card_8 : decode cX7_card 8 = .ok (.invokevirtual 56, 3) := by decide +kernel
theorem dX7_card_11 : decode cX7_card 11 = .ok (.aload_n 0, 1) := by decide +kernel
theorem dX7_card_12 : decode cX7_card 12 = .ok (.aload_n 0, 1) := by decide +kernel
theorem dX7_card_13 : decode cX7_card 13 = .ok (.getfield 16, 3) := by decide +kernel
theorem dX7_card_16 : decode cX7_card 16 = .ok (.iload_n 1, 1) := by decide +kernel
theorem dX7_card_17 : decode cX7_card 17 = .ok (.iload_n 2, 1) := by decide +kernel
theorem dX7_card_18 : decode cX7_card 18 = .ok (.iload_n 3, 1) := by decide +kernel
theorem dX7_card_19 : decode cX7_card 19 = .ok (.iload 4, 2) := by decide +kernel
theorem dX7_card_21 : decode cX7_card 21 = .ok (.iload 5, 2) := by decide +kernel
theorem dX7_card_23 : decode cX7_card 23 = .ok (.iload 6, 2) := by decide +kernel
theorem dX7_card_25 : decode cX7_card 25 = .ok (.invokevirtual 60, 3) := by decide +kernel
theorem dX7_card_28 : decode cX7_card 28 = .ok (.invokevirtual 64, 3) := by decide +kernel
theorem dX7_card_31 : decode cX7_card 31 = .ok (.ireturn, 1) := by decide +kernel
set_option maxRecDepth 20000 in
theorem ggX7_weather_X0_copyFrom : GoodIn wsX7_weather wsX0_copyFrom := goodIn_r _ [7, 8, 9, 10, 11, 12, 13, 14, 15, 16, 17, 18, 19, 20, 21, 22, 23, 24, 25, 26, 27, 28, 29, 30, 31, 32, 33, 97, 98, 99, 100, 101, 102, 103, 104, 105, 106, 107, 108, 109, 110] (by decide +kernel) (by decide +kernel)
set_option maxRecDepth 20000 in
theorem gX7_weather_X0_copyFrom : GoodIn wsX7_weather (wsV RX7 56 RX0 yX0_copyFrom wsX0_copyFrom) := goodIn_app (goodIn_of _ (by decide +kernel)) ggX7_weather_X0_copyFrom
set_option maxRecDepth 20000 in
theorem ggX7_weather_X0_tellWeather : GoodIn wsX7_weather wsX0_tellWeather := goodIn_r _ [37, 38, 39, 40, 41, 42, 43, 6, 44, 45, 46, 47, 48, 9, 49, 50, 51, 23, 52, 53, 25, 54, 55, 56, 57, 12, 58, 59, 60, 61, 8, 62, 63, 64, 65, 66, 67, 68, 69, 70, 71, 72, 97, 98, 99, 100, 101, 102, 103, 104, 105, 106, 107, 108, 109, 110] (by decide +kernel) (by decide +kernel)
set_option maxRecDepth 20000 in
theorem gX7_weather_X0_tellWeather : GoodIn wsX7_weather (wsV RX7 68 RX0 yX0_tellWeather wsX0_tellWeather) := goodIn_app (goodIn_of _ (by decide +kernel)) ggX7_weather_X0_tellWeather
set_option maxRecDepth 20000 in
theorem ggX7_weather_X7_settle : GoodIn wsX7_weather wsX7_settle := goodIn_r _ [76, 77, 2, 1, 78, 79, 80, 81, 82, 83, 84, 85, 86, 87, 88, 89, 4, 5, 6, 7, 8, 9, 10, 11, 12, 13, 14, 15, 16, 17, 18, 19, 20, 21, 22, 23, 24, 25, 26, 27, 28, 29, 30, 31, 32, 33, 3, 90, 91, 92, 93, 94, 95, 96, 111, 112, 97, 98, 99, 100, 101, 102, 103, 104, 105, 106, 107, 108, 109, 110] (by decide +kernel) (by decide +kernel)
set_option maxRecDepth 20000 in
theorem gX7_weather_X7_settle : GoodIn wsX7_weather (wsV RX7 64 RX7 yX7_settle wsX7_settle) := goodIn_app (goodIn_of _ (by decide +kernel)) ggX7_weather_X7_settle
theorem dX7_weather_0 : decode cX7_weather 0 = .ok (.aload_n 0, 1) := by decide +kernel
theorem dX7_weather_1 : decode cX7_weather 1 = .ok (.getfield 16, 3) := by decide +kernel
theorem dX7_weather_4 : decode cX7_weather 4 = .ok (.aload_n 0, 1) := by decide +kernel
theorem dX7_weather_5 : decode cX7_weather 5 = .ok (.getfield 10, 3) := by decide +kernel
theorem dX7_weather_8 : decode cX7_weather 8 = .ok (.invokevirtual 56, 3) := by decide +kernel
theorem dX7_weather_11 : decode cX7_weather 11 = .ok (.aload_n 0, 1) := by decide +kernel
theorem dX7_weather_12 : decode cX7_weather 12 = .ok (.aload_n 0, 1) := by decide +kernel
theorem dX7_weather_13 : decode cX7_weather 13 = .ok (.getfield 16, 3) := by decide +kernel
theorem dX7_weather_16 : decode cX7_weather 16 = .ok (.iload_n 1, 1) := by decide +kernel
theorem dX7_weather_17 : decode cX7_weather 17 = .ok (.iload_n 2, 1) := by decide +kernel
theorem dX7_weather_18 : decode cX7_weather 18 = .ok (.iload_n 3, 1) := by decide +kernel
theorem dX7_weather_19 : decode cX7_weather 19 = .ok (.iload 4, 2) := by decide +kernel
theorem dX7_weather_21 : decode cX7_weather 21 = .ok (.invokevirtual 68, 3) := by decide +kernel
theorem dX7_weather_24 : decode cX7_weather 24 = .ok (.invokevirtual 64, 3) := by decide +kernel
theorem dX7_weather_27 : decode cX7_weather 27 = .ok (.ireturn, 1) := by decide +kernel
set_option maxRecDepth 20000 in
theorem ggX7_fly_X0_copyFrom : GoodIn wsX7_fly wsX0_copyFrom := goodIn_r _ [7, 8, 9, 10, 11, 12, 13, 14, 15, 16, 17, 18, 19, 20, 21, 22, 23, 24, 25, 26, 27, 28, 29, 30, 31, 32, 33, 107, 108, 109, 110, 111, 112, 113, 114, 115, 116, 117, 118, 119, 120] (by decide +kernel) (by decide +kernel)
set_option maxRecDepth 20000 in
theorem gX7_fly_X0_copyFrom : GoodIn wsX7_fly (wsV RX7 56 RX0 yX0_copyFrom wsX0_copyFrom) := goodIn_app (goodIn_of _ (by decide +kernel)) ggX7_fly_X0_copyFrom
set_option maxRecDepth 20000 in
theorem ggX7_fly_X0_flyCard : GoodIn wsX7_fly wsX0_flyCard := goodIn_r _ [37, 38, 39, 14, 40, 41, 42, 6, 43, 12, 44, 45, 46, 47, 48, 49, 50, 8, 13, 51, 52, 53, 54, 55, 56, 57, 23, 58, 59, 25, 60, 61, 62, 63, 9, 64, 65, 66, 67, 15, 16, 11, 68, 69, 70, 71, 72, 73, 74, 17, 19, 18, 75, 76, 77, 78, 10, 79, 80, 81, 82, 107, 108, 109, 110, 111, 112, 113, 114, 115, 116, 117, 118, 119, 120] (by decide +kernel) (by decide +kernel)
set_option maxRecDepth 20000 in
theorem gX7_fly_X0_flyCard : GoodIn wsX7_fly (wsV RX7 72 RX0 yX0_flyCard wsX0_flyCard) := goodIn_app (goodIn_of _ (by decide +kernel)) ggX7_fly_X0_flyCard
set_option maxRecDepth 20000 in
theorem ggX7_fly_X7_settle : GoodIn wsX7_fly wsX7_settle := goodIn_r _ [86, 87, 2, 1, 88, 89, 90, 91, 92, 93, 94, 95, 96, 97, 98, 99, 4, 5, 6, 7, 8, 9, 10, 11, 12, 13, 14, 15, 16, 17, 18, 19, 20, 21, 22, 23, 24, 25, 26, 27, 28, 29, 30, 31, 32, 33, 3, 100, 101, 102, 103, 104, 105, 106, 121, 122, 107, 108, 109, 110, 111, 112, 113, 114, 115, 116, 117, 118, 119, 120] (by decide +kernel) (by decide +kernel)
set_option maxRecDepth 20000 in
theorem gX7_fly_X7_settle : GoodIn wsX7_fly (wsV RX7 64 RX7 yX7_settle wsX7_settle) := goodIn_app (goodIn_of _ (by decide +kernel)) ggX7_fly_X7_settle
theorem dX7_fly_0 : decode cX7_fly 0 = .ok (.aload_n 0, 1) := by decide +kernel
theorem dX7_fly_1 : decode cX7_fly 1 = .ok (.getfield 16, 3) := by decide +kernel
theorem dX7_fly_4 : decode cX7_fly 4 = .ok (.aload_n 0, 1) := by decide +kernel
theorem dX7_fly_5 : decode cX7_fly 5 = .ok (.getfield 10, 3) := by decide +kernel
theorem dX7_fly_8 : decode cX7_fly 8 = .ok (.invokevirtual 56, 3) := by decide +kernel
theorem dX7_fly_11 : decode cX7_fly 11 = .ok (.aload_n 0, 1) := by decide +kernel
theorem dX7_fly_12 : decode cX7_fly 12 = .ok (.aload_n 0, 1) := by decide +kernel
theorem dX7_fly_13 : decode cX7_fly 13 = .ok (.getfield 16, 3) := by decide +kernel
theorem dX7_fly_16 : decode cX7_fly 16 = .ok (.iload_n 1, 1) := by decide +kernel
theorem dX7_fly_17 : decode cX7_fly 17 = .ok (.iload_n 2, 1) := by decide +kernel
theorem dX7_fly_18 : decode cX7_fly 18 = .ok (.invokevirtual 72, 3) := by decide +kernel
theorem dX7_fly_21 : decode cX7_fly 21 = .ok (.invokevirtual 64, 3) := by decide +kernel
theorem dX7_fly_24 : decode cX7_fly 24 = .ok (.ireturn, 1) := by decide +kernel
set_option maxRecDepth 20000 in
theorem ggX7_waive_X0_copyFrom : GoodIn wsX7_waive wsX0_copyFrom := goodIn_r _ [7, 8, 9, 10, 11, 12, 13, 14, 15, 16, 17, 18, 19, 20, 21, 22, 23, 24, 25, 26, 27, 28, 29, 30, 31, 32, 33, 82, 83, 84, 85, 86, 87, 88, 89, 90, 91, 92, 93, 94, 95] (by decide +kernel) (by decide +kernel)
set_option maxRecDepth 20000 in
theorem gX7_waive_X0_copyFrom : GoodIn wsX7_waive (wsV RX7 56 RX0 yX0_copyFrom wsX0_copyFrom) := goodIn_app (goodIn_of _ (by decide +kernel)) ggX7_waive_X0_copyFrom
set_option maxRecDepth 20000 in
theorem ggX7_waive_X0_waiveCard : GoodIn wsX7_waive wsX0_waiveCard := goodIn_r _ [37, 38, 39, 8, 40, 41, 42, 6, 43, 12, 44, 45, 46, 47, 48, 49, 50, 23, 51, 52, 25, 53, 54, 55, 56, 82, 83, 84, 85, 86, 87, 88, 89, 90, 91, 92, 93, 94, 95] (by decide +kernel) (by decide +kernel)
set_option maxRecDepth 20000 in
theorem gX7_waive_X0_waiveCard : GoodIn wsX7_waive (wsV RX7 76 RX0 yX0_waiveCard wsX0_waiveCard) := goodIn_app (goodIn_of _ (by decide +kernel)) ggX7_waive_X0_waiveCard
set_option maxRecDepth 20000 in
theorem ggX7_waive_X7_settle : GoodIn wsX7_waive wsX7_settle := goodIn_r _ [61, 62, 2, 1, 63, 64, 65, 66, 67, 68, 69, 70, 71, 72, 73, 74, 4, 5, 6, 7, 8, 9, 10, 11, 12, 13, 14, 15, 16, 17, 18, 19, 20, 21, 22, 23, 24, 25, 26, 27, 28, 29, 30, 31, 32, 33, 3, 75, 76, 77, 78, 79, 80, 81, 96, 97, 82, 83, 84, 85, 86, 87, 88, 89, 90, 91, 92, 93, 94, 95] (by decide +kernel) (by decide +kernel)
set_option maxRecDepth 20000 in
theorem gX7_waive_X7_settle : GoodIn wsX7_waive (wsV RX7 64 RX7 yX7_settle wsX7_settle) := goodIn_app (goodIn_of _ (by decide +kernel)) ggX7_waive_X7_settle
theorem dX7_waive_0 : decode cX7_waive 0 = .ok (.aload_n 0, 1) := by decide +kernel
theorem dX7_waive_1 : decode cX7_waive 1 = .ok (.getfield 16, 3) := by decide +kernel
theorem dX7_waive_4 : decode cX7_waive 4 = .ok (.aload_n 0, 1) := by decide +kernel
theorem dX7_waive_5 : decode cX7_waive 5 = .ok (.getfield 10, 3) := by decide +kernel
theorem dX7_waive_8 : decode cX7_waive 8 = .ok (.invokevirtual 56, 3) := by decide +kernel
theorem dX7_waive_11 : decode cX7_waive 11 = .ok (.aload_n 0, 1) := by decide +kernel
theorem dX7_waive_12 : decode cX7_waive 12 = .ok (.aload_n 0, 1) := by decide +kernel
theorem dX7_waive_13 : decode cX7_waive 13 = .ok (.getfield 16, 3) := by decide +kernel
theorem dX7_waive_16 : decode cX7_waive 16 = .ok (.iload_n 1, 1) := by decide +kernel
theorem dX7_waive_17 : decode cX7_waive 17 = .ok (.invokevirtual 76, 3) := by decide +kernel
theorem dX7_waive_20 : decode cX7_waive 20 = .ok (.invokevirtual 64, 3) := by decide +kernel
theorem dX7_waive_23 : decode cX7_waive 23 = .ok (.ireturn, 1) := by decide +kernel
set_option maxRecDepth 20000 in
theorem ggX7_reopen_X0_copyFrom : GoodIn wsX7_reopen wsX0_copyFrom := goodIn_r _ [7, 8, 9, 10, 11, 12, 13, 14, 15, 16, 17, 18, 19, 20, 21, 22, 23, 24, 25, 26, 27, 28, 29, 30, 31, 32, 33, 97, 98, 99, 100, 101, 102, 103, 104, 105, 106, 107, 108, 109, 110] (by decide +kernel) (by decide +kernel)
set_option maxRecDepth 20000 in
theorem gX7_reopen_X0_copyFrom : GoodIn wsX7_reopen (wsV RX7 56 RX0 yX0_copyFrom wsX0_copyFrom) := goodIn_app (goodIn_of _ (by decide +kernel)) ggX7_reopen_X0_copyFrom
set_option maxRecDepth 20000 in
theorem ggX7_reopen_X0_reopenCard : GoodIn wsX7_reopen wsX0_reopenCard := goodIn_r _ [37, 38, 39, 12, 8, 40, 41, 42, 6, 43, 44, 45, 46, 47, 48, 49, 50, 23, 51, 52, 25, 53, 54, 55, 56, 57, 58, 59, 60, 61, 62, 63, 64, 65, 66, 67, 68, 69, 70, 71, 97, 98, 99, 100, 101, 102, 103, 104, 105, 106, 107, 108, 109, 110] (by decide +kernel) (by decide +kernel)
set_option maxRecDepth 20000 in
theorem gX7_reopen_X0_reopenCard : GoodIn wsX7_reopen (wsV RX7 79 RX0 yX0_reopenCard wsX0_reopenCard) := goodIn_app (goodIn_of _ (by decide +kernel)) ggX7_reopen_X0_reopenCard
set_option maxRecDepth 20000 in
theorem ggX7_reopen_X7_settle : GoodIn wsX7_reopen wsX7_settle := goodIn_r _ [76, 77, 2, 1, 78, 79, 80, 81, 82, 83, 84, 85, 86, 87, 88, 89, 4, 5, 6, 7, 8, 9, 10, 11, 12, 13, 14, 15, 16, 17, 18, 19, 20, 21, 22, 23, 24, 25, 26, 27, 28, 29, 30, 31, 32, 33, 3, 90, 91, 92, 93, 94, 95, 96, 111, 112, 97, 98, 99, 100, 101, 102, 103, 104, 105, 106, 107, 108, 109, 110] (by decide +kernel) (by decide +kernel)
set_option maxRecDepth 20000 in
theorem gX7_reopen_X7_settle : GoodIn wsX7_reopen (wsV RX7 64 RX7 yX7_settle wsX7_settle) := goodIn_app (goodIn_of _ (by decide +kernel)) ggX7_reopen_X7_settle
theorem dX7_reopen_0 : decode cX7_reopen 0 = .ok (.aload_n 0, 1) := by decide +kernel
theorem dX7_reopen_1 : decode cX7_reopen 1 = .ok (.getfield 16, 3) := by decide +kernel
theorem dX7_reopen_4 : decode cX7_reopen 4 = .ok (.aload_n 0, 1) := by decide +kernel
theorem dX7_reopen_5 : decode cX7_reopen 5 = .ok (.getfield 10, 3) := by decide +kernel
theorem dX7_reopen_8 : decode cX7_reopen 8 = .ok (.invokevirtual 56, 3) := by decide +kernel
theorem dX7_reopen_11 : decode cX7_reopen 11 = .ok (.aload_n 0, 1) := by decide +kernel
theorem dX7_reopen_12 : decode cX7_reopen 12 = .ok (.aload_n 0, 1) := by decide +kernel
theorem dX7_reopen_13 : decode cX7_reopen 13 = .ok (.getfield 16, 3) := by decide +kernel
theorem dX7_reopen_16 : decode cX7_reopen 16 = .ok (.iload_n 1, 1) := by decide +kernel
theorem dX7_reopen_17 : decode cX7_reopen 17 = .ok (.invokevirtual 79, 3) := by decide +kernel
theorem dX7_reopen_20 : decode cX7_reopen 20 = .ok (.invokevirtual 64, 3) := by decide +kernel
theorem dX7_reopen_23 : decode cX7_reopen 23 = .ok (.ireturn, 1) := by decide +kernel
set_option maxRecDepth 20000 in
theorem ggX7_pass_X0_copyFrom : GoodIn wsX7_pass wsX0_copyFrom := goodIn_r _ [7, 8, 9, 10, 11, 12, 13, 14, 15, 16, 17, 18, 19, 20, 21, 22, 23, 24, 25, 26, 27, 28, 29, 30, 31, 32, 33, 74, 75, 76, 77, 78, 79, 80, 81, 82, 83, 84, 85, 86, 87] (by decide +kernel) (by decide +kernel)
set_option maxRecDepth 20000 in
theorem gX7_pass_X0_copyFrom : GoodIn wsX7_pass (wsV RX7 56 RX0 yX0_copyFrom wsX0_copyFrom) := goodIn_app (goodIn_of _ (by decide +kernel)) ggX7_pass_X0_copyFrom
set_option maxRecDepth 20000 in
theorem ggX7_pass_X0_passDays : GoodIn wsX7_pass wsX0_passDays := goodIn_r _ [37, 38, 13, 39, 40, 41, 42, 43, 44, 45, 6, 46, 16, 14, 15, 47, 48, 49, 74, 75, 76, 77, 78, 79, 80, 81, 82, 83, 84, 85] (by decide +kernel) (by decide +kernel)
set_option maxRecDepth 20000 in
theorem gX7_pass_X0_passDays : GoodIn wsX7_pass (wsV RX7 82 RX0 yX0_passDays wsX0_passDays) := goodIn_app (goodIn_of _ (by decide +kernel)) ggX7_pass_X0_passDays
set_option maxRecDepth 20000 in
theorem ggX7_pass_X7_settle : GoodIn wsX7_pass wsX7_settle := goodIn_r _ [53, 54, 2, 1, 55, 56, 57, 58, 59, 60, 61, 62, 63, 64, 65, 66, 4, 5, 6, 7, 8, 9, 10, 11, 12, 13, 14, 15, 16, 17, 18, 19, 20, 21, 22, 23, 24, 25, 26, 27, 28, 29, 30, 31, 32, 33, 3, 67, 68, 69, 70, 71, 72, 73, 88, 89, 74, 75, 76, 77, 78, 79, 80, 81, 82, 83, 84, 85, 86, 87] (by decide +kernel) (by decide +kernel)
set_option maxRecDepth 20000 in
theorem gX7_pass_X7_settle : GoodIn wsX7_pass (wsV RX7 64 RX7 yX7_settle wsX7_settle) := goodIn_app (goodIn_of _ (by decide +kernel)) ggX7_pass_X7_settle
theorem dX7_pass_0 : decode cX7_pass 0 = .ok (.aload_n 0, 1) := by decide +kernel
theorem dX7_pass_1 : decode cX7_pass 1 = .ok (.getfield 16, 3) := by decide +kernel
theorem dX7_pass_4 : decode cX7_pass 4 = .ok (.aload_n 0, 1) := by decide +kernel
theorem dX7_pass_5 : decode cX7_pass 5 = .ok (.getfield 10, 3) := by decide +kernel
theorem dX7_pass_8 : decode cX7_pass 8 = .ok (.invokevirtual 56, 3) := by decide +kernel
theorem dX7_pass_11 : decode cX7_pass 11 = .ok (.aload_n 0, 1) := by decide +kernel
theorem dX7_pass_12 : decode cX7_pass 12 = .ok (.aload_n 0, 1) := by decide +kernel
theorem dX7_pass_13 : decode cX7_pass 13 = .ok (.getfield 16, 3) := by decide +kernel
theorem dX7_pass_16 : decode cX7_pass 16 = .ok (.iload_n 1, 1) := by decide +kernel
theorem dX7_pass_17 : decode cX7_pass 17 = .ok (.invokevirtual 82, 3) := by decide +kernel
theorem dX7_pass_20 : decode cX7_pass 20 = .ok (.invokevirtual 64, 3) := by decide +kernel
theorem dX7_pass_23 : decode cX7_pass 23 = .ok (.ireturn, 1) := by decide +kernel
set_option maxRecDepth 20000 in
theorem ggX7_set_X0_copyFrom : GoodIn wsX7_set wsX0_copyFrom := goodIn_r _ [7, 8, 9, 10, 11, 12, 13, 14, 15, 16, 17, 18, 19, 20, 21, 22, 23, 24, 25, 26, 27, 28, 29, 30, 31, 32, 33, 75, 76, 77, 78, 79, 80, 81, 82, 83, 84, 85, 86, 87, 88] (by decide +kernel) (by decide +kernel)
set_option maxRecDepth 20000 in
theorem gX7_set_X0_copyFrom : GoodIn wsX7_set (wsV RX7 56 RX0 yX0_copyFrom wsX0_copyFrom) := goodIn_app (goodIn_of _ (by decide +kernel)) ggX7_set_X0_copyFrom
set_option maxRecDepth 20000 in
theorem ggX7_set_X0_changeSetting : GoodIn wsX7_set wsX0_changeSetting := goodIn_r _ [37, 38, 11, 39, 40, 41, 42, 43, 44, 23, 45, 46, 25, 47, 48, 49, 50, 75, 76, 77, 78, 79, 80, 81, 82, 83, 84, 85, 86, 87, 88] (by decide +kernel) (by decide +kernel)
set_option maxRecDepth 20000 in
theorem gX7_set_X0_changeSetting : GoodIn wsX7_set (wsV RX7 85 RX0 yX0_changeSetting wsX0_changeSetting) := goodIn_app (goodIn_of _ (by decide +kernel)) ggX7_set_X0_changeSetting
set_option maxRecDepth 20000 in
theorem ggX7_set_X7_settle : GoodIn wsX7_set wsX7_settle := goodIn_r _ [54, 55, 2, 1, 56, 57, 58, 59, 60, 61, 62, 63, 64, 65, 66, 67, 4, 5, 6, 7, 8, 9, 10, 11, 12, 13, 14, 15, 16, 17, 18, 19, 20, 21, 22, 23, 24, 25, 26, 27, 28, 29, 30, 31, 32, 33, 3, 68, 69, 70, 71, 72, 73, 74, 89, 90, 75, 76, 77, 78, 79, 80, 81, 82, 83, 84, 85, 86, 87, 88] (by decide +kernel) (by decide +kernel)
set_option maxRecDepth 20000 in
theorem gX7_set_X7_settle : GoodIn wsX7_set (wsV RX7 64 RX7 yX7_settle wsX7_settle) := goodIn_app (goodIn_of _ (by decide +kernel)) ggX7_set_X7_settle
theorem dX7_set_0 : decode cX7_set 0 = .ok (.aload_n 0, 1) := by decide +kernel
theorem dX7_set_1 : decode cX7_set 1 = .ok (.getfield 16, 3) := by decide +kernel
theorem dX7_set_4 : decode cX7_set 4 = .ok (.aload_n 0, 1) := by decide +kernel
theorem dX7_set_5 : decode cX7_set 5 = .ok (.getfield 10, 3) := by decide +kernel
theorem dX7_set_8 : decode cX7_set 8 = .ok (.invokevirtual 56, 3) := by decide +kernel
theorem dX7_set_11 : decode cX7_set 11 = .ok (.aload_n 0, 1) := by decide +kernel
theorem dX7_set_12 : decode cX7_set 12 = .ok (.aload_n 0, 1) := by decide +kernel
theorem dX7_set_13 : decode cX7_set 13 = .ok (.getfield 16, 3) := by decide +kernel
theorem dX7_set_16 : decode cX7_set 16 = .ok (.iload_n 1, 1) := by decide +kernel
theorem dX7_set_17 : decode cX7_set 17 = .ok (.iload_n 2, 1) := by decide +kernel
theorem dX7_set_18 : decode cX7_set 18 = .ok (.invokevirtual 85, 3) := by decide +kernel
theorem dX7_set_21 : decode cX7_set 21 = .ok (.invokevirtual 64, 3) := by decide +kernel
theorem dX7_set_24 : decode cX7_set 24 = .ok (.ireturn, 1) := by decide +kernel
set_option maxRecDepth 20000 in
theorem ggX7_why_X0_hasCard : GoodIn wsX7_why wsX0_hasCard := goodIn_r _ [7, 8, 53, 54, 55, 56, 57, 58, 59, 60, 61, 62, 63, 64] (by decide +kernel) (by decide +kernel)
set_option maxRecDepth 20000 in
theorem gX7_why_X0_hasCard : GoodIn wsX7_why (wsV RX7 88 RX0 yX0_hasCard wsX0_hasCard) := goodIn_app (goodIn_of _ (by decide +kernel)) ggX7_why_X0_hasCard
set_option maxRecDepth 20000 in
theorem ggX7_why_X7_within : GoodIn wsX7_why wsX7_within := goodIn_r _ [12] (by decide +kernel) (by decide +kernel)
set_option maxRecDepth 20000 in
theorem gX7_why_X7_within : GoodIn wsX7_why (va_wsS RX7 92 yX7_within wsX7_within) := goodIn_app (goodIn_of _ (by decide +kernel)) ggX7_why_X7_within
set_option maxRecDepth 20000 in
theorem ggX7_why_X0_reasonAgainst : GoodIn wsX7_why wsX0_reasonAgainst := goodIn_r _ [16, 17, 18, 19, 20, 21, 6, 22, 23, 24, 25, 26, 27, 28, 29, 30, 31, 32, 33, 34, 35, 36, 37, 38, 39, 40, 41, 42, 43, 44, 45, 53, 54, 55, 56, 57, 58, 59, 60, 61, 62, 63, 64, 65, 66] (by decide +kernel) (by decide +kernel)
set_option maxRecDepth 20000 in
theorem gX7_why_X0_reasonAgainst : GoodIn wsX7_why (wsV RX7 97 RX0 yX0_reasonAgainst wsX0_reasonAgainst) := goodIn_app (goodIn_of _ (by decide +kernel)) ggX7_why_X0_reasonAgainst
theorem dX7_why_0 : decode cX7_why 0 = .ok (.aload_n 0, 1) := by decide +kernel
theorem dX7_why_1 : decode cX7_why 1 = .ok (.getfield 10, 3) := by decide +kernel
theorem dX7_why_4 : decode cX7_why 4 = .ok (.iload_n 1, 1) := by decide +kernel
theorem dX7_why_5 : decode cX7_why 5 = .ok (.invokevirtual 88, 3) := by decide +kernel
theorem dX7_why_8 : decode cX7_why 8 = .ok (.ifCond .eq 13, 3) := by decide +kernel
theorem dX7_why_11 : decode cX7_why 11 = .ok (.iload_n 2, 1) := by decide +kernel
theorem dX7_why_12 : decode cX7_why 12 = .ok (.iconst 0, 1) := by decide +kernel
theorem dX7_why_13 : decode cX7_why 13 = .ok (.bipush 99, 2) := by decide +kernel
theorem dX7_why_15 : decode cX7_why 15 = .ok (.invokestatic 92, 3) := by decide +kernel
theorem dX7_why_18 : decode cX7_why 18 = .ok (.ifCond .ne 6, 3) := by decide +kernel
theorem dX7_why_21 : decode cX7_why 21 = .ok (.ldc 96, 2) := by decide +kernel
theorem dX7_why_23 : decode cX7_why 23 = .ok (.ireturn, 1) := by decide +kernel
theorem dX7_why_24 : decode cX7_why 24 = .ok (.aload_n 0, 1) := by decide +kernel
theorem dX7_why_25 : decode cX7_why 25 = .ok (.getfield 10, 3) := by decide +kernel
theorem dX7_why_28 : decode cX7_why 28 = .ok (.iload_n 1, 1) := by decide +kernel
theorem dX7_why_29 : decode cX7_why 29 = .ok (.iload_n 2, 1) := by decide +kernel
theorem dX7_why_30 : decode cX7_why 30 = .ok (.invokevirtual 97, 3) := by decide +kernel
theorem dX7_why_33 : decode cX7_why 33 = .ok (.ireturn, 1) := by decide +kernel
set_option maxRecDepth 20000 in
theorem ggX7_cardOf_X0_hasCard : GoodIn wsX7_cardOf wsX0_hasCard := goodIn_r _ [8, 9, 45, 46, 47, 48, 49, 50, 51, 52, 53, 54, 55, 56] (by decide +kernel) (by decide +kernel)
set_option maxRecDepth 20000 in
theorem gX7_cardOf_X0_hasCard : GoodIn wsX7_cardOf (wsV RX7 88 RX0 yX0_hasCard wsX0_hasCard) := goodIn_app (goodIn_of _ (by decide +kernel)) ggX7_cardOf_X0_hasCard
set_option maxRecDepth 20000 in
theorem ggX7_cardOf_X7_within : GoodIn wsX7_cardOf wsX7_within := goodIn_r _ [13] (by decide +kernel) (by decide +kernel)
set_option maxRecDepth 20000 in
theorem gX7_cardOf_X7_within : GoodIn wsX7_cardOf (va_wsS RX7 92 yX7_within wsX7_within) := goodIn_app (goodIn_of _ (by decide +kernel)) ggX7_cardOf_X7_within
set_option maxRecDepth 20000 in
theorem ggX7_cardOf_X0_followersOf : GoodIn wsX7_cardOf wsX0_followersOf := goodIn_r _ [17, 9, 18, 19, 20, 21, 22, 23, 24, 25, 45, 46, 47, 48, 49, 50, 51, 52, 53, 54, 55, 56, 57, 58] (by decide +kernel) (by decide +kernel)
set_option maxRecDepth 20000 in
theorem gX7_cardOf_X0_followersOf : GoodIn wsX7_cardOf (wsV RX7 100 RX0 yX0_followersOf wsX0_followersOf) := goodIn_app (goodIn_of _ (by decide +kernel)) ggX7_cardOf_X0_followersOf
set_option maxRecDepth 20000 in
theorem ggX7_cardOf_J6_bitCount_0f7a4 : GoodIn wsX7_cardOf wsJ6_bitCount_0f7a4 := goodIn_r _ [29, 30, 31, 32] (by decide +kernel) (by decide +kernel)
set_option maxRecDepth 20000 in
theorem gX7_cardOf_J6_bitCount_0f7a4 : GoodIn wsX7_cardOf (va_wsS RX7 103 yJ6_bitCount_0f7a4 wsJ6_bitCount_0f7a4) := goodIn_app (goodIn_of _ (by decide +kernel)) ggX7_cardOf_J6_bitCount_0f7a4
set_option maxRecDepth 20000 in
theorem ggX7_cardOf_X0_stepsAheadOf : GoodIn wsX7_cardOf wsX0_stepsAheadOf := goodIn_r _ [36, 18, 19, 20, 21, 22, 23, 24, 25, 45, 46, 47, 48, 49, 50, 51, 52, 53, 54, 55, 56, 57, 58] (by decide +kernel) (by decide +kernel)
set_option maxRecDepth 20000 in
theorem gX7_cardOf_X0_stepsAheadOf : GoodIn wsX7_cardOf (wsV RX7 108 RX0 yX0_stepsAheadOf wsX0_stepsAheadOf) := goodIn_app (goodIn_of _ (by decide +kernel)) ggX7_cardOf_X0_stepsAheadOf
set_option maxRecDepth 20000 in
theorem ggX7_cardOf_X5_get : GoodIn wsX7_cardOf wsX5_get := goodIn_r _ [23, 24, 25, 57, 58] (by decide +kernel) (by decide +kernel)
set_option maxRecDepth 20000 in
theorem gX7_cardOf_X5_get : GoodIn wsX7_cardOf (wsV RX7 114 RX5 yX5_get wsX5_get) := goodIn_app (goodIn_of _ (by decide +kernel)) ggX7_cardOf_X5_get
theorem dX7_cardOf_0 : decode cX7_cardOf 0 = .ok (.aload_n 0, 1) := by decide +kernel
theorem dX7_cardOf_1 : decode cX7_cardOf 1 = .ok (.getfield 10, 3) := by decide +kernel
theorem dX7_cardOf_4 : decode cX7_cardOf 4 = .ok (.iload_n 1, 1) := by decide +kernel
theorem dX7_cardOf_5 : decode cX7_cardOf 5 = .ok (.invokevirtual 88, 3) := by decide +kernel
theorem dX7_cardOf_8 : decode cX7_cardOf 8 = .ok (.ifCond .eq 13, 3) := by decide +kernel
theorem dX7_cardOf_11 : decode cX7_cardOf 11 = .ok (.iload_n 2, 1) := by decide +kernel
theorem dX7_cardOf_12 : decode cX7_cardOf 12 = .ok (.iconst 0, 1) := by decide +kernel
theorem dX7_cardOf_13 : decode cX7_cardOf 13 = .ok (.bipush 9, 2) := by decide +kernel
theorem dX7_cardOf_15 : decode cX7_cardOf 15 = .ok (.invokestatic 92, 3) := by decide +kernel
theorem dX7_cardOf_18 : decode cX7_cardOf 18 = .ok (.ifCond .ne 6, 3) := by decide +kernel
theorem dX7_cardOf_21 : decode cX7_cardOf 21 = .ok (.ldc 96, 2) := by decide +kernel
theorem dX7_cardOf_23 : decode cX7_cardOf 23 = .ok (.ireturn, 1) := by decide +kernel
theorem dX7_cardOf_24 : decode cX7_cardOf 24 = .ok (.iload_n 2, 1) := by decide +kernel
theorem dX7_cardOf_25 : decode cX7_cardOf 25 = .ok (.bipush 8, 2) := by decide +kernel
theorem dX7_cardOf_27 : decode cX7_cardOf 27 = .ok (.if_icmp .ne 15, 3) := by decide +kernel
theorem dX7_cardOf_30 : decode cX7_cardOf 30 = .ok (.aload_n 0, 1) := by decide +kernel
theorem dX7_cardOf_31 : decode cX7_cardOf 31 = .ok (.getfield 10, 3) := by decide +kernel
theorem dX7_cardOf_34 : decode cX7_cardOf 34 = .ok (.iload_n 1, 1) := by decide +kernel
theorem dX7_cardOf_35 : decode cX7_cardOf 35 = .ok (.invokevirtual 100, 3) := by decide +kernel
theorem dX7_cardOf_38 : decode cX7_cardOf 38 = .ok (.invokestatic 103, 3) := by decide +kernel
theorem dX7_cardOf_41 : decode cX7_cardOf 41 = .ok (.ireturn, 1) := by decide +kernel
theorem dX7_cardOf_42 : decode cX7_cardOf 42 = .ok (.iload_n 2, 1) := by decide +kernel
theorem dX7_cardOf_43 : decode cX7_cardOf 43 = .ok (.bipush 9, 2) := by decide +kernel
theorem dX7_cardOf_45 : decode cX7_cardOf 45 = .ok (.if_icmp .ne 12, 3) := by decide +kernel
theorem dX7_cardOf_48 : decode cX7_cardOf 48 = .ok (.aload_n 0, 1) := by decide +kernel
theorem dX7_cardOf_49 : decode cX7_cardOf 49 = .ok (.getfield 10, 3) := by decide +kernel
theorem dX7_cardOf_52 : decode cX7_cardOf 52 = .ok (.iload_n 1, 1) := by decide +kernel
theorem dX7_cardOf_53 : decode cX7_cardOf 53 = .ok (.invokevirtual 108, 3) := by decide +kernel
theorem dX7_cardOf_56 : decode cX7_cardOf 56 = .ok (.ireturn, 1) := by decide +kernel
theorem dX7_cardOf_57 : decode cX7_cardOf 57 = .ok (.aload_n 0, 1) := by decide +kernel
theorem dX7_cardOf_58 : decode cX7_cardOf 58 = .ok (.getfield 10, 3) := by decide +kernel
theorem dX7_cardOf_61 : decode cX7_cardOf 61 = .ok (.getfield 111, 3) := by decide +kernel
theorem dX7_cardOf_64 : decode cX7_cardOf 64 = .ok (.iload_n 1, 1) := by decide +kernel
theorem dX7_cardOf_65 : decode cX7_cardOf 65 = .ok (.iload_n 2, 1) := by decide +kernel
theorem dX7_cardOf_66 : decode cX7_cardOf 66 = .ok (.invokevirtual 114, 3) := by decide +kernel
theorem dX7_cardOf_69 : decode cX7_cardOf 69 = .ok (.istore_n 3, 1) := by decide +kernel
theorem dX7_cardOf_70 : decode cX7_cardOf 70 = .ok (.iload_n 2, 1) := by decide +kernel
theorem dX7_cardOf_71 : decode cX7_cardOf 71 = .ok (.iconst 5, 1) := by decide +kernel
theorem dX7_cardOf_72 : decode cX7_cardOf 72 = .ok (.if_icmp .ne 13, 3) := by decide +kernel
theorem dX7_cardOf_75 : decode cX7_cardOf 75 = .ok (.iload_n 3, 1) := by decide +kernel
theorem dX7_cardOf_76 : decode cX7_cardOf 76 = .ok (.iconst (-1), 1) := by decide +kernel
theorem dX7_cardOf_77 : decode cX7_cardOf 77 = .ok (.if_icmp .ne 8, 3) := by decide +kernel
theorem dX7_cardOf_80 : decode cX7_cardOf 80 = .ok (.ldc 117, 2) := by decide +kernel
theorem dX7_cardOf_82 : decode cX7_cardOf 82 = .ok (.goto 4, 3) := by decide +kernel
theorem dX7_cardOf_85 : decode cX7_cardOf 85 = .ok (.iload_n 3, 1) := by decide +kernel
theorem dX7_cardOf_86 : decode cX7_cardOf 86 = .ok (.ireturn, 1) := by decide +kernel
set_option maxRecDepth 20000 in
theorem ggX7_flightOf_X7_within : GoodIn wsX7_flightOf wsX7_within := goodIn_r _ [7] (by decide +kernel) (by decide +kernel)
set_option maxRecDepth 20000 in
theorem gX7_flightOf_X7_within : GoodIn wsX7_flightOf (va_wsS RX7 92 yX7_within wsX7_within) := goodIn_app (goodIn_of _ (by decide +kernel)) ggX7_flightOf_X7_within
set_option maxRecDepth 20000 in
theorem ggX7_flightOf_X0_flightsKept : GoodIn wsX7_flightOf wsX0_flightsKept := goodIn_r _ [12, 13, 14, 15, 16, 17, 36, 37, 38, 39, 40, 41, 42, 43, 44, 45, 46, 47] (by decide +kernel) (by decide +kernel)
set_option maxRecDepth 20000 in
theorem gX7_flightOf_X0_flightsKept : GoodIn wsX7_flightOf (wsV RX7 118 RX0 yX0_flightsKept wsX0_flightsKept) := goodIn_app (goodIn_of _ (by decide +kernel)) ggX7_flightOf_X0_flightsKept
set_option maxRecDepth 20000 in
theorem ggX7_flightOf_X0_rowOfFlight : GoodIn wsX7_flightOf wsX0_rowOfFlight := goodIn_r _ [21, 13, 36, 37, 38, 39, 40, 41, 42, 43, 44, 45, 46, 47] (by decide +kernel) (by decide +kernel)
set_option maxRecDepth 20000 in
theorem gX7_flightOf_X0_rowOfFlight : GoodIn wsX7_flightOf (wsV RX7 125 RX0 yX0_rowOfFlight wsX0_rowOfFlight) := goodIn_app (goodIn_of _ (by decide +kernel)) ggX7_flightOf_X0_rowOfFlight
set_option maxRecDepth 20000 in
theorem ggX7_flightOf_X5_get : GoodIn wsX7_flightOf wsX5_get := goodIn_r _ [26, 27, 28, 48, 49] (by decide +kernel) (by decide +kernel)
set_option maxRecDepth 20000 in
theorem gX7_flightOf_X5_get : GoodIn wsX7_flightOf (wsV RX7 114 RX5 yX5_get wsX5_get) := goodIn_app (goodIn_of _ (by decide +kernel)) ggX7_flightOf_X5_get
theorem dX7_flightOf_0 : decode cX7_flightOf 0 = .ok (.iload_n 1, 1) := by decide +kernel
theorem dX7_flightOf_1 : decode cX7_flightOf 1 = .ok (.ifCond .lt 12, 3) := by decide +kernel
theorem dX7_flightOf_4 : decode cX7_flightOf 4 = .ok (.iload_n 2, 1) := by decide +kernel
theorem dX7_flightOf_5 : decode cX7_flightOf 5 = .ok (.iconst 0, 1) := by decide +kernel
theorem dX7_flightOf_6 : decode cX7_flightOf 6 = .ok (.iconst 4, 1) := by decide +kernel
theorem dX7_flightOf_7 : decode cX7_flightOf 7 = .ok (.invokestatic 92, 3) := by decide +kernel
theorem dX7_flightOf_10 : decode cX7_flightOf 10 = .ok (.ifCond .ne 6, 3) := by decide +kernel
theorem dX7_flightOf_13 : decode cX7_flightOf 13 = .ok (.ldc 96, 2) := by decide +kernel
theorem dX7_flightOf_15 : decode cX7_flightOf 15 = .ok (.ireturn, 1) := by decide +kernel
theorem dX7_flightOf_16 : decode cX7_flightOf 16 = .ok (.iload_n 1, 1) := by decide +kernel
theorem dX7_flightOf_17 : decode cX7_flightOf 17 = .ok (.aload_n 0, 1) := by decide +kernel
theorem dX7_flightOf_18 : decode cX7_flightOf 18 = .ok (.getfield 10, 3) := by decide +kernel
theorem dX7_flightOf_21 : decode cX7_flightOf 21 = .ok (.invokevirtual 118, 3) := by decide +kernel
theorem dX7_flightOf_24 : decode cX7_flightOf 24 = .ok (.if_icmp .lt 6, 3) := by decide +kernel
theorem dX7_flightOf_27 : decode cX7_flightOf 27 = .ok (.ldc 117, 2) := by decide +kernel
theorem dX7_flightOf_29 : decode cX7_flightOf 29 = .ok (.ireturn, 1) := by decide +kernel
theorem dX7_flightOf_30 : decode cX7_flightOf 30 = .ok (.aload_n 0, 1) := by decide +kernel
theorem dX7_flightOf_31 : decode cX7_flightOf 31 = .ok (.getfield 10, 3) := by decide +kernel
theorem dX7_flightOf_34 : decode cX7_flightOf 34 = .ok (.getfield 122, 3) := by decide +kernel
theorem dX7_flightOf_37 : decode cX7_flightOf 37 = .ok (.aload_n 0, 1) := by decide +kernel
theorem dX7_flightOf_38 : decode cX7_flightOf 38 = .ok (.getfield 10, 3) := by decide +kernel
theorem dX7_flightOf_41 : decode cX7_flightOf 41 = .ok (.iload_n 1, 1) := by decide +kernel
theorem dX7_flightOf_42 : decode cX7_flightOf 42 = .ok (.invokevirtual 125, 3) := by decide +kernel
theorem dX7_flightOf_45 : decode cX7_flightOf 45 = .ok (.iload_n 2, 1) := by decide +kernel
theorem dX7_flightOf_46 : decode cX7_flightOf 46 = .ok (.invokevirtual 114, 3) := by decide +kernel
theorem dX7_flightOf_49 : decode cX7_flightOf 49 = .ok (.ireturn, 1) := by decide +kernel
set_option maxRecDepth 20000 in
theorem ggX7_weatherOf_X7_within : GoodIn wsX7_weatherOf wsX7_within := goodIn_r _ [6] (by decide +kernel) (by decide +kernel)
set_option maxRecDepth 20000 in
theorem gX7_weatherOf_X7_within : GoodIn wsX7_weatherOf (va_wsS RX7 92 yX7_within wsX7_within) := goodIn_app (goodIn_of _ (by decide +kernel)) ggX7_weatherOf_X7_within
set_option maxRecDepth 20000 in
theorem ggX7_weatherOf_X0_cardsForWeather : GoodIn wsX7_weatherOf wsX0_cardsForWeather := goodIn_r _ [11, 12, 13, 14, 15, 10, 16, 17, 18, 19, 20, 21, 22, 23, 24, 25, 34, 35, 36, 37, 38, 39, 40, 41, 42, 43, 44, 45, 46, 47] (by decide +kernel) (by decide +kernel)
set_option maxRecDepth 20000 in
theorem gX7_weatherOf_X0_cardsForWeather : GoodIn wsX7_weatherOf (wsV RX7 128 RX0 yX0_cardsForWeather wsX0_cardsForWeather) := goodIn_app (goodIn_of _ (by decide +kernel)) ggX7_weatherOf_X0_cardsForWeather
set_option maxRecDepth 20000 in
theorem ggX7_weatherOf_X5_get : GoodIn wsX7_weatherOf wsX5_get := goodIn_r _ [23, 24, 25, 46, 47] (by decide +kernel) (by decide +kernel)
set_option maxRecDepth 20000 in
theorem gX7_weatherOf_X5_get : GoodIn wsX7_weatherOf (wsV RX7 114 RX5 yX5_get wsX5_get) := goodIn_app (goodIn_of _ (by decide +kernel)) ggX7_weatherOf_X5_get
theorem dX7_weatherOf_0 : decode cX7_weatherOf 0 = .ok (.iload_n 1, 1) := by decide +kernel
theorem dX7_weatherOf_1 : decode cX7_weatherOf 1 = .ok (.iconst 0, 1) := by decide +kernel
theorem dX7_weatherOf_2 : decode cX7_weatherOf 2 = .ok (.bipush 27, 2) := by decide +kernel
theorem dX7_weatherOf_4 : decode cX7_weatherOf 4 = .ok (.invokestatic 92, 3) := by decide +kernel
theorem dX7_weatherOf_7 : decode cX7_weatherOf 7 = .ok (.ifCond .eq 12, 3) := by decide +kernel
theorem dX7_weatherOf_10 : decode cX7_weatherOf 10 = .ok (.iload_n 2, 1) := by decide +kernel
theorem dX7_weatherOf_11 : decode cX7_weatherOf 11 = .ok (.iconst 0, 1) := by decide +kernel
theorem dX7_weatherOf_12 : decode cX7_weatherOf 12 = .ok (.iconst 3, 1) := by decide +kernel
theorem dX7_weatherOf_13 : decode cX7_weatherOf 13 = .ok (.invokestatic 92, 3) := by decide +kernel
theorem dX7_weatherOf_16 : decode cX7_weatherOf 16 = .ok (.ifCond .ne 6, 3) := by decide +kernel
theorem dX7_weatherOf_19 : decode cX7_weatherOf 19 = .ok (.ldc 96, 2) := by decide +kernel
theorem dX7_weatherOf_21 : decode cX7_weatherOf 21 = .ok (.ireturn, 1) := by decide +kernel
theorem dX7_weatherOf_22 : decode cX7_weatherOf 22 = .ok (.iload_n 2, 1) := by decide +kernel
theorem dX7_weatherOf_23 : decode cX7_weatherOf 23 = .ok (.iconst 3, 1) := by decide +kernel
theorem dX7_weatherOf_24 : decode cX7_weatherOf 24 = .ok (.if_icmp .ne 14, 3) := by decide +kernel
theorem dX7_weatherOf_27 : decode cX7_weatherOf 27 = .ok (.aload_n 0, 1) := by decide +kernel
theorem dX7_weatherOf_28 : decode cX7_weatherOf 28 = .ok (.getfield 10, 3) := by decide +kernel
theorem dX7_weatherOf_31 : decode cX7_weatherOf 31 = .ok (.iload_n 1, 1) := by decide +kernel
theorem dX7_weatherOf_32 : decode cX7_weatherOf 32 = .ok (.invokevirtual 128, 3) := by decide +kernel
theorem dX7_weatherOf_35 : decode cX7_weatherOf 35 = .ok (.goto 15, 3) := by decide +kernel
theorem dX7_weatherOf_38 : decode cX7_weatherOf 38 = .ok (.aload_n 0, 1) := by decide +kernel
theorem dX7_weatherOf_39 : decode cX7_weatherOf 39 = .ok (.getfield 10, 3) := by decide +kernel
theorem dX7_weatherOf_42 : decode cX7_weatherOf 42 = .ok (.getfield 131, 3) := by decide +kernel
theorem dX7_weatherOf_45 : decode cX7_weatherOf 45 = .ok (.iload_n 1, 1) := by decide +kernel
theorem dX7_weatherOf_46 : decode cX7_weatherOf 46 = .ok (.iload_n 2, 1) := by decide +kernel
theorem dX7_weatherOf_47 : decode cX7_weatherOf 47 = .ok (.invokevirtual 114, 3) := by decide +kernel
theorem dX7_weatherOf_50 : decode cX7_weatherOf 50 = .ok (.ireturn, 1) := by decide +kernel
set_option maxRecDepth 20000 in
theorem ggX7_plan_X7_within : GoodIn wsX7_plan wsX7_within := goodIn_r _ [9] (by decide +kernel) (by decide +kernel)
set_option maxRecDepth 20000 in
theorem gX7_plan_X7_within : GoodIn wsX7_plan (va_wsS RX7 92 yX7_within wsX7_within) := goodIn_app (goodIn_of _ (by decide +kernel)) ggX7_plan_X7_within
set_option maxRecDepth 20000 in
theorem ggX7_plan_X0_copyFrom : GoodIn wsX7_plan wsX0_copyFrom := goodIn_r _ [14, 15, 16, 17, 18, 19, 20, 21, 22, 23, 24, 25, 26, 27, 28, 29, 30, 31, 32, 33, 34, 35, 36, 37, 38, 39, 40, 124, 125, 126, 127, 128, 129, 130, 131, 132, 133, 134, 135, 136, 137] (by decide +kernel) (by decide +kernel)
set_option maxRecDepth 20000 in
theorem gX7_plan_X0_copyFrom : GoodIn wsX7_plan (wsV RX7 56 RX0 yX0_copyFrom wsX0_copyFrom) := goodIn_app (goodIn_of _ (by decide +kernel)) ggX7_plan_X0_copyFrom
set_option maxRecDepth 20000 in
theorem ggX7_plan_X3_makeOn : GoodIn wsX7_plan wsX3_makeOn := goodIn_r _ [45, 46, 47, 48, 49, 50, 35, 51, 52, 53, 54, 13, 55, 56, 57, 58, 59, 19, 15, 60, 61, 62, 30, 63, 64, 32, 65, 66, 67, 68, 20, 23, 21, 22, 69, 70, 71, 72, 73, 74, 44, 75, 76, 77, 78, 79, 80, 81, 82, 83, 84, 85, 86, 87, 88, 89, 90, 91, 92, 16, 93, 94, 95, 96, 18, 97, 98, 99, 100, 101, 102, 103, 104, 105, 24, 26, 25, 106, 107, 108, 109, 17, 110, 120, 121, 122, 123, 124, 125, 126, 127, 128, 129, 130, 131, 132, 133, 134, 135, 136, 137] (by decide +kernel) (by decide +kernel)
set_option maxRecDepth 20000 in
theorem gX7_plan_X3_makeOn : GoodIn wsX7_plan (wsV RX7 140 RX3 yX3_makeOn wsX3_makeOn) := goodIn_app (goodIn_of _ (by decide +kernel)) ggX7_plan_X3_makeOn
set_option maxRecDepth 20000 in
theorem ggX7_plan_X0_cardsLeft : GoodIn wsX7_plan wsX0_cardsLeft := goodIn_r _ [55, 56, 57, 58, 13, 59, 19, 15, 60, 61, 62, 30, 63, 64, 32, 124, 125, 126, 127, 128, 129, 130, 131, 132, 133, 134, 135, 136, 137] (by decide +kernel) (by decide +kernel)
set_option maxRecDepth 20000 in
theorem gX7_plan_X0_cardsLeft : GoodIn wsX7_plan (wsV RX7 148 RX0 yX0_cardsLeft wsX0_cardsLeft) := goodIn_app (goodIn_of _ (by decide +kernel)) ggX7_plan_X0_cardsLeft
set_option maxRecDepth 20000 in
theorem ggX7_plan_X5_get : GoodIn wsX7_plan wsX5_get := goodIn_r _ [63, 64, 32, 136, 137] (by decide +kernel) (by decide +kernel)
set_option maxRecDepth 20000 in
theorem gX7_plan_X5_get : GoodIn wsX7_plan (wsV RX7 114 RX5 yX5_get wsX5_get) := goodIn_app (goodIn_of _ (by decide +kernel)) ggX7_plan_X5_get
theorem dX7_plan_0 : decode cX7_plan 0 = .ok (.iload_n 1, 1) := by decide +kernel
theorem dX7_plan_1 : decode cX7_plan 1 = .ok (.iconst 0, 1) := by decide +kernel
