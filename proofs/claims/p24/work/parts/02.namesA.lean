theorem dX0_init_0 : decode cX0_init 0 = .ok (.aload_n 0, 1) := by decide +kernel
theorem dX0_init_1 : decode cX0_init 1 = .ok (.invokespecial 3, 3) := by decide +kernel
theorem dX0_init_4 : decode cX0_init 4 = .ok (.aload_n 0, 1) := by decide +kernel
theorem dX0_init_5 : decode cX0_init 5 = .ok (.bipush 15, 2) := by decide +kernel
theorem dX0_init_7 : decode cX0_init 7 = .ok (.newarray .int, 2) := by decide +kernel
theorem dX0_init_9 : decode cX0_init 9 = .ok (.putfield 9, 3) := by decide +kernel
theorem dX0_init_12 : decode cX0_init 12 = .ok (.aload_n 0, 1) := by decide +kernel
theorem dX0_init_13 : decode cX0_init 13 = .ok (.bipush 15, 2) := by decide +kernel
theorem dX0_init_15 : decode cX0_init 15 = .ok (.newarray .int, 2) := by decide +kernel
theorem dX0_init_17 : decode cX0_init 17 = .ok (.putfield 15, 3) := by decide +kernel
theorem dX0_init_20 : decode cX0_init 20 = .ok (.aload_n 0, 1) := by decide +kernel
theorem dX0_init_21 : decode cX0_init 21 = .ok (.bipush 15, 2) := by decide +kernel
theorem dX0_init_23 : decode cX0_init 23 = .ok (.newarray .int, 2) := by decide +kernel
theorem dX0_init_25 : decode cX0_init 25 = .ok (.putfield 18, 3) := by decide +kernel
theorem dX0_init_28 : decode cX0_init 28 = .ok (.aload_n 0, 1) := by decide +kernel
theorem dX0_init_29 : decode cX0_init 29 = .ok (.bipush 15, 2) := by decide +kernel
theorem dX0_init_31 : decode cX0_init 31 = .ok (.newarray .int, 2) := by decide +kernel
theorem dX0_init_33 : decode cX0_init 33 = .ok (.putfield 21, 3) := by decide +kernel
theorem dX0_init_36 : decode cX0_init 36 = .ok (.aload_n 0, 1) := by decide +kernel
theorem dX0_init_37 : decode cX0_init 37 = .ok (.bipush 15, 2) := by decide +kernel
theorem dX0_init_39 : decode cX0_init 39 = .ok (.newarray .int, 2) := by decide +kernel
theorem dX0_init_41 : decode cX0_init 41 = .ok (.putfield 24, 3) := by decide +kernel
theorem dX0_init_44 : decode cX0_init 44 = .ok (.aload_n 0, 1) := by decide +kernel
theorem dX0_init_45 : decode cX0_init 45 = .ok (.iconst 0, 1) := by decide +kernel
theorem dX0_init_46 : decode cX0_init 46 = .ok (.putfield 27, 3) := by decide +kernel
theorem dX0_init_49 : decode cX0_init 49 = .ok (.aload_n 0, 1) := by decide +kernel
theorem dX0_init_50 : decode cX0_init 50 = .ok (.iconst 0, 1) := by decide +kernel
theorem dX0_init_51 : decode cX0_init 51 = .ok (.putfield 31, 3) := by decide +kernel
theorem dX0_init_54 : decode cX0_init 54 = .ok (.aload_n 0, 1) := by decide +kernel
theorem dX0_init_55 : decode cX0_init 55 = .ok (.aload_n 1, 1) := by decide +kernel
theorem dX0_init_56 : decode cX0_init 56 = .ok (.putfield 34, 3) := by decide +kernel
theorem dX0_init_59 : decode cX0_init 59 = .ok (.return_, 1) := by decide +kernel
set_option maxRecDepth 20000 in
theorem ggX0_parse_X0_takeButton : GoodIn wsX0_parse wsX0_takeButton := goodIn_r _ [9, 10, 11, 12, 13, 14, 15, 16, 17, 8, 18, 1, 3, 4, 19, 20, 21, 22, 23, 24, 25, 26, 27, 28, 29, 30, 31, 32, 33, 34, 35, 36, 37, 38, 39, 40, 41] (by decide +kernel) (by decide +kernel)
set_option maxRecDepth 20000 in
theorem gX0_parse_X0_takeButton : GoodIn wsX0_parse (wsV RX0 38 RX0 yX0_takeButton wsX0_takeButton) := goodIn_app (goodIn_of _ (by decide +kernel)) ggX0_parse_X0_takeButton
set_option maxRecDepth 20000 in
theorem ggX0_parse_X0_takeSign : GoodIn wsX0_parse wsX0_takeSign := goodIn_r _ [23, 1, 3, 4, 19, 32, 33, 34, 35, 36, 37, 38, 39, 40, 41] (by decide +kernel) (by decide +kernel)
set_option maxRecDepth 20000 in
theorem gX0_parse_X0_takeSign : GoodIn wsX0_parse (wsV RX0 47 RX0 yX0_takeSign wsX0_takeSign) := goodIn_app (goodIn_of _ (by decide +kernel)) ggX0_parse_X0_takeSign
theorem dX0_parse_0 : decode cX0_parse 0 = .ok (.aload_n 0, 1) := by decide +kernel
theorem dX0_parse_1 : decode cX0_parse 1 = .ok (.iconst 0, 1) := by decide +kernel
theorem dX0_parse_2 : decode cX0_parse 2 = .ok (.putfield 31, 3) := by decide +kernel
theorem dX0_parse_5 : decode cX0_parse 5 = .ok (.aload_n 0, 1) := by decide +kernel
theorem dX0_parse_6 : decode cX0_parse 6 = .ok (.iconst 0, 1) := by decide +kernel
theorem dX0_parse_7 : decode cX0_parse 7 = .ok (.putfield 27, 3) := by decide +kernel
theorem dX0_parse_10 : decode cX0_parse 10 = .ok (.iconst 0, 1) := by decide +kernel
theorem dX0_parse_11 : decode cX0_parse 11 = .ok (.istore_n 1, 1) := by decide +kernel
theorem dX0_parse_12 : decode cX0_parse 12 = .ok (.iload_n 1, 1) := by decide +kernel
theorem dX0_parse_13 : decode cX0_parse 13 = .ok (.bipush 15, 2) := by decide +kernel
theorem dX0_parse_15 : decode cX0_parse 15 = .ok (.if_icmp .ge 62, 3) := by decide +kernel
theorem dX0_parse_18 : decode cX0_parse 18 = .ok (.aload_n 0, 1) := by decide +kernel
theorem dX0_parse_19 : decode cX0_parse 19 = .ok (.iload_n 1, 1) := by decide +kernel
theorem dX0_parse_20 : decode cX0_parse 20 = .ok (.invokevirtual 38, 3) := by decide +kernel
theorem dX0_parse_23 : decode cX0_parse 23 = .ok (.ifCond .ne 8, 3) := by decide +kernel
theorem dX0_parse_26 : decode cX0_parse 26 = .ok (.aload_n 0, 1) := by decide +kernel
theorem dX0_parse_27 : decode cX0_parse 27 = .ok (.getfield 31, 3) := by decide +kernel
theorem dX0_parse_30 : decode cX0_parse 30 = .ok (.ireturn, 1) := by decide +kernel
theorem dX0_parse_31 : decode cX0_parse 31 = .ok (.aload_n 0, 1) := by decide +kernel
theorem dX0_parse_32 : decode cX0_parse 32 = .ok (.dup, 1) := by decide +kernel
theorem dX0_parse_33 : decode cX0_parse 33 = .ok (.getfield 27, 3) := by decide +kernel
theorem dX0_parse_36 : decode cX0_parse 36 = .ok (.iconst 1, 1) := by decide +kernel
theorem dX0_parse_37 : decode cX0_parse 37 = .ok (.iadd, 1) := by decide +kernel
theorem dX0_parse_38 : decode cX0_parse 38 = .ok (.putfield 27, 3) := by decide +kernel
theorem dX0_parse_41 : decode cX0_parse 41 = .ok (.aload_n 0, 1) := by decide +kernel
theorem dX0_parse_42 : decode cX0_parse 42 = .ok (.getfield 31, 3) := by decide +kernel
theorem dX0_parse_45 : decode cX0_parse 45 = .ok (.aload_n 0, 1) := by decide +kernel
theorem dX0_parse_46 : decode cX0_parse 46 = .ok (.getfield 34, 3) := by decide +kernel
theorem dX0_parse_49 : decode cX0_parse 49 = .ok (.getfield 42, 3) := by decide +kernel
theorem dX0_parse_52 : decode cX0_parse 52 = .ok (.if_icmp .lt 5, 3) := by decide +kernel
theorem dX0_parse_55 : decode cX0_parse 55 = .ok (.iconst (-1), 1) := by decide +kernel
theorem dX0_parse_56 : decode cX0_parse 56 = .ok (.ireturn, 1) := by decide +kernel
theorem dX0_parse_57 : decode cX0_parse 57 = .ok (.aload_n 0, 1) := by decide +kernel
theorem dX0_parse_58 : decode cX0_parse 58 = .ok (.bipush 44, 2) := by decide +kernel
theorem dX0_parse_60 : decode cX0_parse 60 = .ok (.invokevirtual 47, 3) := by decide +kernel
theorem dX0_parse_63 : decode cX0_parse 63 = .ok (.ifCond .ne 8, 3) := by decide +kernel
theorem dX0_parse_66 : decode cX0_parse 66 = .ok (.aload_n 0, 1) := by decide +kernel
theorem dX0_parse_67 : decode cX0_parse 67 = .ok (.getfield 31, 3) := by decide +kernel
theorem dX0_parse_70 : decode cX0_parse 70 = .ok (.ireturn, 1) := by decide +kernel
theorem dX0_parse_71 : decode cX0_parse 71 = .ok (.iinc 1 1, 3) := by decide +kernel
theorem dX0_parse_74 : decode cX0_parse 74 = .ok (.goto (-62), 3) := by decide +kernel
theorem dX0_parse_77 : decode cX0_parse 77 = .ok (.aload_n 0, 1) := by decide +kernel
theorem dX0_parse_78 : decode cX0_parse 78 = .ok (.getfield 31, 3) := by decide +kernel
theorem dX0_parse_81 : decode cX0_parse 81 = .ok (.ireturn, 1) := by decide +kernel
set_option maxRecDepth 20000 in
theorem ggX0_takeButton_X0_takeDigit : GoodIn wsX0_takeButton wsX0_takeDigit := goodIn_r _ [10, 11, 12, 13, 14, 27, 28, 29, 30, 31, 32, 33, 34, 35, 36] (by decide +kernel) (by decide +kernel)
set_option maxRecDepth 20000 in
theorem gX0_takeButton_X0_takeDigit : GoodIn wsX0_takeButton (wsV RX0 51 RX0 yX0_takeDigit wsX0_takeDigit) := goodIn_app (goodIn_of _ (by decide +kernel)) ggX0_takeButton_X0_takeDigit
set_option maxRecDepth 20000 in
theorem ggX0_takeButton_X0_takeSign : GoodIn wsX0_takeButton wsX0_takeSign := goodIn_r _ [18, 11, 12, 13, 14, 27, 28, 29, 30, 31, 32, 33, 34, 35, 36] (by decide +kernel) (by decide +kernel)
set_option maxRecDepth 20000 in
theorem gX0_takeButton_X0_takeSign : GoodIn wsX0_takeButton (wsV RX0 47 RX0 yX0_takeSign wsX0_takeSign) := goodIn_app (goodIn_of _ (by decide +kernel)) ggX0_takeButton_X0_takeSign
set_option maxRecDepth 20000 in
theorem ggX0_takeButton_X0_takeSize : GoodIn wsX0_takeButton wsX0_takeSize := goodIn_r _ [22, 6, 7, 8, 9, 10, 11, 12, 13, 14, 27, 28, 29, 30, 31, 32, 33, 34, 35, 36] (by decide +kernel) (by decide +kernel)
set_option maxRecDepth 20000 in
theorem gX0_takeButton_X0_takeSize : GoodIn wsX0_takeButton (wsV RX0 55 RX0 yX0_takeSize wsX0_takeSize) := goodIn_app (goodIn_of _ (by decide +kernel)) ggX0_takeButton_X0_takeSize
set_option maxRecDepth 20000 in
theorem ggX0_takeButton_X0_takePart : GoodIn wsX0_takeButton wsX0_takePart := goodIn_r _ [26, 15, 16, 17, 9, 18, 11, 12, 13, 14, 6, 7, 8, 10, 27, 28, 29, 30, 31, 32, 33, 34, 35, 36] (by decide +kernel) (by decide +kernel)
set_option maxRecDepth 20000 in
theorem gX0_takeButton_X0_takePart : GoodIn wsX0_takeButton (wsV RX0 59 RX0 yX0_takePart wsX0_takePart) := goodIn_app (goodIn_of _ (by decide +kernel)) ggX0_takeButton_X0_takePart
theorem dX0_takeButton_0 : decode cX0_takeButton 0 = .ok (.aload_n 0, 1) := by decide +kernel
theorem dX0_takeButton_1 : decode cX0_takeButton 1 = .ok (.getfield 9, 3) := by decide +kernel
theorem dX0_takeButton_4 : decode cX0_takeButton 4 = .ok (.iload_n 1, 1) := by decide +kernel
theorem dX0_takeButton_5 : decode cX0_takeButton 5 = .ok (.aload_n 0, 1) := by decide +kernel
theorem dX0_takeButton_6 : decode cX0_takeButton 6 = .ok (.iconst 1, 1) := by decide +kernel
theorem dX0_takeButton_7 : decode cX0_takeButton 7 = .ok (.iconst 4, 1) := by decide +kernel
theorem dX0_takeButton_8 : decode cX0_takeButton 8 = .ok (.invokevirtual 51, 3) := by decide +kernel
theorem dX0_takeButton_11 : decode cX0_takeButton 11 = .ok (.iastore, 1) := by decide +kernel
theorem dX0_takeButton_12 : decode cX0_takeButton 12 = .ok (.aload_n 0, 1) := by decide +kernel
theorem dX0_takeButton_13 : decode cX0_takeButton 13 = .ok (.getfield 9, 3) := by decide +kernel
theorem dX0_takeButton_16 : decode cX0_takeButton 16 = .ok (.iload_n 1, 1) := by decide +kernel
theorem dX0_takeButton_17 : decode cX0_takeButton 17 = .ok (.iaload, 1) := by decide +kernel
theorem dX0_takeButton_18 : decode cX0_takeButton 18 = .ok (.ifCond .lt 12, 3) := by decide +kernel
theorem dX0_takeButton_21 : decode cX0_takeButton 21 = .ok (.aload_n 0, 1) := by decide +kernel
theorem dX0_takeButton_22 : decode cX0_takeButton 22 = .ok (.bipush 104, 2) := by decide +kernel
theorem dX0_takeButton_24 : decode cX0_takeButton 24 = .ok (.invokevirtual 47, 3) := by decide +kernel
theorem dX0_takeButton_27 : decode cX0_takeButton 27 = .ok (.ifCond .ne 5, 3) := by decide +kernel
theorem dX0_takeButton_30 : decode cX0_takeButton 30 = .ok (.iconst 0, 1) := by decide +kernel
theorem dX0_takeButton_31 : decode cX0_takeButton 31 = .ok (.ireturn, 1) := by decide +kernel
theorem dX0_takeButton_32 : decode cX0_takeButton 32 = .ok (.aload_n 0, 1) := by decide +kernel
theorem dX0_takeButton_33 : decode cX0_takeButton 33 = .ok (.getfield 15, 3) := by decide +kernel
theorem dX0_takeButton_36 : decode cX0_takeButton 36 = .ok (.iload_n 1, 1) := by decide +kernel
theorem dX0_takeButton_37 : decode cX0_takeButton 37 = .ok (.aload_n 0, 1) := by decide +kernel
theorem dX0_takeButton_38 : decode cX0_takeButton 38 = .ok (.invokevirtual 55, 3) := by decide +kernel
theorem dX0_takeButton_41 : decode cX0_takeButton 41 = .ok (.iastore, 1) := by decide +kernel
theorem dX0_takeButton_42 : decode cX0_takeButton 42 = .ok (.aload_n 0, 1) := by decide +kernel
theorem dX0_takeButton_43 : decode cX0_takeButton 43 = .ok (.getfield 15, 3) := by decide +kernel
theorem dX0_takeButton_46 : decode cX0_takeButton 46 = .ok (.iload_n 1, 1) := by decide +kernel
theorem dX0_takeButton_47 : decode cX0_takeButton 47 = .ok (.iaload, 1) := by decide +kernel
theorem dX0_takeButton_48 : decode cX0_takeButton 48 = .ok (.ifCond .ge 5, 3) := by decide +kernel
theorem dX0_takeButton_51 : decode cX0_takeButton 51 = .ok (.iconst 0, 1) := by decide +kernel
theorem dX0_takeButton_52 : decode cX0_takeButton 52 = .ok (.ireturn, 1) := by decide +kernel
theorem dX0_takeButton_53 : decode cX0_takeButton 53 = .ok (.aload_n 0, 1) := by decide +kernel
theorem dX0_takeButton_54 : decode cX0_takeButton 54 = .ok (.getfield 18, 3) := by decide +kernel
theorem dX0_takeButton_57 : decode cX0_takeButton 57 = .ok (.iload_n 1, 1) := by decide +kernel
theorem dX0_takeButton_58 : decode cX0_takeButton 58 = .ok (.aload_n 0, 1) := by decide +kernel
theorem dX0_takeButton_59 : decode cX0_takeButton 59 = .ok (.bipush 105, 2) := by decide +kernel
theorem dX0_takeButton_61 : decode cX0_takeButton 61 = .ok (.invokevirtual 59, 3) := by decide +kernel
theorem dX0_takeButton_64 : decode cX0_takeButton 64 = .ok (.iastore, 1) := by decide +kernel
theorem dX0_takeButton_65 : decode cX0_takeButton 65 = .ok (.aload_n 0, 1) := by decide +kernel
theorem dX0_takeButton_66 : decode cX0_takeButton 66 = .ok (.getfield 18, 3) := by decide +kernel
theorem dX0_takeButton_69 : decode cX0_takeButton 69 = .ok (.iload_n 1, 1) := by decide +kernel
theorem dX0_takeButton_70 : decode cX0_takeButton 70 = .ok (.iaload, 1) := by decide +kernel
theorem dX0_takeButton_71 : decode cX0_takeButton 71 = .ok (.ifCond .ge 5, 3) := by decide +kernel
theorem dX0_takeButton_74 : decode cX0_takeButton 74 = .ok (.iconst 0, 1) := by decide +kernel
theorem dX0_takeButton_75 : decode cX0_takeButton 75 = .ok (.ireturn, 1) := by decide +kernel
theorem dX0_takeButton_76 : decode cX0_takeButton 76 = .ok (.aload_n 0, 1) := by decide +kernel
theorem dX0_takeButton_77 : decode cX0_takeButton 77 = .ok (.getfield 21, 3) := by decide +kernel
theorem dX0_takeButton_80 : decode cX0_takeButton 80 = .ok (.iload_n 1, 1) := by decide +kernel
theorem dX0_takeButton_81 : decode cX0_takeButton 81 = .ok (.aload_n 0, 1) := by decide +kernel
theorem dX0_takeButton_82 : decode cX0_takeButton 82 = .ok (.bipush 99, 2) := by decide +kernel
theorem dX0_takeButton_84 : decode cX0_takeButton 84 = .ok (.invokevirtual 59, 3) := by decide +kernel
theorem dX0_takeButton_87 : decode cX0_takeButton 87 = .ok (.iastore, 1) := by decide +kernel
theorem dX0_takeButton_88 : decode cX0_takeButton 88 = .ok (.aload_n 0, 1) := by decide +kernel
theorem dX0_takeButton_89 : decode cX0_takeButton 89 = .ok (.getfield 21, 3) := by decide +kernel
theorem dX0_takeButton_92 : decode cX0_takeButton 92 = .ok (.iload_n 1, 1) := by decide +kernel
theorem dX0_takeButton_93 : decode cX0_takeButton 93 = .ok (.iaload, 1) := by decide +kernel
theorem dX0_takeButton_94 : decode cX0_takeButton 94 = .ok (.ifCond .ge 5, 3) := by decide +kernel
theorem dX0_takeButton_97 : decode cX0_takeButton 97 = .ok (.iconst 0, 1) := by decide +kernel
theorem dX0_takeButton_98 : decode cX0_takeButton 98 = .ok (.ireturn, 1) := by decide +kernel
theorem dX0_takeButton_99 : decode cX0_takeButton 99 = .ok (.aload_n 0, 1) := by decide +kernel
theorem dX0_takeButton_100 : decode cX0_takeButton 100 = .ok (.getfield 24, 3) := by decide +kernel
theorem dX0_takeButton_103 : decode cX0_takeButton 103 = .ok (.iload_n 1, 1) := by decide +kernel
theorem dX0_takeButton_104 : decode cX0_takeButton 104 = .ok (.aload_n 0, 1) := by decide +kernel
theorem dX0_takeButton_105 : decode cX0_takeButton 105 = .ok (.bipush 115, 2) := by decide +kernel
theorem dX0_takeButton_107 : decode cX0_takeButton 107 = .ok (.invokevirtual 59, 3) := by decide +kernel
theorem dX0_takeButton_110 : decode cX0_takeButton 110 = .ok (.iastore, 1) := by decide +kernel
theorem dX0_takeButton_111 : decode cX0_takeButton 111 = .ok (.aload_n 0, 1) := by decide +kernel
theorem dX0_takeButton_112 : decode cX0_takeButton 112 = .ok (.getfield 24, 3) := by decide +kernel
theorem dX0_takeButton_115 : decode cX0_takeButton 115 = .ok (.iload_n 1, 1) := by decide +kernel
theorem dX0_takeButton_116 : decode cX0_takeButton 116 = .ok (.iaload, 1) := by decide +kernel
theorem dX0_takeButton_117 : decode cX0_takeButton 117 = .ok (.ifCond .lt 7, 3) := by decide +kernel
theorem dX0_takeButton_120 : decode cX0_takeButton 120 = .ok (.iconst 1, 1) := by decide +kernel
theorem dX0_takeButton_121 : decode cX0_takeButton 121 = .ok (.goto 4, 3) := by decide +kernel
theorem dX0_takeButton_124 : decode cX0_takeButton 124 = .ok (.iconst 0, 1) := by decide +kernel
theorem dX0_takeButton_125 : decode cX0_takeButton 125 = .ok (.ireturn, 1) := by decide +kernel
set_option maxRecDepth 20000 in
theorem ggX0_takePart_X0_takeSign : GoodIn wsX0_takePart wsX0_takeSign := goodIn_r _ [5, 6, 7, 8, 9, 14, 15, 16, 17, 18, 19, 20, 21, 22, 23] (by decide +kernel) (by decide +kernel)
set_option maxRecDepth 20000 in
theorem gX0_takePart_X0_takeSign : GoodIn wsX0_takePart (wsV RX0 47 RX0 yX0_takeSign wsX0_takeSign) := goodIn_app (goodIn_of _ (by decide +kernel)) ggX0_takePart_X0_takeSign
set_option maxRecDepth 20000 in
theorem ggX0_takePart_X0_takeDigit : GoodIn wsX0_takePart wsX0_takeDigit := goodIn_r _ [13, 6, 7, 8, 9, 14, 15, 16, 17, 18, 19, 20, 21, 22, 23] (by decide +kernel) (by decide +kernel)
set_option maxRecDepth 20000 in
theorem gX0_takePart_X0_takeDigit : GoodIn wsX0_takePart (wsV RX0 51 RX0 yX0_takeDigit wsX0_takeDigit) := goodIn_app (goodIn_of _ (by decide +kernel)) ggX0_takePart_X0_takeDigit
theorem dX0_takePart_0 : decode cX0_takePart 0 = .ok (.aload_n 0, 1) := by decide +kernel
theorem dX0_takePart_1 : decode cX0_takePart 1 = .ok (.iload_n 1, 1) := by decide +kernel
theorem dX0_takePart_2 : decode cX0_takePart 2 = .ok (.invokevirtual 47, 3) := by decide +kernel
theorem dX0_takePart_5 : decode cX0_takePart 5 = .ok (.ifCond .eq 13, 3) := by decide +kernel
theorem dX0_takePart_8 : decode cX0_takePart 8 = .ok (.aload_n 0, 1) := by decide +kernel
theorem dX0_takePart_9 : decode cX0_takePart 9 = .ok (.iconst 0, 1) := by decide +kernel
theorem dX0_takePart_10 : decode cX0_takePart 10 = .ok (.bipush 9, 2) := by decide +kernel
theorem dX0_takePart_12 : decode cX0_takePart 12 = .ok (.invokevirtual 51, 3) := by decide +kernel
theorem dX0_takePart_15 : decode cX0_takePart 15 = .ok (.goto 4, 3) := by decide +kernel
theorem dX0_takePart_18 : decode cX0_takePart 18 = .ok (.iconst 0, 1) := by decide +kernel
theorem dX0_takePart_19 : decode cX0_takePart 19 = .ok (.ireturn, 1) := by decide +kernel
set_option maxRecDepth 20000 in
theorem ggX0_takeSize_X0_takeDigit : GoodIn wsX0_takeSize wsX0_takeDigit := goodIn_r _ [5, 6, 7, 8, 9, 10, 11, 12, 13, 14, 15, 16, 17, 18, 19] (by decide +kernel) (by decide +kernel)
set_option maxRecDepth 20000 in
theorem gX0_takeSize_X0_takeDigit : GoodIn wsX0_takeSize (wsV RX0 51 RX0 yX0_takeDigit wsX0_takeDigit) := goodIn_app (goodIn_of _ (by decide +kernel)) ggX0_takeSize_X0_takeDigit
theorem dX0_takeSize_0 : decode cX0_takeSize 0 = .ok (.aload_n 0, 1) := by decide +kernel
theorem dX0_takeSize_1 : decode cX0_takeSize 1 = .ok (.iconst 1, 1) := by decide +kernel
theorem dX0_takeSize_2 : decode cX0_takeSize 2 = .ok (.bipush 9, 2) := by decide +kernel
theorem dX0_takeSize_4 : decode cX0_takeSize 4 = .ok (.invokevirtual 51, 3) := by decide +kernel
theorem dX0_takeSize_7 : decode cX0_takeSize 7 = .ok (.istore_n 1, 1) := by decide +kernel
theorem dX0_takeSize_8 : decode cX0_takeSize 8 = .ok (.iload_n 1, 1) := by decide +kernel
theorem dX0_takeSize_9 : decode cX0_takeSize 9 = .ok (.ifCond .lt 8, 3) := by decide +kernel
theorem dX0_takeSize_12 : decode cX0_takeSize 12 = .ok (.iload_n 1, 1) := by decide +kernel
theorem dX0_takeSize_13 : decode cX0_takeSize 13 = .ok (.iconst 3, 1) := by decide +kernel
theorem dX0_takeSize_14 : decode cX0_takeSize 14 = .ok (.if_icmp .le 5, 3) := by decide +kernel
theorem dX0_takeSize_17 : decode cX0_takeSize 17 = .ok (.iload_n 1, 1) := by decide +kernel
theorem dX0_takeSize_18 : decode cX0_takeSize 18 = .ok (.ireturn, 1) := by decide +kernel
theorem dX0_takeSize_19 : decode cX0_takeSize 19 = .ok (.aload_n 0, 1) := by decide +kernel
theorem dX0_takeSize_20 : decode cX0_takeSize 20 = .ok (.iconst 0, 1) := by decide +kernel
theorem dX0_takeSize_21 : decode cX0_takeSize 21 = .ok (.iload_n 1, 1) := by decide +kernel
theorem dX0_takeSize_22 : decode cX0_takeSize 22 = .ok (.iconst 3, 1) := by decide +kernel
theorem dX0_takeSize_23 : decode cX0_takeSize 23 = .ok (.if_icmp .ne 7, 3) := by decide +kernel
theorem dX0_takeSize_26 : decode cX0_takeSize 26 = .ok (.iconst 0, 1) := by decide +kernel
theorem dX0_takeSize_27 : decode cX0_takeSize 27 = .ok (.goto 5, 3) := by decide +kernel
theorem dX0_takeSize_30 : decode cX0_takeSize 30 = .ok (.bipush 9, 2) := by decide +kernel
theorem dX0_takeSize_32 : decode cX0_takeSize 32 = .ok (.invokevirtual 51, 3) := by decide +kernel
theorem dX0_takeSize_35 : decode cX0_takeSize 35 = .ok (.istore_n 2, 1) := by decide +kernel
theorem dX0_takeSize_36 : decode cX0_takeSize 36 = .ok (.iload_n 2, 1) := by decide +kernel
theorem dX0_takeSize_37 : decode cX0_takeSize 37 = .ok (.ifCond .ge 7, 3) := by decide +kernel
theorem dX0_takeSize_40 : decode cX0_takeSize 40 = .ok (.iload_n 1, 1) := by decide +kernel
theorem dX0_takeSize_41 : decode cX0_takeSize 41 = .ok (.goto 9, 3) := by decide +kernel
theorem dX0_takeSize_44 : decode cX0_takeSize 44 = .ok (.bipush 10, 2) := by decide +kernel
theorem dX0_takeSize_46 : decode cX0_takeSize 46 = .ok (.iload_n 1, 1) := by decide +kernel
theorem dX0_takeSize_47 : decode cX0_takeSize 47 = .ok (.imul, 1) := by decide +kernel
theorem dX0_takeSize_48 : decode cX0_takeSize 48 = .ok (.iload_n 2, 1) := by decide +kernel
theorem dX0_takeSize_49 : decode cX0_takeSize 49 = .ok (.iadd, 1) := by decide +kernel
theorem dX0_takeSize_50 : decode cX0_takeSize 50 = .ok (.ireturn, 1) := by decide +kernel
theorem dX0_takeSign_0 : decode cX0_takeSign 0 = .ok (.aload_n 0, 1) := by decide +kernel
theorem dX0_takeSign_1 : decode cX0_takeSign 1 = .ok (.getfield 31, 3) := by decide +kernel
theorem dX0_takeSign_4 : decode cX0_takeSign 4 = .ok (.aload_n 0, 1) := by decide +kernel
theorem dX0_takeSign_5 : decode cX0_takeSign 5 = .ok (.getfield 34, 3) := by decide +kernel
theorem dX0_takeSign_8 : decode cX0_takeSign 8 = .ok (.getfield 42, 3) := by decide +kernel
theorem dX0_takeSign_11 : decode cX0_takeSign 11 = .ok (.if_icmp .ge 19, 3) := by decide +kernel
theorem dX0_takeSign_14 : decode cX0_takeSign 14 = .ok (.aload_n 0, 1) := by decide +kernel
theorem dX0_takeSign_15 : decode cX0_takeSign 15 = .ok (.getfield 34, 3) := by decide +kernel
theorem dX0_takeSign_18 : decode cX0_takeSign 18 = .ok (.getfield 63, 3) := by decide +kernel
theorem dX0_takeSign_21 : decode cX0_takeSign 21 = .ok (.aload_n 0, 1) := by decide +kernel
theorem dX0_takeSign_22 : decode cX0_takeSign 22 = .ok (.getfield 31, 3) := by decide +kernel
theorem dX0_takeSign_25 : decode cX0_takeSign 25 = .ok (.caload, 1) := by decide +kernel
theorem dX0_takeSign_26 : decode cX0_takeSign 26 = .ok (.iload_n 1, 1) := by decide +kernel
theorem dX0_takeSign_27 : decode cX0_takeSign 27 = .ok (.if_icmp .eq 5, 3) := by decide +kernel
theorem dX0_takeSign_30 : decode cX0_takeSign 30 = .ok (.iconst 0, 1) := by decide +kernel
theorem dX0_takeSign_31 : decode cX0_takeSign 31 = .ok (.ireturn, 1) := by decide +kernel
theorem dX0_takeSign_32 : decode cX0_takeSign 32 = .ok (.aload_n 0, 1) := by decide +kernel
theorem dX0_takeSign_33 : decode cX0_takeSign 33 = .ok (.dup, 1) := by decide +kernel
theorem dX0_takeSign_34 : decode cX0_takeSign 34 = .ok (.getfield 31, 3) := by decide +kernel
theorem dX0_takeSign_37 : decode cX0_takeSign 37 = .ok (.iconst 1, 1) := by decide +kernel
theorem dX0_takeSign_38 : decode cX0_takeSign 38 = .ok (.iadd, 1) := by decide +kernel
theorem dX0_takeSign_39 : decode cX0_takeSign 39 = .ok (.putfield 31, 3) := by decide +kernel
theorem dX0_takeSign_42 : decode cX0_takeSign 42 = .ok (.iconst 1, 1) := by decide +kernel
theorem dX0_takeSign_43 : decode cX0_takeSign 43 = .ok (.ireturn, 1) := by decide +kernel
theorem dX0_takeDigit_0 : decode cX0_takeDigit 0 = .ok (.aload_n 0, 1) := by decide +kernel
theorem dX0_takeDigit_1 : decode cX0_takeDigit 1 = .ok (.getfield 31, 3) := by decide +kernel
theorem dX0_takeDigit_4 : decode cX0_takeDigit 4 = .ok (.aload_n 0, 1) := by decide +kernel
theorem dX0_takeDigit_5 : decode cX0_takeDigit 5 = .ok (.getfield 34, 3) := by decide +kernel
theorem dX0_takeDigit_8 : decode cX0_takeDigit 8 = .ok (.getfield 42, 3) := by decide +kernel
theorem dX0_takeDigit_11 : decode cX0_takeDigit 11 = .ok (.if_icmp .lt 5, 3) := by decide +kernel
theorem dX0_takeDigit_14 : decode cX0_takeDigit 14 = .ok (.iconst (-1), 1) := by decide +kernel
theorem dX0_takeDigit_15 : decode cX0_takeDigit 15 = .ok (.ireturn, 1) := by decide +kernel
theorem dX0_takeDigit_16 : decode cX0_takeDigit 16 = .ok (.aload_n 0, 1) := by decide +kernel
theorem dX0_takeDigit_17 : decode cX0_takeDigit 17 = .ok (.getfield 34, 3) := by decide +kernel
theorem dX0_takeDigit_20 : decode cX0_takeDigit 20 = .ok (.getfield 63, 3) := by decide +kernel
theorem dX0_takeDigit_23 : decode cX0_takeDigit 23 = .ok (.aload_n 0, 1) := by decide +kernel
theorem dX0_takeDigit_24 : decode cX0_takeDigit 24 = .ok (.getfield 31, 3) := by decide +kernel
theorem dX0_takeDigit_27 : decode cX0_takeDigit 27 = .ok (.caload, 1) := by decide +kernel
theorem dX0_takeDigit_28 : decode cX0_takeDigit 28 = .ok (.bipush 48, 2) := by decide +kernel
theorem dX0_takeDigit_30 : decode cX0_takeDigit 30 = .ok (.isub, 1) := by decide +kernel
theorem dX0_takeDigit_31 : decode cX0_takeDigit 31 = .ok (.istore_n 3, 1) := by decide +kernel
theorem dX0_takeDigit_32 : decode cX0_takeDigit 32 = .ok (.iload_n 3, 1) := by decide +kernel
theorem dX0_takeDigit_33 : decode cX0_takeDigit 33 = .ok (.iload_n 1, 1) := by decide +kernel
theorem dX0_takeDigit_34 : decode cX0_takeDigit 34 = .ok (.if_icmp .lt 8, 3) := by decide +kernel
theorem dX0_takeDigit_37 : decode cX0_takeDigit 37 = .ok (.iload_n 3, 1) := by decide +kernel
theorem dX0_takeDigit_38 : decode cX0_takeDigit 38 = .ok (.iload_n 2, 1) := by decide +kernel
theorem dX0_takeDigit_39 : decode cX0_takeDigit 39 = .ok (.if_icmp .le 5, 3) := by decide +kernel
theorem dX0_takeDigit_42 : decode cX0_takeDigit 42 = .ok (.iconst (-1), 1) := by decide +kernel
theorem dX0_takeDigit_43 : decode cX0_takeDigit 43 = .ok (.ireturn, 1) := by decide +kernel
theorem dX0_takeDigit_44 : decode cX0_takeDigit 44 = .ok (.aload_n 0, 1) := by decide +kernel
theorem dX0_takeDigit_45 : decode cX0_takeDigit 45 = .ok (.dup, 1) := by decide +kernel
theorem dX0_takeDigit_46 : decode cX0_takeDigit 46 = .ok (.getfield 31, 3) := by decide +kernel
theorem dX0_takeDigit_49 : decode cX0_takeDigit 49 = .ok (.iconst 1, 1) := by decide +kernel
theorem dX0_takeDigit_50 : decode cX0_takeDigit 50 = .ok (.iadd, 1) := by decide +kernel
theorem dX0_takeDigit_51 : decode cX0_takeDigit 51 = .ok (.putfield 31, 3) := by decide +kernel
theorem dX0_takeDigit_54 : decode cX0_takeDigit 54 = .ok (.iload_n 3, 1) := by decide +kernel
theorem dX0_takeDigit_55 : decode cX0_takeDigit 55 = .ok (.ireturn, 1) := by decide +kernel
theorem dX1_init_0 : decode cX1_init 0 = .ok (.aload_n 0, 1) := by decide +kernel
theorem dX1_init_1 : decode cX1_init 1 = .ok (.invokespecial 3, 3) := by decide +kernel
theorem dX1_init_4 : decode cX1_init 4 = .ok (.aload_n 0, 1) := by decide +kernel
theorem dX1_init_5 : decode cX1_init 5 = .ok (.bipush 40, 2) := by decide +kernel
theorem dX1_init_7 : decode cX1_init 7 = .ok (.newarray .int, 2) := by decide +kernel
theorem dX1_init_9 : decode cX1_init 9 = .ok (.putfield 9, 3) := by decide +kernel
theorem dX1_init_12 : decode cX1_init 12 = .ok (.aload_n 0, 1) := by decide +kernel
theorem dX1_init_13 : decode cX1_init 13 = .ok (.bipush 40, 2) := by decide +kernel
theorem dX1_init_15 : decode cX1_init 15 = .ok (.newarray .int, 2) := by decide +kernel
theorem dX1_init_17 : decode cX1_init 17 = .ok (.putfield 15, 3) := by decide +kernel
theorem dX1_init_20 : decode cX1_init 20 = .ok (.aload_n 0, 1) := by decide +kernel
theorem dX1_init_21 : decode cX1_init 21 = .ok (.bipush 40, 2) := by decide +kernel
theorem dX1_init_23 : decode cX1_init 23 = .ok (.newarray .int, 2) := by decide +kernel
theorem dX1_init_25 : decode cX1_init 25 = .ok (.putfield 18, 3) := by decide +kernel
theorem dX1_init_28 : decode cX1_init 28 = .ok (.aload_n 0, 1) := by decide +kernel
theorem dX1_init_29 : decode cX1_init 29 = .ok (.bipush 40, 2) := by decide +kernel
theorem dX1_init_31 : decode cX1_init 31 = .ok (.newarray .int, 2) := by decide +kernel
theorem dX1_init_33 : decode cX1_init 33 = .ok (.putfield 21, 3) := by decide +kernel
theorem dX1_init_36 : decode cX1_init 36 = .ok (.aload_n 0, 1) := by decide +kernel
theorem dX1_init_37 : decode cX1_init 37 = .ok (.bipush 40, 2) := by decide +kernel
theorem dX1_init_39 : decode cX1_init 39 = .ok (.newarray .int, 2) := by decide +kernel
theorem dX1_init_41 : decode cX1_init 41 = .ok (.putfield 24, 3) := by decide +kernel
theorem dX1_init_44 : decode cX1_init 44 = .ok (.aload_n 0, 1) := by decide +kernel
theorem dX1_init_45 : decode cX1_init 45 = .ok (.bipush 40, 2) := by decide +kernel
theorem dX1_init_47 : decode cX1_init 47 = .ok (.newarray .int, 2) := by decide +kernel
theorem dX1_init_49 : decode cX1_init 49 = .ok (.putfield 27, 3) := by decide +kernel
theorem dX1_init_52 : decode cX1_init 52 = .ok (.aload_n 0, 1) := by decide +kernel
theorem dX1_init_53 : decode cX1_init 53 = .ok (.iconst 0, 1) := by decide +kernel
theorem dX1_init_54 : decode cX1_init 54 = .ok (.putfield 30, 3) := by decide +kernel
theorem dX1_init_57 : decode cX1_init 57 = .ok (.return_, 1) := by decide +kernel
theorem dX1_has_0 : decode cX1_has 0 = .ok (.iload_n 1, 1) := by decide +kernel
theorem dX1_has_1 : decode cX1_has 1 = .ok (.ifCond .lt 15, 3) := by decide +kernel
theorem dX1_has_4 : decode cX1_has 4 = .ok (.iload_n 1, 1) := by decide +kernel
theorem dX1_has_5 : decode cX1_has 5 = .ok (.aload_n 0, 1) := by decide +kernel
theorem dX1_has_6 : decode cX1_has 6 = .ok (.getfield 30, 3) := by decide +kernel
theorem dX1_has_9 : decode cX1_has 9 = .ok (.if_icmp .ge 7, 3) := by decide +kernel
theorem dX1_has_12 : decode cX1_has 12 = .ok (.iconst 1, 1) := by decide +kernel
theorem dX1_has_13 : decode cX1_has 13 = .ok (.goto 4, 3) := by decide +kernel
theorem dX1_has_16 : decode cX1_has 16 = .ok (.iconst 0, 1) := by decide +kernel
theorem dX1_has_17 : decode cX1_has 17 = .ok (.ireturn, 1) := by decide +kernel
theorem dX1_brighten_0 : decode cX1_brighten 0 = .ok (.aload_n 0, 1) := by decide +kernel
theorem dX1_brighten_1 : decode cX1_brighten 1 = .ok (.getfield 24, 3) := by decide +kernel
theorem dX1_brighten_4 : decode cX1_brighten 4 = .ok (.iload_n 1, 1) := by decide +kernel
theorem dX1_brighten_5 : decode cX1_brighten 5 = .ok (.dup2, 1) := by decide +kernel
theorem dX1_brighten_6 : decode cX1_brighten 6 = .ok (.iaload, 1) := by decide +kernel
theorem dX1_brighten_7 : decode cX1_brighten 7 = .ok (.iconst 1, 1) := by decide +kernel
theorem dX1_brighten_8 : decode cX1_brighten 8 = .ok (.iadd, 1) := by decide +kernel
theorem dX1_brighten_9 : decode cX1_brighten 9 = .ok (.iastore, 1) := by decide +kernel
theorem dX1_brighten_10 : decode cX1_brighten 10 = .ok (.aload_n 0, 1) := by decide +kernel
theorem dX1_brighten_11 : decode cX1_brighten 11 = .ok (.getfield 21, 3) := by decide +kernel
theorem dX1_brighten_14 : decode cX1_brighten 14 = .ok (.iload_n 1, 1) := by decide +kernel
theorem dX1_brighten_15 : decode cX1_brighten 15 = .ok (.iaload, 1) := by decide +kernel
theorem dX1_brighten_16 : decode cX1_brighten 16 = .ok (.ifCond .le 13, 3) := by decide +kernel
theorem dX1_brighten_19 : decode cX1_brighten 19 = .ok (.aload_n 0, 1) := by decide +kernel
theorem dX1_brighten_20 : decode cX1_brighten 20 = .ok (.getfield 21, 3) := by decide +kernel
theorem dX1_brighten_23 : decode cX1_brighten 23 = .ok (.iload_n 1, 1) := by decide +kernel
theorem dX1_brighten_24 : decode cX1_brighten 24 = .ok (.dup2, 1) := by decide +kernel
theorem dX1_brighten_25 : decode cX1_brighten 25 = .ok (.iaload, 1) := by decide +kernel
theorem dX1_brighten_26 : decode cX1_brighten 26 = .ok (.iconst 1, 1) := by decide +kernel
theorem dX1_brighten_27 : decode cX1_brighten 27 = .ok (.isub, 1) := by decide +kernel
theorem dX1_brighten_28 : decode cX1_brighten 28 = .ok (.iastore, 1) := by decide +kernel
theorem dX1_brighten_29 : decode cX1_brighten 29 = .ok (.return_, 1) := by decide +kernel
theorem dX1_chip_0 : decode cX1_chip 0 = .ok (.aload_n 0, 1) := by decide +kernel
theorem dX1_chip_1 : decode cX1_chip 1 = .ok (.getfield 21, 3) := by decide +kernel
theorem dX1_chip_4 : decode cX1_chip 4 = .ok (.iload_n 1, 1) := by decide +kernel
theorem dX1_chip_5 : decode cX1_chip 5 = .ok (.iaload, 1) := by decide +kernel
theorem dX1_chip_6 : decode cX1_chip 6 = .ok (.bipush 9, 2) := by decide +kernel
theorem dX1_chip_8 : decode cX1_chip 8 = .ok (.if_icmp .ge 13, 3) := by decide +kernel
theorem dX1_chip_11 : decode cX1_chip 11 = .ok (.aload_n 0, 1) := by decide +kernel
theorem dX1_chip_12 : decode cX1_chip 12 = .ok (.getfield 21, 3) := by decide +kernel
theorem dX1_chip_15 : decode cX1_chip 15 = .ok (.iload_n 1, 1) := by decide +kernel
theorem dX1_chip_16 : decode cX1_chip 16 = .ok (.dup2, 1) := by decide +kernel
theorem dX1_chip_17 : decode cX1_chip 17 = .ok (.iaload, 1) := by decide +kernel
theorem dX1_chip_18 : decode cX1_chip 18 = .ok (.iconst 1, 1) := by decide +kernel
theorem dX1_chip_19 : decode cX1_chip 19 = .ok (.iadd, 1) := by decide +kernel
theorem dX1_chip_20 : decode cX1_chip 20 = .ok (.iastore, 1) := by decide +kernel
theorem dX1_chip_21 : decode cX1_chip 21 = .ok (.return_, 1) := by decide +kernel
theorem dX1_chipSum_0 : decode cX1_chipSum 0 = .ok (.iconst 0, 1) := by decide +kernel
theorem dX1_chipSum_1 : decode cX1_chipSum 1 = .ok (.istore_n 1, 1) := by decide +kernel
theorem dX1_chipSum_2 : decode cX1_chipSum 2 = .ok (.iconst 0, 1) := by decide +kernel
theorem dX1_chipSum_3 : decode cX1_chipSum 3 = .ok (.istore_n 2, 1) := by decide +kernel
theorem dX1_chipSum_4 : decode cX1_chipSum 4 = .ok (.iload_n 2, 1) := by decide +kernel
theorem dX1_chipSum_5 : decode cX1_chipSum 5 = .ok (.aload_n 0, 1) := by decide +kernel
theorem dX1_chipSum_6 : decode cX1_chipSum 6 = .ok (.getfield 30, 3) := by decide +kernel
theorem dX1_chipSum_9 : decode cX1_chipSum 9 = .ok (.if_icmp .ge 18, 3) := by decide +kernel
theorem dX1_chipSum_12 : decode cX1_chipSum 12 = .ok (.iload_n 1, 1) := by decide +kernel
theorem dX1_chipSum_13 : decode cX1_chipSum 13 = .ok (.aload_n 0, 1) := by decide +kernel
theorem dX1_chipSum_14 : decode cX1_chipSum 14 = .ok (.getfield 21, 3) := by decide +kernel
theorem dX1_chipSum_17 : decode cX1_chipSum 17 = .ok (.iload_n 2, 1) := by decide +kernel
theorem dX1_chipSum_18 : decode cX1_chipSum 18 = .ok (.iaload, 1) := by decide +kernel
theorem dX1_chipSum_19 : decode cX1_chipSum 19 = .ok (.iadd, 1) := by decide +kernel
theorem dX1_chipSum_20 : decode cX1_chipSum 20 = .ok (.istore_n 1, 1) := by decide +kernel
theorem dX1_chipSum_21 : decode cX1_chipSum 21 = .ok (.iinc 2 1, 3) := by decide +kernel
theorem dX1_chipSum_24 : decode cX1_chipSum 24 = .ok (.goto (-20), 3) := by decide +kernel
theorem dX1_chipSum_27 : decode cX1_chipSum 27 = .ok (.iload_n 1, 1) := by decide +kernel
theorem dX1_chipSum_28 : decode cX1_chipSum 28 = .ok (.ireturn, 1) := by decide +kernel
theorem dX1_copyFrom_0 : decode cX1_copyFrom 0 = .ok (.aload_n 0, 1) := by decide +kernel
theorem dX1_copyFrom_1 : decode cX1_copyFrom 1 = .ok (.aload_n 1, 1) := by decide +kernel
theorem dX1_copyFrom_2 : decode cX1_copyFrom 2 = .ok (.getfield 30, 3) := by decide +kernel
theorem dX1_copyFrom_5 : decode cX1_copyFrom 5 = .ok (.putfield 30, 3) := by decide +kernel
theorem dX1_copyFrom_8 : decode cX1_copyFrom 8 = .ok (.aload_n 1, 1) := by decide +kernel
theorem dX1_copyFrom_9 : decode cX1_copyFrom 9 = .ok (.getfield 9, 3) := by decide +kernel
theorem dX1_copyFrom_12 : decode cX1_copyFrom 12 = .ok (.iconst 0, 1) := by decide +kernel
theorem dX1_copyFrom_13 : decode cX1_copyFrom 13 = .ok (.aload_n 0, 1) := by decide +kernel
theorem dX1_copyFrom_14 : decode cX1_copyFrom 14 = .ok (.getfield 9, 3) := by decide +kernel
theorem dX1_copyFrom_17 : decode cX1_copyFrom 17 = .ok (.iconst 0, 1) := by decide +kernel
theorem dX1_copyFrom_18 : decode cX1_copyFrom 18 = .ok (.bipush 40, 2) := by decide +kernel
theorem dX1_copyFrom_20 : decode cX1_copyFrom 20 = .ok (.invokestatic 34, 3) := by decide +kernel
theorem dX1_copyFrom_23 : decode cX1_copyFrom 23 = .ok (.aload_n 1, 1) := by decide +kernel
theorem dX1_copyFrom_24 : decode cX1_copyFrom 24 = .ok (.getfield 15, 3) := by decide +kernel
theorem dX1_copyFrom_27 : decode cX1_copyFrom 27 = .ok (.iconst 0, 1) := by decide +kernel
theorem dX1_copyFrom_28 : decode cX1_copyFrom 28 = .ok (.aload_n 0, 1) := by decide +kernel
theorem dX1_copyFrom_29 : decode cX1_copyFrom 29 = .ok (.getfield 15, 3) := by decide +kernel
theorem dX1_copyFrom_32 : decode cX1_copyFrom 32 = .ok (.iconst 0, 1) := by decide +kernel
theorem dX1_copyFrom_33 : decode cX1_copyFrom 33 = .ok (.bipush 40, 2) := by decide +kernel
theorem dX1_copyFrom_35 : decode cX1_copyFrom 35 = .ok (.invokestatic 34, 3) := by decide +kernel
theorem dX1_copyFrom_38 : decode cX1_copyFrom 38 = .ok (.aload_n 1, 1) := by decide +kernel
theorem dX1_copyFrom_39 : decode cX1_copyFrom 39 = .ok (.getfield 18, 3) := by decide +kernel
theorem dX1_copyFrom_42 : decode cX1_copyFrom 42 = .ok (.iconst 0, 1) := by decide +kernel
theorem dX1_copyFrom_43 : decode cX1_copyFrom 43 = .ok (.aload_n 0, 1) := by decide +kernel
theorem dX1_copyFrom_44 : decode cX1_copyFrom 44 = .ok (.getfield 18, 3) := by decide +kernel
theorem dX1_copyFrom_47 : decode cX1_copyFrom 47 = .ok (.iconst 0, 1) := by decide +kernel
theorem dX1_copyFrom_48 : decode cX1_copyFrom 48 = .ok (.bipush 40, 2) := by decide +kernel
theorem dX1_copyFrom_50 : decode cX1_copyFrom 50 = .ok (.invokestatic 34, 3) := by decide +kernel
theorem dX1_copyFrom_53 : decode cX1_copyFrom 53 = .ok (.aload_n 1, 1) := by decide +kernel
theorem dX1_copyFrom_54 : decode cX1_copyFrom 54 = .ok (.getfield 21, 3) := by decide +kernel
theorem dX1_copyFrom_57 : decode cX1_copyFrom 57 = .ok (.iconst 0, 1) := by decide +kernel
theorem dX1_copyFrom_58 : decode cX1_copyFrom 58 = .ok (.aload_n 0, 1) := by decide +kernel
theorem dX1_copyFrom_59 : decode cX1_copyFrom 59 = .ok (.getfield 21, 3) := by decide +kernel
theorem dX1_copyFrom_62 : decode cX1_copyFrom 62 = .ok (.iconst 0, 1) := by decide +kernel
theorem dX1_copyFrom_63 : decode cX1_copyFrom 63 = .ok (.bipush 40, 2) := by decide +kernel
theorem dX1_copyFrom_65 : decode cX1_copyFrom 65 = .ok (.invokestatic 34, 3) := by decide +kernel
theorem dX1_copyFrom_68 : decode cX1_copyFrom 68 = .ok (.aload_n 1, 1) := by decide +kernel
theorem dX1_copyFrom_69 : decode cX1_copyFrom 69 = .ok (.getfield 24, 3) := by decide +kernel
theorem dX1_copyFrom_72 : decode cX1_copyFrom 72 = .ok (.iconst 0, 1) := by decide +kernel
theorem dX1_copyFrom_73 : decode cX1_copyFrom 73 = .ok (.aload_n 0, 1) := by decide +kernel
theorem dX1_copyFrom_74 : decode cX1_copyFrom 74 = .ok (.getfield 24, 3) := by decide +kernel
theorem dX1_copyFrom_77 : decode cX1_copyFrom 77 = .ok (.iconst 0, 1) := by decide +kernel
theorem dX1_copyFrom_78 : decode cX1_copyFrom 78 = .ok (.bipush 40, 2) := by decide +kernel
theorem dX1_copyFrom_80 : decode cX1_copyFrom 80 = .ok (.invokestatic 34, 3) := by decide +kernel
theorem dX1_copyFrom_83 : decode cX1_copyFrom 83 = .ok (.aload_n 1, 1) := by decide +kernel
theorem dX1_copyFrom_84 : decode cX1_copyFrom 84 = .ok (.getfield 27, 3) := by decide +kernel
theorem dX1_copyFrom_87 : decode cX1_copyFrom 87 = .ok (.iconst 0, 1) := by decide +kernel
theorem dX1_copyFrom_88 : decode cX1_copyFrom 88 = .ok (.aload_n 0, 1) := by decide +kernel
theorem dX1_copyFrom_89 : decode cX1_copyFrom 89 = .ok (.getfield 27, 3) := by decide +kernel
theorem dX1_copyFrom_92 : decode cX1_copyFrom 92 = .ok (.iconst 0, 1) := by decide +kernel
theorem dX1_copyFrom_93 : decode cX1_copyFrom 93 = .ok (.bipush 40, 2) := by decide +kernel
theorem dX1_copyFrom_95 : decode cX1_copyFrom 95 = .ok (.invokestatic 34, 3) := by decide +kernel
theorem dX1_copyFrom_98 : decode cX1_copyFrom 98 = .ok (.return_, 1) := by decide +kernel
set_option maxRecDepth 20000 in
theorem ggX2_init_X5_init : GoodIn wsX2_init wsX5_init := goodIn_r _ [10, 11, 2, 3, 12, 13, 14, 15, 16, 17, 18, 19, 20, 21, 22, 23, 24, 25, 26, 27, 28, 29, 30, 31, 32, 33, 34, 35, 36, 37, 38, 39, 40, 41, 42, 43, 44, 45, 46, 47, 48, 49, 50, 51, 62, 63, 64, 65, 66, 67, 68, 54, 55, 56, 57, 58, 59, 60, 61, 69, 70, 71, 72, 73, 74] (by decide +kernel) (by decide +kernel)
set_option maxRecDepth 20000 in
theorem gX2_init_X5_init_n21 : GoodIn wsX2_init (wsX5_init) := ggX2_init_X5_init
theorem dX2_init_0 : decode cX2_init 0 = .ok (.aload_n 0, 1) := by decide +kernel
theorem dX2_init_1 : decode cX2_init 1 = .ok (.invokespecial 3, 3) := by decide +kernel
theorem dX2_init_4 : decode cX2_init 4 = .ok (.aload_n 0, 1) := by decide +kernel
theorem dX2_init_5 : decode cX2_init 5 = .ok (.iconst 4, 1) := by decide +kernel
theorem dX2_init_6 : decode cX2_init 6 = .ok (.anewarray 9, 3) := by decide +kernel
theorem dX2_init_9 : decode cX2_init 9 = .ok (.putfield 11, 3) := by decide +kernel
theorem dX2_init_12 : decode cX2_init 12 = .ok (.aload_n 0, 1) := by decide +kernel
theorem dX2_init_13 : decode cX2_init 13 = .ok (.iconst 0, 1) := by decide +kernel
theorem dX2_init_14 : decode cX2_init 14 = .ok (.putfield 17, 3) := by decide +kernel
theorem dX2_init_17 : decode cX2_init 17 = .ok (.iconst 0, 1) := by decide +kernel
theorem dX2_init_18 : decode cX2_init 18 = .ok (.istore_n 1, 1) := by decide +kernel
theorem dX2_init_19 : decode cX2_init 19 = .ok (.iload_n 1, 1) := by decide +kernel
theorem dX2_init_20 : decode cX2_init 20 = .ok (.iconst 4, 1) := by decide +kernel
theorem dX2_init_21 : decode cX2_init 21 = .ok (.if_icmp .ge 22, 3) := by decide +kernel
theorem dX2_init_24 : decode cX2_init 24 = .ok (.aload_n 0, 1) := by decide +kernel
theorem dX2_init_25 : decode cX2_init 25 = .ok (.getfield 11, 3) := by decide +kernel
theorem dX2_init_28 : decode cX2_init 28 = .ok (.iload_n 1, 1) := by decide +kernel
theorem dX2_init_29 : decode cX2_init 29 = .ok (.new 9, 3) := by decide +kernel
theorem dX2_init_32 : decode cX2_init 32 = .ok (.dup, 1) := by decide +kernel
theorem dX2_init_33 : decode cX2_init 33 = .ok (.invokespecial 21, 3) := by decide +kernel
theorem dX2_init_36 : decode cX2_init 36 = .ok (.aastore, 1) := by decide +kernel
theorem dX2_init_37 : decode cX2_init 37 = .ok (.iinc 1 1, 3) := by decide +kernel
theorem dX2_init_40 : decode cX2_init 40 = .ok (.goto (-21), 3) := by decide +kernel
theorem dX2_init_43 : decode cX2_init 43 = .ok (.return_, 1) := by decide +kernel
set_option maxRecDepth 20000 in
theorem ggX2_remember_X2_dropOldest : GoodIn wsX2_remember wsX2_dropOldest := goodIn_r _ [7, 2, 1, 50, 51] (by decide +kernel) (by decide +kernel)
set_option maxRecDepth 20000 in
theorem gX2_remember_X2_dropOldest : GoodIn wsX2_remember (wsV RX2 22 RX2 yX2_dropOldest wsX2_dropOldest) := goodIn_app (goodIn_of _ (by decide +kernel)) ggX2_remember_X2_dropOldest
set_option maxRecDepth 20000 in
theorem ggX2_remember_X5_copyFrom : GoodIn wsX2_remember wsX5_copyFrom := goodIn_r _ [12, 13, 14, 15, 16, 17, 18, 19, 20, 21, 22, 23, 24, 25, 26, 27, 28, 29, 30, 31, 32, 33, 34, 35, 36, 37, 38, 39, 40, 41, 42, 43, 44, 45, 46, 47, 48, 49, 52, 53, 54, 55, 56, 57, 58, 59, 60, 61, 62, 63, 64, 65, 66, 67, 68, 69, 70, 71, 72] (by decide +kernel) (by decide +kernel)
set_option maxRecDepth 20000 in
theorem gX2_remember_X5_copyFrom : GoodIn wsX2_remember (wsV RX2 25 RX5 yX5_copyFrom wsX5_copyFrom) := goodIn_app (goodIn_of _ (by decide +kernel)) ggX2_remember_X5_copyFrom
theorem dX2_remember_0 : decode cX2_remember 0 = .ok (.aload_n 0, 1) := by decide +kernel
theorem dX2_remember_1 : decode cX2_remember 1 = .ok (.getfield 17, 3) := by decide +kernel
theorem dX2_remember_4 : decode cX2_remember 4 = .ok (.iconst 4, 1) := by decide +kernel
theorem dX2_remember_5 : decode cX2_remember 5 = .ok (.if_icmp .lt 7, 3) := by decide +kernel
theorem dX2_remember_8 : decode cX2_remember 8 = .ok (.aload_n 0, 1) := by decide +kernel
theorem dX2_remember_9 : decode cX2_remember 9 = .ok (.invokevirtual 22, 3) := by decide +kernel
theorem dX2_remember_12 : decode cX2_remember 12 = .ok (.aload_n 0, 1) := by decide +kernel
theorem dX2_remember_13 : decode cX2_remember 13 = .ok (.getfield 11, 3) := by decide +kernel
theorem dX2_remember_16 : decode cX2_remember 16 = .ok (.aload_n 0, 1) := by decide +kernel
theorem dX2_remember_17 : decode cX2_remember 17 = .ok (.getfield 17, 3) := by decide +kernel
theorem dX2_remember_20 : decode cX2_remember 20 = .ok (.aaload, 1) := by decide +kernel
theorem dX2_remember_21 : decode cX2_remember 21 = .ok (.aload_n 1, 1) := by decide +kernel
theorem dX2_remember_22 : decode cX2_remember 22 = .ok (.invokevirtual 25, 3) := by decide +kernel
theorem dX2_remember_25 : decode cX2_remember 25 = .ok (.aload_n 0, 1) := by decide +kernel
theorem dX2_remember_26 : decode cX2_remember 26 = .ok (.dup, 1) := by decide +kernel
theorem dX2_remember_27 : decode cX2_remember 27 = .ok (.getfield 17, 3) := by decide +kernel
theorem dX2_remember_30 : decode cX2_remember 30 = .ok (.iconst 1, 1) := by decide +kernel
theorem dX2_remember_31 : decode cX2_remember 31 = .ok (.iadd, 1) := by decide +kernel
theorem dX2_remember_32 : decode cX2_remember 32 = .ok (.putfield 17, 3) := by decide +kernel
theorem dX2_remember_35 : decode cX2_remember 35 = .ok (.return_, 1) := by decide +kernel
theorem dX2_dropOldest_0 : decode cX2_dropOldest 0 = .ok (.aload_n 0, 1) := by decide +kernel
theorem dX2_dropOldest_1 : decode cX2_dropOldest 1 = .ok (.getfield 11, 3) := by decide +kernel
theorem dX2_dropOldest_4 : decode cX2_dropOldest 4 = .ok (.iconst 0, 1) := by decide +kernel
theorem dX2_dropOldest_5 : decode cX2_dropOldest 5 = .ok (.aaload, 1) := by decide +kernel
theorem dX2_dropOldest_6 : decode cX2_dropOldest 6 = .ok (.astore_n 1, 1) := by decide +kernel
theorem dX2_dropOldest_7 : decode cX2_dropOldest 7 = .ok (.iconst 1, 1) := by decide +kernel
theorem dX2_dropOldest_8 : decode cX2_dropOldest 8 = .ok (.istore_n 2, 1) := by decide +kernel
theorem dX2_dropOldest_9 : decode cX2_dropOldest 9 = .ok (.iload_n 2, 1) := by decide +kernel
theorem dX2_dropOldest_10 : decode cX2_dropOldest 10 = .ok (.iconst 4, 1) := by decide +kernel
theorem dX2_dropOldest_11 : decode cX2_dropOldest 11 = .ok (.if_icmp .ge 23, 3) := by decide +kernel
theorem dX2_dropOldest_14 : decode cX2_dropOldest 14 = .ok (.aload_n 0, 1) := by decide +kernel
theorem dX2_dropOldest_15 : decode cX2_dropOldest 15 = .ok (.getfield 11, 3) := by decide +kernel
theorem dX2_dropOldest_18 : decode cX2_dropOldest 18 = .ok (.iload_n 2, 1) := by decide +kernel
theorem dX2_dropOldest_19 : decode cX2_dropOldest 19 = .ok (.iconst 1, 1) := by decide +kernel
theorem dX2_dropOldest_20 : decode cX2_dropOldest 20 = .ok (.isub, 1) := by decide +kernel
theorem dX2_dropOldest_21 : decode cX2_dropOldest 21 = .ok (.aload_n 0, 1) := by decide +kernel
theorem dX2_dropOldest_22 : decode cX2_dropOldest 22 = .ok (.getfield 11, 3) := by decide +kernel
theorem dX2_dropOldest_25 : decode cX2_dropOldest 25 = .ok (.iload_n 2, 1) := by decide +kernel
theorem dX2_dropOldest_26 : decode cX2_dropOldest 26 = .ok (.aaload, 1) := by decide +kernel
theorem dX2_dropOldest_27 : decode cX2_dropOldest 27 = .ok (.aastore, 1) := by decide +kernel
theorem dX2_dropOldest_28 : decode cX2_dropOldest 28 = .ok (.iinc 2 1, 3) := by decide +kernel
theorem dX2_dropOldest_31 : decode cX2_dropOldest 31 = .ok (.goto (-22), 3) := by decide +kernel
theorem dX2_dropOldest_34 : decode cX2_dropOldest 34 = .ok (.aload_n 0, 1) := by decide +kernel
theorem dX2_dropOldest_35 : decode cX2_dropOldest 35 = .ok (.getfield 11, 3) := by decide +kernel
theorem dX2_dropOldest_38 : decode cX2_dropOldest 38 = .ok (.iconst 3, 1) := by decide +kernel
theorem dX2_dropOldest_39 : decode cX2_dropOldest 39 = .ok (.aload_n 1, 1) := by decide +kernel
theorem dX2_dropOldest_40 : decode cX2_dropOldest 40 = .ok (.aastore, 1) := by decide +kernel
theorem dX2_dropOldest_41 : decode cX2_dropOldest 41 = .ok (.aload_n 0, 1) := by decide +kernel
theorem dX2_dropOldest_42 : decode cX2_dropOldest 42 = .ok (.dup, 1) := by decide +kernel
theorem dX2_dropOldest_43 : decode cX2_dropOldest 43 = .ok (.getfield 17, 3) := by decide +kernel
theorem dX2_dropOldest_46 : decode cX2_dropOldest 46 = .ok (.iconst 1, 1) := by decide +kernel
theorem dX2_dropOldest_47 : decode cX2_dropOldest 47 = .ok (.isub, 1) := by decide +kernel
theorem dX2_dropOldest_48 : decode cX2_dropOldest 48 = .ok (.putfield 17, 3) := by decide +kernel
theorem dX2_dropOldest_51 : decode cX2_dropOldest 51 = .ok (.return_, 1) := by decide +kernel
theorem dX3_init_0 : decode cX3_init 0 = .ok (.aload_n 0, 1) := by decide +kernel
theorem dX3_init_1 : decode cX3_init 1 = .ok (.invokespecial 3, 3) := by decide +kernel
theorem dX3_init_4 : decode cX3_init 4 = .ok (.aload_n 0, 1) := by decide +kernel
theorem dX3_init_5 : decode cX3_init 5 = .ok (.bipush 40, 2) := by decide +kernel
theorem dX3_init_7 : decode cX3_init 7 = .ok (.newarray .int, 2) := by decide +kernel
theorem dX3_init_9 : decode cX3_init 9 = .ok (.putfield 9, 3) := by decide +kernel
theorem dX3_init_12 : decode cX3_init 12 = .ok (.aload_n 0, 1) := by decide +kernel
theorem dX3_init_13 : decode cX3_init 13 = .ok (.bipush 40, 2) := by decide +kernel
theorem dX3_init_15 : decode cX3_init 15 = .ok (.newarray .int, 2) := by decide +kernel
theorem dX3_init_17 : decode cX3_init 17 = .ok (.putfield 15, 3) := by decide +kernel
theorem dX3_init_20 : decode cX3_init 20 = .ok (.aload_n 0, 1) := by decide +kernel
theorem dX3_init_21 : decode cX3_init 21 = .ok (.iconst 0, 1) := by decide +kernel
theorem dX3_init_22 : decode cX3_init 22 = .ok (.putfield 18, 3) := by decide +kernel
theorem dX3_init_25 : decode cX3_init 25 = .ok (.return_, 1) := by decide +kernel
set_option maxRecDepth 20000 in
theorem ggX3_fill_X3_insert : GoodIn wsX3_fill wsX3_insert := goodIn_r _ [11, 1, 12, 13, 14, 15, 16] (by decide +kernel) (by decide +kernel)
set_option maxRecDepth 20000 in
theorem gX3_fill_X3_insert : GoodIn wsX3_fill (wsV RX3 41 RX3 yX3_insert wsX3_insert) := goodIn_app (goodIn_of _ (by decide +kernel)) ggX3_fill_X3_insert
theorem dX3_fill_0 : decode cX3_fill 0 = .ok (.aload_n 0, 1) := by decide +kernel
theorem dX3_fill_1 : decode cX3_fill 1 = .ok (.iconst 0, 1) := by decide +kernel
theorem dX3_fill_2 : decode cX3_fill 2 = .ok (.putfield 18, 3) := by decide +kernel
theorem dX3_fill_5 : decode cX3_fill 5 = .ok (.iconst 0, 1) := by decide +kernel
theorem dX3_fill_6 : decode cX3_fill 6 = .ok (.istore_n 3, 1) := by decide +kernel
theorem dX3_fill_7 : decode cX3_fill 7 = .ok (.iload_n 3, 1) := by decide +kernel
theorem dX3_fill_8 : decode cX3_fill 8 = .ok (.bipush 40, 2) := by decide +kernel
theorem dX3_fill_10 : decode cX3_fill 10 = .ok (.if_icmp .ge 47, 3) := by decide +kernel
theorem dX3_fill_13 : decode cX3_fill 13 = .ok (.iload_n 3, 1) := by decide +kernel
theorem dX3_fill_14 : decode cX3_fill 14 = .ok (.aload_n 1, 1) := by decide +kernel
theorem dX3_fill_15 : decode cX3_fill 15 = .ok (.getfield 22, 3) := by decide +kernel
theorem dX3_fill_18 : decode cX3_fill 18 = .ok (.getfield 28, 3) := by decide +kernel
theorem dX3_fill_21 : decode cX3_fill 21 = .ok (.if_icmp .ge 36, 3) := by decide +kernel
theorem dX3_fill_24 : decode cX3_fill 24 = .ok (.aload_n 1, 1) := by decide +kernel
theorem dX3_fill_25 : decode cX3_fill 25 = .ok (.getfield 31, 3) := by decide +kernel
theorem dX3_fill_28 : decode cX3_fill 28 = .ok (.getfield 35, 3) := by decide +kernel
theorem dX3_fill_31 : decode cX3_fill 31 = .ok (.iload_n 3, 1) := by decide +kernel
theorem dX3_fill_32 : decode cX3_fill 32 = .ok (.iaload, 1) := by decide +kernel
theorem dX3_fill_33 : decode cX3_fill 33 = .ok (.iload_n 2, 1) := by decide +kernel
theorem dX3_fill_34 : decode cX3_fill 34 = .ok (.if_icmp .ne 17, 3) := by decide +kernel
theorem dX3_fill_37 : decode cX3_fill 37 = .ok (.aload_n 0, 1) := by decide +kernel
theorem dX3_fill_38 : decode cX3_fill 38 = .ok (.iload_n 3, 1) := by decide +kernel
theorem dX3_fill_39 : decode cX3_fill 39 = .ok (.aload_n 1, 1) := by decide +kernel
theorem dX3_fill_40 : decode cX3_fill 40 = .ok (.getfield 22, 3) := by decide +kernel
theorem dX3_fill_43 : decode cX3_fill 43 = .ok (.getfield 40, 3) := by decide +kernel
theorem dX3_fill_46 : decode cX3_fill 46 = .ok (.iload_n 3, 1) := by decide +kernel
theorem dX3_fill_47 : decode cX3_fill 47 = .ok (.iaload, 1) := by decide +kernel
theorem dX3_fill_48 : decode cX3_fill 48 = .ok (.invokevirtual 41, 3) := by decide +kernel
theorem dX3_fill_51 : decode cX3_fill 51 = .ok (.iinc 3 1, 3) := by decide +kernel
theorem dX3_fill_54 : decode cX3_fill 54 = .ok (.goto (-47), 3) := by decide +kernel
theorem dX3_fill_57 : decode cX3_fill 57 = .ok (.return_, 1) := by decide +kernel
theorem dX3_insert_0 : decode cX3_insert 0 = .ok (.aload_n 0, 1) := by decide +kernel
theorem dX3_insert_1 : decode cX3_insert 1 = .ok (.getfield 18, 3) := by decide +kernel
theorem dX3_insert_4 : decode cX3_insert 4 = .ok (.istore_n 3, 1) := by decide +kernel
theorem dX3_insert_5 : decode cX3_insert 5 = .ok (.iload_n 3, 1) := by decide +kernel
theorem dX3_insert_6 : decode cX3_insert 6 = .ok (.ifCond .le 49, 3) := by decide +kernel
theorem dX3_insert_9 : decode cX3_insert 9 = .ok (.aload_n 0, 1) := by decide +kernel
theorem dX3_insert_10 : decode cX3_insert 10 = .ok (.getfield 15, 3) := by decide +kernel
theorem dX3_insert_13 : decode cX3_insert 13 = .ok (.iload_n 3, 1) := by decide +kernel
theorem dX3_insert_14 : decode cX3_insert 14 = .ok (.iconst 1, 1) := by decide +kernel
theorem dX3_insert_15 : decode cX3_insert 15 = .ok (.isub, 1) := by decide +kernel
theorem dX3_insert_16 : decode cX3_insert 16 = .ok (.iaload, 1) := by decide +kernel
theorem dX3_insert_17 : decode cX3_insert 17 = .ok (.iload_n 2, 1) := by decide +kernel
theorem dX3_insert_18 : decode cX3_insert 18 = .ok (.if_icmp .le 37, 3) := by decide +kernel
theorem dX3_insert_21 : decode cX3_insert 21 = .ok (.aload_n 0, 1) := by decide +kernel
theorem dX3_insert_22 : decode cX3_insert 22 = .ok (.getfield 9, 3) := by decide +kernel
theorem dX3_insert_25 : decode cX3_insert 25 = .ok (.iload_n 3, 1) := by decide +kernel
theorem dX3_insert_26 : decode cX3_insert 26 = .ok (.aload_n 0, 1) := by decide +kernel
theorem dX3_insert_27 : decode cX3_insert 27 = .ok (.getfield 9, 3) := by decide +kernel
theorem dX3_insert_30 : decode cX3_insert 30 = .ok (.iload_n 3, 1) := by decide +kernel
theorem dX3_insert_31 : decode cX3_insert 31 = .ok (.iconst 1, 1) := by decide +kernel
theorem dX3_insert_32 : decode cX3_insert 32 = .ok (.isub, 1) := by decide +kernel
theorem dX3_insert_33 : decode cX3_insert 33 = .ok (.iaload, 1) := by decide +kernel
theorem dX3_insert_34 : decode cX3_insert 34 = .ok (.iastore, 1) := by decide +kernel
theorem dX3_insert_35 : decode cX3_insert 35 = .ok (.aload_n 0, 1) := by decide +kernel
theorem dX3_insert_36 : decode cX3_insert 36 = .ok (.getfield 15, 3) := by decide +kernel
theorem dX3_insert_39 : decode cX3_insert 39 = .ok (.iload_n 3, 1) := by decide +kernel
theorem dX3_insert_40 : decode cX3_insert 40 = .ok (.aload_n 0, 1) := by decide +kernel
theorem dX3_insert_41 : decode cX3_insert 41 = .ok (.getfield 15, 3) := by decide +kernel
theorem dX3_insert_44 : decode cX3_insert 44 = .ok (.iload_n 3, 1) := by decide +kernel
theorem dX3_insert_45 : decode cX3_insert 45 = .ok (.iconst 1, 1) := by decide +kernel
theorem dX3_insert_46 : decode cX3_insert 46 = .ok (.isub, 1) := by decide +kernel
theorem dX3_insert_47 : decode cX3_insert 47 = .ok (.iaload, 1) := by decide +kernel
theorem dX3_insert_48 : decode cX3_insert 48 = .ok (.iastore, 1) := by decide +kernel
theorem dX3_insert_49 : decode cX3_insert 49 = .ok (.iinc 3 (-1), 3) := by decide +kernel
theorem dX3_insert_52 : decode cX3_insert 52 = .ok (.goto (-47), 3) := by decide +kernel
theorem dX3_insert_55 : decode cX3_insert 55 = .ok (.aload_n 0, 1) := by decide +kernel
theorem dX3_insert_56 : decode cX3_insert 56 = .ok (.getfield 9, 3) := by decide +kernel
theorem dX3_insert_59 : decode cX3_insert 59 = .ok (.iload_n 3, 1) := by decide +kernel
theorem dX3_insert_60 : decode cX3_insert 60 = .ok (.iload_n 1, 1) := by decide +kernel
theorem dX3_insert_61 : decode cX3_insert 61 = .ok (.iastore, 1) := by decide +kernel
theorem dX3_insert_62 : decode cX3_insert 62 = .ok (.aload_n 0, 1) := by decide +kernel
theorem dX3_insert_63 : decode cX3_insert 63 = .ok (.getfield 15, 3) := by decide +kernel
theorem dX3_insert_66 : decode cX3_insert 66 = .ok (.iload_n 3, 1) := by decide +kernel
theorem dX3_insert_67 : decode cX3_insert 67 = .ok (.iload_n 2, 1) := by decide +kernel
theorem dX3_insert_68 : decode cX3_insert 68 = .ok (.iastore, 1) := by decide +kernel
theorem dX3_insert_69 : decode cX3_insert 69 = .ok (.aload_n 0, 1) := by decide +kernel
theorem dX3_insert_70 : decode cX3_insert 70 = .ok (.dup, 1) := by decide +kernel
theorem dX3_insert_71 : decode cX3_insert 71 = .ok (.getfield 18, 3) := by decide +kernel
theorem dX3_insert_74 : decode cX3_insert 74 = .ok (.iconst 1, 1) := by decide +kernel
theorem dX3_insert_75 : decode cX3_insert 75 = .ok (.iadd, 1) := by decide +kernel
theorem dX3_insert_76 : decode cX3_insert 76 = .ok (.putfield 18, 3) := by decide +kernel
theorem dX3_insert_79 : decode cX3_insert 79 = .ok (.return_, 1) := by decide +kernel
theorem dX3_numberAt_0 : decode cX3_numberAt 0 = .ok (.iload_n 1, 1) := by decide +kernel
theorem dX3_numberAt_1 : decode cX3_numberAt 1 = .ok (.ifCond .lt 20, 3) := by decide +kernel
theorem dX3_numberAt_4 : decode cX3_numberAt 4 = .ok (.iload_n 1, 1) := by decide +kernel
theorem dX3_numberAt_5 : decode cX3_numberAt 5 = .ok (.aload_n 0, 1) := by decide +kernel
theorem dX3_numberAt_6 : decode cX3_numberAt 6 = .ok (.getfield 18, 3) := by decide +kernel
theorem dX3_numberAt_9 : decode cX3_numberAt 9 = .ok (.if_icmp .ge 12, 3) := by decide +kernel
theorem dX3_numberAt_12 : decode cX3_numberAt 12 = .ok (.aload_n 0, 1) := by decide +kernel
theorem dX3_numberAt_13 : decode cX3_numberAt 13 = .ok (.getfield 9, 3) := by decide +kernel
theorem dX3_numberAt_16 : decode cX3_numberAt 16 = .ok (.iload_n 1, 1) := by decide +kernel
theorem dX3_numberAt_17 : decode cX3_numberAt 17 = .ok (.iaload, 1) := by decide +kernel
theorem dX3_numberAt_18 : decode cX3_numberAt 18 = .ok (.goto 5, 3) := by decide +kernel
theorem dX3_numberAt_21 : decode cX3_numberAt 21 = .ok (.bipush (-5), 2) := by decide +kernel
theorem dX3_numberAt_23 : decode cX3_numberAt 23 = .ok (.ireturn, 1) := by decide +kernel
theorem dX3_spreadFrom_0 : decode cX3_spreadFrom 0 = .ok (.aload_n 0, 1) := by decide +kernel
theorem dX3_spreadFrom_1 : decode cX3_spreadFrom 1 = .ok (.getfield 15, 3) := by decide +kernel
theorem dX3_spreadFrom_4 : decode cX3_spreadFrom 4 = .ok (.iload_n 1, 1) := by decide +kernel
theorem dX3_spreadFrom_5 : decode cX3_spreadFrom 5 = .ok (.iload_n 2, 1) := by decide +kernel
theorem dX3_spreadFrom_6 : decode cX3_spreadFrom 6 = .ok (.iadd, 1) := by decide +kernel
theorem dX3_spreadFrom_7 : decode cX3_spreadFrom 7 = .ok (.iconst 1, 1) := by decide +kernel
theorem dX3_spreadFrom_8 : decode cX3_spreadFrom 8 = .ok (.isub, 1) := by decide +kernel
theorem dX3_spreadFrom_9 : decode cX3_spreadFrom 9 = .ok (.iaload, 1) := by decide +kernel
theorem dX3_spreadFrom_10 : decode cX3_spreadFrom 10 = .ok (.aload_n 0, 1) := by decide +kernel
theorem dX3_spreadFrom_11 : decode cX3_spreadFrom 11 = .ok (.getfield 15, 3) := by decide +kernel
theorem dX3_spreadFrom_14 : decode cX3_spreadFrom 14 = .ok (.iload_n 1, 1) := by decide +kernel
theorem dX3_spreadFrom_15 : decode cX3_spreadFrom 15 = .ok (.iaload, 1) := by decide +kernel
theorem dX3_spreadFrom_16 : decode cX3_spreadFrom 16 = .ok (.isub, 1) := by decide +kernel
theorem dX3_spreadFrom_17 : decode cX3_spreadFrom 17 = .ok (.ireturn, 1) := by decide +kernel
set_option maxRecDepth 20000 in
theorem ggX3_firstAlike_X3_spreadFrom : GoodIn wsX3_firstAlike wsX3_spreadFrom := goodIn_r _ [6, 7, 8, 9, 10] (by decide +kernel) (by decide +kernel)
set_option maxRecDepth 20000 in
theorem gX3_firstAlike_X3_spreadFrom : GoodIn wsX3_firstAlike (wsV RX3 45 RX3 yX3_spreadFrom wsX3_spreadFrom) := goodIn_app (goodIn_of _ (by decide +kernel)) ggX3_firstAlike_X3_spreadFrom
theorem dX3_firstAlike_0 : decode cX3_firstAlike 0 = .ok (.iconst 0, 1) := by decide +kernel
theorem dX3_firstAlike_1 : decode cX3_firstAlike 1 = .ok (.istore_n 3, 1) := by decide +kernel
theorem dX3_firstAlike_2 : decode cX3_firstAlike 2 = .ok (.iload_n 3, 1) := by decide +kernel
theorem dX3_firstAlike_3 : decode cX3_firstAlike 3 = .ok (.iload_n 1, 1) := by decide +kernel
theorem dX3_firstAlike_4 : decode cX3_firstAlike 4 = .ok (.iadd, 1) := by decide +kernel
theorem dX3_firstAlike_5 : decode cX3_firstAlike 5 = .ok (.aload_n 0, 1) := by decide +kernel
theorem dX3_firstAlike_6 : decode cX3_firstAlike 6 = .ok (.getfield 18, 3) := by decide +kernel
theorem dX3_firstAlike_9 : decode cX3_firstAlike 9 = .ok (.if_icmp .gt 21, 3) := by decide +kernel
theorem dX3_firstAlike_12 : decode cX3_firstAlike 12 = .ok (.aload_n 0, 1) := by decide +kernel
theorem dX3_firstAlike_13 : decode cX3_firstAlike 13 = .ok (.iload_n 3, 1) := by decide +kernel
theorem dX3_firstAlike_14 : decode cX3_firstAlike 14 = .ok (.iload_n 1, 1) := by decide +kernel
theorem dX3_firstAlike_15 : decode cX3_firstAlike 15 = .ok (.invokevirtual 45, 3) := by decide +kernel
theorem dX3_firstAlike_18 : decode cX3_firstAlike 18 = .ok (.iload_n 2, 1) := by decide +kernel
theorem dX3_firstAlike_19 : decode cX3_firstAlike 19 = .ok (.if_icmp .gt 5, 3) := by decide +kernel
theorem dX3_firstAlike_22 : decode cX3_firstAlike 22 = .ok (.iload_n 3, 1) := by decide +kernel
theorem dX3_firstAlike_23 : decode cX3_firstAlike 23 = .ok (.ireturn, 1) := by decide +kernel
theorem dX3_firstAlike_24 : decode cX3_firstAlike 24 = .ok (.iinc 3 1, 3) := by decide +kernel
theorem dX3_firstAlike_27 : decode cX3_firstAlike 27 = .ok (.goto (-25), 3) := by decide +kernel
theorem dX3_firstAlike_30 : decode cX3_firstAlike 30 = .ok (.iconst (-1), 1) := by decide +kernel
theorem dX3_firstAlike_31 : decode cX3_firstAlike 31 = .ok (.ireturn, 1) := by decide +kernel
set_option maxRecDepth 20000 in
theorem ggX3_narrowest_X3_spreadFrom : GoodIn wsX3_narrowest wsX3_spreadFrom := goodIn_r _ [10, 11, 12, 13, 14] (by decide +kernel) (by decide +kernel)
set_option maxRecDepth 20000 in
theorem gX3_narrowest_X3_spreadFrom : GoodIn wsX3_narrowest (wsV RX3 45 RX3 yX3_spreadFrom wsX3_spreadFrom) := goodIn_app (goodIn_of _ (by decide +kernel)) ggX3_narrowest_X3_spreadFrom
theorem dX3_narrowest_0 : decode cX3_narrowest 0 = .ok (.bipush 9, 2) := by decide +kernel
theorem dX3_narrowest_2 : decode cX3_narrowest 2 = .ok (.istore_n 2, 1) := by decide +kernel
theorem dX3_narrowest_3 : decode cX3_narrowest 3 = .ok (.iconst 0, 1) := by decide +kernel
theorem dX3_narrowest_4 : decode cX3_narrowest 4 = .ok (.istore_n 3, 1) := by decide +kernel
theorem dX3_narrowest_5 : decode cX3_narrowest 5 = .ok (.iload_n 3, 1) := by decide +kernel
theorem dX3_narrowest_6 : decode cX3_narrowest 6 = .ok (.iload_n 1, 1) := by decide +kernel
theorem dX3_narrowest_7 : decode cX3_narrowest 7 = .ok (.iadd, 1) := by decide +kernel
theorem dX3_narrowest_8 : decode cX3_narrowest 8 = .ok (.aload_n 0, 1) := by decide +kernel
theorem dX3_narrowest_9 : decode cX3_narrowest 9 = .ok (.getfield 18, 3) := by decide +kernel
theorem dX3_narrowest_12 : decode cX3_narrowest 12 = .ok (.if_icmp .gt 20, 3) := by decide +kernel
theorem dX3_narrowest_15 : decode cX3_narrowest 15 = .ok (.iload_n 2, 1) := by decide +kernel
theorem dX3_narrowest_16 : decode cX3_narrowest 16 = .ok (.aload_n 0, 1) := by decide +kernel
theorem dX3_narrowest_17 : decode cX3_narrowest 17 = .ok (.iload_n 3, 1) := by decide +kernel
theorem dX3_narrowest_18 : decode cX3_narrowest 18 = .ok (.iload_n 1, 1) := by decide +kernel
theorem dX3_narrowest_19 : decode cX3_narrowest 19 = .ok (.invokevirtual 45, 3) := by decide +kernel
theorem dX3_narrowest_22 : decode cX3_narrowest 22 = .ok (.invokestatic 49, 3) := by decide +kernel
theorem dX3_narrowest_25 : decode cX3_narrowest 25 = .ok (.istore_n 2, 1) := by decide +kernel
theorem dX3_narrowest_26 : decode cX3_narrowest 26 = .ok (.iinc 3 1, 3) := by decide +kernel
theorem dX3_narrowest_29 : decode cX3_narrowest 29 = .ok (.goto (-24), 3) := by decide +kernel
theorem dX3_narrowest_32 : decode cX3_narrowest 32 = .ok (.iload_n 2, 1) := by decide +kernel
theorem dX3_narrowest_33 : decode cX3_narrowest 33 = .ok (.ireturn, 1) := by decide +kernel
set_option maxRecDepth 20000 in
theorem ggX3_mostAlike_X3_firstAlike : GoodIn wsX3_mostAlike wsX3_firstAlike := goodIn_r _ [5, 6, 7, 8, 9, 4, 10, 11, 12, 13, 14] (by decide +kernel) (by decide +kernel)
set_option maxRecDepth 20000 in
theorem gX3_mostAlike_X3_firstAlike : GoodIn wsX3_mostAlike (wsV RX3 54 RX3 yX3_firstAlike wsX3_firstAlike) := goodIn_app (goodIn_of _ (by decide +kernel)) ggX3_mostAlike_X3_firstAlike
theorem dX3_mostAlike_0 : decode cX3_mostAlike 0 = .ok (.bipush 9, 2) := by decide +kernel
theorem dX3_mostAlike_2 : decode cX3_mostAlike 2 = .ok (.istore_n 2, 1) := by decide +kernel
theorem dX3_mostAlike_3 : decode cX3_mostAlike 3 = .ok (.iload_n 2, 1) := by decide +kernel
theorem dX3_mostAlike_4 : decode cX3_mostAlike 4 = .ok (.ifCond .le 20, 3) := by decide +kernel
theorem dX3_mostAlike_7 : decode cX3_mostAlike 7 = .ok (.aload_n 0, 1) := by decide +kernel
theorem dX3_mostAlike_8 : decode cX3_mostAlike 8 = .ok (.iload_n 2, 1) := by decide +kernel
theorem dX3_mostAlike_9 : decode cX3_mostAlike 9 = .ok (.iload_n 1, 1) := by decide +kernel
theorem dX3_mostAlike_10 : decode cX3_mostAlike 10 = .ok (.invokevirtual 54, 3) := by decide +kernel
theorem dX3_mostAlike_13 : decode cX3_mostAlike 13 = .ok (.ifCond .lt 5, 3) := by decide +kernel
theorem dX3_mostAlike_16 : decode cX3_mostAlike 16 = .ok (.iload_n 2, 1) := by decide +kernel
theorem dX3_mostAlike_17 : decode cX3_mostAlike 17 = .ok (.ireturn, 1) := by decide +kernel
theorem dX3_mostAlike_18 : decode cX3_mostAlike 18 = .ok (.iinc 2 (-1), 3) := by decide +kernel
theorem dX3_mostAlike_21 : decode cX3_mostAlike 21 = .ok (.goto (-18), 3) := by decide +kernel
theorem dX3_mostAlike_24 : decode cX3_mostAlike 24 = .ok (.iconst 0, 1) := by decide +kernel
theorem dX3_mostAlike_25 : decode cX3_mostAlike 25 = .ok (.ireturn, 1) := by decide +kernel
set_option maxRecDepth 20000 in
theorem ggX3_groups_X3_spreadFrom : GoodIn wsX3_groups wsX3_spreadFrom := goodIn_r _ [6, 7, 8, 9, 10] (by decide +kernel) (by decide +kernel)
set_option maxRecDepth 20000 in
theorem gX3_groups_X3_spreadFrom : GoodIn wsX3_groups (wsV RX3 45 RX3 yX3_spreadFrom wsX3_spreadFrom) := goodIn_app (goodIn_of _ (by decide +kernel)) ggX3_groups_X3_spreadFrom
theorem dX3_groups_0 : decode cX3_groups 0 = .ok (.iconst 0, 1) := by decide +kernel
theorem dX3_groups_1 : decode cX3_groups 1 = .ok (.istore_n 3, 1) := by decide +kernel
theorem dX3_groups_2 : decode cX3_groups 2 = .ok (.iconst 0, 1) := by decide +kernel
theorem dX3_groups_3 : decode cX3_groups 3 = .ok (.istore 4, 2) := by decide +kernel
theorem dX3_groups_5 : decode cX3_groups 5 = .ok (.iconst 0, 1) := by decide +kernel
theorem dX3_groups_6 : decode cX3_groups 6 = .ok (.istore 5, 2) := by decide +kernel
theorem dX3_groups_8 : decode cX3_groups 8 = .ok (.iload 5, 2) := by decide +kernel
theorem dX3_groups_10 : decode cX3_groups 10 = .ok (.iload_n 1, 1) := by decide +kernel
theorem dX3_groups_11 : decode cX3_groups 11 = .ok (.iadd, 1) := by decide +kernel
theorem dX3_groups_12 : decode cX3_groups 12 = .ok (.aload_n 0, 1) := by decide +kernel
theorem dX3_groups_13 : decode cX3_groups 13 = .ok (.getfield 18, 3) := by decide +kernel
theorem dX3_groups_16 : decode cX3_groups 16 = .ok (.if_icmp .gt 36, 3) := by decide +kernel
theorem dX3_groups_19 : decode cX3_groups 19 = .ok (.iload 5, 2) := by decide +kernel
theorem dX3_groups_21 : decode cX3_groups 21 = .ok (.iload 4, 2) := by decide +kernel
theorem dX3_groups_23 : decode cX3_groups 23 = .ok (.if_icmp .lt 23, 3) := by decide +kernel
theorem dX3_groups_26 : decode cX3_groups 26 = .ok (.aload_n 0, 1) := by decide +kernel
theorem dX3_groups_27 : decode cX3_groups 27 = .ok (.iload 5, 2) := by decide +kernel
theorem dX3_groups_29 : decode cX3_groups 29 = .ok (.iload_n 1, 1) := by decide +kernel
theorem dX3_groups_30 : decode cX3_groups 30 = .ok (.invokevirtual 45, 3) := by decide +kernel
theorem dX3_groups_33 : decode cX3_groups 33 = .ok (.iload_n 2, 1) := by decide +kernel
theorem dX3_groups_34 : decode cX3_groups 34 = .ok (.if_icmp .gt 12, 3) := by decide +kernel
theorem dX3_groups_37 : decode cX3_groups 37 = .ok (.iinc 3 1, 3) := by decide +kernel
theorem dX3_groups_40 : decode cX3_groups 40 = .ok (.iload 5, 2) := by decide +kernel
theorem dX3_groups_42 : decode cX3_groups 42 = .ok (.iload_n 1, 1) := by decide +kernel
theorem dX3_groups_43 : decode cX3_groups 43 = .ok (.iadd, 1) := by decide +kernel
theorem dX3_groups_44 : decode cX3_groups 44 = .ok (.istore 4, 2) := by decide +kernel
theorem dX3_groups_46 : decode cX3_groups 46 = .ok (.iinc 5 1, 3) := by decide +kernel
theorem dX3_groups_49 : decode cX3_groups 49 = .ok (.goto (-41), 3) := by decide +kernel
theorem dX3_groups_52 : decode cX3_groups 52 = .ok (.iload_n 3, 1) := by decide +kernel
theorem dX3_groups_53 : decode cX3_groups 53 = .ok (.ireturn, 1) := by decide +kernel
theorem dX3_shineSum_0 : decode cX3_shineSum 0 = .ok (.iconst 0, 1) := by decide +kernel
theorem dX3_shineSum_1 : decode cX3_shineSum 1 = .ok (.istore_n 1, 1) := by decide +kernel
theorem dX3_shineSum_2 : decode cX3_shineSum 2 = .ok (.iconst 0, 1) := by decide +kernel
theorem dX3_shineSum_3 : decode cX3_shineSum 3 = .ok (.istore_n 2, 1) := by decide +kernel
theorem dX3_shineSum_4 : decode cX3_shineSum 4 = .ok (.iload_n 2, 1) := by decide +kernel
theorem dX3_shineSum_5 : decode cX3_shineSum 5 = .ok (.aload_n 0, 1) := by decide +kernel
theorem dX3_shineSum_6 : decode cX3_shineSum 6 = .ok (.getfield 18, 3) := by decide +kernel
theorem dX3_shineSum_9 : decode cX3_shineSum 9 = .ok (.if_icmp .ge 18, 3) := by decide +kernel
theorem dX3_shineSum_12 : decode cX3_shineSum 12 = .ok (.iload_n 1, 1) := by decide +kernel
theorem dX3_shineSum_13 : decode cX3_shineSum 13 = .ok (.aload_n 0, 1) := by decide +kernel
theorem dX3_shineSum_14 : decode cX3_shineSum 14 = .ok (.getfield 15, 3) := by decide +kernel
theorem dX3_shineSum_17 : decode cX3_shineSum 17 = .ok (.iload_n 2, 1) := by decide +kernel
theorem dX3_shineSum_18 : decode cX3_shineSum 18 = .ok (.iaload, 1) := by decide +kernel
theorem dX3_shineSum_19 : decode cX3_shineSum 19 = .ok (.iadd, 1) := by decide +kernel
theorem dX3_shineSum_20 : decode cX3_shineSum 20 = .ok (.istore_n 1, 1) := by decide +kernel
theorem dX3_shineSum_21 : decode cX3_shineSum 21 = .ok (.iinc 2 1, 3) := by decide +kernel
theorem dX3_shineSum_24 : decode cX3_shineSum 24 = .ok (.goto (-20), 3) := by decide +kernel
theorem dX3_shineSum_27 : decode cX3_shineSum 27 = .ok (.iload_n 1, 1) := by decide +kernel
theorem dX3_shineSum_28 : decode cX3_shineSum 28 = .ok (.ireturn, 1) := by decide +kernel
theorem dX4_init_0 : decode cX4_init 0 = .ok (.aload_n 0, 1) := by decide +kernel
theorem dX4_init_1 : decode cX4_init 1 = .ok (.invokespecial 3, 3) := by decide +kernel
theorem dX4_init_4 : decode cX4_init 4 = .ok (.aload_n 0, 1) := by decide +kernel
theorem dX4_init_5 : decode cX4_init 5 = .ok (.bipush 40, 2) := by decide +kernel
theorem dX4_init_7 : decode cX4_init 7 = .ok (.newarray .int, 2) := by decide +kernel
theorem dX4_init_9 : decode cX4_init 9 = .ok (.putfield 9, 3) := by decide +kernel
theorem dX4_init_12 : decode cX4_init 12 = .ok (.aload_n 0, 1) := by decide +kernel
theorem dX4_init_13 : decode cX4_init 13 = .ok (.bipush 40, 2) := by decide +kernel
theorem dX4_init_15 : decode cX4_init 15 = .ok (.newarray .int, 2) := by decide +kernel
theorem dX4_init_17 : decode cX4_init 17 = .ok (.putfield 15, 3) := by decide +kernel
theorem dX4_init_20 : decode cX4_init 20 = .ok (.aload_n 0, 1) := by decide +kernel
theorem dX4_init_21 : decode cX4_init 21 = .ok (.bipush 40, 2) := by decide +kernel
theorem dX4_init_23 : decode cX4_init 23 = .ok (.newarray .int, 2) := by decide +kernel
theorem dX4_init_25 : decode cX4_init 25 = .ok (.putfield 18, 3) := by decide +kernel
theorem dX4_init_28 : decode cX4_init 28 = .ok (.aload_n 0, 1) := by decide +kernel
theorem dX4_init_29 : decode cX4_init 29 = .ok (.bipush 40, 2) := by decide +kernel
theorem dX4_init_31 : decode cX4_init 31 = .ok (.newarray .int, 2) := by decide +kernel
theorem dX4_init_33 : decode cX4_init 33 = .ok (.putfield 21, 3) := by decide +kernel
theorem dX4_init_36 : decode cX4_init 36 = .ok (.aload_n 0, 1) := by decide +kernel
theorem dX4_init_37 : decode cX4_init 37 = .ok (.bipush 7, 2) := by decide +kernel
theorem dX4_init_39 : decode cX4_init 39 = .ok (.newarray .int, 2) := by decide +kernel
theorem dX4_init_41 : decode cX4_init 41 = .ok (.putfield 24, 3) := by decide +kernel
theorem dX4_init_44 : decode cX4_init 44 = .ok (.aload_n 0, 1) := by decide +kernel
theorem dX4_init_45 : decode cX4_init 45 = .ok (.bipush 12, 2) := by decide +kernel
theorem dX4_init_47 : decode cX4_init 47 = .ok (.newarray .int, 2) := by decide +kernel
theorem dX4_init_49 : decode cX4_init 49 = .ok (.putfield 27, 3) := by decide +kernel
theorem dX4_init_52 : decode cX4_init 52 = .ok (.return_, 1) := by decide +kernel
set_option maxRecDepth 20000 in
theorem ggX4_takeFirst_X4_leave : GoodIn wsX4_takeFirst wsX4_leave := goodIn_r _ [11, 12, 1, 13, 14, 15, 16, 10, 17, 18, 19, 20, 21, 22, 23, 24, 25, 26, 27, 28] (by decide +kernel) (by decide +kernel)
set_option maxRecDepth 20000 in
theorem gX4_takeFirst_X4_leave : GoodIn wsX4_takeFirst (wsV RX4 30 RX4 yX4_leave wsX4_leave) := goodIn_app (goodIn_of _ (by decide +kernel)) ggX4_takeFirst_X4_leave
theorem dX4_takeFirst_0 : decode cX4_takeFirst 0 = .ok (.aload_n 0, 1) := by decide +kernel
theorem dX4_takeFirst_1 : decode cX4_takeFirst 1 = .ok (.getfield 24, 3) := by decide +kernel
theorem dX4_takeFirst_4 : decode cX4_takeFirst 4 = .ok (.iconst 0, 1) := by decide +kernel
theorem dX4_takeFirst_5 : decode cX4_takeFirst 5 = .ok (.iaload, 1) := by decide +kernel
theorem dX4_takeFirst_6 : decode cX4_takeFirst 6 = .ok (.iconst 1, 1) := by decide +kernel
theorem dX4_takeFirst_7 : decode cX4_takeFirst 7 = .ok (.if_icmp .ge 6, 3) := by decide +kernel
theorem dX4_takeFirst_10 : decode cX4_takeFirst 10 = .ok (.bipush (-5), 2) := by decide +kernel
theorem dX4_takeFirst_12 : decode cX4_takeFirst 12 = .ok (.ireturn, 1) := by decide +kernel
theorem dX4_takeFirst_13 : decode cX4_takeFirst 13 = .ok (.aload_n 0, 1) := by decide +kernel
theorem dX4_takeFirst_14 : decode cX4_takeFirst 14 = .ok (.getfield 21, 3) := by decide +kernel
theorem dX4_takeFirst_17 : decode cX4_takeFirst 17 = .ok (.iconst 0, 1) := by decide +kernel
theorem dX4_takeFirst_18 : decode cX4_takeFirst 18 = .ok (.iaload, 1) := by decide +kernel
theorem dX4_takeFirst_19 : decode cX4_takeFirst 19 = .ok (.istore_n 1, 1) := by decide +kernel
theorem dX4_takeFirst_20 : decode cX4_takeFirst 20 = .ok (.aload_n 0, 1) := by decide +kernel
theorem dX4_takeFirst_21 : decode cX4_takeFirst 21 = .ok (.iload_n 1, 1) := by decide +kernel
theorem dX4_takeFirst_22 : decode cX4_takeFirst 22 = .ok (.invokevirtual 30, 3) := by decide +kernel
theorem dX4_takeFirst_25 : decode cX4_takeFirst 25 = .ok (.aload_n 0, 1) := by decide +kernel
theorem dX4_takeFirst_26 : decode cX4_takeFirst 26 = .ok (.getfield 21, 3) := by decide +kernel
theorem dX4_takeFirst_29 : decode cX4_takeFirst 29 = .ok (.iconst 1, 1) := by decide +kernel
theorem dX4_takeFirst_30 : decode cX4_takeFirst 30 = .ok (.aload_n 0, 1) := by decide +kernel
theorem dX4_takeFirst_31 : decode cX4_takeFirst 31 = .ok (.getfield 21, 3) := by decide +kernel
theorem dX4_takeFirst_34 : decode cX4_takeFirst 34 = .ok (.iconst 0, 1) := by decide +kernel
theorem dX4_takeFirst_35 : decode cX4_takeFirst 35 = .ok (.bipush 39, 2) := by decide +kernel
theorem dX4_takeFirst_37 : decode cX4_takeFirst 37 = .ok (.invokestatic 34, 3) := by decide +kernel
theorem dX4_takeFirst_40 : decode cX4_takeFirst 40 = .ok (.iload_n 1, 1) := by decide +kernel
theorem dX4_takeFirst_41 : decode cX4_takeFirst 41 = .ok (.ireturn, 1) := by decide +kernel
set_option maxRecDepth 20000 in
theorem ggX4_leave_X4_isNumber : GoodIn wsX4_leave wsX4_isNumber := goodIn_r _ [8] (by decide +kernel) (by decide +kernel)
set_option maxRecDepth 20000 in
theorem gX4_leave_X4_isNumber : GoodIn wsX4_leave (va_wsS RX4 40 yX4_isNumber wsX4_isNumber) := goodIn_app (goodIn_of _ (by decide +kernel)) ggX4_leave_X4_isNumber
set_option maxRecDepth 20000 in
theorem ggX4_leave_X7_isPlace : GoodIn wsX4_leave wsX7_isPlace := goodIn_r _ [11] (by decide +kernel) (by decide +kernel)
set_option maxRecDepth 20000 in
theorem gX4_leave_X7_isPlace_n44 : GoodIn wsX4_leave (wsX7_isPlace) := ggX4_leave_X7_isPlace
set_option maxRecDepth 20000 in
theorem ggX4_leave_X7_isBin : GoodIn wsX4_leave wsX7_isBin := goodIn_r _ [13] (by decide +kernel) (by decide +kernel)
set_option maxRecDepth 20000 in
theorem gX4_leave_X7_isBin_n47 : GoodIn wsX4_leave (wsX7_isBin) := ggX4_leave_X7_isBin
theorem dX4_leave_0 : decode cX4_leave 0 = .ok (.iload_n 1, 1) := by decide +kernel
theorem dX4_leave_1 : decode cX4_leave 1 = .ok (.invokestatic 40, 3) := by decide +kernel
theorem dX4_leave_4 : decode cX4_leave 4 = .ok (.ifCond .ne 4, 3) := by decide +kernel
theorem dX4_leave_7 : decode cX4_leave 7 = .ok (.return_, 1) := by decide +kernel
theorem dX4_leave_8 : decode cX4_leave 8 = .ok (.aload_n 0, 1) := by decide +kernel
theorem dX4_leave_9 : decode cX4_leave 9 = .ok (.getfield 9, 3) := by decide +kernel
theorem dX4_leave_12 : decode cX4_leave 12 = .ok (.iload_n 1, 1) := by decide +kernel
theorem dX4_leave_13 : decode cX4_leave 13 = .ok (.iaload, 1) := by decide +kernel
theorem dX4_leave_14 : decode cX4_leave 14 = .ok (.invokestatic 44, 3) := by decide +kernel
theorem dX4_leave_17 : decode cX4_leave 17 = .ok (.ifCond .eq 18, 3) := by decide +kernel
theorem dX4_leave_20 : decode cX4_leave 20 = .ok (.aload_n 0, 1) := by decide +kernel
theorem dX4_leave_21 : decode cX4_leave 21 = .ok (.getfield 24, 3) := by decide +kernel
theorem dX4_leave_24 : decode cX4_leave 24 = .ok (.aload_n 0, 1) := by decide +kernel
theorem dX4_leave_25 : decode cX4_leave 25 = .ok (.getfield 9, 3) := by decide +kernel
theorem dX4_leave_28 : decode cX4_leave 28 = .ok (.iload_n 1, 1) := by decide +kernel
theorem dX4_leave_29 : decode cX4_leave 29 = .ok (.iaload, 1) := by decide +kernel
theorem dX4_leave_30 : decode cX4_leave 30 = .ok (.dup2, 1) := by decide +kernel
theorem dX4_leave_31 : decode cX4_leave 31 = .ok (.iaload, 1) := by decide +kernel
theorem dX4_leave_32 : decode cX4_leave 32 = .ok (.iconst 1, 1) := by decide +kernel
theorem dX4_leave_33 : decode cX4_leave 33 = .ok (.isub, 1) := by decide +kernel
theorem dX4_leave_34 : decode cX4_leave 34 = .ok (.iastore, 1) := by decide +kernel
theorem dX4_leave_35 : decode cX4_leave 35 = .ok (.aload_n 0, 1) := by decide +kernel
theorem dX4_leave_36 : decode cX4_leave 36 = .ok (.getfield 15, 3) := by decide +kernel
theorem dX4_leave_39 : decode cX4_leave 39 = .ok (.iload_n 1, 1) := by decide +kernel
theorem dX4_leave_40 : decode cX4_leave 40 = .ok (.iaload, 1) := by decide +kernel
theorem dX4_leave_41 : decode cX4_leave 41 = .ok (.invokestatic 47, 3) := by decide +kernel
theorem dX4_leave_44 : decode cX4_leave 44 = .ok (.ifCond .eq 18, 3) := by decide +kernel
theorem dX4_leave_47 : decode cX4_leave 47 = .ok (.aload_n 0, 1) := by decide +kernel
theorem dX4_leave_48 : decode cX4_leave 48 = .ok (.getfield 27, 3) := by decide +kernel
theorem dX4_leave_51 : decode cX4_leave 51 = .ok (.aload_n 0, 1) := by decide +kernel
theorem dX4_leave_52 : decode cX4_leave 52 = .ok (.getfield 15, 3) := by decide +kernel
theorem dX4_leave_55 : decode cX4_leave 55 = .ok (.iload_n 1, 1) := by decide +kernel
theorem dX4_leave_56 : decode cX4_leave 56 = .ok (.iaload, 1) := by decide +kernel
theorem dX4_leave_57 : decode cX4_leave 57 = .ok (.dup2, 1) := by decide +kernel
theorem dX4_leave_58 : decode cX4_leave 58 = .ok (.iaload, 1) := by decide +kernel
theorem dX4_leave_59 : decode cX4_leave 59 = .ok (.iconst 1, 1) := by decide +kernel
theorem dX4_leave_60 : decode cX4_leave 60 = .ok (.isub, 1) := by decide +kernel
theorem dX4_leave_61 : decode cX4_leave 61 = .ok (.iastore, 1) := by decide +kernel
theorem dX4_leave_62 : decode cX4_leave 62 = .ok (.return_, 1) := by decide +kernel
set_option maxRecDepth 20000 in
theorem ggX4_bringToHopper_X4_bring : GoodIn wsX4_bringToHopper wsX4_bring := goodIn_r _ [7, 8, 9, 10, 6, 11, 12, 13, 14, 1, 15, 16, 17, 18, 19, 20, 21, 22, 23, 24, 25, 26, 27, 28, 29] (by decide +kernel) (by decide +kernel)
set_option maxRecDepth 20000 in
theorem gX4_bringToHopper_X4_bring : GoodIn wsX4_bringToHopper (wsV RX4 50 RX4 yX4_bring wsX4_bring) := goodIn_app (goodIn_of _ (by decide +kernel)) ggX4_bringToHopper_X4_bring
theorem dX4_bringToHopper_0 : decode cX4_bringToHopper 0 = .ok (.aload_n 0, 1) := by decide +kernel
theorem dX4_bringToHopper_1 : decode cX4_bringToHopper 1 = .ok (.getfield 24, 3) := by decide +kernel
theorem dX4_bringToHopper_4 : decode cX4_bringToHopper 4 = .ok (.iconst 0, 1) := by decide +kernel
theorem dX4_bringToHopper_5 : decode cX4_bringToHopper 5 = .ok (.iaload, 1) := by decide +kernel
theorem dX4_bringToHopper_6 : decode cX4_bringToHopper 6 = .ok (.istore_n 2, 1) := by decide +kernel
theorem dX4_bringToHopper_7 : decode cX4_bringToHopper 7 = .ok (.iload_n 2, 1) := by decide +kernel
theorem dX4_bringToHopper_8 : decode cX4_bringToHopper 8 = .ok (.ifCond .lt 9, 3) := by decide +kernel
theorem dX4_bringToHopper_11 : decode cX4_bringToHopper 11 = .ok (.iload_n 2, 1) := by decide +kernel
theorem dX4_bringToHopper_12 : decode cX4_bringToHopper 12 = .ok (.bipush 40, 2) := by decide +kernel
theorem dX4_bringToHopper_14 : decode cX4_bringToHopper 14 = .ok (.if_icmp .lt 4, 3) := by decide +kernel
theorem dX4_bringToHopper_17 : decode cX4_bringToHopper 17 = .ok (.return_, 1) := by decide +kernel
theorem dX4_bringToHopper_18 : decode cX4_bringToHopper 18 = .ok (.aload_n 0, 1) := by decide +kernel
theorem dX4_bringToHopper_19 : decode cX4_bringToHopper 19 = .ok (.getfield 21, 3) := by decide +kernel
theorem dX4_bringToHopper_22 : decode cX4_bringToHopper 22 = .ok (.iload_n 2, 1) := by decide +kernel
theorem dX4_bringToHopper_23 : decode cX4_bringToHopper 23 = .ok (.iload_n 1, 1) := by decide +kernel
theorem dX4_bringToHopper_24 : decode cX4_bringToHopper 24 = .ok (.iastore, 1) := by decide +kernel
theorem dX4_bringToHopper_25 : decode cX4_bringToHopper 25 = .ok (.aload_n 0, 1) := by decide +kernel
theorem dX4_bringToHopper_26 : decode cX4_bringToHopper 26 = .ok (.iload_n 1, 1) := by decide +kernel
theorem dX4_bringToHopper_27 : decode cX4_bringToHopper 27 = .ok (.iconst 0, 1) := by decide +kernel
theorem dX4_bringToHopper_28 : decode cX4_bringToHopper 28 = .ok (.invokevirtual 50, 3) := by decide +kernel
theorem dX4_bringToHopper_31 : decode cX4_bringToHopper 31 = .ok (.return_, 1) := by decide +kernel
set_option maxRecDepth 20000 in
theorem ggX4_bringToBin_X4_put : GoodIn wsX4_bringToBin wsX4_put := goodIn_r _ [5, 6, 7, 8, 9, 10, 11, 12, 4, 13, 14, 15, 16, 17, 18, 19, 20, 21, 22, 23, 24] (by decide +kernel) (by decide +kernel)
set_option maxRecDepth 20000 in
theorem gX4_bringToBin_X4_put : GoodIn wsX4_bringToBin (wsV RX4 54 RX4 yX4_put wsX4_put) := goodIn_app (goodIn_of _ (by decide +kernel)) ggX4_bringToBin_X4_put
theorem dX4_bringToBin_0 : decode cX4_bringToBin 0 = .ok (.aload_n 0, 1) := by decide +kernel
theorem dX4_bringToBin_1 : decode cX4_bringToBin 1 = .ok (.iload_n 1, 1) := by decide +kernel
theorem dX4_bringToBin_2 : decode cX4_bringToBin 2 = .ok (.iconst 5, 1) := by decide +kernel
theorem dX4_bringToBin_3 : decode cX4_bringToBin 3 = .ok (.iload_n 2, 1) := by decide +kernel
theorem dX4_bringToBin_4 : decode cX4_bringToBin 4 = .ok (.bipush (-5), 2) := by decide +kernel
theorem dX4_bringToBin_6 : decode cX4_bringToBin 6 = .ok (.invokevirtual 54, 3) := by decide +kernel
theorem dX4_bringToBin_9 : decode cX4_bringToBin 9 = .ok (.return_, 1) := by decide +kernel
set_option maxRecDepth 20000 in
theorem ggX4_bringToShirt_X4_put : GoodIn wsX4_bringToShirt wsX4_put := goodIn_r _ [5, 6, 7, 8, 9, 10, 11, 12, 4, 13, 14, 15, 16, 17, 18, 19, 20, 21, 22, 23, 24] (by decide +kernel) (by decide +kernel)
set_option maxRecDepth 20000 in
theorem gX4_bringToShirt_X4_put : GoodIn wsX4_bringToShirt (wsV RX4 54 RX4 yX4_put wsX4_put) := goodIn_app (goodIn_of _ (by decide +kernel)) ggX4_bringToShirt_X4_put
theorem dX4_bringToShirt_0 : decode cX4_bringToShirt 0 = .ok (.aload_n 0, 1) := by decide +kernel
theorem dX4_bringToShirt_1 : decode cX4_bringToShirt 1 = .ok (.iload_n 1, 1) := by decide +kernel
theorem dX4_bringToShirt_2 : decode cX4_bringToShirt 2 = .ok (.bipush 6, 2) := by decide +kernel
theorem dX4_bringToShirt_4 : decode cX4_bringToShirt 4 = .ok (.bipush (-5), 2) := by decide +kernel
theorem dX4_bringToShirt_6 : decode cX4_bringToShirt 6 = .ok (.iload_n 2, 1) := by decide +kernel
theorem dX4_bringToShirt_7 : decode cX4_bringToShirt 7 = .ok (.invokevirtual 54, 3) := by decide +kernel
theorem dX4_bringToShirt_10 : decode cX4_bringToShirt 10 = .ok (.return_, 1) := by decide +kernel
set_option maxRecDepth 20000 in
theorem ggX4_bring_X4_put : GoodIn wsX4_bring wsX4_put := goodIn_r _ [5, 6, 7, 8, 9, 10, 11, 12, 4, 13, 14, 15, 16, 17, 18, 19, 20, 21, 22, 23, 24] (by decide +kernel) (by decide +kernel)
set_option maxRecDepth 20000 in
theorem gX4_bring_X4_put : GoodIn wsX4_bring (wsV RX4 54 RX4 yX4_put wsX4_put) := goodIn_app (goodIn_of _ (by decide +kernel)) ggX4_bring_X4_put
theorem dX4_bring_0 : decode cX4_bring 0 = .ok (.aload_n 0, 1) := by decide +kernel
theorem dX4_bring_1 : decode cX4_bring 1 = .ok (.iload_n 1, 1) := by decide +kernel
theorem dX4_bring_2 : decode cX4_bring 2 = .ok (.iload_n 2, 1) := by decide +kernel
theorem dX4_bring_3 : decode cX4_bring 3 = .ok (.bipush (-5), 2) := by decide +kernel
theorem dX4_bring_5 : decode cX4_bring 5 = .ok (.bipush (-5), 2) := by decide +kernel
theorem dX4_bring_7 : decode cX4_bring 7 = .ok (.invokevirtual 54, 3) := by decide +kernel
theorem dX4_bring_10 : decode cX4_bring 10 = .ok (.return_, 1) := by decide +kernel
set_option maxRecDepth 20000 in
theorem ggX4_put_X4_isNumber : GoodIn wsX4_put wsX4_isNumber := goodIn_r _ [9] (by decide +kernel) (by decide +kernel)
set_option maxRecDepth 20000 in
theorem gX4_put_X4_isNumber : GoodIn wsX4_put (va_wsS RX4 40 yX4_isNumber wsX4_isNumber) := goodIn_app (goodIn_of _ (by decide +kernel)) ggX4_put_X4_isNumber
set_option maxRecDepth 20000 in
theorem ggX4_put_X7_isPlace : GoodIn wsX4_put wsX7_isPlace := goodIn_r _ [12] (by decide +kernel) (by decide +kernel)
set_option maxRecDepth 20000 in
theorem gX4_put_X7_isPlace_n44 : GoodIn wsX4_put (wsX7_isPlace) := ggX4_put_X7_isPlace
set_option maxRecDepth 20000 in
theorem ggX4_put_X7_isBin : GoodIn wsX4_put wsX7_isBin := goodIn_r _ [14] (by decide +kernel) (by decide +kernel)
set_option maxRecDepth 20000 in
theorem gX4_put_X7_isBin_n47 : GoodIn wsX4_put (wsX7_isBin) := ggX4_put_X7_isBin
theorem dX4_put_0 : decode cX4_put 0 = .ok (.iload_n 1, 1) := by decide +kernel
theorem dX4_put_1 : decode cX4_put 1 = .ok (.invokestatic 40, 3) := by decide +kernel
theorem dX4_put_4 : decode cX4_put 4 = .ok (.ifCond .eq 10, 3) := by decide +kernel
theorem dX4_put_7 : decode cX4_put 7 = .ok (.iload_n 2, 1) := by decide +kernel
theorem dX4_put_8 : decode cX4_put 8 = .ok (.invokestatic 44, 3) := by decide +kernel
theorem dX4_put_11 : decode cX4_put 11 = .ok (.ifCond .ne 4, 3) := by decide +kernel
theorem dX4_put_14 : decode cX4_put 14 = .ok (.return_, 1) := by decide +kernel
theorem dX4_put_15 : decode cX4_put 15 = .ok (.aload_n 0, 1) := by decide +kernel
theorem dX4_put_16 : decode cX4_put 16 = .ok (.getfield 9, 3) := by decide +kernel
theorem dX4_put_19 : decode cX4_put 19 = .ok (.iload_n 1, 1) := by decide +kernel
theorem dX4_put_20 : decode cX4_put 20 = .ok (.iload_n 2, 1) := by decide +kernel
theorem dX4_put_21 : decode cX4_put 21 = .ok (.iastore, 1) := by decide +kernel
theorem dX4_put_22 : decode cX4_put 22 = .ok (.aload_n 0, 1) := by decide +kernel
theorem dX4_put_23 : decode cX4_put 23 = .ok (.getfield 15, 3) := by decide +kernel
theorem dX4_put_26 : decode cX4_put 26 = .ok (.iload_n 1, 1) := by decide +kernel
theorem dX4_put_27 : decode cX4_put 27 = .ok (.iload_n 3, 1) := by decide +kernel
theorem dX4_put_28 : decode cX4_put 28 = .ok (.iastore, 1) := by decide +kernel
theorem dX4_put_29 : decode cX4_put 29 = .ok (.aload_n 0, 1) := by decide +kernel
theorem dX4_put_30 : decode cX4_put 30 = .ok (.getfield 18, 3) := by decide +kernel
theorem dX4_put_33 : decode cX4_put 33 = .ok (.iload_n 1, 1) := by decide +kernel
theorem dX4_put_34 : decode cX4_put 34 = .ok (.iload 4, 2) := by decide +kernel
theorem dX4_put_36 : decode cX4_put 36 = .ok (.iastore, 1) := by decide +kernel
theorem dX4_put_37 : decode cX4_put 37 = .ok (.aload_n 0, 1) := by decide +kernel
theorem dX4_put_38 : decode cX4_put 38 = .ok (.getfield 24, 3) := by decide +kernel
theorem dX4_put_41 : decode cX4_put 41 = .ok (.iload_n 2, 1) := by decide +kernel
theorem dX4_put_42 : decode cX4_put 42 = .ok (.dup2, 1) := by decide +kernel
theorem dX4_put_43 : decode cX4_put 43 = .ok (.iaload, 1) := by decide +kernel
theorem dX4_put_44 : decode cX4_put 44 = .ok (.iconst 1, 1) := by decide +kernel
theorem dX4_put_45 : decode cX4_put 45 = .ok (.iadd, 1) := by decide +kernel
theorem dX4_put_46 : decode cX4_put 46 = .ok (.iastore, 1) := by decide +kernel
theorem dX4_put_47 : decode cX4_put 47 = .ok (.iload_n 3, 1) := by decide +kernel
theorem dX4_put_48 : decode cX4_put 48 = .ok (.invokestatic 47, 3) := by decide +kernel
theorem dX4_put_51 : decode cX4_put 51 = .ok (.ifCond .eq 13, 3) := by decide +kernel
theorem dX4_put_54 : decode cX4_put 54 = .ok (.aload_n 0, 1) := by decide +kernel
theorem dX4_put_55 : decode cX4_put 55 = .ok (.getfield 27, 3) := by decide +kernel
theorem dX4_put_58 : decode cX4_put 58 = .ok (.iload_n 3, 1) := by decide +kernel
theorem dX4_put_59 : decode cX4_put 59 = .ok (.dup2, 1) := by decide +kernel
theorem dX4_put_60 : decode cX4_put 60 = .ok (.iaload, 1) := by decide +kernel
theorem dX4_put_61 : decode cX4_put 61 = .ok (.iconst 1, 1) := by decide +kernel
theorem dX4_put_62 : decode cX4_put 62 = .ok (.iadd, 1) := by decide +kernel
theorem dX4_put_63 : decode cX4_put 63 = .ok (.iastore, 1) := by decide +kernel
theorem dX4_put_64 : decode cX4_put 64 = .ok (.return_, 1) := by decide +kernel
theorem dX4_isNumber_0 : decode cX4_isNumber 0 = .ok (.iload_n 0, 1) := by decide +kernel
theorem dX4_isNumber_1 : decode cX4_isNumber 1 = .ok (.ifCond .lt 13, 3) := by decide +kernel
theorem dX4_isNumber_4 : decode cX4_isNumber 4 = .ok (.iload_n 0, 1) := by decide +kernel
theorem dX4_isNumber_5 : decode cX4_isNumber 5 = .ok (.bipush 40, 2) := by decide +kernel
theorem dX4_isNumber_7 : decode cX4_isNumber 7 = .ok (.if_icmp .ge 7, 3) := by decide +kernel
theorem dX4_isNumber_10 : decode cX4_isNumber 10 = .ok (.iconst 1, 1) := by decide +kernel
theorem dX4_isNumber_11 : decode cX4_isNumber 11 = .ok (.goto 4, 3) := by decide +kernel
theorem dX4_isNumber_14 : decode cX4_isNumber 14 = .ok (.iconst 0, 1) := by decide +kernel
theorem dX4_isNumber_15 : decode cX4_isNumber 15 = .ok (.ireturn, 1) := by decide +kernel
theorem dX4_rankInHopper_0 : decode cX4_rankInHopper 0 = .ok (.iconst 0, 1) := by decide +kernel
theorem dX4_rankInHopper_1 : decode cX4_rankInHopper 1 = .ok (.istore_n 2, 1) := by decide +kernel
theorem dX4_rankInHopper_2 : decode cX4_rankInHopper 2 = .ok (.iload_n 2, 1) := by decide +kernel
theorem dX4_rankInHopper_3 : decode cX4_rankInHopper 3 = .ok (.bipush 40, 2) := by decide +kernel
theorem dX4_rankInHopper_5 : decode cX4_rankInHopper 5 = .ok (.if_icmp .ge 31, 3) := by decide +kernel
theorem dX4_rankInHopper_8 : decode cX4_rankInHopper 8 = .ok (.iload_n 2, 1) := by decide +kernel
theorem dX4_rankInHopper_9 : decode cX4_rankInHopper 9 = .ok (.aload_n 0, 1) := by decide +kernel
theorem dX4_rankInHopper_10 : decode cX4_rankInHopper 10 = .ok (.getfield 24, 3) := by decide +kernel
theorem dX4_rankInHopper_13 : decode cX4_rankInHopper 13 = .ok (.iconst 0, 1) := by decide +kernel
theorem dX4_rankInHopper_14 : decode cX4_rankInHopper 14 = .ok (.iaload, 1) := by decide +kernel
theorem dX4_rankInHopper_15 : decode cX4_rankInHopper 15 = .ok (.if_icmp .ge 21, 3) := by decide +kernel
theorem dX4_rankInHopper_18 : decode cX4_rankInHopper 18 = .ok (.aload_n 0, 1) := by decide +kernel
theorem dX4_rankInHopper_19 : decode cX4_rankInHopper 19 = .ok (.getfield 21, 3) := by decide +kernel
theorem dX4_rankInHopper_22 : decode cX4_rankInHopper 22 = .ok (.iload_n 2, 1) := by decide +kernel
theorem dX4_rankInHopper_23 : decode cX4_rankInHopper 23 = .ok (.iaload, 1) := by decide +kernel
theorem dX4_rankInHopper_24 : decode cX4_rankInHopper 24 = .ok (.iload_n 1, 1) := by decide +kernel
theorem dX4_rankInHopper_25 : decode cX4_rankInHopper 25 = .ok (.if_icmp .ne 5, 3) := by decide +kernel
theorem dX4_rankInHopper_28 : decode cX4_rankInHopper 28 = .ok (.iload_n 2, 1) := by decide +kernel
theorem dX4_rankInHopper_29 : decode cX4_rankInHopper 29 = .ok (.ireturn, 1) := by decide +kernel
theorem dX4_rankInHopper_30 : decode cX4_rankInHopper 30 = .ok (.iinc 2 1, 3) := by decide +kernel
theorem dX4_rankInHopper_33 : decode cX4_rankInHopper 33 = .ok (.goto (-31), 3) := by decide +kernel
theorem dX4_rankInHopper_36 : decode cX4_rankInHopper 36 = .ok (.bipush (-5), 2) := by decide +kernel
theorem dX4_rankInHopper_38 : decode cX4_rankInHopper 38 = .ok (.ireturn, 1) := by decide +kernel
theorem dX4_copyFrom_0 : decode cX4_copyFrom 0 = .ok (.aload_n 1, 1) := by decide +kernel
theorem dX4_copyFrom_1 : decode cX4_copyFrom 1 = .ok (.getfield 9, 3) := by decide +kernel
theorem dX4_copyFrom_4 : decode cX4_copyFrom 4 = .ok (.iconst 0, 1) := by decide +kernel
theorem dX4_copyFrom_5 : decode cX4_copyFrom 5 = .ok (.aload_n 0, 1) := by decide +kernel
theorem dX4_copyFrom_6 : decode cX4_copyFrom 6 = .ok (.getfield 9, 3) := by decide +kernel
theorem dX4_copyFrom_9 : decode cX4_copyFrom 9 = .ok (.iconst 0, 1) := by decide +kernel
theorem dX4_copyFrom_10 : decode cX4_copyFrom 10 = .ok (.bipush 40, 2) := by decide +kernel
theorem dX4_copyFrom_12 : decode cX4_copyFrom 12 = .ok (.invokestatic 34, 3) := by decide +kernel
theorem dX4_copyFrom_15 : decode cX4_copyFrom 15 = .ok (.aload_n 1, 1) := by decide +kernel
theorem dX4_copyFrom_16 : decode cX4_copyFrom 16 = .ok (.getfield 15, 3) := by decide +kernel
theorem dX4_copyFrom_19 : decode cX4_copyFrom 19 = .ok (.iconst 0, 1) := by decide +kernel
theorem dX4_copyFrom_20 : decode cX4_copyFrom 20 = .ok (.aload_n 0, 1) := by decide +kernel
theorem dX4_copyFrom_21 : decode cX4_copyFrom 21 = .ok (.getfield 15, 3) := by decide +kernel
theorem dX4_copyFrom_24 : decode cX4_copyFrom 24 = .ok (.iconst 0, 1) := by decide +kernel
theorem dX4_copyFrom_25 : decode cX4_copyFrom 25 = .ok (.bipush 40, 2) := by decide +kernel
theorem dX4_copyFrom_27 : decode cX4_copyFrom 27 = .ok (.invokestatic 34, 3) := by decide +kernel
theorem dX4_copyFrom_30 : decode cX4_copyFrom 30 = .ok (.aload_n 1, 1) := by decide +kernel
theorem dX4_copyFrom_31 : decode cX4_copyFrom 31 = .ok (.getfield 18, 3) := by decide +kernel
theorem dX4_copyFrom_34 : decode cX4_copyFrom 34 = .ok (.iconst 0, 1) := by decide +kernel
theorem dX4_copyFrom_35 : decode cX4_copyFrom 35 = .ok (.aload_n 0, 1) := by decide +kernel
theorem dX4_copyFrom_36 : decode cX4_copyFrom 36 = .ok (.getfield 18, 3) := by decide +kernel
theorem dX4_copyFrom_39 : decode cX4_copyFrom 39 = .ok (.iconst 0, 1) := by decide +kernel
theorem dX4_copyFrom_40 : decode cX4_copyFrom 40 = .ok (.bipush 40, 2) := by decide +kernel
theorem dX4_copyFrom_42 : decode cX4_copyFrom 42 = .ok (.invokestatic 34, 3) := by decide +kernel
theorem dX4_copyFrom_45 : decode cX4_copyFrom 45 = .ok (.aload_n 1, 1) := by decide +kernel
theorem dX4_copyFrom_46 : decode cX4_copyFrom 46 = .ok (.getfield 21, 3) := by decide +kernel
theorem dX4_copyFrom_49 : decode cX4_copyFrom 49 = .ok (.iconst 0, 1) := by decide +kernel
theorem dX4_copyFrom_50 : decode cX4_copyFrom 50 = .ok (.aload_n 0, 1) := by decide +kernel
theorem dX4_copyFrom_51 : decode cX4_copyFrom 51 = .ok (.getfield 21, 3) := by decide +kernel
theorem dX4_copyFrom_54 : decode cX4_copyFrom 54 = .ok (.iconst 0, 1) := by decide +kernel
theorem dX4_copyFrom_55 : decode cX4_copyFrom 55 = .ok (.bipush 40, 2) := by decide +kernel
theorem dX4_copyFrom_57 : decode cX4_copyFrom 57 = .ok (.invokestatic 34, 3) := by decide +kernel
theorem dX4_copyFrom_60 : decode cX4_copyFrom 60 = .ok (.aload_n 1, 1) := by decide +kernel
theorem dX4_copyFrom_61 : decode cX4_copyFrom 61 = .ok (.getfield 24, 3) := by decide +kernel
theorem dX4_copyFrom_64 : decode cX4_copyFrom 64 = .ok (.iconst 0, 1) := by decide +kernel
theorem dX4_copyFrom_65 : decode cX4_copyFrom 65 = .ok (.aload_n 0, 1) := by decide +kernel
theorem dX4_copyFrom_66 : decode cX4_copyFrom 66 = .ok (.getfield 24, 3) := by decide +kernel
theorem dX4_copyFrom_69 : decode cX4_copyFrom 69 = .ok (.iconst 0, 1) := by decide +kernel
theorem dX4_copyFrom_70 : decode cX4_copyFrom 70 = .ok (.bipush 7, 2) := by decide +kernel
theorem dX4_copyFrom_72 : decode cX4_copyFrom 72 = .ok (.invokestatic 34, 3) := by decide +kernel
theorem dX4_copyFrom_75 : decode cX4_copyFrom 75 = .ok (.aload_n 1, 1) := by decide +kernel
theorem dX4_copyFrom_76 : decode cX4_copyFrom 76 = .ok (.getfield 27, 3) := by decide +kernel
theorem dX4_copyFrom_79 : decode cX4_copyFrom 79 = .ok (.iconst 0, 1) := by decide +kernel
theorem dX4_copyFrom_80 : decode cX4_copyFrom 80 = .ok (.aload_n 0, 1) := by decide +kernel
theorem dX4_copyFrom_81 : decode cX4_copyFrom 81 = .ok (.getfield 27, 3) := by decide +kernel
theorem dX4_copyFrom_84 : decode cX4_copyFrom 84 = .ok (.iconst 0, 1) := by decide +kernel
theorem dX4_copyFrom_85 : decode cX4_copyFrom 85 = .ok (.bipush 12, 2) := by decide +kernel
theorem dX4_copyFrom_87 : decode cX4_copyFrom 87 = .ok (.invokestatic 34, 3) := by decide +kernel
theorem dX4_copyFrom_90 : decode cX4_copyFrom 90 = .ok (.return_, 1) := by decide +kernel
set_option maxRecDepth 20000 in
theorem ggX5_init_X1_init : GoodIn wsX5_init wsX1_init := goodIn_r _ [25, 26, 2, 3, 27, 28, 29, 30, 31, 32, 33, 34, 44, 45, 46, 47, 48, 49, 50] (by decide +kernel) (by decide +kernel)
set_option maxRecDepth 20000 in
theorem gX5_init_X1_init_n11 : GoodIn wsX5_init (wsX1_init) := ggX5_init_X1_init
set_option maxRecDepth 20000 in
theorem ggX5_init_X4_init : GoodIn wsX5_init wsX4_init := goodIn_r _ [36, 37, 2, 3, 27, 38, 39, 40, 41, 42, 43, 59, 60, 61, 62, 63, 64] (by decide +kernel) (by decide +kernel)
set_option maxRecDepth 20000 in
theorem gX5_init_X4_init_n20 : GoodIn wsX5_init (wsX4_init) := ggX5_init_X4_init
theorem dX5_init_0 : decode cX5_init 0 = .ok (.aload_n 0, 1) := by decide +kernel
theorem dX5_init_1 : decode cX5_init 1 = .ok (.invokespecial 3, 3) := by decide +kernel
theorem dX5_init_4 : decode cX5_init 4 = .ok (.aload_n 0, 1) := by decide +kernel
theorem dX5_init_5 : decode cX5_init 5 = .ok (.new 9, 3) := by decide +kernel
theorem dX5_init_8 : decode cX5_init 8 = .ok (.dup, 1) := by decide +kernel
theorem dX5_init_9 : decode cX5_init 9 = .ok (.invokespecial 11, 3) := by decide +kernel
theorem dX5_init_12 : decode cX5_init 12 = .ok (.putfield 12, 3) := by decide +kernel
theorem dX5_init_15 : decode cX5_init 15 = .ok (.aload_n 0, 1) := by decide +kernel
theorem dX5_init_16 : decode cX5_init 16 = .ok (.new 18, 3) := by decide +kernel
theorem dX5_init_19 : decode cX5_init 19 = .ok (.dup, 1) := by decide +kernel
theorem dX5_init_20 : decode cX5_init 20 = .ok (.invokespecial 20, 3) := by decide +kernel
theorem dX5_init_23 : decode cX5_init 23 = .ok (.putfield 21, 3) := by decide +kernel
theorem dX5_init_26 : decode cX5_init 26 = .ok (.aload_n 0, 1) := by decide +kernel
theorem dX5_init_27 : decode cX5_init 27 = .ok (.getstatic 25, 3) := by decide +kernel
theorem dX5_init_30 : decode cX5_init 30 = .ok (.invokevirtual 29, 3) := by decide +kernel
theorem dX5_init_33 : decode cX5_init 33 = .ok (.checkcast 30, 3) := by decide +kernel
theorem dX5_init_36 : decode cX5_init 36 = .ok (.putfield 34, 3) := by decide +kernel
theorem dX5_init_39 : decode cX5_init 39 = .ok (.aload_n 0, 1) := by decide +kernel
theorem dX5_init_40 : decode cX5_init 40 = .ok (.iconst 0, 1) := by decide +kernel
theorem dX5_init_41 : decode cX5_init 41 = .ok (.putfield 37, 3) := by decide +kernel
theorem dX5_init_44 : decode cX5_init 44 = .ok (.aload_n 0, 1) := by decide +kernel
theorem dX5_init_45 : decode cX5_init 45 = .ok (.iconst 0, 1) := by decide +kernel
theorem dX5_init_46 : decode cX5_init 46 = .ok (.putfield 41, 3) := by decide +kernel
theorem dX5_init_49 : decode cX5_init 49 = .ok (.aload_n 0, 1) := by decide +kernel
theorem dX5_init_50 : decode cX5_init 50 = .ok (.iconst 0, 1) := by decide +kernel
theorem dX5_init_51 : decode cX5_init 51 = .ok (.putfield 44, 3) := by decide +kernel
theorem dX5_init_54 : decode cX5_init 54 = .ok (.aload_n 0, 1) := by decide +kernel
theorem dX5_init_55 : decode cX5_init 55 = .ok (.iconst 0, 1) := by decide +kernel
theorem dX5_init_56 : decode cX5_init 56 = .ok (.putfield 47, 3) := by decide +kernel
theorem dX5_init_59 : decode cX5_init 59 = .ok (.aload_n 0, 1) := by decide +kernel
theorem dX5_init_60 : decode cX5_init 60 = .ok (.iconst 0, 1) := by decide +kernel
theorem dX5_init_61 : decode cX5_init 61 = .ok (.putfield 50, 3) := by decide +kernel
theorem dX5_init_64 : decode cX5_init 64 = .ok (.return_, 1) := by decide +kernel
set_option maxRecDepth 20000 in
theorem ggX5_takeIn_X4_bringToHopper : GoodIn wsX5_takeIn wsX4_bringToHopper := goodIn_r _ [19, 20, 21, 22, 23, 24, 18, 25, 26, 27, 28, 29, 30, 31, 32, 33, 34, 35, 36, 37, 38, 39, 40, 41, 65, 66, 67, 68, 69, 70] (by decide +kernel) (by decide +kernel)
set_option maxRecDepth 20000 in
theorem gX5_takeIn_X4_bringToHopper : GoodIn wsX5_takeIn (wsV RX5 81 RX4 yX4_bringToHopper wsX4_bringToHopper) := goodIn_app (goodIn_of _ (by decide +kernel)) ggX5_takeIn_X4_bringToHopper
theorem dX5_takeIn_0 : decode cX5_takeIn 0 = .ok (.aload_n 0, 1) := by decide +kernel
theorem dX5_takeIn_1 : decode cX5_takeIn 1 = .ok (.getfield 12, 3) := by decide +kernel
theorem dX5_takeIn_4 : decode cX5_takeIn 4 = .ok (.getfield 53, 3) := by decide +kernel
theorem dX5_takeIn_7 : decode cX5_takeIn 7 = .ok (.istore_n 3, 1) := by decide +kernel
theorem dX5_takeIn_8 : decode cX5_takeIn 8 = .ok (.iload_n 3, 1) := by decide +kernel
theorem dX5_takeIn_9 : decode cX5_takeIn 9 = .ok (.bipush 40, 2) := by decide +kernel
theorem dX5_takeIn_11 : decode cX5_takeIn 11 = .ok (.if_icmp .lt 4, 3) := by decide +kernel
theorem dX5_takeIn_14 : decode cX5_takeIn 14 = .ok (.return_, 1) := by decide +kernel
theorem dX5_takeIn_15 : decode cX5_takeIn 15 = .ok (.aload_n 0, 1) := by decide +kernel
theorem dX5_takeIn_16 : decode cX5_takeIn 16 = .ok (.getfield 12, 3) := by decide +kernel
theorem dX5_takeIn_19 : decode cX5_takeIn 19 = .ok (.getfield 56, 3) := by decide +kernel
theorem dX5_takeIn_22 : decode cX5_takeIn 22 = .ok (.iload_n 3, 1) := by decide +kernel
theorem dX5_takeIn_23 : decode cX5_takeIn 23 = .ok (.aload_n 1, 1) := by decide +kernel
theorem dX5_takeIn_24 : decode cX5_takeIn 24 = .ok (.getfield 59, 3) := by decide +kernel
theorem dX5_takeIn_27 : decode cX5_takeIn 27 = .ok (.iload_n 2, 1) := by decide +kernel
theorem dX5_takeIn_28 : decode cX5_takeIn 28 = .ok (.iaload, 1) := by decide +kernel
theorem dX5_takeIn_29 : decode cX5_takeIn 29 = .ok (.iastore, 1) := by decide +kernel
theorem dX5_takeIn_30 : decode cX5_takeIn 30 = .ok (.aload_n 0, 1) := by decide +kernel
theorem dX5_takeIn_31 : decode cX5_takeIn 31 = .ok (.getfield 12, 3) := by decide +kernel
theorem dX5_takeIn_34 : decode cX5_takeIn 34 = .ok (.getfield 62, 3) := by decide +kernel
theorem dX5_takeIn_37 : decode cX5_takeIn 37 = .ok (.iload_n 3, 1) := by decide +kernel
theorem dX5_takeIn_38 : decode cX5_takeIn 38 = .ok (.aload_n 1, 1) := by decide +kernel
theorem dX5_takeIn_39 : decode cX5_takeIn 39 = .ok (.getfield 65, 3) := by decide +kernel
theorem dX5_takeIn_42 : decode cX5_takeIn 42 = .ok (.iload_n 2, 1) := by decide +kernel
theorem dX5_takeIn_43 : decode cX5_takeIn 43 = .ok (.iaload, 1) := by decide +kernel
theorem dX5_takeIn_44 : decode cX5_takeIn 44 = .ok (.iastore, 1) := by decide +kernel
theorem dX5_takeIn_45 : decode cX5_takeIn 45 = .ok (.aload_n 0, 1) := by decide +kernel
theorem dX5_takeIn_46 : decode cX5_takeIn 46 = .ok (.getfield 12, 3) := by decide +kernel
theorem dX5_takeIn_49 : decode cX5_takeIn 49 = .ok (.getfield 66, 3) := by decide +kernel
theorem dX5_takeIn_52 : decode cX5_takeIn 52 = .ok (.iload_n 3, 1) := by decide +kernel
theorem dX5_takeIn_53 : decode cX5_takeIn 53 = .ok (.aload_n 1, 1) := by decide +kernel
theorem dX5_takeIn_54 : decode cX5_takeIn 54 = .ok (.getfield 69, 3) := by decide +kernel
theorem dX5_takeIn_57 : decode cX5_takeIn 57 = .ok (.iload_n 2, 1) := by decide +kernel
theorem dX5_takeIn_58 : decode cX5_takeIn 58 = .ok (.iaload, 1) := by decide +kernel
theorem dX5_takeIn_59 : decode cX5_takeIn 59 = .ok (.iastore, 1) := by decide +kernel
theorem dX5_takeIn_60 : decode cX5_takeIn 60 = .ok (.aload_n 0, 1) := by decide +kernel
theorem dX5_takeIn_61 : decode cX5_takeIn 61 = .ok (.getfield 12, 3) := by decide +kernel
theorem dX5_takeIn_64 : decode cX5_takeIn 64 = .ok (.getfield 70, 3) := by decide +kernel
theorem dX5_takeIn_67 : decode cX5_takeIn 67 = .ok (.iload_n 3, 1) := by decide +kernel
theorem dX5_takeIn_68 : decode cX5_takeIn 68 = .ok (.aload_n 1, 1) := by decide +kernel
theorem dX5_takeIn_69 : decode cX5_takeIn 69 = .ok (.getfield 73, 3) := by decide +kernel
theorem dX5_takeIn_72 : decode cX5_takeIn 72 = .ok (.iload_n 2, 1) := by decide +kernel
theorem dX5_takeIn_73 : decode cX5_takeIn 73 = .ok (.iaload, 1) := by decide +kernel
theorem dX5_takeIn_74 : decode cX5_takeIn 74 = .ok (.iastore, 1) := by decide +kernel
theorem dX5_takeIn_75 : decode cX5_takeIn 75 = .ok (.aload_n 0, 1) := by decide +kernel
theorem dX5_takeIn_76 : decode cX5_takeIn 76 = .ok (.getfield 12, 3) := by decide +kernel
theorem dX5_takeIn_79 : decode cX5_takeIn 79 = .ok (.getfield 74, 3) := by decide +kernel
theorem dX5_takeIn_82 : decode cX5_takeIn 82 = .ok (.iload_n 3, 1) := by decide +kernel
theorem dX5_takeIn_83 : decode cX5_takeIn 83 = .ok (.aload_n 1, 1) := by decide +kernel
theorem dX5_takeIn_84 : decode cX5_takeIn 84 = .ok (.getfield 77, 3) := by decide +kernel
theorem dX5_takeIn_87 : decode cX5_takeIn 87 = .ok (.iload_n 2, 1) := by decide +kernel
theorem dX5_takeIn_88 : decode cX5_takeIn 88 = .ok (.iaload, 1) := by decide +kernel
theorem dX5_takeIn_89 : decode cX5_takeIn 89 = .ok (.iastore, 1) := by decide +kernel
theorem dX5_takeIn_90 : decode cX5_takeIn 90 = .ok (.aload_n 0, 1) := by decide +kernel
theorem dX5_takeIn_91 : decode cX5_takeIn 91 = .ok (.getfield 12, 3) := by decide +kernel
theorem dX5_takeIn_94 : decode cX5_takeIn 94 = .ok (.getfield 78, 3) := by decide +kernel
theorem dX5_takeIn_97 : decode cX5_takeIn 97 = .ok (.iload_n 3, 1) := by decide +kernel
theorem dX5_takeIn_98 : decode cX5_takeIn 98 = .ok (.iconst 0, 1) := by decide +kernel
theorem dX5_takeIn_99 : decode cX5_takeIn 99 = .ok (.iastore, 1) := by decide +kernel
theorem dX5_takeIn_100 : decode cX5_takeIn 100 = .ok (.aload_n 0, 1) := by decide +kernel
theorem dX5_takeIn_101 : decode cX5_takeIn 101 = .ok (.getfield 12, 3) := by decide +kernel
theorem dX5_takeIn_104 : decode cX5_takeIn 104 = .ok (.dup, 1) := by decide +kernel
theorem dX5_takeIn_105 : decode cX5_takeIn 105 = .ok (.getfield 53, 3) := by decide +kernel
theorem dX5_takeIn_108 : decode cX5_takeIn 108 = .ok (.iconst 1, 1) := by decide +kernel
theorem dX5_takeIn_109 : decode cX5_takeIn 109 = .ok (.iadd, 1) := by decide +kernel
theorem dX5_takeIn_110 : decode cX5_takeIn 110 = .ok (.putfield 53, 3) := by decide +kernel
theorem dX5_takeIn_113 : decode cX5_takeIn 113 = .ok (.aload_n 0, 1) := by decide +kernel
theorem dX5_takeIn_114 : decode cX5_takeIn 114 = .ok (.getfield 21, 3) := by decide +kernel
theorem dX5_takeIn_117 : decode cX5_takeIn 117 = .ok (.iload_n 3, 1) := by decide +kernel
theorem dX5_takeIn_118 : decode cX5_takeIn 118 = .ok (.invokevirtual 81, 3) := by decide +kernel
theorem dX5_takeIn_121 : decode cX5_takeIn 121 = .ok (.return_, 1) := by decide +kernel
set_option maxRecDepth 20000 in
theorem ggX5_placeFor_X5_binFor : GoodIn wsX5_placeFor wsX5_binFor := goodIn_r _ [12, 1, 13, 14, 15, 16, 11, 17, 3, 7, 26, 27, 28, 29, 30, 31, 32, 33, 34, 35, 36, 37, 38, 39, 40] (by decide +kernel) (by decide +kernel)
set_option maxRecDepth 20000 in
theorem gX5_placeFor_X5_binFor : GoodIn wsX5_placeFor (wsV RX5 88 RX5 yX5_binFor wsX5_binFor) := goodIn_app (goodIn_of _ (by decide +kernel)) ggX5_placeFor_X5_binFor
set_option maxRecDepth 20000 in
theorem ggX5_placeFor_X5_hasRoom : GoodIn wsX5_placeFor wsX5_hasRoom := goodIn_r _ [21, 5, 22, 3, 23, 24, 25, 26, 27, 28, 29, 30, 31, 32, 33, 41, 42, 43, 44, 45, 46] (by decide +kernel) (by decide +kernel)
set_option maxRecDepth 20000 in
theorem gX5_placeFor_X5_hasRoom : GoodIn wsX5_placeFor (wsV RX5 92 RX5 yX5_hasRoom wsX5_hasRoom) := goodIn_app (goodIn_of _ (by decide +kernel)) ggX5_placeFor_X5_hasRoom
theorem dX5_placeFor_0 : decode cX5_placeFor 0 = .ok (.aload_n 0, 1) := by decide +kernel
theorem dX5_placeFor_1 : decode cX5_placeFor 1 = .ok (.getfield 12, 3) := by decide +kernel
theorem dX5_placeFor_4 : decode cX5_placeFor 4 = .ok (.getfield 70, 3) := by decide +kernel
theorem dX5_placeFor_7 : decode cX5_placeFor 7 = .ok (.iload_n 1, 1) := by decide +kernel
theorem dX5_placeFor_8 : decode cX5_placeFor 8 = .ok (.iaload, 1) := by decide +kernel
theorem dX5_placeFor_9 : decode cX5_placeFor 9 = .ok (.aload_n 0, 1) := by decide +kernel
theorem dX5_placeFor_10 : decode cX5_placeFor 10 = .ok (.getfield 34, 3) := by decide +kernel
theorem dX5_placeFor_13 : decode cX5_placeFor 13 = .ok (.iconst 3, 1) := by decide +kernel
theorem dX5_placeFor_14 : decode cX5_placeFor 14 = .ok (.iaload, 1) := by decide +kernel
theorem dX5_placeFor_15 : decode cX5_placeFor 15 = .ok (.if_icmp .le 5, 3) := by decide +kernel
theorem dX5_placeFor_18 : decode cX5_placeFor 18 = .ok (.iconst 1, 1) := by decide +kernel
theorem dX5_placeFor_19 : decode cX5_placeFor 19 = .ok (.ireturn, 1) := by decide +kernel
theorem dX5_placeFor_20 : decode cX5_placeFor 20 = .ok (.aload_n 0, 1) := by decide +kernel
theorem dX5_placeFor_21 : decode cX5_placeFor 21 = .ok (.getfield 12, 3) := by decide +kernel
theorem dX5_placeFor_24 : decode cX5_placeFor 24 = .ok (.getfield 66, 3) := by decide +kernel
theorem dX5_placeFor_27 : decode cX5_placeFor 27 = .ok (.iload_n 1, 1) := by decide +kernel
theorem dX5_placeFor_28 : decode cX5_placeFor 28 = .ok (.iaload, 1) := by decide +kernel
theorem dX5_placeFor_29 : decode cX5_placeFor 29 = .ok (.aload_n 0, 1) := by decide +kernel
theorem dX5_placeFor_30 : decode cX5_placeFor 30 = .ok (.getfield 34, 3) := by decide +kernel
theorem dX5_placeFor_33 : decode cX5_placeFor 33 = .ok (.iconst 4, 1) := by decide +kernel
theorem dX5_placeFor_34 : decode cX5_placeFor 34 = .ok (.iaload, 1) := by decide +kernel
theorem dX5_placeFor_35 : decode cX5_placeFor 35 = .ok (.if_icmp .lt 29, 3) := by decide +kernel
theorem dX5_placeFor_38 : decode cX5_placeFor 38 = .ok (.aload_n 0, 1) := by decide +kernel
theorem dX5_placeFor_39 : decode cX5_placeFor 39 = .ok (.getfield 21, 3) := by decide +kernel
theorem dX5_placeFor_42 : decode cX5_placeFor 42 = .ok (.getfield 85, 3) := by decide +kernel
theorem dX5_placeFor_45 : decode cX5_placeFor 45 = .ok (.iconst 2, 1) := by decide +kernel
theorem dX5_placeFor_46 : decode cX5_placeFor 46 = .ok (.iaload, 1) := by decide +kernel
theorem dX5_placeFor_47 : decode cX5_placeFor 47 = .ok (.iconst 1, 1) := by decide +kernel
theorem dX5_placeFor_48 : decode cX5_placeFor 48 = .ok (.iadd, 1) := by decide +kernel
theorem dX5_placeFor_49 : decode cX5_placeFor 49 = .ok (.aload_n 0, 1) := by decide +kernel
theorem dX5_placeFor_50 : decode cX5_placeFor 50 = .ok (.getfield 34, 3) := by decide +kernel
theorem dX5_placeFor_53 : decode cX5_placeFor 53 = .ok (.iconst 5, 1) := by decide +kernel
theorem dX5_placeFor_54 : decode cX5_placeFor 54 = .ok (.iaload, 1) := by decide +kernel
theorem dX5_placeFor_55 : decode cX5_placeFor 55 = .ok (.if_icmp .lt 7, 3) := by decide +kernel
theorem dX5_placeFor_58 : decode cX5_placeFor 58 = .ok (.iconst 3, 1) := by decide +kernel
theorem dX5_placeFor_59 : decode cX5_placeFor 59 = .ok (.goto 4, 3) := by decide +kernel
theorem dX5_placeFor_62 : decode cX5_placeFor 62 = .ok (.iconst 2, 1) := by decide +kernel
theorem dX5_placeFor_63 : decode cX5_placeFor 63 = .ok (.ireturn, 1) := by decide +kernel
theorem dX5_placeFor_64 : decode cX5_placeFor 64 = .ok (.aload_n 0, 1) := by decide +kernel
theorem dX5_placeFor_65 : decode cX5_placeFor 65 = .ok (.getfield 12, 3) := by decide +kernel
theorem dX5_placeFor_68 : decode cX5_placeFor 68 = .ok (.getfield 62, 3) := by decide +kernel
theorem dX5_placeFor_71 : decode cX5_placeFor 71 = .ok (.iload_n 1, 1) := by decide +kernel
theorem dX5_placeFor_72 : decode cX5_placeFor 72 = .ok (.iaload, 1) := by decide +kernel
theorem dX5_placeFor_73 : decode cX5_placeFor 73 = .ok (.aload_n 0, 1) := by decide +kernel
theorem dX5_placeFor_74 : decode cX5_placeFor 74 = .ok (.getfield 34, 3) := by decide +kernel
theorem dX5_placeFor_77 : decode cX5_placeFor 77 = .ok (.iconst 2, 1) := by decide +kernel
theorem dX5_placeFor_78 : decode cX5_placeFor 78 = .ok (.iaload, 1) := by decide +kernel
theorem dX5_placeFor_79 : decode cX5_placeFor 79 = .ok (.if_icmp .le 5, 3) := by decide +kernel
theorem dX5_placeFor_82 : decode cX5_placeFor 82 = .ok (.iconst 4, 1) := by decide +kernel
theorem dX5_placeFor_83 : decode cX5_placeFor 83 = .ok (.ireturn, 1) := by decide +kernel
theorem dX5_placeFor_84 : decode cX5_placeFor 84 = .ok (.aload_n 0, 1) := by decide +kernel
theorem dX5_placeFor_85 : decode cX5_placeFor 85 = .ok (.aload_n 0, 1) := by decide +kernel
theorem dX5_placeFor_86 : decode cX5_placeFor 86 = .ok (.iload_n 1, 1) := by decide +kernel
theorem dX5_placeFor_87 : decode cX5_placeFor 87 = .ok (.invokevirtual 88, 3) := by decide +kernel
theorem dX5_placeFor_90 : decode cX5_placeFor 90 = .ok (.invokevirtual 92, 3) := by decide +kernel
theorem dX5_placeFor_93 : decode cX5_placeFor 93 = .ok (.ifCond .eq 7, 3) := by decide +kernel
theorem dX5_placeFor_96 : decode cX5_placeFor 96 = .ok (.iconst 5, 1) := by decide +kernel
theorem dX5_placeFor_97 : decode cX5_placeFor 97 = .ok (.goto 4, 3) := by decide +kernel
theorem dX5_placeFor_100 : decode cX5_placeFor 100 = .ok (.iconst 0, 1) := by decide +kernel
theorem dX5_placeFor_101 : decode cX5_placeFor 101 = .ok (.ireturn, 1) := by decide +kernel
set_option maxRecDepth 20000 in
theorem ggX5_hasRoom_X7_isBin : GoodIn wsX5_hasRoom wsX7_isBin := goodIn_r _ [6] (by decide +kernel) (by decide +kernel)
set_option maxRecDepth 20000 in
theorem gX5_hasRoom_X7_isBin_n96 : GoodIn wsX5_hasRoom (wsX7_isBin) := ggX5_hasRoom_X7_isBin
theorem dX5_hasRoom_0 : decode cX5_hasRoom 0 = .ok (.iload_n 1, 1) := by decide +kernel
theorem dX5_hasRoom_1 : decode cX5_hasRoom 1 = .ok (.invokestatic 96, 3) := by decide +kernel
theorem dX5_hasRoom_4 : decode cX5_hasRoom 4 = .ok (.ifCond .eq 26, 3) := by decide +kernel
theorem dX5_hasRoom_7 : decode cX5_hasRoom 7 = .ok (.aload_n 0, 1) := by decide +kernel
theorem dX5_hasRoom_8 : decode cX5_hasRoom 8 = .ok (.getfield 21, 3) := by decide +kernel
theorem dX5_hasRoom_11 : decode cX5_hasRoom 11 = .ok (.getfield 99, 3) := by decide +kernel
theorem dX5_hasRoom_14 : decode cX5_hasRoom 14 = .ok (.iload_n 1, 1) := by decide +kernel
theorem dX5_hasRoom_15 : decode cX5_hasRoom 15 = .ok (.iaload, 1) := by decide +kernel
theorem dX5_hasRoom_16 : decode cX5_hasRoom 16 = .ok (.aload_n 0, 1) := by decide +kernel
theorem dX5_hasRoom_17 : decode cX5_hasRoom 17 = .ok (.getfield 34, 3) := by decide +kernel
theorem dX5_hasRoom_20 : decode cX5_hasRoom 20 = .ok (.bipush 6, 2) := by decide +kernel
theorem dX5_hasRoom_22 : decode cX5_hasRoom 22 = .ok (.iaload, 1) := by decide +kernel
theorem dX5_hasRoom_23 : decode cX5_hasRoom 23 = .ok (.if_icmp .ge 7, 3) := by decide +kernel
theorem dX5_hasRoom_26 : decode cX5_hasRoom 26 = .ok (.iconst 1, 1) := by decide +kernel
theorem dX5_hasRoom_27 : decode cX5_hasRoom 27 = .ok (.goto 4, 3) := by decide +kernel
theorem dX5_hasRoom_30 : decode cX5_hasRoom 30 = .ok (.iconst 0, 1) := by decide +kernel
theorem dX5_hasRoom_31 : decode cX5_hasRoom 31 = .ok (.ireturn, 1) := by decide +kernel
theorem dX5_meshClass_0 : decode cX5_meshClass 0 = .ok (.iconst 0, 1) := by decide +kernel
theorem dX5_meshClass_1 : decode cX5_meshClass 1 = .ok (.istore_n 2, 1) := by decide +kernel
theorem dX5_meshClass_2 : decode cX5_meshClass 2 = .ok (.iload_n 2, 1) := by decide +kernel
theorem dX5_meshClass_3 : decode cX5_meshClass 3 = .ok (.iconst 2, 1) := by decide +kernel
theorem dX5_meshClass_4 : decode cX5_meshClass 4 = .ok (.if_icmp .ge 27, 3) := by decide +kernel
theorem dX5_meshClass_7 : decode cX5_meshClass 7 = .ok (.aload_n 0, 1) := by decide +kernel
theorem dX5_meshClass_8 : decode cX5_meshClass 8 = .ok (.getfield 34, 3) := by decide +kernel
theorem dX5_meshClass_11 : decode cX5_meshClass 11 = .ok (.iload_n 2, 1) := by decide +kernel
theorem dX5_meshClass_12 : decode cX5_meshClass 12 = .ok (.iaload, 1) := by decide +kernel
theorem dX5_meshClass_13 : decode cX5_meshClass 13 = .ok (.aload_n 0, 1) := by decide +kernel
theorem dX5_meshClass_14 : decode cX5_meshClass 14 = .ok (.getfield 12, 3) := by decide +kernel
theorem dX5_meshClass_17 : decode cX5_meshClass 17 = .ok (.getfield 62, 3) := by decide +kernel
theorem dX5_meshClass_20 : decode cX5_meshClass 20 = .ok (.iload_n 1, 1) := by decide +kernel
theorem dX5_meshClass_21 : decode cX5_meshClass 21 = .ok (.iaload, 1) := by decide +kernel
theorem dX5_meshClass_22 : decode cX5_meshClass 22 = .ok (.if_icmp .ge 9, 3) := by decide +kernel
theorem dX5_meshClass_25 : decode cX5_meshClass 25 = .ok (.iinc 2 1, 3) := by decide +kernel
theorem dX5_meshClass_28 : decode cX5_meshClass 28 = .ok (.goto (-26), 3) := by decide +kernel
theorem dX5_meshClass_31 : decode cX5_meshClass 31 = .ok (.iload_n 2, 1) := by decide +kernel
theorem dX5_meshClass_32 : decode cX5_meshClass 32 = .ok (.ireturn, 1) := by decide +kernel
set_option maxRecDepth 20000 in
theorem ggX5_binFor_X5_meshClass : GoodIn wsX5_binFor wsX5_meshClass := goodIn_r _ [7, 8, 1, 9, 10, 11, 12, 13, 14, 15, 16, 17, 18, 19, 20, 21, 22, 23, 24] (by decide +kernel) (by decide +kernel)
set_option maxRecDepth 20000 in
theorem gX5_binFor_X5_meshClass : GoodIn wsX5_binFor (wsV RX5 102 RX5 yX5_meshClass wsX5_meshClass) := goodIn_app (goodIn_of _ (by decide +kernel)) ggX5_binFor_X5_meshClass
theorem dX5_binFor_0 : decode cX5_binFor 0 = .ok (.iconst 4, 1) := by decide +kernel
theorem dX5_binFor_1 : decode cX5_binFor 1 = .ok (.aload_n 0, 1) := by decide +kernel
theorem dX5_binFor_2 : decode cX5_binFor 2 = .ok (.iload_n 1, 1) := by decide +kernel
theorem dX5_binFor_3 : decode cX5_binFor 3 = .ok (.invokevirtual 102, 3) := by decide +kernel
theorem dX5_binFor_6 : decode cX5_binFor 6 = .ok (.imul, 1) := by decide +kernel
theorem dX5_binFor_7 : decode cX5_binFor 7 = .ok (.aload_n 0, 1) := by decide +kernel
theorem dX5_binFor_8 : decode cX5_binFor 8 = .ok (.getfield 12, 3) := by decide +kernel
theorem dX5_binFor_11 : decode cX5_binFor 11 = .ok (.getfield 56, 3) := by decide +kernel
theorem dX5_binFor_14 : decode cX5_binFor 14 = .ok (.iload_n 1, 1) := by decide +kernel
theorem dX5_binFor_15 : decode cX5_binFor 15 = .ok (.iaload, 1) := by decide +kernel
theorem dX5_binFor_16 : decode cX5_binFor 16 = .ok (.iadd, 1) := by decide +kernel
theorem dX5_binFor_17 : decode cX5_binFor 17 = .ok (.iconst 1, 1) := by decide +kernel
theorem dX5_binFor_18 : decode cX5_binFor 18 = .ok (.isub, 1) := by decide +kernel
theorem dX5_binFor_19 : decode cX5_binFor 19 = .ok (.ireturn, 1) := by decide +kernel
set_option maxRecDepth 20000 in
theorem ggX5_sortFirst_X4_takeFirst : GoodIn wsX5_sortFirst wsX4_takeFirst := goodIn_r _ [10, 11, 12, 13, 14, 15, 16, 17, 18, 19, 9, 20, 21, 22, 23, 24, 25, 26, 27, 28, 29, 30, 31, 112, 113, 114, 115, 116, 117] (by decide +kernel) (by decide +kernel)
set_option maxRecDepth 20000 in
theorem gX5_sortFirst_X4_takeFirst : GoodIn wsX5_sortFirst (wsV RX5 105 RX4 yX4_takeFirst wsX4_takeFirst) := goodIn_app (goodIn_of _ (by decide +kernel)) ggX5_sortFirst_X4_takeFirst
set_option maxRecDepth 20000 in
theorem ggX5_sortFirst_X1_has : GoodIn wsX5_sortFirst wsX1_has := goodIn_r _ [36, 37, 105, 106, 107, 108, 109, 110, 111] (by decide +kernel) (by decide +kernel)
set_option maxRecDepth 20000 in
theorem gX5_sortFirst_X1_has : GoodIn wsX5_sortFirst (wsV RX5 109 RX1 yX1_has wsX1_has) := goodIn_app (goodIn_of _ (by decide +kernel)) ggX5_sortFirst_X1_has
set_option maxRecDepth 20000 in
theorem ggX5_sortFirst_X5_placeFor : GoodIn wsX5_sortFirst wsX5_placeFor := goodIn_r _ [42, 2, 43, 44, 45, 1, 46, 47, 48, 49, 50, 41, 51, 52, 53, 54, 55, 56, 57, 58, 59, 60, 61, 30, 28, 31, 97, 98, 99, 100, 101, 102, 103, 104, 105, 106, 107, 108, 109, 110, 111, 112, 113, 114, 115, 116, 117] (by decide +kernel) (by decide +kernel)
set_option maxRecDepth 20000 in
theorem gX5_sortFirst_X5_placeFor : GoodIn wsX5_sortFirst (wsV RX5 112 RX5 yX5_placeFor wsX5_placeFor) := goodIn_app (goodIn_of _ (by decide +kernel)) ggX5_sortFirst_X5_placeFor
set_option maxRecDepth 20000 in
theorem ggX5_sortFirst_X4_bring : GoodIn wsX5_sortFirst wsX4_bring := goodIn_r _ [65, 66, 67, 68, 9, 69, 21, 22, 70, 11, 23, 24, 25, 26, 27, 28, 29, 30, 31, 112, 113, 114, 115, 116, 117] (by decide +kernel) (by decide +kernel)
set_option maxRecDepth 20000 in
theorem gX5_sortFirst_X4_bring : GoodIn wsX5_sortFirst (wsV RX5 115 RX4 yX4_bring wsX4_bring) := goodIn_app (goodIn_of _ (by decide +kernel)) ggX5_sortFirst_X4_bring
set_option maxRecDepth 20000 in
theorem ggX5_sortFirst_X5_emptyMagnet : GoodIn wsX5_sortFirst wsX5_emptyMagnet := goodIn_r _ [74, 2, 75, 1, 76, 77, 18, 19, 9, 20, 21, 11, 22, 23, 24, 25, 26, 27, 28, 29, 30, 31, 62, 63, 64, 65, 66, 67, 68, 69, 70, 97, 98, 99, 100, 101, 102, 103, 104, 105, 106, 107, 108, 109, 110, 111, 112, 113, 114, 115, 116, 117] (by decide +kernel) (by decide +kernel)
set_option maxRecDepth 20000 in
theorem gX5_sortFirst_X5_emptyMagnet : GoodIn wsX5_sortFirst (wsV RX5 119 RX5 yX5_emptyMagnet wsX5_emptyMagnet) := goodIn_app (goodIn_of _ (by decide +kernel)) ggX5_sortFirst_X5_emptyMagnet
set_option maxRecDepth 20000 in
theorem ggX5_sortFirst_X5_rub : GoodIn wsX5_sortFirst wsX5_rub := goodIn_r _ [81, 2, 47, 44, 82, 53, 54, 55, 41, 56, 83, 84, 85, 35, 86, 87, 97, 98, 99, 100, 101, 102, 103, 104, 105, 106, 107, 108, 109, 110, 111] (by decide +kernel) (by decide +kernel)
set_option maxRecDepth 20000 in
theorem gX5_sortFirst_X5_rub : GoodIn wsX5_sortFirst (wsV RX5 122 RX5 yX5_rub wsX5_rub) := goodIn_app (goodIn_of _ (by decide +kernel)) ggX5_sortFirst_X5_rub
set_option maxRecDepth 20000 in
theorem ggX5_sortFirst_X5_binFor : GoodIn wsX5_sortFirst wsX5_binFor := goodIn_r _ [51, 2, 52, 53, 54, 55, 41, 56, 44, 47, 97, 98, 99, 100, 101, 102, 103, 104, 105, 106, 107, 108, 109, 110, 111] (by decide +kernel) (by decide +kernel)
set_option maxRecDepth 20000 in
theorem gX5_sortFirst_X5_binFor : GoodIn wsX5_sortFirst (wsV RX5 88 RX5 yX5_binFor wsX5_binFor) := goodIn_app (goodIn_of _ (by decide +kernel)) ggX5_sortFirst_X5_binFor
set_option maxRecDepth 20000 in
theorem ggX5_sortFirst_X4_bringToBin : GoodIn wsX5_sortFirst wsX4_bringToBin := goodIn_r _ [91, 66, 67, 68, 9, 69, 21, 22, 70, 11, 23, 24, 25, 26, 27, 28, 29, 30, 31, 112, 113, 114, 115, 116, 117] (by decide +kernel) (by decide +kernel)
set_option maxRecDepth 20000 in
theorem gX5_sortFirst_X4_bringToBin : GoodIn wsX5_sortFirst (wsV RX5 125 RX4 yX4_bringToBin wsX4_bringToBin) := goodIn_app (goodIn_of _ (by decide +kernel)) ggX5_sortFirst_X4_bringToBin
set_option maxRecDepth 20000 in
theorem ggX5_sortFirst_X4_bringToHopper : GoodIn wsX5_sortFirst wsX4_bringToHopper := goodIn_r _ [95, 11, 12, 96, 63, 64, 9, 65, 66, 67, 68, 69, 21, 22, 70, 23, 24, 25, 26, 27, 28, 29, 30, 31, 112, 113, 114, 115, 116, 117] (by decide +kernel) (by decide +kernel)
set_option maxRecDepth 20000 in
theorem gX5_sortFirst_X4_bringToHopper : GoodIn wsX5_sortFirst (wsV RX5 81 RX4 yX4_bringToHopper wsX4_bringToHopper) := goodIn_app (goodIn_of _ (by decide +kernel)) ggX5_sortFirst_X4_bringToHopper
theorem dX5_sortFirst_0 : decode cX5_sortFirst 0 = .ok (.aload_n 0, 1) := by decide +kernel
theorem dX5_sortFirst_1 : decode cX5_sortFirst 1 = .ok (.getfield 21, 3) := by decide +kernel
theorem dX5_sortFirst_4 : decode cX5_sortFirst 4 = .ok (.invokevirtual 105, 3) := by decide +kernel
theorem dX5_sortFirst_7 : decode cX5_sortFirst 7 = .ok (.istore_n 1, 1) := by decide +kernel
theorem dX5_sortFirst_8 : decode cX5_sortFirst 8 = .ok (.aload_n 0, 1) := by decide +kernel
theorem dX5_sortFirst_9 : decode cX5_sortFirst 9 = .ok (.getfield 12, 3) := by decide +kernel
theorem dX5_sortFirst_12 : decode cX5_sortFirst 12 = .ok (.iload_n 1, 1) := by decide +kernel
theorem dX5_sortFirst_13 : decode cX5_sortFirst 13 = .ok (.invokevirtual 109, 3) := by decide +kernel
theorem dX5_sortFirst_16 : decode cX5_sortFirst 16 = .ok (.ifCond .ne 4, 3) := by decide +kernel
theorem dX5_sortFirst_19 : decode cX5_sortFirst 19 = .ok (.return_, 1) := by decide +kernel
theorem dX5_sortFirst_20 : decode cX5_sortFirst 20 = .ok (.aload_n 0, 1) := by decide +kernel
theorem dX5_sortFirst_21 : decode cX5_sortFirst 21 = .ok (.getfield 12, 3) := by decide +kernel
theorem dX5_sortFirst_24 : decode cX5_sortFirst 24 = .ok (.getfield 78, 3) := by decide +kernel
theorem dX5_sortFirst_27 : decode cX5_sortFirst 27 = .ok (.iload_n 1, 1) := by decide +kernel
theorem dX5_sortFirst_28 : decode cX5_sortFirst 28 = .ok (.dup2, 1) := by decide +kernel
theorem dX5_sortFirst_29 : decode cX5_sortFirst 29 = .ok (.iaload, 1) := by decide +kernel
theorem dX5_sortFirst_30 : decode cX5_sortFirst 30 = .ok (.iconst 1, 1) := by decide +kernel
theorem dX5_sortFirst_31 : decode cX5_sortFirst 31 = .ok (.iadd, 1) := by decide +kernel
theorem dX5_sortFirst_32 : decode cX5_sortFirst 32 = .ok (.iastore, 1) := by decide +kernel
theorem dX5_sortFirst_33 : decode cX5_sortFirst 33 = .ok (.aload_n 0, 1) := by decide +kernel
theorem dX5_sortFirst_34 : decode cX5_sortFirst 34 = .ok (.dup, 1) := by decide +kernel
theorem dX5_sortFirst_35 : decode cX5_sortFirst 35 = .ok (.getfield 44, 3) := by decide +kernel
theorem dX5_sortFirst_38 : decode cX5_sortFirst 38 = .ok (.iconst 1, 1) := by decide +kernel
theorem dX5_sortFirst_39 : decode cX5_sortFirst 39 = .ok (.iadd, 1) := by decide +kernel
theorem dX5_sortFirst_40 : decode cX5_sortFirst 40 = .ok (.putfield 44, 3) := by decide +kernel
theorem dX5_sortFirst_43 : decode cX5_sortFirst 43 = .ok (.aload_n 0, 1) := by decide +kernel
theorem dX5_sortFirst_44 : decode cX5_sortFirst 44 = .ok (.iload_n 1, 1) := by decide +kernel
theorem dX5_sortFirst_45 : decode cX5_sortFirst 45 = .ok (.invokevirtual 112, 3) := by decide +kernel
theorem dX5_sortFirst_48 : decode cX5_sortFirst 48 = .ok (.istore_n 2, 1) := by decide +kernel
theorem dX5_sortFirst_49 : decode cX5_sortFirst 49 = .ok (.iload_n 2, 1) := by decide +kernel
theorem dX5_sortFirst_50 : decode cX5_sortFirst 50 = .ok (.lookupswitch 97 #[(0, 71), (3, 34), (5, 50)], 34) := by decide +kernel
theorem dX5_sortFirst_84 : decode cX5_sortFirst 84 = .ok (.aload_n 0, 1) := by decide +kernel
theorem dX5_sortFirst_85 : decode cX5_sortFirst 85 = .ok (.getfield 21, 3) := by decide +kernel
theorem dX5_sortFirst_88 : decode cX5_sortFirst 88 = .ok (.iload_n 1, 1) := by decide +kernel
theorem dX5_sortFirst_89 : decode cX5_sortFirst 89 = .ok (.iconst 2, 1) := by decide +kernel
theorem dX5_sortFirst_90 : decode cX5_sortFirst 90 = .ok (.invokevirtual 115, 3) := by decide +kernel
theorem dX5_sortFirst_93 : decode cX5_sortFirst 93 = .ok (.aload_n 0, 1) := by decide +kernel
theorem dX5_sortFirst_94 : decode cX5_sortFirst 94 = .ok (.invokevirtual 119, 3) := by decide +kernel
theorem dX5_sortFirst_97 : decode cX5_sortFirst 97 = .ok (.goto 59, 3) := by decide +kernel
theorem dX5_sortFirst_100 : decode cX5_sortFirst 100 = .ok (.aload_n 0, 1) := by decide +kernel
theorem dX5_sortFirst_101 : decode cX5_sortFirst 101 = .ok (.iload_n 1, 1) := by decide +kernel
theorem dX5_sortFirst_102 : decode cX5_sortFirst 102 = .ok (.invokevirtual 122, 3) := by decide +kernel
theorem dX5_sortFirst_105 : decode cX5_sortFirst 105 = .ok (.aload_n 0, 1) := by decide +kernel
theorem dX5_sortFirst_106 : decode cX5_sortFirst 106 = .ok (.getfield 21, 3) := by decide +kernel
theorem dX5_sortFirst_109 : decode cX5_sortFirst 109 = .ok (.iload_n 1, 1) := by decide +kernel
theorem dX5_sortFirst_110 : decode cX5_sortFirst 110 = .ok (.aload_n 0, 1) := by decide +kernel
theorem dX5_sortFirst_111 : decode cX5_sortFirst 111 = .ok (.iload_n 1, 1) := by decide +kernel
theorem dX5_sortFirst_112 : decode cX5_sortFirst 112 = .ok (.invokevirtual 88, 3) := by decide +kernel
theorem dX5_sortFirst_115 : decode cX5_sortFirst 115 = .ok (.invokevirtual 125, 3) := by decide +kernel
theorem dX5_sortFirst_118 : decode cX5_sortFirst 118 = .ok (.goto 38, 3) := by decide +kernel
theorem dX5_sortFirst_121 : decode cX5_sortFirst 121 = .ok (.aload_n 0, 1) := by decide +kernel
theorem dX5_sortFirst_122 : decode cX5_sortFirst 122 = .ok (.iload_n 1, 1) := by decide +kernel
theorem dX5_sortFirst_123 : decode cX5_sortFirst 123 = .ok (.invokevirtual 122, 3) := by decide +kernel
theorem dX5_sortFirst_126 : decode cX5_sortFirst 126 = .ok (.aload_n 0, 1) := by decide +kernel
theorem dX5_sortFirst_127 : decode cX5_sortFirst 127 = .ok (.dup, 1) := by decide +kernel
theorem dX5_sortFirst_128 : decode cX5_sortFirst 128 = .ok (.getfield 47, 3) := by decide +kernel
theorem dX5_sortFirst_131 : decode cX5_sortFirst 131 = .ok (.iconst 1, 1) := by decide +kernel
theorem dX5_sortFirst_132 : decode cX5_sortFirst 132 = .ok (.iadd, 1) := by decide +kernel
theorem dX5_sortFirst_133 : decode cX5_sortFirst 133 = .ok (.putfield 47, 3) := by decide +kernel
theorem dX5_sortFirst_136 : decode cX5_sortFirst 136 = .ok (.aload_n 0, 1) := by decide +kernel
theorem dX5_sortFirst_137 : decode cX5_sortFirst 137 = .ok (.getfield 21, 3) := by decide +kernel
theorem dX5_sortFirst_140 : decode cX5_sortFirst 140 = .ok (.iload_n 1, 1) := by decide +kernel
theorem dX5_sortFirst_141 : decode cX5_sortFirst 141 = .ok (.invokevirtual 81, 3) := by decide +kernel
theorem dX5_sortFirst_144 : decode cX5_sortFirst 144 = .ok (.goto 12, 3) := by decide +kernel
theorem dX5_sortFirst_147 : decode cX5_sortFirst 147 = .ok (.aload_n 0, 1) := by decide +kernel
theorem dX5_sortFirst_148 : decode cX5_sortFirst 148 = .ok (.getfield 21, 3) := by decide +kernel
theorem dX5_sortFirst_151 : decode cX5_sortFirst 151 = .ok (.iload_n 1, 1) := by decide +kernel
theorem dX5_sortFirst_152 : decode cX5_sortFirst 152 = .ok (.iload_n 2, 1) := by decide +kernel
theorem dX5_sortFirst_153 : decode cX5_sortFirst 153 = .ok (.invokevirtual 115, 3) := by decide +kernel
theorem dX5_sortFirst_156 : decode cX5_sortFirst 156 = .ok (.return_, 1) := by decide +kernel
set_option maxRecDepth 20000 in
theorem ggX5_rub_X5_meshClass : GoodIn wsX5_rub wsX5_meshClass := goodIn_r _ [9, 3, 1, 2, 16, 17, 18, 19, 20, 21, 22, 23, 24, 25, 26, 27, 28, 29, 30] (by decide +kernel) (by decide +kernel)
set_option maxRecDepth 20000 in
theorem gX5_rub_X5_meshClass : GoodIn wsX5_rub (wsV RX5 102 RX5 yX5_meshClass wsX5_meshClass) := goodIn_app (goodIn_of _ (by decide +kernel)) ggX5_rub_X5_meshClass
set_option maxRecDepth 20000 in
theorem ggX5_rub_X1_chip : GoodIn wsX5_rub wsX1_chip := goodIn_r _ [14, 15, 24, 25, 26, 27, 28, 29, 30] (by decide +kernel) (by decide +kernel)
set_option maxRecDepth 20000 in
theorem gX5_rub_X1_chip : GoodIn wsX5_rub (wsV RX5 128 RX1 yX1_chip wsX1_chip) := goodIn_app (goodIn_of _ (by decide +kernel)) ggX5_rub_X1_chip
theorem dX5_rub_0 : decode cX5_rub 0 = .ok (.aload_n 0, 1) := by decide +kernel
theorem dX5_rub_1 : decode cX5_rub 1 = .ok (.getfield 12, 3) := by decide +kernel
theorem dX5_rub_4 : decode cX5_rub 4 = .ok (.getfield 62, 3) := by decide +kernel
theorem dX5_rub_7 : decode cX5_rub 7 = .ok (.iload_n 1, 1) := by decide +kernel
theorem dX5_rub_8 : decode cX5_rub 8 = .ok (.iaload, 1) := by decide +kernel
theorem dX5_rub_9 : decode cX5_rub 9 = .ok (.aload_n 0, 1) := by decide +kernel
theorem dX5_rub_10 : decode cX5_rub 10 = .ok (.getfield 34, 3) := by decide +kernel
theorem dX5_rub_13 : decode cX5_rub 13 = .ok (.aload_n 0, 1) := by decide +kernel
theorem dX5_rub_14 : decode cX5_rub 14 = .ok (.iload_n 1, 1) := by decide +kernel
theorem dX5_rub_15 : decode cX5_rub 15 = .ok (.invokevirtual 102, 3) := by decide +kernel
theorem dX5_rub_18 : decode cX5_rub 18 = .ok (.iaload, 1) := by decide +kernel
theorem dX5_rub_19 : decode cX5_rub 19 = .ok (.if_icmp .ne 21, 3) := by decide +kernel
theorem dX5_rub_22 : decode cX5_rub 22 = .ok (.aload_n 0, 1) := by decide +kernel
theorem dX5_rub_23 : decode cX5_rub 23 = .ok (.dup, 1) := by decide +kernel
theorem dX5_rub_24 : decode cX5_rub 24 = .ok (.getfield 50, 3) := by decide +kernel
theorem dX5_rub_27 : decode cX5_rub 27 = .ok (.iconst 1, 1) := by decide +kernel
theorem dX5_rub_28 : decode cX5_rub 28 = .ok (.iadd, 1) := by decide +kernel
theorem dX5_rub_29 : decode cX5_rub 29 = .ok (.putfield 50, 3) := by decide +kernel
theorem dX5_rub_32 : decode cX5_rub 32 = .ok (.aload_n 0, 1) := by decide +kernel
theorem dX5_rub_33 : decode cX5_rub 33 = .ok (.getfield 12, 3) := by decide +kernel
theorem dX5_rub_36 : decode cX5_rub 36 = .ok (.iload_n 1, 1) := by decide +kernel
theorem dX5_rub_37 : decode cX5_rub 37 = .ok (.invokevirtual 128, 3) := by decide +kernel
theorem dX5_rub_40 : decode cX5_rub 40 = .ok (.return_, 1) := by decide +kernel
set_option maxRecDepth 20000 in
theorem ggX5_emptyMagnet_X4_leave : GoodIn wsX5_emptyMagnet wsX4_leave := goodIn_r _ [9, 10, 11, 12, 13, 14, 15, 8, 16, 17, 18, 19, 20, 21, 46, 47, 48, 49, 50, 51] (by decide +kernel) (by decide +kernel)
set_option maxRecDepth 20000 in
theorem gX5_emptyMagnet_X4_leave : GoodIn wsX5_emptyMagnet (wsV RX5 134 RX4 yX4_leave wsX4_leave) := goodIn_app (goodIn_of _ (by decide +kernel)) ggX5_emptyMagnet_X4_leave
set_option maxRecDepth 20000 in
theorem ggX5_emptyMagnet_X4_bring : GoodIn wsX5_emptyMagnet wsX4_bring := goodIn_r _ [25, 26, 27, 28, 8, 29, 10, 12, 30, 11, 13, 14, 15, 16, 17, 18, 19, 20, 21, 46, 47, 48, 49, 50, 51] (by decide +kernel) (by decide +kernel)
set_option maxRecDepth 20000 in
theorem gX5_emptyMagnet_X4_bring : GoodIn wsX5_emptyMagnet (wsV RX5 115 RX4 yX4_bring wsX4_bring) := goodIn_app (goodIn_of _ (by decide +kernel)) ggX5_emptyMagnet_X4_bring
theorem dX5_emptyMagnet_0 : decode cX5_emptyMagnet 0 = .ok (.iconst 0, 1) := by decide +kernel
theorem dX5_emptyMagnet_1 : decode cX5_emptyMagnet 1 = .ok (.istore_n 1, 1) := by decide +kernel
theorem dX5_emptyMagnet_2 : decode cX5_emptyMagnet 2 = .ok (.iload_n 1, 1) := by decide +kernel
theorem dX5_emptyMagnet_3 : decode cX5_emptyMagnet 3 = .ok (.aload_n 0, 1) := by decide +kernel
theorem dX5_emptyMagnet_4 : decode cX5_emptyMagnet 4 = .ok (.getfield 12, 3) := by decide +kernel
theorem dX5_emptyMagnet_7 : decode cX5_emptyMagnet 7 = .ok (.getfield 53, 3) := by decide +kernel
theorem dX5_emptyMagnet_10 : decode cX5_emptyMagnet 10 = .ok (.if_icmp .ge 39, 3) := by decide +kernel
theorem dX5_emptyMagnet_13 : decode cX5_emptyMagnet 13 = .ok (.aload_n 0, 1) := by decide +kernel
theorem dX5_emptyMagnet_14 : decode cX5_emptyMagnet 14 = .ok (.getfield 21, 3) := by decide +kernel
theorem dX5_emptyMagnet_17 : decode cX5_emptyMagnet 17 = .ok (.getfield 131, 3) := by decide +kernel
theorem dX5_emptyMagnet_20 : decode cX5_emptyMagnet 20 = .ok (.iload_n 1, 1) := by decide +kernel
theorem dX5_emptyMagnet_21 : decode cX5_emptyMagnet 21 = .ok (.iaload, 1) := by decide +kernel
theorem dX5_emptyMagnet_22 : decode cX5_emptyMagnet 22 = .ok (.iconst 2, 1) := by decide +kernel
theorem dX5_emptyMagnet_23 : decode cX5_emptyMagnet 23 = .ok (.if_icmp .ne 20, 3) := by decide +kernel
theorem dX5_emptyMagnet_26 : decode cX5_emptyMagnet 26 = .ok (.aload_n 0, 1) := by decide +kernel
theorem dX5_emptyMagnet_27 : decode cX5_emptyMagnet 27 = .ok (.getfield 21, 3) := by decide +kernel
theorem dX5_emptyMagnet_30 : decode cX5_emptyMagnet 30 = .ok (.iload_n 1, 1) := by decide +kernel
theorem dX5_emptyMagnet_31 : decode cX5_emptyMagnet 31 = .ok (.invokevirtual 134, 3) := by decide +kernel
theorem dX5_emptyMagnet_34 : decode cX5_emptyMagnet 34 = .ok (.aload_n 0, 1) := by decide +kernel
theorem dX5_emptyMagnet_35 : decode cX5_emptyMagnet 35 = .ok (.getfield 21, 3) := by decide +kernel
theorem dX5_emptyMagnet_38 : decode cX5_emptyMagnet 38 = .ok (.iload_n 1, 1) := by decide +kernel
theorem dX5_emptyMagnet_39 : decode cX5_emptyMagnet 39 = .ok (.iconst 3, 1) := by decide +kernel
theorem dX5_emptyMagnet_40 : decode cX5_emptyMagnet 40 = .ok (.invokevirtual 115, 3) := by decide +kernel
theorem dX5_emptyMagnet_43 : decode cX5_emptyMagnet 43 = .ok (.iinc 1 1, 3) := by decide +kernel
theorem dX5_emptyMagnet_46 : decode cX5_emptyMagnet 46 = .ok (.goto (-44), 3) := by decide +kernel
theorem dX5_emptyMagnet_49 : decode cX5_emptyMagnet 49 = .ok (.return_, 1) := by decide +kernel
set_option maxRecDepth 20000 in
theorem ggX5_emptyBin_X4_leave : GoodIn wsX5_emptyBin wsX4_leave := goodIn_r _ [9, 10, 11, 12, 13, 14, 15, 8, 16, 17, 18, 19, 20, 21, 51, 52, 53, 54, 55, 56] (by decide +kernel) (by decide +kernel)
set_option maxRecDepth 20000 in
theorem gX5_emptyBin_X4_leave : GoodIn wsX5_emptyBin (wsV RX5 134 RX4 yX4_leave wsX4_leave) := goodIn_app (goodIn_of _ (by decide +kernel)) ggX5_emptyBin_X4_leave
set_option maxRecDepth 20000 in
theorem ggX5_emptyBin_X4_bringToHopper : GoodIn wsX5_emptyBin wsX4_bringToHopper := goodIn_r _ [25, 11, 26, 27, 28, 29, 8, 30, 31, 32, 33, 34, 10, 12, 35, 13, 14, 15, 16, 17, 18, 19, 20, 21, 51, 52, 53, 54, 55, 56] (by decide +kernel) (by decide +kernel)
set_option maxRecDepth 20000 in
theorem gX5_emptyBin_X4_bringToHopper : GoodIn wsX5_emptyBin (wsV RX5 81 RX4 yX4_bringToHopper wsX4_bringToHopper) := goodIn_app (goodIn_of _ (by decide +kernel)) ggX5_emptyBin_X4_bringToHopper
theorem dX5_emptyBin_0 : decode cX5_emptyBin 0 = .ok (.iconst 0, 1) := by decide +kernel
theorem dX5_emptyBin_1 : decode cX5_emptyBin 1 = .ok (.istore_n 2, 1) := by decide +kernel
theorem dX5_emptyBin_2 : decode cX5_emptyBin 2 = .ok (.iload_n 2, 1) := by decide +kernel
theorem dX5_emptyBin_3 : decode cX5_emptyBin 3 = .ok (.aload_n 0, 1) := by decide +kernel
theorem dX5_emptyBin_4 : decode cX5_emptyBin 4 = .ok (.getfield 12, 3) := by decide +kernel
theorem dX5_emptyBin_7 : decode cX5_emptyBin 7 = .ok (.getfield 53, 3) := by decide +kernel
theorem dX5_emptyBin_10 : decode cX5_emptyBin 10 = .ok (.if_icmp .ge 38, 3) := by decide +kernel
theorem dX5_emptyBin_13 : decode cX5_emptyBin 13 = .ok (.aload_n 0, 1) := by decide +kernel
theorem dX5_emptyBin_14 : decode cX5_emptyBin 14 = .ok (.getfield 21, 3) := by decide +kernel
theorem dX5_emptyBin_17 : decode cX5_emptyBin 17 = .ok (.getfield 137, 3) := by decide +kernel
theorem dX5_emptyBin_20 : decode cX5_emptyBin 20 = .ok (.iload_n 2, 1) := by decide +kernel
theorem dX5_emptyBin_21 : decode cX5_emptyBin 21 = .ok (.iaload, 1) := by decide +kernel
theorem dX5_emptyBin_22 : decode cX5_emptyBin 22 = .ok (.iload_n 1, 1) := by decide +kernel
theorem dX5_emptyBin_23 : decode cX5_emptyBin 23 = .ok (.if_icmp .ne 19, 3) := by decide +kernel
theorem dX5_emptyBin_26 : decode cX5_emptyBin 26 = .ok (.aload_n 0, 1) := by decide +kernel
theorem dX5_emptyBin_27 : decode cX5_emptyBin 27 = .ok (.getfield 21, 3) := by decide +kernel
theorem dX5_emptyBin_30 : decode cX5_emptyBin 30 = .ok (.iload_n 2, 1) := by decide +kernel
theorem dX5_emptyBin_31 : decode cX5_emptyBin 31 = .ok (.invokevirtual 134, 3) := by decide +kernel
theorem dX5_emptyBin_34 : decode cX5_emptyBin 34 = .ok (.aload_n 0, 1) := by decide +kernel
theorem dX5_emptyBin_35 : decode cX5_emptyBin 35 = .ok (.getfield 21, 3) := by decide +kernel
theorem dX5_emptyBin_38 : decode cX5_emptyBin 38 = .ok (.iload_n 2, 1) := by decide +kernel
theorem dX5_emptyBin_39 : decode cX5_emptyBin 39 = .ok (.invokevirtual 81, 3) := by decide +kernel
theorem dX5_emptyBin_42 : decode cX5_emptyBin 42 = .ok (.iinc 2 1, 3) := by decide +kernel
theorem dX5_emptyBin_45 : decode cX5_emptyBin 45 = .ok (.goto (-43), 3) := by decide +kernel
theorem dX5_emptyBin_48 : decode cX5_emptyBin 48 = .ok (.return_, 1) := by decide +kernel
set_option maxRecDepth 20000 in
theorem ggX5_makeShirt_X3_numberAt : GoodIn wsX5_makeShirt wsX3_numberAt := goodIn_r _ [15, 16, 17, 65, 66, 67] (by decide +kernel) (by decide +kernel)
set_option maxRecDepth 20000 in
theorem gX5_makeShirt_X3_numberAt : GoodIn wsX5_makeShirt (wsV RX5 140 RX3 yX3_numberAt wsX3_numberAt) := goodIn_app (goodIn_of _ (by decide +kernel)) ggX5_makeShirt_X3_numberAt
set_option maxRecDepth 20000 in
theorem ggX5_makeShirt_X1_has : GoodIn wsX5_makeShirt wsX1_has := goodIn_r _ [22, 23, 58, 59, 60, 61, 62, 63, 64] (by decide +kernel) (by decide +kernel)
set_option maxRecDepth 20000 in
theorem gX5_makeShirt_X1_has : GoodIn wsX5_makeShirt (wsV RX5 109 RX1 yX1_has wsX1_has) := goodIn_app (goodIn_of _ (by decide +kernel)) ggX5_makeShirt_X1_has
set_option maxRecDepth 20000 in
theorem ggX5_makeShirt_X4_leave : GoodIn wsX5_makeShirt wsX4_leave := goodIn_r _ [28, 29, 30, 31, 32, 33, 34, 27, 35, 36, 37, 38, 39, 40, 68, 69, 70, 71, 72, 73] (by decide +kernel) (by decide +kernel)
set_option maxRecDepth 20000 in
theorem gX5_makeShirt_X4_leave : GoodIn wsX5_makeShirt (wsV RX5 134 RX4 yX4_leave wsX4_leave) := goodIn_app (goodIn_of _ (by decide +kernel)) ggX5_makeShirt_X4_leave
set_option maxRecDepth 20000 in
theorem ggX5_makeShirt_X4_bringToShirt : GoodIn wsX5_makeShirt wsX4_bringToShirt := goodIn_r _ [44, 45, 46, 47, 27, 48, 29, 31, 49, 30, 32, 33, 34, 35, 36, 37, 38, 39, 40, 68, 69, 70, 71, 72, 73] (by decide +kernel) (by decide +kernel)
set_option maxRecDepth 20000 in
theorem gX5_makeShirt_X4_bringToShirt : GoodIn wsX5_makeShirt (wsV RX5 145 RX4 yX4_bringToShirt wsX4_bringToShirt) := goodIn_app (goodIn_of _ (by decide +kernel)) ggX5_makeShirt_X4_bringToShirt
theorem dX5_makeShirt_0 : decode cX5_makeShirt 0 = .ok (.iconst 0, 1) := by decide +kernel
theorem dX5_makeShirt_1 : decode cX5_makeShirt 1 = .ok (.istore 4, 2) := by decide +kernel
theorem dX5_makeShirt_3 : decode cX5_makeShirt 3 = .ok (.iconst 0, 1) := by decide +kernel
theorem dX5_makeShirt_4 : decode cX5_makeShirt 4 = .ok (.istore 5, 2) := by decide +kernel
theorem dX5_makeShirt_6 : decode cX5_makeShirt 6 = .ok (.iload 5, 2) := by decide +kernel
theorem dX5_makeShirt_8 : decode cX5_makeShirt 8 = .ok (.iload_n 3, 1) := by decide +kernel
theorem dX5_makeShirt_9 : decode cX5_makeShirt 9 = .ok (.if_icmp .ge 79, 3) := by decide +kernel
theorem dX5_makeShirt_12 : decode cX5_makeShirt 12 = .ok (.aload_n 1, 1) := by decide +kernel
theorem dX5_makeShirt_13 : decode cX5_makeShirt 13 = .ok (.iload_n 2, 1) := by decide +kernel
theorem dX5_makeShirt_14 : decode cX5_makeShirt 14 = .ok (.iload 5, 2) := by decide +kernel
theorem dX5_makeShirt_16 : decode cX5_makeShirt 16 = .ok (.iadd, 1) := by decide +kernel
theorem dX5_makeShirt_17 : decode cX5_makeShirt 17 = .ok (.invokevirtual 140, 3) := by decide +kernel
theorem dX5_makeShirt_20 : decode cX5_makeShirt 20 = .ok (.istore 6, 2) := by decide +kernel
theorem dX5_makeShirt_22 : decode cX5_makeShirt 22 = .ok (.aload_n 0, 1) := by decide +kernel
theorem dX5_makeShirt_23 : decode cX5_makeShirt 23 = .ok (.getfield 12, 3) := by decide +kernel
theorem dX5_makeShirt_26 : decode cX5_makeShirt 26 = .ok (.iload 6, 2) := by decide +kernel
theorem dX5_makeShirt_28 : decode cX5_makeShirt 28 = .ok (.invokevirtual 109, 3) := by decide +kernel
theorem dX5_makeShirt_31 : decode cX5_makeShirt 31 = .ok (.ifCond .eq 51, 3) := by decide +kernel
theorem dX5_makeShirt_34 : decode cX5_makeShirt 34 = .ok (.iload 4, 2) := by decide +kernel
theorem dX5_makeShirt_36 : decode cX5_makeShirt 36 = .ok (.aload_n 0, 1) := by decide +kernel
theorem dX5_makeShirt_37 : decode cX5_makeShirt 37 = .ok (.getfield 12, 3) := by decide +kernel
theorem dX5_makeShirt_40 : decode cX5_makeShirt 40 = .ok (.getfield 74, 3) := by decide +kernel
theorem dX5_makeShirt_43 : decode cX5_makeShirt 43 = .ok (.iload 6, 2) := by decide +kernel
theorem dX5_makeShirt_45 : decode cX5_makeShirt 45 = .ok (.iaload, 1) := by decide +kernel
theorem dX5_makeShirt_46 : decode cX5_makeShirt 46 = .ok (.aload_n 0, 1) := by decide +kernel
theorem dX5_makeShirt_47 : decode cX5_makeShirt 47 = .ok (.getfield 12, 3) := by decide +kernel
theorem dX5_makeShirt_50 : decode cX5_makeShirt 50 = .ok (.getfield 70, 3) := by decide +kernel
theorem dX5_makeShirt_53 : decode cX5_makeShirt 53 = .ok (.iload 6, 2) := by decide +kernel
theorem dX5_makeShirt_55 : decode cX5_makeShirt 55 = .ok (.iaload, 1) := by decide +kernel
theorem dX5_makeShirt_56 : decode cX5_makeShirt 56 = .ok (.isub, 1) := by decide +kernel
theorem dX5_makeShirt_57 : decode cX5_makeShirt 57 = .ok (.iadd, 1) := by decide +kernel
theorem dX5_makeShirt_58 : decode cX5_makeShirt 58 = .ok (.istore 4, 2) := by decide +kernel
theorem dX5_makeShirt_60 : decode cX5_makeShirt 60 = .ok (.aload_n 0, 1) := by decide +kernel
theorem dX5_makeShirt_61 : decode cX5_makeShirt 61 = .ok (.getfield 21, 3) := by decide +kernel
theorem dX5_makeShirt_64 : decode cX5_makeShirt 64 = .ok (.iload 6, 2) := by decide +kernel
theorem dX5_makeShirt_66 : decode cX5_makeShirt 66 = .ok (.invokevirtual 134, 3) := by decide +kernel
theorem dX5_makeShirt_69 : decode cX5_makeShirt 69 = .ok (.aload_n 0, 1) := by decide +kernel
theorem dX5_makeShirt_70 : decode cX5_makeShirt 70 = .ok (.getfield 21, 3) := by decide +kernel
theorem dX5_makeShirt_73 : decode cX5_makeShirt 73 = .ok (.iload 6, 2) := by decide +kernel
theorem dX5_makeShirt_75 : decode cX5_makeShirt 75 = .ok (.aload_n 0, 1) := by decide +kernel
theorem dX5_makeShirt_76 : decode cX5_makeShirt 76 = .ok (.getfield 37, 3) := by decide +kernel
theorem dX5_makeShirt_79 : decode cX5_makeShirt 79 = .ok (.invokevirtual 145, 3) := by decide +kernel
theorem dX5_makeShirt_82 : decode cX5_makeShirt 82 = .ok (.iinc 5 1, 3) := by decide +kernel
theorem dX5_makeShirt_85 : decode cX5_makeShirt 85 = .ok (.goto (-79), 3) := by decide +kernel
theorem dX5_makeShirt_88 : decode cX5_makeShirt 88 = .ok (.iload 4, 2) := by decide +kernel
theorem dX5_makeShirt_90 : decode cX5_makeShirt 90 = .ok (.iconst 0, 1) := by decide +kernel
theorem dX5_makeShirt_91 : decode cX5_makeShirt 91 = .ok (.invokestatic 148, 3) := by decide +kernel
theorem dX5_makeShirt_94 : decode cX5_makeShirt 94 = .ok (.istore 4, 2) := by decide +kernel
theorem dX5_makeShirt_96 : decode cX5_makeShirt 96 = .ok (.aload_n 0, 1) := by decide +kernel
theorem dX5_makeShirt_97 : decode cX5_makeShirt 97 = .ok (.dup, 1) := by decide +kernel
theorem dX5_makeShirt_98 : decode cX5_makeShirt 98 = .ok (.getfield 37, 3) := by decide +kernel
theorem dX5_makeShirt_101 : decode cX5_makeShirt 101 = .ok (.iconst 1, 1) := by decide +kernel
theorem dX5_makeShirt_102 : decode cX5_makeShirt 102 = .ok (.iadd, 1) := by decide +kernel
theorem dX5_makeShirt_103 : decode cX5_makeShirt 103 = .ok (.putfield 37, 3) := by decide +kernel
theorem dX5_makeShirt_106 : decode cX5_makeShirt 106 = .ok (.aload_n 0, 1) := by decide +kernel
theorem dX5_makeShirt_107 : decode cX5_makeShirt 107 = .ok (.dup, 1) := by decide +kernel
theorem dX5_makeShirt_108 : decode cX5_makeShirt 108 = .ok (.getfield 41, 3) := by decide +kernel
theorem dX5_makeShirt_111 : decode cX5_makeShirt 111 = .ok (.iload 4, 2) := by decide +kernel
theorem dX5_makeShirt_113 : decode cX5_makeShirt 113 = .ok (.iadd, 1) := by decide +kernel
theorem dX5_makeShirt_114 : decode cX5_makeShirt 114 = .ok (.putfield 41, 3) := by decide +kernel
theorem dX5_makeShirt_117 : decode cX5_makeShirt 117 = .ok (.iload 4, 2) := by decide +kernel
theorem dX5_makeShirt_119 : decode cX5_makeShirt 119 = .ok (.ireturn, 1) := by decide +kernel
theorem dX5_meshesAllow_0 : decode cX5_meshesAllow 0 = .ok (.iload_n 1, 1) := by decide +kernel
theorem dX5_meshesAllow_1 : decode cX5_meshesAllow 1 = .ok (.iconst 3, 1) := by decide +kernel
theorem dX5_meshesAllow_2 : decode cX5_meshesAllow 2 = .ok (.if_icmp .lt 5, 3) := by decide +kernel
theorem dX5_meshesAllow_5 : decode cX5_meshesAllow 5 = .ok (.iconst 1, 1) := by decide +kernel
theorem dX5_meshesAllow_6 : decode cX5_meshesAllow 6 = .ok (.ireturn, 1) := by decide +kernel
theorem dX5_meshesAllow_7 : decode cX5_meshesAllow 7 = .ok (.iload_n 1, 1) := by decide +kernel
theorem dX5_meshesAllow_8 : decode cX5_meshesAllow 8 = .ok (.ifCond .le 17, 3) := by decide +kernel
theorem dX5_meshesAllow_11 : decode cX5_meshesAllow 11 = .ok (.aload_n 0, 1) := by decide +kernel
theorem dX5_meshesAllow_12 : decode cX5_meshesAllow 12 = .ok (.getfield 34, 3) := by decide +kernel
theorem dX5_meshesAllow_15 : decode cX5_meshesAllow 15 = .ok (.iload_n 1, 1) := by decide +kernel
theorem dX5_meshesAllow_16 : decode cX5_meshesAllow 16 = .ok (.iconst 1, 1) := by decide +kernel
theorem dX5_meshesAllow_17 : decode cX5_meshesAllow 17 = .ok (.isub, 1) := by decide +kernel
theorem dX5_meshesAllow_18 : decode cX5_meshesAllow 18 = .ok (.iaload, 1) := by decide +kernel
theorem dX5_meshesAllow_19 : decode cX5_meshesAllow 19 = .ok (.iload_n 2, 1) := by decide +kernel
theorem dX5_meshesAllow_20 : decode cX5_meshesAllow 20 = .ok (.if_icmp .le 5, 3) := by decide +kernel
theorem dX5_meshesAllow_23 : decode cX5_meshesAllow 23 = .ok (.iconst 0, 1) := by decide +kernel
theorem dX5_meshesAllow_24 : decode cX5_meshesAllow 24 = .ok (.ireturn, 1) := by decide +kernel
theorem dX5_meshesAllow_25 : decode cX5_meshesAllow 25 = .ok (.iload_n 1, 1) := by decide +kernel
theorem dX5_meshesAllow_26 : decode cX5_meshesAllow 26 = .ok (.iconst 2, 1) := by decide +kernel
theorem dX5_meshesAllow_27 : decode cX5_meshesAllow 27 = .ok (.if_icmp .eq 15, 3) := by decide +kernel
theorem dX5_meshesAllow_30 : decode cX5_meshesAllow 30 = .ok (.iload_n 2, 1) := by decide +kernel
theorem dX5_meshesAllow_31 : decode cX5_meshesAllow 31 = .ok (.aload_n 0, 1) := by decide +kernel
theorem dX5_meshesAllow_32 : decode cX5_meshesAllow 32 = .ok (.getfield 34, 3) := by decide +kernel
theorem dX5_meshesAllow_35 : decode cX5_meshesAllow 35 = .ok (.iload_n 1, 1) := by decide +kernel
theorem dX5_meshesAllow_36 : decode cX5_meshesAllow 36 = .ok (.iconst 1, 1) := by decide +kernel
theorem dX5_meshesAllow_37 : decode cX5_meshesAllow 37 = .ok (.iadd, 1) := by decide +kernel
theorem dX5_meshesAllow_38 : decode cX5_meshesAllow 38 = .ok (.iaload, 1) := by decide +kernel
theorem dX5_meshesAllow_39 : decode cX5_meshesAllow 39 = .ok (.if_icmp .gt 7, 3) := by decide +kernel
theorem dX5_meshesAllow_42 : decode cX5_meshesAllow 42 = .ok (.iconst 1, 1) := by decide +kernel
theorem dX5_meshesAllow_43 : decode cX5_meshesAllow 43 = .ok (.goto 4, 3) := by decide +kernel
theorem dX5_meshesAllow_46 : decode cX5_meshesAllow 46 = .ok (.iconst 0, 1) := by decide +kernel
theorem dX5_meshesAllow_47 : decode cX5_meshesAllow 47 = .ok (.ireturn, 1) := by decide +kernel
set_option maxRecDepth 20000 in
theorem ggX5_copyFrom_X1_copyFrom : GoodIn wsX5_copyFrom wsX1_copyFrom := goodIn_r _ [17, 18, 19, 20, 5, 6, 7, 21, 22, 23, 24, 25, 46, 47, 48, 49, 50, 51, 52] (by decide +kernel) (by decide +kernel)
set_option maxRecDepth 20000 in
theorem gX5_copyFrom_X1_copyFrom : GoodIn wsX5_copyFrom (wsV RX5 154 RX1 yX1_copyFrom wsX1_copyFrom) := goodIn_app (goodIn_of _ (by decide +kernel)) ggX5_copyFrom_X1_copyFrom
set_option maxRecDepth 20000 in
theorem ggX5_copyFrom_X4_copyFrom : GoodIn wsX5_copyFrom wsX4_copyFrom := goodIn_r _ [30, 31, 32, 5, 6, 7, 33, 34, 35, 36, 37, 53, 54, 55, 56, 57, 58] (by decide +kernel) (by decide +kernel)
set_option maxRecDepth 20000 in
theorem gX5_copyFrom_X4_copyFrom : GoodIn wsX5_copyFrom (wsV RX5 158 RX4 yX4_copyFrom wsX4_copyFrom) := goodIn_app (goodIn_of _ (by decide +kernel)) ggX5_copyFrom_X4_copyFrom
theorem dX5_copyFrom_0 : decode cX5_copyFrom 0 = .ok (.aload_n 0, 1) := by decide +kernel
theorem dX5_copyFrom_1 : decode cX5_copyFrom 1 = .ok (.getfield 12, 3) := by decide +kernel
theorem dX5_copyFrom_4 : decode cX5_copyFrom 4 = .ok (.aload_n 1, 1) := by decide +kernel
theorem dX5_copyFrom_5 : decode cX5_copyFrom 5 = .ok (.getfield 12, 3) := by decide +kernel
theorem dX5_copyFrom_8 : decode cX5_copyFrom 8 = .ok (.invokevirtual 154, 3) := by decide +kernel
theorem dX5_copyFrom_11 : decode cX5_copyFrom 11 = .ok (.aload_n 0, 1) := by decide +kernel
theorem dX5_copyFrom_12 : decode cX5_copyFrom 12 = .ok (.getfield 21, 3) := by decide +kernel
theorem dX5_copyFrom_15 : decode cX5_copyFrom 15 = .ok (.aload_n 1, 1) := by decide +kernel
theorem dX5_copyFrom_16 : decode cX5_copyFrom 16 = .ok (.getfield 21, 3) := by decide +kernel
theorem dX5_copyFrom_19 : decode cX5_copyFrom 19 = .ok (.invokevirtual 158, 3) := by decide +kernel
theorem dX5_copyFrom_22 : decode cX5_copyFrom 22 = .ok (.aload_n 1, 1) := by decide +kernel
theorem dX5_copyFrom_23 : decode cX5_copyFrom 23 = .ok (.getfield 34, 3) := by decide +kernel
theorem dX5_copyFrom_26 : decode cX5_copyFrom 26 = .ok (.iconst 0, 1) := by decide +kernel
theorem dX5_copyFrom_27 : decode cX5_copyFrom 27 = .ok (.aload_n 0, 1) := by decide +kernel
theorem dX5_copyFrom_28 : decode cX5_copyFrom 28 = .ok (.getfield 34, 3) := by decide +kernel
theorem dX5_copyFrom_31 : decode cX5_copyFrom 31 = .ok (.iconst 0, 1) := by decide +kernel
theorem dX5_copyFrom_32 : decode cX5_copyFrom 32 = .ok (.bipush 8, 2) := by decide +kernel
theorem dX5_copyFrom_34 : decode cX5_copyFrom 34 = .ok (.invokestatic 161, 3) := by decide +kernel
theorem dX5_copyFrom_37 : decode cX5_copyFrom 37 = .ok (.aload_n 0, 1) := by decide +kernel
theorem dX5_copyFrom_38 : decode cX5_copyFrom 38 = .ok (.aload_n 1, 1) := by decide +kernel
theorem dX5_copyFrom_39 : decode cX5_copyFrom 39 = .ok (.getfield 37, 3) := by decide +kernel
theorem dX5_copyFrom_42 : decode cX5_copyFrom 42 = .ok (.putfield 37, 3) := by decide +kernel
theorem dX5_copyFrom_45 : decode cX5_copyFrom 45 = .ok (.aload_n 0, 1) := by decide +kernel
theorem dX5_copyFrom_46 : decode cX5_copyFrom 46 = .ok (.aload_n 1, 1) := by decide +kernel
theorem dX5_copyFrom_47 : decode cX5_copyFrom 47 = .ok (.getfield 41, 3) := by decide +kernel
theorem dX5_copyFrom_50 : decode cX5_copyFrom 50 = .ok (.putfield 41, 3) := by decide +kernel
theorem dX5_copyFrom_53 : decode cX5_copyFrom 53 = .ok (.aload_n 0, 1) := by decide +kernel
theorem dX5_copyFrom_54 : decode cX5_copyFrom 54 = .ok (.aload_n 1, 1) := by decide +kernel
theorem dX5_copyFrom_55 : decode cX5_copyFrom 55 = .ok (.getfield 44, 3) := by decide +kernel
theorem dX5_copyFrom_58 : decode cX5_copyFrom 58 = .ok (.putfield 44, 3) := by decide +kernel
theorem dX5_copyFrom_61 : decode cX5_copyFrom 61 = .ok (.aload_n 0, 1) := by decide +kernel
theorem dX5_copyFrom_62 : decode cX5_copyFrom 62 = .ok (.aload_n 1, 1) := by decide +kernel
theorem dX5_copyFrom_63 : decode cX5_copyFrom 63 = .ok (.getfield 47, 3) := by decide +kernel
theorem dX5_copyFrom_66 : decode cX5_copyFrom 66 = .ok (.putfield 47, 3) := by decide +kernel
theorem dX5_copyFrom_69 : decode cX5_copyFrom 69 = .ok (.aload_n 0, 1) := by decide +kernel
theorem dX5_copyFrom_70 : decode cX5_copyFrom 70 = .ok (.aload_n 1, 1) := by decide +kernel
theorem dX5_copyFrom_71 : decode cX5_copyFrom 71 = .ok (.getfield 50, 3) := by decide +kernel
theorem dX5_copyFrom_74 : decode cX5_copyFrom 74 = .ok (.putfield 50, 3) := by decide +kernel
theorem dX5_copyFrom_77 : decode cX5_copyFrom 77 = .ok (.return_, 1) := by decide +kernel
theorem dX6_init_0 : decode cX6_init 0 = .ok (.aload_n 0, 1) := by decide +kernel
theorem dX6_init_1 : decode cX6_init 1 = .ok (.invokespecial 3, 3) := by decide +kernel
theorem dX6_init_4 : decode cX6_init 4 = .ok (.aload_n 0, 1) := by decide +kernel
theorem dX6_init_5 : decode cX6_init 5 = .ok (.bipush 60, 2) := by decide +kernel
theorem dX6_init_7 : decode cX6_init 7 = .ok (.newarray .char, 2) := by decide +kernel
theorem dX6_init_9 : decode cX6_init 9 = .ok (.putfield 9, 3) := by decide +kernel
theorem dX6_init_12 : decode cX6_init 12 = .ok (.aload_n 0, 1) := by decide +kernel
theorem dX6_init_13 : decode cX6_init 13 = .ok (.iconst 0, 1) := by decide +kernel
theorem dX6_init_14 : decode cX6_init 14 = .ok (.putfield 15, 3) := by decide +kernel
theorem dX6_init_17 : decode cX6_init 17 = .ok (.return_, 1) := by decide +kernel
theorem dX6_append_0 : decode cX6_append 0 = .ok (.aload_n 0, 1) := by decide +kernel
theorem dX6_append_1 : decode cX6_append 1 = .ok (.getfield 15, 3) := by decide +kernel
theorem dX6_append_4 : decode cX6_append 4 = .ok (.bipush 60, 2) := by decide +kernel
theorem dX6_append_6 : decode cX6_append 6 = .ok (.if_icmp .lt 5, 3) := by decide +kernel
theorem dX6_append_9 : decode cX6_append 9 = .ok (.iconst 0, 1) := by decide +kernel
theorem dX6_append_10 : decode cX6_append 10 = .ok (.ireturn, 1) := by decide +kernel
theorem dX6_append_11 : decode cX6_append 11 = .ok (.aload_n 0, 1) := by decide +kernel
theorem dX6_append_12 : decode cX6_append 12 = .ok (.getfield 9, 3) := by decide +kernel
theorem dX6_append_15 : decode cX6_append 15 = .ok (.aload_n 0, 1) := by decide +kernel
theorem dX6_append_16 : decode cX6_append 16 = .ok (.getfield 15, 3) := by decide +kernel
theorem dX6_append_19 : decode cX6_append 19 = .ok (.iload_n 1, 1) := by decide +kernel
theorem dX6_append_20 : decode cX6_append 20 = .ok (.castore, 1) := by decide +kernel
theorem dX6_append_21 : decode cX6_append 21 = .ok (.aload_n 0, 1) := by decide +kernel
theorem dX6_append_22 : decode cX6_append 22 = .ok (.dup, 1) := by decide +kernel
theorem dX6_append_23 : decode cX6_append 23 = .ok (.getfield 15, 3) := by decide +kernel
theorem dX6_append_26 : decode cX6_append 26 = .ok (.iconst 1, 1) := by decide +kernel
theorem dX6_append_27 : decode cX6_append 27 = .ok (.iadd, 1) := by decide +kernel
theorem dX6_append_28 : decode cX6_append 28 = .ok (.putfield 15, 3) := by decide +kernel
theorem dX6_append_31 : decode cX6_append 31 = .ok (.iconst 1, 1) := by decide +kernel
theorem dX6_append_32 : decode cX6_append 32 = .ok (.ireturn, 1) := by decide +kernel
