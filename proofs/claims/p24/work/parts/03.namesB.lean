set_option maxRecDepth 20000 in
theorem ggX7_init_X6_init : GoodIn wsX7_init wsX6_init := goodIn_r _ [28, 29, 2, 3, 30, 31, 32, 101, 102] (by decide +kernel) (by decide +kernel)
set_option maxRecDepth 20000 in
theorem gX7_init_X6_init_n9 : GoodIn wsX7_init (wsX6_init) := ggX7_init_X6_init
set_option maxRecDepth 20000 in
theorem ggX7_init_X0_init : GoodIn wsX7_init wsX0_init := goodIn_r _ [35, 36, 2, 3, 37, 38, 39, 40, 41, 42, 43, 44, 45, 111, 112, 113, 114, 115, 116, 117, 118] (by decide +kernel) (by decide +kernel)
set_option maxRecDepth 20000 in
theorem gX7_init_X0_init : GoodIn wsX7_init (wsX0_init) := ggX7_init_X0_init
set_option maxRecDepth 20000 in
theorem ggX7_init_X3_init : GoodIn wsX7_init wsX3_init := goodIn_r _ [47, 48, 2, 3, 37, 49, 50, 51, 119, 120, 121] (by decide +kernel) (by decide +kernel)
set_option maxRecDepth 20000 in
theorem gX7_init_X3_init_n27 : GoodIn wsX7_init (wsX3_init) := ggX7_init_X3_init
set_option maxRecDepth 20000 in
theorem ggX7_init_X2_init : GoodIn wsX7_init wsX2_init := goodIn_r _ [54, 55, 2, 3, 56, 57, 58, 21, 22, 59, 60, 61, 62, 63, 64, 65, 66, 67, 68, 69, 70, 71, 72, 73, 74, 75, 76, 77, 78, 79, 80, 81, 82, 83, 84, 37, 85, 86, 87, 88, 89, 90, 91, 92, 93, 94, 95, 96, 97, 98, 99, 100, 122, 123, 124, 125, 126, 127, 128, 129, 130, 131, 132, 133, 134, 135, 136, 137, 138, 139, 140, 141, 142, 143, 144] (by decide +kernel) (by decide +kernel)
set_option maxRecDepth 20000 in
theorem gX7_init_X2_init : GoodIn wsX7_init (wsX2_init) := ggX7_init_X2_init
set_option maxRecDepth 20000 in
theorem ggX7_init_X5_init : GoodIn wsX7_init wsX5_init := goodIn_r _ [60, 61, 2, 3, 62, 63, 64, 65, 66, 67, 68, 69, 70, 71, 72, 73, 74, 75, 76, 77, 78, 79, 80, 81, 82, 83, 84, 37, 85, 86, 87, 88, 89, 90, 91, 92, 93, 94, 95, 96, 97, 98, 99, 100, 132, 133, 134, 135, 136, 137, 138, 124, 125, 126, 127, 128, 129, 130, 131, 139, 140, 141, 142, 143, 144] (by decide +kernel) (by decide +kernel)
set_option maxRecDepth 20000 in
theorem gX7_init_X5_init_n41 : GoodIn wsX7_init (wsX5_init) := ggX7_init_X5_init
theorem dX7_init_0 : decode cX7_init 0 = .ok (.aload_n 0, 1) := by decide +kernel
theorem dX7_init_1 : decode cX7_init 1 = .ok (.invokespecial 1, 3) := by decide +kernel
theorem dX7_init_4 : decode cX7_init 4 = .ok (.aload_n 0, 1) := by decide +kernel
theorem dX7_init_5 : decode cX7_init 5 = .ok (.new 7, 3) := by decide +kernel
theorem dX7_init_8 : decode cX7_init 8 = .ok (.dup, 1) := by decide +kernel
theorem dX7_init_9 : decode cX7_init 9 = .ok (.invokespecial 9, 3) := by decide +kernel
theorem dX7_init_12 : decode cX7_init 12 = .ok (.putfield 10, 3) := by decide +kernel
theorem dX7_init_15 : decode cX7_init 15 = .ok (.aload_n 0, 1) := by decide +kernel
theorem dX7_init_16 : decode cX7_init 16 = .ok (.new 16, 3) := by decide +kernel
theorem dX7_init_19 : decode cX7_init 19 = .ok (.dup, 1) := by decide +kernel
theorem dX7_init_20 : decode cX7_init 20 = .ok (.aload_n 0, 1) := by decide +kernel
theorem dX7_init_21 : decode cX7_init 21 = .ok (.getfield 10, 3) := by decide +kernel
theorem dX7_init_24 : decode cX7_init 24 = .ok (.invokespecial 18, 3) := by decide +kernel
theorem dX7_init_27 : decode cX7_init 27 = .ok (.putfield 21, 3) := by decide +kernel
theorem dX7_init_30 : decode cX7_init 30 = .ok (.aload_n 0, 1) := by decide +kernel
theorem dX7_init_31 : decode cX7_init 31 = .ok (.new 25, 3) := by decide +kernel
theorem dX7_init_34 : decode cX7_init 34 = .ok (.dup, 1) := by decide +kernel
theorem dX7_init_35 : decode cX7_init 35 = .ok (.invokespecial 27, 3) := by decide +kernel
theorem dX7_init_38 : decode cX7_init 38 = .ok (.putfield 28, 3) := by decide +kernel
theorem dX7_init_41 : decode cX7_init 41 = .ok (.aload_n 0, 1) := by decide +kernel
theorem dX7_init_42 : decode cX7_init 42 = .ok (.new 32, 3) := by decide +kernel
theorem dX7_init_45 : decode cX7_init 45 = .ok (.dup, 1) := by decide +kernel
theorem dX7_init_46 : decode cX7_init 46 = .ok (.invokespecial 34, 3) := by decide +kernel
theorem dX7_init_49 : decode cX7_init 49 = .ok (.putfield 35, 3) := by decide +kernel
theorem dX7_init_52 : decode cX7_init 52 = .ok (.aload_n 0, 1) := by decide +kernel
theorem dX7_init_53 : decode cX7_init 53 = .ok (.new 39, 3) := by decide +kernel
theorem dX7_init_56 : decode cX7_init 56 = .ok (.dup, 1) := by decide +kernel
theorem dX7_init_57 : decode cX7_init 57 = .ok (.invokespecial 41, 3) := by decide +kernel
theorem dX7_init_60 : decode cX7_init 60 = .ok (.putfield 42, 3) := by decide +kernel
theorem dX7_init_63 : decode cX7_init 63 = .ok (.aload_n 0, 1) := by decide +kernel
theorem dX7_init_64 : decode cX7_init 64 = .ok (.new 39, 3) := by decide +kernel
theorem dX7_init_67 : decode cX7_init 67 = .ok (.dup, 1) := by decide +kernel
theorem dX7_init_68 : decode cX7_init 68 = .ok (.invokespecial 41, 3) := by decide +kernel
theorem dX7_init_71 : decode cX7_init 71 = .ok (.putfield 46, 3) := by decide +kernel
theorem dX7_init_74 : decode cX7_init 74 = .ok (.aload_n 0, 1) := by decide +kernel
theorem dX7_init_75 : decode cX7_init 75 = .ok (.new 39, 3) := by decide +kernel
theorem dX7_init_78 : decode cX7_init 78 = .ok (.dup, 1) := by decide +kernel
theorem dX7_init_79 : decode cX7_init 79 = .ok (.invokespecial 41, 3) := by decide +kernel
theorem dX7_init_82 : decode cX7_init 82 = .ok (.putfield 49, 3) := by decide +kernel
theorem dX7_init_85 : decode cX7_init 85 = .ok (.aload_n 0, 1) := by decide +kernel
theorem dX7_init_86 : decode cX7_init 86 = .ok (.iconst 0, 1) := by decide +kernel
theorem dX7_init_87 : decode cX7_init 87 = .ok (.putfield 52, 3) := by decide +kernel
theorem dX7_init_90 : decode cX7_init 90 = .ok (.return_, 1) := by decide +kernel
set_option maxRecDepth 20000 in
theorem ggX7_read_X0_parse : GoodIn wsX7_read wsX0_parse := goodIn_r _ [11, 12, 13, 14, 15, 16, 17, 18, 10, 19, 20, 21, 22, 23, 24, 25, 26, 27, 28, 29, 30, 31, 32, 33, 34, 35, 36, 37, 38, 39, 40, 41, 154, 155, 156, 157, 158, 159, 160, 161, 162, 163] (by decide +kernel) (by decide +kernel)
set_option maxRecDepth 20000 in
theorem gX7_read_X0_parse : GoodIn wsX7_read (wsV RX7 56 RX0 yX0_parse wsX0_parse) := goodIn_app (goodIn_of _ (by decide +kernel)) ggX7_read_X0_parse
set_option maxRecDepth 20000 in
theorem ggX7_read_X2_remember : GoodIn wsX7_read wsX2_remember := goodIn_r _ [46, 47, 48, 49, 50, 51, 45, 52, 53, 54, 55, 56, 57, 58, 59, 60, 61, 62, 63, 64, 65, 66, 67, 68, 69, 70, 71, 72, 73, 74, 75, 76, 77, 78, 79, 80, 81, 82, 83, 84, 85, 86, 87, 88, 89, 90, 91, 92, 93, 94, 164, 165, 139, 140, 141, 142, 143, 144, 145, 146, 147, 148, 149, 150, 151, 152, 153, 166, 167, 168, 169, 170, 171] (by decide +kernel) (by decide +kernel)
set_option maxRecDepth 20000 in
theorem gX7_read_X2_remember : GoodIn wsX7_read (wsV RX7 71 RX2 yX2_remember wsX2_remember) := goodIn_app (goodIn_of _ (by decide +kernel)) ggX7_read_X2_remember
set_option maxRecDepth 20000 in
theorem ggX7_read_X5_takeIn : GoodIn wsX7_read wsX5_takeIn := goodIn_r _ [98, 58, 99, 100, 101, 102, 103, 104, 105, 106, 107, 108, 109, 110, 59, 111, 112, 113, 86, 114, 93, 92, 115, 116, 117, 118, 119, 120, 121, 122, 88, 90, 91, 94, 123, 124, 125, 126, 127, 128, 129, 130, 139, 140, 141, 142, 143, 144, 145, 146, 147, 148, 149, 150, 151, 152, 153, 154, 155, 156, 157, 158, 159, 160, 161, 166, 167, 168, 169, 170, 171] (by decide +kernel) (by decide +kernel)
set_option maxRecDepth 20000 in
theorem gX7_read_X5_takeIn : GoodIn wsX7_read (wsV RX7 75 RX5 yX5_takeIn wsX5_takeIn) := goodIn_app (goodIn_of _ (by decide +kernel)) ggX7_read_X5_takeIn
theorem dX7_read_0 : decode cX7_read 0 = .ok (.aload_n 0, 1) := by decide +kernel
theorem dX7_read_1 : decode cX7_read 1 = .ok (.getfield 21, 3) := by decide +kernel
theorem dX7_read_4 : decode cX7_read 4 = .ok (.invokevirtual 56, 3) := by decide +kernel
theorem dX7_read_7 : decode cX7_read 7 = .ok (.istore_n 1, 1) := by decide +kernel
theorem dX7_read_8 : decode cX7_read 8 = .ok (.iload_n 1, 1) := by decide +kernel
theorem dX7_read_9 : decode cX7_read 9 = .ok (.iconst (-1), 1) := by decide +kernel
theorem dX7_read_10 : decode cX7_read 10 = .ok (.if_icmp .eq 8, 3) := by decide +kernel
theorem dX7_read_13 : decode cX7_read 13 = .ok (.bipush (-100), 2) := by decide +kernel
theorem dX7_read_15 : decode cX7_read 15 = .ok (.iload_n 1, 1) := by decide +kernel
theorem dX7_read_16 : decode cX7_read 16 = .ok (.isub, 1) := by decide +kernel
theorem dX7_read_17 : decode cX7_read 17 = .ok (.ireturn, 1) := by decide +kernel
theorem dX7_read_18 : decode cX7_read 18 = .ok (.aload_n 0, 1) := by decide +kernel
theorem dX7_read_19 : decode cX7_read 19 = .ok (.getfield 42, 3) := by decide +kernel
theorem dX7_read_22 : decode cX7_read 22 = .ok (.getfield 60, 3) := by decide +kernel
theorem dX7_read_25 : decode cX7_read 25 = .ok (.getfield 64, 3) := by decide +kernel
theorem dX7_read_28 : decode cX7_read 28 = .ok (.aload_n 0, 1) := by decide +kernel
theorem dX7_read_29 : decode cX7_read 29 = .ok (.getfield 21, 3) := by decide +kernel
theorem dX7_read_32 : decode cX7_read 32 = .ok (.getfield 70, 3) := by decide +kernel
theorem dX7_read_35 : decode cX7_read 35 = .ok (.iadd, 1) := by decide +kernel
theorem dX7_read_36 : decode cX7_read 36 = .ok (.bipush 40, 2) := by decide +kernel
theorem dX7_read_38 : decode cX7_read 38 = .ok (.if_icmp .le 6, 3) := by decide +kernel
theorem dX7_read_41 : decode cX7_read 41 = .ok (.bipush (-3), 2) := by decide +kernel
theorem dX7_read_43 : decode cX7_read 43 = .ok (.ireturn, 1) := by decide +kernel
theorem dX7_read_44 : decode cX7_read 44 = .ok (.aload_n 0, 1) := by decide +kernel
theorem dX7_read_45 : decode cX7_read 45 = .ok (.getfield 35, 3) := by decide +kernel
theorem dX7_read_48 : decode cX7_read 48 = .ok (.aload_n 0, 1) := by decide +kernel
theorem dX7_read_49 : decode cX7_read 49 = .ok (.getfield 42, 3) := by decide +kernel
theorem dX7_read_52 : decode cX7_read 52 = .ok (.invokevirtual 71, 3) := by decide +kernel
theorem dX7_read_55 : decode cX7_read 55 = .ok (.iconst 0, 1) := by decide +kernel
theorem dX7_read_56 : decode cX7_read 56 = .ok (.istore_n 2, 1) := by decide +kernel
theorem dX7_read_57 : decode cX7_read 57 = .ok (.iload_n 2, 1) := by decide +kernel
theorem dX7_read_58 : decode cX7_read 58 = .ok (.aload_n 0, 1) := by decide +kernel
theorem dX7_read_59 : decode cX7_read 59 = .ok (.getfield 21, 3) := by decide +kernel
theorem dX7_read_62 : decode cX7_read 62 = .ok (.getfield 70, 3) := by decide +kernel
theorem dX7_read_65 : decode cX7_read 65 = .ok (.if_icmp .ge 21, 3) := by decide +kernel
theorem dX7_read_68 : decode cX7_read 68 = .ok (.aload_n 0, 1) := by decide +kernel
theorem dX7_read_69 : decode cX7_read 69 = .ok (.getfield 42, 3) := by decide +kernel
theorem dX7_read_72 : decode cX7_read 72 = .ok (.aload_n 0, 1) := by decide +kernel
theorem dX7_read_73 : decode cX7_read 73 = .ok (.getfield 21, 3) := by decide +kernel
theorem dX7_read_76 : decode cX7_read 76 = .ok (.iload_n 2, 1) := by decide +kernel
theorem dX7_read_77 : decode cX7_read 77 = .ok (.invokevirtual 75, 3) := by decide +kernel
theorem dX7_read_80 : decode cX7_read 80 = .ok (.iinc 2 1, 3) := by decide +kernel
theorem dX7_read_83 : decode cX7_read 83 = .ok (.goto (-26), 3) := by decide +kernel
theorem dX7_read_86 : decode cX7_read 86 = .ok (.aload_n 0, 1) := by decide +kernel
theorem dX7_read_87 : decode cX7_read 87 = .ok (.getfield 21, 3) := by decide +kernel
theorem dX7_read_90 : decode cX7_read 90 = .ok (.getfield 70, 3) := by decide +kernel
theorem dX7_read_93 : decode cX7_read 93 = .ok (.ireturn, 1) := by decide +kernel
set_option maxRecDepth 20000 in
theorem ggX7_sort_X2_remember : GoodIn wsX7_sort wsX2_remember := goodIn_r _ [9, 10, 11, 12, 13, 14, 8, 15, 16, 17, 18, 19, 20, 21, 22, 23, 24, 25, 26, 27, 28, 29, 30, 31, 32, 33, 34, 35, 36, 37, 38, 39, 40, 41, 42, 43, 44, 45, 46, 47, 48, 49, 50, 51, 52, 53, 54, 55, 56, 57, 159, 160, 145, 146, 147, 148, 149, 150, 151, 152, 161, 162, 163, 164, 165, 166, 167, 153, 154, 155, 156, 157, 158] (by decide +kernel) (by decide +kernel)
set_option maxRecDepth 20000 in
theorem gX7_sort_X2_remember : GoodIn wsX7_sort (wsV RX7 71 RX2 yX2_remember wsX2_remember) := goodIn_app (goodIn_of _ (by decide +kernel)) ggX7_sort_X2_remember
set_option maxRecDepth 20000 in
theorem ggX7_sort_X5_sortFirst : GoodIn wsX7_sort wsX5_sortFirst := goodIn_r _ [61, 22, 21, 62, 30, 31, 63, 64, 65, 49, 66, 56, 55, 52, 25, 26, 27, 67, 68, 69, 70, 51, 53, 57, 71, 72, 73, 74, 75, 76, 77, 78, 79, 80, 81, 36, 82, 38, 83, 84, 85, 19, 86, 87, 23, 88, 89, 90, 91, 92, 93, 94, 95, 96, 97, 98, 99, 100, 101, 102, 103, 104, 105, 106, 107, 108, 109, 110, 111, 112, 54, 113, 114, 115, 116, 117, 118, 119, 120, 121, 122, 123, 32, 124, 125, 126, 127, 43, 128, 129, 130, 131, 132, 133, 134, 135, 136, 145, 146, 147, 148, 149, 150, 151, 152, 161, 162, 163, 164, 165, 166, 167, 153, 154, 155, 156, 157, 158] (by decide +kernel) (by decide +kernel)
set_option maxRecDepth 20000 in
theorem gX7_sort_X5_sortFirst : GoodIn wsX7_sort (wsV RX7 89 RX5 yX5_sortFirst wsX5_sortFirst) := goodIn_app (goodIn_of _ (by decide +kernel)) ggX7_sort_X5_sortFirst
theorem dX7_sort_0 : decode cX7_sort 0 = .ok (.iload_n 1, 1) := by decide +kernel
theorem dX7_sort_1 : decode cX7_sort 1 = .ok (.iconst 1, 1) := by decide +kernel
theorem dX7_sort_2 : decode cX7_sort 2 = .ok (.if_icmp .lt 9, 3) := by decide +kernel
theorem dX7_sort_5 : decode cX7_sort 5 = .ok (.iload_n 1, 1) := by decide +kernel
theorem dX7_sort_6 : decode cX7_sort 6 = .ok (.bipush 99, 2) := by decide +kernel
theorem dX7_sort_8 : decode cX7_sort 8 = .ok (.if_icmp .le 6, 3) := by decide +kernel
theorem dX7_sort_11 : decode cX7_sort 11 = .ok (.bipush (-2), 2) := by decide +kernel
theorem dX7_sort_13 : decode cX7_sort 13 = .ok (.ireturn, 1) := by decide +kernel
theorem dX7_sort_14 : decode cX7_sort 14 = .ok (.aload_n 0, 1) := by decide +kernel
theorem dX7_sort_15 : decode cX7_sort 15 = .ok (.getfield 42, 3) := by decide +kernel
theorem dX7_sort_18 : decode cX7_sort 18 = .ok (.getfield 79, 3) := by decide +kernel
theorem dX7_sort_21 : decode cX7_sort 21 = .ok (.getfield 83, 3) := by decide +kernel
theorem dX7_sort_24 : decode cX7_sort 24 = .ok (.iconst 0, 1) := by decide +kernel
theorem dX7_sort_25 : decode cX7_sort 25 = .ok (.iaload, 1) := by decide +kernel
theorem dX7_sort_26 : decode cX7_sort 26 = .ok (.ifCond .ne 6, 3) := by decide +kernel
theorem dX7_sort_29 : decode cX7_sort 29 = .ok (.bipush (-5), 2) := by decide +kernel
theorem dX7_sort_31 : decode cX7_sort 31 = .ok (.ireturn, 1) := by decide +kernel
theorem dX7_sort_32 : decode cX7_sort 32 = .ok (.aload_n 0, 1) := by decide +kernel
theorem dX7_sort_33 : decode cX7_sort 33 = .ok (.getfield 35, 3) := by decide +kernel
theorem dX7_sort_36 : decode cX7_sort 36 = .ok (.aload_n 0, 1) := by decide +kernel
theorem dX7_sort_37 : decode cX7_sort 37 = .ok (.getfield 42, 3) := by decide +kernel
theorem dX7_sort_40 : decode cX7_sort 40 = .ok (.invokevirtual 71, 3) := by decide +kernel
theorem dX7_sort_43 : decode cX7_sort 43 = .ok (.iconst 0, 1) := by decide +kernel
theorem dX7_sort_44 : decode cX7_sort 44 = .ok (.istore_n 2, 1) := by decide +kernel
theorem dX7_sort_45 : decode cX7_sort 45 = .ok (.iload_n 2, 1) := by decide +kernel
theorem dX7_sort_46 : decode cX7_sort 46 = .ok (.iload_n 1, 1) := by decide +kernel
theorem dX7_sort_47 : decode cX7_sort 47 = .ok (.if_icmp .ge 31, 3) := by decide +kernel
theorem dX7_sort_50 : decode cX7_sort 50 = .ok (.aload_n 0, 1) := by decide +kernel
theorem dX7_sort_51 : decode cX7_sort 51 = .ok (.getfield 42, 3) := by decide +kernel
theorem dX7_sort_54 : decode cX7_sort 54 = .ok (.getfield 79, 3) := by decide +kernel
theorem dX7_sort_57 : decode cX7_sort 57 = .ok (.getfield 83, 3) := by decide +kernel
theorem dX7_sort_60 : decode cX7_sort 60 = .ok (.iconst 0, 1) := by decide +kernel
theorem dX7_sort_61 : decode cX7_sort 61 = .ok (.iaload, 1) := by decide +kernel
theorem dX7_sort_62 : decode cX7_sort 62 = .ok (.ifCond .le 16, 3) := by decide +kernel
theorem dX7_sort_65 : decode cX7_sort 65 = .ok (.aload_n 0, 1) := by decide +kernel
theorem dX7_sort_66 : decode cX7_sort 66 = .ok (.getfield 42, 3) := by decide +kernel
theorem dX7_sort_69 : decode cX7_sort 69 = .ok (.invokevirtual 89, 3) := by decide +kernel
theorem dX7_sort_72 : decode cX7_sort 72 = .ok (.iinc 2 1, 3) := by decide +kernel
theorem dX7_sort_75 : decode cX7_sort 75 = .ok (.goto (-30), 3) := by decide +kernel
theorem dX7_sort_78 : decode cX7_sort 78 = .ok (.iload_n 2, 1) := by decide +kernel
theorem dX7_sort_79 : decode cX7_sort 79 = .ok (.ireturn, 1) := by decide +kernel
set_option maxRecDepth 20000 in
theorem ggX7_letGo_X2_remember : GoodIn wsX7_letGo wsX2_remember := goodIn_r _ [9, 10, 11, 12, 13, 14, 8, 15, 16, 17, 18, 19, 20, 21, 22, 23, 24, 25, 26, 27, 28, 29, 30, 31, 32, 33, 34, 35, 36, 37, 38, 39, 40, 41, 42, 43, 44, 45, 46, 47, 48, 49, 50, 51, 52, 53, 54, 55, 56, 57, 106, 107, 92, 93, 94, 95, 96, 97, 98, 99, 108, 109, 110, 111, 112, 113, 114, 100, 101, 102, 103, 104, 105] (by decide +kernel) (by decide +kernel)
set_option maxRecDepth 20000 in
theorem gX7_letGo_X2_remember : GoodIn wsX7_letGo (wsV RX7 71 RX2 yX2_remember wsX2_remember) := goodIn_app (goodIn_of _ (by decide +kernel)) ggX7_letGo_X2_remember
set_option maxRecDepth 20000 in
theorem ggX7_letGo_X5_emptyMagnet : GoodIn wsX7_letGo wsX5_emptyMagnet := goodIn_r _ [61, 21, 62, 22, 63, 64, 65, 66, 49, 67, 51, 56, 53, 57, 68, 69, 70, 71, 72, 73, 74, 75, 76, 77, 78, 79, 80, 81, 82, 83, 54, 92, 93, 94, 95, 96, 97, 98, 99, 108, 109, 110, 111, 112, 113, 114, 100, 101, 102, 103, 104, 105] (by decide +kernel) (by decide +kernel)
set_option maxRecDepth 20000 in
theorem gX7_letGo_X5_emptyMagnet : GoodIn wsX7_letGo (wsV RX7 92 RX5 yX5_emptyMagnet wsX5_emptyMagnet) := goodIn_app (goodIn_of _ (by decide +kernel)) ggX7_letGo_X5_emptyMagnet
theorem dX7_letGo_0 : decode cX7_letGo 0 = .ok (.aload_n 0, 1) := by decide +kernel
theorem dX7_letGo_1 : decode cX7_letGo 1 = .ok (.getfield 42, 3) := by decide +kernel
theorem dX7_letGo_4 : decode cX7_letGo 4 = .ok (.getfield 79, 3) := by decide +kernel
theorem dX7_letGo_7 : decode cX7_letGo 7 = .ok (.getfield 83, 3) := by decide +kernel
theorem dX7_letGo_10 : decode cX7_letGo 10 = .ok (.iconst 2, 1) := by decide +kernel
theorem dX7_letGo_11 : decode cX7_letGo 11 = .ok (.iaload, 1) := by decide +kernel
theorem dX7_letGo_12 : decode cX7_letGo 12 = .ok (.istore_n 1, 1) := by decide +kernel
theorem dX7_letGo_13 : decode cX7_letGo 13 = .ok (.iload_n 1, 1) := by decide +kernel
theorem dX7_letGo_14 : decode cX7_letGo 14 = .ok (.ifCond .ne 6, 3) := by decide +kernel
theorem dX7_letGo_17 : decode cX7_letGo 17 = .ok (.bipush (-5), 2) := by decide +kernel
theorem dX7_letGo_19 : decode cX7_letGo 19 = .ok (.ireturn, 1) := by decide +kernel
theorem dX7_letGo_20 : decode cX7_letGo 20 = .ok (.aload_n 0, 1) := by decide +kernel
theorem dX7_letGo_21 : decode cX7_letGo 21 = .ok (.getfield 35, 3) := by decide +kernel
theorem dX7_letGo_24 : decode cX7_letGo 24 = .ok (.aload_n 0, 1) := by decide +kernel
theorem dX7_letGo_25 : decode cX7_letGo 25 = .ok (.getfield 42, 3) := by decide +kernel
theorem dX7_letGo_28 : decode cX7_letGo 28 = .ok (.invokevirtual 71, 3) := by decide +kernel
theorem dX7_letGo_31 : decode cX7_letGo 31 = .ok (.aload_n 0, 1) := by decide +kernel
theorem dX7_letGo_32 : decode cX7_letGo 32 = .ok (.getfield 42, 3) := by decide +kernel
theorem dX7_letGo_35 : decode cX7_letGo 35 = .ok (.invokevirtual 92, 3) := by decide +kernel
theorem dX7_letGo_38 : decode cX7_letGo 38 = .ok (.iload_n 1, 1) := by decide +kernel
theorem dX7_letGo_39 : decode cX7_letGo 39 = .ok (.ireturn, 1) := by decide +kernel
set_option maxRecDepth 20000 in
theorem ggX7_pour_X7_isBin : GoodIn wsX7_pour wsX7_isBin := goodIn_r _ [8] (by decide +kernel) (by decide +kernel)
set_option maxRecDepth 20000 in
theorem gX7_pour_X7_isBin : GoodIn wsX7_pour (va_wsS RX7 95 yX7_isBin wsX7_isBin) := goodIn_app (goodIn_of _ (by decide +kernel)) ggX7_pour_X7_isBin
set_option maxRecDepth 20000 in
theorem ggX7_pour_X2_remember : GoodIn wsX7_pour wsX2_remember := goodIn_r _ [13, 14, 15, 16, 17, 18, 12, 19, 20, 21, 22, 23, 24, 25, 26, 27, 28, 29, 30, 31, 32, 33, 34, 35, 36, 37, 38, 39, 40, 41, 42, 43, 44, 45, 46, 47, 48, 49, 50, 51, 52, 53, 54, 55, 56, 57, 58, 59, 60, 61, 111, 112, 97, 98, 99, 100, 101, 102, 103, 104, 113, 114, 115, 116, 117, 118, 119, 105, 106, 107, 108, 109, 110] (by decide +kernel) (by decide +kernel)
set_option maxRecDepth 20000 in
theorem gX7_pour_X2_remember : GoodIn wsX7_pour (wsV RX7 71 RX2 yX2_remember wsX2_remember) := goodIn_app (goodIn_of _ (by decide +kernel)) ggX7_pour_X2_remember
set_option maxRecDepth 20000 in
theorem ggX7_pour_X5_emptyBin : GoodIn wsX7_pour wsX5_emptyBin := goodIn_r _ [65, 25, 66, 26, 67, 68, 69, 70, 53, 71, 55, 60, 57, 61, 72, 73, 74, 75, 7, 76, 6, 8, 77, 78, 79, 80, 59, 81, 82, 83, 84, 85, 86, 87, 88, 58, 97, 98, 99, 100, 101, 102, 103, 104, 113, 114, 115, 116, 117, 118, 119, 105, 106, 107, 108, 109, 110] (by decide +kernel) (by decide +kernel)
set_option maxRecDepth 20000 in
theorem gX7_pour_X5_emptyBin : GoodIn wsX7_pour (wsV RX7 102 RX5 yX5_emptyBin wsX5_emptyBin) := goodIn_app (goodIn_of _ (by decide +kernel)) ggX7_pour_X5_emptyBin
theorem dX7_pour_0 : decode cX7_pour 0 = .ok (.iload_n 1, 1) := by decide +kernel
theorem dX7_pour_1 : decode cX7_pour 1 = .ok (.invokestatic 95, 3) := by decide +kernel
theorem dX7_pour_4 : decode cX7_pour 4 = .ok (.ifCond .ne 5, 3) := by decide +kernel
theorem dX7_pour_7 : decode cX7_pour 7 = .ok (.iconst (-1), 1) := by decide +kernel
theorem dX7_pour_8 : decode cX7_pour 8 = .ok (.ireturn, 1) := by decide +kernel
theorem dX7_pour_9 : decode cX7_pour 9 = .ok (.aload_n 0, 1) := by decide +kernel
theorem dX7_pour_10 : decode cX7_pour 10 = .ok (.getfield 42, 3) := by decide +kernel
theorem dX7_pour_13 : decode cX7_pour 13 = .ok (.getfield 79, 3) := by decide +kernel
theorem dX7_pour_16 : decode cX7_pour 16 = .ok (.getfield 99, 3) := by decide +kernel
theorem dX7_pour_19 : decode cX7_pour 19 = .ok (.iload_n 1, 1) := by decide +kernel
theorem dX7_pour_20 : decode cX7_pour 20 = .ok (.iaload, 1) := by decide +kernel
theorem dX7_pour_21 : decode cX7_pour 21 = .ok (.istore_n 2, 1) := by decide +kernel
theorem dX7_pour_22 : decode cX7_pour 22 = .ok (.iload_n 2, 1) := by decide +kernel
theorem dX7_pour_23 : decode cX7_pour 23 = .ok (.ifCond .ne 6, 3) := by decide +kernel
theorem dX7_pour_26 : decode cX7_pour 26 = .ok (.bipush (-5), 2) := by decide +kernel
theorem dX7_pour_28 : decode cX7_pour 28 = .ok (.ireturn, 1) := by decide +kernel
theorem dX7_pour_29 : decode cX7_pour 29 = .ok (.aload_n 0, 1) := by decide +kernel
theorem dX7_pour_30 : decode cX7_pour 30 = .ok (.getfield 35, 3) := by decide +kernel
theorem dX7_pour_33 : decode cX7_pour 33 = .ok (.aload_n 0, 1) := by decide +kernel
theorem dX7_pour_34 : decode cX7_pour 34 = .ok (.getfield 42, 3) := by decide +kernel
theorem dX7_pour_37 : decode cX7_pour 37 = .ok (.invokevirtual 71, 3) := by decide +kernel
theorem dX7_pour_40 : decode cX7_pour 40 = .ok (.aload_n 0, 1) := by decide +kernel
theorem dX7_pour_41 : decode cX7_pour 41 = .ok (.getfield 42, 3) := by decide +kernel
theorem dX7_pour_44 : decode cX7_pour 44 = .ok (.iload_n 1, 1) := by decide +kernel
theorem dX7_pour_45 : decode cX7_pour 45 = .ok (.invokevirtual 102, 3) := by decide +kernel
theorem dX7_pour_48 : decode cX7_pour 48 = .ok (.iload_n 2, 1) := by decide +kernel
theorem dX7_pour_49 : decode cX7_pour 49 = .ok (.ireturn, 1) := by decide +kernel
set_option maxRecDepth 20000 in
theorem ggX7_shirt_X7_isBin : GoodIn wsX7_shirt wsX7_isBin := goodIn_r _ [8] (by decide +kernel) (by decide +kernel)
set_option maxRecDepth 20000 in
theorem gX7_shirt_X7_isBin : GoodIn wsX7_shirt (va_wsS RX7 95 yX7_isBin wsX7_isBin) := goodIn_app (goodIn_of _ (by decide +kernel)) ggX7_shirt_X7_isBin
set_option maxRecDepth 20000 in
theorem ggX7_shirt_X7_isWanted : GoodIn wsX7_shirt wsX7_isWanted := goodIn_r _ [11] (by decide +kernel) (by decide +kernel)
set_option maxRecDepth 20000 in
theorem gX7_shirt_X7_isWanted : GoodIn wsX7_shirt (va_wsS RX7 106 yX7_isWanted wsX7_isWanted) := goodIn_app (goodIn_of _ (by decide +kernel)) ggX7_shirt_X7_isWanted
set_option maxRecDepth 20000 in
theorem ggX7_shirt_X3_fill : GoodIn wsX7_shirt wsX3_fill := goodIn_r _ [16, 17, 18, 19, 20, 21, 22, 23, 24, 25, 15, 26, 27, 28, 146, 147, 148, 138, 139, 140, 141, 142, 143, 144, 145, 149, 150, 151, 152, 153, 154, 155, 156, 157, 158, 159, 160, 161] (by decide +kernel) (by decide +kernel)
set_option maxRecDepth 20000 in
theorem gX7_shirt_X3_fill : GoodIn wsX7_shirt (wsV RX7 109 RX3 yX3_fill wsX3_fill) := goodIn_app (goodIn_of _ (by decide +kernel)) ggX7_shirt_X3_fill
set_option maxRecDepth 20000 in
theorem ggX7_shirt_X3_firstAlike : GoodIn wsX7_shirt wsX3_firstAlike := goodIn_r _ [32, 17, 33, 34, 35, 15, 36, 27, 146, 147, 148] (by decide +kernel) (by decide +kernel)
set_option maxRecDepth 20000 in
theorem gX7_shirt_X3_firstAlike : GoodIn wsX7_shirt (wsV RX7 116 RX3 yX3_firstAlike wsX3_firstAlike) := goodIn_app (goodIn_of _ (by decide +kernel)) ggX7_shirt_X3_firstAlike
set_option maxRecDepth 20000 in
theorem ggX7_shirt_X7_refusalOf : GoodIn wsX7_shirt wsX7_refusalOf := goodIn_r _ [40, 1, 41, 2, 3, 29, 30, 31, 15, 32, 17, 33, 34, 35, 36, 27, 130, 131, 132, 133, 134, 135, 136, 137, 146, 147, 148, 138, 139, 140, 141, 142, 143, 144, 145] (by decide +kernel) (by decide +kernel)
set_option maxRecDepth 20000 in
theorem gX7_shirt_X7_refusalOf : GoodIn wsX7_shirt (wsV RX7 120 RX7 yX7_refusalOf wsX7_refusalOf) := goodIn_app (goodIn_of _ (by decide +kernel)) ggX7_shirt_X7_refusalOf
set_option maxRecDepth 20000 in
theorem ggX7_shirt_X2_remember : GoodIn wsX7_shirt wsX2_remember := goodIn_r _ [46, 47, 48, 49, 50, 51, 45, 52, 53, 54, 55, 56, 57, 58, 59, 60, 61, 62, 63, 64, 65, 66, 67, 68, 69, 70, 71, 72, 73, 74, 75, 76, 77, 78, 79, 80, 81, 82, 83, 84, 85, 86, 87, 88, 89, 90, 91, 92, 93, 94, 162, 163, 138, 139, 140, 141, 142, 143, 144, 145, 149, 150, 151, 152, 153, 154, 155, 156, 157, 158, 159, 160, 161] (by decide +kernel) (by decide +kernel)
set_option maxRecDepth 20000 in
theorem gX7_shirt_X2_remember : GoodIn wsX7_shirt (wsV RX7 71 RX2 yX2_remember wsX2_remember) := goodIn_app (goodIn_of _ (by decide +kernel)) ggX7_shirt_X2_remember
set_option maxRecDepth 20000 in
theorem ggX7_shirt_X5_makeShirt : GoodIn wsX7_shirt wsX5_makeShirt := goodIn_r _ [98, 58, 99, 100, 59, 65, 101, 102, 103, 104, 66, 105, 106, 107, 15, 108, 17, 28, 109, 110, 111, 73, 112, 75, 113, 114, 115, 86, 116, 88, 93, 90, 94, 117, 118, 119, 120, 7, 121, 6, 8, 122, 123, 124, 125, 126, 127, 128, 129, 91, 138, 139, 140, 141, 142, 143, 144, 145, 149, 150, 151, 152, 153, 154, 155, 146, 147, 148, 156, 157, 158, 159, 160, 161] (by decide +kernel) (by decide +kernel)
set_option maxRecDepth 20000 in
theorem gX7_shirt_X5_makeShirt : GoodIn wsX7_shirt (wsV RX7 124 RX5 yX5_makeShirt wsX5_makeShirt) := goodIn_app (goodIn_of _ (by decide +kernel)) ggX7_shirt_X5_makeShirt
theorem dX7_shirt_0 : decode cX7_shirt 0 = .ok (.iload_n 1, 1) := by decide +kernel
theorem dX7_shirt_1 : decode cX7_shirt 1 = .ok (.invokestatic 95, 3) := by decide +kernel
theorem dX7_shirt_4 : decode cX7_shirt 4 = .ok (.ifCond .ne 5, 3) := by decide +kernel
theorem dX7_shirt_7 : decode cX7_shirt 7 = .ok (.iconst (-1), 1) := by decide +kernel
theorem dX7_shirt_8 : decode cX7_shirt 8 = .ok (.ireturn, 1) := by decide +kernel
theorem dX7_shirt_9 : decode cX7_shirt 9 = .ok (.iload_n 2, 1) := by decide +kernel
theorem dX7_shirt_10 : decode cX7_shirt 10 = .ok (.invokestatic 106, 3) := by decide +kernel
theorem dX7_shirt_13 : decode cX7_shirt 13 = .ok (.ifCond .ne 6, 3) := by decide +kernel
theorem dX7_shirt_16 : decode cX7_shirt 16 = .ok (.bipush (-2), 2) := by decide +kernel
theorem dX7_shirt_18 : decode cX7_shirt 18 = .ok (.ireturn, 1) := by decide +kernel
theorem dX7_shirt_19 : decode cX7_shirt 19 = .ok (.aload_n 0, 1) := by decide +kernel
theorem dX7_shirt_20 : decode cX7_shirt 20 = .ok (.getfield 28, 3) := by decide +kernel
theorem dX7_shirt_23 : decode cX7_shirt 23 = .ok (.aload_n 0, 1) := by decide +kernel
theorem dX7_shirt_24 : decode cX7_shirt 24 = .ok (.getfield 42, 3) := by decide +kernel
theorem dX7_shirt_27 : decode cX7_shirt 27 = .ok (.iload_n 1, 1) := by decide +kernel
theorem dX7_shirt_28 : decode cX7_shirt 28 = .ok (.invokevirtual 109, 3) := by decide +kernel
theorem dX7_shirt_31 : decode cX7_shirt 31 = .ok (.aload_n 0, 1) := by decide +kernel
theorem dX7_shirt_32 : decode cX7_shirt 32 = .ok (.getfield 28, 3) := by decide +kernel
theorem dX7_shirt_35 : decode cX7_shirt 35 = .ok (.iload_n 2, 1) := by decide +kernel
theorem dX7_shirt_36 : decode cX7_shirt 36 = .ok (.aload_n 0, 1) := by decide +kernel
theorem dX7_shirt_37 : decode cX7_shirt 37 = .ok (.getfield 42, 3) := by decide +kernel
theorem dX7_shirt_40 : decode cX7_shirt 40 = .ok (.getfield 113, 3) := by decide +kernel
theorem dX7_shirt_43 : decode cX7_shirt 43 = .ok (.bipush 7, 2) := by decide +kernel
theorem dX7_shirt_45 : decode cX7_shirt 45 = .ok (.iaload, 1) := by decide +kernel
theorem dX7_shirt_46 : decode cX7_shirt 46 = .ok (.invokevirtual 116, 3) := by decide +kernel
theorem dX7_shirt_49 : decode cX7_shirt 49 = .ok (.istore_n 3, 1) := by decide +kernel
theorem dX7_shirt_50 : decode cX7_shirt 50 = .ok (.iload_n 3, 1) := by decide +kernel
theorem dX7_shirt_51 : decode cX7_shirt 51 = .ok (.ifCond .ge 12, 3) := by decide +kernel
theorem dX7_shirt_54 : decode cX7_shirt 54 = .ok (.bipush (-10), 2) := by decide +kernel
theorem dX7_shirt_56 : decode cX7_shirt 56 = .ok (.aload_n 0, 1) := by decide +kernel
theorem dX7_shirt_57 : decode cX7_shirt 57 = .ok (.iload_n 2, 1) := by decide +kernel
theorem dX7_shirt_58 : decode cX7_shirt 58 = .ok (.invokevirtual 120, 3) := by decide +kernel
theorem dX7_shirt_61 : decode cX7_shirt 61 = .ok (.isub, 1) := by decide +kernel
theorem dX7_shirt_62 : decode cX7_shirt 62 = .ok (.ireturn, 1) := by decide +kernel
theorem dX7_shirt_63 : decode cX7_shirt 63 = .ok (.aload_n 0, 1) := by decide +kernel
theorem dX7_shirt_64 : decode cX7_shirt 64 = .ok (.getfield 35, 3) := by decide +kernel
theorem dX7_shirt_67 : decode cX7_shirt 67 = .ok (.aload_n 0, 1) := by decide +kernel
theorem dX7_shirt_68 : decode cX7_shirt 68 = .ok (.getfield 42, 3) := by decide +kernel
theorem dX7_shirt_71 : decode cX7_shirt 71 = .ok (.invokevirtual 71, 3) := by decide +kernel
theorem dX7_shirt_74 : decode cX7_shirt 74 = .ok (.aload_n 0, 1) := by decide +kernel
theorem dX7_shirt_75 : decode cX7_shirt 75 = .ok (.getfield 42, 3) := by decide +kernel
theorem dX7_shirt_78 : decode cX7_shirt 78 = .ok (.aload_n 0, 1) := by decide +kernel
theorem dX7_shirt_79 : decode cX7_shirt 79 = .ok (.getfield 28, 3) := by decide +kernel
theorem dX7_shirt_82 : decode cX7_shirt 82 = .ok (.iload_n 3, 1) := by decide +kernel
theorem dX7_shirt_83 : decode cX7_shirt 83 = .ok (.iload_n 2, 1) := by decide +kernel
theorem dX7_shirt_84 : decode cX7_shirt 84 = .ok (.invokevirtual 124, 3) := by decide +kernel
theorem dX7_shirt_87 : decode cX7_shirt 87 = .ok (.ireturn, 1) := by decide +kernel
set_option maxRecDepth 20000 in
theorem ggX7_polish_X1_has : GoodIn wsX7_polish wsX1_has := goodIn_r _ [11, 12, 90, 91, 92, 93, 94, 95, 96] (by decide +kernel) (by decide +kernel)
set_option maxRecDepth 20000 in
theorem gX7_polish_X1_has : GoodIn wsX7_polish (wsV RX7 128 RX1 yX1_has wsX1_has) := goodIn_app (goodIn_of _ (by decide +kernel)) ggX7_polish_X1_has
set_option maxRecDepth 20000 in
theorem ggX7_polish_X2_remember : GoodIn wsX7_polish wsX2_remember := goodIn_r _ [17, 18, 19, 20, 21, 22, 16, 23, 24, 25, 26, 27, 28, 29, 30, 31, 32, 33, 34, 35, 36, 37, 38, 39, 40, 41, 42, 43, 10, 44, 12, 45, 46, 47, 48, 49, 50, 51, 52, 53, 54, 55, 56, 57, 58, 59, 60, 61, 62, 63, 97, 98, 76, 77, 78, 79, 80, 81, 82, 83, 90, 91, 92, 93, 94, 95, 96, 84, 85, 86, 87, 88, 89] (by decide +kernel) (by decide +kernel)
set_option maxRecDepth 20000 in
theorem gX7_polish_X2_remember : GoodIn wsX7_polish (wsV RX7 71 RX2 yX2_remember wsX2_remember) := goodIn_app (goodIn_of _ (by decide +kernel)) ggX7_polish_X2_remember
set_option maxRecDepth 20000 in
theorem ggX7_polish_X1_brighten : GoodIn wsX7_polish wsX1_brighten := goodIn_r _ [67, 50, 49, 90, 91, 92, 93, 94, 95, 96] (by decide +kernel) (by decide +kernel)
set_option maxRecDepth 20000 in
theorem gX7_polish_X1_brighten : GoodIn wsX7_polish (wsV RX7 137 RX1 yX1_brighten wsX1_brighten) := goodIn_app (goodIn_of _ (by decide +kernel)) ggX7_polish_X1_brighten
theorem dX7_polish_0 : decode cX7_polish 0 = .ok (.aload_n 0, 1) := by decide +kernel
theorem dX7_polish_1 : decode cX7_polish 1 = .ok (.getfield 42, 3) := by decide +kernel
theorem dX7_polish_4 : decode cX7_polish 4 = .ok (.getfield 60, 3) := by decide +kernel
theorem dX7_polish_7 : decode cX7_polish 7 = .ok (.iload_n 1, 1) := by decide +kernel
theorem dX7_polish_8 : decode cX7_polish 8 = .ok (.invokevirtual 128, 3) := by decide +kernel
theorem dX7_polish_11 : decode cX7_polish 11 = .ok (.ifCond .ne 5, 3) := by decide +kernel
theorem dX7_polish_14 : decode cX7_polish 14 = .ok (.iconst (-1), 1) := by decide +kernel
theorem dX7_polish_15 : decode cX7_polish 15 = .ok (.ireturn, 1) := by decide +kernel
theorem dX7_polish_16 : decode cX7_polish 16 = .ok (.aload_n 0, 1) := by decide +kernel
theorem dX7_polish_17 : decode cX7_polish 17 = .ok (.getfield 42, 3) := by decide +kernel
theorem dX7_polish_20 : decode cX7_polish 20 = .ok (.getfield 79, 3) := by decide +kernel
theorem dX7_polish_23 : decode cX7_polish 23 = .ok (.getfield 131, 3) := by decide +kernel
theorem dX7_polish_26 : decode cX7_polish 26 = .ok (.iload_n 1, 1) := by decide +kernel
theorem dX7_polish_27 : decode cX7_polish 27 = .ok (.iaload, 1) := by decide +kernel
theorem dX7_polish_28 : decode cX7_polish 28 = .ok (.bipush 6, 2) := by decide +kernel
theorem dX7_polish_30 : decode cX7_polish 30 = .ok (.if_icmp .eq 20, 3) := by decide +kernel
theorem dX7_polish_33 : decode cX7_polish 33 = .ok (.aload_n 0, 1) := by decide +kernel
theorem dX7_polish_34 : decode cX7_polish 34 = .ok (.getfield 42, 3) := by decide +kernel
theorem dX7_polish_37 : decode cX7_polish 37 = .ok (.getfield 60, 3) := by decide +kernel
theorem dX7_polish_40 : decode cX7_polish 40 = .ok (.getfield 134, 3) := by decide +kernel
theorem dX7_polish_43 : decode cX7_polish 43 = .ok (.iload_n 1, 1) := by decide +kernel
theorem dX7_polish_44 : decode cX7_polish 44 = .ok (.iaload, 1) := by decide +kernel
theorem dX7_polish_45 : decode cX7_polish 45 = .ok (.bipush 9, 2) := by decide +kernel
theorem dX7_polish_47 : decode cX7_polish 47 = .ok (.if_icmp .lt 6, 3) := by decide +kernel
theorem dX7_polish_50 : decode cX7_polish 50 = .ok (.bipush (-4), 2) := by decide +kernel
theorem dX7_polish_52 : decode cX7_polish 52 = .ok (.ireturn, 1) := by decide +kernel
theorem dX7_polish_53 : decode cX7_polish 53 = .ok (.aload_n 0, 1) := by decide +kernel
theorem dX7_polish_54 : decode cX7_polish 54 = .ok (.getfield 35, 3) := by decide +kernel
theorem dX7_polish_57 : decode cX7_polish 57 = .ok (.aload_n 0, 1) := by decide +kernel
theorem dX7_polish_58 : decode cX7_polish 58 = .ok (.getfield 42, 3) := by decide +kernel
theorem dX7_polish_61 : decode cX7_polish 61 = .ok (.invokevirtual 71, 3) := by decide +kernel
theorem dX7_polish_64 : decode cX7_polish 64 = .ok (.aload_n 0, 1) := by decide +kernel
theorem dX7_polish_65 : decode cX7_polish 65 = .ok (.getfield 42, 3) := by decide +kernel
theorem dX7_polish_68 : decode cX7_polish 68 = .ok (.getfield 60, 3) := by decide +kernel
theorem dX7_polish_71 : decode cX7_polish 71 = .ok (.iload_n 1, 1) := by decide +kernel
theorem dX7_polish_72 : decode cX7_polish 72 = .ok (.invokevirtual 137, 3) := by decide +kernel
theorem dX7_polish_75 : decode cX7_polish 75 = .ok (.aload_n 0, 1) := by decide +kernel
theorem dX7_polish_76 : decode cX7_polish 76 = .ok (.getfield 42, 3) := by decide +kernel
theorem dX7_polish_79 : decode cX7_polish 79 = .ok (.getfield 60, 3) := by decide +kernel
theorem dX7_polish_82 : decode cX7_polish 82 = .ok (.getfield 134, 3) := by decide +kernel
theorem dX7_polish_85 : decode cX7_polish 85 = .ok (.iload_n 1, 1) := by decide +kernel
theorem dX7_polish_86 : decode cX7_polish 86 = .ok (.iaload, 1) := by decide +kernel
theorem dX7_polish_87 : decode cX7_polish 87 = .ok (.ireturn, 1) := by decide +kernel
set_option maxRecDepth 20000 in
theorem ggX7_set_X7_isValue : GoodIn wsX7_set wsX7_isValue := goodIn_r _ [7, 8, 9] (by decide +kernel) (by decide +kernel)
set_option maxRecDepth 20000 in
theorem gX7_set_X7_isValue : GoodIn wsX7_set (va_wsS RX7 140 yX7_isValue wsX7_isValue) := goodIn_app (goodIn_of _ (by decide +kernel)) ggX7_set_X7_isValue
set_option maxRecDepth 20000 in
theorem ggX7_set_X5_meshesAllow : GoodIn wsX7_set wsX5_meshesAllow := goodIn_r _ [14, 15, 75, 76, 77, 78, 79, 80, 81, 82] (by decide +kernel) (by decide +kernel)
set_option maxRecDepth 20000 in
theorem gX7_set_X5_meshesAllow : GoodIn wsX7_set (wsV RX7 144 RX5 yX5_meshesAllow wsX5_meshesAllow) := goodIn_app (goodIn_of _ (by decide +kernel)) ggX7_set_X5_meshesAllow
set_option maxRecDepth 20000 in
theorem ggX7_set_X2_remember : GoodIn wsX7_set wsX2_remember := goodIn_r _ [20, 21, 22, 23, 24, 25, 19, 26, 27, 28, 29, 13, 30, 31, 32, 15, 33, 34, 35, 36, 37, 38, 39, 40, 41, 42, 43, 44, 45, 46, 47, 48, 49, 50, 51, 52, 53, 54, 55, 56, 57, 58, 59, 60, 61, 62, 63, 64, 65, 66, 83, 84, 75, 76, 77, 78, 79, 80, 81, 82, 85, 86, 87, 88, 89, 90, 91, 92, 93, 94, 95, 96, 97] (by decide +kernel) (by decide +kernel)
set_option maxRecDepth 20000 in
theorem gX7_set_X2_remember : GoodIn wsX7_set (wsV RX7 71 RX2 yX2_remember wsX2_remember) := goodIn_app (goodIn_of _ (by decide +kernel)) ggX7_set_X2_remember
theorem dX7_set_0 : decode cX7_set 0 = .ok (.iload_n 1, 1) := by decide +kernel
theorem dX7_set_1 : decode cX7_set 1 = .ok (.ifCond .lt 9, 3) := by decide +kernel
theorem dX7_set_4 : decode cX7_set 4 = .ok (.iload_n 1, 1) := by decide +kernel
theorem dX7_set_5 : decode cX7_set 5 = .ok (.bipush 8, 2) := by decide +kernel
theorem dX7_set_7 : decode cX7_set 7 = .ok (.if_icmp .lt 5, 3) := by decide +kernel
theorem dX7_set_10 : decode cX7_set 10 = .ok (.iconst (-1), 1) := by decide +kernel
theorem dX7_set_11 : decode cX7_set 11 = .ok (.ireturn, 1) := by decide +kernel
theorem dX7_set_12 : decode cX7_set 12 = .ok (.iload_n 1, 1) := by decide +kernel
theorem dX7_set_13 : decode cX7_set 13 = .ok (.iload_n 2, 1) := by decide +kernel
theorem dX7_set_14 : decode cX7_set 14 = .ok (.invokestatic 140, 3) := by decide +kernel
theorem dX7_set_17 : decode cX7_set 17 = .ok (.ifCond .ne 6, 3) := by decide +kernel
theorem dX7_set_20 : decode cX7_set 20 = .ok (.bipush (-2), 2) := by decide +kernel
theorem dX7_set_22 : decode cX7_set 22 = .ok (.ireturn, 1) := by decide +kernel
theorem dX7_set_23 : decode cX7_set 23 = .ok (.aload_n 0, 1) := by decide +kernel
theorem dX7_set_24 : decode cX7_set 24 = .ok (.getfield 42, 3) := by decide +kernel
theorem dX7_set_27 : decode cX7_set 27 = .ok (.iload_n 1, 1) := by decide +kernel
theorem dX7_set_28 : decode cX7_set 28 = .ok (.iload_n 2, 1) := by decide +kernel
theorem dX7_set_29 : decode cX7_set 29 = .ok (.invokevirtual 144, 3) := by decide +kernel
theorem dX7_set_32 : decode cX7_set 32 = .ok (.ifCond .ne 6, 3) := by decide +kernel
theorem dX7_set_35 : decode cX7_set 35 = .ok (.bipush (-4), 2) := by decide +kernel
theorem dX7_set_37 : decode cX7_set 37 = .ok (.ireturn, 1) := by decide +kernel
theorem dX7_set_38 : decode cX7_set 38 = .ok (.aload_n 0, 1) := by decide +kernel
theorem dX7_set_39 : decode cX7_set 39 = .ok (.getfield 42, 3) := by decide +kernel
theorem dX7_set_42 : decode cX7_set 42 = .ok (.getfield 113, 3) := by decide +kernel
theorem dX7_set_45 : decode cX7_set 45 = .ok (.iload_n 1, 1) := by decide +kernel
theorem dX7_set_46 : decode cX7_set 46 = .ok (.iaload, 1) := by decide +kernel
theorem dX7_set_47 : decode cX7_set 47 = .ok (.istore_n 3, 1) := by decide +kernel
theorem dX7_set_48 : decode cX7_set 48 = .ok (.iload_n 3, 1) := by decide +kernel
theorem dX7_set_49 : decode cX7_set 49 = .ok (.iload_n 2, 1) := by decide +kernel
theorem dX7_set_50 : decode cX7_set 50 = .ok (.if_icmp .ne 6, 3) := by decide +kernel
theorem dX7_set_53 : decode cX7_set 53 = .ok (.bipush (-5), 2) := by decide +kernel
theorem dX7_set_55 : decode cX7_set 55 = .ok (.ireturn, 1) := by decide +kernel
theorem dX7_set_56 : decode cX7_set 56 = .ok (.aload_n 0, 1) := by decide +kernel
theorem dX7_set_57 : decode cX7_set 57 = .ok (.getfield 35, 3) := by decide +kernel
theorem dX7_set_60 : decode cX7_set 60 = .ok (.aload_n 0, 1) := by decide +kernel
theorem dX7_set_61 : decode cX7_set 61 = .ok (.getfield 42, 3) := by decide +kernel
theorem dX7_set_64 : decode cX7_set 64 = .ok (.invokevirtual 71, 3) := by decide +kernel
theorem dX7_set_67 : decode cX7_set 67 = .ok (.aload_n 0, 1) := by decide +kernel
theorem dX7_set_68 : decode cX7_set 68 = .ok (.getfield 42, 3) := by decide +kernel
theorem dX7_set_71 : decode cX7_set 71 = .ok (.getfield 113, 3) := by decide +kernel
theorem dX7_set_74 : decode cX7_set 74 = .ok (.iload_n 1, 1) := by decide +kernel
theorem dX7_set_75 : decode cX7_set 75 = .ok (.iload_n 2, 1) := by decide +kernel
theorem dX7_set_76 : decode cX7_set 76 = .ok (.iastore, 1) := by decide +kernel
theorem dX7_set_77 : decode cX7_set 77 = .ok (.iload_n 3, 1) := by decide +kernel
theorem dX7_set_78 : decode cX7_set 78 = .ok (.ireturn, 1) := by decide +kernel
set_option maxRecDepth 20000 in
theorem ggX7_type_X6_append : GoodIn wsX7_type wsX6_append := goodIn_r _ [7, 8, 9, 18, 19] (by decide +kernel) (by decide +kernel)
set_option maxRecDepth 20000 in
theorem gX7_type_X6_append : GoodIn wsX7_type (wsV RX7 147 RX6 yX6_append wsX6_append) := goodIn_app (goodIn_of _ (by decide +kernel)) ggX7_type_X6_append
theorem dX7_type_0 : decode cX7_type 0 = .ok (.aload_n 0, 1) := by decide +kernel
theorem dX7_type_1 : decode cX7_type 1 = .ok (.getfield 10, 3) := by decide +kernel
theorem dX7_type_4 : decode cX7_type 4 = .ok (.iload_n 1, 1) := by decide +kernel
theorem dX7_type_5 : decode cX7_type 5 = .ok (.invokevirtual 147, 3) := by decide +kernel
theorem dX7_type_8 : decode cX7_type 8 = .ok (.ifCond .eq 13, 3) := by decide +kernel
theorem dX7_type_11 : decode cX7_type 11 = .ok (.aload_n 0, 1) := by decide +kernel
theorem dX7_type_12 : decode cX7_type 12 = .ok (.getfield 10, 3) := by decide +kernel
theorem dX7_type_15 : decode cX7_type 15 = .ok (.getfield 151, 3) := by decide +kernel
theorem dX7_type_18 : decode cX7_type 18 = .ok (.goto 5, 3) := by decide +kernel
theorem dX7_type_21 : decode cX7_type 21 = .ok (.bipush (-3), 2) := by decide +kernel
theorem dX7_type_23 : decode cX7_type 23 = .ok (.ireturn, 1) := by decide +kernel
theorem dX7_clearText_0 : decode cX7_clearText 0 = .ok (.aload_n 0, 1) := by decide +kernel
theorem dX7_clearText_1 : decode cX7_clearText 1 = .ok (.getfield 10, 3) := by decide +kernel
theorem dX7_clearText_4 : decode cX7_clearText 4 = .ok (.getfield 151, 3) := by decide +kernel
theorem dX7_clearText_7 : decode cX7_clearText 7 = .ok (.istore_n 1, 1) := by decide +kernel
theorem dX7_clearText_8 : decode cX7_clearText 8 = .ok (.aload_n 0, 1) := by decide +kernel
theorem dX7_clearText_9 : decode cX7_clearText 9 = .ok (.getfield 10, 3) := by decide +kernel
theorem dX7_clearText_12 : decode cX7_clearText 12 = .ok (.iconst 0, 1) := by decide +kernel
theorem dX7_clearText_13 : decode cX7_clearText 13 = .ok (.putfield 151, 3) := by decide +kernel
theorem dX7_clearText_16 : decode cX7_clearText 16 = .ok (.iload_n 1, 1) := by decide +kernel
theorem dX7_clearText_17 : decode cX7_clearText 17 = .ok (.ireturn, 1) := by decide +kernel
set_option maxRecDepth 20000 in
theorem ggX7_button_X1_has : GoodIn wsX7_button wsX1_has := goodIn_r _ [17, 18, 42, 43, 44, 45, 46, 47, 48] (by decide +kernel) (by decide +kernel)
set_option maxRecDepth 20000 in
theorem gX7_button_X1_has : GoodIn wsX7_button (wsV RX7 128 RX1 yX1_has wsX1_has) := goodIn_app (goodIn_of _ (by decide +kernel)) ggX7_button_X1_has
set_option maxRecDepth 20000 in
theorem ggX7_button_X4_rankInHopper : GoodIn wsX7_button wsX4_rankInHopper := goodIn_r _ [23, 24, 25, 49, 50, 51, 52, 53, 54] (by decide +kernel) (by decide +kernel)
set_option maxRecDepth 20000 in
theorem gX7_button_X4_rankInHopper : GoodIn wsX7_button (wsV RX7 177 RX4 yX4_rankInHopper wsX4_rankInHopper) := goodIn_app (goodIn_of _ (by decide +kernel)) ggX7_button_X4_rankInHopper
theorem dX7_button_0 : decode cX7_button 0 = .ok (.aload_n 0, 1) := by decide +kernel
theorem dX7_button_1 : decode cX7_button 1 = .ok (.getfield 42, 3) := by decide +kernel
theorem dX7_button_4 : decode cX7_button 4 = .ok (.getfield 60, 3) := by decide +kernel
theorem dX7_button_7 : decode cX7_button 7 = .ok (.iload_n 1, 1) := by decide +kernel
theorem dX7_button_8 : decode cX7_button 8 = .ok (.invokevirtual 128, 3) := by decide +kernel
theorem dX7_button_11 : decode cX7_button 11 = .ok (.ifCond .ne 5, 3) := by decide +kernel
theorem dX7_button_14 : decode cX7_button 14 = .ok (.iconst (-1), 1) := by decide +kernel
theorem dX7_button_15 : decode cX7_button 15 = .ok (.ireturn, 1) := by decide +kernel
theorem dX7_button_16 : decode cX7_button 16 = .ok (.iload_n 2, 1) := by decide +kernel
theorem dX7_button_17 : decode cX7_button 17 = .ok (.ifCond .lt 9, 3) := by decide +kernel
theorem dX7_button_20 : decode cX7_button 20 = .ok (.iload_n 2, 1) := by decide +kernel
theorem dX7_button_21 : decode cX7_button 21 = .ok (.bipush 9, 2) := by decide +kernel
theorem dX7_button_23 : decode cX7_button 23 = .ok (.if_icmp .le 6, 3) := by decide +kernel
theorem dX7_button_26 : decode cX7_button 26 = .ok (.bipush (-2), 2) := by decide +kernel
theorem dX7_button_28 : decode cX7_button 28 = .ok (.ireturn, 1) := by decide +kernel
theorem dX7_button_29 : decode cX7_button 29 = .ok (.iload_n 2, 1) := by decide +kernel
theorem dX7_button_30 : decode cX7_button 30 = .ok (.tableswitch 166 0 8 #[50, 63, 76, 89, 102, 115, 128, 141, 153], 50) := by decide +kernel
theorem dX7_button_80 : decode cX7_button 80 = .ok (.aload_n 0, 1) := by decide +kernel
theorem dX7_button_81 : decode cX7_button 81 = .ok (.getfield 42, 3) := by decide +kernel
theorem dX7_button_84 : decode cX7_button 84 = .ok (.getfield 60, 3) := by decide +kernel
theorem dX7_button_87 : decode cX7_button 87 = .ok (.getfield 162, 3) := by decide +kernel
theorem dX7_button_90 : decode cX7_button 90 = .ok (.iload_n 1, 1) := by decide +kernel
theorem dX7_button_91 : decode cX7_button 91 = .ok (.iaload, 1) := by decide +kernel
theorem dX7_button_92 : decode cX7_button 92 = .ok (.ireturn, 1) := by decide +kernel
theorem dX7_button_93 : decode cX7_button 93 = .ok (.aload_n 0, 1) := by decide +kernel
theorem dX7_button_94 : decode cX7_button 94 = .ok (.getfield 42, 3) := by decide +kernel
theorem dX7_button_97 : decode cX7_button 97 = .ok (.getfield 60, 3) := by decide +kernel
theorem dX7_button_100 : decode cX7_button 100 = .ok (.getfield 165, 3) := by decide +kernel
theorem dX7_button_103 : decode cX7_button 103 = .ok (.iload_n 1, 1) := by decide +kernel
theorem dX7_button_104 : decode cX7_button 104 = .ok (.iaload, 1) := by decide +kernel
theorem dX7_button_105 : decode cX7_button 105 = .ok (.ireturn, 1) := by decide +kernel
theorem dX7_button_106 : decode cX7_button 106 = .ok (.aload_n 0, 1) := by decide +kernel
theorem dX7_button_107 : decode cX7_button 107 = .ok (.getfield 42, 3) := by decide +kernel
theorem dX7_button_110 : decode cX7_button 110 = .ok (.getfield 60, 3) := by decide +kernel
theorem dX7_button_113 : decode cX7_button 113 = .ok (.getfield 168, 3) := by decide +kernel
theorem dX7_button_116 : decode cX7_button 116 = .ok (.iload_n 1, 1) := by decide +kernel
theorem dX7_button_117 : decode cX7_button 117 = .ok (.iaload, 1) := by decide +kernel
theorem dX7_button_118 : decode cX7_button 118 = .ok (.ireturn, 1) := by decide +kernel
theorem dX7_button_119 : decode cX7_button 119 = .ok (.aload_n 0, 1) := by decide +kernel
theorem dX7_button_120 : decode cX7_button 120 = .ok (.getfield 42, 3) := by decide +kernel
theorem dX7_button_123 : decode cX7_button 123 = .ok (.getfield 60, 3) := by decide +kernel
theorem dX7_button_126 : decode cX7_button 126 = .ok (.getfield 171, 3) := by decide +kernel
theorem dX7_button_129 : decode cX7_button 129 = .ok (.iload_n 1, 1) := by decide +kernel
theorem dX7_button_130 : decode cX7_button 130 = .ok (.iaload, 1) := by decide +kernel
theorem dX7_button_131 : decode cX7_button 131 = .ok (.ireturn, 1) := by decide +kernel
theorem dX7_button_132 : decode cX7_button 132 = .ok (.aload_n 0, 1) := by decide +kernel
theorem dX7_button_133 : decode cX7_button 133 = .ok (.getfield 42, 3) := by decide +kernel
theorem dX7_button_136 : decode cX7_button 136 = .ok (.getfield 60, 3) := by decide +kernel
theorem dX7_button_139 : decode cX7_button 139 = .ok (.getfield 134, 3) := by decide +kernel
theorem dX7_button_142 : decode cX7_button 142 = .ok (.iload_n 1, 1) := by decide +kernel
theorem dX7_button_143 : decode cX7_button 143 = .ok (.iaload, 1) := by decide +kernel
theorem dX7_button_144 : decode cX7_button 144 = .ok (.ireturn, 1) := by decide +kernel
theorem dX7_button_145 : decode cX7_button 145 = .ok (.aload_n 0, 1) := by decide +kernel
theorem dX7_button_146 : decode cX7_button 146 = .ok (.getfield 42, 3) := by decide +kernel
theorem dX7_button_149 : decode cX7_button 149 = .ok (.getfield 79, 3) := by decide +kernel
theorem dX7_button_152 : decode cX7_button 152 = .ok (.getfield 131, 3) := by decide +kernel
theorem dX7_button_155 : decode cX7_button 155 = .ok (.iload_n 1, 1) := by decide +kernel
theorem dX7_button_156 : decode cX7_button 156 = .ok (.iaload, 1) := by decide +kernel
theorem dX7_button_157 : decode cX7_button 157 = .ok (.ireturn, 1) := by decide +kernel
theorem dX7_button_158 : decode cX7_button 158 = .ok (.aload_n 0, 1) := by decide +kernel
theorem dX7_button_159 : decode cX7_button 159 = .ok (.getfield 42, 3) := by decide +kernel
theorem dX7_button_162 : decode cX7_button 162 = .ok (.getfield 79, 3) := by decide +kernel
theorem dX7_button_165 : decode cX7_button 165 = .ok (.getfield 174, 3) := by decide +kernel
theorem dX7_button_168 : decode cX7_button 168 = .ok (.iload_n 1, 1) := by decide +kernel
theorem dX7_button_169 : decode cX7_button 169 = .ok (.iaload, 1) := by decide +kernel
theorem dX7_button_170 : decode cX7_button 170 = .ok (.ireturn, 1) := by decide +kernel
theorem dX7_button_171 : decode cX7_button 171 = .ok (.aload_n 0, 1) := by decide +kernel
theorem dX7_button_172 : decode cX7_button 172 = .ok (.getfield 42, 3) := by decide +kernel
theorem dX7_button_175 : decode cX7_button 175 = .ok (.getfield 79, 3) := by decide +kernel
theorem dX7_button_178 : decode cX7_button 178 = .ok (.iload_n 1, 1) := by decide +kernel
theorem dX7_button_179 : decode cX7_button 179 = .ok (.invokevirtual 177, 3) := by decide +kernel
theorem dX7_button_182 : decode cX7_button 182 = .ok (.ireturn, 1) := by decide +kernel
theorem dX7_button_183 : decode cX7_button 183 = .ok (.aload_n 0, 1) := by decide +kernel
theorem dX7_button_184 : decode cX7_button 184 = .ok (.getfield 42, 3) := by decide +kernel
theorem dX7_button_187 : decode cX7_button 187 = .ok (.getfield 79, 3) := by decide +kernel
theorem dX7_button_190 : decode cX7_button 190 = .ok (.getfield 180, 3) := by decide +kernel
theorem dX7_button_193 : decode cX7_button 193 = .ok (.iload_n 1, 1) := by decide +kernel
theorem dX7_button_194 : decode cX7_button 194 = .ok (.iaload, 1) := by decide +kernel
theorem dX7_button_195 : decode cX7_button 195 = .ok (.ireturn, 1) := by decide +kernel
theorem dX7_button_196 : decode cX7_button 196 = .ok (.aload_n 0, 1) := by decide +kernel
theorem dX7_button_197 : decode cX7_button 197 = .ok (.getfield 42, 3) := by decide +kernel
theorem dX7_button_200 : decode cX7_button 200 = .ok (.getfield 60, 3) := by decide +kernel
theorem dX7_button_203 : decode cX7_button 203 = .ok (.getfield 183, 3) := by decide +kernel
theorem dX7_button_206 : decode cX7_button 206 = .ok (.iload_n 1, 1) := by decide +kernel
theorem dX7_button_207 : decode cX7_button 207 = .ok (.iaload, 1) := by decide +kernel
theorem dX7_button_208 : decode cX7_button 208 = .ok (.ireturn, 1) := by decide +kernel
set_option maxRecDepth 20000 in
theorem ggX7_inBin_X7_isBin : GoodIn wsX7_inBin wsX7_isBin := goodIn_r _ [6] (by decide +kernel) (by decide +kernel)
set_option maxRecDepth 20000 in
theorem gX7_inBin_X7_isBin : GoodIn wsX7_inBin (va_wsS RX7 95 yX7_isBin wsX7_isBin) := goodIn_app (goodIn_of _ (by decide +kernel)) ggX7_inBin_X7_isBin
set_option maxRecDepth 20000 in
theorem ggX7_inBin_X3_fill : GoodIn wsX7_inBin wsX3_fill := goodIn_r _ [11, 12, 13, 14, 15, 16, 17, 18, 19, 20, 10, 21, 22, 23, 36, 37, 38, 39, 40, 41, 42, 43, 44, 45, 46, 47, 48, 49, 50, 51, 52, 53, 54, 55, 56, 57, 58, 59] (by decide +kernel) (by decide +kernel)
set_option maxRecDepth 20000 in
theorem gX7_inBin_X3_fill : GoodIn wsX7_inBin (wsV RX7 109 RX3 yX3_fill wsX3_fill) := goodIn_app (goodIn_of _ (by decide +kernel)) ggX7_inBin_X3_fill
set_option maxRecDepth 20000 in
theorem ggX7_inBin_X3_numberAt : GoodIn wsX7_inBin wsX3_numberAt := goodIn_r _ [27, 12, 23, 36, 37, 38] (by decide +kernel) (by decide +kernel)
set_option maxRecDepth 20000 in
theorem gX7_inBin_X3_numberAt : GoodIn wsX7_inBin (wsV RX7 186 RX3 yX3_numberAt wsX3_numberAt) := goodIn_app (goodIn_of _ (by decide +kernel)) ggX7_inBin_X3_numberAt
theorem dX7_inBin_0 : decode cX7_inBin 0 = .ok (.iload_n 1, 1) := by decide +kernel
theorem dX7_inBin_1 : decode cX7_inBin 1 = .ok (.invokestatic 95, 3) := by decide +kernel
theorem dX7_inBin_4 : decode cX7_inBin 4 = .ok (.ifCond .ne 5, 3) := by decide +kernel
theorem dX7_inBin_7 : decode cX7_inBin 7 = .ok (.iconst (-1), 1) := by decide +kernel
theorem dX7_inBin_8 : decode cX7_inBin 8 = .ok (.ireturn, 1) := by decide +kernel
theorem dX7_inBin_9 : decode cX7_inBin 9 = .ok (.iload_n 2, 1) := by decide +kernel
theorem dX7_inBin_10 : decode cX7_inBin 10 = .ok (.ifCond .ge 6, 3) := by decide +kernel
theorem dX7_inBin_13 : decode cX7_inBin 13 = .ok (.bipush (-2), 2) := by decide +kernel
theorem dX7_inBin_15 : decode cX7_inBin 15 = .ok (.ireturn, 1) := by decide +kernel
theorem dX7_inBin_16 : decode cX7_inBin 16 = .ok (.aload_n 0, 1) := by decide +kernel
theorem dX7_inBin_17 : decode cX7_inBin 17 = .ok (.getfield 28, 3) := by decide +kernel
theorem dX7_inBin_20 : decode cX7_inBin 20 = .ok (.aload_n 0, 1) := by decide +kernel
theorem dX7_inBin_21 : decode cX7_inBin 21 = .ok (.getfield 42, 3) := by decide +kernel
theorem dX7_inBin_24 : decode cX7_inBin 24 = .ok (.iload_n 1, 1) := by decide +kernel
theorem dX7_inBin_25 : decode cX7_inBin 25 = .ok (.invokevirtual 109, 3) := by decide +kernel
theorem dX7_inBin_28 : decode cX7_inBin 28 = .ok (.aload_n 0, 1) := by decide +kernel
theorem dX7_inBin_29 : decode cX7_inBin 29 = .ok (.getfield 28, 3) := by decide +kernel
theorem dX7_inBin_32 : decode cX7_inBin 32 = .ok (.iload_n 2, 1) := by decide +kernel
theorem dX7_inBin_33 : decode cX7_inBin 33 = .ok (.invokevirtual 186, 3) := by decide +kernel
theorem dX7_inBin_36 : decode cX7_inBin 36 = .ok (.ireturn, 1) := by decide +kernel
set_option maxRecDepth 20000 in
theorem ggX7_bin_X7_isBin : GoodIn wsX7_bin wsX7_isBin := goodIn_r _ [12] (by decide +kernel) (by decide +kernel)
set_option maxRecDepth 20000 in
theorem gX7_bin_X7_isBin : GoodIn wsX7_bin (va_wsS RX7 95 yX7_isBin wsX7_isBin) := goodIn_app (goodIn_of _ (by decide +kernel)) ggX7_bin_X7_isBin
set_option maxRecDepth 20000 in
theorem ggX7_bin_X3_fill : GoodIn wsX7_bin wsX3_fill := goodIn_r _ [17, 18, 19, 20, 21, 22, 23, 24, 25, 26, 16, 27, 28, 29, 61, 62, 63, 64, 65, 66, 67, 68, 69, 70, 71, 72, 73, 74, 75, 76, 77, 78, 79, 80, 81, 82, 83, 84] (by decide +kernel) (by decide +kernel)
set_option maxRecDepth 20000 in
theorem gX7_bin_X3_fill : GoodIn wsX7_bin (wsV RX7 109 RX3 yX3_fill wsX3_fill) := goodIn_app (goodIn_of _ (by decide +kernel)) ggX7_bin_X3_fill
set_option maxRecDepth 20000 in
theorem ggX7_bin_X3_shineSum : GoodIn wsX7_bin wsX3_shineSum := goodIn_r _ [33, 18, 28, 61, 62, 63] (by decide +kernel) (by decide +kernel)
set_option maxRecDepth 20000 in
theorem gX7_bin_X3_shineSum : GoodIn wsX7_bin (wsV RX7 195 RX3 yX3_shineSum wsX3_shineSum) := goodIn_app (goodIn_of _ (by decide +kernel)) ggX7_bin_X3_shineSum
set_option maxRecDepth 20000 in
theorem ggX7_bin_X3_mostAlike : GoodIn wsX7_bin wsX3_mostAlike := goodIn_r _ [37, 38, 39, 40, 16, 41, 18, 42, 43, 44, 45, 28, 61, 62, 63] (by decide +kernel) (by decide +kernel)
set_option maxRecDepth 20000 in
theorem gX7_bin_X3_mostAlike : GoodIn wsX7_bin (wsV RX7 198 RX3 yX3_mostAlike wsX3_mostAlike) := goodIn_app (goodIn_of _ (by decide +kernel)) ggX7_bin_X3_mostAlike
set_option maxRecDepth 20000 in
theorem ggX7_bin_X3_narrowest : GoodIn wsX7_bin wsX3_narrowest := goodIn_r _ [49, 18, 50, 51, 7, 52, 42, 43, 44, 16, 45, 28, 61, 62, 63] (by decide +kernel) (by decide +kernel)
set_option maxRecDepth 20000 in
theorem gX7_bin_X3_narrowest : GoodIn wsX7_bin (wsV RX7 201 RX3 yX3_narrowest wsX3_narrowest) := goodIn_app (goodIn_of _ (by decide +kernel)) ggX7_bin_X3_narrowest
theorem dX7_bin_0 : decode cX7_bin 0 = .ok (.iload_n 1, 1) := by decide +kernel
theorem dX7_bin_1 : decode cX7_bin 1 = .ok (.invokestatic 95, 3) := by decide +kernel
theorem dX7_bin_4 : decode cX7_bin 4 = .ok (.ifCond .ne 5, 3) := by decide +kernel
theorem dX7_bin_7 : decode cX7_bin 7 = .ok (.iconst (-1), 1) := by decide +kernel
theorem dX7_bin_8 : decode cX7_bin 8 = .ok (.ireturn, 1) := by decide +kernel
theorem dX7_bin_9 : decode cX7_bin 9 = .ok (.iload_n 2, 1) := by decide +kernel
theorem dX7_bin_10 : decode cX7_bin 10 = .ok (.ifCond .lt 8, 3) := by decide +kernel
theorem dX7_bin_13 : decode cX7_bin 13 = .ok (.iload_n 2, 1) := by decide +kernel
theorem dX7_bin_14 : decode cX7_bin 14 = .ok (.iconst 4, 1) := by decide +kernel
theorem dX7_bin_15 : decode cX7_bin 15 = .ok (.if_icmp .le 6, 3) := by decide +kernel
theorem dX7_bin_18 : decode cX7_bin 18 = .ok (.bipush (-2), 2) := by decide +kernel
theorem dX7_bin_20 : decode cX7_bin 20 = .ok (.ireturn, 1) := by decide +kernel
theorem dX7_bin_21 : decode cX7_bin 21 = .ok (.aload_n 0, 1) := by decide +kernel
theorem dX7_bin_22 : decode cX7_bin 22 = .ok (.getfield 28, 3) := by decide +kernel
theorem dX7_bin_25 : decode cX7_bin 25 = .ok (.aload_n 0, 1) := by decide +kernel
theorem dX7_bin_26 : decode cX7_bin 26 = .ok (.getfield 42, 3) := by decide +kernel
theorem dX7_bin_29 : decode cX7_bin 29 = .ok (.iload_n 1, 1) := by decide +kernel
theorem dX7_bin_30 : decode cX7_bin 30 = .ok (.invokevirtual 109, 3) := by decide +kernel
theorem dX7_bin_33 : decode cX7_bin 33 = .ok (.iload_n 2, 1) := by decide +kernel
theorem dX7_bin_34 : decode cX7_bin 34 = .ok (.tableswitch 87 0 3 #[30, 38, 61, 69], 30) := by decide +kernel
theorem dX7_bin_64 : decode cX7_bin 64 = .ok (.aload_n 0, 1) := by decide +kernel
theorem dX7_bin_65 : decode cX7_bin 65 = .ok (.getfield 28, 3) := by decide +kernel
theorem dX7_bin_68 : decode cX7_bin 68 = .ok (.getfield 189, 3) := by decide +kernel
theorem dX7_bin_71 : decode cX7_bin 71 = .ok (.ireturn, 1) := by decide +kernel
theorem dX7_bin_72 : decode cX7_bin 72 = .ok (.aload_n 0, 1) := by decide +kernel
theorem dX7_bin_73 : decode cX7_bin 73 = .ok (.getfield 42, 3) := by decide +kernel
theorem dX7_bin_76 : decode cX7_bin 76 = .ok (.getfield 113, 3) := by decide +kernel
theorem dX7_bin_79 : decode cX7_bin 79 = .ok (.bipush 6, 2) := by decide +kernel
theorem dX7_bin_81 : decode cX7_bin 81 = .ok (.iaload, 1) := by decide +kernel
theorem dX7_bin_82 : decode cX7_bin 82 = .ok (.aload_n 0, 1) := by decide +kernel
theorem dX7_bin_83 : decode cX7_bin 83 = .ok (.getfield 28, 3) := by decide +kernel
theorem dX7_bin_86 : decode cX7_bin 86 = .ok (.getfield 189, 3) := by decide +kernel
theorem dX7_bin_89 : decode cX7_bin 89 = .ok (.isub, 1) := by decide +kernel
theorem dX7_bin_90 : decode cX7_bin 90 = .ok (.iconst 0, 1) := by decide +kernel
theorem dX7_bin_91 : decode cX7_bin 91 = .ok (.invokestatic 190, 3) := by decide +kernel
theorem dX7_bin_94 : decode cX7_bin 94 = .ok (.ireturn, 1) := by decide +kernel
theorem dX7_bin_95 : decode cX7_bin 95 = .ok (.aload_n 0, 1) := by decide +kernel
theorem dX7_bin_96 : decode cX7_bin 96 = .ok (.getfield 28, 3) := by decide +kernel
theorem dX7_bin_99 : decode cX7_bin 99 = .ok (.invokevirtual 195, 3) := by decide +kernel
theorem dX7_bin_102 : decode cX7_bin 102 = .ok (.ireturn, 1) := by decide +kernel
theorem dX7_bin_103 : decode cX7_bin 103 = .ok (.aload_n 0, 1) := by decide +kernel
theorem dX7_bin_104 : decode cX7_bin 104 = .ok (.getfield 28, 3) := by decide +kernel
theorem dX7_bin_107 : decode cX7_bin 107 = .ok (.aload_n 0, 1) := by decide +kernel
theorem dX7_bin_108 : decode cX7_bin 108 = .ok (.getfield 42, 3) := by decide +kernel
theorem dX7_bin_111 : decode cX7_bin 111 = .ok (.getfield 113, 3) := by decide +kernel
theorem dX7_bin_114 : decode cX7_bin 114 = .ok (.bipush 7, 2) := by decide +kernel
theorem dX7_bin_116 : decode cX7_bin 116 = .ok (.iaload, 1) := by decide +kernel
theorem dX7_bin_117 : decode cX7_bin 117 = .ok (.invokevirtual 198, 3) := by decide +kernel
theorem dX7_bin_120 : decode cX7_bin 120 = .ok (.ireturn, 1) := by decide +kernel
theorem dX7_bin_121 : decode cX7_bin 121 = .ok (.aload_n 0, 1) := by decide +kernel
theorem dX7_bin_122 : decode cX7_bin 122 = .ok (.getfield 28, 3) := by decide +kernel
theorem dX7_bin_125 : decode cX7_bin 125 = .ok (.getfield 189, 3) := by decide +kernel
theorem dX7_bin_128 : decode cX7_bin 128 = .ok (.ifCond .ne 7, 3) := by decide +kernel
theorem dX7_bin_131 : decode cX7_bin 131 = .ok (.iconst 0, 1) := by decide +kernel
theorem dX7_bin_132 : decode cX7_bin 132 = .ok (.goto 17, 3) := by decide +kernel
theorem dX7_bin_135 : decode cX7_bin 135 = .ok (.aload_n 0, 1) := by decide +kernel
theorem dX7_bin_136 : decode cX7_bin 136 = .ok (.getfield 28, 3) := by decide +kernel
theorem dX7_bin_139 : decode cX7_bin 139 = .ok (.aload_n 0, 1) := by decide +kernel
theorem dX7_bin_140 : decode cX7_bin 140 = .ok (.getfield 28, 3) := by decide +kernel
theorem dX7_bin_143 : decode cX7_bin 143 = .ok (.getfield 189, 3) := by decide +kernel
theorem dX7_bin_146 : decode cX7_bin 146 = .ok (.invokevirtual 201, 3) := by decide +kernel
theorem dX7_bin_149 : decode cX7_bin 149 = .ok (.ireturn, 1) := by decide +kernel
set_option maxRecDepth 20000 in
theorem ggX7_total_X1_chipSum : GoodIn wsX7_total wsX1_chipSum := goodIn_r _ [20, 21, 22, 45, 46, 47, 48, 49, 50, 51] (by decide +kernel) (by decide +kernel)
set_option maxRecDepth 20000 in
theorem gX7_total_X1_chipSum : GoodIn wsX7_total (wsV RX7 219 RX1 yX1_chipSum wsX1_chipSum) := goodIn_app (goodIn_of _ (by decide +kernel)) ggX7_total_X1_chipSum
theorem dX7_total_0 : decode cX7_total 0 = .ok (.iload_n 1, 1) := by decide +kernel
theorem dX7_total_1 : decode cX7_total 1 = .ok (.ifCond .lt 9, 3) := by decide +kernel
theorem dX7_total_4 : decode cX7_total 4 = .ok (.iload_n 1, 1) := by decide +kernel
theorem dX7_total_5 : decode cX7_total 5 = .ok (.bipush 23, 2) := by decide +kernel
theorem dX7_total_7 : decode cX7_total 7 = .ok (.if_icmp .le 6, 3) := by decide +kernel
theorem dX7_total_10 : decode cX7_total 10 = .ok (.bipush (-2), 2) := by decide +kernel
theorem dX7_total_12 : decode cX7_total 12 = .ok (.ireturn, 1) := by decide +kernel
theorem dX7_total_13 : decode cX7_total 13 = .ok (.iload_n 1, 1) := by decide +kernel
theorem dX7_total_14 : decode cX7_total 14 = .ok (.bipush 8, 2) := by decide +kernel
theorem dX7_total_16 : decode cX7_total 16 = .ok (.if_icmp .ge 13, 3) := by decide +kernel
theorem dX7_total_19 : decode cX7_total 19 = .ok (.aload_n 0, 1) := by decide +kernel
theorem dX7_total_20 : decode cX7_total 20 = .ok (.getfield 42, 3) := by decide +kernel
theorem dX7_total_23 : decode cX7_total 23 = .ok (.getfield 113, 3) := by decide +kernel
theorem dX7_total_26 : decode cX7_total 26 = .ok (.iload_n 1, 1) := by decide +kernel
theorem dX7_total_27 : decode cX7_total 27 = .ok (.iaload, 1) := by decide +kernel
theorem dX7_total_28 : decode cX7_total 28 = .ok (.ireturn, 1) := by decide +kernel
theorem dX7_total_29 : decode cX7_total 29 = .ok (.iload_n 1, 1) := by decide +kernel
theorem dX7_total_30 : decode cX7_total 30 = .ok (.bipush 9, 2) := by decide +kernel
theorem dX7_total_32 : decode cX7_total 32 = .ok (.if_icmp .lt 25, 3) := by decide +kernel
theorem dX7_total_35 : decode cX7_total 35 = .ok (.iload_n 1, 1) := by decide +kernel
theorem dX7_total_36 : decode cX7_total 36 = .ok (.bipush 16, 2) := by decide +kernel
theorem dX7_total_38 : decode cX7_total 38 = .ok (.if_icmp .ge 19, 3) := by decide +kernel
theorem dX7_total_41 : decode cX7_total 41 = .ok (.aload_n 0, 1) := by decide +kernel
theorem dX7_total_42 : decode cX7_total 42 = .ok (.getfield 42, 3) := by decide +kernel
theorem dX7_total_45 : decode cX7_total 45 = .ok (.getfield 79, 3) := by decide +kernel
theorem dX7_total_48 : decode cX7_total 48 = .ok (.getfield 83, 3) := by decide +kernel
theorem dX7_total_51 : decode cX7_total 51 = .ok (.iload_n 1, 1) := by decide +kernel
theorem dX7_total_52 : decode cX7_total 52 = .ok (.bipush 9, 2) := by decide +kernel
theorem dX7_total_54 : decode cX7_total 54 = .ok (.isub, 1) := by decide +kernel
theorem dX7_total_55 : decode cX7_total 55 = .ok (.iaload, 1) := by decide +kernel
theorem dX7_total_56 : decode cX7_total 56 = .ok (.ireturn, 1) := by decide +kernel
theorem dX7_total_57 : decode cX7_total 57 = .ok (.iload_n 1, 1) := by decide +kernel
theorem dX7_total_58 : decode cX7_total 58 = .ok (.tableswitch 144 8 22 #[74, 144, 144, 144, 144, 144, 144, 144, 85, 93, 101, 109, 117, 125, 136], 74) := by decide +kernel
theorem dX7_total_132 : decode cX7_total 132 = .ok (.aload_n 0, 1) := by decide +kernel
theorem dX7_total_133 : decode cX7_total 133 = .ok (.getfield 42, 3) := by decide +kernel
theorem dX7_total_136 : decode cX7_total 136 = .ok (.getfield 60, 3) := by decide +kernel
theorem dX7_total_139 : decode cX7_total 139 = .ok (.getfield 64, 3) := by decide +kernel
theorem dX7_total_142 : decode cX7_total 142 = .ok (.ireturn, 1) := by decide +kernel
theorem dX7_total_143 : decode cX7_total 143 = .ok (.aload_n 0, 1) := by decide +kernel
theorem dX7_total_144 : decode cX7_total 144 = .ok (.getfield 42, 3) := by decide +kernel
theorem dX7_total_147 : decode cX7_total 147 = .ok (.getfield 204, 3) := by decide +kernel
theorem dX7_total_150 : decode cX7_total 150 = .ok (.ireturn, 1) := by decide +kernel
theorem dX7_total_151 : decode cX7_total 151 = .ok (.aload_n 0, 1) := by decide +kernel
theorem dX7_total_152 : decode cX7_total 152 = .ok (.getfield 42, 3) := by decide +kernel
theorem dX7_total_155 : decode cX7_total 155 = .ok (.getfield 207, 3) := by decide +kernel
theorem dX7_total_158 : decode cX7_total 158 = .ok (.ireturn, 1) := by decide +kernel
theorem dX7_total_159 : decode cX7_total 159 = .ok (.aload_n 0, 1) := by decide +kernel
theorem dX7_total_160 : decode cX7_total 160 = .ok (.getfield 42, 3) := by decide +kernel
theorem dX7_total_163 : decode cX7_total 163 = .ok (.getfield 210, 3) := by decide +kernel
theorem dX7_total_166 : decode cX7_total 166 = .ok (.ireturn, 1) := by decide +kernel
theorem dX7_total_167 : decode cX7_total 167 = .ok (.aload_n 0, 1) := by decide +kernel
theorem dX7_total_168 : decode cX7_total 168 = .ok (.getfield 42, 3) := by decide +kernel
theorem dX7_total_171 : decode cX7_total 171 = .ok (.getfield 213, 3) := by decide +kernel
theorem dX7_total_174 : decode cX7_total 174 = .ok (.ireturn, 1) := by decide +kernel
theorem dX7_total_175 : decode cX7_total 175 = .ok (.aload_n 0, 1) := by decide +kernel
theorem dX7_total_176 : decode cX7_total 176 = .ok (.getfield 42, 3) := by decide +kernel
theorem dX7_total_179 : decode cX7_total 179 = .ok (.getfield 216, 3) := by decide +kernel
theorem dX7_total_182 : decode cX7_total 182 = .ok (.ireturn, 1) := by decide +kernel
theorem dX7_total_183 : decode cX7_total 183 = .ok (.aload_n 0, 1) := by decide +kernel
theorem dX7_total_184 : decode cX7_total 184 = .ok (.getfield 42, 3) := by decide +kernel
theorem dX7_total_187 : decode cX7_total 187 = .ok (.getfield 60, 3) := by decide +kernel
theorem dX7_total_190 : decode cX7_total 190 = .ok (.invokevirtual 219, 3) := by decide +kernel
theorem dX7_total_193 : decode cX7_total 193 = .ok (.ireturn, 1) := by decide +kernel
theorem dX7_total_194 : decode cX7_total 194 = .ok (.aload_n 0, 1) := by decide +kernel
theorem dX7_total_195 : decode cX7_total 195 = .ok (.getfield 35, 3) := by decide +kernel
theorem dX7_total_198 : decode cX7_total 198 = .ok (.getfield 158, 3) := by decide +kernel
theorem dX7_total_201 : decode cX7_total 201 = .ok (.ireturn, 1) := by decide +kernel
theorem dX7_total_202 : decode cX7_total 202 = .ok (.aload_n 0, 1) := by decide +kernel
theorem dX7_total_203 : decode cX7_total 203 = .ok (.getfield 10, 3) := by decide +kernel
theorem dX7_total_206 : decode cX7_total 206 = .ok (.getfield 151, 3) := by decide +kernel
theorem dX7_total_209 : decode cX7_total 209 = .ok (.ireturn, 1) := by decide +kernel
set_option maxRecDepth 20000 in
theorem ggX7_goesTo_X1_has : GoodIn wsX7_goesTo wsX1_has := goodIn_r _ [9, 10, 62, 63, 64, 65, 66, 67, 68] (by decide +kernel) (by decide +kernel)
set_option maxRecDepth 20000 in
theorem gX7_goesTo_X1_has : GoodIn wsX7_goesTo (wsV RX7 128 RX1 yX1_has wsX1_has) := goodIn_app (goodIn_of _ (by decide +kernel)) ggX7_goesTo_X1_has
set_option maxRecDepth 20000 in
theorem ggX7_goesTo_X5_placeFor : GoodIn wsX7_goesTo wsX5_placeFor := goodIn_r _ [15, 16, 17, 18, 19, 20, 21, 22, 23, 24, 25, 14, 26, 27, 28, 29, 30, 31, 32, 33, 34, 35, 36, 37, 38, 39, 48, 49, 50, 51, 52, 53, 54, 55, 62, 63, 64, 65, 66, 67, 68, 56, 57, 58, 59, 60, 61] (by decide +kernel) (by decide +kernel)
set_option maxRecDepth 20000 in
theorem gX7_goesTo_X5_placeFor : GoodIn wsX7_goesTo (wsV RX7 222 RX5 yX5_placeFor wsX5_placeFor) := goodIn_app (goodIn_of _ (by decide +kernel)) ggX7_goesTo_X5_placeFor
theorem dX7_goesTo_0 : decode cX7_goesTo 0 = .ok (.aload_n 0, 1) := by decide +kernel
theorem dX7_goesTo_1 : decode cX7_goesTo 1 = .ok (.getfield 42, 3) := by decide +kernel
theorem dX7_goesTo_4 : decode cX7_goesTo 4 = .ok (.getfield 60, 3) := by decide +kernel
theorem dX7_goesTo_7 : decode cX7_goesTo 7 = .ok (.iload_n 1, 1) := by decide +kernel
theorem dX7_goesTo_8 : decode cX7_goesTo 8 = .ok (.invokevirtual 128, 3) := by decide +kernel
theorem dX7_goesTo_11 : decode cX7_goesTo 11 = .ok (.ifCond .ne 5, 3) := by decide +kernel
theorem dX7_goesTo_14 : decode cX7_goesTo 14 = .ok (.iconst (-1), 1) := by decide +kernel
theorem dX7_goesTo_15 : decode cX7_goesTo 15 = .ok (.ireturn, 1) := by decide +kernel
theorem dX7_goesTo_16 : decode cX7_goesTo 16 = .ok (.aload_n 0, 1) := by decide +kernel
theorem dX7_goesTo_17 : decode cX7_goesTo 17 = .ok (.getfield 42, 3) := by decide +kernel
theorem dX7_goesTo_20 : decode cX7_goesTo 20 = .ok (.getfield 79, 3) := by decide +kernel
theorem dX7_goesTo_23 : decode cX7_goesTo 23 = .ok (.getfield 131, 3) := by decide +kernel
theorem dX7_goesTo_26 : decode cX7_goesTo 26 = .ok (.iload_n 1, 1) := by decide +kernel
theorem dX7_goesTo_27 : decode cX7_goesTo 27 = .ok (.iaload, 1) := by decide +kernel
theorem dX7_goesTo_28 : decode cX7_goesTo 28 = .ok (.ifCond .eq 6, 3) := by decide +kernel
theorem dX7_goesTo_31 : decode cX7_goesTo 31 = .ok (.bipush (-4), 2) := by decide +kernel
theorem dX7_goesTo_33 : decode cX7_goesTo 33 = .ok (.ireturn, 1) := by decide +kernel
theorem dX7_goesTo_34 : decode cX7_goesTo 34 = .ok (.aload_n 0, 1) := by decide +kernel
theorem dX7_goesTo_35 : decode cX7_goesTo 35 = .ok (.getfield 42, 3) := by decide +kernel
theorem dX7_goesTo_38 : decode cX7_goesTo 38 = .ok (.iload_n 1, 1) := by decide +kernel
theorem dX7_goesTo_39 : decode cX7_goesTo 39 = .ok (.invokevirtual 222, 3) := by decide +kernel
theorem dX7_goesTo_42 : decode cX7_goesTo 42 = .ok (.ireturn, 1) := by decide +kernel
set_option maxRecDepth 20000 in
theorem ggX7_reason_X7_isBin : GoodIn wsX7_reason wsX7_isBin := goodIn_r _ [6] (by decide +kernel) (by decide +kernel)
set_option maxRecDepth 20000 in
theorem gX7_reason_X7_isBin : GoodIn wsX7_reason (va_wsS RX7 95 yX7_isBin wsX7_isBin) := goodIn_app (goodIn_of _ (by decide +kernel)) ggX7_reason_X7_isBin
set_option maxRecDepth 20000 in
theorem ggX7_reason_X7_isWanted : GoodIn wsX7_reason wsX7_isWanted := goodIn_r _ [9] (by decide +kernel) (by decide +kernel)
set_option maxRecDepth 20000 in
theorem gX7_reason_X7_isWanted : GoodIn wsX7_reason (va_wsS RX7 106 yX7_isWanted wsX7_isWanted) := goodIn_app (goodIn_of _ (by decide +kernel)) ggX7_reason_X7_isWanted
set_option maxRecDepth 20000 in
theorem ggX7_reason_X3_fill : GoodIn wsX7_reason wsX3_fill := goodIn_r _ [14, 15, 16, 17, 18, 19, 20, 21, 22, 23, 13, 24, 25, 26, 49, 50, 51, 52, 53, 54, 55, 56, 57, 58, 59, 60, 61, 62, 63, 64, 65, 66, 67, 68, 69, 70, 71, 72] (by decide +kernel) (by decide +kernel)
set_option maxRecDepth 20000 in
theorem gX7_reason_X3_fill : GoodIn wsX7_reason (wsV RX7 109 RX3 yX3_fill wsX3_fill) := goodIn_app (goodIn_of _ (by decide +kernel)) ggX7_reason_X3_fill
set_option maxRecDepth 20000 in
theorem ggX7_reason_X7_refusalOf : GoodIn wsX7_reason wsX7_refusalOf := goodIn_r _ [30, 1, 31, 2, 32, 33, 34, 35, 13, 36, 15, 37, 38, 39, 40, 25, 41, 42, 43, 44, 45, 46, 47, 48, 49, 50, 51, 52, 53, 54, 55, 56, 57, 58, 59] (by decide +kernel) (by decide +kernel)
set_option maxRecDepth 20000 in
theorem gX7_reason_X7_refusalOf : GoodIn wsX7_reason (wsV RX7 120 RX7 yX7_refusalOf wsX7_refusalOf) := goodIn_app (goodIn_of _ (by decide +kernel)) ggX7_reason_X7_refusalOf
theorem dX7_reason_0 : decode cX7_reason 0 = .ok (.iload_n 1, 1) := by decide +kernel
theorem dX7_reason_1 : decode cX7_reason 1 = .ok (.invokestatic 95, 3) := by decide +kernel
theorem dX7_reason_4 : decode cX7_reason 4 = .ok (.ifCond .ne 5, 3) := by decide +kernel
theorem dX7_reason_7 : decode cX7_reason 7 = .ok (.iconst (-1), 1) := by decide +kernel
theorem dX7_reason_8 : decode cX7_reason 8 = .ok (.ireturn, 1) := by decide +kernel
theorem dX7_reason_9 : decode cX7_reason 9 = .ok (.iload_n 2, 1) := by decide +kernel
theorem dX7_reason_10 : decode cX7_reason 10 = .ok (.invokestatic 106, 3) := by decide +kernel
theorem dX7_reason_13 : decode cX7_reason 13 = .ok (.ifCond .ne 6, 3) := by decide +kernel
theorem dX7_reason_16 : decode cX7_reason 16 = .ok (.bipush (-2), 2) := by decide +kernel
theorem dX7_reason_18 : decode cX7_reason 18 = .ok (.ireturn, 1) := by decide +kernel
theorem dX7_reason_19 : decode cX7_reason 19 = .ok (.aload_n 0, 1) := by decide +kernel
theorem dX7_reason_20 : decode cX7_reason 20 = .ok (.getfield 28, 3) := by decide +kernel
theorem dX7_reason_23 : decode cX7_reason 23 = .ok (.aload_n 0, 1) := by decide +kernel
theorem dX7_reason_24 : decode cX7_reason 24 = .ok (.getfield 42, 3) := by decide +kernel
theorem dX7_reason_27 : decode cX7_reason 27 = .ok (.iload_n 1, 1) := by decide +kernel
theorem dX7_reason_28 : decode cX7_reason 28 = .ok (.invokevirtual 109, 3) := by decide +kernel
theorem dX7_reason_31 : decode cX7_reason 31 = .ok (.aload_n 0, 1) := by decide +kernel
theorem dX7_reason_32 : decode cX7_reason 32 = .ok (.iload_n 2, 1) := by decide +kernel
theorem dX7_reason_33 : decode cX7_reason 33 = .ok (.invokevirtual 120, 3) := by decide +kernel
theorem dX7_reason_36 : decode cX7_reason 36 = .ok (.ireturn, 1) := by decide +kernel
set_option maxRecDepth 20000 in
theorem ggX7_leastSpread_X7_isBin : GoodIn wsX7_leastSpread wsX7_isBin := goodIn_r _ [7] (by decide +kernel) (by decide +kernel)
set_option maxRecDepth 20000 in
theorem gX7_leastSpread_X7_isBin : GoodIn wsX7_leastSpread (va_wsS RX7 95 yX7_isBin wsX7_isBin) := goodIn_app (goodIn_of _ (by decide +kernel)) ggX7_leastSpread_X7_isBin
set_option maxRecDepth 20000 in
theorem ggX7_leastSpread_X7_isWanted : GoodIn wsX7_leastSpread wsX7_isWanted := goodIn_r _ [10] (by decide +kernel) (by decide +kernel)
set_option maxRecDepth 20000 in
theorem gX7_leastSpread_X7_isWanted : GoodIn wsX7_leastSpread (va_wsS RX7 106 yX7_isWanted wsX7_isWanted) := goodIn_app (goodIn_of _ (by decide +kernel)) ggX7_leastSpread_X7_isWanted
set_option maxRecDepth 20000 in
theorem ggX7_leastSpread_X3_fill : GoodIn wsX7_leastSpread wsX3_fill := goodIn_r _ [15, 16, 17, 18, 19, 20, 21, 22, 23, 24, 14, 25, 26, 27, 48, 49, 50, 51, 52, 53, 54, 55, 56, 57, 58, 59, 60, 61, 62, 63, 64, 65, 66, 67, 68, 69, 70, 71] (by decide +kernel) (by decide +kernel)
set_option maxRecDepth 20000 in
theorem gX7_leastSpread_X3_fill : GoodIn wsX7_leastSpread (wsV RX7 109 RX3 yX3_fill wsX3_fill) := goodIn_app (goodIn_of _ (by decide +kernel)) ggX7_leastSpread_X3_fill
set_option maxRecDepth 20000 in
theorem ggX7_leastSpread_X3_narrowest : GoodIn wsX7_leastSpread wsX3_narrowest := goodIn_r _ [31, 16, 32, 33, 34, 35, 36, 37, 38, 14, 39, 26, 48, 49, 50] (by decide +kernel) (by decide +kernel)
set_option maxRecDepth 20000 in
theorem gX7_leastSpread_X3_narrowest : GoodIn wsX7_leastSpread (wsV RX7 201 RX3 yX3_narrowest wsX3_narrowest) := goodIn_app (goodIn_of _ (by decide +kernel)) ggX7_leastSpread_X3_narrowest
theorem dX7_leastSpread_0 : decode cX7_leastSpread 0 = .ok (.iload_n 1, 1) := by decide +kernel
theorem dX7_leastSpread_1 : decode cX7_leastSpread 1 = .ok (.invokestatic 95, 3) := by decide +kernel
theorem dX7_leastSpread_4 : decode cX7_leastSpread 4 = .ok (.ifCond .ne 5, 3) := by decide +kernel
theorem dX7_leastSpread_7 : decode cX7_leastSpread 7 = .ok (.iconst (-1), 1) := by decide +kernel
theorem dX7_leastSpread_8 : decode cX7_leastSpread 8 = .ok (.ireturn, 1) := by decide +kernel
theorem dX7_leastSpread_9 : decode cX7_leastSpread 9 = .ok (.iload_n 2, 1) := by decide +kernel
theorem dX7_leastSpread_10 : decode cX7_leastSpread 10 = .ok (.invokestatic 106, 3) := by decide +kernel
theorem dX7_leastSpread_13 : decode cX7_leastSpread 13 = .ok (.ifCond .ne 6, 3) := by decide +kernel
theorem dX7_leastSpread_16 : decode cX7_leastSpread 16 = .ok (.bipush (-2), 2) := by decide +kernel
theorem dX7_leastSpread_18 : decode cX7_leastSpread 18 = .ok (.ireturn, 1) := by decide +kernel
theorem dX7_leastSpread_19 : decode cX7_leastSpread 19 = .ok (.aload_n 0, 1) := by decide +kernel
theorem dX7_leastSpread_20 : decode cX7_leastSpread 20 = .ok (.getfield 28, 3) := by decide +kernel
theorem dX7_leastSpread_23 : decode cX7_leastSpread 23 = .ok (.aload_n 0, 1) := by decide +kernel
theorem dX7_leastSpread_24 : decode cX7_leastSpread 24 = .ok (.getfield 42, 3) := by decide +kernel
theorem dX7_leastSpread_27 : decode cX7_leastSpread 27 = .ok (.iload_n 1, 1) := by decide +kernel
theorem dX7_leastSpread_28 : decode cX7_leastSpread 28 = .ok (.invokevirtual 109, 3) := by decide +kernel
theorem dX7_leastSpread_31 : decode cX7_leastSpread 31 = .ok (.aload_n 0, 1) := by decide +kernel
theorem dX7_leastSpread_32 : decode cX7_leastSpread 32 = .ok (.getfield 28, 3) := by decide +kernel
theorem dX7_leastSpread_35 : decode cX7_leastSpread 35 = .ok (.getfield 189, 3) := by decide +kernel
theorem dX7_leastSpread_38 : decode cX7_leastSpread 38 = .ok (.iload_n 2, 1) := by decide +kernel
theorem dX7_leastSpread_39 : decode cX7_leastSpread 39 = .ok (.if_icmp .ge 8, 3) := by decide +kernel
theorem dX7_leastSpread_42 : decode cX7_leastSpread 42 = .ok (.bipush (-5), 2) := by decide +kernel
theorem dX7_leastSpread_44 : decode cX7_leastSpread 44 = .ok (.goto 11, 3) := by decide +kernel
theorem dX7_leastSpread_47 : decode cX7_leastSpread 47 = .ok (.aload_n 0, 1) := by decide +kernel
theorem dX7_leastSpread_48 : decode cX7_leastSpread 48 = .ok (.getfield 28, 3) := by decide +kernel
theorem dX7_leastSpread_51 : decode cX7_leastSpread 51 = .ok (.iload_n 2, 1) := by decide +kernel
theorem dX7_leastSpread_52 : decode cX7_leastSpread 52 = .ok (.invokevirtual 201, 3) := by decide +kernel
theorem dX7_leastSpread_55 : decode cX7_leastSpread 55 = .ok (.ireturn, 1) := by decide +kernel
set_option maxRecDepth 20000 in
theorem ggX7_shirts_X7_isWanted : GoodIn wsX7_shirts wsX7_isWanted := goodIn_r _ [7] (by decide +kernel) (by decide +kernel)
set_option maxRecDepth 20000 in
theorem gX7_shirts_X7_isWanted : GoodIn wsX7_shirts (va_wsS RX7 106 yX7_isWanted wsX7_isWanted) := goodIn_app (goodIn_of _ (by decide +kernel)) ggX7_shirts_X7_isWanted
set_option maxRecDepth 20000 in
theorem ggX7_shirts_X3_fill : GoodIn wsX7_shirts wsX3_fill := goodIn_r _ [12, 13, 14, 15, 16, 17, 18, 19, 20, 21, 11, 22, 23, 24, 49, 50, 51, 41, 42, 43, 44, 45, 46, 47, 48, 52, 53, 54, 55, 56, 57, 58, 59, 60, 61, 62, 63, 64] (by decide +kernel) (by decide +kernel)
set_option maxRecDepth 20000 in
theorem gX7_shirts_X3_fill : GoodIn wsX7_shirts (wsV RX7 109 RX3 yX3_fill wsX3_fill) := goodIn_app (goodIn_of _ (by decide +kernel)) ggX7_shirts_X3_fill
set_option maxRecDepth 20000 in
theorem ggX7_shirts_X3_groups : GoodIn wsX7_shirts wsX3_groups := goodIn_r _ [28, 13, 29, 30, 31, 11, 32, 23, 49, 50, 51] (by decide +kernel) (by decide +kernel)
set_option maxRecDepth 20000 in
theorem gX7_shirts_X3_groups : GoodIn wsX7_shirts (wsV RX7 225 RX3 yX3_groups wsX3_groups) := goodIn_app (goodIn_of _ (by decide +kernel)) ggX7_shirts_X3_groups
theorem dX7_shirts_0 : decode cX7_shirts 0 = .ok (.iload_n 1, 1) := by decide +kernel
theorem dX7_shirts_1 : decode cX7_shirts 1 = .ok (.invokestatic 106, 3) := by decide +kernel
theorem dX7_shirts_4 : decode cX7_shirts 4 = .ok (.ifCond .ne 6, 3) := by decide +kernel
theorem dX7_shirts_7 : decode cX7_shirts 7 = .ok (.bipush (-2), 2) := by decide +kernel
theorem dX7_shirts_9 : decode cX7_shirts 9 = .ok (.ireturn, 1) := by decide +kernel
theorem dX7_shirts_10 : decode cX7_shirts 10 = .ok (.iconst 0, 1) := by decide +kernel
theorem dX7_shirts_11 : decode cX7_shirts 11 = .ok (.istore_n 2, 1) := by decide +kernel
theorem dX7_shirts_12 : decode cX7_shirts 12 = .ok (.iconst 0, 1) := by decide +kernel
theorem dX7_shirts_13 : decode cX7_shirts 13 = .ok (.istore_n 3, 1) := by decide +kernel
theorem dX7_shirts_14 : decode cX7_shirts 14 = .ok (.iload_n 3, 1) := by decide +kernel
theorem dX7_shirts_15 : decode cX7_shirts 15 = .ok (.bipush 12, 2) := by decide +kernel
theorem dX7_shirts_17 : decode cX7_shirts 17 = .ok (.if_icmp .ge 42, 3) := by decide +kernel
theorem dX7_shirts_20 : decode cX7_shirts 20 = .ok (.aload_n 0, 1) := by decide +kernel
theorem dX7_shirts_21 : decode cX7_shirts 21 = .ok (.getfield 28, 3) := by decide +kernel
theorem dX7_shirts_24 : decode cX7_shirts 24 = .ok (.aload_n 0, 1) := by decide +kernel
theorem dX7_shirts_25 : decode cX7_shirts 25 = .ok (.getfield 42, 3) := by decide +kernel
theorem dX7_shirts_28 : decode cX7_shirts 28 = .ok (.iload_n 3, 1) := by decide +kernel
theorem dX7_shirts_29 : decode cX7_shirts 29 = .ok (.invokevirtual 109, 3) := by decide +kernel
theorem dX7_shirts_32 : decode cX7_shirts 32 = .ok (.iload_n 2, 1) := by decide +kernel
theorem dX7_shirts_33 : decode cX7_shirts 33 = .ok (.aload_n 0, 1) := by decide +kernel
theorem dX7_shirts_34 : decode cX7_shirts 34 = .ok (.getfield 28, 3) := by decide +kernel
theorem dX7_shirts_37 : decode cX7_shirts 37 = .ok (.iload_n 1, 1) := by decide +kernel
theorem dX7_shirts_38 : decode cX7_shirts 38 = .ok (.aload_n 0, 1) := by decide +kernel
theorem dX7_shirts_39 : decode cX7_shirts 39 = .ok (.getfield 42, 3) := by decide +kernel
theorem dX7_shirts_42 : decode cX7_shirts 42 = .ok (.getfield 113, 3) := by decide +kernel
theorem dX7_shirts_45 : decode cX7_shirts 45 = .ok (.bipush 7, 2) := by decide +kernel
theorem dX7_shirts_47 : decode cX7_shirts 47 = .ok (.iaload, 1) := by decide +kernel
theorem dX7_shirts_48 : decode cX7_shirts 48 = .ok (.invokevirtual 225, 3) := by decide +kernel
theorem dX7_shirts_51 : decode cX7_shirts 51 = .ok (.iadd, 1) := by decide +kernel
theorem dX7_shirts_52 : decode cX7_shirts 52 = .ok (.istore_n 2, 1) := by decide +kernel
theorem dX7_shirts_53 : decode cX7_shirts 53 = .ok (.iinc 3 1, 3) := by decide +kernel
theorem dX7_shirts_56 : decode cX7_shirts 56 = .ok (.goto (-42), 3) := by decide +kernel
theorem dX7_shirts_59 : decode cX7_shirts 59 = .ok (.iload_n 2, 1) := by decide +kernel
theorem dX7_shirts_60 : decode cX7_shirts 60 = .ok (.ireturn, 1) := by decide +kernel
set_option maxRecDepth 20000 in
theorem ggX7_ifMesh_X7_isValue : GoodIn wsX7_ifMesh wsX7_isValue := goodIn_r _ [9, 10, 11] (by decide +kernel) (by decide +kernel)
set_option maxRecDepth 20000 in
theorem gX7_ifMesh_X7_isValue : GoodIn wsX7_ifMesh (va_wsS RX7 140 yX7_isValue wsX7_isValue) := goodIn_app (goodIn_of _ (by decide +kernel)) ggX7_ifMesh_X7_isValue
set_option maxRecDepth 20000 in
theorem ggX7_ifMesh_X7_isPlace : GoodIn wsX7_ifMesh wsX7_isPlace := goodIn_r _ [14] (by decide +kernel) (by decide +kernel)
set_option maxRecDepth 20000 in
theorem gX7_ifMesh_X7_isPlace : GoodIn wsX7_ifMesh (va_wsS RX7 228 yX7_isPlace wsX7_isPlace) := goodIn_app (goodIn_of _ (by decide +kernel)) ggX7_ifMesh_X7_isPlace
set_option maxRecDepth 20000 in
theorem ggX7_ifMesh_X5_meshesAllow : GoodIn wsX7_ifMesh wsX5_meshesAllow := goodIn_r _ [19, 20, 145, 146, 147, 148, 149, 150, 151, 152] (by decide +kernel) (by decide +kernel)
set_option maxRecDepth 20000 in
theorem gX7_ifMesh_X5_meshesAllow : GoodIn wsX7_ifMesh (wsV RX7 144 RX5 yX5_meshesAllow wsX5_meshesAllow) := goodIn_app (goodIn_of _ (by decide +kernel)) ggX7_ifMesh_X5_meshesAllow
set_option maxRecDepth 20000 in
theorem ggX7_ifMesh_X5_copyFrom : GoodIn wsX7_ifMesh wsX5_copyFrom := goodIn_r _ [24, 25, 26, 20, 27, 28, 29, 30, 31, 32, 33, 34, 35, 36, 37, 38, 39, 40, 41, 42, 43, 44, 45, 46, 47, 48, 49, 50, 51, 52, 53, 54, 55, 56, 57, 58, 59, 60, 145, 146, 147, 148, 149, 150, 151, 152, 159, 160, 161, 162, 163, 164, 165, 153, 154, 155, 156, 157, 158] (by decide +kernel) (by decide +kernel)
set_option maxRecDepth 20000 in
theorem gX7_ifMesh_X5_copyFrom : GoodIn wsX7_ifMesh (wsV RX7 159 RX5 yX5_copyFrom wsX5_copyFrom) := goodIn_app (goodIn_of _ (by decide +kernel)) ggX7_ifMesh_X5_copyFrom
set_option maxRecDepth 20000 in
theorem ggX7_ifMesh_X5_sortFirst : GoodIn wsX7_ifMesh wsX5_sortFirst := goodIn_r _ [64, 26, 25, 65, 33, 34, 66, 67, 68, 52, 69, 59, 58, 55, 28, 29, 30, 70, 71, 72, 73, 54, 56, 60, 74, 75, 76, 13, 8, 14, 77, 78, 79, 80, 81, 39, 82, 41, 83, 84, 85, 18, 86, 87, 20, 88, 89, 90, 91, 92, 93, 94, 95, 96, 97, 98, 99, 100, 101, 102, 103, 104, 105, 106, 107, 108, 109, 110, 111, 112, 57, 113, 114, 115, 116, 117, 118, 119, 120, 121, 122, 123, 35, 124, 125, 126, 127, 46, 128, 129, 130, 131, 132, 133, 134, 135, 136, 145, 146, 147, 148, 149, 150, 151, 152, 159, 160, 161, 162, 163, 164, 165, 153, 154, 155, 156, 157, 158] (by decide +kernel) (by decide +kernel)
set_option maxRecDepth 20000 in
theorem gX7_ifMesh_X5_sortFirst : GoodIn wsX7_ifMesh (wsV RX7 89 RX5 yX5_sortFirst wsX5_sortFirst) := goodIn_app (goodIn_of _ (by decide +kernel)) ggX7_ifMesh_X5_sortFirst
theorem dX7_ifMesh_0 : decode cX7_ifMesh 0 = .ok (.iload_n 1, 1) := by decide +kernel
theorem dX7_ifMesh_1 : decode cX7_ifMesh 1 = .ok (.ifCond .lt 8, 3) := by decide +kernel
theorem dX7_ifMesh_4 : decode cX7_ifMesh 4 = .ok (.iload_n 1, 1) := by decide +kernel
theorem dX7_ifMesh_5 : decode cX7_ifMesh 5 = .ok (.iconst 3, 1) := by decide +kernel
theorem dX7_ifMesh_6 : decode cX7_ifMesh 6 = .ok (.if_icmp .lt 5, 3) := by decide +kernel
theorem dX7_ifMesh_9 : decode cX7_ifMesh 9 = .ok (.iconst (-1), 1) := by decide +kernel
theorem dX7_ifMesh_10 : decode cX7_ifMesh 10 = .ok (.ireturn, 1) := by decide +kernel
theorem dX7_ifMesh_11 : decode cX7_ifMesh 11 = .ok (.iload_n 1, 1) := by decide +kernel
theorem dX7_ifMesh_12 : decode cX7_ifMesh 12 = .ok (.iload_n 2, 1) := by decide +kernel
theorem dX7_ifMesh_13 : decode cX7_ifMesh 13 = .ok (.invokestatic 140, 3) := by decide +kernel
theorem dX7_ifMesh_16 : decode cX7_ifMesh 16 = .ok (.ifCond .eq 10, 3) := by decide +kernel
theorem dX7_ifMesh_19 : decode cX7_ifMesh 19 = .ok (.iload_n 3, 1) := by decide +kernel
theorem dX7_ifMesh_20 : decode cX7_ifMesh 20 = .ok (.invokestatic 228, 3) := by decide +kernel
theorem dX7_ifMesh_23 : decode cX7_ifMesh 23 = .ok (.ifCond .ne 6, 3) := by decide +kernel
theorem dX7_ifMesh_26 : decode cX7_ifMesh 26 = .ok (.bipush (-2), 2) := by decide +kernel
theorem dX7_ifMesh_28 : decode cX7_ifMesh 28 = .ok (.ireturn, 1) := by decide +kernel
theorem dX7_ifMesh_29 : decode cX7_ifMesh 29 = .ok (.aload_n 0, 1) := by decide +kernel
theorem dX7_ifMesh_30 : decode cX7_ifMesh 30 = .ok (.getfield 42, 3) := by decide +kernel
theorem dX7_ifMesh_33 : decode cX7_ifMesh 33 = .ok (.iload_n 1, 1) := by decide +kernel
theorem dX7_ifMesh_34 : decode cX7_ifMesh 34 = .ok (.iload_n 2, 1) := by decide +kernel
theorem dX7_ifMesh_35 : decode cX7_ifMesh 35 = .ok (.invokevirtual 144, 3) := by decide +kernel
theorem dX7_ifMesh_38 : decode cX7_ifMesh 38 = .ok (.ifCond .ne 6, 3) := by decide +kernel
theorem dX7_ifMesh_41 : decode cX7_ifMesh 41 = .ok (.bipush (-4), 2) := by decide +kernel
theorem dX7_ifMesh_43 : decode cX7_ifMesh 43 = .ok (.ireturn, 1) := by decide +kernel
theorem dX7_ifMesh_44 : decode cX7_ifMesh 44 = .ok (.aload_n 0, 1) := by decide +kernel
theorem dX7_ifMesh_45 : decode cX7_ifMesh 45 = .ok (.getfield 49, 3) := by decide +kernel
theorem dX7_ifMesh_48 : decode cX7_ifMesh 48 = .ok (.aload_n 0, 1) := by decide +kernel
theorem dX7_ifMesh_49 : decode cX7_ifMesh 49 = .ok (.getfield 42, 3) := by decide +kernel
theorem dX7_ifMesh_52 : decode cX7_ifMesh 52 = .ok (.invokevirtual 159, 3) := by decide +kernel
theorem dX7_ifMesh_55 : decode cX7_ifMesh 55 = .ok (.aload_n 0, 1) := by decide +kernel
theorem dX7_ifMesh_56 : decode cX7_ifMesh 56 = .ok (.getfield 49, 3) := by decide +kernel
theorem dX7_ifMesh_59 : decode cX7_ifMesh 59 = .ok (.getfield 113, 3) := by decide +kernel
theorem dX7_ifMesh_62 : decode cX7_ifMesh 62 = .ok (.iload_n 1, 1) := by decide +kernel
theorem dX7_ifMesh_63 : decode cX7_ifMesh 63 = .ok (.iload_n 2, 1) := by decide +kernel
theorem dX7_ifMesh_64 : decode cX7_ifMesh 64 = .ok (.iastore, 1) := by decide +kernel
theorem dX7_ifMesh_65 : decode cX7_ifMesh 65 = .ok (.aload_n 0, 1) := by decide +kernel
theorem dX7_ifMesh_66 : decode cX7_ifMesh 66 = .ok (.getfield 49, 3) := by decide +kernel
theorem dX7_ifMesh_69 : decode cX7_ifMesh 69 = .ok (.getfield 79, 3) := by decide +kernel
theorem dX7_ifMesh_72 : decode cX7_ifMesh 72 = .ok (.getfield 83, 3) := by decide +kernel
theorem dX7_ifMesh_75 : decode cX7_ifMesh 75 = .ok (.iconst 0, 1) := by decide +kernel
theorem dX7_ifMesh_76 : decode cX7_ifMesh 76 = .ok (.iaload, 1) := by decide +kernel
theorem dX7_ifMesh_77 : decode cX7_ifMesh 77 = .ok (.istore 4, 2) := by decide +kernel
theorem dX7_ifMesh_79 : decode cX7_ifMesh 79 = .ok (.iconst 0, 1) := by decide +kernel
theorem dX7_ifMesh_80 : decode cX7_ifMesh 80 = .ok (.istore 5, 2) := by decide +kernel
theorem dX7_ifMesh_82 : decode cX7_ifMesh 82 = .ok (.iload 5, 2) := by decide +kernel
theorem dX7_ifMesh_84 : decode cX7_ifMesh 84 = .ok (.iload 4, 2) := by decide +kernel
theorem dX7_ifMesh_86 : decode cX7_ifMesh 86 = .ok (.if_icmp .ge 16, 3) := by decide +kernel
theorem dX7_ifMesh_89 : decode cX7_ifMesh 89 = .ok (.aload_n 0, 1) := by decide +kernel
theorem dX7_ifMesh_90 : decode cX7_ifMesh 90 = .ok (.getfield 49, 3) := by decide +kernel
theorem dX7_ifMesh_93 : decode cX7_ifMesh 93 = .ok (.invokevirtual 89, 3) := by decide +kernel
theorem dX7_ifMesh_96 : decode cX7_ifMesh 96 = .ok (.iinc 5 1, 3) := by decide +kernel
theorem dX7_ifMesh_99 : decode cX7_ifMesh 99 = .ok (.goto (-17), 3) := by decide +kernel
theorem dX7_ifMesh_102 : decode cX7_ifMesh 102 = .ok (.aload_n 0, 1) := by decide +kernel
theorem dX7_ifMesh_103 : decode cX7_ifMesh 103 = .ok (.getfield 49, 3) := by decide +kernel
theorem dX7_ifMesh_106 : decode cX7_ifMesh 106 = .ok (.getfield 79, 3) := by decide +kernel
theorem dX7_ifMesh_109 : decode cX7_ifMesh 109 = .ok (.getfield 83, 3) := by decide +kernel
theorem dX7_ifMesh_112 : decode cX7_ifMesh 112 = .ok (.iload_n 3, 1) := by decide +kernel
theorem dX7_ifMesh_113 : decode cX7_ifMesh 113 = .ok (.iaload, 1) := by decide +kernel
theorem dX7_ifMesh_114 : decode cX7_ifMesh 114 = .ok (.ireturn, 1) := by decide +kernel
theorem dX7_isBin_0 : decode cX7_isBin 0 = .ok (.iload_n 0, 1) := by decide +kernel
theorem dX7_isBin_1 : decode cX7_isBin 1 = .ok (.ifCond .lt 13, 3) := by decide +kernel
theorem dX7_isBin_4 : decode cX7_isBin 4 = .ok (.iload_n 0, 1) := by decide +kernel
theorem dX7_isBin_5 : decode cX7_isBin 5 = .ok (.bipush 12, 2) := by decide +kernel
theorem dX7_isBin_7 : decode cX7_isBin 7 = .ok (.if_icmp .ge 7, 3) := by decide +kernel
theorem dX7_isBin_10 : decode cX7_isBin 10 = .ok (.iconst 1, 1) := by decide +kernel
theorem dX7_isBin_11 : decode cX7_isBin 11 = .ok (.goto 4, 3) := by decide +kernel
theorem dX7_isBin_14 : decode cX7_isBin 14 = .ok (.iconst 0, 1) := by decide +kernel
theorem dX7_isBin_15 : decode cX7_isBin 15 = .ok (.ireturn, 1) := by decide +kernel
theorem dX7_isPlace_0 : decode cX7_isPlace 0 = .ok (.iload_n 0, 1) := by decide +kernel
theorem dX7_isPlace_1 : decode cX7_isPlace 1 = .ok (.ifCond .lt 13, 3) := by decide +kernel
theorem dX7_isPlace_4 : decode cX7_isPlace 4 = .ok (.iload_n 0, 1) := by decide +kernel
theorem dX7_isPlace_5 : decode cX7_isPlace 5 = .ok (.bipush 7, 2) := by decide +kernel
theorem dX7_isPlace_7 : decode cX7_isPlace 7 = .ok (.if_icmp .ge 7, 3) := by decide +kernel
theorem dX7_isPlace_10 : decode cX7_isPlace 10 = .ok (.iconst 1, 1) := by decide +kernel
theorem dX7_isPlace_11 : decode cX7_isPlace 11 = .ok (.goto 4, 3) := by decide +kernel
theorem dX7_isPlace_14 : decode cX7_isPlace 14 = .ok (.iconst 0, 1) := by decide +kernel
theorem dX7_isPlace_15 : decode cX7_isPlace 15 = .ok (.ireturn, 1) := by decide +kernel
theorem dX7_isWanted_0 : decode cX7_isWanted 0 = .ok (.iload_n 0, 1) := by decide +kernel
theorem dX7_isWanted_1 : decode cX7_isWanted 1 = .ok (.iconst 1, 1) := by decide +kernel
theorem dX7_isWanted_2 : decode cX7_isWanted 2 = .ok (.if_icmp .lt 13, 3) := by decide +kernel
theorem dX7_isWanted_5 : decode cX7_isWanted 5 = .ok (.iload_n 0, 1) := by decide +kernel
theorem dX7_isWanted_6 : decode cX7_isWanted 6 = .ok (.bipush 9, 2) := by decide +kernel
theorem dX7_isWanted_8 : decode cX7_isWanted 8 = .ok (.if_icmp .gt 7, 3) := by decide +kernel
theorem dX7_isWanted_11 : decode cX7_isWanted 11 = .ok (.iconst 1, 1) := by decide +kernel
theorem dX7_isWanted_12 : decode cX7_isWanted 12 = .ok (.goto 4, 3) := by decide +kernel
theorem dX7_isWanted_15 : decode cX7_isWanted 15 = .ok (.iconst 0, 1) := by decide +kernel
theorem dX7_isWanted_16 : decode cX7_isWanted 16 = .ok (.ireturn, 1) := by decide +kernel
theorem dX7_isValue_0 : decode cX7_isValue 0 = .ok (.iload_n 1, 1) := by decide +kernel
theorem dX7_isValue_1 : decode cX7_isValue 1 = .ok (.getstatic 231, 3) := by decide +kernel
theorem dX7_isValue_4 : decode cX7_isValue 4 = .ok (.iload_n 0, 1) := by decide +kernel
theorem dX7_isValue_5 : decode cX7_isValue 5 = .ok (.iaload, 1) := by decide +kernel
theorem dX7_isValue_6 : decode cX7_isValue 6 = .ok (.if_icmp .lt 16, 3) := by decide +kernel
theorem dX7_isValue_9 : decode cX7_isValue 9 = .ok (.iload_n 1, 1) := by decide +kernel
theorem dX7_isValue_10 : decode cX7_isValue 10 = .ok (.getstatic 234, 3) := by decide +kernel
theorem dX7_isValue_13 : decode cX7_isValue 13 = .ok (.iload_n 0, 1) := by decide +kernel
theorem dX7_isValue_14 : decode cX7_isValue 14 = .ok (.iaload, 1) := by decide +kernel
theorem dX7_isValue_15 : decode cX7_isValue 15 = .ok (.if_icmp .gt 7, 3) := by decide +kernel
theorem dX7_isValue_18 : decode cX7_isValue 18 = .ok (.iconst 1, 1) := by decide +kernel
theorem dX7_isValue_19 : decode cX7_isValue 19 = .ok (.goto 4, 3) := by decide +kernel
theorem dX7_isValue_22 : decode cX7_isValue 22 = .ok (.iconst 0, 1) := by decide +kernel
theorem dX7_isValue_23 : decode cX7_isValue 23 = .ok (.ireturn, 1) := by decide +kernel
set_option maxRecDepth 20000 in
theorem ggX7_refusalOf_X3_firstAlike : GoodIn wsX7_refusalOf wsX3_firstAlike := goodIn_r _ [9, 10, 11, 12, 13, 8, 14, 15, 24, 25, 26] (by decide +kernel) (by decide +kernel)
set_option maxRecDepth 20000 in
theorem gX7_refusalOf_X3_firstAlike : GoodIn wsX7_refusalOf (wsV RX7 116 RX3 yX3_firstAlike wsX3_firstAlike) := goodIn_app (goodIn_of _ (by decide +kernel)) ggX7_refusalOf_X3_firstAlike
theorem dX7_refusalOf_0 : decode cX7_refusalOf 0 = .ok (.aload_n 0, 1) := by decide +kernel
theorem dX7_refusalOf_1 : decode cX7_refusalOf 1 = .ok (.getfield 28, 3) := by decide +kernel
theorem dX7_refusalOf_4 : decode cX7_refusalOf 4 = .ok (.getfield 189, 3) := by decide +kernel
theorem dX7_refusalOf_7 : decode cX7_refusalOf 7 = .ok (.iload_n 1, 1) := by decide +kernel
theorem dX7_refusalOf_8 : decode cX7_refusalOf 8 = .ok (.if_icmp .ge 5, 3) := by decide +kernel
theorem dX7_refusalOf_11 : decode cX7_refusalOf 11 = .ok (.iconst 1, 1) := by decide +kernel
theorem dX7_refusalOf_12 : decode cX7_refusalOf 12 = .ok (.ireturn, 1) := by decide +kernel
theorem dX7_refusalOf_13 : decode cX7_refusalOf 13 = .ok (.aload_n 0, 1) := by decide +kernel
theorem dX7_refusalOf_14 : decode cX7_refusalOf 14 = .ok (.getfield 28, 3) := by decide +kernel
theorem dX7_refusalOf_17 : decode cX7_refusalOf 17 = .ok (.iload_n 1, 1) := by decide +kernel
theorem dX7_refusalOf_18 : decode cX7_refusalOf 18 = .ok (.aload_n 0, 1) := by decide +kernel
theorem dX7_refusalOf_19 : decode cX7_refusalOf 19 = .ok (.getfield 42, 3) := by decide +kernel
theorem dX7_refusalOf_22 : decode cX7_refusalOf 22 = .ok (.getfield 113, 3) := by decide +kernel
theorem dX7_refusalOf_25 : decode cX7_refusalOf 25 = .ok (.bipush 7, 2) := by decide +kernel
theorem dX7_refusalOf_27 : decode cX7_refusalOf 27 = .ok (.iaload, 1) := by decide +kernel
theorem dX7_refusalOf_28 : decode cX7_refusalOf 28 = .ok (.invokevirtual 116, 3) := by decide +kernel
theorem dX7_refusalOf_31 : decode cX7_refusalOf 31 = .ok (.ifCond .lt 7, 3) := by decide +kernel
theorem dX7_refusalOf_34 : decode cX7_refusalOf 34 = .ok (.iconst 0, 1) := by decide +kernel
theorem dX7_refusalOf_35 : decode cX7_refusalOf 35 = .ok (.goto 4, 3) := by decide +kernel
theorem dX7_refusalOf_38 : decode cX7_refusalOf 38 = .ok (.iconst 2, 1) := by decide +kernel
theorem dX7_refusalOf_39 : decode cX7_refusalOf 39 = .ok (.ireturn, 1) := by decide +kernel
