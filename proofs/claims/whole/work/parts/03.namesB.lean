set_option maxRecDepth 20000 in
theorem ggX7_init_X6_init : GoodIn wsX7_init wsX6_init := goodIn_r _ [28, 29, 2, 3, 30, 31, 32, 101, 102] (by decide +kernel) (by decide +kernel)
set_option maxRecDepth 20000 in
theorem gX7_init_X6_init_n9 : GoodIn wsX7_init (wsX6_init) := ggX7_init_X6_init
set_option maxRecDepth 20000 in
theorem ggX7_init_X0_init : GoodIn wsX7_init wsX0_init := goodIn_r _ [35, 36, 2, 3, 37, 38, 39, 40, 41, 42, 43, 44, 45, 111, 112, 113, 114, 115, 116, 117, 118] (by decide +kernel) (by decide +kernel)
set_option maxRecDepth 20000 in
theorem gX7_init_X0_init : GoodIn wsX7_init (wsX0_init) := ggX7_init_X0_init
set_option maxRecDepth 20000 in
theorem ggX7_init_X3_init : GoodIn wsX7_init wsX3_init := goodIn_r _ [47, 48, 2, 3, 37, 49, 50, 51, 119, 120, 121] (by decide +kernel) (by decide +kernel)
set_option maxRecDepth 20000 in
theorem gX7_init_X3_init_n27 : GoodIn wsX7_init (wsX3_init) := ggX7_init_X3_init
set_option maxRecDepth 20000 in
theorem ggX7_init_X2_init : GoodIn wsX7_init wsX2_init := goodIn_r _ [54, 55, 2, 3, 56, 57, 58, 21, 22, 59, 60, 61, 62, 63, 64, 65, 66, 67, 68, 69, 70, 71, 72, 73, 74, 75, 76, 77, 78, 79, 80, 81, 82, 83, 84, 37, 85, 86, 87, 88, 89, 90, 91, 92, 93, 94, 95, 96, 97, 98, 99, 100, 122, 123, 124, 125, 126, 127, 128, 129, 130, 131, 132, 133, 134, 135, 136, 137, 138, 139, 140, 141, 142, 143, 144] (by decide +kernel) (by decide +kernel)
set_option maxRecDepth 20000 in
theorem gX7_init_X2_init : GoodIn wsX7_init (wsX2_init) := ggX7_init_X2_init
set_option maxRecDepth 20000 in
theorem ggX7_init_X5_init : GoodIn wsX7_init wsX5_init := goodIn_r _ [60, 61, 2, 3, 62, 63, 64, 65, 66, 67, 68, 69, 70, 71, 72, 73, 74, 75, 76, 77, 78, 79, 80, 81, 82, 83, 84, 37, 85, 86, 87, 88, 89, 90, 91, 92, 93, 94, 95, 96, 97, 98, 99, 100, 132, 133, 134, 135, 136, 137, 138, 124, 125, 126, 127, 128, 129, 130, 131, 139, 140, 141, 142, 143, 144] (by decide +kernel) (by decide +kernel)
set_option maxRecDepth 20000 in
theorem gX7_init_X5_init_n41 : GoodIn wsX7_init (wsX5_init) := ggX7_init_X5_init
theorem dX7_init_0 : decode cX7_init 0 = .ok (.aload_n 0, 1) := by decide +kernel
theorem dX7_init_1 : decode cX7_init 1 = .ok (.invokespecial 1, 3) := by decide +kernel
theorem dX7_init_4 : decode cX7_init 4 = .ok (.aload_n 0, 1) := by decide +kernel
theorem dX7_init_5 : decode cX7_init 5 = .ok (.new 7, 3) := by decide +kernel
theorem dX7_init_8 : decode cX7_init 8 = .ok (.dup, 1) := by decide +kernel
theorem dX7_init_9 : decode cX7_init 9 = .ok (.invokespecial 9, 3) := by decide +kernel
theorem dX7_init_12 : decode cX7_init 12 = .ok (.putfield 10, 3) := by decide +kernel
theorem dX7_init_15 : decode cX7_init 15 = .ok (.aload_n 0, 1) := by decide +kernel
theorem dX7_init_16 : decode cX7_init 16 = .ok (.new 16, 3) := by decide +kernel
theorem dX7_init_19 : decode cX7_init 19 = .ok (.dup, 1) := by decide +kernel
theorem dX7_init_20 : decode cX7_init 20 = .ok (.aload_n 0, 1) := by decide +kernel
theorem dX7_init_21 : decode cX7_init 21 = .ok (.getfield 10, 3) := by decide +kernel
theorem dX7_init_24 : decode cX7_init 24 = .ok (.invokespecial 18, 3) := by decide +kernel
theorem dX7_init_27 : decode cX7_init 27 = .ok (.putfield 21, 3) := by decide +kernel
theorem dX7_init_30 : decode cX7_init 30 = .ok (.aload_n 0, 1) := by decide +kernel
theorem dX7_init_31 : decode cX7_init 31 = .ok (.new 25, 3) := by decide +kernel
theorem dX7_init_34 : decode cX7_init 34 = .ok (.dup, 1) := by decide +kernel
theorem dX7_init_35 : decode cX7_init 35 = .ok (.invokespecial 27, 3) := by decide +kernel
theorem dX7_init_38 : decode cX7_init 38 = .ok (.putfield 28, 3) := by decide +kernel
theorem dX7_init_41 : decode cX7_init 41 = .ok (.aload_n 0, 1) := by decide +kernel
theorem dX7_init_42 : decode cX7_init 42 = .ok (.new 32, 3) := by decide +kernel
theorem dX7_init_45 : decode cX7_init 45 = .ok (.dup, 1) := by decide +kernel
theorem dX7_init_46 : decode cX7_init 46 = .ok (.invokespecial 34, 3) := by decide +kernel
theorem dX7_init_49 : decode cX7_init 49 = .ok (.putfield 35, 3) := by decide +kernel
theorem dX7_init_52 : decode cX7_init 52 = .ok (.aload_n 0, 1) := by decide +kernel
theorem dX7_init_53 : decode cX7_init 53 = .ok (.new 39, 3) := by decide +kernel
theorem dX7_init_56 : decode cX7_init 56 = .ok (.dup, 1) := by decide +kernel
theorem dX7_init_57 : decode cX7_init 57 = .ok (.invokespecial 41, 3) := by decide +kernel
theorem dX7_init_60 : decode cX7_init 60 = .ok (.putfield 42, 3) := by decide +kernel
theorem dX7_init_63 : decode cX7_init 63 = .ok (.aload_n 0, 1) := by decide +kernel
theorem dX7_init_64 : decode cX7_init 64 = .ok (.new 39, 3) := by decide +kernel
theorem dX7_init_67 : decode cX7_init 67 = .ok (.dup, 1) := by decide +kernel
theorem dX7_init_68 : decode cX7_init 68 = .ok (.invokespecial 41, 3) := by decide +kernel
theorem dX7_init_71 : decode cX7_init 71 = .ok (.putfield 46, 3) := by decide +kernel
theorem dX7_init_74 : decode cX7_init 74 = .ok (.aload_n 0, 1) := by decide +kernel
theorem dX7_init_75 : decode cX7_init 75 = .ok (.new 39, 3) := by decide +kernel
theorem dX7_init_78 : decode cX7_init 78 = .ok (.dup, 1) := by decide +kernel
theorem dX7_init_79 : decode cX7_init 79 = .ok (.invokespecial 41, 3) := by decide +kernel
theorem dX7_init_82 : decode cX7_init 82 = .ok (.putfield 49, 3) := by decide +kernel
theorem dX7_init_85 : decode cX7_init 85 = .ok (.aload_n 0, 1) := by decide +kernel
theorem dX7_init_86 : decode cX7_init 86 = .ok (.iconst 0, 1) := by decide +kernel
theorem dX7_init_87 : decode cX7_init 87 = .ok (.putfield 52, 3) := by decide +kernel
theorem dX7_init_90 : decode cX7_init 90 = .ok (.return_, 1) := by decide +kernel
set_option maxRecDepth 20000 in
theorem ggX7_read_X0_parse : GoodIn wsX7_read wsX0_parse := goodIn_r _ [11, 12, 13, 14, 15, 16, 17, 18, 10, 19, 20, 21, 22, 23, 24, 25, 26, 27, 28, 29, 30, 31, 32, 33, 34, 35, 36, 37, 38, 39, 40, 41, 154, 155, 156, 157, 158, 159, 160, 161, 162, 163] (by decide +kernel) (by decide +kernel)
set_option maxRecDepth 20000 in
theorem gX7_read_X0_parse : GoodIn wsX7_read (wsV RX7 56 RX0 yX0_parse wsX0_parse) := goodIn_app (goodIn_of _ (by decide +kernel)) ggX7_read_X0_parse
set_option maxRecDepth 20000 in
theorem ggX7_read_X2_remember : GoodIn wsX7_read wsX2_remember := goodIn_r _ [46, 47, 48, 49, 50, 51, 45, 52, 53, 54, 55, 56, 57, 58, 59, 60, 61, 62, 63, 64, 65, 66, 67, 68, 69, 70, 71, 72, 73, 74, 75, 76, 77, 78, 79, 80, 81, 82, 83, 84, 85, 86, 87, 88, 89, 90, 91, 92, 93, 94, 164, 165, 139, 140, 141, 142, 143, 144, 145, 146, 147, 148, 149, 150, 151, 152, 153, 166, 167, 168, 169, 170, 171] (by decide +kernel) (by decide +kernel)
set_option maxRecDepth 20000 in
theorem gX7_read_X2_remember : GoodIn wsX7_read (wsV RX7 71 RX2 yX2_remember wsX2_remember) := goodIn_app (goodIn_of _ (by decide +kernel)) ggX7_read_X2_remember
set_option maxRecDepth 20000 in
theorem ggX7_read_X5_takeIn : GoodIn wsX7_read wsX5_takeIn := goodIn_r _ [98, 58, 99, 100, 101, 102, 103, 104, 105, 106, 107, 108, 109, 110, 59, 111, 112, 113, 86, 114, 93, 92, 115, 116, 117, 118, 119, 120, 121, 122, 88, 90, 91, 94, 123, 124, 125, 126, 127, 128, 129, 130, 139, 140, 141, 142, 143, 144, 145, 146, 147, 148, 149, 150, 151, 152, 153, 154, 155, 156, 157, 158, 159, 160, 161, 166, 167, 168, 169, 170, 171] (by decide +kernel) (by decide +kernel)
set_option maxRecDepth 20000 in
theorem gX7_read_X5_takeIn : GoodIn wsX7_read (wsV RX7 75 RX5 yX5_takeIn wsX5_takeIn) := goodIn_app (goodIn_of _ (by decide +kernel)) ggX7_read_X5_takeIn
theorem dX7_read_0 : decode cX7_read 0 = .ok (.aload_n 0, 1) := by decide +kernel
theorem dX7_read_1 : decode cX7_read 1 = .ok (.getfield 21, 3) := by decide +kernel
theorem dX7_read_4 : decode cX7_read 4 = .ok (.invokevirtual 56, 3) := by decide +kernel
theorem dX7_read_7 : decode cX7_read 7 = .ok (.istore_n 1, 1) := by decide +kernel
theorem dX7_read_8 : decode cX7_read 8 = .ok (.iload_n 1, 1) := by decide +kernel
theorem dX7_read_9 : decode cX7_read 9 = .ok (.iconst (-1), 1) := by decide +kernel
theorem dX7_read_10 : decode cX7_read 10 = .ok (.if_icmp .eq 8, 3) := by decide +kernel
theorem dX7_read_13 : decode cX7_read 13 = .ok (.bipush (-100), 2) := by decide +kernel
theorem dX7_read_15 : decode cX7_read 15 = .ok (.iload_n 1, 1) := by decide +kernel
theorem dX7_read_16 : decode cX7_read 16 = .ok (.isub, 1) := by decide +kernel
theorem dX7_read_17 : decode cX7_read 17 = .ok (.ireturn, 1) := by decide +kernel
theorem dX7_read_18 : decode cX7_read 18 = .ok (.aload_n 0, 1) := by decide +kernel
theorem dX7_read_19 : decode cX7_read 19 = .ok (.getfield 42, 3) := by decide +kernel
theorem dX7_read_22 : decode cX7_read 22 = .ok (.getfield 60, 3) := by decide +kernel
theorem dX7_read_25 : decode cX7_read 25 = .ok (.getfield 64, 3) := by decide +kernel
theorem dX7_read_28 : decode cX7_read 28 = .ok (.aload_n 0, 1) := by decide +kernel
theorem dX7_read_29 : decode cX7_read 29 = .ok (.getfield 21, 3) := by decide +kernel
theorem dX7_read_32 : decode cX7_read 32 = .ok (.getfield 70, 3) := by decide +kernel
theorem dX7_read_35 : decode cX7_read 35 = .ok (.iadd, 1) := by decide +kernel
theorem dX7_read_36 : decode cX7_read 36 = .ok (.bipush 40, 2) := by decide +kernel
theorem dX7_read_38 : decode cX7_read 38 = .ok (.if_icmp .le 6, 3) := by decide +kernel
theorem dX7_read_41 : decode cX7_read 41 = .ok (.bipush (-3), 2) := by decide +kernel
theorem dX7_read_43 : decode cX7_read 43 = .ok (.ireturn, 1) := by decide +kernel
theorem dX7_read_44 : decode cX7_read 44 = .ok (.aload_n 0, 1) := by decide +kernel
theorem dX7_read_45 : decode cX7_read 45 = .ok (.getfield 35, 3) := by decide +kernel
theorem dX7_read_48 : decode cX7_read 48 = .ok (.aload_n 0, 1) := by decide +kernel
theorem dX7_read_49 : decode cX7_read 49 = .ok (.getfield 42, 3) := by decide +kernel
theorem dX7_read_52 : decode cX7_read 52 = .ok (.invokevirtual 71, 3) := by decide +kernel
theorem dX7_read_55 : decode cX7_read 55 = .ok (.iconst 0, 1) := by decide +kernel
theorem dX7_read_56 : decode cX7_read 56 = .ok (.istore_n 2, 1) := by decide +kernel
theorem dX7_read_57 : decode cX7_read 57 = .ok (.iload_n 2, 1) := by decide +kernel
theorem dX7_read_58 : decode cX7_read 58 = .ok (.aload_n 0, 1) := by decide +kernel
theorem dX7_read_59 : decode cX7_read 59 = .ok (.getfield 21, 3) := by decide +kernel
theorem dX7_read_62 : decode cX7_read 62 = .ok (.getfield 70, 3) := by decide +kernel
theorem dX7_read_65 : decode cX7_read 65 = .ok (.if_icmp .ge 21, 3) := by decide +kernel
theorem dX7_read_68 : decode cX7_read 68 = .ok (.aload_n 0, 1) := by decide +kernel
theorem dX7_read_69 : decode cX7_read 69 = .ok (.getfield 42, 3) := by decide +kernel
theorem dX7_read_72 : decode cX7_read 72 = .ok (.aload_n 0, 1) := by decide +kernel
theorem dX7_read_73 : decode cX7_read 73 = .ok (.getfield 21, 3) := by decide +kernel
theorem dX7_read_76 : decode cX7_read 76 = .ok (.iload_n 2, 1) := by decide +kernel
theorem dX7_read_77 : decode cX7_read 77 = .ok (.invokevirtual 75, 3) := by decide +kernel
theorem dX7_read_80 : decode cX7_read 80 = .ok (.iinc 2 1, 3) := by decide +kernel
theorem dX7_read_83 : decode cX7_read 83 = .ok (.goto (-26), 3) := by decide +kernel
theorem dX7_read_86 : decode cX7_read 86 = .ok (.aload_n 0, 1) := by decide +kernel
theorem dX7_read_87 : decode cX7_read 87 = .ok (.getfield 21, 3) := by decide +kernel
theorem dX7_read_90 : decode cX7_read 90 = .ok (.getfield 70, 3) := by decide +kernel
theorem dX7_read_93 : decode cX7_read 93 = .ok (.ireturn, 1) := by decide +kernel
set_option maxRecDepth 20000 in
theorem ggX7_sort_X2_remember : GoodIn wsX7_sort wsX2_remember := goodIn_r _ [9, 10, 11, 12, 13, 14, 8, 15, 16, 17, 18, 19, 20, 21, 22, 23, 24, 25, 26, 27, 28, 29, 30, 31, 32, 33, 34, 35, 36, 37, 38, 39, 40, 41, 42, 43, 44, 45, 46, 47, 48, 49, 50, 51, 52, 53, 54, 55, 56, 57, 159, 160, 145, 146, 147, 148, 149, 150, 151, 152, 161, 162, 163, 164, 165, 166, 167, 153, 154, 155, 156, 157, 158] (by decide +kernel) (by decide +kernel)
set_option maxRecDepth 20000 in
theorem gX7_sort_X2_remember : GoodIn wsX7_sort (wsV RX7 71 RX2 yX2_remember wsX2_remember) := goodIn_app (goodIn_of _ (by decide +kernel)) ggX7_sort_X2_remember
set_option maxRecDepth 20000 in
theorem ggX7_sort_X5_sortFirst : GoodIn wsX7_sort wsX5_sortFirst := goodIn_r _ [61, 22, 21, 62, 30, 31, 63, 64, 65, 49, 66, 56, 55, 52, 25, 26, 27, 67, 68, 69, 70, 51, 53, 57, 71, 72, 73, 74, 75, 76, 77, 78, 79, 80, 81, 36, 82, 38, 83, 84, 85, 19, 86, 87, 23, 88, 89, 90, 91, 92, 93, 94, 95, 96, 97, 98, 99, 100, 101, 102, 103, 104, 105, 106, 107, 108, 109, 110, 111, 112, 54, 113, 114, 115, 116, 117, 118, 119, 120, 121, 122, 123, 32, 124, 125, 126, 127, 43, 128, 129, 130, 131, 132, 133, 134, 135, 136, 145, 146, 147, 148, 149, 150, 151, 152, 161, 162, 163, 164, 165, 166, 167, 153, 154, 155, 156, 157, 158] (by decide +kernel) (by decide +kernel)
set_option maxRecDepth 20000 in
theorem gX7_sort_X5_sortFirst : GoodIn wsX7_sort (wsV RX7 89 RX5 yX5_sortFirst wsX5_sortFirst) := goodIn_app (goodIn_of _ (by decide +kernel)) ggX7_sort_X5_sortFirst
theorem dX7_sort_0 : decode cX7_sort 0 = .ok (.iload_n 1, 1) := by decide +kernel
theorem dX7_sort_1 : decode cX7_sort 1 = .ok (.iconst 1, 1) := by decide +kernel
theorem dX7_sort_2 : decode cX7_sort 2 = .ok (.if_icmp .lt 9, 3) := by decide +kernel
theorem dX7_sort_5 : decode cX7_sort 5 = .ok (.iload_n 1, 1) := by decide +kernel
theorem dX7_sort_6 : decode cX7_sort 6 = .ok (.bipush 99, 2) := by decide +kernel
theorem dX7_sort_8 : decode cX7_sort 8 = .ok (.if_icmp .le 6, 3) := by decide +kernel
theorem dX7_sort_11 : decode cX7_sort 11 = .ok (.bipush (-2), 2) := by decide +kernel
theorem dX7_sort_13 : decode cX7_sort 13 = .ok (.ireturn, 1) := by decide +kernel
theorem dX7_sort_14 : decode cX7_sort 14 = .ok (.aload_n 0, 1) := by decide +kernel
theorem dX7_sort_15 : decode cX7_sort 15 = .ok (.getfield 42, 3) := by decide +kernel
theorem dX7_sort_18 : decode cX7_sort 18 = .ok (.getfield 79, 3) := by decide +kernel
theorem dX7_sort_21 : decode cX7_sort 21 = .ok (.getfield 83, 3) := by decide +kernel
theorem dX7_sort_24 : decode cX7_sort 24 = .ok (.iconst 0, 1) := by decide +kernel
theorem dX7_sort_25 : decode cX7_sort 25 = .ok (.iaload, 1) := by decide +kernel
theorem dX7_sort_26 : decode cX7_sort 26 = .ok (.ifCond .ne 6, 3) := by decide +kernel
theorem dX7_sort_29 : decode cX7_sort 29 = .ok (.bipush (-5), 2) := by decide +kernel
theorem dX7_sort_31 : decode cX7_sort 31 = .ok (.ireturn, 1) := by decide +kernel
theorem dX7_sort_32 : decode cX7_sort 32 = .ok (.aload_n 0, 1) := by decide +kernel
theorem dX7_sort_33 : decode cX7_sort 33 = .ok (.getfield 35, 3) := by decide +kernel
theorem dX7_sort_36 : decode cX7_sort 36 = .ok (.aload_n 0, 1) := by decide +kernel
theorem dX7_sort_37 : decode cX7_sort 37 = .ok (.getfield 42, 3) := by decide +kernel
theorem dX7_sort_40 : decode cX7_sort 40 = .ok (.invokevirtual 71, 3) := by decide +kernel
theorem dX7_sort_43 : decode cX7_sort 43 = .ok (.iconst 0, 1) := by decide +kernel
theorem dX7_sort_44 : decode cX7_sort 44 = .ok (.istore_n 2, 1) := by decide +kernel
theorem dX7_sort_45 : decode cX7_sort 45 = .ok (.iload_n 2, 1) := by decide +kernel
theorem dX7_sort_46 : decode cX7_sort 46 = .ok (.iload_n 1, 1) := by decide +kernel
theorem dX7_sort_47 : decode cX7_sort 47 = .ok (.if_icmp .ge 31, 3) := by decide +kernel
theorem dX7_sort_50 : decode cX7_sort 50 = .ok (.aload_n 0, 1) := by decide +kernel
theorem dX7_sort_51 : decode cX7_sort 51 = .ok (.getfield 42, 3) := by decide +kernel
theorem dX7_sort_54 : decode cX7_sort 54 = .ok (.getfield 79, 3) := by decide +kernel
theorem dX7_sort_57 : decode cX7_sort 57 = .ok (.getfield 83, 3) := by decide +kernel
theorem dX7_sort_60 : decode cX7_sort 60 = .ok (.iconst 0, 1) := by decide +kernel
theorem dX7_sort_61 : decode cX7_sort 61 = .ok (.iaload, 1) := by decide +kernel
theorem dX7_sort_62 : decode cX7_sort 62 = .ok (.ifCond .le 16, 3) := by decide +kernel
theorem dX7_sort_65 : decode cX7_sort 65 = .ok (.aload_n 0, 1) := by decide +kernel
theorem dX7_sort_66 : decode cX7_sort 66 = .ok (.getfield 42, 3) := by decide +kernel
theorem dX7_sort_69 : decode cX7_sort 69 = .ok (.invokevirtual 89, 3) := by decide +kernel
theorem dX7_sort_72 : decode cX7_sort 72 = .ok (.iinc 2 1, 3) := by decide +kernel
theorem dX7_sort_75 : decode cX7_sort 75 = .ok (.goto (-30), 3) := by decide +kernel
theorem dX7_sort_78 : decode cX7_sort 78 = .ok (.iload_n 2, 1) := by decide +kernel
theorem dX7_sort_79 : decode cX7_sort 79 = .ok (.ireturn, 1) := by decide +kernel
set_option maxRecDepth 20000 in
theorem ggX7_letGo_X2_remember : GoodIn wsX7_letGo wsX2_remember := goodIn_r _ [9, 10, 11, 12, 13, 14, 8, 15, 16, 17, 18, 19, 20, 21, 22, 23, 24, 25, 26, 27, 28, 29, 30, 31, 32, 33, 34, 35, 36, 37, 38, 39, 40, 41, 42, 43, 44, 45, 46, 47, 48, 49, 50, 51, 52, 53, 54, 55, 56, 57, 106, 107, 92, 93, 94, 95, 96, 97, 98, 99, 108, 109, 110, 111, 112, 113, 114, 100, 101, 102, 103, 104, 105] (by decide +kernel) (by decide +kernel)
set_option maxRecDepth 20000 in
theorem gX7_letGo_X2_remember : GoodIn wsX7_letGo (wsV RX7 71 RX2 yX2_remember wsX2_remember) := goodIn_app (goodIn_of _ (by decide +kernel)) ggX7_letGo_X2_remember
set_option maxRecDepth 20000 in
theorem ggX7_letGo_X5_emptyMagnet : GoodIn wsX7_letGo wsX5_emptyMagnet := goodIn_r _ [61, 21, 62, 22, 63, 64, 65, 66, 49, 67, 51, 56, 53, 57, 68, 69, 70, 71, 72, 73, 74, 75, 76, 77, 78, 79, 80, 81, 82, 83, 54, 92, 93, 94, 95, 96, 97, 98, 99, 108, 109, 110, 111, 112, 113, 114, 100, 101, 102, 103, 104, 105] (by decide +kernel) (by decide +kernel)
set_option maxRecDepth 20000 in
theorem gX7_letGo_X5_emptyMagnet : GoodIn wsX7_letGo (wsV RX7 92 RX5 yX5_emptyMagnet wsX5_emptyMagnet) := goodIn_app (goodIn_of _ (by decide +kernel)) ggX7_letGo_X5_emptyMagnet
theorem dX7_letGo_0 : decode cX7_letGo 0 = .ok (.aload_n 0, 1) := by decide +kernel
theorem dX7_letGo_1 : decode cX7_letGo 1 = .ok (.getfield 42, 3) := by decide +kernel
theorem dX7_letGo_4 : decode cX7_letGo 4 = .ok (.getfield 79, 3) := by decide +kernel
theorem dX7_letGo_7 : decode cX7_letGo 7 = .ok (.getfield 83, 3) := by decide +kernel
theorem dX7_letGo_10 : decode cX7_letGo 10 = .ok (.iconst 2, 1) := by decide +kernel
theorem dX7_letGo_11 : decode cX7_letGo 11 = .ok (.iaload, 1) := by decide +kernel
theorem dX7_letGo_12 : decode cX7_letGo 12 = .ok (.istore_n 1, 1) := by decide +kernel
theorem dX7_letGo_13 : decode cX7_letGo 13 = .ok (.iload_n 1, 1) := by decide +kernel
theorem dX7_letGo_14 : decode cX7_letGo 14 = .ok (.ifCond .ne 6, 3) := by decide +kernel
theorem dX7_letGo_17 : decode cX7_letGo 17 = .ok (.bipush (-5), 2) := by decide +kernel
theorem dX7_letGo_19 : decode cX7_letGo 19 = .ok (.ireturn, 1) := by decide +kernel
theorem dX7_letGo_20 : decode cX7_letGo 20 = .ok (.aload_n 0, 1) := by decide +kernel
theorem dX7_letGo_21 : decode cX7_letGo 21 = .ok (.getfield 35, 3) := by decide +kernel
theorem dX7_letGo_24 : decode cX7_letGo 24 = .ok (.aload_n 0, 1) := by decide +kernel
theorem dX7_letGo_25 : decode cX7_letGo 25 = .ok (.getfield 42, 3) := by decide +kernel
theorem dX7_letGo_28 : decode cX7_letGo 28 = .ok (.invokevirtual 71, 3) := by decide +kernel
theorem dX7_letGo_31 : decode cX7_letGo 31 = .ok (.aload_n 0, 1) := by decide +kernel
theorem dX7_letGo_32 : decode cX7_letGo 32 = .ok (.getfield 42, 3) := by decide +kernel
theorem dX7_letGo_35 : decode cX7_letGo 35 = .ok (.invokevirtual 92, 3) := by decide +kernel
theorem dX7_letGo_38 : decode cX7_letGo 38 = .ok (.iload_n 1, 1) := by decide +kernel
theorem dX7_letGo_39 : decode cX7_letGo 39 = .ok (.ireturn, 1) := by decide +kernel
set_option maxRecDepth 20000 in
theorem ggX7_pour_X7_isBin : GoodIn wsX7_pour wsX7_isBin := goodIn_r _ [8] (by decide +kernel) (by decide +kernel)
set_option maxRecDepth 20000 in
theorem gX7_pour_X7_isBin : GoodIn wsX7_pour (va_wsS RX7 95 yX7_isBin wsX7_isBin) := goodIn_app (goodIn_of _ (by decide +kernel)) ggX7_pour_X7_isBin
set_option maxRecDepth 20000 in
theorem ggX7_pour_X2_remember : GoodIn wsX7_pour wsX2_remember := goodIn_r _ [13, 14, 15, 16, 17, 18, 12, 19, 20, 21, 22, 23, 24, 25, 26, 27, 28, 29, 30, 31, 32, 33, 34, 35, 36, 37, 38, 39, 40, 41, 42, 43, 44, 45, 46, 47, 48, 49, 50, 51, 52, 53, 54, 55, 56, 57, 58, 59, 60, 61, 111, 112, 97, 98, 99, 100, 101, 102, 103, 104, 113, 114, 115, 116, 117, 118, 119, 105, 106, 107, 108, 109, 110] (by decide +kernel) (by decide +kernel)
set_option maxRecDepth 20000 in
theorem gX7_pour_X2_remember : GoodIn wsX7_pour (wsV RX7 71 RX2 yX2_remember wsX2_remember) := goodIn_app (goodIn_of _ (by decide +kernel)) ggX7_pour_X2_remember
set_option maxRecDepth 20000 in
theorem ggX7_pour_X5_emptyBin : GoodIn wsX7_pour wsX5_emptyBin := goodIn_r _ [65, 25, 66, 26, 67, 68, 69, 70, 53, 71, 55, 60, 57, 61, 72, 73, 74, 75, 7, 76, 6, 8, 77, 78, 79, 80, 59, 81, 82, 83, 84, 85, 86, 87, 88, 58, 97, 98, 99, 100, 101, 102, 103, 104, 113, 114, 115, 116, 117, 118, 119, 105, 106, 107, 108, 109, 110] (by decide +kernel) (by decide +kernel)
set_option maxRecDepth 20000 in
theorem gX7_pour_X5_emptyBin : GoodIn wsX7_pour (wsV RX7 102 RX5 yX5_emptyBin wsX5_emptyBin) := goodIn_app (goodIn_of _ (by decide +kernel)) ggX7_pour_X5_emptyBin
theorem dX7_pour_0 : decode cX7_pour 0 = .ok (.iload_n 1, 1) := by decide +kernel
theorem dX7_pour_1 : decode cX7_pour 1 = .ok (.invokestatic 95, 3) := by decide +kernel
theorem dX7_pour_4 : decode cX7_pour 4 = .ok (.ifCond .ne 5, 3) := by decide +kernel
theorem dX7_pour_7 : decode cX7_pour 7 = .ok (.iconst (-1), 1) := by decide +kernel
theorem dX7_pour_8 : decode cX7_pour 8 = .ok (.ireturn, 1) := by decide +kernel
theorem dX7_pour_9 : decode cX7_pour 9 = .ok (.aload_n 0, 1) := by decide +kernel
theorem dX7_pour_10 : decode cX7_pour 10 = .ok (.getfield 42, 3) := by decide +kernel
theorem dX7_pour_13 : decode cX7_pour 13 = .ok (.getfield 79, 3) := by decide +kernel
theorem dX7_pour_16 : decode cX7_pour 16 = .ok (.getfield 99, 3) := by decide +kernel
theorem dX7_pour_19 : decode cX7_pour 19 = .ok (.iload_n 1, 1) := by decide +kernel
theorem dX7_pour_20 : decode cX7_pour 20 = .ok (.iaload, 1) := by decide +kernel
theorem dX7_pour_21 : decode cX7_pour 21 = .ok (.istore_n 2, 1) := by decide +kernel
theorem dX7_pour_22 : decode cX7_pour 22 = .ok (.iload_n 2, 1) := by decide +kernel
theorem dX7_pour_23 : decode cX7_pour 23 = .ok (.ifCond .ne 6, 3) := by decide +kernel
theorem dX7_pour_26 : decode cX7_pour 26 = .ok (.bipush (-5), 2) := by decide +kernel
theorem dX7_pour_28 : decode cX7_pour 28 = .ok (.ireturn, 1) := by decide +kernel
theorem dX7_pour_29 : decode cX7_pour 29 = .ok (.aload_n 0, 1) := by decide +kernel
theorem dX7_pour_30 : decode cX7_pour 30 = .ok (.getfield 35, 3) := by decide +kernel
theorem dX7_pour_33 : decode cX7_pour 33 = .ok (.aload_n 0, 1) := by decide +kernel
theorem dX7_pour_34 : decode cX7_pour 34 = .ok (.getfield 42, 3) := by decide +kernel
theorem dX7_pour_37 : decode cX7_pour 37 = .ok (.invokevirtual 71, 3) := by decide +kernel
theorem dX7_pour_40 : decode cX7_pour 40 = .ok (.aload_n 0, 1) := by decide +kernel
theorem dX7_pour_41 : decode cX7_pour 41 = .ok (.getfield 42, 3) := by decide +kernel
theorem dX7_pour_44 : decode cX7_pour 44 = .ok (.iload_n 1, 1) := by decide +kernel
theorem dX7_pour_45 : decode cX7_pour 45 = .ok (.invokevirtual 102, 3) := by decide +kernel
theorem dX7_pour_48 : decode cX7_pour 48 = .ok (.iload_n 2, 1) := by decide +kernel
theorem dX7_pour_49 : decode cX7_pour 49 = .ok (.ireturn, 1) := by decide +kernel
set_option maxRecDepth 20000 in
theorem ggX7_shirt_X7_isBin : GoodIn wsX7_shirt wsX7_isBin := goodIn_r _ [8] (by decide +kernel) (by decide +kernel)
set_option maxRecDepth 20000 in
theorem gX7_shirt_X7_isBin : GoodIn wsX7_shirt (va_wsS RX7 95 yX7_isBin wsX7_isBin) := goodIn_app (goodIn_of _ (by decide +kernel)) ggX7_shirt_X7_isBin
set_option maxRecDepth 20000 in
theorem ggX7_shirt_X7_isWanted : GoodIn wsX7_shirt wsX7_isWanted := goodIn_r _ [11] (by decide +kernel) (by decide +kernel)
set_option maxRecDepth 20000 in
theorem gX7_shirt_X7_isWanted : GoodIn wsX7_shirt (va_wsS RX7 106 yX7_isWanted wsX7_isWanted) := goodIn_app (goodIn_of _ (by decide +kernel)) ggX7_shirt_X7_isWanted
set_option maxRecDepth 20000 in
theorem ggX7_shirt_X3_fill : GoodIn wsX7_shirt wsX3_fill := goodIn_r _ [16, 17, 18, 19, 20, 21, 22, 23, 24, 25, 15, 26, 27, 28, 146, 147, 148, 138, 139, 140, 141, 142, 143, 144, 145, 149, 150, 151, 152, 153, 154, 155, 156, 157, 158, 159, 160, 161] (by decide +kernel) (by decide +kernel)
set_option maxRecDepth 20000 in
theorem gX7_shirt_X3_fill : GoodIn wsX7_shirt (wsV RX7 109 RX3 yX3_fill wsX3_fill) := goodIn_app (goodIn_of _ (by decide +kernel)) ggX7_shirt_X3_fill
set_option maxRecDepth 20000 in
theorem ggX7_shirt_X3_firstAlike : GoodIn wsX7_shirt wsX3_firstAlike := goodIn_r _ [32, 17, 33, 34, 35, 15, 36, 27, 146, 147, 148] (by decide +kernel) (by decide +kernel)
set_option maxRecDepth 20000 in
theorem gX7_shirt_X3_firstAlike : GoodIn wsX7_shirt (wsV RX7 116 RX3 yX3_firstAlike wsX3_firstAlike) := goodIn_app (goodIn_of _ (by decide +kernel)) ggX7_shirt_X3_firstAlike
set_option maxRecDepth 20000 in
theorem ggX7_shirt_X7_refusalOf : GoodIn wsX7_shirt wsX7_refusalOf := goodIn_r _ [40, 1, 41, 2, 3, 29, 30, 31, 15, 32, 17, 33, 34, 35, 36, 27, 130, 131, 132, 133, 134, 135, 136, 137, 146, 147, 148, 138, 139, 140, 141, 142, 143, 144, 145] (by decide +kernel) (by decide +kernel)
set_option maxRecDepth 20000 in
theorem gX7_shirt_X7_refusalOf : GoodIn wsX7_shirt (wsV RX7 120 RX7 yX7_refusalOf wsX7_refusalOf) := goodIn_app (goodIn_of _ (by decide +kernel)) ggX7_shirt_X7_refusalOf
set_option maxRecDepth 20000 in
theorem ggX7_shirt_X2_remember : GoodIn wsX7_shirt wsX2_remember := goodIn_r _ [46, 47, 48, 49, 50, 51, 45, 52, 53, 54, 55, 56, 57, 58, 59, 60, 61, 62, 63, 64, 65, 66, 67, 68, 69, 70, 71, 72, 73, 74, 75, 76, 77, 78, 79, 80, 81, 82, 83, 84, 85, 86, 87, 88, 89, 90, 91, 92, 93, 94, 162, 163, 138, 139, 140, 141, 142, 143, 144, 145, 149, 150, 151, 152, 153, 154, 155, 156, 157, 158, 159, 160, 161] (by decide +kernel) (by decide +kernel)
set_option maxRecDepth 20000 in
theorem gX7_shirt_X2_remember : GoodIn wsX7_shirt (wsV RX7 71 RX2 yX2_remember wsX2_remember) := goodIn_app (goodIn_of _ (by decide +kernel)) ggX7_shirt_X2_remember
set_option maxRecDepth 20000 in
theorem ggX7_shirt_X5_makeShirt : GoodIn wsX7_shirt wsX5_makeShirt := goodIn_r _ [98, 58, 99, 100, 59, 65, 101, 102, 103, 104, 66, 105, 106, 107, 15, 108, 17, 28, 109, 110, 111, 73, 112, 75, 113, 114, 115, 86, 116, 88, 93, 90, 94, 117, 118, 119, 120, 7, 121, 6, 8, 122, 123, 124, 125, 126, 127, 128, 129, 91, 138, 139, 140, 141, 142, 143, 144, 145, 149, 150, 151, 152, 153, 154, 155, 146, 147, 148, 156, 157, 158, 159, 160, 161] (by decide +kernel) (by decide +kernel)
set_option maxRecDepth 20000 in
theorem gX7_shirt_X5_makeShirt : GoodIn wsX7_shirt (wsV RX7 124 RX5 yX5_makeShirt wsX5_makeShirt) := goodIn_app (goodIn_of _ (by decide +kernel)) ggX7_shirt_X5_makeShirt
theorem dX7_shirt_0 : decode cX7_shirt 0 = .ok (.iload_n 1, 1) := by decide +kernel
theorem dX7_shirt_1 : decode cX7_shirt 1 = .ok (.invokestatic 95, 3) := by decide +kernel
theorem dX7_shirt_4 : decode cX7_shirt 4 = .ok (.ifCond .ne 5, 3) := by decide +kernel
theorem dX7_shirt_7 : decode cX7_shirt 7 = .ok (.iconst (-1), 1) := by decide +kernel
theorem dX7_shirt_8 : decode cX7_shirt 8 = .ok (.ireturn, 1) := by decide +kernel
theorem dX7_shirt_9 : decode cX7_shirt 9 = .ok (.iload_n 2, 1) := by decide +kernel
theorem dX7_shirt_10 : decode cX7_shirt 10 = .ok (.invokestatic 106, 3) := by decide +kernel
theorem dX7_shirt_13 : decode cX7_shirt 13 = .ok (.ifCond .ne 6, 3) := by decide +kernel
theorem dX7_shirt_16 : decode cX7_shirt 16 = .ok (.bipush (-2), 2) := by decide +kernel
theorem dX7_shirt_18 : decode cX7_shirt 18 = .ok (.ireturn, 1) := by decide +kernel
theorem dX7_shirt_19 : decode cX7_shirt 19 = .ok (.aload_n 0, 1) := by decide +kernel
theorem dX7_shirt_20 : decode cX7_shirt 20 = .ok (.getfield 28, 3) := by decide +kernel
theorem dX7_shirt_23 : decode cX7_shirt 23 = .ok (.aload_n 0, 1) := by decide +kernel
theorem dX7_shirt_24 : decode cX7_shirt 24 = .ok (.getfield 42, 3) := by decide +kernel
theorem dX7_shirt_27 : decode cX7_shirt 27 = .ok (.iload_n 1, 1) := by decide +kernel
theorem dX7_shirt_28 : decode cX7_shirt 28 = .ok (.invokevirtual 109, 3) := by decide +kernel
theorem dX7_shirt_31 : decode cX7_shirt 31 = .ok (.aload_n 0, 1) := by decide +kernel
theorem dX7_shirt_32 : decode cX7_shirt 32 = .ok (.getfield 28, 3) := by decide +kernel
theorem dX7_shirt_35 : decode cX7_shirt 35 = .ok (.iload_n 2, 1) := by decide +kernel
theorem dX7_shirt_36 : decode cX7_shirt 36 = .ok (.aload_n 0, 1) := by decide +kernel
theorem dX7_shirt_37 : decode cX7_shirt 37 = .ok (.getfield 42, 3) := by decide +kernel
theorem dX7_shirt_40 : decode cX7_shirt 40 = .ok (.getfield 113, 3) := by decide +kernel
theorem dX7_shirt_43 : decode cX7_shirt 43 = .ok (.bipush 7, 2) := by decide +kernel
theorem dX7_shirt_45 : decode cX7_shirt 45 = .ok (.iaload, 1) := by decide +kernel
theorem dX7_shirt_46 : decode cX7_shirt 46 = .ok (.invokevirtual 116, 3) := by decide +kernel
theorem dX7_shirt_49 : decode cX7_shirt 49 = .ok (.istore_n 3, 1) := by decide +kernel
theorem dX7_shirt_50 : decode cX7_shirt 50 = .ok (.iload_n 3, 1) := by decide +kernel
theorem dX7_shirt_51 : decode cX7_shirt 51 = .ok (.ifCond .ge 12, 3) := by decide +kernel
theorem dX7_shirt_54 : decode cX7_shirt 54 = .ok (.bipush (-10), 2) := by decide +kernel
theorem dX7_shirt_56 : decode cX7_shirt 56 = .ok (.aload_n 0, 1) := by decide +kernel
theorem dX7_shirt_57 : decode cX7_shirt 57 = .ok (.iload_n 2, 1) := by decide +kernel
theorem dX7_shirt_58 : decode cX7_shirt 58 = .ok (.invokevirtual 120, 3) := by decide +kernel
theorem dX7_shirt_61 : decode cX7_shirt 61 = .ok (.isub, 1) := by decide +kernel
theorem dX7_shirt_62 : decode cX7_shirt 62 = .ok (.ireturn, 1) := by decide +kernel
theorem dX7_shirt_63 : decode cX7_shirt 63 = .ok (.aload_n 0, 1) := by decide +kernel
theorem dX7_shirt_64 : decode cX7_shirt 64 = .ok (.getfield 35, 3) := by decide +kernel
theorem dX7_shirt_67 : decode cX7_shirt 67 = .ok (.aload_n 0, 1) := by decide +kernel
theorem dX7_shirt_68 : decode cX7_shirt 68 = .ok (.getfield 42, 3) := by decide +kernel
theorem dX7_shirt_71 : decode cX7_shirt 71 = .ok (.invokevirtual 71, 3) := by decide +kernel
theorem dX7_shirt_74 : decode cX7_shirt 74 = .ok (.aload_n 0, 1) := by decide +kernel
theorem dX7_shirt_75 : decode cX7_shirt 75 = .ok (.getfield 42, 3) := by decide +kernel
theorem dX7_shirt_78 : decode cX7_shirt 78 = .ok (.aload_n 0, 1) := by decide +kernel
theorem dX7_shirt_79 : decode cX7_shirt 79 = .ok (.getfield 28, 3) := by decide +kernel
theorem dX7_shirt_82 : decode cX7_shirt 82 = .ok (.iload_n 3, 1) := by decide +kernel
theorem dX7_shirt_83 : decode cX7_shirt 83 = .ok (.iload_n 2, 1) := by decide +kernel
theorem dX7_shirt_84 : decode cX7_shirt 84 = .ok (.invokevirtual 124, 3) := by decide +kernel
theorem dX7_shirt_87 : decode cX7_shirt 87 = .ok (.ireturn, 1) := by decide +kernel
set_option maxRecDepth 20000 in
theorem ggX7_polish_X1_has : GoodIn wsX7_polish wsX1_has := goodIn_r _ [11, 12, 90, 91, 92, 93, 94, 95, 96] (by decide +kernel) (by decide +kernel)
set_option maxRecDepth 20000 in
theorem gX7_polish_X1_has : GoodIn wsX7_polish (wsV RX7 128 RX1 yX1_has wsX1_has) := goodIn_app (goodIn_of _ (by decide +kernel)) ggX7_polish_X1_has
set_option maxRecDepth 20000 in
theorem ggX7_polish_X2_remember : GoodIn wsX7_polish wsX2_remember := goodIn_r _ [17, 18, 19, 20, 21, 22, 16, 23, 24, 25, 26, 27, 28, 29, 30, 31, 32, 33, 34, 35, 36, 37, 38, 39, 40, 41, 42, 43, 10, 44, 12, 45, 46, 47, 48, 49, 50, 51, 52, 53, 54, 55, 56, 57, 58, 59, 60, 61, 62, 63, 97, 98, 76, 77, 78, 79, 80, 81, 82, 83, 90, 91, 92, 93, 94, 95, 96, 84, 85, 86, 87, 88, 89] (by decide +kernel) (by decide +kernel)
set_option maxRecDepth 20000 in
theorem gX7_polish_X2_remember : GoodIn wsX7_polish (wsV RX7 71 RX2 yX2_remember wsX2_remember) := goodIn_app (goodIn_of _ (by decide +kernel)) ggX7_polish_X2_remember
set_option maxRecDepth 20000 in
theorem ggX7_polish_X1_brighten : GoodIn wsX7_polish wsX1_brighten := goodIn_r _ [67, 50, 49, 90, 91, 92, 93, 94, 95, 96] (by decide +kernel) (by decide +kernel)
set_option maxRecDepth 20000 in
theorem gX7_polish_X1_brighten : GoodIn wsX7_polish (wsV RX7 137 RX1 yX1_brighten wsX1_brighten) := goodIn_app (goodIn_of _ (by decide +kernel)) ggX7_polish_X1_brighten
theorem dX7_polish_0 : decode cX7_polish 0 = .ok (.aload_n 0, 1) := by decide +kernel
theorem dX7_polish_1 : decode cX7_polish 1 = .ok (.getfield 42, 3) := by decide +kernel
theorem dX7_polish_4 : decode cX7_polish 4 = .ok (.getfield 60, 3) := by decide +kernel
theorem dX7_polish_7 : decode cX7_polish 7 = .ok (.iload_n 1, 1) := by decide +kernel
theorem dX7_polish_8 : decode cX7_polish 8 = .ok (.invokevirtual 128, 3) := by decide +kernel
theorem dX7_polish_11 : decode cX7_polish 11 = .ok (.ifCond .ne 5, 3) := by decide +kernel
theorem dX7_polish_14 : decode cX7_polish 14 = .ok (.iconst (-1), 1) := by decide +kernel
theorem dX7_polish_15 : decode cX7_polish 15 = .ok (.ireturn, 1) := by decide +kernel
theorem dX7_polish_16 : decode cX7_polish 16 = .ok (.aload_n 0, 1) := by decide +kernel
theorem dX7_polish_17 : decode cX7_polish 17 = .ok (.getfield 42, 3) := by decide +kernel
theorem dX7_polish_20 : decode cX7_polish 20 = .ok (.getfield 79, 3) := by decide +kernel
theorem dX7_polish_23 : decode cX7_polish 23 = .ok (.getfield 131, 3) := by decide +kernel
theorem dX7_polish_26 : decode cX7_polish 26 = .ok (.iload_n 1, 1) := by decide +kernel
theorem dX7_polish_27 : decode cX7_polish 27 = .ok (.iaload, 1) := by decide +kernel
theorem dX7_polish_28 : decode cX7_polish 28 = .ok (.bipush 6, 2) := by decide +kernel
theorem dX7_polish_30 : decode cX7_polish 30 = .ok (.if_icmp .eq 20, 3) := by decide +kernel
theorem dX7_polish_33 : decode cX7_polish 33 = .ok (.aload_n 0, 1) := by decide +kernel
theorem dX7_polish_34 : decode cX7_polish 34 = .ok (.getfield 42, 3) := by decide +kernel
theorem dX7_polish_37 : decode cX7_polish 37 = .ok (.getfield 60, 3) := by decide +kernel
theorem dX7_polish_40 : decode cX7_polish 40 = .ok (.getfield 134, 3) := by decide +kernel
theorem dX7_polish_43 : decode cX7_polish 43 = .ok (.iload_n 1, 1) := by decide +kernel
theorem dX7_polish_44 : decode cX7_polish 44 = .ok (.iaload, 1) := by decide +kernel
theorem dX7_polish_45 : decode cX7_polish 45 = .ok (.bipush 9, 2) := by decide +kernel
theorem dX7_polish_47 : decode cX7_polish 47 = .ok (.if_icmp .lt 6, 3) := by decide +kernel
theorem dX7_polish_50 : decode cX7_polish 50 = .ok (.bipush (-4), 2) := by decide +kernel
theorem dX7_polish_52 : decode cX7_polish 52 = .ok (.ireturn, 1) := by decide +kernel
theorem dX7_polish_53 : decode cX7_polish 53 = .ok (.aload_n 0, 1) := by decide +kernel
theorem dX7_polish_54 : decode cX7_polish 54 = .ok (.getfield 35, 3) := by decide +kernel
theorem dX7_polish_57 : decode cX7_polish 57 = .ok (.aload_n 0, 1) := by decide +kernel
theorem dX7_polish_58 : decode cX7_polish 58 = .ok (.getfield 42, 3) := by decide +kernel
theorem dX7_polish_61 : decode cX7_polish 61 = .ok (.invokevirtual 71, 3) := by decide +kernel
theorem dX7_polish_64 : decode cX7_polish 64 = .ok (.aload_n 0, 1) := by decide +kernel
theorem dX7_polish_65 : decode cX7_polish 65 = .ok (.getfield 42, 3) := by decide +kernel
theorem dX7_polish_68 : decode cX7_polish 68 = .ok (.getfield 60, 3) := by decide +kernel
theorem dX7_polish_71 : decode cX7_polish 71 = .ok (.iload_n 1, 1) := by decide +kernel
theorem dX7_polish_72 : decode cX7_polish 72 = .ok (.invokevirtual 137, 3) := by decide +kernel
theorem dX7_polish_75 : decode cX7_polish 75 = .ok (.aload_n 0, 1) := by decide +kernel
theorem dX7_polish_76 : decode cX7_polish 76 = .ok (.getfield 42, 3) := by decide +kernel
theorem dX7_polish_79 : decode cX7_polish 79 = .ok (.getfield 60, 3) := by decide +kernel
theorem dX7_polish_82 : decode cX7_polish 82 = .ok (.getfield 134, 3) := by decide +kernel
theorem dX7_polish_85 : decode cX7_polish 85 = .ok (.iload_n 1, 1) := by decide +kernel
theorem dX7_polish_86 : decode cX7_polish 86 = .ok (.iaload, 1) := by decide +kernel
theorem dX7_polish_87 : decode cX7_polish 87 = .ok (.ireturn, 1) := by decide +kernel
set_option maxRecDepth 20000 in
theorem ggX7_set_X7_isValue : GoodIn wsX7_set wsX7_isValue := goodIn_r _ [7, 8, 9] (by decide +kernel) (by decide +kernel)
set_option maxRecDepth 20000 in
theorem gX7_set_X7_isValue : GoodIn wsX7_set (va_wsS RX7 140 yX7_isValue wsX7_isValue) := goodIn_app (goodIn_of _ (by decide +kernel)) ggX7_set_X7_isValue
set_option maxRecDepth 20000 in
theorem ggX7_set_X5_meshesAllow : GoodIn wsX7_set wsX5_meshesAllow := goodIn_r _ [14, 15, 75, 76, 77, 78, 79, 80, 81, 82] (by decide +kernel) (by decide +kernel)
set_option maxRecDepth 20000 in
theorem gX7_set_X5_meshesAllow : GoodIn wsX7_set (wsV RX7 144 RX5 yX5_meshesAllow wsX5_meshesAllow) := goodIn_app (goodIn_of _ (by decide +kernel)) ggX7_set_X5_meshesAllow
set_option maxRecDepth 20000 in
theorem ggX7_set_X2_remember : GoodIn wsX7_set wsX2_remember := goodIn_r _ [20, 21, 22, 23, 24, 25, 19, 26, 27, 28, 29, 13, 30, 31, 32, 15, 33, 34, 35, 36, 37, 38, 39, 40, 41, 42, 43, 44, 45, 46, 47, 48, 49, 50, 51, 52, 53, 54, 55, 56, 57, 58, 59, 60, 61, 62, 63, 64, 65, 66, 83, 84, 75, 76, 77, 78, 79, 80, 81, 82, 85, 86, 87, 88, 89, 90, 91, 92, 93, 94, 95, 96, 97] (by decide +kernel) (by decide +kernel)
set_option maxRecDepth 20000 in
theorem gX7_set_X2_remember : GoodIn wsX7_set (wsV RX7 71 RX2 yX2_remember wsX2_remember) := goodIn_app (goodIn_of _ (by decide +kernel)) ggX7_set_X2_remember
theorem dX7_set_0 : decode cX7_set 0 = .ok (.iload_n 1, 1) := by decide +kernel
theorem dX7_set_1 : decode cX7_set 1 = .ok (.ifCond .lt 9, 3) := by decide +kernel
theorem dX7_set_4 : decode cX7_set 4 = .ok (.iload_n 1, 1) := by decide +kernel
theorem dX7_set_5 : decode cX7_set 5 = .ok (.bipush 8, 2) := by decide +kernel
theorem dX7_set_7 : decode cX7_set 7 = .ok (.if_icmp .lt 5, 3) := by decide +kernel
theorem dX7_set_10 : decode cX7_set 10 = .ok (.iconst (-1), 1) := by decide +kernel
theorem dX7_set_11 : decode cX7_set 11 = .ok (.ireturn, 1) := by decide +kernel
theorem dX7_set_12 : decode cX7_set 12 = .ok (.iload_n 1, 1) := by decide +kernel
theorem dX7_set_13 : decode cX7_set 13 = .ok (.iload_n 2, 1) := by decide +kernel
theorem dX7_set_14 : decode cX7_set 14 = .ok (.invokestatic 140, 3) := by decide +kernel
theorem dX7_set_17 : decode cX7_set 17 = .ok (.ifCond .ne 6, 3) := by decide +kernel
theorem dX7_set_20 : decode cX7_set 20 = .ok (.bipush (-2), 2) := by decide +kernel
theorem dX7_set_22 : decode cX7_set 22 = .ok (.ireturn, 1) := by decide +kernel
theorem dX7_set_23 : decode cX7_set 23 = .ok (.aload_n 0, 1) := by decide +kernel
theorem dX7_set_24 : decode cX7_set 24 = .ok (.getfield 42, 3) := by decide +kernel
theorem dX7_set_27 : decode cX7_set 27 = .ok (.iload_n 1, 1) := by decide +kernel
theorem dX7_set_28 : decode cX7_set 28 = .ok (.iload_n 2, 1) := by decide +kernel
theorem dX7_set_29 : decode cX7_set 29 = .ok (.invokevirtual 144, 3) := by decide +kernel
theorem dX7_set_32 : decode cX7_set 32 = .ok (.ifCond .ne 6, 3) := by decide +kernel
theorem dX7_set_35 : decode cX7_set 35 = .ok (.bipush (-4), 2) := by decide +kernel
theorem dX7_set_37 : decode cX7_set 37 = .ok (.ireturn, 1) := by decide +kernel
theorem dX7_set_38 : decode cX7_set 38 = .ok (.aload_n 0, 1) := by decide +kernel
theorem dX7_set_39 : decode cX7_set 39 = .ok (.getfield 42, 3) := by decide +kernel
theorem dX7_set_42 : decode cX7_set 42 = .ok (.getfield 113, 3) := by decide +kernel
theorem dX7_set_45 : decode cX7_set 45 = .ok (.iload_n 1, 1) := by decide +kernel
theorem dX7_set_46 : decode cX7_set 46 = .ok (.iaload, 1) := by decide +kernel
theorem dX7_set_47 : decode cX7_set 47 = .ok (.istore_n 3, 1) := by decide +kernel
theorem dX7_set_48 : decode cX7_set 48 = .ok (.iload_n 3, 1) := by decide +kernel
theorem dX7_set_49 : decode cX7_set 49 = .ok (.iload_n 2, 1) := by decide +kernel
theorem dX7_set_50 : decode cX7_set 50 = .ok (.if_icmp .ne 6, 3) := by decide +kernel
theorem dX7_set_53 : decode cX7_set 53 = .ok (.bipush (-5), 2) := by decide +kernel
theorem dX7_set_55 : decode cX7_set 55 = .ok (.ireturn, 1) := by decide +kernel
theorem dX7_set_56 : decode cX7_set 56 = .ok (.aload_n 0, 1) := by decide +kernel
theorem dX7_set_57 : decode cX7_set 57 = .ok (.getfield 35, 3) := by decide +kernel
theorem dX7_set_60 : decode cX7_set 60 = .ok (.aload_n 0, 1) := by decide +kernel
theorem dX7_set_61 : decode cX7_set 61 = .ok (.getfield 42, 3) := by decide +kernel
theorem dX7_set_64 : decode cX7_set 64 = .ok (.invokevirtual 71, 3) := by decide +kernel
theorem dX7_set_67 : decode cX7_set 67 = .ok (.aload_n 0, 1) := by decide +kernel
theorem dX7_set_68 : decode cX7_set 68 = .ok (.getfield 42, 3) := by decide +kernel
theorem dX7_set_71 : decode cX7_set 71 = .ok (.getfield 113, 3) := by decide +kernel
theorem dX7_set_74 : decode cX7_set 74 = .ok (.iload_n 1, 1) := by decide +kernel
theorem dX7_set_75 : decode cX7_set 75 = .ok (.iload_n 2, 1) := by decide +kernel
theorem dX7_set_76 : decode cX7_set 76 = .ok (.iastore, 1) := by decide +kernel
theorem dX7_set_77 : decode cX7_set 77 = .ok (.iload_n 3, 1) := by decide +kernel
theorem dX7_set_78 : decode cX7_set 78 = .ok (.ireturn, 1) := by decide +kernel
set_option maxRecDepth 20000 in
theorem ggX7_type_X6_append : GoodIn wsX7_type wsX6_append := goodIn_r _ [7, 8, 9, 18, 19] (by decide +kernel) (by decide +kernel)
set_option maxRecDepth 20000 in
theorem gX7_type_X6_append : GoodIn wsX7_type (wsV RX7 147 RX6 yX6_append wsX6_append) := goodIn_app (goodIn_of _ (by decide +kernel)) ggX7_type_X6_append
theorem dX7_type_0 : decode cX7_type 0 = .ok (.aload_n 0, 1) := by decide +kernel
theorem dX7_type_1 : decode cX7_type 1 = .ok (.getfield 10, 3) := by decide +kernel
theorem dX7_type_4 : decode cX7_type 4 = .ok (.iload_n 1, 1) := by decide +kernel
theorem dX7_type_5 : decode cX7_type 5 = .ok (.invokevirtual 147, 3) := by decide +kernel
theorem dX7_type_8 : decode cX7_type 8 = .ok (.ifCond .eq 13, 3) := by decide +kernel
theorem dX7_type_11 : decode cX7_type 11 = .ok (.aload_n 0, 1) := by decide +kernel
theorem dX7_type_12 : decode cX7_type 12 = .ok (.getfield 10, 3) := by decide +kernel
theorem dX7_type_15 : decode cX7_type 15 = .ok (.getfield 151, 3) := by decide +kernel
theorem dX7_type_18 : decode cX7_type 18 = .ok (.goto 5, 3) := by decide +kernel
theorem dX7_type_21 : decode cX7_type 21 = .ok (.bipush (-3), 2) := by decide +kernel
theorem dX7_type_23 : decode cX7_type 23 = .ok (.ireturn, 1) := by decide +kernel
theorem dX7_clearText_0 : decode cX7_clearText 0 = .ok (.aload_n 0, 1) := by decide +kernel
theorem dX7_clearText_1 : decode cX7_clearText 1 = .ok (.getfield 10, 3) := by decide +kernel
theorem dX7_clearText_4 : decode cX7_clearText 4 = .ok (.getfield 151, 3) := by decide +kernel
theorem dX7_clearText_7 : decode cX7_clearText 7 = .ok (.istore_n 1, 1) := by decide +kernel
theorem dX7_clearText_8 : decode cX7_clearText 8 = .ok (.aload_n 0, 1) := by decide +kernel
theorem dX7_clearText_9 : decode cX7_clearText 9 = .ok (.getfield 10, 3) := by decide +kernel
theorem dX7_clearText_12 : decode cX7_clearText 12 = .ok (.iconst 0, 1) := by decide +kernel
theorem dX7_clearText_13 : decode cX7_clearText 13 = .ok (.putfield 151, 3) := by decide +kernel
theorem dX7_clearText_16 : decode cX7_clearText 16 = .ok (.iload_n 1, 1) := by decide +kernel
theorem dX7_clearText_17 : decode cX7_clearText 17 = .ok (.ireturn, 1) := by decide +kernel
set_option maxRecDepth 20000 in
theorem ggX7_undo_X2_takeBack : GoodIn wsX7_undo wsX2_takeBack := goodIn_r _ [8, 9, 10, 11, 12, 13, 14, 15, 16, 17, 18, 19, 20, 21, 22, 23, 24, 25, 26, 27, 28, 29, 30, 31, 32, 33, 34, 35, 36, 37, 38, 39, 40, 41, 42, 43, 44, 45, 46, 47, 48, 49, 50, 51, 52, 61, 62, 63, 64, 65, 66, 67, 68, 69, 70, 71, 72, 73, 74, 75, 76, 77, 78, 79, 80, 81, 82, 83] (by decide +kernel) (by decide +kernel)
set_option maxRecDepth 20000 in
theorem gX7_undo_X2_takeBack : GoodIn wsX7_undo (wsV RX7 154 RX2 yX2_takeBack wsX2_takeBack) := goodIn_app (goodIn_of _ (by decide +kernel)) ggX7_undo_X2_takeBack
theorem dX7_undo_0 : decode cX7_undo 0 = .ok (.aload_n 0, 1) := by decide +kernel
theorem dX7_undo_1 : decode cX7_undo 1 = .ok (.getfield 35, 3) := by decide +kernel
theorem dX7_undo_4 : decode cX7_undo 4 = .ok (.aload_n 0, 1) := by decide +kernel
theorem dX7_undo_5 : decode cX7_undo 5 = .ok (.getfield 42, 3) := by decide +kernel
theorem dX7_undo_8 : decode cX7_undo 8 = .ok (.invokevirtual 154, 3) := by decide +kernel
theorem dX7_undo_11 : decode cX7_undo 11 = .ok (.ifCond .eq 13, 3) := by decide +kernel
theorem dX7_undo_14 : decode cX7_undo 14 = .ok (.aload_n 0, 1) := by decide +kernel
theorem dX7_undo_15 : decode cX7_undo 15 = .ok (.getfield 35, 3) := by decide +kernel
theorem dX7_undo_18 : decode cX7_undo 18 = .ok (.getfield 158, 3) := by decide +kernel
theorem dX7_undo_21 : decode cX7_undo 21 = .ok (.goto 5, 3) := by decide +kernel
theorem dX7_undo_24 : decode cX7_undo 24 = .ok (.bipush (-5), 2) := by decide +kernel
theorem dX7_undo_26 : decode cX7_undo 26 = .ok (.ireturn, 1) := by decide +kernel
set_option maxRecDepth 20000 in
theorem ggX7_keep_X5_copyFrom : GoodIn wsX7_keep wsX5_copyFrom := goodIn_r _ [10, 11, 12, 13, 14, 15, 16, 17, 18, 19, 20, 21, 22, 23, 24, 25, 26, 27, 28, 29, 30, 31, 32, 33, 34, 35, 36, 37, 38, 39, 40, 41, 42, 43, 44, 45, 46, 47, 56, 57, 58, 59, 60, 61, 62, 63, 64, 65, 66, 67, 68, 69, 70, 71, 72, 73, 74, 75, 76] (by decide +kernel) (by decide +kernel)
set_option maxRecDepth 20000 in
theorem gX7_keep_X5_copyFrom : GoodIn wsX7_keep (wsV RX7 159 RX5 yX5_copyFrom wsX5_copyFrom) := goodIn_app (goodIn_of _ (by decide +kernel)) ggX7_keep_X5_copyFrom
theorem dX7_keep_0 : decode cX7_keep 0 = .ok (.aload_n 0, 1) := by decide +kernel
theorem dX7_keep_1 : decode cX7_keep 1 = .ok (.getfield 46, 3) := by decide +kernel
theorem dX7_keep_4 : decode cX7_keep 4 = .ok (.aload_n 0, 1) := by decide +kernel
theorem dX7_keep_5 : decode cX7_keep 5 = .ok (.getfield 42, 3) := by decide +kernel
theorem dX7_keep_8 : decode cX7_keep 8 = .ok (.invokevirtual 159, 3) := by decide +kernel
theorem dX7_keep_11 : decode cX7_keep 11 = .ok (.aload_n 0, 1) := by decide +kernel
theorem dX7_keep_12 : decode cX7_keep 12 = .ok (.iconst 1, 1) := by decide +kernel
theorem dX7_keep_13 : decode cX7_keep 13 = .ok (.putfield 52, 3) := by decide +kernel
theorem dX7_keep_16 : decode cX7_keep 16 = .ok (.aload_n 0, 1) := by decide +kernel
theorem dX7_keep_17 : decode cX7_keep 17 = .ok (.getfield 42, 3) := by decide +kernel
theorem dX7_keep_20 : decode cX7_keep 20 = .ok (.getfield 60, 3) := by decide +kernel
theorem dX7_keep_23 : decode cX7_keep 23 = .ok (.getfield 64, 3) := by decide +kernel
theorem dX7_keep_26 : decode cX7_keep 26 = .ok (.ireturn, 1) := by decide +kernel
set_option maxRecDepth 20000 in
theorem ggX7_restore_X2_remember : GoodIn wsX7_restore wsX2_remember := goodIn_r _ [11, 12, 13, 14, 15, 16, 10, 17, 18, 19, 20, 21, 22, 23, 24, 25, 26, 27, 28, 29, 30, 31, 32, 33, 34, 35, 36, 37, 38, 39, 40, 41, 42, 43, 44, 45, 46, 47, 48, 49, 50, 51, 52, 53, 54, 55, 56, 57, 58, 59, 84, 85, 69, 70, 71, 72, 73, 74, 75, 76, 77, 78, 79, 80, 81, 82, 83, 86, 87, 88, 89, 90, 91] (by decide +kernel) (by decide +kernel)
set_option maxRecDepth 20000 in
theorem gX7_restore_X2_remember : GoodIn wsX7_restore (wsV RX7 71 RX2 yX2_remember wsX2_remember) := goodIn_app (goodIn_of _ (by decide +kernel)) ggX7_restore_X2_remember
set_option maxRecDepth 20000 in
theorem ggX7_restore_X5_copyFrom : GoodIn wsX7_restore wsX5_copyFrom := goodIn_r _ [22, 23, 24, 25, 26, 27, 28, 29, 30, 31, 32, 33, 34, 35, 36, 37, 38, 39, 40, 41, 42, 43, 44, 45, 46, 47, 48, 49, 50, 51, 52, 53, 54, 55, 56, 57, 58, 59, 69, 70, 71, 72, 73, 74, 75, 76, 77, 78, 79, 80, 81, 82, 83, 86, 87, 88, 89, 90, 91] (by decide +kernel) (by decide +kernel)
set_option maxRecDepth 20000 in
theorem gX7_restore_X5_copyFrom : GoodIn wsX7_restore (wsV RX7 159 RX5 yX5_copyFrom wsX5_copyFrom) := goodIn_app (goodIn_of _ (by decide +kernel)) ggX7_restore_X5_copyFrom
theorem dX7_restore_0 : decode cX7_restore 0 = .ok (.aload_n 0, 1) := by decide +kernel
theorem dX7_restore_1 : decode cX7_restore 1 = .ok (.getfield 52, 3) := by decide +kernel
theorem dX7_restore_4 : decode cX7_restore 4 = .ok (.ifCond .ne 6, 3) := by decide +kernel
theorem dX7_restore_7 : decode cX7_restore 7 = .ok (.bipush (-5), 2) := by decide +kernel
theorem dX7_restore_9 : decode cX7_restore 9 = .ok (.ireturn, 1) := by decide +kernel
theorem dX7_restore_10 : decode cX7_restore 10 = .ok (.aload_n 0, 1) := by decide +kernel
theorem dX7_restore_11 : decode cX7_restore 11 = .ok (.getfield 35, 3) := by decide +kernel
theorem dX7_restore_14 : decode cX7_restore 14 = .ok (.aload_n 0, 1) := by decide +kernel
theorem dX7_restore_15 : decode cX7_restore 15 = .ok (.getfield 42, 3) := by decide +kernel
theorem dX7_restore_18 : decode cX7_restore 18 = .ok (.invokevirtual 71, 3) := by decide +kernel
theorem dX7_restore_21 : decode cX7_restore 21 = .ok (.aload_n 0, 1) := by decide +kernel
theorem dX7_restore_22 : decode cX7_restore 22 = .ok (.getfield 42, 3) := by decide +kernel
theorem dX7_restore_25 : decode cX7_restore 25 = .ok (.aload_n 0, 1) := by decide +kernel
theorem dX7_restore_26 : decode cX7_restore 26 = .ok (.getfield 46, 3) := by decide +kernel
theorem dX7_restore_29 : decode cX7_restore 29 = .ok (.invokevirtual 159, 3) := by decide +kernel
theorem dX7_restore_32 : decode cX7_restore 32 = .ok (.aload_n 0, 1) := by decide +kernel
theorem dX7_restore_33 : decode cX7_restore 33 = .ok (.getfield 42, 3) := by decide +kernel
theorem dX7_restore_36 : decode cX7_restore 36 = .ok (.getfield 60, 3) := by decide +kernel
theorem dX7_restore_39 : decode cX7_restore 39 = .ok (.getfield 64, 3) := by decide +kernel
theorem dX7_restore_42 : decode cX7_restore 42 = .ok (.ireturn, 1) := by decide +kernel
set_option maxRecDepth 20000 in
theorem ggX7_button_X1_has : GoodIn wsX7_button wsX1_has := goodIn_r _ [17, 18, 42, 43, 44, 45, 46, 47, 48] (by decide +kernel) (by decide +kernel)
set_option maxRecDepth 20000 in
theorem gX7_button_X1_has : GoodIn wsX7_button (wsV RX7 128 RX1 yX1_has wsX1_has) := goodIn_app (goodIn_of _ (by decide +kernel)) ggX7_button_X1_has
set_option maxRecDepth 20000 in
theorem ggX7_button_X4_rankInHopper : GoodIn wsX7_button wsX4_rankInHopper := goodIn_r _ [23, 24, 25, 49, 50, 51, 52, 53, 54] (by decide +kernel) (by decide +kernel)
set_option maxRecDepth 20000 in
theorem gX7_button_X4_rankInHopper : GoodIn wsX7_button (wsV RX7 177 RX4 yX4_rankInHopper wsX4_rankInHopper) := goodIn_app (goodIn_of _ (by decide +kernel)) ggX7_button_X4_rankInHopper
theorem dX7_button_0 : decode cX7_button 0 = .ok (.aload_n 0, 1) := by decide +kernel
theorem dX7_button_1 : decode cX7_button 1 = .ok (.getfield 42, 3) := by decide +kernel
theorem dX7_button_4 : decode cX7_button 4 = .ok (.getfield 60, 3) := by decide +kernel
theorem dX7_button_7 : decode cX7_button 7 = .ok (.iload_n 1, 1) := by decide +kernel
theorem dX7_button_8 : decode cX7_button 8 = .ok (.invokevirtual 128, 3) := by decide +kernel
theorem dX7_button_11 : decode cX7_button 11 = .ok (.ifCond .ne 5, 3) := by decide +kernel
theorem dX7_button_14 : decode cX7_button 14 = .ok (.iconst (-1), 1) := by decide +kernel
theorem dX7_button_15 : decode cX7_button 15 = .ok (.ireturn, 1) := by decide +kernel
theorem dX7_button_16 : decode cX7_button 16 = .ok (.iload_n 2, 1) := by decide +kernel
theorem dX7_button_17 : decode cX7_button 17 = .ok (.ifCond .lt 9, 3) := by decide +kernel
theorem dX7_button_20 : decode cX7_button 20 = .ok (.iload_n 2, 1) := by decide +kernel
theorem dX7_button_21 : decode cX7_button 21 = .ok (.bipush 9, 2) := by decide +kernel
theorem dX7_button_23 : decode cX7_button 23 = .ok (.if_icmp .le 6, 3) := by decide +kernel
theorem dX7_button_26 : decode cX7_button 26 = .ok (.bipush (-2), 2) := by decide +kernel
theorem dX7_button_28 : decode cX7_button 28 = .ok (.ireturn, 1) := by decide +kernel
theorem dX7_button_29 : decode cX7_button 29 = .ok (.iload_n 2, 1) := by decide +kernel
theorem dX7_button_30 : decode cX7_button 30 = .ok (.tableswitch 166 0 8 #[50, 63, 76, 89, 102, 115, 128, 141, 153], 50) := by decide +kernel
theorem dX7_button_80 : decode cX7_button 80 = .ok (.aload_n 0, 1) := by decide +kernel
theorem dX7_button_81 : decode cX7_button 81 = .ok (.getfield 42, 3) := by decide +kernel
theorem dX7_button_84 : decode cX7_button 84 = .ok (.getfield 60, 3) := by decide +kernel
theorem dX7_button_87 : decode cX7_button 87 = .ok (.getfield 162, 3) := by decide +kernel
theorem dX7_button_90 : decode cX7_button 90 = .ok (.iload_n 1, 1) := by decide +kernel
theorem dX7_button_91 : decode cX7_button 91 = .ok (.iaload, 1) := by decide +kernel
theorem dX7_button_92 : decode cX7_button 92 = .ok (.ireturn, 1) := by decide +kernel
theorem dX7_button_93 : decode cX7_button 93 = .ok (.aload_n 0, 1) := by decide +kernel
theorem dX7_button_94 : decode cX7_button 94 = .ok (.getfield 42, 3) := by decide +kernel
theorem dX7_button_97 : decode cX7_button 97 = .ok (.getfield 60, 3) := by decide +kernel
theorem dX7_button_100 : decode cX7_button 100 = .ok (.getfield 165, 3) := by decide +kernel
theorem dX7_button_103 : decode cX7_button 103 = .ok (.iload_n 1, 1) := by decide +kernel
theorem dX7_button_104 : decode cX7_button 104 = .ok (.iaload, 1) := by decide +kernel
theorem dX7_button_105 : decode cX7_button 105 = .ok (.ireturn, 1) := by decide +kernel
theorem dX7_button_106 : decode cX7_button 106 = .ok (.aload_n 0, 1) := by decide +kernel
theorem dX7_button_107 : decode cX7_button 107 = .ok (.getfield 42, 3) := by decide +kernel
theorem dX7_button_110 : decode cX7_button 110 = .ok (.getfield 60, 3) := by decide +kernel
theorem dX7_button_113 : decode cX7_button 113 = .ok (.getfield 168, 3) := by decide +kernel
theorem dX7_button_116 : decode cX7_button 116 = .ok (.iload_n 1, 1) := by decide +kernel
theorem dX7_button_117 : decode cX7_button 117 = .ok (.iaload, 1) := by decide +kernel
theorem dX7_button_118 : decode cX7_button 118 = .ok (.ireturn, 1) := by decide +kernel
theorem dX7_button_119 : decode cX7_button 119 = .ok (.aload_n 0, 1) := by decide +kernel
theorem dX7_button_120 : decode cX7_button 120 = .ok (.getfield 42, 3) := by decide +kernel
theorem dX7_button_123 : decode cX7_button 123 = .ok (.getfield 60, 3) := by decide +kernel
theorem dX7_button_126 : decode cX7_button 126 = .ok (.getfield 171, 3) := by decide +kernel
theorem dX7_button_129 : decode cX7_button 129 = .ok (.iload_n 1, 1) := by decide +kernel
theorem dX7_button_130 : decode cX7_button 130 = .ok (.iaload, 1) := by decide +kernel
theorem dX7_button_131 : decode cX7_button 131 = .ok (.ireturn, 1) := by decide +kernel
theorem dX7_button_132 : decode cX7_button 132 = .ok (.aload_n 0, 1) := by decide +kernel
theorem dX7_button_133 : decode cX7_button 133 = .ok (.getfield 42, 3) := by decide +kernel
theorem dX7_button_136 : decode cX7_button 136 = .ok (.getfield 60, 3) := by decide +kernel
theorem dX7_button_139 : decode cX7_button 139 = .ok (.getfield 134, 3) := by decide +kernel
theorem dX7_button_142 : decode cX7_button 142 = .ok (.iload_n 1, 1) := by decide +kernel
theorem dX7_button_143 : decode cX7_button 143 = .ok (.iaload, 1) := by decide +kernel
theorem dX7_button_144 : decode cX7_button 144 = .ok (.ireturn, 1) := by decide +kernel
theorem dX7_button_145 : decode cX7_button 145 = .ok (.aload_n 0, 1) := by decide +kernel
theorem dX7_button_146 : decode cX7_button 146 = .ok (.getfield 42, 3) := by decide +kernel
theorem dX7_button_149 : decode cX7_button 149 = .ok (.getfield 79, 3) := by decide +kernel
theorem dX7_button_152 : decode cX7_button 152 = .ok (.getfield 131, 3) := by decide +kernel
theorem dX7_button_155 : decode cX7_button 155 = .ok (.iload_n 1, 1) := by decide +kernel
theorem dX7_button_156 : decode cX7_button 156 = .ok (.iaload, 1) := by decide +kernel
theorem dX7_button_157 : decode cX7_button 157 = .ok (.ireturn, 1) := by decide +kernel
theorem dX7_button_158 : decode cX7_button 158 = .ok (.aload_n 0, 1) := by decide +kernel
theorem dX7_button_159 : decode cX7_button 159 = .ok (.getfield 42, 3) := by decide +kernel
theorem dX7_button_162 : decode cX7_button 162 = .ok (.getfield 79, 3) := by decide +kernel
theorem dX7_button_165 : decode cX7_button 165 = .ok (.getfield 174, 3) := by decide +kernel
theorem dX7_button_168 : decode cX7_button 168 = .ok (.iload_n 1, 1) := by decide +kernel
theorem dX7_button_169 : decode cX7_button 169 = .ok (.iaload, 1) := by decide +kernel
theorem dX7_button_170 : decode cX7_button 170 = .ok (.ireturn, 1) := by decide +kernel
theorem dX7_button_171 : decode cX7_button 171 = .ok (.aload_n 0, 1) := by decide +kernel
theorem dX7_button_172 : decode cX7_button 172 = .ok (.getfield 42, 3) := by decide +kernel
theorem dX7_button_175 : decode cX7_button 175 = .ok (.getfield 79, 3) := by decide +kernel
theorem dX7_button_178 : decode cX7_button 178 = .ok (.iload_n 1, 1) := by decide +kernel
theorem dX7_button_179 : decode cX7_button 179 = .ok (.invokevirtual 177, 3) := by decide +kernel
theorem dX7_button_182 : decode cX7_button 182 = .ok (.ireturn, 1) := by decide +kernel
theorem dX7_button_183 : decode cX7_button 183 = .ok (.aload_n 0, 1) := by decide +kernel
theorem dX7_button_184 : decode cX7_button 184 = .ok (.getfield 42, 3) := by decide +kernel
theorem dX7_button_187 : decode cX7_button 187 = .ok (.getfield 79, 3) := by decide +kernel
theorem dX7_button_190 : decode cX7_button 190 = .ok (.getfield 180, 3) := by decide +kernel
theorem dX7_button_193 : decode cX7_button 193 = .ok (.iload_n 1, 1) := by decide +kernel
theorem dX7_button_194 : decode cX7_button 194 = .ok (.iaload, 1) := by decide +kernel
theorem dX7_button_195 : decode cX7_button 195 = .ok (.ireturn, 1) := by decide +kernel
theorem dX7_button_196 : decode cX7_button 196 = .ok (.aload_n 0, 1) := by decide +kernel
theorem dX7_button_197 : decode cX7_button 197 = .ok (.getfield 42, 3) := by decide +kernel
theorem dX7_button_200 : decode cX7_button 200 = .ok (.getfield 60, 3) := by decide +kernel
theorem dX7_button_203 : decode cX7_button 203 = .ok (.getfield 183, 3) := by decide +kernel
theorem dX7_button_206 : decode cX7_button 206 = .ok (.iload_n 1, 1) := by decide +kernel
theorem dX7_button_207 : decode cX7_button 207 = .ok (.iaload, 1) := by decide +kernel
theorem dX7_button_208 : decode cX7_button 208 = .ok (.ireturn, 1) := by decide +kernel
set_option maxRecDepth 20000 in
theorem ggX7_inBin_X7_isBin : GoodIn wsX7_inBin wsX7_isBin := goodIn_r _ [6] (by decide +kernel) (by decide +kernel)
set_option maxRecDepth 20000 in
theorem gX7_inBin_X7_isBin : GoodIn wsX7_inBin (va_wsS RX7 95 yX7_isBin wsX7_isBin) := goodIn_app (goodIn_of _ (by decide +kernel)) ggX7_inBin_X7_isBin
set_option maxRecDepth 20000 in
theorem ggX7_inBin_X3_fill : GoodIn wsX7_inBin wsX3_fill := goodIn_r _ [11, 12, 13, 14, 15, 16, 17, 18, 19, 20, 10, 21, 22, 23, 36, 37, 38, 39, 40, 41, 42, 43, 44, 45, 46, 47, 48, 49, 50, 51, 52, 53, 54, 55, 56, 57, 58, 59] (by decide +kernel) (by decide +kernel)
set_option maxRecDepth 20000 in
theorem gX7_inBin_X3_fill : GoodIn wsX7_inBin (wsV RX7 109 RX3 yX3_fill wsX3_fill) := goodIn_app (goodIn_of _ (by decide +kernel)) ggX7_inBin_X3_fill
set_option maxRecDepth 20000 in
theorem ggX7_inBin_X3_numberAt : GoodIn wsX7_inBin wsX3_numberAt := goodIn_r _ [27, 12, 23, 36, 37, 38] (by decide +kernel) (by decide +kernel)
set_option maxRecDepth 20000 in
theorem gX7_inBin_X3_numberAt : GoodIn wsX7_inBin (wsV RX7 186 RX3 yX3_numberAt wsX3_numberAt) := goodIn_app (goodIn_of _ (by decide +kernel)) ggX7_inBin_X3_numberAt
theorem dX7_inBin_0 : decode cX7_inBin 0 = .ok (.iload_n 1, 1) := by decide +kernel
theorem dX7_inBin_1 : decode cX7_inBin 1 = .ok (.invokestatic 95, 3) := by decide +kernel
theorem dX7_inBin_4 : decode cX7_inBin 4 = .ok (.ifCond .ne 5, 3) := by decide +kernel
theorem dX7_inBin_7 : decode cX7_inBin 7 = .ok (.iconst (-1), 1) := by decide +kernel
theorem dX7_inBin_8 : decode cX7_inBin 8 = .ok (.ireturn, 1) := by decide +kernel
theorem dX7_inBin_9 : decode cX7_inBin 9 = .ok (.iload_n 2, 1) := by decide +kernel
theorem dX7_inBin_10 : decode cX7_inBin 10 = .ok (.ifCond .ge 6, 3) := by decide +kernel
theorem dX7_inBin_13 : decode cX7_inBin 13 = .ok (.bipush (-2), 2) := by decide +kernel
theorem dX7_inBin_15 : decode cX7_inBin 15 = .ok (.ireturn, 1) := by decide +kernel
theorem dX7_inBin_16 : decode cX7_inBin 16 = .ok (.aload_n 0, 1) := by decide +kernel
theorem dX7_inBin_17 : decode cX7_inBin 17 = .ok (.getfield 28, 3) := by decide +kernel
theorem dX7_inBin_20 : decode cX7_inBin 20 = .ok (.aload_n 0, 1) := by decide +kernel
theorem dX7_inBin_21 : decode cX7_inBin 21 = .ok (.getfield 42, 3) := by decide +kernel
theorem dX7_inBin_24 : decode cX7_inBin 24 = .ok (.iload_n 1, 1) := by decide +kernel
theorem dX7_inBin_25 : decode cX7_inBin 25 = .ok (.invokevirtual 109, 3) := by decide +kernel
theorem dX7_inBin_28 : decode cX7_inBin 28 = .ok (.aload_n 0, 1) := by decide +kernel
theorem dX7_inBin_29 : decode cX7_inBin 29 = .ok (.getfield 28, 3) := by decide +kernel
theorem dX7_inBin_32 : decode cX7_inBin 32 = .ok (.iload_n 2, 1) := by decide +kernel
theorem dX7_inBin_33 : decode cX7_inBin 33 = .ok (.invokevirtual 186, 3) := by decide +kernel
theorem dX7_inBin_36 : decode cX7_inBin 36 = .ok (.ireturn, 1) := by decide +kernel
set_option maxRecDepth 20000 in
theorem ggX7_bin_X7_isBin : GoodIn wsX7_bin wsX7_isBin := goodIn_r _ [12] (by decide +kernel) (by decide +kernel)
set_option maxRecDepth 20000 in
theorem gX7_bin_X7_isBin : GoodIn wsX7_bin (va_wsS RX7 95 yX7_isBin wsX7_isBin) := goodIn_app (goodIn_of _ (by decide +kernel)) ggX7_bin_X7_isBin
set_option maxRecDepth 20000 in
theorem ggX7_bin_X3_fill : GoodIn wsX7_bin wsX3_fill := goodIn_r _ [17, 18, 19, 20, 21, 22, 23, 24, 25, 26, 16, 27, 28, 29, 61, 62, 63, 64, 65, 66, 67, 68, 69, 70, 71, 72, 73, 74, 75, 76, 77, 78, 79, 80, 81, 82, 83, 84] (by decide +kernel) (by decide +kernel)
set_option maxRecDepth 20000 in
theorem gX7_bin_X3_fill : GoodIn wsX7_bin (wsV RX7 109 RX3 yX3_fill wsX3_fill) := goodIn_app (goodIn_of _ (by decide +kernel)) ggX7_bin_X3_fill
set_option maxRecDepth 20000 in
theorem ggX7_bin_X3_shineSum : GoodIn wsX7_bin wsX3_shineSum := goodIn_r _ [33, 18, 28, 61, 62, 63] (by decide +kernel) (by decide +kernel)
set_option maxRecDepth 20000 in
theorem gX7_bin_X3_shineSum : GoodIn wsX7_bin (wsV RX7 195 RX3 yX3_shineSum wsX3_shineSum) := goodIn_app (goodIn_of _ (by decide +kernel)) ggX7_bin_X3_shineSum
set_option maxRecDepth 20000 in
theorem ggX7_bin_X3_mostAlike : GoodIn wsX7_bin wsX3_mostAlike := goodIn_r _ [37, 38, 39, 40, 16, 41, 18, 42, 43, 44, 45, 28, 61, 62, 63] (by decide +kernel) (by decide +kernel)
set_option maxRecDepth 20000 in
theorem gX7_bin_X3_mostAlike : GoodIn wsX7_bin (wsV RX7 198 RX3 yX3_mostAlike wsX3_mostAlike) := goodIn_app (goodIn_of _ (by decide +kernel)) ggX7_bin_X3_mostAlike
set_option maxRecDepth 20000 in
theorem ggX7_bin_X3_narrowest : GoodIn wsX7_bin wsX3_narrowest := goodIn_r _ [49, 18, 50, 51, 7, 52, 42, 43, 44, 16, 45, 28, 61, 62, 63] (by decide +kernel) (by decide +kernel)
set_option maxRecDepth 20000 in
theorem gX7_bin_X3_narrowest : GoodIn wsX7_bin (wsV RX7 201 RX3 yX3_narrowest wsX3_narrowest) := goodIn_app (goodIn_of _ (by decide +kernel)) ggX7_bin_X3_narrowest
theorem dX7_bin_0 : decode cX7_bin 0 = .ok (.iload_n 1, 1) := by decide +kernel
theorem dX7_bin_1 : decode cX7_bin 1 = .ok (.invokestatic 95, 3) := by decide +kernel
theorem dX7_bin_4 : decode cX7_bin 4 = .ok (.ifCond .ne 5, 3) := by decide +kernel
theorem dX7_bin_7 : decode cX7_bin 7 = .ok (.iconst (-1), 1) := by decide +kernel
theorem dX7_bin_8 : decode cX7_bin 8 = .ok (.ireturn, 1) := by decide +kernel
theorem dX7_bin_9 : decode cX7_bin 9 = .ok (.iload_n 2, 1) := by decide +kernel
theorem dX7_bin_10 : decode cX7_bin 10 = .ok (.ifCond .lt 8, 3) := by decide +kernel
theorem dX7_bin_13 : decode cX7_bin 13 = .ok (.iload_n 2, 1) := by decide +kernel
theorem dX7_bin_14 : decode cX7_bin 14 = .ok (.iconst 4, 1) := by decide +kernel
theorem dX7_bin_15 : decode cX7_bin 15 = .ok (.if_icmp .le 6, 3) := by decide +kernel
theorem dX7_bin_18 : decode cX7_bin 18 = .ok (.bipush (-2), 2) := by decide +kernel
theorem dX7_bin_20 : decode cX7_bin 20 = .ok (.ireturn, 1) := by decide +kernel
theorem dX7_bin_21 : decode cX7_bin 21 = .ok (.aload_n 0, 1) := by decide +kernel
theorem dX7_bin_22 : decode cX7_bin 22 = .ok (.getfield 28, 3) := by decide +kernel
theorem dX7_bin_25 : decode cX7_bin 25 = .ok (.aload_n 0, 1) := by decide +kernel
theorem dX7_bin_26 : decode cX7_bin 26 = .ok (.getfield 42, 3) := by decide +kernel
theorem dX7_bin_29 : decode cX7_bin 29 = .ok (.iload_n 1, 1) := by decide +kernel
theorem dX7_bin_30 : decode cX7_bin 30 = .ok (.invokevirtual 109, 3) := by decide +kernel
theorem dX7_bin_33 : decode cX7_bin 33 = .ok (.iload_n 2, 1) := by decide +kernel
theorem dX7_bin_34 : decode cX7_bin 34 = .ok (.tableswitch 87 0 3 #[30, 38, 61, 69], 30) := by decide +kernel
theorem dX7_bin_64 : decode cX7_bin 64 = .ok (.aload_n 0, 1) := by decide +kernel
theorem dX7_bin_65 : decode cX7_bin 65 = .ok (.getfield 28, 3) := by decide +kernel
theorem dX7_bin_68 : decode cX7_bin 68 = .ok (.getfield 189, 3) := by decide +kernel
theorem dX7_bin_71 : decode cX7_bin 71 = .ok (.ireturn, 1) := by decide +kernel
theorem dX7_bin_72 : decode cX7_bin 72 = .ok (.aload_n 0, 1) := by decide +kernel
theorem dX7_bin_73 : decode cX7_bin 73 = .ok (.getfield 42, 3) := by decide +kernel
theorem dX7_bin_76 : decode cX7_bin 76 = .ok (.getfield 113, 3) := by decide +kernel
theorem dX7_bin_79 : decode cX7_bin 79 = .ok (.bipush 6, 2) := by decide +kernel
theorem dX7_bin_81 : decode cX7_bin 81 = .ok (.iaload, 1) := by decide +kernel
theorem dX7_bin_82 : decode cX7_bin 82 = .ok (.aload_n 0, 1) := by decide +kernel
theorem dX7_bin_83 : decode cX7_bin 83 = .ok (.getfield 28, 3) := by decide +kernel
theorem dX7_bin_86 : decode cX7_bin 86 = .ok (.getfield 189, 3) := by decide +kernel
theorem dX7_bin_89 : decode cX7_bin 89 = .ok (.isub, 1) := by decide +kernel
theorem dX7_bin_90 : decode cX7_bin 90 = .ok (.iconst 0, 1) := by decide +kernel
theorem dX7_bin_91 : decode cX7_bin 91 = .ok (.invokestatic 190, 3) := by decide +kernel
theorem dX7_bin_94 : decode cX7_bin 94 = .ok (.ireturn, 1) := by decide +kernel
theorem dX7_bin_95 : decode cX7_bin 95 = .ok (.aload_n 0, 1) := by decide +kernel
theorem dX7_bin_96 : decode cX7_bin 96 = .ok (.getfield 28, 3) := by decide +kernel
theorem dX7_bin_99 : decode cX7_bin 99 = .ok (.invokevirtual 195, 3) := by decide +kernel
theorem dX7_bin_102 : decode cX7_bin 102 = .ok (.ireturn, 1) := by decide +kernel
theorem dX7_bin_103 : decode cX7_bin 103 = .ok (.aload_n 0, 1) := by decide +kernel
theorem dX7_bin_104 : decode cX7_bin 104 = .ok (.getfield 28, 3) := by decide +kernel
theorem dX7_bin_107 : decode cX7_bin 107 = .ok (.aload_n 0, 1) := by decide +kernel
theorem dX7_bin_108 : decode cX7_bin 108 = .ok (.getfield 42, 3) := by decide +kernel
theorem dX7_bin_111 : decode cX7_bin 111 = .ok (.getfield 113, 3) := by decide +kernel
theorem dX7_bin_114 : decode cX7_bin 114 = .ok (.bipush 7, 2) := by decide +kernel
theorem dX7_bin_116 : decode cX7_bin 116 = .ok (.iaload, 1) := by decide +kernel
theorem dX7_bin_117 : decode cX7_bin 117 = .ok (.invokevirtual 198, 3) := by decide +kernel
theorem dX7_bin_120 : decode cX7_bin 120 = .ok (.ireturn, 1) := by decide +kernel
theorem dX7_bin_121 : decode cX7_bin 121 = .ok (.aload_n 0, 1) := by decide +kernel
theorem dX7_bin_122 : decode cX7_bin 122 = .ok (.getfield 28, 3) := by decide +kernel
theorem dX7_bin_125 : decode cX7_bin 125 = .ok (.getfield 189, 3) := by decide +kernel
theorem dX7_bin_128 : decode cX7_bin 128 = .ok (.ifCond .ne 7, 3) := by decide +kernel
theorem dX7_bin_131 : decode cX7_bin 131 = .ok (.iconst 0, 1) := by decide +kernel
theorem dX7_bin_132 : decode cX7_bin 132 = .ok (.goto 17, 3) := by decide +kernel
theorem dX7_bin_135 : decode cX7_bin 135 = .ok (.aload_n 0, 1) := by decide +kernel
theorem dX7_bin_136 : decode cX7_bin 136 = .ok (.getfield 28, 3) := by decide +kernel
theorem dX7_bin_139 : decode cX7_bin 139 = .ok (.aload_n 0, 1) := by decide +kernel
theorem dX7_bin_140 : decode cX7_bin 140 = .ok (.getfield 28, 3) := by decide +kernel
theorem dX7_bin_143 : decode cX7_bin 143 = .ok (.getfield 189, 3) := by decide +kernel
theorem dX7_bin_146 : decode cX7_bin 146 = .ok (.invokevirtual 201, 3) := by decide +kernel
theorem dX7_bin_149 : decode cX7_bin 149 = .ok (.ireturn, 1) := by decide +kernel
set_option maxRecDepth 20000 in
theorem ggX7_total_X1_chipSum : GoodIn wsX7_total wsX1_chipSum := goodIn_r _ [20, 21, 22, 45, 46, 47, 48, 49, 50, 51] (by decide +kernel) (by decide +kernel)
set_option maxRecDepth 20000 in
theorem gX7_total_X1_chipSum : GoodIn wsX7_total (wsV RX7 219 RX1 yX1_chipSum wsX1_chipSum) := goodIn_app (goodIn_of _ (by decide +kernel)) ggX7_total_X1_chipSum
theorem dX7_total_0 : decode cX7_total 0 = .ok (.iload_n 1, 1) := by decide +kernel
theorem dX7_total_1 : decode cX7_total 1 = .ok (.ifCond .lt 9, 3) := by decide +kernel
theorem dX7_total_4 : decode cX7_total 4 = .ok (.iload_n 1, 1) := by decide +kernel
theorem dX7_total_5 : decode cX7_total 5 = .ok (.bipush 23, 2) := by decide +kernel
theorem dX7_total_7 : decode cX7_total 7 = .ok (.if_icmp .le 6, 3) := by decide +kernel
theorem dX7_total_10 : decode cX7_total 10 = .ok (.bipush (-2), 2) := by decide +kernel
theorem dX7_total_12 : decode cX7_total 12 = .ok (.ireturn, 1) := by decide +kernel
theorem dX7_total_13 : decode cX7_total 13 = .ok (.iload_n 1, 1) := by decide +kernel
theorem dX7_total_14 : decode cX7_total 14 = .ok (.bipush 8, 2) := by decide +kernel
theorem dX7_total_16 : decode cX7_total 16 = .ok (.if_icmp .ge 13, 3) := by decide +kernel
theorem dX7_total_19 : decode cX7_total 19 = .ok (.aload_n 0, 1) := by decide +kernel
theorem dX7_total_20 : decode cX7_total 20 = .ok (.getfield 42, 3) := by decide +kernel
theorem dX7_total_23 : decode cX7_total 23 = .ok (.getfield 113, 3) := by decide +kernel
theorem dX7_total_26 : decode cX7_total 26 = .ok (.iload_n 1, 1) := by decide +kernel
theorem dX7_total_27 : decode cX7_total 27 = .ok (.iaload, 1) := by decide +kernel
theorem dX7_total_28 : decode cX7_total 28 = .ok (.ireturn, 1) := by decide +kernel
theorem dX7_total_29 : decode cX7_total 29 = .ok (.iload_n 1, 1) := by decide +kernel
theorem dX7_total_30 : decode cX7_total 30 = .ok (.bipush 9, 2) := by decide +kernel
theorem dX7_total_32 : decode cX7_total 32 = .ok (.if_icmp .lt 25, 3) := by decide +kernel
theorem dX7_total_35 : decode cX7_total 35 = .ok (.iload_n 1, 1) := by decide +kernel
theorem dX7_total_36 : decode cX7_total 36 = .ok (.bipush 16, 2) := by decide +kernel
theorem dX7_total_38 : decode cX7_total 38 = .ok (.if_icmp .ge 19, 3) := by decide +kernel
theorem dX7_total_41 : decode cX7_total 41 = .ok (.aload_n 0, 1) := by decide +kernel
theorem dX7_total_42 : decode cX7_total 42 = .ok (.getfield 42, 3) := by decide +kernel
theorem dX7_total_45 : decode cX7_total 45 = .ok (.getfield 79, 3) := by decide +kernel
theorem dX7_total_48 : decode cX7_total 48 = .ok (.getfield 83, 3) := by decide +kernel
theorem dX7_total_51 : decode cX7_total 51 = .ok (.iload_n 1, 1) := by decide +kernel
theorem dX7_total_52 : decode cX7_total 52 = .ok (.bipush 9, 2) := by decide +kernel
theorem dX7_total_54 : decode cX7_total 54 = .ok (.isub, 1) := by decide +kernel
theorem dX7_total_55 : decode cX7_total 55 = .ok (.iaload, 1) := by decide +kernel
theorem dX7_total_56 : decode cX7_total 56 = .ok (.ireturn, 1) := by decide +kernel
theorem dX7_total_57 : decode cX7_total 57 = .ok (.iload_n 1, 1) := by decide +kernel
theorem dX7_total_58 : decode cX7_total 58 = .ok (.tableswitch 144 8 22 #[74, 144, 144, 144, 144, 144, 144, 144, 85, 93, 101, 109, 117, 125, 136], 74) := by decide +kernel
theorem dX7_total_132 : decode cX7_total 132 = .ok (.aload_n 0, 1) := by decide +kernel
theorem dX7_total_133 : decode cX7_total 133 = .ok (.getfield 42, 3) := by decide +kernel
theorem dX7_total_136 : decode cX7_total 136 = .ok (.getfield 60, 3) := by decide +kernel
theorem dX7_total_139 : decode cX7_total 139 = .ok (.getfield 64, 3) := by decide +kernel
theorem dX7_total_142 : decode cX7_total 142 = .ok (.ireturn, 1) := by decide +kernel
theorem dX7_total_143 : decode cX7_total 143 = .ok (.aload_n 0, 1) := by decide +kernel
theorem dX7_total_144 : decode cX7_total 144 = .ok (.getfield 42, 3) := by decide +kernel
theorem dX7_total_147 : decode cX7_total 147 = .ok (.getfield 204, 3) := by decide +kernel
theorem dX7_total_150 : decode cX7_total 150 = .ok (.ireturn, 1) := by decide +kernel
theorem dX7_total_151 : decode cX7_total 151 = .ok (.aload_n 0, 1) := by decide +kernel
theorem dX7_total_152 : decode cX7_total 152 = .ok (.getfield 42, 3) := by decide +kernel
theorem dX7_total_155 : decode cX7_total 155 = .ok (.getfield 207, 3) := by decide +kernel
theorem dX7_total_158 : decode cX7_total 158 = .ok (.ireturn, 1) := by decide +kernel
theorem dX7_total_159 : decode cX7_total 159 = .ok (.aload_n 0, 1) := by decide +kernel
theorem dX7_total_160 : decode cX7_total 160 = .ok (.getfield 42, 3) := by decide +kernel
theorem dX7_total_163 : decode cX7_total 163 = .ok (.getfield 210, 3) := by decide +kernel
theorem dX7_total_166 : decode cX7_total 166 = .ok (.ireturn, 1) := by decide +kernel
theorem dX7_total_167 : decode cX7_total 167 = .ok (.aload_n 0, 1) := by decide +kernel
theorem dX7_total_168 : decode cX7_total 168 = .ok (.getfield 42, 3) := by decide +kernel
theorem dX7_total_171 : decode cX7_total 171 = .ok (.getfield 213, 3) := by decide +kernel
theorem dX7_total_174 : decode cX7_total 174 = .ok (.ireturn, 1) := by decide +kernel
theorem dX7_total_175 : decode cX7_total 175 = .ok (.aload_n 0, 1) := by decide +kernel
theorem dX7_total_176 : decode cX7_total 176 = .ok (.getfield 42, 3) := by decide +kernel
theorem dX7_total_179 : decode cX7_total 179 = .ok (.getfield 216, 3) := by decide +kernel
theorem dX7_total_182 : decode cX7_total 182 = .ok (.ireturn, 1) := by decide +kernel
theorem dX7_total_183 : decode cX7_total 183 = .ok (.aload_n 0, 1) := by decide +kernel
theorem dX7_total_184 : decode cX7_total 184 = .ok (.getfield 42, 3) := by decide +kernel
theorem dX7_total_187 : decode cX7_total 187 = .ok (.getfield 60, 3) := by decide +kernel
theorem dX7_total_190 : decode cX7_total 190 = .ok (.invokevirtual 219, 3) := by decide +kernel
theorem dX7_total_193 : decode cX7_total 193 = .ok (.ireturn, 1) := by decide +kernel
theorem dX7_total_194 : decode cX7_total 194 = .ok (.aload_n 0, 1) := by decide +kernel
theorem dX7_total_195 : decode cX7_total 195 = .ok (.getfield 35, 3) := by decide +kernel
theorem dX7_total_198 : decode cX7_total 198 = .ok (.getfield 158, 3) := by decide +kernel
theorem dX7_total_201 : decode cX7_total 201 = .ok (.ireturn, 1) := by decide +kernel
theorem dX7_total_202 : decode cX7_total 202 = .ok (.aload_n 0, 1) := by decide +kernel
theorem dX7_total_203 : decode cX7_total 203 = .ok (.getfield 10, 3) := by decide +kernel
theorem dX7_total_206 : decode cX7_total 206 = .ok (.getfield 151, 3) := by decide +kernel
theorem dX7_total_209 : decode cX7_total 209 = .ok (.ireturn, 1) := by decide +kernel
set_option maxRecDepth 20000 in
theorem ggX7_goesTo_X1_has : GoodIn wsX7_goesTo wsX1_has := goodIn_r _ [9, 10, 62, 63, 64, 65, 66, 67, 68] (by decide +kernel) (by decide +kernel)
set_option maxRecDepth 20000 in
theorem gX7_goesTo_X1_has : GoodIn wsX7_goesTo (wsV RX7 128 RX1 yX1_has wsX1_has) := goodIn_app (goodIn_of _ (by decide +kernel)) ggX7_goesTo_X1_has
set_option maxRecDepth 20000 in
theorem ggX7_goesTo_X5_placeFor : GoodIn wsX7_goesTo wsX5_placeFor := goodIn_r _ [15, 16, 17, 18, 19, 20, 21, 22, 23, 24, 25, 14, 26, 27, 28, 29, 30, 31, 32, 33, 34, 35, 36, 37, 38, 39, 48, 49, 50, 51, 52, 53, 54, 55, 62, 63, 64, 65, 66, 67, 68, 56, 57, 58, 59, 60, 61] (by decide +kernel) (by decide +kernel)
set_option maxRecDepth 20000 in
theorem gX7_goesTo_X5_placeFor : GoodIn wsX7_goesTo (wsV RX7 222 RX5 yX5_placeFor wsX5_placeFor) := goodIn_app (goodIn_of _ (by decide +kernel)) ggX7_goesTo_X5_placeFor
theorem dX7_goesTo_0 : decode cX7_goesTo 0 = .ok (.aload_n 0, 1) := by decide +kernel
theorem dX7_goesTo_1 : decode cX7_goesTo 1 = .ok (.getfield 42, 3) := by decide +kernel
theorem dX7_goesTo_4 : decode cX7_goesTo 4 = .ok (.getfield 60, 3) := by decide +kernel
theorem dX7_goesTo_7 : decode cX7_goesTo 7 = .ok (.iload_n 1, 1) := by decide +kernel
theorem dX7_goesTo_8 : decode cX7_goesTo 8 = .ok (.invokevirtual 128, 3) := by decide +kernel
theorem dX7_goesTo_11 : decode cX7_goesTo 11 = .ok (.ifCond .ne 5, 3) := by decide +kernel
theorem dX7_goesTo_14 : decode cX7_goesTo 14 = .ok (.iconst (-1), 1) := by decide +kernel
theorem dX7_goesTo_15 : decode cX7_goesTo 15 = .ok (.ireturn, 1) := by decide +kernel
theorem dX7_goesTo_16 : decode cX7_goesTo 16 = .ok (.aload_n 0, 1) := by decide +kernel
theorem dX7_goesTo_17 : decode cX7_goesTo 17 = .ok (.getfield 42, 3) := by decide +kernel
theorem dX7_goesTo_20 : decode cX7_goesTo 20 = .ok (.getfield 79, 3) := by decide +kernel
theorem dX7_goesTo_23 : decode cX7_goesTo 23 = .ok (.getfield 131, 3) := by decide +kernel
theorem dX7_goesTo_26 : decode cX7_goesTo 26 = .ok (.iload_n 1, 1) := by decide +kernel
theorem dX7_goesTo_27 : decode cX7_goesTo 27 = .ok (.iaload, 1) := by decide +kernel
theorem dX7_goesTo_28 : decode cX7_goesTo 28 = .ok (.ifCond .eq 6, 3) := by decide +kernel
theorem dX7_goesTo_31 : decode cX7_goesTo 31 = .ok (.bipush (-4), 2) := by decide +kernel
theorem dX7_goesTo_33 : decode cX7_goesTo 33 = .ok (.ireturn, 1) := by decide +kernel
theorem dX7_goesTo_34 : decode cX7_goesTo 34 = .ok (.aload_n 0, 1) := by decide +kernel
theorem dX7_goesTo_35 : decode cX7_goesTo 35 = .ok (.getfield 42, 3) := by decide +kernel
theorem dX7_goesTo_38 : decode cX7_goesTo 38 = .ok (.iload_n 1, 1) := by decide +kernel
theorem dX7_goesTo_39 : decode cX7_goesTo 39 = .ok (.invokevirtual 222, 3) := by decide +kernel
theorem dX7_goesTo_42 : decode cX7_goesTo 42 = .ok (.ireturn, 1) := by decide +kernel
set_option maxRecDepth 20000 in
theorem ggX7_reason_X7_isBin : GoodIn wsX7_reason wsX7_isBin := goodIn_r _ [6] (by decide +kernel) (by decide +kernel)
set_option maxRecDepth 20000 in
theorem gX7_reason_X7_isBin : GoodIn wsX7_reason (va_wsS RX7 95 yX7_isBin wsX7_isBin) := goodIn_app (goodIn_of _ (by decide +kernel)) ggX7_reason_X7_isBin
set_option maxRecDepth 20000 in
theorem ggX7_reason_X7_isWanted : GoodIn wsX7_reason wsX7_isWanted := goodIn_r _ [9] (by decide +kernel) (by decide +kernel)
set_option maxRecDepth 20000 in
theorem gX7_reason_X7_isWanted : GoodIn wsX7_reason (va_wsS RX7 106 yX7_isWanted wsX7_isWanted) := goodIn_app (goodIn_of _ (by decide +kernel)) ggX7_reason_X7_isWanted
set_option maxRecDepth 20000 in
theorem ggX7_reason_X3_fill : GoodIn wsX7_reason wsX3_fill := goodIn_r _ [14, 15, 16, 17, 18, 19, 20, 21, 22, 23, 13, 24, 25, 26, 49, 50, 51, 52, 53, 54, 55, 56, 57, 58, 59, 60, 61, 62, 63, 64, 65, 66, 67, 68, 69, 70, 71, 72] (by decide +kernel) (by decide +kernel)
set_option maxRecDepth 20000 in
theorem gX7_reason_X3_fill : GoodIn wsX7_reason (wsV RX7 109 RX3 yX3_fill wsX3_fill) := goodIn_app (goodIn_of _ (by decide +kernel)) ggX7_reason_X3_fill
set_option maxRecDepth 20000 in
theorem ggX7_reason_X7_refusalOf : GoodIn wsX7_reason wsX7_refusalOf := goodIn_r _ [30, 1, 31, 2, 32, 33, 34, 35, 13, 36, 15, 37, 38, 39, 40, 25, 41, 42, 43, 44, 45, 46, 47, 48, 49, 50, 51, 52, 53, 54, 55, 56, 57, 58, 59] (by decide +kernel) (by decide +kernel)
set_option maxRecDepth 20000 in
theorem gX7_reason_X7_refusalOf : GoodIn wsX7_reason (wsV RX7 120 RX7 yX7_refusalOf wsX7_refusalOf) := goodIn_app (goodIn_of _ (by decide +kernel)) ggX7_reason_X7_refusalOf
theorem dX7_reason_0 : decode cX7_reason 0 = .ok (.iload_n 1, 1) := by decide +kernel
theorem dX7_reason_1 : decode cX7_reason 1 = .ok (.invokestatic 95, 3) := by decide +kernel
theorem dX7_reason_4 : decode cX7_reason 4 = .ok (.ifCond .ne 5, 3) := by decide +kernel
theorem dX7_reason_7 : decode cX7_reason 7 = .ok (.iconst (-1), 1) := by decide +kernel
theorem dX7_reason_8 : decode cX7_reason 8 = .ok (.ireturn, 1) := by decide +kernel
theorem dX7_reason_9 : decode cX7_reason 9 = .ok (.iload_n 2, 1) := by decide +kernel
theorem dX7_reason_10 : decode cX7_reason 10 = .ok (.invokestatic 106, 3) := by decide +kernel
theorem dX7_reason_13 : decode cX7_reason 13 = .ok (.ifCond .ne 6, 3) := by decide +kernel
theorem dX7_reason_16 : decode cX7_reason 16 = .ok (.bipush (-2), 2) := by decide +kernel
theorem dX7_reason_18 : decode cX7_reason 18 = .ok (.ireturn, 1) := by decide +kernel
theorem dX7_reason_19 : decode cX7_reason 19 = .ok (.aload_n 0, 1) := by decide +kernel
theorem dX7_reason_20 : decode cX7_reason 20 = .ok (.getfield 28, 3) := by decide +kernel
theorem dX7_reason_23 : decode cX7_reason 23 = .ok (.aload_n 0, 1) := by decide +kernel
theorem dX7_reason_24 : decode cX7_reason 24 = .ok (.getfield 42, 3) := by decide +kernel
theorem dX7_reason_27 : decode cX7_reason 27 = .ok (.iload_n 1, 1) := by decide +kernel
theorem dX7_reason_28 : decode cX7_reason 28 = .ok (.invokevirtual 109, 3) := by decide +kernel
theorem dX7_reason_31 : decode cX7_reason 31 = .ok (.aload_n 0, 1) := by decide +kernel
theorem dX7_reason_32 : decode cX7_reason 32 = .ok (.iload_n 2, 1) := by decide +kernel
theorem dX7_reason_33 : decode cX7_reason 33 = .ok (.invokevirtual 120, 3) := by decide +kernel
theorem dX7_reason_36 : decode cX7_reason 36 = .ok (.ireturn, 1) := by decide +kernel
set_option maxRecDepth 20000 in
theorem ggX7_leastSpread_X7_isBin : GoodIn wsX7_leastSpread wsX7_isBin := goodIn_r _ [7] (by decide +kernel) (by decide +kernel)
set_option maxRecDepth 20000 in
theorem gX7_leastSpread_X7_isBin : GoodIn wsX7_leastSpread (va_wsS RX7 95 yX7_isBin wsX7_isBin) := goodIn_app (goodIn_of _ (by decide +kernel)) ggX7_leastSpread_X7_isBin
set_option maxRecDepth 20000 in
theorem ggX7_leastSpread_X7_isWanted : GoodIn wsX7_leastSpread wsX7_isWanted := goodIn_r _ [10] (by decide +kernel) (by decide +kernel)
set_option maxRecDepth 20000 in
theorem gX7_leastSpread_X7_isWanted : GoodIn wsX7_leastSpread (va_wsS RX7 106 yX7_isWanted wsX7_isWanted) := goodIn_app (goodIn_of _ (by decide +kernel)) ggX7_leastSpread_X7_isWanted
set_option maxRecDepth 20000 in
theorem ggX7_leastSpread_X3_fill : GoodIn wsX7_leastSpread wsX3_fill := goodIn_r _ [15, 16, 17, 18, 19, 20, 21, 22, 23, 24, 14, 25, 26, 27, 48, 49, 50, 51, 52, 53, 54, 55, 56, 57, 58, 59, 60, 61, 62, 63, 64, 65, 66, 67, 68, 69, 70, 71] (by decide +kernel) (by decide +kernel)
set_option maxRecDepth 20000 in
theorem gX7_leastSpread_X3_fill : GoodIn wsX7_leastSpread (wsV RX7 109 RX3 yX3_fill wsX3_fill) := goodIn_app (goodIn_of _ (by decide +kernel)) ggX7_leastSpread_X3_fill
set_option maxRecDepth 20000 in
theorem ggX7_leastSpread_X3_narrowest : GoodIn wsX7_leastSpread wsX3_narrowest := goodIn_r _ [31, 16, 32, 33, 34, 35, 36, 37, 38, 14, 39, 26, 48, 49, 50] (by decide +kernel) (by decide +kernel)
set_option maxRecDepth 20000 in
theorem gX7_leastSpread_X3_narrowest : GoodIn wsX7_leastSpread (wsV RX7 201 RX3 yX3_narrowest wsX3_narrowest) := goodIn_app (goodIn_of _ (by decide +kernel)) ggX7_leastSpread_X3_narrowest
theorem dX7_leastSpread_0 : decode cX7_leastSpread 0 = .ok (.iload_n 1, 1) := by decide +kernel
theorem dX7_leastSpread_1 : decode cX7_leastSpread 1 = .ok (.invokestatic 95, 3) := by decide +kernel
theorem dX7_leastSpread_4 : decode cX7_leastSpread 4 = .ok (.ifCond .ne 5, 3) := by decide +kernel
theorem dX7_leastSpread_7 : decode cX7_leastSpread 7 = .ok (.iconst (-1), 1) := by decide +kernel
theorem dX7_leastSpread_8 : decode cX7_leastSpread 8 = .ok (.ireturn, 1) := by decide +kernel
theorem dX7_leastSpread_9 : decode cX7_leastSpread 9 = .ok (.iload_n 2, 1) := by decide +kernel
theorem dX7_leastSpread_10 : decode cX7_leastSpread 10 = .ok (.invokestatic 106, 3) := by decide +kernel
theorem dX7_leastSpread_13 : decode cX7_leastSpread 13 = .ok (.ifCond .ne 6, 3) := by decide +kernel
theorem dX7_leastSpread_16 : decode cX7_leastSpread 16 = .ok (.bipush (-2), 2) := by decide +kernel
theorem dX7_leastSpread_18 : decode cX7_leastSpread 18 = .ok (.ireturn, 1) := by decide +kernel
theorem dX7_leastSpread_19 : decode cX7_leastSpread 19 = .ok (.aload_n 0, 1) := by decide +kernel
theorem dX7_leastSpread_20 : decode cX7_leastSpread 20 = .ok (.getfield 28, 3) := by decide +kernel
theorem dX7_leastSpread_23 : decode cX7_leastSpread 23 = .ok (.aload_n 0, 1) := by decide +kernel
theorem dX7_leastSpread_24 : decode cX7_leastSpread 24 = .ok (.getfield 42, 3) := by decide +kernel
theorem dX7_leastSpread_27 : decode cX7_leastSpread 27 = .ok (.iload_n 1, 1) := by decide +kernel
theorem dX7_leastSpread_28 : decode cX7_leastSpread 28 = .ok (.invokevirtual 109, 3) := by decide +kernel
theorem dX7_leastSpread_31 : decode cX7_leastSpread 31 = .ok (.aload_n 0, 1) := by decide +kernel
theorem dX7_leastSpread_32 : decode cX7_leastSpread 32 = .ok (.getfield 28, 3) := by decide +kernel
theorem dX7_leastSpread_35 : decode cX7_leastSpread 35 = .ok (.getfield 189, 3) := by decide +kernel
theorem dX7_leastSpread_38 : decode cX7_leastSpread 38 = .ok (.iload_n 2, 1) := by decide +kernel
theorem dX7_leastSpread_39 : decode cX7_leastSpread 39 = .ok (.if_icmp .ge 8, 3) := by decide +kernel
theorem dX7_leastSpread_42 : decode cX7_leastSpread 42 = .ok (.bipush (-5), 2) := by decide +kernel
theorem dX7_leastSpread_44 : decode cX7_leastSpread 44 = .ok (.goto 11, 3) := by decide +kernel
theorem dX7_leastSpread_47 : decode cX7_leastSpread 47 = .ok (.aload_n 0, 1) := by decide +kernel
theorem dX7_leastSpread_48 : decode cX7_leastSpread 48 = .ok (.getfield 28, 3) := by decide +kernel
theorem dX7_leastSpread_51 : decode cX7_leastSpread 51 = .ok (.iload_n 2, 1) := by decide +kernel
theorem dX7_leastSpread_52 : decode cX7_leastSpread 52 = .ok (.invokevirtual 201, 3) := by decide +kernel
theorem dX7_leastSpread_55 : decode cX7_leastSpread 55 = .ok (.ireturn, 1) := by decide +kernel
set_option maxRecDepth 20000 in
theorem ggX7_shirts_X7_isWanted : GoodIn wsX7_shirts wsX7_isWanted := goodIn_r _ [7] (by decide +kernel) (by decide +kernel)
set_option maxRecDepth 20000 in
theorem gX7_shirts_X7_isWanted : GoodIn wsX7_shirts (va_wsS RX7 106 yX7_isWanted wsX7_isWanted) := goodIn_app (goodIn_of _ (by decide +kernel)) ggX7_shirts_X7_isWanted
set_option maxRecDepth 20000 in
theorem ggX7_shirts_X3_fill : GoodIn wsX7_shirts wsX3_fill := goodIn_r _ [12, 13, 14, 15, 16, 17, 18, 19, 20, 21, 11, 22, 23, 24, 49, 50, 51, 41, 42, 43, 44, 45, 46, 47, 48, 52, 53, 54, 55, 56, 57, 58, 59, 60, 61, 62, 63, 64] (by decide +kernel) (by decide +kernel)
set_option maxRecDepth 20000 in
theorem gX7_shirts_X3_fill : GoodIn wsX7_shirts (wsV RX7 109 RX3 yX3_fill wsX3_fill) := goodIn_app (goodIn_of _ (by decide +kernel)) ggX7_shirts_X3_fill
set_option maxRecDepth 20000 in
theorem ggX7_shirts_X3_groups : GoodIn wsX7_shirts wsX3_groups := goodIn_r _ [28, 13, 29, 30, 31, 11, 32, 23, 49, 50, 51] (by decide +kernel) (by decide +kernel)
set_option maxRecDepth 20000 in
theorem gX7_shirts_X3_groups : GoodIn wsX7_shirts (wsV RX7 225 RX3 yX3_groups wsX3_groups) := goodIn_app (goodIn_of _ (by decide +kernel)) ggX7_shirts_X3_groups
theorem dX7_shirts_0 : decode cX7_shirts 0 = .ok (.iload_n 1, 1) := by decide +kernel
theorem dX7_shirts_1 : decode cX7_shirts 1 = .ok (.invokestatic 106, 3) := by decide +kernel
theorem dX7_shirts_4 : decode cX7_shirts 4 = .ok (.ifCond .ne 6, 3) := by decide +kernel
theorem dX7_shirts_7 : decode cX7_shirts 7 = .ok (.bipush (-2), 2) := by decide +kernel
theorem dX7_shirts_9 : decode cX7_shirts 9 = .ok (.ireturn, 1) := by decide +kernel
theorem dX7_shirts_10 : decode cX7_shirts 10 = .ok (.iconst 0, 1) := by decide +kernel
theorem dX7_shirts_11 : decode cX7_shirts 11 = .ok (.istore_n 2, 1) := by decide +kernel
theorem dX7_shirts_12 : decode cX7_shirts 12 = .ok (.iconst 0, 1) := by decide +kernel
theorem dX7_shirts_13 : decode cX7_shirts 13 = .ok (.istore_n 3, 1) := by decide +kernel
theorem dX7_shirts_14 : decode cX7_shirts 14 = .ok (.iload_n 3, 1) := by decide +kernel
theorem dX7_shirts_15 : decode cX7_shirts 15 = .ok (.bipush 12, 2) := by decide +kernel
theorem dX7_shirts_17 : decode cX7_shirts 17 = .ok (.if_icmp .ge 42, 3) := by decide +kernel
theorem dX7_shirts_20 : decode cX7_shirts 20 = .ok (.aload_n 0, 1) := by decide +kernel
theorem dX7_shirts_21 : decode cX7_shirts 21 = .ok (.getfield 28, 3) := by decide +kernel
theorem dX7_shirts_24 : decode cX7_shirts 24 = .ok (.aload_n 0, 1) := by decide +kernel
theorem dX7_shirts_25 : decode cX7_shirts 25 = .ok (.getfield 42, 3) := by decide +kernel
theorem dX7_shirts_28 : decode cX7_shirts 28 = .ok (.iload_n 3, 1) := by decide +kernel
theorem dX7_shirts_29 : decode cX7_shirts 29 = .ok (.invokevirtual 109, 3) := by decide +kernel
theorem dX7_shirts_32 : decode cX7_shirts 32 = .ok (.iload_n 2, 1) := by decide +kernel
theorem dX7_shirts_33 : decode cX7_shirts 33 = .ok (.aload_n 0, 1) := by decide +kernel
theorem dX7_shirts_34 : decode cX7_shirts 34 = .ok (.getfield 28, 3) := by decide +kernel
theorem dX7_shirts_37 : decode cX7_shirts 37 = .ok (.iload_n 1, 1) := by decide +kernel
theorem dX7_shirts_38 : decode cX7_shirts 38 = .ok (.aload_n 0, 1) := by decide +kernel
theorem dX7_shirts_39 : decode cX7_shirts 39 = .ok (.getfield 42, 3) := by decide +kernel
theorem dX7_shirts_42 : decode cX7_shirts 42 = .ok (.getfield 113, 3) := by decide +kernel
theorem dX7_shirts_45 : decode cX7_shirts 45 = .ok (.bipush 7, 2) := by decide +kernel
theorem dX7_shirts_47 : decode cX7_shirts 47 = .ok (.iaload, 1) := by decide +kernel
theorem dX7_shirts_48 : decode cX7_shirts 48 = .ok (.invokevirtual 225, 3) := by decide +kernel
theorem dX7_shirts_51 : decode cX7_shirts 51 = .ok (.iadd, 1) := by decide +kernel
theorem dX7_shirts_52 : decode cX7_shirts 52 = .ok (.istore_n 2, 1) := by decide +kernel
theorem dX7_shirts_53 : decode cX7_shirts 53 = .ok (.iinc 3 1, 3) := by decide +kernel
theorem dX7_shirts_56 : decode cX7_shirts 56 = .ok (.goto (-42), 3) := by decide +kernel
theorem dX7_shirts_59 : decode cX7_shirts 59 = .ok (.iload_n 2, 1) := by decide +kernel
theorem dX7_shirts_60 : decode cX7_shirts 60 = .ok (.ireturn, 1) := by decide +kernel
set_option maxRecDepth 20000 in
theorem ggX7_ifMesh_X7_isValue : GoodIn wsX7_ifMesh wsX7_isValue := goodIn_r _ [9, 10, 11] (by decide +kernel) (by decide +kernel)
set_option maxRecDepth 20000 in
theorem gX7_ifMesh_X7_isValue : GoodIn wsX7_ifMesh (va_wsS RX7 140 yX7_isValue wsX7_isValue) := goodIn_app (goodIn_of _ (by decide +kernel)) ggX7_ifMesh_X7_isValue
set_option maxRecDepth 20000 in
theorem ggX7_ifMesh_X7_isPlace : GoodIn wsX7_ifMesh wsX7_isPlace := goodIn_r _ [14] (by decide +kernel) (by decide +kernel)
set_option maxRecDepth 20000 in
theorem gX7_ifMesh_X7_isPlace : GoodIn wsX7_ifMesh (va_wsS RX7 228 yX7_isPlace wsX7_isPlace) := goodIn_app (goodIn_of _ (by decide +kernel)) ggX7_ifMesh_X7_isPlace
set_option maxRecDepth 20000 in
theorem ggX7_ifMesh_X5_meshesAllow : GoodIn wsX7_ifMesh wsX5_meshesAllow := goodIn_r _ [19, 20, 145, 146, 147, 148, 149, 150, 151, 152] (by decide +kernel) (by decide +kernel)
set_option maxRecDepth 20000 in
theorem gX7_ifMesh_X5_meshesAllow : GoodIn wsX7_ifMesh (wsV RX7 144 RX5 yX5_meshesAllow wsX5_meshesAllow) := goodIn_app (goodIn_of _ (by decide +kernel)) ggX7_ifMesh_X5_meshesAllow
set_option maxRecDepth 20000 in
theorem ggX7_ifMesh_X5_copyFrom : GoodIn wsX7_ifMesh wsX5_copyFrom := goodIn_r _ [24, 25, 26, 20, 27, 28, 29, 30, 31, 32, 33, 34, 35, 36, 37, 38, 39, 40, 41, 42, 43, 44, 45, 46, 47, 48, 49, 50, 51, 52, 53, 54, 55, 56, 57, 58, 59, 60, 145, 146, 147, 148, 149, 150, 151, 152, 159, 160, 161, 162, 163, 164, 165, 153, 154, 155, 156, 157, 158] (by decide +kernel) (by decide +kernel)
set_option maxRecDepth 20000 in
theorem gX7_ifMesh_X5_copyFrom : GoodIn wsX7_ifMesh (wsV RX7 159 RX5 yX5_copyFrom wsX5_copyFrom) := goodIn_app (goodIn_of _ (by decide +kernel)) ggX7_ifMesh_X5_copyFrom
set_option maxRecDepth 20000 in
theorem ggX7_ifMesh_X5_sortFirst : GoodIn wsX7_ifMesh wsX5_sortFirst := goodIn_r _ [64, 26, 25, 65, 33, 34, 66, 67, 68, 52, 69, 59, 58, 55, 28, 29, 30, 70, 71, 72, 73, 54, 56, 60, 74, 75, 76, 13, 8, 14, 77, 78, 79, 80, 81, 39, 82, 41, 83, 84, 85, 18, 86, 87, 20, 88, 89, 90, 91, 92, 93, 94, 95, 96, 97, 98, 99, 100, 101, 102, 103, 104, 105, 106, 107, 108, 109, 110, 111, 112, 57, 113, 114, 115, 116, 117, 118, 119, 120, 121, 122, 123, 35, 124, 125, 126, 127, 46, 128, 129, 130, 131, 132, 133, 134, 135, 136, 145, 146, 147, 148, 149, 150, 151, 152, 159, 160, 161, 162, 163, 164, 165, 153, 154, 155, 156, 157, 158] (by decide +kernel) (by decide +kernel)
set_option maxRecDepth 20000 in
theorem gX7_ifMesh_X5_sortFirst : GoodIn wsX7_ifMesh (wsV RX7 89 RX5 yX5_sortFirst wsX5_sortFirst) := goodIn_app (goodIn_of _ (by decide +kernel)) ggX7_ifMesh_X5_sortFirst
theorem dX7_ifMesh_0 : decode cX7_ifMesh 0 = .ok (.iload_n 1, 1) := by decide +kernel
theorem dX7_ifMesh_1 : decode cX7_ifMesh 1 = .ok (.ifCond .lt 8, 3) := by decide +kernel
theorem dX7_ifMesh_4 : decode cX7_ifMesh 4 = .ok (.iload_n 1, 1) := by decide +kernel
theorem dX7_ifMesh_5 : decode cX7_ifMesh 5 = .ok (.iconst 3, 1) := by decide +kernel
theorem dX7_ifMesh_6 : decode cX7_ifMesh 6 = .ok (.if_icmp .lt 5, 3) := by decide +kernel
theorem dX7_ifMesh_9 : decode cX7_ifMesh 9 = .ok (.iconst (-1), 1) := by decide +kernel
theorem dX7_ifMesh_10 : decode cX7_ifMesh 10 = .ok (.ireturn, 1) := by decide +kernel
theorem dX7_ifMesh_11 : decode cX7_ifMesh 11 = .ok (.iload_n 1, 1) := by decide +kernel
theorem dX7_ifMesh_12 : decode cX7_ifMesh 12 = .ok (.iload_n 2, 1) := by decide +kernel
theorem dX7_ifMesh_13 : decode cX7_ifMesh 13 = .ok (.invokestatic 140, 3) := by decide +kernel
theorem dX7_ifMesh_16 : decode cX7_ifMesh 16 = .ok (.ifCond .eq 10, 3) := by decide +kernel
theorem dX7_ifMesh_19 : decode cX7_ifMesh 19 = .ok (.iload_n 3, 1) := by decide +kernel
theorem dX7_ifMesh_20 : decode cX7_ifMesh 20 = .ok (.invokestatic 228, 3) := by decide +kernel
theorem dX7_ifMesh_23 : decode cX7_ifMesh 23 = .ok (.ifCond .ne 6, 3) := by decide +kernel
theorem dX7_ifMesh_26 : decode cX7_ifMesh 26 = .ok (.bipush (-2), 2) := by decide +kernel
theorem dX7_ifMesh_28 : decode cX7_ifMesh 28 = .ok (.ireturn, 1) := by decide +kernel
theorem dX7_ifMesh_29 : decode cX7_ifMesh 29 = .ok (.aload_n 0, 1) := by decide +kernel
theorem dX7_ifMesh_30 : decode cX7_ifMesh 30 = .ok (.getfield 42, 3) := by decide +kernel
theorem dX7_ifMesh_33 : decode cX7_ifMesh 33 = .ok (.iload_n 1, 1) := by decide +kernel
theorem dX7_ifMesh_34 : decode cX7_ifMesh 34 = .ok (.iload_n 2, 1) := by decide +kernel
theorem dX7_ifMesh_35 : decode cX7_ifMesh 35 = .ok (.invokevirtual 144, 3) := by decide +kernel
theorem dX7_ifMesh_38 : decode cX7_ifMesh 38 = .ok (.ifCond .ne 6, 3) := by decide +kernel
theorem dX7_ifMesh_41 : decode cX7_ifMesh 41 = .ok (.bipush (-4), 2) := by decide +kernel
theorem dX7_ifMesh_43 : decode cX7_ifMesh 43 = .ok (.ireturn, 1) := by decide +kernel
theorem dX7_ifMesh_44 : decode cX7_ifMesh 44 = .ok (.aload_n 0, 1) := by decide +kernel
theorem dX7_ifMesh_45 : decode cX7_ifMesh 45 = .ok (.getfield 49, 3) := by decide +kernel
theorem dX7_ifMesh_48 : decode cX7_ifMesh 48 = .ok (.aload_n 0, 1) := by decide +kernel
theorem dX7_ifMesh_49 : decode cX7_ifMesh 49 = .ok (.getfield 42, 3) := by decide +kernel
theorem dX7_ifMesh_52 : decode cX7_ifMesh 52 = .ok (.invokevirtual 159, 3) := by decide +kernel
theorem dX7_ifMesh_55 : decode cX7_ifMesh 55 = .ok (.aload_n 0, 1) := by decide +kernel
theorem dX7_ifMesh_56 : decode cX7_ifMesh 56 = .ok (.getfield 49, 3) := by decide +kernel
theorem dX7_ifMesh_59 : decode cX7_ifMesh 59 = .ok (.getfield 113, 3) := by decide +kernel
theorem dX7_ifMesh_62 : decode cX7_ifMesh 62 = .ok (.iload_n 1, 1) := by decide +kernel
theorem dX7_ifMesh_63 : decode cX7_ifMesh 63 = .ok (.iload_n 2, 1) := by decide +kernel
theorem dX7_ifMesh_64 : decode cX7_ifMesh 64 = .ok (.iastore, 1) := by decide +kernel
theorem dX7_ifMesh_65 : decode cX7_ifMesh 65 = .ok (.aload_n 0, 1) := by decide +kernel
theorem dX7_ifMesh_66 : decode cX7_ifMesh 66 = .ok (.getfield 49, 3) := by decide +kernel
theorem dX7_ifMesh_69 : decode cX7_ifMesh 69 = .ok (.getfield 79, 3) := by decide +kernel
theorem dX7_ifMesh_72 : decode cX7_ifMesh 72 = .ok (.getfield 83, 3) := by decide +kernel
theorem dX7_ifMesh_75 : decode cX7_ifMesh 75 = .ok (.iconst 0, 1) := by decide +kernel
theorem dX7_ifMesh_76 : decode cX7_ifMesh 76 = .ok (.iaload, 1) := by decide +kernel
theorem dX7_ifMesh_77 : decode cX7_ifMesh 77 = .ok (.istore 4, 2) := by decide +kernel
theorem dX7_ifMesh_79 : decode cX7_ifMesh 79 = .ok (.iconst 0, 1) := by decide +kernel
theorem dX7_ifMesh_80 : decode cX7_ifMesh 80 = .ok (.istore 5, 2) := by decide +kernel
theorem dX7_ifMesh_82 : decode cX7_ifMesh 82 = .ok (.iload 5, 2) := by decide +kernel
theorem dX7_ifMesh_84 : decode cX7_ifMesh 84 = .ok (.iload 4, 2) := by decide +kernel
theorem dX7_ifMesh_86 : decode cX7_ifMesh 86 = .ok (.if_icmp .ge 16, 3) := by decide +kernel
theorem dX7_ifMesh_89 : decode cX7_ifMesh 89 = .ok (.aload_n 0, 1) := by decide +kernel
theorem dX7_ifMesh_90 : decode cX7_ifMesh 90 = .ok (.getfield 49, 3) := by decide +kernel
theorem dX7_ifMesh_93 : decode cX7_ifMesh 93 = .ok (.invokevirtual 89, 3) := by decide +kernel
theorem dX7_ifMesh_96 : decode cX7_ifMesh 96 = .ok (.iinc 5 1, 3) := by decide +kernel
theorem dX7_ifMesh_99 : decode cX7_ifMesh 99 = .ok (.goto (-17), 3) := by decide +kernel
theorem dX7_ifMesh_102 : decode cX7_ifMesh 102 = .ok (.aload_n 0, 1) := by decide +kernel
theorem dX7_ifMesh_103 : decode cX7_ifMesh 103 = .ok (.getfield 49, 3) := by decide +kernel
theorem dX7_ifMesh_106 : decode cX7_ifMesh 106 = .ok (.getfield 79, 3) := by decide +kernel
theorem dX7_ifMesh_109 : decode cX7_ifMesh 109 = .ok (.getfield 83, 3) := by decide +kernel
theorem dX7_ifMesh_112 : decode cX7_ifMesh 112 = .ok (.iload_n 3, 1) := by decide +kernel
theorem dX7_ifMesh_113 : decode cX7_ifMesh 113 = .ok (.iaload, 1) := by decide +kernel
theorem dX7_ifMesh_114 : decode cX7_ifMesh 114 = .ok (.ireturn, 1) := by decide +kernel
theorem dX7_isBin_0 : decode cX7_isBin 0 = .ok (.iload_n 0, 1) := by decide +kernel
theorem dX7_isBin_1 : decode cX7_isBin 1 = .ok (.ifCond .lt 13, 3) := by decide +kernel
theorem dX7_isBin_4 : decode cX7_isBin 4 = .ok (.iload_n 0, 1) := by decide +kernel
theorem dX7_isBin_5 : decode cX7_isBin 5 = .ok (.bipush 12, 2) := by decide +kernel
theorem dX7_isBin_7 : decode cX7_isBin 7 = .ok (.if_icmp .ge 7, 3) := by decide +kernel
theorem dX7_isBin_10 : decode cX7_isBin 10 = .ok (.iconst 1, 1) := by decide +kernel
theorem dX7_isBin_11 : decode cX7_isBin 11 = .ok (.goto 4, 3) := by decide +kernel
theorem dX7_isBin_14 : decode cX7_isBin 14 = .ok (.iconst 0, 1) := by decide +kernel
theorem dX7_isBin_15 : decode cX7_isBin 15 = .ok (.ireturn, 1) := by decide +kernel
theorem dX7_isPlace_0 : decode cX7_isPlace 0 = .ok (.iload_n 0, 1) := by decide +kernel
theorem dX7_isPlace_1 : decode cX7_isPlace 1 = .ok (.ifCond .lt 13, 3) := by decide +kernel
theorem dX7_isPlace_4 : decode cX7_isPlace 4 = .ok (.iload_n 0, 1) := by decide +kernel
theorem dX7_isPlace_5 : decode cX7_isPlace 5 = .ok (.bipush 7, 2) := by decide +kernel
theorem dX7_isPlace_7 : decode cX7_isPlace 7 = .ok (.if_icmp .ge 7, 3) := by decide +kernel
theorem dX7_isPlace_10 : decode cX7_isPlace 10 = .ok (.iconst 1, 1) := by decide +kernel
theorem dX7_isPlace_11 : decode cX7_isPlace 11 = .ok (.goto 4, 3) := by decide +kernel
theorem dX7_isPlace_14 : decode cX7_isPlace 14 = .ok (.iconst 0, 1) := by decide +kernel
theorem dX7_isPlace_15 : decode cX7_isPlace 15 = .ok (.ireturn, 1) := by decide +kernel
theorem dX7_isWanted_0 : decode cX7_isWanted 0 = .ok (.iload_n 0, 1) := by decide +kernel
theorem dX7_isWanted_1 : decode cX7_isWanted 1 = .ok (.iconst 1, 1) := by decide +kernel
theorem dX7_isWanted_2 : decode cX7_isWanted 2 = .ok (.if_icmp .lt 13, 3) := by decide +kernel
theorem dX7_isWanted_5 : decode cX7_isWanted 5 = .ok (.iload_n 0, 1) := by decide +kernel
theorem dX7_isWanted_6 : decode cX7_isWanted 6 = .ok (.bipush 9, 2) := by decide +kernel
theorem dX7_isWanted_8 : decode cX7_isWanted 8 = .ok (.if_icmp .gt 7, 3) := by decide +kernel
theorem dX7_isWanted_11 : decode cX7_isWanted 11 = .ok (.iconst 1, 1) := by decide +kernel
theorem dX7_isWanted_12 : decode cX7_isWanted 12 = .ok (.goto 4, 3) := by decide +kernel
theorem dX7_isWanted_15 : decode cX7_isWanted 15 = .ok (.iconst 0, 1) := by decide +kernel
theorem dX7_isWanted_16 : decode cX7_isWanted 16 = .ok (.ireturn, 1) := by decide +kernel
theorem dX7_isValue_0 : decode cX7_isValue 0 = .ok (.iload_n 1, 1) := by decide +kernel
theorem dX7_isValue_1 : decode cX7_isValue 1 = .ok (.getstatic 231, 3) := by decide +kernel
theorem dX7_isValue_4 : decode cX7_isValue 4 = .ok (.iload_n 0, 1) := by decide +kernel
theorem dX7_isValue_5 : decode cX7_isValue 5 = .ok (.iaload, 1) := by decide +kernel
theorem dX7_isValue_6 : decode cX7_isValue 6 = .ok (.if_icmp .lt 16, 3) := by decide +kernel
theorem dX7_isValue_9 : decode cX7_isValue 9 = .ok (.iload_n 1, 1) := by decide +kernel
theorem dX7_isValue_10 : decode cX7_isValue 10 = .ok (.getstatic 234, 3) := by decide +kernel
theorem dX7_isValue_13 : decode cX7_isValue 13 = .ok (.iload_n 0, 1) := by decide +kernel
theorem dX7_isValue_14 : decode cX7_isValue 14 = .ok (.iaload, 1) := by decide +kernel
theorem dX7_isValue_15 : decode cX7_isValue 15 = .ok (.if_icmp .gt 7, 3) := by decide +kernel
theorem dX7_isValue_18 : decode cX7_isValue 18 = .ok (.iconst 1, 1) := by decide +kernel
theorem dX7_isValue_19 : decode cX7_isValue 19 = .ok (.goto 4, 3) := by decide +kernel
theorem dX7_isValue_22 : decode cX7_isValue 22 = .ok (.iconst 0, 1) := by decide +kernel
theorem dX7_isValue_23 : decode cX7_isValue 23 = .ok (.ireturn, 1) := by decide +kernel
set_option maxRecDepth 20000 in
theorem ggX7_refusalOf_X3_firstAlike : GoodIn wsX7_refusalOf wsX3_firstAlike := goodIn_r _ [9, 10, 11, 12, 13, 8, 14, 15, 24, 25, 26] (by decide +kernel) (by decide +kernel)
set_option maxRecDepth 20000 in
theorem gX7_refusalOf_X3_firstAlike : GoodIn wsX7_refusalOf (wsV RX7 116 RX3 yX3_firstAlike wsX3_firstAlike) := goodIn_app (goodIn_of _ (by decide +kernel)) ggX7_refusalOf_X3_firstAlike
theorem dX7_refusalOf_0 : decode cX7_refusalOf 0 = .ok (.aload_n 0, 1) := by decide +kernel
theorem dX7_refusalOf_1 : decode cX7_refusalOf 1 = .ok (.getfield 28, 3) := by decide +kernel
theorem dX7_refusalOf_4 : decode cX7_refusalOf 4 = .ok (.getfield 189, 3) := by decide +kernel
theorem dX7_refusalOf_7 : decode cX7_refusalOf 7 = .ok (.iload_n 1, 1) := by decide +kernel
theorem dX7_refusalOf_8 : decode cX7_refusalOf 8 = .ok (.if_icmp .ge 5, 3) := by decide +kernel
theorem dX7_refusalOf_11 : decode cX7_refusalOf 11 = .ok (.iconst 1, 1) := by decide +kernel
theorem dX7_refusalOf_12 : decode cX7_refusalOf 12 = .ok (.ireturn, 1) := by decide +kernel
theorem dX7_refusalOf_13 : decode cX7_refusalOf 13 = .ok (.aload_n 0, 1) := by decide +kernel
theorem dX7_refusalOf_14 : decode cX7_refusalOf 14 = .ok (.getfield 28, 3) := by decide +kernel
theorem dX7_refusalOf_17 : decode cX7_refusalOf 17 = .ok (.iload_n 1, 1) := by decide +kernel
theorem dX7_refusalOf_18 : decode cX7_refusalOf 18 = .ok (.aload_n 0, 1) := by decide +kernel
theorem dX7_refusalOf_19 : decode cX7_refusalOf 19 = .ok (.getfield 42, 3) := by decide +kernel
theorem dX7_refusalOf_22 : decode cX7_refusalOf 22 = .ok (.getfield 113, 3) := by decide +kernel
theorem dX7_refusalOf_25 : decode cX7_refusalOf 25 = .ok (.bipush 7, 2) := by decide +kernel
theorem dX7_refusalOf_27 : decode cX7_refusalOf 27 = .ok (.iaload, 1) := by decide +kernel
theorem dX7_refusalOf_28 : decode cX7_refusalOf 28 = .ok (.invokevirtual 116, 3) := by decide +kernel
theorem dX7_refusalOf_31 : decode cX7_refusalOf 31 = .ok (.ifCond .lt 7, 3) := by decide +kernel
theorem dX7_refusalOf_34 : decode cX7_refusalOf 34 = .ok (.iconst 0, 1) := by decide +kernel
theorem dX7_refusalOf_35 : decode cX7_refusalOf 35 = .ok (.goto 4, 3) := by decide +kernel
theorem dX7_refusalOf_38 : decode cX7_refusalOf 38 = .ok (.iconst 2, 1) := by decide +kernel
theorem dX7_refusalOf_39 : decode cX7_refusalOf 39 = .ok (.ireturn, 1) := by decide +kernel
theorem dX8_init_0 : decode cX8_init 0 = .ok (.aload_n 0, 1) := by decide +kernel
theorem dX8_init_1 : decode cX8_init 1 = .ok (.invokespecial 1, 3) := by decide +kernel
theorem dX8_init_4 : decode cX8_init 4 = .ok (.aload_n 0, 1) := by decide +kernel
theorem dX8_init_5 : decode cX8_init 5 = .ok (.sipush 415, 3) := by decide +kernel
theorem dX8_init_8 : decode cX8_init 8 = .ok (.newarray .int, 2) := by decide +kernel
theorem dX8_init_10 : decode cX8_init 10 = .ok (.putfield 7, 3) := by decide +kernel
theorem dX8_init_13 : decode cX8_init 13 = .ok (.aload_n 0, 1) := by decide +kernel
theorem dX8_init_14 : decode cX8_init 14 = .ok (.sipush 1660, 3) := by decide +kernel
theorem dX8_init_17 : decode cX8_init 17 = .ok (.newarray .int, 2) := by decide +kernel
theorem dX8_init_19 : decode cX8_init 19 = .ok (.putfield 13, 3) := by decide +kernel
theorem dX8_init_22 : decode cX8_init 22 = .ok (.aload_n 0, 1) := by decide +kernel
theorem dX8_init_23 : decode cX8_init 23 = .ok (.sipush 415, 3) := by decide +kernel
theorem dX8_init_26 : decode cX8_init 26 = .ok (.newarray .int, 2) := by decide +kernel
theorem dX8_init_28 : decode cX8_init 28 = .ok (.putfield 16, 3) := by decide +kernel
theorem dX8_init_31 : decode cX8_init 31 = .ok (.aload_n 0, 1) := by decide +kernel
theorem dX8_init_32 : decode cX8_init 32 = .ok (.sipush 415, 3) := by decide +kernel
theorem dX8_init_35 : decode cX8_init 35 = .ok (.newarray .int, 2) := by decide +kernel
theorem dX8_init_37 : decode cX8_init 37 = .ok (.putfield 19, 3) := by decide +kernel
theorem dX8_init_40 : decode cX8_init 40 = .ok (.aload_n 0, 1) := by decide +kernel
theorem dX8_init_41 : decode cX8_init 41 = .ok (.bipush 40, 2) := by decide +kernel
theorem dX8_init_43 : decode cX8_init 43 = .ok (.newarray .int, 2) := by decide +kernel
theorem dX8_init_45 : decode cX8_init 45 = .ok (.putfield 22, 3) := by decide +kernel
theorem dX8_init_48 : decode cX8_init 48 = .ok (.aload_n 0, 1) := by decide +kernel
theorem dX8_init_49 : decode cX8_init 49 = .ok (.bipush 60, 2) := by decide +kernel
theorem dX8_init_51 : decode cX8_init 51 = .ok (.newarray .int, 2) := by decide +kernel
theorem dX8_init_53 : decode cX8_init 53 = .ok (.putfield 25, 3) := by decide +kernel
theorem dX8_init_56 : decode cX8_init 56 = .ok (.aload_n 0, 1) := by decide +kernel
theorem dX8_init_57 : decode cX8_init 57 = .ok (.bipush 100, 2) := by decide +kernel
theorem dX8_init_59 : decode cX8_init 59 = .ok (.newarray .int, 2) := by decide +kernel
theorem dX8_init_61 : decode cX8_init 61 = .ok (.putfield 28, 3) := by decide +kernel
theorem dX8_init_64 : decode cX8_init 64 = .ok (.aload_n 0, 1) := by decide +kernel
theorem dX8_init_65 : decode cX8_init 65 = .ok (.getfield 7, 3) := by decide +kernel
theorem dX8_init_68 : decode cX8_init 68 = .ok (.iconst 0, 1) := by decide +kernel
theorem dX8_init_69 : decode cX8_init 69 = .ok (.bipush 10, 2) := by decide +kernel
theorem dX8_init_71 : decode cX8_init 71 = .ok (.iastore, 1) := by decide +kernel
theorem dX8_init_72 : decode cX8_init 72 = .ok (.aload_n 0, 1) := by decide +kernel
theorem dX8_init_73 : decode cX8_init 73 = .ok (.getfield 7, 3) := by decide +kernel
theorem dX8_init_76 : decode cX8_init 76 = .ok (.iconst 1, 1) := by decide +kernel
theorem dX8_init_77 : decode cX8_init 77 = .ok (.bipush 15, 2) := by decide +kernel
theorem dX8_init_79 : decode cX8_init 79 = .ok (.iastore, 1) := by decide +kernel
theorem dX8_init_80 : decode cX8_init 80 = .ok (.aload_n 0, 1) := by decide +kernel
theorem dX8_init_81 : decode cX8_init 81 = .ok (.getfield 7, 3) := by decide +kernel
theorem dX8_init_84 : decode cX8_init 84 = .ok (.iconst 2, 1) := by decide +kernel
theorem dX8_init_85 : decode cX8_init 85 = .ok (.bipush 22, 2) := by decide +kernel
theorem dX8_init_87 : decode cX8_init 87 = .ok (.iastore, 1) := by decide +kernel
theorem dX8_init_88 : decode cX8_init 88 = .ok (.aload_n 0, 1) := by decide +kernel
theorem dX8_init_89 : decode cX8_init 89 = .ok (.getfield 7, 3) := by decide +kernel
theorem dX8_init_92 : decode cX8_init 92 = .ok (.iconst 3, 1) := by decide +kernel
theorem dX8_init_93 : decode cX8_init 93 = .ok (.iconst 4, 1) := by decide +kernel
theorem dX8_init_94 : decode cX8_init 94 = .ok (.iastore, 1) := by decide +kernel
theorem dX8_init_95 : decode cX8_init 95 = .ok (.aload_n 0, 1) := by decide +kernel
theorem dX8_init_96 : decode cX8_init 96 = .ok (.getfield 7, 3) := by decide +kernel
theorem dX8_init_99 : decode cX8_init 99 = .ok (.iconst 4, 1) := by decide +kernel
theorem dX8_init_100 : decode cX8_init 100 = .ok (.bipush 6, 2) := by decide +kernel
theorem dX8_init_102 : decode cX8_init 102 = .ok (.iastore, 1) := by decide +kernel
theorem dX8_init_103 : decode cX8_init 103 = .ok (.aload_n 0, 1) := by decide +kernel
theorem dX8_init_104 : decode cX8_init 104 = .ok (.getfield 7, 3) := by decide +kernel
theorem dX8_init_107 : decode cX8_init 107 = .ok (.iconst 5, 1) := by decide +kernel
theorem dX8_init_108 : decode cX8_init 108 = .ok (.iconst 3, 1) := by decide +kernel
theorem dX8_init_109 : decode cX8_init 109 = .ok (.iastore, 1) := by decide +kernel
theorem dX8_init_110 : decode cX8_init 110 = .ok (.aload_n 0, 1) := by decide +kernel
theorem dX8_init_111 : decode cX8_init 111 = .ok (.getfield 7, 3) := by decide +kernel
theorem dX8_init_114 : decode cX8_init 114 = .ok (.bipush 6, 2) := by decide +kernel
theorem dX8_init_116 : decode cX8_init 116 = .ok (.bipush 10, 2) := by decide +kernel
theorem dX8_init_118 : decode cX8_init 118 = .ok (.iastore, 1) := by decide +kernel
theorem dX8_init_119 : decode cX8_init 119 = .ok (.aload_n 0, 1) := by decide +kernel
theorem dX8_init_120 : decode cX8_init 120 = .ok (.getfield 7, 3) := by decide +kernel
theorem dX8_init_123 : decode cX8_init 123 = .ok (.bipush 7, 2) := by decide +kernel
theorem dX8_init_125 : decode cX8_init 125 = .ok (.iconst 2, 1) := by decide +kernel
theorem dX8_init_126 : decode cX8_init 126 = .ok (.iastore, 1) := by decide +kernel
theorem dX8_init_127 : decode cX8_init 127 = .ok (.return_, 1) := by decide +kernel
theorem dX8_in_0 : decode cX8_in 0 = .ok (.iload_n 0, 1) := by decide +kernel
theorem dX8_in_1 : decode cX8_in 1 = .ok (.iload_n 1, 1) := by decide +kernel
theorem dX8_in_2 : decode cX8_in 2 = .ok (.if_icmp .lt 12, 3) := by decide +kernel
theorem dX8_in_5 : decode cX8_in 5 = .ok (.iload_n 0, 1) := by decide +kernel
theorem dX8_in_6 : decode cX8_in 6 = .ok (.iload_n 2, 1) := by decide +kernel
theorem dX8_in_7 : decode cX8_in 7 = .ok (.if_icmp .gt 7, 3) := by decide +kernel
theorem dX8_in_10 : decode cX8_in 10 = .ok (.iconst 1, 1) := by decide +kernel
theorem dX8_in_11 : decode cX8_in 11 = .ok (.goto 4, 3) := by decide +kernel
theorem dX8_in_14 : decode cX8_in 14 = .ok (.iconst 0, 1) := by decide +kernel
theorem dX8_in_15 : decode cX8_in 15 = .ok (.ireturn, 1) := by decide +kernel
set_option maxRecDepth 20000 in
theorem ggX8_isButton_X8_in : GoodIn wsX8_isButton wsX8_in := goodIn_r _ [5] (by decide +kernel) (by decide +kernel)
set_option maxRecDepth 20000 in
theorem gX8_isButton_X8_in : GoodIn wsX8_isButton (va_wsS RX8 31 yX8_in wsX8_in) := goodIn_app (goodIn_of _ (by decide +kernel)) ggX8_isButton_X8_in
theorem dX8_isButton_0 : decode cX8_isButton 0 = .ok (.iload_n 1, 1) := by decide +kernel
theorem dX8_isButton_1 : decode cX8_isButton 1 = .ok (.iconst 0, 1) := by decide +kernel
theorem dX8_isButton_2 : decode cX8_isButton 2 = .ok (.aload_n 0, 1) := by decide +kernel
theorem dX8_isButton_3 : decode cX8_isButton 3 = .ok (.getfield 7, 3) := by decide +kernel
theorem dX8_isButton_6 : decode cX8_isButton 6 = .ok (.bipush 13, 2) := by decide +kernel
theorem dX8_isButton_8 : decode cX8_isButton 8 = .ok (.iaload, 1) := by decide +kernel
theorem dX8_isButton_9 : decode cX8_isButton 9 = .ok (.iconst 1, 1) := by decide +kernel
theorem dX8_isButton_10 : decode cX8_isButton 10 = .ok (.isub, 1) := by decide +kernel
theorem dX8_isButton_11 : decode cX8_isButton 11 = .ok (.invokestatic 31, 3) := by decide +kernel
theorem dX8_isButton_14 : decode cX8_isButton 14 = .ok (.ireturn, 1) := by decide +kernel
set_option maxRecDepth 20000 in
theorem ggX8_isBin_X8_in : GoodIn wsX8_isBin wsX8_in := goodIn_r _ [4] (by decide +kernel) (by decide +kernel)
set_option maxRecDepth 20000 in
theorem gX8_isBin_X8_in : GoodIn wsX8_isBin (va_wsS RX8 31 yX8_in wsX8_in) := goodIn_app (goodIn_of _ (by decide +kernel)) ggX8_isBin_X8_in
theorem dX8_isBin_0 : decode cX8_isBin 0 = .ok (.iload_n 0, 1) := by decide +kernel
theorem dX8_isBin_1 : decode cX8_isBin 1 = .ok (.iconst 0, 1) := by decide +kernel
theorem dX8_isBin_2 : decode cX8_isBin 2 = .ok (.bipush 11, 2) := by decide +kernel
theorem dX8_isBin_4 : decode cX8_isBin 4 = .ok (.invokestatic 31, 3) := by decide +kernel
theorem dX8_isBin_7 : decode cX8_isBin 7 = .ok (.ireturn, 1) := by decide +kernel
theorem dX8_of_0 : decode cX8_of 0 = .ok (.aload_n 0, 1) := by decide +kernel
theorem dX8_of_1 : decode cX8_of 1 = .ok (.getfield 7, 3) := by decide +kernel
theorem dX8_of_4 : decode cX8_of 4 = .ok (.bipush 55, 2) := by decide +kernel
theorem dX8_of_6 : decode cX8_of 6 = .ok (.bipush 9, 2) := by decide +kernel
theorem dX8_of_8 : decode cX8_of 8 = .ok (.iload_n 1, 1) := by decide +kernel
theorem dX8_of_9 : decode cX8_of 9 = .ok (.imul, 1) := by decide +kernel
theorem dX8_of_10 : decode cX8_of 10 = .ok (.iadd, 1) := by decide +kernel
theorem dX8_of_11 : decode cX8_of 11 = .ok (.iload_n 2, 1) := by decide +kernel
theorem dX8_of_12 : decode cX8_of 12 = .ok (.iadd, 1) := by decide +kernel
theorem dX8_of_13 : decode cX8_of 13 = .ok (.iaload, 1) := by decide +kernel
theorem dX8_of_14 : decode cX8_of 14 = .ok (.ireturn, 1) := by decide +kernel
theorem dX8_put_0 : decode cX8_put 0 = .ok (.aload_n 0, 1) := by decide +kernel
theorem dX8_put_1 : decode cX8_put 1 = .ok (.getfield 7, 3) := by decide +kernel
theorem dX8_put_4 : decode cX8_put 4 = .ok (.bipush 55, 2) := by decide +kernel
theorem dX8_put_6 : decode cX8_put 6 = .ok (.bipush 9, 2) := by decide +kernel
theorem dX8_put_8 : decode cX8_put 8 = .ok (.iload_n 1, 1) := by decide +kernel
theorem dX8_put_9 : decode cX8_put 9 = .ok (.imul, 1) := by decide +kernel
theorem dX8_put_10 : decode cX8_put 10 = .ok (.iadd, 1) := by decide +kernel
theorem dX8_put_11 : decode cX8_put 11 = .ok (.iload_n 2, 1) := by decide +kernel
theorem dX8_put_12 : decode cX8_put 12 = .ok (.iadd, 1) := by decide +kernel
theorem dX8_put_13 : decode cX8_put 13 = .ok (.iload_n 3, 1) := by decide +kernel
theorem dX8_put_14 : decode cX8_put 14 = .ok (.iastore, 1) := by decide +kernel
theorem dX8_put_15 : decode cX8_put 15 = .ok (.return_, 1) := by decide +kernel
theorem dX8_putAside_0 : decode cX8_putAside 0 = .ok (.iconst 0, 1) := by decide +kernel
theorem dX8_putAside_1 : decode cX8_putAside 1 = .ok (.istore_n 1, 1) := by decide +kernel
theorem dX8_putAside_2 : decode cX8_putAside 2 = .ok (.iload_n 1, 1) := by decide +kernel
theorem dX8_putAside_3 : decode cX8_putAside 3 = .ok (.sipush 415, 3) := by decide +kernel
theorem dX8_putAside_6 : decode cX8_putAside 6 = .ok (.if_icmp .ge 21, 3) := by decide +kernel
theorem dX8_putAside_9 : decode cX8_putAside 9 = .ok (.aload_n 0, 1) := by decide +kernel
theorem dX8_putAside_10 : decode cX8_putAside 10 = .ok (.getfield 19, 3) := by decide +kernel
theorem dX8_putAside_13 : decode cX8_putAside 13 = .ok (.iload_n 1, 1) := by decide +kernel
theorem dX8_putAside_14 : decode cX8_putAside 14 = .ok (.aload_n 0, 1) := by decide +kernel
theorem dX8_putAside_15 : decode cX8_putAside 15 = .ok (.getfield 7, 3) := by decide +kernel
theorem dX8_putAside_18 : decode cX8_putAside 18 = .ok (.iload_n 1, 1) := by decide +kernel
theorem dX8_putAside_19 : decode cX8_putAside 19 = .ok (.iaload, 1) := by decide +kernel
theorem dX8_putAside_20 : decode cX8_putAside 20 = .ok (.iastore, 1) := by decide +kernel
theorem dX8_putAside_21 : decode cX8_putAside 21 = .ok (.iinc 1 1, 3) := by decide +kernel
theorem dX8_putAside_24 : decode cX8_putAside 24 = .ok (.goto (-22), 3) := by decide +kernel
theorem dX8_putAside_27 : decode cX8_putAside 27 = .ok (.return_, 1) := by decide +kernel
theorem dX8_putBack_0 : decode cX8_putBack 0 = .ok (.iconst 0, 1) := by decide +kernel
theorem dX8_putBack_1 : decode cX8_putBack 1 = .ok (.istore_n 1, 1) := by decide +kernel
theorem dX8_putBack_2 : decode cX8_putBack 2 = .ok (.iload_n 1, 1) := by decide +kernel
theorem dX8_putBack_3 : decode cX8_putBack 3 = .ok (.sipush 415, 3) := by decide +kernel
theorem dX8_putBack_6 : decode cX8_putBack 6 = .ok (.if_icmp .ge 21, 3) := by decide +kernel
theorem dX8_putBack_9 : decode cX8_putBack 9 = .ok (.aload_n 0, 1) := by decide +kernel
theorem dX8_putBack_10 : decode cX8_putBack 10 = .ok (.getfield 7, 3) := by decide +kernel
theorem dX8_putBack_13 : decode cX8_putBack 13 = .ok (.iload_n 1, 1) := by decide +kernel
theorem dX8_putBack_14 : decode cX8_putBack 14 = .ok (.aload_n 0, 1) := by decide +kernel
theorem dX8_putBack_15 : decode cX8_putBack 15 = .ok (.getfield 19, 3) := by decide +kernel
theorem dX8_putBack_18 : decode cX8_putBack 18 = .ok (.iload_n 1, 1) := by decide +kernel
theorem dX8_putBack_19 : decode cX8_putBack 19 = .ok (.iaload, 1) := by decide +kernel
theorem dX8_putBack_20 : decode cX8_putBack 20 = .ok (.iastore, 1) := by decide +kernel
theorem dX8_putBack_21 : decode cX8_putBack 21 = .ok (.iinc 1 1, 3) := by decide +kernel
theorem dX8_putBack_24 : decode cX8_putBack 24 = .ok (.goto (-22), 3) := by decide +kernel
theorem dX8_putBack_27 : decode cX8_putBack 27 = .ok (.return_, 1) := by decide +kernel
theorem dX8_record_0 : decode cX8_record 0 = .ok (.aload_n 0, 1) := by decide +kernel
theorem dX8_record_1 : decode cX8_record 1 = .ok (.getfield 35, 3) := by decide +kernel
theorem dX8_record_4 : decode cX8_record 4 = .ok (.iconst 4, 1) := by decide +kernel
theorem dX8_record_5 : decode cX8_record 5 = .ok (.if_icmp .ne 44, 3) := by decide +kernel
theorem dX8_record_8 : decode cX8_record 8 = .ok (.iconst 0, 1) := by decide +kernel
theorem dX8_record_9 : decode cX8_record 9 = .ok (.istore_n 1, 1) := by decide +kernel
theorem dX8_record_10 : decode cX8_record 10 = .ok (.iload_n 1, 1) := by decide +kernel
theorem dX8_record_11 : decode cX8_record 11 = .ok (.sipush 1245, 3) := by decide +kernel
theorem dX8_record_14 : decode cX8_record 14 = .ok (.if_icmp .ge 25, 3) := by decide +kernel
theorem dX8_record_17 : decode cX8_record 17 = .ok (.aload_n 0, 1) := by decide +kernel
theorem dX8_record_18 : decode cX8_record 18 = .ok (.getfield 13, 3) := by decide +kernel
theorem dX8_record_21 : decode cX8_record 21 = .ok (.iload_n 1, 1) := by decide +kernel
theorem dX8_record_22 : decode cX8_record 22 = .ok (.aload_n 0, 1) := by decide +kernel
theorem dX8_record_23 : decode cX8_record 23 = .ok (.getfield 13, 3) := by decide +kernel
theorem dX8_record_26 : decode cX8_record 26 = .ok (.iload_n 1, 1) := by decide +kernel
theorem dX8_record_27 : decode cX8_record 27 = .ok (.sipush 415, 3) := by decide +kernel
theorem dX8_record_30 : decode cX8_record 30 = .ok (.iadd, 1) := by decide +kernel
theorem dX8_record_31 : decode cX8_record 31 = .ok (.iaload, 1) := by decide +kernel
theorem dX8_record_32 : decode cX8_record 32 = .ok (.iastore, 1) := by decide +kernel
theorem dX8_record_33 : decode cX8_record 33 = .ok (.iinc 1 1, 3) := by decide +kernel
theorem dX8_record_36 : decode cX8_record 36 = .ok (.goto (-26), 3) := by decide +kernel
theorem dX8_record_39 : decode cX8_record 39 = .ok (.aload_n 0, 1) := by decide +kernel
theorem dX8_record_40 : decode cX8_record 40 = .ok (.dup, 1) := by decide +kernel
theorem dX8_record_41 : decode cX8_record 41 = .ok (.getfield 35, 3) := by decide +kernel
theorem dX8_record_44 : decode cX8_record 44 = .ok (.iconst 1, 1) := by decide +kernel
theorem dX8_record_45 : decode cX8_record 45 = .ok (.isub, 1) := by decide +kernel
theorem dX8_record_46 : decode cX8_record 46 = .ok (.putfield 35, 3) := by decide +kernel
theorem dX8_record_49 : decode cX8_record 49 = .ok (.iconst 0, 1) := by decide +kernel
theorem dX8_record_50 : decode cX8_record 50 = .ok (.istore_n 1, 1) := by decide +kernel
theorem dX8_record_51 : decode cX8_record 51 = .ok (.iload_n 1, 1) := by decide +kernel
theorem dX8_record_52 : decode cX8_record 52 = .ok (.sipush 415, 3) := by decide +kernel
theorem dX8_record_55 : decode cX8_record 55 = .ok (.if_icmp .ge 30, 3) := by decide +kernel
theorem dX8_record_58 : decode cX8_record 58 = .ok (.aload_n 0, 1) := by decide +kernel
theorem dX8_record_59 : decode cX8_record 59 = .ok (.getfield 13, 3) := by decide +kernel
theorem dX8_record_62 : decode cX8_record 62 = .ok (.sipush 415, 3) := by decide +kernel
theorem dX8_record_65 : decode cX8_record 65 = .ok (.aload_n 0, 1) := by decide +kernel
theorem dX8_record_66 : decode cX8_record 66 = .ok (.getfield 35, 3) := by decide +kernel
theorem dX8_record_69 : decode cX8_record 69 = .ok (.imul, 1) := by decide +kernel
theorem dX8_record_70 : decode cX8_record 70 = .ok (.iload_n 1, 1) := by decide +kernel
theorem dX8_record_71 : decode cX8_record 71 = .ok (.iadd, 1) := by decide +kernel
theorem dX8_record_72 : decode cX8_record 72 = .ok (.aload_n 0, 1) := by decide +kernel
theorem dX8_record_73 : decode cX8_record 73 = .ok (.getfield 7, 3) := by decide +kernel
theorem dX8_record_76 : decode cX8_record 76 = .ok (.iload_n 1, 1) := by decide +kernel
theorem dX8_record_77 : decode cX8_record 77 = .ok (.iaload, 1) := by decide +kernel
theorem dX8_record_78 : decode cX8_record 78 = .ok (.iastore, 1) := by decide +kernel
theorem dX8_record_79 : decode cX8_record 79 = .ok (.iinc 1 1, 3) := by decide +kernel
theorem dX8_record_82 : decode cX8_record 82 = .ok (.goto (-31), 3) := by decide +kernel
theorem dX8_record_85 : decode cX8_record 85 = .ok (.aload_n 0, 1) := by decide +kernel
theorem dX8_record_86 : decode cX8_record 86 = .ok (.dup, 1) := by decide +kernel
theorem dX8_record_87 : decode cX8_record 87 = .ok (.getfield 35, 3) := by decide +kernel
theorem dX8_record_90 : decode cX8_record 90 = .ok (.iconst 1, 1) := by decide +kernel
theorem dX8_record_91 : decode cX8_record 91 = .ok (.iadd, 1) := by decide +kernel
theorem dX8_record_92 : decode cX8_record 92 = .ok (.putfield 35, 3) := by decide +kernel
theorem dX8_record_95 : decode cX8_record 95 = .ok (.return_, 1) := by decide +kernel
theorem dX8_undo_0 : decode cX8_undo 0 = .ok (.aload_n 0, 1) := by decide +kernel
theorem dX8_undo_1 : decode cX8_undo 1 = .ok (.getfield 35, 3) := by decide +kernel
theorem dX8_undo_4 : decode cX8_undo 4 = .ok (.ifCond .ne 6, 3) := by decide +kernel
theorem dX8_undo_7 : decode cX8_undo 7 = .ok (.bipush (-5), 2) := by decide +kernel
theorem dX8_undo_9 : decode cX8_undo 9 = .ok (.ireturn, 1) := by decide +kernel
theorem dX8_undo_10 : decode cX8_undo 10 = .ok (.aload_n 0, 1) := by decide +kernel
theorem dX8_undo_11 : decode cX8_undo 11 = .ok (.dup, 1) := by decide +kernel
theorem dX8_undo_12 : decode cX8_undo 12 = .ok (.getfield 35, 3) := by decide +kernel
theorem dX8_undo_15 : decode cX8_undo 15 = .ok (.iconst 1, 1) := by decide +kernel
theorem dX8_undo_16 : decode cX8_undo 16 = .ok (.isub, 1) := by decide +kernel
theorem dX8_undo_17 : decode cX8_undo 17 = .ok (.putfield 35, 3) := by decide +kernel
theorem dX8_undo_20 : decode cX8_undo 20 = .ok (.iconst 0, 1) := by decide +kernel
theorem dX8_undo_21 : decode cX8_undo 21 = .ok (.istore_n 1, 1) := by decide +kernel
theorem dX8_undo_22 : decode cX8_undo 22 = .ok (.iload_n 1, 1) := by decide +kernel
theorem dX8_undo_23 : decode cX8_undo 23 = .ok (.sipush 415, 3) := by decide +kernel
theorem dX8_undo_26 : decode cX8_undo 26 = .ok (.if_icmp .ge 30, 3) := by decide +kernel
theorem dX8_undo_29 : decode cX8_undo 29 = .ok (.aload_n 0, 1) := by decide +kernel
theorem dX8_undo_30 : decode cX8_undo 30 = .ok (.getfield 7, 3) := by decide +kernel
theorem dX8_undo_33 : decode cX8_undo 33 = .ok (.iload_n 1, 1) := by decide +kernel
theorem dX8_undo_34 : decode cX8_undo 34 = .ok (.aload_n 0, 1) := by decide +kernel
theorem dX8_undo_35 : decode cX8_undo 35 = .ok (.getfield 13, 3) := by decide +kernel
theorem dX8_undo_38 : decode cX8_undo 38 = .ok (.sipush 415, 3) := by decide +kernel
theorem dX8_undo_41 : decode cX8_undo 41 = .ok (.aload_n 0, 1) := by decide +kernel
theorem dX8_undo_42 : decode cX8_undo 42 = .ok (.getfield 35, 3) := by decide +kernel
theorem dX8_undo_45 : decode cX8_undo 45 = .ok (.imul, 1) := by decide +kernel
theorem dX8_undo_46 : decode cX8_undo 46 = .ok (.iload_n 1, 1) := by decide +kernel
theorem dX8_undo_47 : decode cX8_undo 47 = .ok (.iadd, 1) := by decide +kernel
theorem dX8_undo_48 : decode cX8_undo 48 = .ok (.iaload, 1) := by decide +kernel
theorem dX8_undo_49 : decode cX8_undo 49 = .ok (.iastore, 1) := by decide +kernel
theorem dX8_undo_50 : decode cX8_undo 50 = .ok (.iinc 1 1, 3) := by decide +kernel
theorem dX8_undo_53 : decode cX8_undo 53 = .ok (.goto (-31), 3) := by decide +kernel
theorem dX8_undo_56 : decode cX8_undo 56 = .ok (.aload_n 0, 1) := by decide +kernel
theorem dX8_undo_57 : decode cX8_undo 57 = .ok (.getfield 35, 3) := by decide +kernel
theorem dX8_undo_60 : decode cX8_undo 60 = .ok (.ireturn, 1) := by decide +kernel
theorem dX8_keep_0 : decode cX8_keep 0 = .ok (.iconst 0, 1) := by decide +kernel
theorem dX8_keep_1 : decode cX8_keep 1 = .ok (.istore_n 1, 1) := by decide +kernel
theorem dX8_keep_2 : decode cX8_keep 2 = .ok (.iload_n 1, 1) := by decide +kernel
theorem dX8_keep_3 : decode cX8_keep 3 = .ok (.sipush 415, 3) := by decide +kernel
theorem dX8_keep_6 : decode cX8_keep 6 = .ok (.if_icmp .ge 21, 3) := by decide +kernel
theorem dX8_keep_9 : decode cX8_keep 9 = .ok (.aload_n 0, 1) := by decide +kernel
theorem dX8_keep_10 : decode cX8_keep 10 = .ok (.getfield 16, 3) := by decide +kernel
theorem dX8_keep_13 : decode cX8_keep 13 = .ok (.iload_n 1, 1) := by decide +kernel
theorem dX8_keep_14 : decode cX8_keep 14 = .ok (.aload_n 0, 1) := by decide +kernel
theorem dX8_keep_15 : decode cX8_keep 15 = .ok (.getfield 7, 3) := by decide +kernel
theorem dX8_keep_18 : decode cX8_keep 18 = .ok (.iload_n 1, 1) := by decide +kernel
theorem dX8_keep_19 : decode cX8_keep 19 = .ok (.iaload, 1) := by decide +kernel
theorem dX8_keep_20 : decode cX8_keep 20 = .ok (.iastore, 1) := by decide +kernel
theorem dX8_keep_21 : decode cX8_keep 21 = .ok (.iinc 1 1, 3) := by decide +kernel
theorem dX8_keep_24 : decode cX8_keep 24 = .ok (.goto (-22), 3) := by decide +kernel
theorem dX8_keep_27 : decode cX8_keep 27 = .ok (.aload_n 0, 1) := by decide +kernel
theorem dX8_keep_28 : decode cX8_keep 28 = .ok (.iconst 1, 1) := by decide +kernel
theorem dX8_keep_29 : decode cX8_keep 29 = .ok (.putfield 39, 3) := by decide +kernel
theorem dX8_keep_32 : decode cX8_keep 32 = .ok (.aload_n 0, 1) := by decide +kernel
theorem dX8_keep_33 : decode cX8_keep 33 = .ok (.getfield 7, 3) := by decide +kernel
theorem dX8_keep_36 : decode cX8_keep 36 = .ok (.bipush 13, 2) := by decide +kernel
theorem dX8_keep_38 : decode cX8_keep 38 = .ok (.iaload, 1) := by decide +kernel
theorem dX8_keep_39 : decode cX8_keep 39 = .ok (.ireturn, 1) := by decide +kernel
set_option maxRecDepth 20000 in
theorem ggX8_restore_X8_record : GoodIn wsX8_restore wsX8_record := goodIn_r _ [8, 9, 10, 2, 11, 12, 13, 14, 15, 16, 17, 18, 19, 20, 21, 22, 23] (by decide +kernel) (by decide +kernel)
set_option maxRecDepth 20000 in
theorem gX8_restore_X8_record : GoodIn wsX8_restore (wsV RX8 43 RX8 yX8_record wsX8_record) := goodIn_app (goodIn_of _ (by decide +kernel)) ggX8_restore_X8_record
theorem dX8_restore_0 : decode cX8_restore 0 = .ok (.aload_n 0, 1) := by decide +kernel
theorem dX8_restore_1 : decode cX8_restore 1 = .ok (.getfield 39, 3) := by decide +kernel
theorem dX8_restore_4 : decode cX8_restore 4 = .ok (.ifCond .ne 6, 3) := by decide +kernel
theorem dX8_restore_7 : decode cX8_restore 7 = .ok (.bipush (-5), 2) := by decide +kernel
theorem dX8_restore_9 : decode cX8_restore 9 = .ok (.ireturn, 1) := by decide +kernel
theorem dX8_restore_10 : decode cX8_restore 10 = .ok (.aload_n 0, 1) := by decide +kernel
theorem dX8_restore_11 : decode cX8_restore 11 = .ok (.invokevirtual 43, 3) := by decide +kernel
theorem dX8_restore_14 : decode cX8_restore 14 = .ok (.iconst 0, 1) := by decide +kernel
theorem dX8_restore_15 : decode cX8_restore 15 = .ok (.istore_n 1, 1) := by decide +kernel
theorem dX8_restore_16 : decode cX8_restore 16 = .ok (.iload_n 1, 1) := by decide +kernel
theorem dX8_restore_17 : decode cX8_restore 17 = .ok (.sipush 415, 3) := by decide +kernel
theorem dX8_restore_20 : decode cX8_restore 20 = .ok (.if_icmp .ge 21, 3) := by decide +kernel
theorem dX8_restore_23 : decode cX8_restore 23 = .ok (.aload_n 0, 1) := by decide +kernel
theorem dX8_restore_24 : decode cX8_restore 24 = .ok (.getfield 7, 3) := by decide +kernel
theorem dX8_restore_27 : decode cX8_restore 27 = .ok (.iload_n 1, 1) := by decide +kernel
theorem dX8_restore_28 : decode cX8_restore 28 = .ok (.aload_n 0, 1) := by decide +kernel
theorem dX8_restore_29 : decode cX8_restore 29 = .ok (.getfield 16, 3) := by decide +kernel
theorem dX8_restore_32 : decode cX8_restore 32 = .ok (.iload_n 1, 1) := by decide +kernel
theorem dX8_restore_33 : decode cX8_restore 33 = .ok (.iaload, 1) := by decide +kernel
theorem dX8_restore_34 : decode cX8_restore 34 = .ok (.iastore, 1) := by decide +kernel
theorem dX8_restore_35 : decode cX8_restore 35 = .ok (.iinc 1 1, 3) := by decide +kernel
theorem dX8_restore_38 : decode cX8_restore 38 = .ok (.goto (-22), 3) := by decide +kernel
theorem dX8_restore_41 : decode cX8_restore 41 = .ok (.aload_n 0, 1) := by decide +kernel
theorem dX8_restore_42 : decode cX8_restore 42 = .ok (.getfield 7, 3) := by decide +kernel
theorem dX8_restore_45 : decode cX8_restore 45 = .ok (.bipush 13, 2) := by decide +kernel
theorem dX8_restore_47 : decode cX8_restore 47 = .ok (.iaload, 1) := by decide +kernel
theorem dX8_restore_48 : decode cX8_restore 48 = .ok (.ireturn, 1) := by decide +kernel
set_option maxRecDepth 20000 in
theorem ggX8_at_X8_of : GoodIn wsX8_at wsX8_of := goodIn_r _ [6, 1, 7, 8, 9, 10, 11, 12, 13, 14, 15, 16, 17, 18, 19] (by decide +kernel) (by decide +kernel)
set_option maxRecDepth 20000 in
theorem gX8_at_X8_of : GoodIn wsX8_at (wsV RX8 46 RX8 yX8_of wsX8_of) := goodIn_app (goodIn_of _ (by decide +kernel)) ggX8_at_X8_of
theorem dX8_at_0 : decode cX8_at 0 = .ok (.iconst 0, 1) := by decide +kernel
theorem dX8_at_1 : decode cX8_at 1 = .ok (.istore_n 2, 1) := by decide +kernel
theorem dX8_at_2 : decode cX8_at 2 = .ok (.iconst 0, 1) := by decide +kernel
theorem dX8_at_3 : decode cX8_at 3 = .ok (.istore_n 3, 1) := by decide +kernel
theorem dX8_at_4 : decode cX8_at 4 = .ok (.iload_n 3, 1) := by decide +kernel
theorem dX8_at_5 : decode cX8_at 5 = .ok (.aload_n 0, 1) := by decide +kernel
theorem dX8_at_6 : decode cX8_at 6 = .ok (.getfield 7, 3) := by decide +kernel
theorem dX8_at_9 : decode cX8_at 9 = .ok (.bipush 13, 2) := by decide +kernel
theorem dX8_at_11 : decode cX8_at 11 = .ok (.iaload, 1) := by decide +kernel
theorem dX8_at_12 : decode cX8_at 12 = .ok (.if_icmp .ge 27, 3) := by decide +kernel
theorem dX8_at_15 : decode cX8_at 15 = .ok (.iload_n 2, 1) := by decide +kernel
theorem dX8_at_16 : decode cX8_at 16 = .ok (.aload_n 0, 1) := by decide +kernel
theorem dX8_at_17 : decode cX8_at 17 = .ok (.iload_n 3, 1) := by decide +kernel
theorem dX8_at_18 : decode cX8_at 18 = .ok (.iconst 5, 1) := by decide +kernel
theorem dX8_at_19 : decode cX8_at 19 = .ok (.invokevirtual 46, 3) := by decide +kernel
theorem dX8_at_22 : decode cX8_at 22 = .ok (.iload_n 1, 1) := by decide +kernel
theorem dX8_at_23 : decode cX8_at 23 = .ok (.if_icmp .ne 7, 3) := by decide +kernel
theorem dX8_at_26 : decode cX8_at 26 = .ok (.iconst 1, 1) := by decide +kernel
theorem dX8_at_27 : decode cX8_at 27 = .ok (.goto 4, 3) := by decide +kernel
theorem dX8_at_30 : decode cX8_at 30 = .ok (.iconst 0, 1) := by decide +kernel
theorem dX8_at_31 : decode cX8_at 31 = .ok (.iadd, 1) := by decide +kernel
theorem dX8_at_32 : decode cX8_at 32 = .ok (.istore_n 2, 1) := by decide +kernel
theorem dX8_at_33 : decode cX8_at 33 = .ok (.iinc 3 1, 3) := by decide +kernel
theorem dX8_at_36 : decode cX8_at 36 = .ok (.goto (-32), 3) := by decide +kernel
theorem dX8_at_39 : decode cX8_at 39 = .ok (.iload_n 2, 1) := by decide +kernel
theorem dX8_at_40 : decode cX8_at 40 = .ok (.ireturn, 1) := by decide +kernel
set_option maxRecDepth 20000 in
theorem ggX8_isIn_X8_of : GoodIn wsX8_isIn wsX8_of := goodIn_r _ [5, 6, 7, 8, 9, 10, 11, 12, 13, 14, 15, 16, 17, 18, 19] (by decide +kernel) (by decide +kernel)
set_option maxRecDepth 20000 in
theorem gX8_isIn_X8_of : GoodIn wsX8_isIn (wsV RX8 46 RX8 yX8_of wsX8_of) := goodIn_app (goodIn_of _ (by decide +kernel)) ggX8_isIn_X8_of
theorem dX8_isIn_0 : decode cX8_isIn 0 = .ok (.aload_n 0, 1) := by decide +kernel
theorem dX8_isIn_1 : decode cX8_isIn 1 = .ok (.iload_n 1, 1) := by decide +kernel
theorem dX8_isIn_2 : decode cX8_isIn 2 = .ok (.iconst 5, 1) := by decide +kernel
theorem dX8_isIn_3 : decode cX8_isIn 3 = .ok (.invokevirtual 46, 3) := by decide +kernel
theorem dX8_isIn_6 : decode cX8_isIn 6 = .ok (.iconst 5, 1) := by decide +kernel
theorem dX8_isIn_7 : decode cX8_isIn 7 = .ok (.if_icmp .ne 18, 3) := by decide +kernel
theorem dX8_isIn_10 : decode cX8_isIn 10 = .ok (.aload_n 0, 1) := by decide +kernel
theorem dX8_isIn_11 : decode cX8_isIn 11 = .ok (.iload_n 1, 1) := by decide +kernel
theorem dX8_isIn_12 : decode cX8_isIn 12 = .ok (.bipush 6, 2) := by decide +kernel
theorem dX8_isIn_14 : decode cX8_isIn 14 = .ok (.invokevirtual 46, 3) := by decide +kernel
theorem dX8_isIn_17 : decode cX8_isIn 17 = .ok (.iload_n 2, 1) := by decide +kernel
theorem dX8_isIn_18 : decode cX8_isIn 18 = .ok (.if_icmp .ne 7, 3) := by decide +kernel
theorem dX8_isIn_21 : decode cX8_isIn 21 = .ok (.iconst 1, 1) := by decide +kernel
theorem dX8_isIn_22 : decode cX8_isIn 22 = .ok (.goto 4, 3) := by decide +kernel
theorem dX8_isIn_25 : decode cX8_isIn 25 = .ok (.iconst 0, 1) := by decide +kernel
theorem dX8_isIn_26 : decode cX8_isIn 26 = .ok (.ireturn, 1) := by decide +kernel
set_option maxRecDepth 20000 in
theorem ggX8_manyIn_X8_isIn : GoodIn wsX8_manyIn wsX8_isIn := goodIn_r _ [6, 7, 8, 9, 5, 10, 1, 11, 12, 13, 14, 15, 16, 17, 18, 19, 20, 21, 22, 23] (by decide +kernel) (by decide +kernel)
set_option maxRecDepth 20000 in
theorem gX8_manyIn_X8_isIn : GoodIn wsX8_manyIn (wsV RX8 50 RX8 yX8_isIn wsX8_isIn) := goodIn_app (goodIn_of _ (by decide +kernel)) ggX8_manyIn_X8_isIn
theorem dX8_manyIn_0 : decode cX8_manyIn 0 = .ok (.iconst 0, 1) := by decide +kernel
theorem dX8_manyIn_1 : decode cX8_manyIn 1 = .ok (.istore_n 2, 1) := by decide +kernel
theorem dX8_manyIn_2 : decode cX8_manyIn 2 = .ok (.iconst 0, 1) := by decide +kernel
theorem dX8_manyIn_3 : decode cX8_manyIn 3 = .ok (.istore_n 3, 1) := by decide +kernel
theorem dX8_manyIn_4 : decode cX8_manyIn 4 = .ok (.iload_n 3, 1) := by decide +kernel
theorem dX8_manyIn_5 : decode cX8_manyIn 5 = .ok (.aload_n 0, 1) := by decide +kernel
theorem dX8_manyIn_6 : decode cX8_manyIn 6 = .ok (.getfield 7, 3) := by decide +kernel
theorem dX8_manyIn_9 : decode cX8_manyIn 9 = .ok (.bipush 13, 2) := by decide +kernel
theorem dX8_manyIn_11 : decode cX8_manyIn 11 = .ok (.iaload, 1) := by decide +kernel
theorem dX8_manyIn_12 : decode cX8_manyIn 12 = .ok (.if_icmp .ge 26, 3) := by decide +kernel
theorem dX8_manyIn_15 : decode cX8_manyIn 15 = .ok (.iload_n 2, 1) := by decide +kernel
theorem dX8_manyIn_16 : decode cX8_manyIn 16 = .ok (.aload_n 0, 1) := by decide +kernel
theorem dX8_manyIn_17 : decode cX8_manyIn 17 = .ok (.iload_n 3, 1) := by decide +kernel
theorem dX8_manyIn_18 : decode cX8_manyIn 18 = .ok (.iload_n 1, 1) := by decide +kernel
theorem dX8_manyIn_19 : decode cX8_manyIn 19 = .ok (.invokevirtual 50, 3) := by decide +kernel
theorem dX8_manyIn_22 : decode cX8_manyIn 22 = .ok (.ifCond .eq 7, 3) := by decide +kernel
theorem dX8_manyIn_25 : decode cX8_manyIn 25 = .ok (.iconst 1, 1) := by decide +kernel
theorem dX8_manyIn_26 : decode cX8_manyIn 26 = .ok (.goto 4, 3) := by decide +kernel
theorem dX8_manyIn_29 : decode cX8_manyIn 29 = .ok (.iconst 0, 1) := by decide +kernel
theorem dX8_manyIn_30 : decode cX8_manyIn 30 = .ok (.iadd, 1) := by decide +kernel
theorem dX8_manyIn_31 : decode cX8_manyIn 31 = .ok (.istore_n 2, 1) := by decide +kernel
theorem dX8_manyIn_32 : decode cX8_manyIn 32 = .ok (.iinc 3 1, 3) := by decide +kernel
theorem dX8_manyIn_35 : decode cX8_manyIn 35 = .ok (.goto (-31), 3) := by decide +kernel
theorem dX8_manyIn_38 : decode cX8_manyIn 38 = .ok (.iload_n 2, 1) := by decide +kernel
theorem dX8_manyIn_39 : decode cX8_manyIn 39 = .ok (.ireturn, 1) := by decide +kernel
set_option maxRecDepth 20000 in
theorem ggX8_bring_X8_put : GoodIn wsX8_bring wsX8_put := goodIn_r _ [5, 6, 7, 8, 9, 10, 11, 12, 13, 14, 15, 16, 17, 18, 19] (by decide +kernel) (by decide +kernel)
set_option maxRecDepth 20000 in
theorem gX8_bring_X8_put : GoodIn wsX8_bring (wsV RX8 54 RX8 yX8_put wsX8_put) := goodIn_app (goodIn_of _ (by decide +kernel)) ggX8_bring_X8_put
theorem dX8_bring_0 : decode cX8_bring 0 = .ok (.aload_n 0, 1) := by decide +kernel
theorem dX8_bring_1 : decode cX8_bring 1 = .ok (.iload_n 1, 1) := by decide +kernel
theorem dX8_bring_2 : decode cX8_bring 2 = .ok (.iconst 5, 1) := by decide +kernel
theorem dX8_bring_3 : decode cX8_bring 3 = .ok (.iload_n 2, 1) := by decide +kernel
theorem dX8_bring_4 : decode cX8_bring 4 = .ok (.invokevirtual 54, 3) := by decide +kernel
theorem dX8_bring_7 : decode cX8_bring 7 = .ok (.aload_n 0, 1) := by decide +kernel
theorem dX8_bring_8 : decode cX8_bring 8 = .ok (.iload_n 1, 1) := by decide +kernel
theorem dX8_bring_9 : decode cX8_bring 9 = .ok (.bipush 6, 2) := by decide +kernel
theorem dX8_bring_11 : decode cX8_bring 11 = .ok (.bipush (-5), 2) := by decide +kernel
theorem dX8_bring_13 : decode cX8_bring 13 = .ok (.invokevirtual 54, 3) := by decide +kernel
theorem dX8_bring_16 : decode cX8_bring 16 = .ok (.return_, 1) := by decide +kernel
set_option maxRecDepth 20000 in
theorem ggX8_toHopper_X8_bring : GoodIn wsX8_toHopper wsX8_bring := goodIn_r _ [6, 7, 8, 9, 5, 10, 1, 11, 12, 13, 14, 15, 16, 17, 18, 19, 20, 21, 22, 23] (by decide +kernel) (by decide +kernel)
set_option maxRecDepth 20000 in
theorem gX8_toHopper_X8_bring : GoodIn wsX8_toHopper (wsV RX8 58 RX8 yX8_bring wsX8_bring) := goodIn_app (goodIn_of _ (by decide +kernel)) ggX8_toHopper_X8_bring
theorem dX8_toHopper_0 : decode cX8_toHopper 0 = .ok (.aload_n 0, 1) := by decide +kernel
theorem dX8_toHopper_1 : decode cX8_toHopper 1 = .ok (.iload_n 1, 1) := by decide +kernel
theorem dX8_toHopper_2 : decode cX8_toHopper 2 = .ok (.iconst 0, 1) := by decide +kernel
theorem dX8_toHopper_3 : decode cX8_toHopper 3 = .ok (.invokevirtual 58, 3) := by decide +kernel
theorem dX8_toHopper_6 : decode cX8_toHopper 6 = .ok (.aload_n 0, 1) := by decide +kernel
theorem dX8_toHopper_7 : decode cX8_toHopper 7 = .ok (.getfield 7, 3) := by decide +kernel
theorem dX8_toHopper_10 : decode cX8_toHopper 10 = .ok (.bipush 15, 2) := by decide +kernel
theorem dX8_toHopper_12 : decode cX8_toHopper 12 = .ok (.aload_n 0, 1) := by decide +kernel
theorem dX8_toHopper_13 : decode cX8_toHopper 13 = .ok (.getfield 7, 3) := by decide +kernel
theorem dX8_toHopper_16 : decode cX8_toHopper 16 = .ok (.bipush 14, 2) := by decide +kernel
theorem dX8_toHopper_18 : decode cX8_toHopper 18 = .ok (.iaload, 1) := by decide +kernel
theorem dX8_toHopper_19 : decode cX8_toHopper 19 = .ok (.iadd, 1) := by decide +kernel
theorem dX8_toHopper_20 : decode cX8_toHopper 20 = .ok (.iload_n 1, 1) := by decide +kernel
theorem dX8_toHopper_21 : decode cX8_toHopper 21 = .ok (.iastore, 1) := by decide +kernel
theorem dX8_toHopper_22 : decode cX8_toHopper 22 = .ok (.aload_n 0, 1) := by decide +kernel
theorem dX8_toHopper_23 : decode cX8_toHopper 23 = .ok (.getfield 7, 3) := by decide +kernel
theorem dX8_toHopper_26 : decode cX8_toHopper 26 = .ok (.bipush 14, 2) := by decide +kernel
theorem dX8_toHopper_28 : decode cX8_toHopper 28 = .ok (.dup2, 1) := by decide +kernel
theorem dX8_toHopper_29 : decode cX8_toHopper 29 = .ok (.iaload, 1) := by decide +kernel
theorem dX8_toHopper_30 : decode cX8_toHopper 30 = .ok (.iconst 1, 1) := by decide +kernel
theorem dX8_toHopper_31 : decode cX8_toHopper 31 = .ok (.iadd, 1) := by decide +kernel
theorem dX8_toHopper_32 : decode cX8_toHopper 32 = .ok (.iastore, 1) := by decide +kernel
theorem dX8_toHopper_33 : decode cX8_toHopper 33 = .ok (.return_, 1) := by decide +kernel
set_option maxRecDepth 20000 in
theorem ggX8_letGoNow_X8_of : GoodIn wsX8_letGoNow wsX8_of := goodIn_r _ [6, 1, 15, 16, 17, 18, 19, 20, 21, 22, 23, 24, 25, 26, 27] (by decide +kernel) (by decide +kernel)
set_option maxRecDepth 20000 in
theorem gX8_letGoNow_X8_of : GoodIn wsX8_letGoNow (wsV RX8 46 RX8 yX8_of wsX8_of) := goodIn_app (goodIn_of _ (by decide +kernel)) ggX8_letGoNow_X8_of
set_option maxRecDepth 20000 in
theorem ggX8_letGoNow_X8_bring : GoodIn wsX8_letGoNow wsX8_bring := goodIn_r _ [10, 11, 12, 13, 5, 14, 1, 15, 16, 17, 18, 19, 20, 21, 22, 23, 24, 25, 26, 27] (by decide +kernel) (by decide +kernel)
set_option maxRecDepth 20000 in
theorem gX8_letGoNow_X8_bring : GoodIn wsX8_letGoNow (wsV RX8 58 RX8 yX8_bring wsX8_bring) := goodIn_app (goodIn_of _ (by decide +kernel)) ggX8_letGoNow_X8_bring
theorem dX8_letGoNow_0 : decode cX8_letGoNow 0 = .ok (.iconst 0, 1) := by decide +kernel
theorem dX8_letGoNow_1 : decode cX8_letGoNow 1 = .ok (.istore_n 1, 1) := by decide +kernel
theorem dX8_letGoNow_2 : decode cX8_letGoNow 2 = .ok (.iconst 0, 1) := by decide +kernel
theorem dX8_letGoNow_3 : decode cX8_letGoNow 3 = .ok (.istore_n 2, 1) := by decide +kernel
theorem dX8_letGoNow_4 : decode cX8_letGoNow 4 = .ok (.iload_n 2, 1) := by decide +kernel
theorem dX8_letGoNow_5 : decode cX8_letGoNow 5 = .ok (.aload_n 0, 1) := by decide +kernel
theorem dX8_letGoNow_6 : decode cX8_letGoNow 6 = .ok (.getfield 7, 3) := by decide +kernel
theorem dX8_letGoNow_9 : decode cX8_letGoNow 9 = .ok (.bipush 13, 2) := by decide +kernel
theorem dX8_letGoNow_11 : decode cX8_letGoNow 11 = .ok (.iaload, 1) := by decide +kernel
theorem dX8_letGoNow_12 : decode cX8_letGoNow 12 = .ok (.if_icmp .ge 28, 3) := by decide +kernel
theorem dX8_letGoNow_15 : decode cX8_letGoNow 15 = .ok (.aload_n 0, 1) := by decide +kernel
theorem dX8_letGoNow_16 : decode cX8_letGoNow 16 = .ok (.iload_n 2, 1) := by decide +kernel
theorem dX8_letGoNow_17 : decode cX8_letGoNow 17 = .ok (.iconst 5, 1) := by decide +kernel
theorem dX8_letGoNow_18 : decode cX8_letGoNow 18 = .ok (.invokevirtual 46, 3) := by decide +kernel
theorem dX8_letGoNow_21 : decode cX8_letGoNow 21 = .ok (.iconst 2, 1) := by decide +kernel
theorem dX8_letGoNow_22 : decode cX8_letGoNow 22 = .ok (.if_icmp .ne 12, 3) := by decide +kernel
theorem dX8_letGoNow_25 : decode cX8_letGoNow 25 = .ok (.aload_n 0, 1) := by decide +kernel
theorem dX8_letGoNow_26 : decode cX8_letGoNow 26 = .ok (.iload_n 2, 1) := by decide +kernel
theorem dX8_letGoNow_27 : decode cX8_letGoNow 27 = .ok (.iconst 3, 1) := by decide +kernel
theorem dX8_letGoNow_28 : decode cX8_letGoNow 28 = .ok (.invokevirtual 58, 3) := by decide +kernel
theorem dX8_letGoNow_31 : decode cX8_letGoNow 31 = .ok (.iinc 1 1, 3) := by decide +kernel
theorem dX8_letGoNow_34 : decode cX8_letGoNow 34 = .ok (.iinc 2 1, 3) := by decide +kernel
theorem dX8_letGoNow_37 : decode cX8_letGoNow 37 = .ok (.goto (-33), 3) := by decide +kernel
theorem dX8_letGoNow_40 : decode cX8_letGoNow 40 = .ok (.iload_n 1, 1) := by decide +kernel
theorem dX8_letGoNow_41 : decode cX8_letGoNow 41 = .ok (.ireturn, 1) := by decide +kernel
set_option maxRecDepth 20000 in
theorem ggX8_classOf_X8_of : GoodIn wsX8_classOf wsX8_of := goodIn_r _ [6, 1, 7, 8, 9, 10, 11, 12, 13, 14, 15, 16, 17, 18, 19] (by decide +kernel) (by decide +kernel)
set_option maxRecDepth 20000 in
theorem gX8_classOf_X8_of : GoodIn wsX8_classOf (wsV RX8 46 RX8 yX8_of wsX8_of) := goodIn_app (goodIn_of _ (by decide +kernel)) ggX8_classOf_X8_of
theorem dX8_classOf_0 : decode cX8_classOf 0 = .ok (.aload_n 0, 1) := by decide +kernel
theorem dX8_classOf_1 : decode cX8_classOf 1 = .ok (.iload_n 1, 1) := by decide +kernel
theorem dX8_classOf_2 : decode cX8_classOf 2 = .ok (.iconst 1, 1) := by decide +kernel
theorem dX8_classOf_3 : decode cX8_classOf 3 = .ok (.invokevirtual 46, 3) := by decide +kernel
theorem dX8_classOf_6 : decode cX8_classOf 6 = .ok (.istore_n 2, 1) := by decide +kernel
theorem dX8_classOf_7 : decode cX8_classOf 7 = .ok (.iload_n 2, 1) := by decide +kernel
theorem dX8_classOf_8 : decode cX8_classOf 8 = .ok (.aload_n 0, 1) := by decide +kernel
theorem dX8_classOf_9 : decode cX8_classOf 9 = .ok (.getfield 7, 3) := by decide +kernel
theorem dX8_classOf_12 : decode cX8_classOf 12 = .ok (.iconst 0, 1) := by decide +kernel
theorem dX8_classOf_13 : decode cX8_classOf 13 = .ok (.iaload, 1) := by decide +kernel
theorem dX8_classOf_14 : decode cX8_classOf 14 = .ok (.if_icmp .gt 7, 3) := by decide +kernel
theorem dX8_classOf_17 : decode cX8_classOf 17 = .ok (.iconst 0, 1) := by decide +kernel
theorem dX8_classOf_18 : decode cX8_classOf 18 = .ok (.goto 18, 3) := by decide +kernel
theorem dX8_classOf_21 : decode cX8_classOf 21 = .ok (.iload_n 2, 1) := by decide +kernel
theorem dX8_classOf_22 : decode cX8_classOf 22 = .ok (.aload_n 0, 1) := by decide +kernel
theorem dX8_classOf_23 : decode cX8_classOf 23 = .ok (.getfield 7, 3) := by decide +kernel
theorem dX8_classOf_26 : decode cX8_classOf 26 = .ok (.iconst 1, 1) := by decide +kernel
theorem dX8_classOf_27 : decode cX8_classOf 27 = .ok (.iaload, 1) := by decide +kernel
theorem dX8_classOf_28 : decode cX8_classOf 28 = .ok (.if_icmp .gt 7, 3) := by decide +kernel
theorem dX8_classOf_31 : decode cX8_classOf 31 = .ok (.iconst 1, 1) := by decide +kernel
theorem dX8_classOf_32 : decode cX8_classOf 32 = .ok (.goto 4, 3) := by decide +kernel
theorem dX8_classOf_35 : decode cX8_classOf 35 = .ok (.iconst 2, 1) := by decide +kernel
theorem dX8_classOf_36 : decode cX8_classOf 36 = .ok (.ireturn, 1) := by decide +kernel
set_option maxRecDepth 20000 in
theorem ggX8_binOf_X8_classOf : GoodIn wsX8_binOf wsX8_classOf := goodIn_r _ [5, 6, 7, 8, 9, 4, 10, 11, 12, 13, 14, 15, 16, 17, 18, 19, 20, 21, 22, 23] (by decide +kernel) (by decide +kernel)
set_option maxRecDepth 20000 in
theorem gX8_binOf_X8_classOf : GoodIn wsX8_binOf (wsV RX8 62 RX8 yX8_classOf wsX8_classOf) := goodIn_app (goodIn_of _ (by decide +kernel)) ggX8_binOf_X8_classOf
set_option maxRecDepth 20000 in
theorem ggX8_binOf_X8_of : GoodIn wsX8_binOf wsX8_of := goodIn_r _ [10, 6, 11, 12, 13, 14, 15, 16, 17, 18, 19, 20, 21, 22, 23] (by decide +kernel) (by decide +kernel)
set_option maxRecDepth 20000 in
theorem gX8_binOf_X8_of : GoodIn wsX8_binOf (wsV RX8 46 RX8 yX8_of wsX8_of) := goodIn_app (goodIn_of _ (by decide +kernel)) ggX8_binOf_X8_of
theorem dX8_binOf_0 : decode cX8_binOf 0 = .ok (.iconst 4, 1) := by decide +kernel
theorem dX8_binOf_1 : decode cX8_binOf 1 = .ok (.aload_n 0, 1) := by decide +kernel
theorem dX8_binOf_2 : decode cX8_binOf 2 = .ok (.iload_n 1, 1) := by decide +kernel
theorem dX8_binOf_3 : decode cX8_binOf 3 = .ok (.invokevirtual 62, 3) := by decide +kernel
theorem dX8_binOf_6 : decode cX8_binOf 6 = .ok (.imul, 1) := by decide +kernel
theorem dX8_binOf_7 : decode cX8_binOf 7 = .ok (.aload_n 0, 1) := by decide +kernel
theorem dX8_binOf_8 : decode cX8_binOf 8 = .ok (.iload_n 1, 1) := by decide +kernel
theorem dX8_binOf_9 : decode cX8_binOf 9 = .ok (.iconst 0, 1) := by decide +kernel
theorem dX8_binOf_10 : decode cX8_binOf 10 = .ok (.invokevirtual 46, 3) := by decide +kernel
theorem dX8_binOf_13 : decode cX8_binOf 13 = .ok (.iadd, 1) := by decide +kernel
theorem dX8_binOf_14 : decode cX8_binOf 14 = .ok (.iconst 1, 1) := by decide +kernel
theorem dX8_binOf_15 : decode cX8_binOf 15 = .ok (.isub, 1) := by decide +kernel
theorem dX8_binOf_16 : decode cX8_binOf 16 = .ok (.ireturn, 1) := by decide +kernel
set_option maxRecDepth 20000 in
theorem ggX8_placeFor_X8_of : GoodIn wsX8_placeFor wsX8_of := goodIn_r _ [6, 1, 7, 8, 9, 10, 11, 12, 13, 14, 15, 16, 17, 18, 19] (by decide +kernel) (by decide +kernel)
set_option maxRecDepth 20000 in
theorem gX8_placeFor_X8_of : GoodIn wsX8_placeFor (wsV RX8 46 RX8 yX8_of wsX8_of) := goodIn_app (goodIn_of _ (by decide +kernel)) ggX8_placeFor_X8_of
theorem dX8_placeFor_0 : decode cX8_placeFor 0 = .ok (.aload_n 0, 1) := by decide +kernel
theorem dX8_placeFor_1 : decode cX8_placeFor 1 = .ok (.iload_n 1, 1) := by decide +kernel
theorem dX8_placeFor_2 : decode cX8_placeFor 2 = .ok (.iconst 3, 1) := by decide +kernel
theorem dX8_placeFor_3 : decode cX8_placeFor 3 = .ok (.invokevirtual 46, 3) := by decide +kernel
theorem dX8_placeFor_6 : decode cX8_placeFor 6 = .ok (.aload_n 0, 1) := by decide +kernel
theorem dX8_placeFor_7 : decode cX8_placeFor 7 = .ok (.getfield 7, 3) := by decide +kernel
theorem dX8_placeFor_10 : decode cX8_placeFor 10 = .ok (.iconst 3, 1) := by decide +kernel
theorem dX8_placeFor_11 : decode cX8_placeFor 11 = .ok (.iaload, 1) := by decide +kernel
theorem dX8_placeFor_12 : decode cX8_placeFor 12 = .ok (.if_icmp .le 7, 3) := by decide +kernel
theorem dX8_placeFor_15 : decode cX8_placeFor 15 = .ok (.iconst 1, 1) := by decide +kernel
theorem dX8_placeFor_16 : decode cX8_placeFor 16 = .ok (.goto 42, 3) := by decide +kernel
theorem dX8_placeFor_19 : decode cX8_placeFor 19 = .ok (.aload_n 0, 1) := by decide +kernel
theorem dX8_placeFor_20 : decode cX8_placeFor 20 = .ok (.iload_n 1, 1) := by decide +kernel
theorem dX8_placeFor_21 : decode cX8_placeFor 21 = .ok (.iconst 2, 1) := by decide +kernel
theorem dX8_placeFor_22 : decode cX8_placeFor 22 = .ok (.invokevirtual 46, 3) := by decide +kernel
theorem dX8_placeFor_25 : decode cX8_placeFor 25 = .ok (.aload_n 0, 1) := by decide +kernel
theorem dX8_placeFor_26 : decode cX8_placeFor 26 = .ok (.getfield 7, 3) := by decide +kernel
theorem dX8_placeFor_29 : decode cX8_placeFor 29 = .ok (.iconst 4, 1) := by decide +kernel
theorem dX8_placeFor_30 : decode cX8_placeFor 30 = .ok (.iaload, 1) := by decide +kernel
theorem dX8_placeFor_31 : decode cX8_placeFor 31 = .ok (.if_icmp .lt 7, 3) := by decide +kernel
theorem dX8_placeFor_34 : decode cX8_placeFor 34 = .ok (.iconst 2, 1) := by decide +kernel
theorem dX8_placeFor_35 : decode cX8_placeFor 35 = .ok (.goto 23, 3) := by decide +kernel
theorem dX8_placeFor_38 : decode cX8_placeFor 38 = .ok (.aload_n 0, 1) := by decide +kernel
theorem dX8_placeFor_39 : decode cX8_placeFor 39 = .ok (.iload_n 1, 1) := by decide +kernel
theorem dX8_placeFor_40 : decode cX8_placeFor 40 = .ok (.iconst 1, 1) := by decide +kernel
theorem dX8_placeFor_41 : decode cX8_placeFor 41 = .ok (.invokevirtual 46, 3) := by decide +kernel
theorem dX8_placeFor_44 : decode cX8_placeFor 44 = .ok (.aload_n 0, 1) := by decide +kernel
theorem dX8_placeFor_45 : decode cX8_placeFor 45 = .ok (.getfield 7, 3) := by decide +kernel
theorem dX8_placeFor_48 : decode cX8_placeFor 48 = .ok (.iconst 2, 1) := by decide +kernel
theorem dX8_placeFor_49 : decode cX8_placeFor 49 = .ok (.iaload, 1) := by decide +kernel
theorem dX8_placeFor_50 : decode cX8_placeFor 50 = .ok (.if_icmp .le 7, 3) := by decide +kernel
theorem dX8_placeFor_53 : decode cX8_placeFor 53 = .ok (.iconst 4, 1) := by decide +kernel
theorem dX8_placeFor_54 : decode cX8_placeFor 54 = .ok (.goto 4, 3) := by decide +kernel
theorem dX8_placeFor_57 : decode cX8_placeFor 57 = .ok (.iconst 5, 1) := by decide +kernel
theorem dX8_placeFor_58 : decode cX8_placeFor 58 = .ok (.ireturn, 1) := by decide +kernel
set_option maxRecDepth 20000 in
theorem ggX8_sortOne_X8_of : GoodIn wsX8_sortOne wsX8_of := goodIn_r _ [6, 1, 47, 48, 49, 50, 51, 52, 53, 54, 55, 56, 57, 58, 59] (by decide +kernel) (by decide +kernel)
set_option maxRecDepth 20000 in
theorem gX8_sortOne_X8_of : GoodIn wsX8_sortOne (wsV RX8 46 RX8 yX8_of wsX8_of) := goodIn_app (goodIn_of _ (by decide +kernel)) ggX8_sortOne_X8_of
set_option maxRecDepth 20000 in
theorem ggX8_sortOne_X8_put : GoodIn wsX8_sortOne wsX8_put := goodIn_r _ [10, 1, 47, 48, 49, 50, 51, 52, 53, 54, 55, 56, 57, 58, 59] (by decide +kernel) (by decide +kernel)
set_option maxRecDepth 20000 in
theorem gX8_sortOne_X8_put : GoodIn wsX8_sortOne (wsV RX8 54 RX8 yX8_put wsX8_put) := goodIn_app (goodIn_of _ (by decide +kernel)) ggX8_sortOne_X8_put
set_option maxRecDepth 20000 in
theorem ggX8_sortOne_X8_placeFor : GoodIn wsX8_sortOne wsX8_placeFor := goodIn_r _ [14, 1, 2, 3, 4, 5, 6, 47, 48, 49, 50, 51, 52, 53, 54, 55, 56, 57, 58, 59] (by decide +kernel) (by decide +kernel)
set_option maxRecDepth 20000 in
theorem gX8_sortOne_X8_placeFor : GoodIn wsX8_sortOne (wsV RX8 66 RX8 yX8_placeFor wsX8_placeFor) := goodIn_app (goodIn_of _ (by decide +kernel)) ggX8_sortOne_X8_placeFor
set_option maxRecDepth 20000 in
theorem ggX8_sortOne_X8_bring : GoodIn wsX8_sortOne wsX8_bring := goodIn_r _ [18, 7, 8, 9, 5, 10, 1, 47, 48, 49, 50, 51, 52, 53, 54, 55, 56, 57, 58, 59] (by decide +kernel) (by decide +kernel)
set_option maxRecDepth 20000 in
theorem gX8_sortOne_X8_bring : GoodIn wsX8_sortOne (wsV RX8 58 RX8 yX8_bring wsX8_bring) := goodIn_app (goodIn_of _ (by decide +kernel)) ggX8_sortOne_X8_bring
set_option maxRecDepth 20000 in
theorem ggX8_sortOne_X8_at : GoodIn wsX8_sortOne wsX8_at := goodIn_r _ [22, 1, 2, 3, 4, 5, 6, 47, 48, 49, 50, 51, 52, 53, 54, 55, 56, 57, 58, 59] (by decide +kernel) (by decide +kernel)
set_option maxRecDepth 20000 in
theorem gX8_sortOne_X8_at : GoodIn wsX8_sortOne (wsV RX8 69 RX8 yX8_at wsX8_at) := goodIn_app (goodIn_of _ (by decide +kernel)) ggX8_sortOne_X8_at
set_option maxRecDepth 20000 in
theorem ggX8_sortOne_X8_letGoNow : GoodIn wsX8_sortOne wsX8_letGoNow := goodIn_r _ [26, 1, 2, 3, 4, 5, 6, 15, 16, 17, 18, 7, 8, 9, 10, 47, 48, 49, 50, 51, 52, 53, 54, 55, 56, 57, 58, 59] (by decide +kernel) (by decide +kernel)
set_option maxRecDepth 20000 in
theorem gX8_sortOne_X8_letGoNow : GoodIn wsX8_sortOne (wsV RX8 72 RX8 yX8_letGoNow wsX8_letGoNow) := goodIn_app (goodIn_of _ (by decide +kernel)) ggX8_sortOne_X8_letGoNow
set_option maxRecDepth 20000 in
theorem ggX8_sortOne_X8_classOf : GoodIn wsX8_sortOne wsX8_classOf := goodIn_r _ [30, 1, 2, 3, 4, 5, 6, 47, 48, 49, 50, 51, 52, 53, 54, 55, 56, 57, 58, 59] (by decide +kernel) (by decide +kernel)
set_option maxRecDepth 20000 in
theorem gX8_sortOne_X8_classOf : GoodIn wsX8_sortOne (wsV RX8 62 RX8 yX8_classOf wsX8_classOf) := goodIn_app (goodIn_of _ (by decide +kernel)) ggX8_sortOne_X8_classOf
set_option maxRecDepth 20000 in
theorem ggX8_sortOne_X8_binOf : GoodIn wsX8_sortOne wsX8_binOf := goodIn_r _ [34, 27, 28, 29, 5, 30, 1, 2, 3, 4, 6, 47, 48, 49, 50, 51, 52, 53, 54, 55, 56, 57, 58, 59] (by decide +kernel) (by decide +kernel)
set_option maxRecDepth 20000 in
theorem gX8_sortOne_X8_binOf : GoodIn wsX8_sortOne (wsV RX8 76 RX8 yX8_binOf wsX8_binOf) := goodIn_app (goodIn_of _ (by decide +kernel)) ggX8_sortOne_X8_binOf
set_option maxRecDepth 20000 in
theorem ggX8_sortOne_X8_manyIn : GoodIn wsX8_sortOne wsX8_manyIn := goodIn_r _ [38, 1, 39, 40, 41, 5, 42, 2, 3, 4, 6, 47, 48, 49, 50, 51, 52, 53, 54, 55, 56, 57, 58, 59] (by decide +kernel) (by decide +kernel)
set_option maxRecDepth 20000 in
theorem gX8_sortOne_X8_manyIn : GoodIn wsX8_sortOne (wsV RX8 79 RX8 yX8_manyIn wsX8_manyIn) := goodIn_app (goodIn_of _ (by decide +kernel)) ggX8_sortOne_X8_manyIn
set_option maxRecDepth 20000 in
theorem ggX8_sortOne_X8_toHopper : GoodIn wsX8_sortOne wsX8_toHopper := goodIn_r _ [46, 1, 15, 16, 17, 5, 18, 7, 8, 9, 10, 47, 48, 49, 50, 51, 52, 53, 54, 55, 56, 57, 58, 59] (by decide +kernel) (by decide +kernel)
set_option maxRecDepth 20000 in
theorem gX8_sortOne_X8_toHopper : GoodIn wsX8_sortOne (wsV RX8 82 RX8 yX8_toHopper wsX8_toHopper) := goodIn_app (goodIn_of _ (by decide +kernel)) ggX8_sortOne_X8_toHopper
theorem dX8_sortOne_0 : decode cX8_sortOne 0 = .ok (.aload_n 0, 1) := by decide +kernel
theorem dX8_sortOne_1 : decode cX8_sortOne 1 = .ok (.getfield 7, 3) := by decide +kernel
theorem dX8_sortOne_4 : decode cX8_sortOne 4 = .ok (.bipush 15, 2) := by decide +kernel
theorem dX8_sortOne_6 : decode cX8_sortOne 6 = .ok (.iaload, 1) := by decide +kernel
theorem dX8_sortOne_7 : decode cX8_sortOne 7 = .ok (.istore_n 1, 1) := by decide +kernel
theorem dX8_sortOne_8 : decode cX8_sortOne 8 = .ok (.aload_n 0, 1) := by decide +kernel
theorem dX8_sortOne_9 : decode cX8_sortOne 9 = .ok (.getfield 7, 3) := by decide +kernel
theorem dX8_sortOne_12 : decode cX8_sortOne 12 = .ok (.bipush 14, 2) := by decide +kernel
theorem dX8_sortOne_14 : decode cX8_sortOne 14 = .ok (.dup2, 1) := by decide +kernel
theorem dX8_sortOne_15 : decode cX8_sortOne 15 = .ok (.iaload, 1) := by decide +kernel
theorem dX8_sortOne_16 : decode cX8_sortOne 16 = .ok (.iconst 1, 1) := by decide +kernel
theorem dX8_sortOne_17 : decode cX8_sortOne 17 = .ok (.isub, 1) := by decide +kernel
theorem dX8_sortOne_18 : decode cX8_sortOne 18 = .ok (.iastore, 1) := by decide +kernel
theorem dX8_sortOne_19 : decode cX8_sortOne 19 = .ok (.iconst 0, 1) := by decide +kernel
theorem dX8_sortOne_20 : decode cX8_sortOne 20 = .ok (.istore_n 2, 1) := by decide +kernel
theorem dX8_sortOne_21 : decode cX8_sortOne 21 = .ok (.iload_n 2, 1) := by decide +kernel
theorem dX8_sortOne_22 : decode cX8_sortOne 22 = .ok (.aload_n 0, 1) := by decide +kernel
theorem dX8_sortOne_23 : decode cX8_sortOne 23 = .ok (.getfield 7, 3) := by decide +kernel
theorem dX8_sortOne_26 : decode cX8_sortOne 26 = .ok (.bipush 14, 2) := by decide +kernel
theorem dX8_sortOne_28 : decode cX8_sortOne 28 = .ok (.iaload, 1) := by decide +kernel
theorem dX8_sortOne_29 : decode cX8_sortOne 29 = .ok (.if_icmp .ge 29, 3) := by decide +kernel
theorem dX8_sortOne_32 : decode cX8_sortOne 32 = .ok (.aload_n 0, 1) := by decide +kernel
theorem dX8_sortOne_33 : decode cX8_sortOne 33 = .ok (.getfield 7, 3) := by decide +kernel
theorem dX8_sortOne_36 : decode cX8_sortOne 36 = .ok (.bipush 15, 2) := by decide +kernel
theorem dX8_sortOne_38 : decode cX8_sortOne 38 = .ok (.iload_n 2, 1) := by decide +kernel
theorem dX8_sortOne_39 : decode cX8_sortOne 39 = .ok (.iadd, 1) := by decide +kernel
theorem dX8_sortOne_40 : decode cX8_sortOne 40 = .ok (.aload_n 0, 1) := by decide +kernel
theorem dX8_sortOne_41 : decode cX8_sortOne 41 = .ok (.getfield 7, 3) := by decide +kernel
theorem dX8_sortOne_44 : decode cX8_sortOne 44 = .ok (.bipush 15, 2) := by decide +kernel
theorem dX8_sortOne_46 : decode cX8_sortOne 46 = .ok (.iload_n 2, 1) := by decide +kernel
theorem dX8_sortOne_47 : decode cX8_sortOne 47 = .ok (.iadd, 1) := by decide +kernel
theorem dX8_sortOne_48 : decode cX8_sortOne 48 = .ok (.iconst 1, 1) := by decide +kernel
theorem dX8_sortOne_49 : decode cX8_sortOne 49 = .ok (.iadd, 1) := by decide +kernel
theorem dX8_sortOne_50 : decode cX8_sortOne 50 = .ok (.iaload, 1) := by decide +kernel
theorem dX8_sortOne_51 : decode cX8_sortOne 51 = .ok (.iastore, 1) := by decide +kernel
theorem dX8_sortOne_52 : decode cX8_sortOne 52 = .ok (.iinc 2 1, 3) := by decide +kernel
theorem dX8_sortOne_55 : decode cX8_sortOne 55 = .ok (.goto (-34), 3) := by decide +kernel
theorem dX8_sortOne_58 : decode cX8_sortOne 58 = .ok (.aload_n 0, 1) := by decide +kernel
theorem dX8_sortOne_59 : decode cX8_sortOne 59 = .ok (.getfield 7, 3) := by decide +kernel
theorem dX8_sortOne_62 : decode cX8_sortOne 62 = .ok (.bipush 15, 2) := by decide +kernel
theorem dX8_sortOne_64 : decode cX8_sortOne 64 = .ok (.aload_n 0, 1) := by decide +kernel
theorem dX8_sortOne_65 : decode cX8_sortOne 65 = .ok (.getfield 7, 3) := by decide +kernel
theorem dX8_sortOne_68 : decode cX8_sortOne 68 = .ok (.bipush 14, 2) := by decide +kernel
theorem dX8_sortOne_70 : decode cX8_sortOne 70 = .ok (.iaload, 1) := by decide +kernel
theorem dX8_sortOne_71 : decode cX8_sortOne 71 = .ok (.iadd, 1) := by decide +kernel
theorem dX8_sortOne_72 : decode cX8_sortOne 72 = .ok (.iconst 0, 1) := by decide +kernel
theorem dX8_sortOne_73 : decode cX8_sortOne 73 = .ok (.iastore, 1) := by decide +kernel
theorem dX8_sortOne_74 : decode cX8_sortOne 74 = .ok (.aload_n 0, 1) := by decide +kernel
theorem dX8_sortOne_75 : decode cX8_sortOne 75 = .ok (.getfield 7, 3) := by decide +kernel
theorem dX8_sortOne_78 : decode cX8_sortOne 78 = .ok (.bipush 10, 2) := by decide +kernel
theorem dX8_sortOne_80 : decode cX8_sortOne 80 = .ok (.dup2, 1) := by decide +kernel
theorem dX8_sortOne_81 : decode cX8_sortOne 81 = .ok (.iaload, 1) := by decide +kernel
theorem dX8_sortOne_82 : decode cX8_sortOne 82 = .ok (.iconst 1, 1) := by decide +kernel
theorem dX8_sortOne_83 : decode cX8_sortOne 83 = .ok (.iadd, 1) := by decide +kernel
theorem dX8_sortOne_84 : decode cX8_sortOne 84 = .ok (.iastore, 1) := by decide +kernel
theorem dX8_sortOne_85 : decode cX8_sortOne 85 = .ok (.aload_n 0, 1) := by decide +kernel
theorem dX8_sortOne_86 : decode cX8_sortOne 86 = .ok (.iload_n 1, 1) := by decide +kernel
theorem dX8_sortOne_87 : decode cX8_sortOne 87 = .ok (.bipush 8, 2) := by decide +kernel
theorem dX8_sortOne_89 : decode cX8_sortOne 89 = .ok (.aload_n 0, 1) := by decide +kernel
theorem dX8_sortOne_90 : decode cX8_sortOne 90 = .ok (.iload_n 1, 1) := by decide +kernel
theorem dX8_sortOne_91 : decode cX8_sortOne 91 = .ok (.bipush 8, 2) := by decide +kernel
theorem dX8_sortOne_93 : decode cX8_sortOne 93 = .ok (.invokevirtual 46, 3) := by decide +kernel
theorem dX8_sortOne_96 : decode cX8_sortOne 96 = .ok (.iconst 1, 1) := by decide +kernel
theorem dX8_sortOne_97 : decode cX8_sortOne 97 = .ok (.iadd, 1) := by decide +kernel
theorem dX8_sortOne_98 : decode cX8_sortOne 98 = .ok (.invokevirtual 54, 3) := by decide +kernel
theorem dX8_sortOne_101 : decode cX8_sortOne 101 = .ok (.aload_n 0, 1) := by decide +kernel
theorem dX8_sortOne_102 : decode cX8_sortOne 102 = .ok (.iload_n 1, 1) := by decide +kernel
theorem dX8_sortOne_103 : decode cX8_sortOne 103 = .ok (.invokevirtual 66, 3) := by decide +kernel
theorem dX8_sortOne_106 : decode cX8_sortOne 106 = .ok (.istore_n 2, 1) := by decide +kernel
theorem dX8_sortOne_107 : decode cX8_sortOne 107 = .ok (.iload_n 2, 1) := by decide +kernel
theorem dX8_sortOne_108 : decode cX8_sortOne 108 = .ok (.iconst 5, 1) := by decide +kernel
theorem dX8_sortOne_109 : decode cX8_sortOne 109 = .ok (.if_icmp .eq 34, 3) := by decide +kernel
theorem dX8_sortOne_112 : decode cX8_sortOne 112 = .ok (.aload_n 0, 1) := by decide +kernel
theorem dX8_sortOne_113 : decode cX8_sortOne 113 = .ok (.iload_n 1, 1) := by decide +kernel
theorem dX8_sortOne_114 : decode cX8_sortOne 114 = .ok (.iload_n 2, 1) := by decide +kernel
theorem dX8_sortOne_115 : decode cX8_sortOne 115 = .ok (.invokevirtual 58, 3) := by decide +kernel
theorem dX8_sortOne_118 : decode cX8_sortOne 118 = .ok (.iload_n 2, 1) := by decide +kernel
theorem dX8_sortOne_119 : decode cX8_sortOne 119 = .ok (.iconst 2, 1) := by decide +kernel
theorem dX8_sortOne_120 : decode cX8_sortOne 120 = .ok (.if_icmp .ne 22, 3) := by decide +kernel
theorem dX8_sortOne_123 : decode cX8_sortOne 123 = .ok (.aload_n 0, 1) := by decide +kernel
theorem dX8_sortOne_124 : decode cX8_sortOne 124 = .ok (.iconst 2, 1) := by decide +kernel
theorem dX8_sortOne_125 : decode cX8_sortOne 125 = .ok (.invokevirtual 69, 3) := by decide +kernel
theorem dX8_sortOne_128 : decode cX8_sortOne 128 = .ok (.aload_n 0, 1) := by decide +kernel
theorem dX8_sortOne_129 : decode cX8_sortOne 129 = .ok (.getfield 7, 3) := by decide +kernel
theorem dX8_sortOne_132 : decode cX8_sortOne 132 = .ok (.iconst 5, 1) := by decide +kernel
theorem dX8_sortOne_133 : decode cX8_sortOne 133 = .ok (.iaload, 1) := by decide +kernel
theorem dX8_sortOne_134 : decode cX8_sortOne 134 = .ok (.if_icmp .lt 8, 3) := by decide +kernel
theorem dX8_sortOne_137 : decode cX8_sortOne 137 = .ok (.aload_n 0, 1) := by decide +kernel
theorem dX8_sortOne_138 : decode cX8_sortOne 138 = .ok (.invokevirtual 72, 3) := by decide +kernel
theorem dX8_sortOne_141 : decode cX8_sortOne 141 = .ok (.istore_n 3, 1) := by decide +kernel
theorem dX8_sortOne_142 : decode cX8_sortOne 142 = .ok (.return_, 1) := by decide +kernel
theorem dX8_sortOne_143 : decode cX8_sortOne 143 = .ok (.aload_n 0, 1) := by decide +kernel
theorem dX8_sortOne_144 : decode cX8_sortOne 144 = .ok (.iload_n 1, 1) := by decide +kernel
theorem dX8_sortOne_145 : decode cX8_sortOne 145 = .ok (.iconst 1, 1) := by decide +kernel
theorem dX8_sortOne_146 : decode cX8_sortOne 146 = .ok (.invokevirtual 46, 3) := by decide +kernel
theorem dX8_sortOne_149 : decode cX8_sortOne 149 = .ok (.aload_n 0, 1) := by decide +kernel
theorem dX8_sortOne_150 : decode cX8_sortOne 150 = .ok (.getfield 7, 3) := by decide +kernel
theorem dX8_sortOne_153 : decode cX8_sortOne 153 = .ok (.aload_n 0, 1) := by decide +kernel
theorem dX8_sortOne_154 : decode cX8_sortOne 154 = .ok (.iload_n 1, 1) := by decide +kernel
theorem dX8_sortOne_155 : decode cX8_sortOne 155 = .ok (.invokevirtual 62, 3) := by decide +kernel
theorem dX8_sortOne_158 : decode cX8_sortOne 158 = .ok (.iaload, 1) := by decide +kernel
theorem dX8_sortOne_159 : decode cX8_sortOne 159 = .ok (.if_icmp .ne 44, 3) := by decide +kernel
theorem dX8_sortOne_162 : decode cX8_sortOne 162 = .ok (.aload_n 0, 1) := by decide +kernel
theorem dX8_sortOne_163 : decode cX8_sortOne 163 = .ok (.iload_n 1, 1) := by decide +kernel
theorem dX8_sortOne_164 : decode cX8_sortOne 164 = .ok (.iconst 3, 1) := by decide +kernel
theorem dX8_sortOne_165 : decode cX8_sortOne 165 = .ok (.aload_n 0, 1) := by decide +kernel
theorem dX8_sortOne_166 : decode cX8_sortOne 166 = .ok (.iload_n 1, 1) := by decide +kernel
theorem dX8_sortOne_167 : decode cX8_sortOne 167 = .ok (.iconst 3, 1) := by decide +kernel
theorem dX8_sortOne_168 : decode cX8_sortOne 168 = .ok (.invokevirtual 46, 3) := by decide +kernel
theorem dX8_sortOne_171 : decode cX8_sortOne 171 = .ok (.bipush 9, 2) := by decide +kernel
theorem dX8_sortOne_173 : decode cX8_sortOne 173 = .ok (.if_icmp .ge 14, 3) := by decide +kernel
theorem dX8_sortOne_176 : decode cX8_sortOne 176 = .ok (.aload_n 0, 1) := by decide +kernel
theorem dX8_sortOne_177 : decode cX8_sortOne 177 = .ok (.iload_n 1, 1) := by decide +kernel
theorem dX8_sortOne_178 : decode cX8_sortOne 178 = .ok (.iconst 3, 1) := by decide +kernel
theorem dX8_sortOne_179 : decode cX8_sortOne 179 = .ok (.invokevirtual 46, 3) := by decide +kernel
theorem dX8_sortOne_182 : decode cX8_sortOne 182 = .ok (.iconst 1, 1) := by decide +kernel
theorem dX8_sortOne_183 : decode cX8_sortOne 183 = .ok (.iadd, 1) := by decide +kernel
theorem dX8_sortOne_184 : decode cX8_sortOne 184 = .ok (.goto 5, 3) := by decide +kernel
theorem dX8_sortOne_187 : decode cX8_sortOne 187 = .ok (.bipush 9, 2) := by decide +kernel
theorem dX8_sortOne_189 : decode cX8_sortOne 189 = .ok (.invokevirtual 54, 3) := by decide +kernel
theorem dX8_sortOne_192 : decode cX8_sortOne 192 = .ok (.aload_n 0, 1) := by decide +kernel
theorem dX8_sortOne_193 : decode cX8_sortOne 193 = .ok (.getfield 7, 3) := by decide +kernel
theorem dX8_sortOne_196 : decode cX8_sortOne 196 = .ok (.bipush 12, 2) := by decide +kernel
theorem dX8_sortOne_198 : decode cX8_sortOne 198 = .ok (.dup2, 1) := by decide +kernel
theorem dX8_sortOne_199 : decode cX8_sortOne 199 = .ok (.iaload, 1) := by decide +kernel
theorem dX8_sortOne_200 : decode cX8_sortOne 200 = .ok (.iconst 1, 1) := by decide +kernel
theorem dX8_sortOne_201 : decode cX8_sortOne 201 = .ok (.iadd, 1) := by decide +kernel
theorem dX8_sortOne_202 : decode cX8_sortOne 202 = .ok (.iastore, 1) := by decide +kernel
theorem dX8_sortOne_203 : decode cX8_sortOne 203 = .ok (.aload_n 0, 1) := by decide +kernel
theorem dX8_sortOne_204 : decode cX8_sortOne 204 = .ok (.aload_n 0, 1) := by decide +kernel
theorem dX8_sortOne_205 : decode cX8_sortOne 205 = .ok (.iload_n 1, 1) := by decide +kernel
theorem dX8_sortOne_206 : decode cX8_sortOne 206 = .ok (.invokevirtual 76, 3) := by decide +kernel
theorem dX8_sortOne_209 : decode cX8_sortOne 209 = .ok (.invokevirtual 79, 3) := by decide +kernel
theorem dX8_sortOne_212 : decode cX8_sortOne 212 = .ok (.aload_n 0, 1) := by decide +kernel
theorem dX8_sortOne_213 : decode cX8_sortOne 213 = .ok (.getfield 7, 3) := by decide +kernel
theorem dX8_sortOne_216 : decode cX8_sortOne 216 = .ok (.bipush 6, 2) := by decide +kernel
theorem dX8_sortOne_218 : decode cX8_sortOne 218 = .ok (.iaload, 1) := by decide +kernel
theorem dX8_sortOne_219 : decode cX8_sortOne 219 = .ok (.if_icmp .ge 25, 3) := by decide +kernel
theorem dX8_sortOne_222 : decode cX8_sortOne 222 = .ok (.aload_n 0, 1) := by decide +kernel
theorem dX8_sortOne_223 : decode cX8_sortOne 223 = .ok (.iload_n 1, 1) := by decide +kernel
theorem dX8_sortOne_224 : decode cX8_sortOne 224 = .ok (.iconst 5, 1) := by decide +kernel
theorem dX8_sortOne_225 : decode cX8_sortOne 225 = .ok (.iconst 5, 1) := by decide +kernel
theorem dX8_sortOne_226 : decode cX8_sortOne 226 = .ok (.invokevirtual 54, 3) := by decide +kernel
theorem dX8_sortOne_229 : decode cX8_sortOne 229 = .ok (.aload_n 0, 1) := by decide +kernel
theorem dX8_sortOne_230 : decode cX8_sortOne 230 = .ok (.iload_n 1, 1) := by decide +kernel
theorem dX8_sortOne_231 : decode cX8_sortOne 231 = .ok (.bipush 6, 2) := by decide +kernel
theorem dX8_sortOne_233 : decode cX8_sortOne 233 = .ok (.aload_n 0, 1) := by decide +kernel
theorem dX8_sortOne_234 : decode cX8_sortOne 234 = .ok (.iload_n 1, 1) := by decide +kernel
theorem dX8_sortOne_235 : decode cX8_sortOne 235 = .ok (.invokevirtual 76, 3) := by decide +kernel
theorem dX8_sortOne_238 : decode cX8_sortOne 238 = .ok (.invokevirtual 54, 3) := by decide +kernel
theorem dX8_sortOne_241 : decode cX8_sortOne 241 = .ok (.goto 19, 3) := by decide +kernel
theorem dX8_sortOne_244 : decode cX8_sortOne 244 = .ok (.aload_n 0, 1) := by decide +kernel
theorem dX8_sortOne_245 : decode cX8_sortOne 245 = .ok (.iload_n 1, 1) := by decide +kernel
theorem dX8_sortOne_246 : decode cX8_sortOne 246 = .ok (.invokevirtual 82, 3) := by decide +kernel
theorem dX8_sortOne_249 : decode cX8_sortOne 249 = .ok (.aload_n 0, 1) := by decide +kernel
theorem dX8_sortOne_250 : decode cX8_sortOne 250 = .ok (.getfield 7, 3) := by decide +kernel
theorem dX8_sortOne_253 : decode cX8_sortOne 253 = .ok (.bipush 11, 2) := by decide +kernel
theorem dX8_sortOne_255 : decode cX8_sortOne 255 = .ok (.dup2, 1) := by decide +kernel
theorem dX8_sortOne_256 : decode cX8_sortOne 256 = .ok (.iaload, 1) := by decide +kernel
theorem dX8_sortOne_257 : decode cX8_sortOne 257 = .ok (.iconst 1, 1) := by decide +kernel
theorem dX8_sortOne_258 : decode cX8_sortOne 258 = .ok (.iadd, 1) := by decide +kernel
theorem dX8_sortOne_259 : decode cX8_sortOne 259 = .ok (.iastore, 1) := by decide +kernel
theorem dX8_sortOne_260 : decode cX8_sortOne 260 = .ok (.return_, 1) := by decide +kernel
set_option maxRecDepth 20000 in
theorem ggX8_sort_X8_in : GoodIn wsX8_sort wsX8_in := goodIn_r _ [5] (by decide +kernel) (by decide +kernel)
set_option maxRecDepth 20000 in
theorem gX8_sort_X8_in : GoodIn wsX8_sort (va_wsS RX8 31 yX8_in wsX8_in) := goodIn_app (goodIn_of _ (by decide +kernel)) ggX8_sort_X8_in
set_option maxRecDepth 20000 in
theorem ggX8_sort_X8_record : GoodIn wsX8_sort wsX8_record := goodIn_r _ [9, 10, 11, 1, 60, 61, 62, 63, 64, 65, 66, 67, 68, 69, 70, 71, 72] (by decide +kernel) (by decide +kernel)
set_option maxRecDepth 20000 in
theorem gX8_sort_X8_record : GoodIn wsX8_sort (wsV RX8 43 RX8 yX8_record wsX8_record) := goodIn_app (goodIn_of _ (by decide +kernel)) ggX8_sort_X8_record
set_option maxRecDepth 20000 in
theorem ggX8_sort_X8_sortOne : GoodIn wsX8_sort wsX8_sortOne := goodIn_r _ [15, 1, 16, 17, 18, 4, 19, 20, 21, 22, 23, 24, 25, 26, 27, 28, 29, 30, 31, 32, 33, 34, 35, 36, 37, 38, 39, 40, 41, 42, 43, 44, 45, 46, 47, 48, 49, 50, 51, 52, 53, 54, 55, 56, 57, 58, 59, 60, 61, 62, 63, 64, 65, 66, 67, 68, 69, 70, 71, 72] (by decide +kernel) (by decide +kernel)
set_option maxRecDepth 20000 in
theorem gX8_sort_X8_sortOne : GoodIn wsX8_sort (wsV RX8 86 RX8 yX8_sortOne wsX8_sortOne) := goodIn_app (goodIn_of _ (by decide +kernel)) ggX8_sort_X8_sortOne
theorem dX8_sort_0 : decode cX8_sort 0 = .ok (.iload_n 1, 1) := by decide +kernel
theorem dX8_sort_1 : decode cX8_sort 1 = .ok (.iconst 1, 1) := by decide +kernel
theorem dX8_sort_2 : decode cX8_sort 2 = .ok (.bipush 99, 2) := by decide +kernel
theorem dX8_sort_4 : decode cX8_sort 4 = .ok (.invokestatic 31, 3) := by decide +kernel
theorem dX8_sort_7 : decode cX8_sort 7 = .ok (.ifCond .ne 6, 3) := by decide +kernel
theorem dX8_sort_10 : decode cX8_sort 10 = .ok (.bipush (-2), 2) := by decide +kernel
theorem dX8_sort_12 : decode cX8_sort 12 = .ok (.ireturn, 1) := by decide +kernel
theorem dX8_sort_13 : decode cX8_sort 13 = .ok (.aload_n 0, 1) := by decide +kernel
theorem dX8_sort_14 : decode cX8_sort 14 = .ok (.getfield 7, 3) := by decide +kernel
theorem dX8_sort_17 : decode cX8_sort 17 = .ok (.bipush 14, 2) := by decide +kernel
theorem dX8_sort_19 : decode cX8_sort 19 = .ok (.iaload, 1) := by decide +kernel
theorem dX8_sort_20 : decode cX8_sort 20 = .ok (.ifCond .ne 6, 3) := by decide +kernel
theorem dX8_sort_23 : decode cX8_sort 23 = .ok (.bipush (-5), 2) := by decide +kernel
theorem dX8_sort_25 : decode cX8_sort 25 = .ok (.ireturn, 1) := by decide +kernel
theorem dX8_sort_26 : decode cX8_sort 26 = .ok (.aload_n 0, 1) := by decide +kernel
theorem dX8_sort_27 : decode cX8_sort 27 = .ok (.invokevirtual 43, 3) := by decide +kernel
theorem dX8_sort_30 : decode cX8_sort 30 = .ok (.iconst 0, 1) := by decide +kernel
theorem dX8_sort_31 : decode cX8_sort 31 = .ok (.istore_n 2, 1) := by decide +kernel
theorem dX8_sort_32 : decode cX8_sort 32 = .ok (.iload_n 2, 1) := by decide +kernel
theorem dX8_sort_33 : decode cX8_sort 33 = .ok (.iload_n 1, 1) := by decide +kernel
theorem dX8_sort_34 : decode cX8_sort 34 = .ok (.if_icmp .ge 23, 3) := by decide +kernel
theorem dX8_sort_37 : decode cX8_sort 37 = .ok (.aload_n 0, 1) := by decide +kernel
theorem dX8_sort_38 : decode cX8_sort 38 = .ok (.getfield 7, 3) := by decide +kernel
theorem dX8_sort_41 : decode cX8_sort 41 = .ok (.bipush 14, 2) := by decide +kernel
theorem dX8_sort_43 : decode cX8_sort 43 = .ok (.iaload, 1) := by decide +kernel
theorem dX8_sort_44 : decode cX8_sort 44 = .ok (.ifCond .le 13, 3) := by decide +kernel
theorem dX8_sort_47 : decode cX8_sort 47 = .ok (.aload_n 0, 1) := by decide +kernel
theorem dX8_sort_48 : decode cX8_sort 48 = .ok (.invokevirtual 86, 3) := by decide +kernel
theorem dX8_sort_51 : decode cX8_sort 51 = .ok (.iinc 2 1, 3) := by decide +kernel
theorem dX8_sort_54 : decode cX8_sort 54 = .ok (.goto (-22), 3) := by decide +kernel
theorem dX8_sort_57 : decode cX8_sort 57 = .ok (.iload_n 2, 1) := by decide +kernel
theorem dX8_sort_58 : decode cX8_sort 58 = .ok (.ireturn, 1) := by decide +kernel
set_option maxRecDepth 20000 in
theorem ggX8_letGo_X8_at : GoodIn wsX8_letGo wsX8_at := goodIn_r _ [5, 6, 7, 8, 9, 4, 10, 29, 30, 31, 32, 33, 34, 35, 36, 37, 38, 39, 40, 41] (by decide +kernel) (by decide +kernel)
set_option maxRecDepth 20000 in
theorem gX8_letGo_X8_at : GoodIn wsX8_letGo (wsV RX8 69 RX8 yX8_at wsX8_at) := goodIn_app (goodIn_of _ (by decide +kernel)) ggX8_letGo_X8_at
set_option maxRecDepth 20000 in
theorem ggX8_letGo_X8_record : GoodIn wsX8_letGo wsX8_record := goodIn_r _ [14, 15, 16, 6, 29, 30, 31, 32, 33, 34, 35, 36, 37, 38, 39, 40, 41] (by decide +kernel) (by decide +kernel)
set_option maxRecDepth 20000 in
theorem gX8_letGo_X8_record : GoodIn wsX8_letGo (wsV RX8 43 RX8 yX8_record wsX8_record) := goodIn_app (goodIn_of _ (by decide +kernel)) ggX8_letGo_X8_record
set_option maxRecDepth 20000 in
theorem ggX8_letGo_X8_letGoNow : GoodIn wsX8_letGo wsX8_letGoNow := goodIn_r _ [20, 6, 7, 8, 9, 4, 10, 21, 22, 23, 24, 25, 26, 27, 28, 29, 30, 31, 32, 33, 34, 35, 36, 37, 38, 39, 40, 41] (by decide +kernel) (by decide +kernel)
set_option maxRecDepth 20000 in
theorem gX8_letGo_X8_letGoNow : GoodIn wsX8_letGo (wsV RX8 72 RX8 yX8_letGoNow wsX8_letGoNow) := goodIn_app (goodIn_of _ (by decide +kernel)) ggX8_letGo_X8_letGoNow
theorem dX8_letGo_0 : decode cX8_letGo 0 = .ok (.aload_n 0, 1) := by decide +kernel
theorem dX8_letGo_1 : decode cX8_letGo 1 = .ok (.iconst 2, 1) := by decide +kernel
theorem dX8_letGo_2 : decode cX8_letGo 2 = .ok (.invokevirtual 69, 3) := by decide +kernel
theorem dX8_letGo_5 : decode cX8_letGo 5 = .ok (.ifCond .ne 6, 3) := by decide +kernel
theorem dX8_letGo_8 : decode cX8_letGo 8 = .ok (.bipush (-5), 2) := by decide +kernel
theorem dX8_letGo_10 : decode cX8_letGo 10 = .ok (.ireturn, 1) := by decide +kernel
theorem dX8_letGo_11 : decode cX8_letGo 11 = .ok (.aload_n 0, 1) := by decide +kernel
theorem dX8_letGo_12 : decode cX8_letGo 12 = .ok (.invokevirtual 43, 3) := by decide +kernel
theorem dX8_letGo_15 : decode cX8_letGo 15 = .ok (.aload_n 0, 1) := by decide +kernel
theorem dX8_letGo_16 : decode cX8_letGo 16 = .ok (.invokevirtual 72, 3) := by decide +kernel
theorem dX8_letGo_19 : decode cX8_letGo 19 = .ok (.ireturn, 1) := by decide +kernel
set_option maxRecDepth 20000 in
theorem ggX8_pour_X8_isBin : GoodIn wsX8_pour wsX8_isBin := goodIn_r _ [5, 6, 7, 4, 8] (by decide +kernel) (by decide +kernel)
set_option maxRecDepth 20000 in
theorem gX8_pour_X8_isBin : GoodIn wsX8_pour (va_wsS RX8 89 yX8_isBin wsX8_isBin) := goodIn_app (goodIn_of _ (by decide +kernel)) ggX8_pour_X8_isBin
set_option maxRecDepth 20000 in
theorem ggX8_pour_X8_manyIn : GoodIn wsX8_pour wsX8_manyIn := goodIn_r _ [12, 1, 13, 14, 15, 4, 16, 17, 18, 19, 20, 39, 40, 41, 42, 43, 44, 45, 46, 47, 48, 49, 50, 51] (by decide +kernel) (by decide +kernel)
set_option maxRecDepth 20000 in
theorem gX8_pour_X8_manyIn : GoodIn wsX8_pour (wsV RX8 79 RX8 yX8_manyIn wsX8_manyIn) := goodIn_app (goodIn_of _ (by decide +kernel)) ggX8_pour_X8_manyIn
set_option maxRecDepth 20000 in
theorem ggX8_pour_X8_record : GoodIn wsX8_pour wsX8_record := goodIn_r _ [24, 25, 26, 1, 39, 40, 41, 42, 43, 44, 45, 46, 47, 48, 49, 50, 51] (by decide +kernel) (by decide +kernel)
set_option maxRecDepth 20000 in
theorem gX8_pour_X8_record : GoodIn wsX8_pour (wsV RX8 43 RX8 yX8_record wsX8_record) := goodIn_app (goodIn_of _ (by decide +kernel)) ggX8_pour_X8_record
set_option maxRecDepth 20000 in
theorem ggX8_pour_X8_isIn : GoodIn wsX8_pour wsX8_isIn := goodIn_r _ [16, 17, 18, 19, 4, 20, 1, 39, 40, 41, 42, 43, 44, 45, 46, 47, 48, 49, 50, 51] (by decide +kernel) (by decide +kernel)
set_option maxRecDepth 20000 in
theorem gX8_pour_X8_isIn : GoodIn wsX8_pour (wsV RX8 50 RX8 yX8_isIn wsX8_isIn) := goodIn_app (goodIn_of _ (by decide +kernel)) ggX8_pour_X8_isIn
set_option maxRecDepth 20000 in
theorem ggX8_pour_X8_toHopper : GoodIn wsX8_pour wsX8_toHopper := goodIn_r _ [30, 1, 31, 32, 33, 4, 34, 35, 36, 37, 38, 39, 40, 41, 42, 43, 44, 45, 46, 47, 48, 49, 50, 51] (by decide +kernel) (by decide +kernel)
set_option maxRecDepth 20000 in
theorem gX8_pour_X8_toHopper : GoodIn wsX8_pour (wsV RX8 82 RX8 yX8_toHopper wsX8_toHopper) := goodIn_app (goodIn_of _ (by decide +kernel)) ggX8_pour_X8_toHopper
theorem dX8_pour_0 : decode cX8_pour 0 = .ok (.iload_n 1, 1) := by decide +kernel
theorem dX8_pour_1 : decode cX8_pour 1 = .ok (.invokestatic 89, 3) := by decide +kernel
theorem dX8_pour_4 : decode cX8_pour 4 = .ok (.ifCond .ne 5, 3) := by decide +kernel
theorem dX8_pour_7 : decode cX8_pour 7 = .ok (.iconst (-1), 1) := by decide +kernel
theorem dX8_pour_8 : decode cX8_pour 8 = .ok (.ireturn, 1) := by decide +kernel
theorem dX8_pour_9 : decode cX8_pour 9 = .ok (.aload_n 0, 1) := by decide +kernel
theorem dX8_pour_10 : decode cX8_pour 10 = .ok (.iload_n 1, 1) := by decide +kernel
theorem dX8_pour_11 : decode cX8_pour 11 = .ok (.invokevirtual 79, 3) := by decide +kernel
theorem dX8_pour_14 : decode cX8_pour 14 = .ok (.istore_n 2, 1) := by decide +kernel
theorem dX8_pour_15 : decode cX8_pour 15 = .ok (.iload_n 2, 1) := by decide +kernel
theorem dX8_pour_16 : decode cX8_pour 16 = .ok (.ifCond .ne 6, 3) := by decide +kernel
theorem dX8_pour_19 : decode cX8_pour 19 = .ok (.bipush (-5), 2) := by decide +kernel
theorem dX8_pour_21 : decode cX8_pour 21 = .ok (.ireturn, 1) := by decide +kernel
theorem dX8_pour_22 : decode cX8_pour 22 = .ok (.aload_n 0, 1) := by decide +kernel
theorem dX8_pour_23 : decode cX8_pour 23 = .ok (.invokevirtual 43, 3) := by decide +kernel
theorem dX8_pour_26 : decode cX8_pour 26 = .ok (.iconst 0, 1) := by decide +kernel
theorem dX8_pour_27 : decode cX8_pour 27 = .ok (.istore_n 3, 1) := by decide +kernel
theorem dX8_pour_28 : decode cX8_pour 28 = .ok (.iload_n 3, 1) := by decide +kernel
theorem dX8_pour_29 : decode cX8_pour 29 = .ok (.aload_n 0, 1) := by decide +kernel
theorem dX8_pour_30 : decode cX8_pour 30 = .ok (.getfield 7, 3) := by decide +kernel
theorem dX8_pour_33 : decode cX8_pour 33 = .ok (.bipush 13, 2) := by decide +kernel
theorem dX8_pour_35 : decode cX8_pour 35 = .ok (.iaload, 1) := by decide +kernel
theorem dX8_pour_36 : decode cX8_pour 36 = .ok (.if_icmp .ge 23, 3) := by decide +kernel
theorem dX8_pour_39 : decode cX8_pour 39 = .ok (.aload_n 0, 1) := by decide +kernel
theorem dX8_pour_40 : decode cX8_pour 40 = .ok (.iload_n 3, 1) := by decide +kernel
theorem dX8_pour_41 : decode cX8_pour 41 = .ok (.iload_n 1, 1) := by decide +kernel
theorem dX8_pour_42 : decode cX8_pour 42 = .ok (.invokevirtual 50, 3) := by decide +kernel
theorem dX8_pour_45 : decode cX8_pour 45 = .ok (.ifCond .eq 8, 3) := by decide +kernel
theorem dX8_pour_48 : decode cX8_pour 48 = .ok (.aload_n 0, 1) := by decide +kernel
theorem dX8_pour_49 : decode cX8_pour 49 = .ok (.iload_n 3, 1) := by decide +kernel
theorem dX8_pour_50 : decode cX8_pour 50 = .ok (.invokevirtual 82, 3) := by decide +kernel
theorem dX8_pour_53 : decode cX8_pour 53 = .ok (.iinc 3 1, 3) := by decide +kernel
theorem dX8_pour_56 : decode cX8_pour 56 = .ok (.goto (-28), 3) := by decide +kernel
theorem dX8_pour_59 : decode cX8_pour 59 = .ok (.iload_n 2, 1) := by decide +kernel
theorem dX8_pour_60 : decode cX8_pour 60 = .ok (.ireturn, 1) := by decide +kernel
set_option maxRecDepth 20000 in
theorem ggX8_order_X8_isIn : GoodIn wsX8_order wsX8_isIn := goodIn_r _ [8, 9, 10, 11, 7, 12, 2, 13, 14, 15, 16, 17, 18, 19, 20, 21, 22, 23, 24, 25] (by decide +kernel) (by decide +kernel)
set_option maxRecDepth 20000 in
theorem gX8_order_X8_isIn : GoodIn wsX8_order (wsV RX8 50 RX8 yX8_isIn wsX8_isIn) := goodIn_app (goodIn_of _ (by decide +kernel)) ggX8_order_X8_isIn
set_option maxRecDepth 20000 in
theorem ggX8_order_X8_of : GoodIn wsX8_order wsX8_of := goodIn_r _ [12, 2, 13, 14, 15, 16, 17, 18, 19, 20, 21, 22, 23, 24, 25] (by decide +kernel) (by decide +kernel)
set_option maxRecDepth 20000 in
theorem gX8_order_X8_of : GoodIn wsX8_order (wsV RX8 46 RX8 yX8_of wsX8_of) := goodIn_app (goodIn_of _ (by decide +kernel)) ggX8_order_X8_of
theorem dX8_order_0 : decode cX8_order 0 = .ok (.aload_n 0, 1) := by decide +kernel
theorem dX8_order_1 : decode cX8_order 1 = .ok (.iconst 0, 1) := by decide +kernel
theorem dX8_order_2 : decode cX8_order 2 = .ok (.putfield 93, 3) := by decide +kernel
theorem dX8_order_5 : decode cX8_order 5 = .ok (.iconst 0, 1) := by decide +kernel
theorem dX8_order_6 : decode cX8_order 6 = .ok (.istore_n 2, 1) := by decide +kernel
theorem dX8_order_7 : decode cX8_order 7 = .ok (.iload_n 2, 1) := by decide +kernel
theorem dX8_order_8 : decode cX8_order 8 = .ok (.aload_n 0, 1) := by decide +kernel
theorem dX8_order_9 : decode cX8_order 9 = .ok (.getfield 7, 3) := by decide +kernel
theorem dX8_order_12 : decode cX8_order 12 = .ok (.bipush 13, 2) := by decide +kernel
theorem dX8_order_14 : decode cX8_order 14 = .ok (.iaload, 1) := by decide +kernel
theorem dX8_order_15 : decode cX8_order 15 = .ok (.if_icmp .ge 86, 3) := by decide +kernel
theorem dX8_order_18 : decode cX8_order 18 = .ok (.aload_n 0, 1) := by decide +kernel
theorem dX8_order_19 : decode cX8_order 19 = .ok (.iload_n 2, 1) := by decide +kernel
theorem dX8_order_20 : decode cX8_order 20 = .ok (.iload_n 1, 1) := by decide +kernel
theorem dX8_order_21 : decode cX8_order 21 = .ok (.invokevirtual 50, 3) := by decide +kernel
theorem dX8_order_24 : decode cX8_order 24 = .ok (.ifCond .eq 71, 3) := by decide +kernel
theorem dX8_order_27 : decode cX8_order 27 = .ok (.aload_n 0, 1) := by decide +kernel
theorem dX8_order_28 : decode cX8_order 28 = .ok (.getfield 93, 3) := by decide +kernel
theorem dX8_order_31 : decode cX8_order 31 = .ok (.istore_n 3, 1) := by decide +kernel
theorem dX8_order_32 : decode cX8_order 32 = .ok (.iload_n 3, 1) := by decide +kernel
theorem dX8_order_33 : decode cX8_order 33 = .ok (.ifCond .le 45, 3) := by decide +kernel
theorem dX8_order_36 : decode cX8_order 36 = .ok (.aload_n 0, 1) := by decide +kernel
theorem dX8_order_37 : decode cX8_order 37 = .ok (.aload_n 0, 1) := by decide +kernel
theorem dX8_order_38 : decode cX8_order 38 = .ok (.getfield 22, 3) := by decide +kernel
theorem dX8_order_41 : decode cX8_order 41 = .ok (.iload_n 3, 1) := by decide +kernel
theorem dX8_order_42 : decode cX8_order 42 = .ok (.iconst 1, 1) := by decide +kernel
theorem dX8_order_43 : decode cX8_order 43 = .ok (.isub, 1) := by decide +kernel
theorem dX8_order_44 : decode cX8_order 44 = .ok (.iaload, 1) := by decide +kernel
theorem dX8_order_45 : decode cX8_order 45 = .ok (.iconst 4, 1) := by decide +kernel
theorem dX8_order_46 : decode cX8_order 46 = .ok (.invokevirtual 46, 3) := by decide +kernel
theorem dX8_order_49 : decode cX8_order 49 = .ok (.aload_n 0, 1) := by decide +kernel
theorem dX8_order_50 : decode cX8_order 50 = .ok (.iload_n 2, 1) := by decide +kernel
theorem dX8_order_51 : decode cX8_order 51 = .ok (.iconst 4, 1) := by decide +kernel
theorem dX8_order_52 : decode cX8_order 52 = .ok (.invokevirtual 46, 3) := by decide +kernel
theorem dX8_order_55 : decode cX8_order 55 = .ok (.if_icmp .le 23, 3) := by decide +kernel
theorem dX8_order_58 : decode cX8_order 58 = .ok (.aload_n 0, 1) := by decide +kernel
theorem dX8_order_59 : decode cX8_order 59 = .ok (.getfield 22, 3) := by decide +kernel
theorem dX8_order_62 : decode cX8_order 62 = .ok (.iload_n 3, 1) := by decide +kernel
theorem dX8_order_63 : decode cX8_order 63 = .ok (.aload_n 0, 1) := by decide +kernel
theorem dX8_order_64 : decode cX8_order 64 = .ok (.getfield 22, 3) := by decide +kernel
theorem dX8_order_67 : decode cX8_order 67 = .ok (.iload_n 3, 1) := by decide +kernel
theorem dX8_order_68 : decode cX8_order 68 = .ok (.iconst 1, 1) := by decide +kernel
theorem dX8_order_69 : decode cX8_order 69 = .ok (.isub, 1) := by decide +kernel
theorem dX8_order_70 : decode cX8_order 70 = .ok (.iaload, 1) := by decide +kernel
theorem dX8_order_71 : decode cX8_order 71 = .ok (.iastore, 1) := by decide +kernel
theorem dX8_order_72 : decode cX8_order 72 = .ok (.iinc 3 (-1), 3) := by decide +kernel
theorem dX8_order_75 : decode cX8_order 75 = .ok (.goto (-43), 3) := by decide +kernel
theorem dX8_order_78 : decode cX8_order 78 = .ok (.aload_n 0, 1) := by decide +kernel
theorem dX8_order_79 : decode cX8_order 79 = .ok (.getfield 22, 3) := by decide +kernel
theorem dX8_order_82 : decode cX8_order 82 = .ok (.iload_n 3, 1) := by decide +kernel
theorem dX8_order_83 : decode cX8_order 83 = .ok (.iload_n 2, 1) := by decide +kernel
theorem dX8_order_84 : decode cX8_order 84 = .ok (.iastore, 1) := by decide +kernel
theorem dX8_order_85 : decode cX8_order 85 = .ok (.aload_n 0, 1) := by decide +kernel
theorem dX8_order_86 : decode cX8_order 86 = .ok (.dup, 1) := by decide +kernel
theorem dX8_order_87 : decode cX8_order 87 = .ok (.getfield 93, 3) := by decide +kernel
theorem dX8_order_90 : decode cX8_order 90 = .ok (.iconst 1, 1) := by decide +kernel
theorem dX8_order_91 : decode cX8_order 91 = .ok (.iadd, 1) := by decide +kernel
theorem dX8_order_92 : decode cX8_order 92 = .ok (.putfield 93, 3) := by decide +kernel
theorem dX8_order_95 : decode cX8_order 95 = .ok (.iinc 2 1, 3) := by decide +kernel
theorem dX8_order_98 : decode cX8_order 98 = .ok (.goto (-91), 3) := by decide +kernel
theorem dX8_order_101 : decode cX8_order 101 = .ok (.return_, 1) := by decide +kernel
set_option maxRecDepth 20000 in
theorem ggX8_spread_X8_of : GoodIn wsX8_spread wsX8_of := goodIn_r _ [6, 7, 8, 9, 10, 11, 12, 13, 14, 15, 16, 17, 18, 19, 20] (by decide +kernel) (by decide +kernel)
set_option maxRecDepth 20000 in
theorem gX8_spread_X8_of : GoodIn wsX8_spread (wsV RX8 46 RX8 yX8_of wsX8_of) := goodIn_app (goodIn_of _ (by decide +kernel)) ggX8_spread_X8_of
theorem dX8_spread_0 : decode cX8_spread 0 = .ok (.aload_n 0, 1) := by decide +kernel
theorem dX8_spread_1 : decode cX8_spread 1 = .ok (.aload_n 0, 1) := by decide +kernel
theorem dX8_spread_2 : decode cX8_spread 2 = .ok (.getfield 22, 3) := by decide +kernel
theorem dX8_spread_5 : decode cX8_spread 5 = .ok (.iload_n 1, 1) := by decide +kernel
theorem dX8_spread_6 : decode cX8_spread 6 = .ok (.iload_n 2, 1) := by decide +kernel
theorem dX8_spread_7 : decode cX8_spread 7 = .ok (.iadd, 1) := by decide +kernel
theorem dX8_spread_8 : decode cX8_spread 8 = .ok (.iconst 1, 1) := by decide +kernel
theorem dX8_spread_9 : decode cX8_spread 9 = .ok (.isub, 1) := by decide +kernel
theorem dX8_spread_10 : decode cX8_spread 10 = .ok (.iaload, 1) := by decide +kernel
theorem dX8_spread_11 : decode cX8_spread 11 = .ok (.iconst 4, 1) := by decide +kernel
theorem dX8_spread_12 : decode cX8_spread 12 = .ok (.invokevirtual 46, 3) := by decide +kernel
theorem dX8_spread_15 : decode cX8_spread 15 = .ok (.aload_n 0, 1) := by decide +kernel
theorem dX8_spread_16 : decode cX8_spread 16 = .ok (.aload_n 0, 1) := by decide +kernel
theorem dX8_spread_17 : decode cX8_spread 17 = .ok (.getfield 22, 3) := by decide +kernel
theorem dX8_spread_20 : decode cX8_spread 20 = .ok (.iload_n 1, 1) := by decide +kernel
theorem dX8_spread_21 : decode cX8_spread 21 = .ok (.iaload, 1) := by decide +kernel
theorem dX8_spread_22 : decode cX8_spread 22 = .ok (.iconst 4, 1) := by decide +kernel
theorem dX8_spread_23 : decode cX8_spread 23 = .ok (.invokevirtual 46, 3) := by decide +kernel
theorem dX8_spread_26 : decode cX8_spread 26 = .ok (.isub, 1) := by decide +kernel
theorem dX8_spread_27 : decode cX8_spread 27 = .ok (.ireturn, 1) := by decide +kernel
set_option maxRecDepth 20000 in
theorem ggX8_firstAlike_X8_order : GoodIn wsX8_firstAlike wsX8_order := goodIn_r _ [7, 1, 2, 8, 9, 10, 11, 6, 12, 13, 14, 15, 16, 21, 22, 23, 24, 25, 26, 27, 28, 29, 30, 31, 32, 33] (by decide +kernel) (by decide +kernel)
set_option maxRecDepth 20000 in
theorem gX8_firstAlike_X8_order : GoodIn wsX8_firstAlike (wsV RX8 96 RX8 yX8_order wsX8_order) := goodIn_app (goodIn_of _ (by decide +kernel)) ggX8_firstAlike_X8_order
set_option maxRecDepth 20000 in
theorem ggX8_firstAlike_X8_spread : GoodIn wsX8_firstAlike wsX8_spread := goodIn_r _ [20, 8, 13, 14, 15, 6, 16, 2, 21, 22, 23, 24, 25, 26, 27, 28, 29, 30, 31, 32, 33] (by decide +kernel) (by decide +kernel)
set_option maxRecDepth 20000 in
theorem gX8_firstAlike_X8_spread : GoodIn wsX8_firstAlike (wsV RX8 99 RX8 yX8_spread wsX8_spread) := goodIn_app (goodIn_of _ (by decide +kernel)) ggX8_firstAlike_X8_spread
theorem dX8_firstAlike_0 : decode cX8_firstAlike 0 = .ok (.aload_n 0, 1) := by decide +kernel
theorem dX8_firstAlike_1 : decode cX8_firstAlike 1 = .ok (.iload_n 1, 1) := by decide +kernel
theorem dX8_firstAlike_2 : decode cX8_firstAlike 2 = .ok (.invokevirtual 96, 3) := by decide +kernel
theorem dX8_firstAlike_5 : decode cX8_firstAlike 5 = .ok (.iconst 0, 1) := by decide +kernel
theorem dX8_firstAlike_6 : decode cX8_firstAlike 6 = .ok (.istore_n 3, 1) := by decide +kernel
theorem dX8_firstAlike_7 : decode cX8_firstAlike 7 = .ok (.iload_n 3, 1) := by decide +kernel
theorem dX8_firstAlike_8 : decode cX8_firstAlike 8 = .ok (.iload_n 2, 1) := by decide +kernel
theorem dX8_firstAlike_9 : decode cX8_firstAlike 9 = .ok (.iadd, 1) := by decide +kernel
theorem dX8_firstAlike_10 : decode cX8_firstAlike 10 = .ok (.aload_n 0, 1) := by decide +kernel
theorem dX8_firstAlike_11 : decode cX8_firstAlike 11 = .ok (.getfield 93, 3) := by decide +kernel
theorem dX8_firstAlike_14 : decode cX8_firstAlike 14 = .ok (.if_icmp .gt 27, 3) := by decide +kernel
theorem dX8_firstAlike_17 : decode cX8_firstAlike 17 = .ok (.aload_n 0, 1) := by decide +kernel
theorem dX8_firstAlike_18 : decode cX8_firstAlike 18 = .ok (.iload_n 3, 1) := by decide +kernel
theorem dX8_firstAlike_19 : decode cX8_firstAlike 19 = .ok (.iload_n 2, 1) := by decide +kernel
theorem dX8_firstAlike_20 : decode cX8_firstAlike 20 = .ok (.invokevirtual 99, 3) := by decide +kernel
theorem dX8_firstAlike_23 : decode cX8_firstAlike 23 = .ok (.aload_n 0, 1) := by decide +kernel
theorem dX8_firstAlike_24 : decode cX8_firstAlike 24 = .ok (.getfield 7, 3) := by decide +kernel
theorem dX8_firstAlike_27 : decode cX8_firstAlike 27 = .ok (.bipush 7, 2) := by decide +kernel
theorem dX8_firstAlike_29 : decode cX8_firstAlike 29 = .ok (.iaload, 1) := by decide +kernel
theorem dX8_firstAlike_30 : decode cX8_firstAlike 30 = .ok (.if_icmp .gt 5, 3) := by decide +kernel
theorem dX8_firstAlike_33 : decode cX8_firstAlike 33 = .ok (.iload_n 3, 1) := by decide +kernel
theorem dX8_firstAlike_34 : decode cX8_firstAlike 34 = .ok (.ireturn, 1) := by decide +kernel
theorem dX8_firstAlike_35 : decode cX8_firstAlike 35 = .ok (.iinc 3 1, 3) := by decide +kernel
theorem dX8_firstAlike_38 : decode cX8_firstAlike 38 = .ok (.goto (-31), 3) := by decide +kernel
theorem dX8_firstAlike_41 : decode cX8_firstAlike 41 = .ok (.bipush (-5), 2) := by decide +kernel
theorem dX8_firstAlike_43 : decode cX8_firstAlike 43 = .ok (.ireturn, 1) := by decide +kernel
set_option maxRecDepth 20000 in
theorem ggX8_reasonFor_X8_manyIn : GoodIn wsX8_reasonFor wsX8_manyIn := goodIn_r _ [5, 6, 7, 8, 9, 4, 10, 11, 12, 13, 14, 29, 30, 31, 32, 33, 34, 35, 36, 37, 38, 39, 40, 41] (by decide +kernel) (by decide +kernel)
set_option maxRecDepth 20000 in
theorem gX8_reasonFor_X8_manyIn : GoodIn wsX8_reasonFor (wsV RX8 79 RX8 yX8_manyIn wsX8_manyIn) := goodIn_app (goodIn_of _ (by decide +kernel)) ggX8_reasonFor_X8_manyIn
set_option maxRecDepth 20000 in
theorem ggX8_reasonFor_X8_firstAlike : GoodIn wsX8_reasonFor wsX8_firstAlike := goodIn_r _ [18, 19, 6, 20, 21, 22, 4, 23, 24, 7, 8, 9, 10, 11, 12, 13, 14, 25, 26, 27, 28, 29, 30, 31, 32, 33, 34, 35, 36, 37, 38, 39, 40, 41] (by decide +kernel) (by decide +kernel)
set_option maxRecDepth 20000 in
theorem gX8_reasonFor_X8_firstAlike : GoodIn wsX8_reasonFor (wsV RX8 102 RX8 yX8_firstAlike wsX8_firstAlike) := goodIn_app (goodIn_of _ (by decide +kernel)) ggX8_reasonFor_X8_firstAlike
theorem dX8_reasonFor_0 : decode cX8_reasonFor 0 = .ok (.aload_n 0, 1) := by decide +kernel
theorem dX8_reasonFor_1 : decode cX8_reasonFor 1 = .ok (.iload_n 1, 1) := by decide +kernel
theorem dX8_reasonFor_2 : decode cX8_reasonFor 2 = .ok (.invokevirtual 79, 3) := by decide +kernel
theorem dX8_reasonFor_5 : decode cX8_reasonFor 5 = .ok (.iload_n 2, 1) := by decide +kernel
theorem dX8_reasonFor_6 : decode cX8_reasonFor 6 = .ok (.if_icmp .ge 7, 3) := by decide +kernel
theorem dX8_reasonFor_9 : decode cX8_reasonFor 9 = .ok (.iconst 1, 1) := by decide +kernel
theorem dX8_reasonFor_10 : decode cX8_reasonFor 10 = .ok (.goto 19, 3) := by decide +kernel
theorem dX8_reasonFor_13 : decode cX8_reasonFor 13 = .ok (.aload_n 0, 1) := by decide +kernel
theorem dX8_reasonFor_14 : decode cX8_reasonFor 14 = .ok (.iload_n 1, 1) := by decide +kernel
theorem dX8_reasonFor_15 : decode cX8_reasonFor 15 = .ok (.iload_n 2, 1) := by decide +kernel
theorem dX8_reasonFor_16 : decode cX8_reasonFor 16 = .ok (.invokevirtual 102, 3) := by decide +kernel
theorem dX8_reasonFor_19 : decode cX8_reasonFor 19 = .ok (.bipush (-5), 2) := by decide +kernel
theorem dX8_reasonFor_21 : decode cX8_reasonFor 21 = .ok (.if_icmp .ne 7, 3) := by decide +kernel
theorem dX8_reasonFor_24 : decode cX8_reasonFor 24 = .ok (.iconst 2, 1) := by decide +kernel
theorem dX8_reasonFor_25 : decode cX8_reasonFor 25 = .ok (.goto 4, 3) := by decide +kernel
theorem dX8_reasonFor_28 : decode cX8_reasonFor 28 = .ok (.iconst 0, 1) := by decide +kernel
theorem dX8_reasonFor_29 : decode cX8_reasonFor 29 = .ok (.ireturn, 1) := by decide +kernel
set_option maxRecDepth 20000 in
theorem ggX8_shirtNow_X8_firstAlike : GoodIn wsX8_shirtNow wsX8_firstAlike := goodIn_r _ [7, 8, 2, 9, 10, 11, 6, 12, 1, 13, 14, 15, 16, 17, 18, 19, 20, 21, 22, 23, 24, 33, 34, 35, 36, 37, 38, 39, 40, 41, 42, 43, 44, 45] (by decide +kernel) (by decide +kernel)
set_option maxRecDepth 20000 in
theorem gX8_shirtNow_X8_firstAlike : GoodIn wsX8_shirtNow (wsV RX8 102 RX8 yX8_firstAlike wsX8_firstAlike) := goodIn_app (goodIn_of _ (by decide +kernel)) ggX8_shirtNow_X8_firstAlike
set_option maxRecDepth 20000 in
theorem ggX8_shirtNow_X8_of : GoodIn wsX8_shirtNow wsX8_of := goodIn_r _ [20, 2, 33, 34, 35, 36, 37, 38, 39, 40, 41, 42, 43, 44, 45] (by decide +kernel) (by decide +kernel)
set_option maxRecDepth 20000 in
theorem gX8_shirtNow_X8_of : GoodIn wsX8_shirtNow (wsV RX8 46 RX8 yX8_of wsX8_of) := goodIn_app (goodIn_of _ (by decide +kernel)) ggX8_shirtNow_X8_of
set_option maxRecDepth 20000 in
theorem ggX8_shirtNow_X8_bring : GoodIn wsX8_shirtNow wsX8_bring := goodIn_r _ [28, 29, 30, 31, 6, 32, 2, 33, 34, 35, 36, 37, 38, 39, 40, 41, 42, 43, 44, 45] (by decide +kernel) (by decide +kernel)
set_option maxRecDepth 20000 in
theorem gX8_shirtNow_X8_bring : GoodIn wsX8_shirtNow (wsV RX8 58 RX8 yX8_bring wsX8_bring) := goodIn_app (goodIn_of _ (by decide +kernel)) ggX8_shirtNow_X8_bring
set_option maxRecDepth 20000 in
theorem ggX8_shirtNow_X8_put : GoodIn wsX8_shirtNow wsX8_put := goodIn_r _ [32, 2, 33, 34, 35, 36, 37, 38, 39, 40, 41, 42, 43, 44, 45] (by decide +kernel) (by decide +kernel)
set_option maxRecDepth 20000 in
theorem gX8_shirtNow_X8_put : GoodIn wsX8_shirtNow (wsV RX8 54 RX8 yX8_put wsX8_put) := goodIn_app (goodIn_of _ (by decide +kernel)) ggX8_shirtNow_X8_put
theorem dX8_shirtNow_0 : decode cX8_shirtNow 0 = .ok (.aload_n 0, 1) := by decide +kernel
theorem dX8_shirtNow_1 : decode cX8_shirtNow 1 = .ok (.iload_n 1, 1) := by decide +kernel
theorem dX8_shirtNow_2 : decode cX8_shirtNow 2 = .ok (.iload_n 2, 1) := by decide +kernel
theorem dX8_shirtNow_3 : decode cX8_shirtNow 3 = .ok (.invokevirtual 102, 3) := by decide +kernel
theorem dX8_shirtNow_6 : decode cX8_shirtNow 6 = .ok (.istore_n 3, 1) := by decide +kernel
theorem dX8_shirtNow_7 : decode cX8_shirtNow 7 = .ok (.iconst 0, 1) := by decide +kernel
theorem dX8_shirtNow_8 : decode cX8_shirtNow 8 = .ok (.istore 4, 2) := by decide +kernel
theorem dX8_shirtNow_10 : decode cX8_shirtNow 10 = .ok (.iload_n 3, 1) := by decide +kernel
theorem dX8_shirtNow_11 : decode cX8_shirtNow 11 = .ok (.istore 5, 2) := by decide +kernel
theorem dX8_shirtNow_13 : decode cX8_shirtNow 13 = .ok (.iload 5, 2) := by decide +kernel
theorem dX8_shirtNow_15 : decode cX8_shirtNow 15 = .ok (.iload_n 3, 1) := by decide +kernel
theorem dX8_shirtNow_16 : decode cX8_shirtNow 16 = .ok (.iload_n 2, 1) := by decide +kernel
theorem dX8_shirtNow_17 : decode cX8_shirtNow 17 = .ok (.iadd, 1) := by decide +kernel
theorem dX8_shirtNow_18 : decode cX8_shirtNow 18 = .ok (.if_icmp .ge 72, 3) := by decide +kernel
theorem dX8_shirtNow_21 : decode cX8_shirtNow 21 = .ok (.iload 4, 2) := by decide +kernel
theorem dX8_shirtNow_23 : decode cX8_shirtNow 23 = .ok (.aload_n 0, 1) := by decide +kernel
theorem dX8_shirtNow_24 : decode cX8_shirtNow 24 = .ok (.aload_n 0, 1) := by decide +kernel
theorem dX8_shirtNow_25 : decode cX8_shirtNow 25 = .ok (.getfield 22, 3) := by decide +kernel
theorem dX8_shirtNow_28 : decode cX8_shirtNow 28 = .ok (.iload 5, 2) := by decide +kernel
theorem dX8_shirtNow_30 : decode cX8_shirtNow 30 = .ok (.iaload, 1) := by decide +kernel
theorem dX8_shirtNow_31 : decode cX8_shirtNow 31 = .ok (.iconst 4, 1) := by decide +kernel
theorem dX8_shirtNow_32 : decode cX8_shirtNow 32 = .ok (.invokevirtual 46, 3) := by decide +kernel
theorem dX8_shirtNow_35 : decode cX8_shirtNow 35 = .ok (.aload_n 0, 1) := by decide +kernel
theorem dX8_shirtNow_36 : decode cX8_shirtNow 36 = .ok (.aload_n 0, 1) := by decide +kernel
theorem dX8_shirtNow_37 : decode cX8_shirtNow 37 = .ok (.getfield 22, 3) := by decide +kernel
theorem dX8_shirtNow_40 : decode cX8_shirtNow 40 = .ok (.iload 5, 2) := by decide +kernel
theorem dX8_shirtNow_42 : decode cX8_shirtNow 42 = .ok (.iaload, 1) := by decide +kernel
theorem dX8_shirtNow_43 : decode cX8_shirtNow 43 = .ok (.iconst 3, 1) := by decide +kernel
theorem dX8_shirtNow_44 : decode cX8_shirtNow 44 = .ok (.invokevirtual 46, 3) := by decide +kernel
theorem dX8_shirtNow_47 : decode cX8_shirtNow 47 = .ok (.isub, 1) := by decide +kernel
theorem dX8_shirtNow_48 : decode cX8_shirtNow 48 = .ok (.iadd, 1) := by decide +kernel
theorem dX8_shirtNow_49 : decode cX8_shirtNow 49 = .ok (.istore 4, 2) := by decide +kernel
theorem dX8_shirtNow_51 : decode cX8_shirtNow 51 = .ok (.aload_n 0, 1) := by decide +kernel
theorem dX8_shirtNow_52 : decode cX8_shirtNow 52 = .ok (.aload_n 0, 1) := by decide +kernel
theorem dX8_shirtNow_53 : decode cX8_shirtNow 53 = .ok (.getfield 22, 3) := by decide +kernel
theorem dX8_shirtNow_56 : decode cX8_shirtNow 56 = .ok (.iload 5, 2) := by decide +kernel
theorem dX8_shirtNow_58 : decode cX8_shirtNow 58 = .ok (.iaload, 1) := by decide +kernel
theorem dX8_shirtNow_59 : decode cX8_shirtNow 59 = .ok (.bipush 6, 2) := by decide +kernel
theorem dX8_shirtNow_61 : decode cX8_shirtNow 61 = .ok (.invokevirtual 58, 3) := by decide +kernel
theorem dX8_shirtNow_64 : decode cX8_shirtNow 64 = .ok (.aload_n 0, 1) := by decide +kernel
theorem dX8_shirtNow_65 : decode cX8_shirtNow 65 = .ok (.aload_n 0, 1) := by decide +kernel
theorem dX8_shirtNow_66 : decode cX8_shirtNow 66 = .ok (.getfield 22, 3) := by decide +kernel
theorem dX8_shirtNow_69 : decode cX8_shirtNow 69 = .ok (.iload 5, 2) := by decide +kernel
theorem dX8_shirtNow_71 : decode cX8_shirtNow 71 = .ok (.iaload, 1) := by decide +kernel
theorem dX8_shirtNow_72 : decode cX8_shirtNow 72 = .ok (.bipush 7, 2) := by decide +kernel
theorem dX8_shirtNow_74 : decode cX8_shirtNow 74 = .ok (.aload_n 0, 1) := by decide +kernel
theorem dX8_shirtNow_75 : decode cX8_shirtNow 75 = .ok (.getfield 7, 3) := by decide +kernel
theorem dX8_shirtNow_78 : decode cX8_shirtNow 78 = .ok (.bipush 8, 2) := by decide +kernel
theorem dX8_shirtNow_80 : decode cX8_shirtNow 80 = .ok (.iaload, 1) := by decide +kernel
theorem dX8_shirtNow_81 : decode cX8_shirtNow 81 = .ok (.invokevirtual 54, 3) := by decide +kernel
theorem dX8_shirtNow_84 : decode cX8_shirtNow 84 = .ok (.iinc 5 1, 3) := by decide +kernel
theorem dX8_shirtNow_87 : decode cX8_shirtNow 87 = .ok (.goto (-74), 3) := by decide +kernel
theorem dX8_shirtNow_90 : decode cX8_shirtNow 90 = .ok (.iload 4, 2) := by decide +kernel
theorem dX8_shirtNow_92 : decode cX8_shirtNow 92 = .ok (.ifCond .ge 7, 3) := by decide +kernel
theorem dX8_shirtNow_95 : decode cX8_shirtNow 95 = .ok (.iconst 0, 1) := by decide +kernel
theorem dX8_shirtNow_96 : decode cX8_shirtNow 96 = .ok (.goto 5, 3) := by decide +kernel
theorem dX8_shirtNow_99 : decode cX8_shirtNow 99 = .ok (.iload 4, 2) := by decide +kernel
theorem dX8_shirtNow_101 : decode cX8_shirtNow 101 = .ok (.istore 4, 2) := by decide +kernel
theorem dX8_shirtNow_103 : decode cX8_shirtNow 103 = .ok (.aload_n 0, 1) := by decide +kernel
theorem dX8_shirtNow_104 : decode cX8_shirtNow 104 = .ok (.getfield 7, 3) := by decide +kernel
theorem dX8_shirtNow_107 : decode cX8_shirtNow 107 = .ok (.bipush 8, 2) := by decide +kernel
theorem dX8_shirtNow_109 : decode cX8_shirtNow 109 = .ok (.dup2, 1) := by decide +kernel
theorem dX8_shirtNow_110 : decode cX8_shirtNow 110 = .ok (.iaload, 1) := by decide +kernel
theorem dX8_shirtNow_111 : decode cX8_shirtNow 111 = .ok (.iconst 1, 1) := by decide +kernel
theorem dX8_shirtNow_112 : decode cX8_shirtNow 112 = .ok (.iadd, 1) := by decide +kernel
theorem dX8_shirtNow_113 : decode cX8_shirtNow 113 = .ok (.iastore, 1) := by decide +kernel
theorem dX8_shirtNow_114 : decode cX8_shirtNow 114 = .ok (.aload_n 0, 1) := by decide +kernel
theorem dX8_shirtNow_115 : decode cX8_shirtNow 115 = .ok (.getfield 7, 3) := by decide +kernel
theorem dX8_shirtNow_118 : decode cX8_shirtNow 118 = .ok (.bipush 9, 2) := by decide +kernel
theorem dX8_shirtNow_120 : decode cX8_shirtNow 120 = .ok (.dup2, 1) := by decide +kernel
theorem dX8_shirtNow_121 : decode cX8_shirtNow 121 = .ok (.iaload, 1) := by decide +kernel
theorem dX8_shirtNow_122 : decode cX8_shirtNow 122 = .ok (.iload 4, 2) := by decide +kernel
theorem dX8_shirtNow_124 : decode cX8_shirtNow 124 = .ok (.iadd, 1) := by decide +kernel
theorem dX8_shirtNow_125 : decode cX8_shirtNow 125 = .ok (.iastore, 1) := by decide +kernel
theorem dX8_shirtNow_126 : decode cX8_shirtNow 126 = .ok (.iload 4, 2) := by decide +kernel
theorem dX8_shirtNow_128 : decode cX8_shirtNow 128 = .ok (.ireturn, 1) := by decide +kernel
set_option maxRecDepth 20000 in
theorem ggX8_shirt_X8_isBin : GoodIn wsX8_shirt wsX8_isBin := goodIn_r _ [4, 5, 6, 3, 7] (by decide +kernel) (by decide +kernel)
set_option maxRecDepth 20000 in
theorem gX8_shirt_X8_isBin : GoodIn wsX8_shirt (va_wsS RX8 89 yX8_isBin wsX8_isBin) := goodIn_app (goodIn_of _ (by decide +kernel)) ggX8_shirt_X8_isBin
set_option maxRecDepth 20000 in
theorem ggX8_shirt_X8_in : GoodIn wsX8_shirt wsX8_in := goodIn_r _ [7] (by decide +kernel) (by decide +kernel)
set_option maxRecDepth 20000 in
theorem gX8_shirt_X8_in : GoodIn wsX8_shirt (va_wsS RX8 31 yX8_in wsX8_in) := goodIn_app (goodIn_of _ (by decide +kernel)) ggX8_shirt_X8_in
set_option maxRecDepth 20000 in
theorem ggX8_shirt_X8_reasonFor : GoodIn wsX8_shirt wsX8_reasonFor := goodIn_r _ [11, 12, 13, 14, 3, 15, 16, 17, 18, 19, 20, 21, 22, 23, 24, 25, 26, 27, 28, 29, 30, 31, 32, 33, 34, 35, 36, 37, 38, 57, 58, 59, 60, 61, 62, 63, 64, 65, 66, 67, 68, 69] (by decide +kernel) (by decide +kernel)
set_option maxRecDepth 20000 in
theorem gX8_shirt_X8_reasonFor : GoodIn wsX8_shirt (wsV RX8 105 RX8 yX8_reasonFor wsX8_reasonFor) := goodIn_app (goodIn_of _ (by decide +kernel)) ggX8_shirt_X8_reasonFor
set_option maxRecDepth 20000 in
theorem ggX8_shirt_X8_record : GoodIn wsX8_shirt wsX8_record := goodIn_r _ [42, 43, 44, 16, 57, 58, 59, 60, 61, 62, 63, 64, 65, 66, 67, 68, 69] (by decide +kernel) (by decide +kernel)
set_option maxRecDepth 20000 in
theorem gX8_shirt_X8_record : GoodIn wsX8_shirt (wsV RX8 43 RX8 yX8_record wsX8_record) := goodIn_app (goodIn_of _ (by decide +kernel)) ggX8_shirt_X8_record
set_option maxRecDepth 20000 in
theorem ggX8_shirt_X8_shirtNow : GoodIn wsX8_shirt wsX8_shirtNow := goodIn_r _ [48, 34, 16, 25, 26, 27, 3, 28, 29, 30, 31, 32, 33, 17, 18, 19, 20, 21, 22, 23, 24, 35, 36, 37, 38, 49, 50, 51, 52, 53, 54, 55, 56, 57, 58, 59, 60, 61, 62, 63, 64, 65, 66, 67, 68, 69] (by decide +kernel) (by decide +kernel)
set_option maxRecDepth 20000 in
theorem gX8_shirt_X8_shirtNow : GoodIn wsX8_shirt (wsV RX8 108 RX8 yX8_shirtNow wsX8_shirtNow) := goodIn_app (goodIn_of _ (by decide +kernel)) ggX8_shirt_X8_shirtNow
theorem dX8_shirt_0 : decode cX8_shirt 0 = .ok (.iload_n 1, 1) := by decide +kernel
theorem dX8_shirt_1 : decode cX8_shirt 1 = .ok (.invokestatic 89, 3) := by decide +kernel
theorem dX8_shirt_4 : decode cX8_shirt 4 = .ok (.ifCond .ne 5, 3) := by decide +kernel
theorem dX8_shirt_7 : decode cX8_shirt 7 = .ok (.iconst (-1), 1) := by decide +kernel
theorem dX8_shirt_8 : decode cX8_shirt 8 = .ok (.ireturn, 1) := by decide +kernel
theorem dX8_shirt_9 : decode cX8_shirt 9 = .ok (.iload_n 2, 1) := by decide +kernel
theorem dX8_shirt_10 : decode cX8_shirt 10 = .ok (.iconst 1, 1) := by decide +kernel
theorem dX8_shirt_11 : decode cX8_shirt 11 = .ok (.bipush 9, 2) := by decide +kernel
theorem dX8_shirt_13 : decode cX8_shirt 13 = .ok (.invokestatic 31, 3) := by decide +kernel
theorem dX8_shirt_16 : decode cX8_shirt 16 = .ok (.ifCond .ne 6, 3) := by decide +kernel
theorem dX8_shirt_19 : decode cX8_shirt 19 = .ok (.bipush (-2), 2) := by decide +kernel
theorem dX8_shirt_21 : decode cX8_shirt 21 = .ok (.ireturn, 1) := by decide +kernel
theorem dX8_shirt_22 : decode cX8_shirt 22 = .ok (.aload_n 0, 1) := by decide +kernel
theorem dX8_shirt_23 : decode cX8_shirt 23 = .ok (.iload_n 1, 1) := by decide +kernel
theorem dX8_shirt_24 : decode cX8_shirt 24 = .ok (.iload_n 2, 1) := by decide +kernel
theorem dX8_shirt_25 : decode cX8_shirt 25 = .ok (.invokevirtual 105, 3) := by decide +kernel
theorem dX8_shirt_28 : decode cX8_shirt 28 = .ok (.istore_n 3, 1) := by decide +kernel
theorem dX8_shirt_29 : decode cX8_shirt 29 = .ok (.iload_n 3, 1) := by decide +kernel
theorem dX8_shirt_30 : decode cX8_shirt 30 = .ok (.ifCond .le 8, 3) := by decide +kernel
theorem dX8_shirt_33 : decode cX8_shirt 33 = .ok (.bipush (-10), 2) := by decide +kernel
theorem dX8_shirt_35 : decode cX8_shirt 35 = .ok (.iload_n 3, 1) := by decide +kernel
theorem dX8_shirt_36 : decode cX8_shirt 36 = .ok (.isub, 1) := by decide +kernel
theorem dX8_shirt_37 : decode cX8_shirt 37 = .ok (.ireturn, 1) := by decide +kernel
theorem dX8_shirt_38 : decode cX8_shirt 38 = .ok (.aload_n 0, 1) := by decide +kernel
theorem dX8_shirt_39 : decode cX8_shirt 39 = .ok (.invokevirtual 43, 3) := by decide +kernel
theorem dX8_shirt_42 : decode cX8_shirt 42 = .ok (.aload_n 0, 1) := by decide +kernel
theorem dX8_shirt_43 : decode cX8_shirt 43 = .ok (.iload_n 1, 1) := by decide +kernel
theorem dX8_shirt_44 : decode cX8_shirt 44 = .ok (.iload_n 2, 1) := by decide +kernel
theorem dX8_shirt_45 : decode cX8_shirt 45 = .ok (.invokevirtual 108, 3) := by decide +kernel
theorem dX8_shirt_48 : decode cX8_shirt 48 = .ok (.ireturn, 1) := by decide +kernel
set_option maxRecDepth 20000 in
theorem ggX8_polish_X8_isButton : GoodIn wsX8_polish wsX8_isButton := goodIn_r _ [5, 6, 7, 8, 4, 9, 24, 25, 26, 27, 28, 29, 30, 31, 32, 33, 34, 35, 36] (by decide +kernel) (by decide +kernel)
set_option maxRecDepth 20000 in
theorem gX8_polish_X8_isButton : GoodIn wsX8_polish (wsV RX8 111 RX8 yX8_isButton wsX8_isButton) := goodIn_app (goodIn_of _ (by decide +kernel)) ggX8_polish_X8_isButton
set_option maxRecDepth 20000 in
theorem ggX8_polish_X8_of : GoodIn wsX8_polish wsX8_of := goodIn_r _ [13, 6, 24, 25, 26, 27, 28, 29, 30, 31, 32, 33, 34, 35, 36] (by decide +kernel) (by decide +kernel)
set_option maxRecDepth 20000 in
theorem gX8_polish_X8_of : GoodIn wsX8_polish (wsV RX8 46 RX8 yX8_of wsX8_of) := goodIn_app (goodIn_of _ (by decide +kernel)) ggX8_polish_X8_of
set_option maxRecDepth 20000 in
theorem ggX8_polish_X8_record : GoodIn wsX8_polish wsX8_record := goodIn_r _ [17, 18, 19, 6, 24, 25, 26, 27, 28, 29, 30, 31, 32, 33, 34, 35, 36] (by decide +kernel) (by decide +kernel)
set_option maxRecDepth 20000 in
theorem gX8_polish_X8_record : GoodIn wsX8_polish (wsV RX8 43 RX8 yX8_record wsX8_record) := goodIn_app (goodIn_of _ (by decide +kernel)) ggX8_polish_X8_record
set_option maxRecDepth 20000 in
theorem ggX8_polish_X8_put : GoodIn wsX8_polish wsX8_put := goodIn_r _ [23, 6, 24, 25, 26, 27, 28, 29, 30, 31, 32, 33, 34, 35, 36] (by decide +kernel) (by decide +kernel)
set_option maxRecDepth 20000 in
theorem gX8_polish_X8_put : GoodIn wsX8_polish (wsV RX8 54 RX8 yX8_put wsX8_put) := goodIn_app (goodIn_of _ (by decide +kernel)) ggX8_polish_X8_put
theorem dX8_polish_0 : decode cX8_polish 0 = .ok (.aload_n 0, 1) := by decide +kernel
theorem dX8_polish_1 : decode cX8_polish 1 = .ok (.iload_n 1, 1) := by decide +kernel
theorem dX8_polish_2 : decode cX8_polish 2 = .ok (.invokevirtual 111, 3) := by decide +kernel
theorem dX8_polish_5 : decode cX8_polish 5 = .ok (.ifCond .ne 5, 3) := by decide +kernel
theorem dX8_polish_8 : decode cX8_polish 8 = .ok (.iconst (-1), 1) := by decide +kernel
theorem dX8_polish_9 : decode cX8_polish 9 = .ok (.ireturn, 1) := by decide +kernel
theorem dX8_polish_10 : decode cX8_polish 10 = .ok (.aload_n 0, 1) := by decide +kernel
theorem dX8_polish_11 : decode cX8_polish 11 = .ok (.iload_n 1, 1) := by decide +kernel
theorem dX8_polish_12 : decode cX8_polish 12 = .ok (.iconst 5, 1) := by decide +kernel
theorem dX8_polish_13 : decode cX8_polish 13 = .ok (.invokevirtual 46, 3) := by decide +kernel
theorem dX8_polish_16 : decode cX8_polish 16 = .ok (.bipush 6, 2) := by decide +kernel
theorem dX8_polish_18 : decode cX8_polish 18 = .ok (.if_icmp .eq 14, 3) := by decide +kernel
theorem dX8_polish_21 : decode cX8_polish 21 = .ok (.aload_n 0, 1) := by decide +kernel
theorem dX8_polish_22 : decode cX8_polish 22 = .ok (.iload_n 1, 1) := by decide +kernel
theorem dX8_polish_23 : decode cX8_polish 23 = .ok (.iconst 4, 1) := by decide +kernel
theorem dX8_polish_24 : decode cX8_polish 24 = .ok (.invokevirtual 46, 3) := by decide +kernel
theorem dX8_polish_27 : decode cX8_polish 27 = .ok (.bipush 9, 2) := by decide +kernel
theorem dX8_polish_29 : decode cX8_polish 29 = .ok (.if_icmp .ne 6, 3) := by decide +kernel
theorem dX8_polish_32 : decode cX8_polish 32 = .ok (.bipush (-4), 2) := by decide +kernel
theorem dX8_polish_34 : decode cX8_polish 34 = .ok (.ireturn, 1) := by decide +kernel
theorem dX8_polish_35 : decode cX8_polish 35 = .ok (.aload_n 0, 1) := by decide +kernel
theorem dX8_polish_36 : decode cX8_polish 36 = .ok (.invokevirtual 43, 3) := by decide +kernel
theorem dX8_polish_39 : decode cX8_polish 39 = .ok (.aload_n 0, 1) := by decide +kernel
theorem dX8_polish_40 : decode cX8_polish 40 = .ok (.iload_n 1, 1) := by decide +kernel
theorem dX8_polish_41 : decode cX8_polish 41 = .ok (.iconst 4, 1) := by decide +kernel
theorem dX8_polish_42 : decode cX8_polish 42 = .ok (.aload_n 0, 1) := by decide +kernel
theorem dX8_polish_43 : decode cX8_polish 43 = .ok (.iload_n 1, 1) := by decide +kernel
theorem dX8_polish_44 : decode cX8_polish 44 = .ok (.iconst 4, 1) := by decide +kernel
theorem dX8_polish_45 : decode cX8_polish 45 = .ok (.invokevirtual 46, 3) := by decide +kernel
theorem dX8_polish_48 : decode cX8_polish 48 = .ok (.iconst 1, 1) := by decide +kernel
theorem dX8_polish_49 : decode cX8_polish 49 = .ok (.iadd, 1) := by decide +kernel
theorem dX8_polish_50 : decode cX8_polish 50 = .ok (.invokevirtual 54, 3) := by decide +kernel
theorem dX8_polish_53 : decode cX8_polish 53 = .ok (.aload_n 0, 1) := by decide +kernel
theorem dX8_polish_54 : decode cX8_polish 54 = .ok (.iload_n 1, 1) := by decide +kernel
theorem dX8_polish_55 : decode cX8_polish 55 = .ok (.iconst 3, 1) := by decide +kernel
theorem dX8_polish_56 : decode cX8_polish 56 = .ok (.aload_n 0, 1) := by decide +kernel
theorem dX8_polish_57 : decode cX8_polish 57 = .ok (.iload_n 1, 1) := by decide +kernel
theorem dX8_polish_58 : decode cX8_polish 58 = .ok (.iconst 3, 1) := by decide +kernel
theorem dX8_polish_59 : decode cX8_polish 59 = .ok (.invokevirtual 46, 3) := by decide +kernel
theorem dX8_polish_62 : decode cX8_polish 62 = .ok (.ifCond .le 14, 3) := by decide +kernel
theorem dX8_polish_65 : decode cX8_polish 65 = .ok (.aload_n 0, 1) := by decide +kernel
theorem dX8_polish_66 : decode cX8_polish 66 = .ok (.iload_n 1, 1) := by decide +kernel
theorem dX8_polish_67 : decode cX8_polish 67 = .ok (.iconst 3, 1) := by decide +kernel
theorem dX8_polish_68 : decode cX8_polish 68 = .ok (.invokevirtual 46, 3) := by decide +kernel
theorem dX8_polish_71 : decode cX8_polish 71 = .ok (.iconst 1, 1) := by decide +kernel
theorem dX8_polish_72 : decode cX8_polish 72 = .ok (.isub, 1) := by decide +kernel
theorem dX8_polish_73 : decode cX8_polish 73 = .ok (.goto 4, 3) := by decide +kernel
theorem dX8_polish_76 : decode cX8_polish 76 = .ok (.iconst 0, 1) := by decide +kernel
theorem dX8_polish_77 : decode cX8_polish 77 = .ok (.invokevirtual 54, 3) := by decide +kernel
theorem dX8_polish_80 : decode cX8_polish 80 = .ok (.aload_n 0, 1) := by decide +kernel
theorem dX8_polish_81 : decode cX8_polish 81 = .ok (.iload_n 1, 1) := by decide +kernel
theorem dX8_polish_82 : decode cX8_polish 82 = .ok (.iconst 4, 1) := by decide +kernel
theorem dX8_polish_83 : decode cX8_polish 83 = .ok (.invokevirtual 46, 3) := by decide +kernel
theorem dX8_polish_86 : decode cX8_polish 86 = .ok (.ireturn, 1) := by decide +kernel
set_option maxRecDepth 20000 in
theorem ggX8_maySet_X8_in : GoodIn wsX8_maySet wsX8_in := goodIn_r _ [4] (by decide +kernel) (by decide +kernel)
set_option maxRecDepth 20000 in
theorem gX8_maySet_X8_in : GoodIn wsX8_maySet (va_wsS RX8 31 yX8_in wsX8_in) := goodIn_app (goodIn_of _ (by decide +kernel)) ggX8_maySet_X8_in
theorem dX8_maySet_0 : decode cX8_maySet 0 = .ok (.iload_n 0, 1) := by decide +kernel
theorem dX8_maySet_1 : decode cX8_maySet 1 = .ok (.tableswitch 67 3 7 #[35, 43, 51, 59, 35], 35) := by decide +kernel
theorem dX8_maySet_36 : decode cX8_maySet 36 = .ok (.iload_n 1, 1) := by decide +kernel
theorem dX8_maySet_37 : decode cX8_maySet 37 = .ok (.iconst 0, 1) := by decide +kernel
theorem dX8_maySet_38 : decode cX8_maySet 38 = .ok (.bipush 9, 2) := by decide +kernel
theorem dX8_maySet_40 : decode cX8_maySet 40 = .ok (.invokestatic 31, 3) := by decide +kernel
theorem dX8_maySet_43 : decode cX8_maySet 43 = .ok (.ireturn, 1) := by decide +kernel
theorem dX8_maySet_44 : decode cX8_maySet 44 = .ok (.iload_n 1, 1) := by decide +kernel
theorem dX8_maySet_45 : decode cX8_maySet 45 = .ok (.iconst 1, 1) := by decide +kernel
theorem dX8_maySet_46 : decode cX8_maySet 46 = .ok (.bipush 10, 2) := by decide +kernel
theorem dX8_maySet_48 : decode cX8_maySet 48 = .ok (.invokestatic 31, 3) := by decide +kernel
theorem dX8_maySet_51 : decode cX8_maySet 51 = .ok (.ireturn, 1) := by decide +kernel
theorem dX8_maySet_52 : decode cX8_maySet 52 = .ok (.iload_n 1, 1) := by decide +kernel
theorem dX8_maySet_53 : decode cX8_maySet 53 = .ok (.iconst 1, 1) := by decide +kernel
theorem dX8_maySet_54 : decode cX8_maySet 54 = .ok (.bipush 9, 2) := by decide +kernel
theorem dX8_maySet_56 : decode cX8_maySet 56 = .ok (.invokestatic 31, 3) := by decide +kernel
theorem dX8_maySet_59 : decode cX8_maySet 59 = .ok (.ireturn, 1) := by decide +kernel
theorem dX8_maySet_60 : decode cX8_maySet 60 = .ok (.iload_n 1, 1) := by decide +kernel
theorem dX8_maySet_61 : decode cX8_maySet 61 = .ok (.iconst 0, 1) := by decide +kernel
theorem dX8_maySet_62 : decode cX8_maySet 62 = .ok (.bipush 20, 2) := by decide +kernel
theorem dX8_maySet_64 : decode cX8_maySet 64 = .ok (.invokestatic 31, 3) := by decide +kernel
theorem dX8_maySet_67 : decode cX8_maySet 67 = .ok (.ireturn, 1) := by decide +kernel
theorem dX8_maySet_68 : decode cX8_maySet 68 = .ok (.iload_n 1, 1) := by decide +kernel
theorem dX8_maySet_69 : decode cX8_maySet 69 = .ok (.iconst 1, 1) := by decide +kernel
theorem dX8_maySet_70 : decode cX8_maySet 70 = .ok (.bipush 30, 2) := by decide +kernel
theorem dX8_maySet_72 : decode cX8_maySet 72 = .ok (.invokestatic 31, 3) := by decide +kernel
theorem dX8_maySet_75 : decode cX8_maySet 75 = .ok (.ireturn, 1) := by decide +kernel
theorem dX8_areMeshes_0 : decode cX8_areMeshes 0 = .ok (.iload_n 1, 1) := by decide +kernel
theorem dX8_areMeshes_1 : decode cX8_areMeshes 1 = .ok (.ifCond .ne 7, 3) := by decide +kernel
theorem dX8_areMeshes_4 : decode cX8_areMeshes 4 = .ok (.iload_n 2, 1) := by decide +kernel
theorem dX8_areMeshes_5 : decode cX8_areMeshes 5 = .ok (.goto 9, 3) := by decide +kernel
theorem dX8_areMeshes_8 : decode cX8_areMeshes 8 = .ok (.aload_n 0, 1) := by decide +kernel
theorem dX8_areMeshes_9 : decode cX8_areMeshes 9 = .ok (.getfield 7, 3) := by decide +kernel
theorem dX8_areMeshes_12 : decode cX8_areMeshes 12 = .ok (.iconst 0, 1) := by decide +kernel
theorem dX8_areMeshes_13 : decode cX8_areMeshes 13 = .ok (.iaload, 1) := by decide +kernel
theorem dX8_areMeshes_14 : decode cX8_areMeshes 14 = .ok (.istore_n 3, 1) := by decide +kernel
theorem dX8_areMeshes_15 : decode cX8_areMeshes 15 = .ok (.iload_n 1, 1) := by decide +kernel
theorem dX8_areMeshes_16 : decode cX8_areMeshes 16 = .ok (.iconst 1, 1) := by decide +kernel
theorem dX8_areMeshes_17 : decode cX8_areMeshes 17 = .ok (.if_icmp .ne 7, 3) := by decide +kernel
theorem dX8_areMeshes_20 : decode cX8_areMeshes 20 = .ok (.iload_n 2, 1) := by decide +kernel
theorem dX8_areMeshes_21 : decode cX8_areMeshes 21 = .ok (.goto 9, 3) := by decide +kernel
theorem dX8_areMeshes_24 : decode cX8_areMeshes 24 = .ok (.aload_n 0, 1) := by decide +kernel
theorem dX8_areMeshes_25 : decode cX8_areMeshes 25 = .ok (.getfield 7, 3) := by decide +kernel
theorem dX8_areMeshes_28 : decode cX8_areMeshes 28 = .ok (.iconst 1, 1) := by decide +kernel
theorem dX8_areMeshes_29 : decode cX8_areMeshes 29 = .ok (.iaload, 1) := by decide +kernel
theorem dX8_areMeshes_30 : decode cX8_areMeshes 30 = .ok (.istore 4, 2) := by decide +kernel
theorem dX8_areMeshes_32 : decode cX8_areMeshes 32 = .ok (.iload_n 1, 1) := by decide +kernel
theorem dX8_areMeshes_33 : decode cX8_areMeshes 33 = .ok (.iconst 2, 1) := by decide +kernel
theorem dX8_areMeshes_34 : decode cX8_areMeshes 34 = .ok (.if_icmp .ne 7, 3) := by decide +kernel
theorem dX8_areMeshes_37 : decode cX8_areMeshes 37 = .ok (.iload_n 2, 1) := by decide +kernel
theorem dX8_areMeshes_38 : decode cX8_areMeshes 38 = .ok (.goto 9, 3) := by decide +kernel
theorem dX8_areMeshes_41 : decode cX8_areMeshes 41 = .ok (.aload_n 0, 1) := by decide +kernel
theorem dX8_areMeshes_42 : decode cX8_areMeshes 42 = .ok (.getfield 7, 3) := by decide +kernel
theorem dX8_areMeshes_45 : decode cX8_areMeshes 45 = .ok (.iconst 2, 1) := by decide +kernel
theorem dX8_areMeshes_46 : decode cX8_areMeshes 46 = .ok (.iaload, 1) := by decide +kernel
theorem dX8_areMeshes_47 : decode cX8_areMeshes 47 = .ok (.istore 5, 2) := by decide +kernel
theorem dX8_areMeshes_49 : decode cX8_areMeshes 49 = .ok (.iload_n 3, 1) := by decide +kernel
theorem dX8_areMeshes_50 : decode cX8_areMeshes 50 = .ok (.iload 4, 2) := by decide +kernel
theorem dX8_areMeshes_52 : decode cX8_areMeshes 52 = .ok (.if_icmp .gt 14, 3) := by decide +kernel
theorem dX8_areMeshes_55 : decode cX8_areMeshes 55 = .ok (.iload 4, 2) := by decide +kernel
theorem dX8_areMeshes_57 : decode cX8_areMeshes 57 = .ok (.iload 5, 2) := by decide +kernel
theorem dX8_areMeshes_59 : decode cX8_areMeshes 59 = .ok (.if_icmp .gt 7, 3) := by decide +kernel
theorem dX8_areMeshes_62 : decode cX8_areMeshes 62 = .ok (.iconst 1, 1) := by decide +kernel
theorem dX8_areMeshes_63 : decode cX8_areMeshes 63 = .ok (.goto 4, 3) := by decide +kernel
theorem dX8_areMeshes_66 : decode cX8_areMeshes 66 = .ok (.iconst 0, 1) := by decide +kernel
theorem dX8_areMeshes_67 : decode cX8_areMeshes 67 = .ok (.ireturn, 1) := by decide +kernel
set_option maxRecDepth 20000 in
theorem ggX8_set_X8_in : GoodIn wsX8_set wsX8_in := goodIn_r _ [5] (by decide +kernel) (by decide +kernel)
set_option maxRecDepth 20000 in
theorem gX8_set_X8_in : GoodIn wsX8_set (va_wsS RX8 31 yX8_in wsX8_in) := goodIn_app (goodIn_of _ (by decide +kernel)) ggX8_set_X8_in
set_option maxRecDepth 20000 in
theorem ggX8_set_X8_maySet : GoodIn wsX8_set wsX8_maySet := goodIn_r _ [8, 2, 3, 4, 5] (by decide +kernel) (by decide +kernel)
set_option maxRecDepth 20000 in
theorem gX8_set_X8_maySet : GoodIn wsX8_set (va_wsS RX8 114 yX8_maySet wsX8_maySet) := goodIn_app (goodIn_of _ (by decide +kernel)) ggX8_set_X8_maySet
set_option maxRecDepth 20000 in
theorem ggX8_set_X8_areMeshes : GoodIn wsX8_set wsX8_areMeshes := goodIn_r _ [12, 1, 19, 20, 21, 22, 23, 24, 25, 26, 27, 28, 29, 30, 31] (by decide +kernel) (by decide +kernel)
set_option maxRecDepth 20000 in
theorem gX8_set_X8_areMeshes : GoodIn wsX8_set (wsV RX8 117 RX8 yX8_areMeshes wsX8_areMeshes) := goodIn_app (goodIn_of _ (by decide +kernel)) ggX8_set_X8_areMeshes
set_option maxRecDepth 20000 in
theorem ggX8_set_X8_record : GoodIn wsX8_set wsX8_record := goodIn_r _ [16, 17, 18, 1, 19, 20, 21, 22, 23, 24, 25, 26, 27, 28, 29, 30, 31] (by decide +kernel) (by decide +kernel)
set_option maxRecDepth 20000 in
theorem gX8_set_X8_record : GoodIn wsX8_set (wsV RX8 43 RX8 yX8_record wsX8_record) := goodIn_app (goodIn_of _ (by decide +kernel)) ggX8_set_X8_record
theorem dX8_set_0 : decode cX8_set 0 = .ok (.iload_n 1, 1) := by decide +kernel
theorem dX8_set_1 : decode cX8_set 1 = .ok (.iconst 0, 1) := by decide +kernel
theorem dX8_set_2 : decode cX8_set 2 = .ok (.bipush 7, 2) := by decide +kernel
theorem dX8_set_4 : decode cX8_set 4 = .ok (.invokestatic 31, 3) := by decide +kernel
theorem dX8_set_7 : decode cX8_set 7 = .ok (.ifCond .ne 5, 3) := by decide +kernel
theorem dX8_set_10 : decode cX8_set 10 = .ok (.iconst (-1), 1) := by decide +kernel
theorem dX8_set_11 : decode cX8_set 11 = .ok (.ireturn, 1) := by decide +kernel
theorem dX8_set_12 : decode cX8_set 12 = .ok (.iload_n 1, 1) := by decide +kernel
theorem dX8_set_13 : decode cX8_set 13 = .ok (.iload_n 2, 1) := by decide +kernel
theorem dX8_set_14 : decode cX8_set 14 = .ok (.invokestatic 114, 3) := by decide +kernel
theorem dX8_set_17 : decode cX8_set 17 = .ok (.ifCond .ne 6, 3) := by decide +kernel
theorem dX8_set_20 : decode cX8_set 20 = .ok (.bipush (-2), 2) := by decide +kernel
theorem dX8_set_22 : decode cX8_set 22 = .ok (.ireturn, 1) := by decide +kernel
theorem dX8_set_23 : decode cX8_set 23 = .ok (.aload_n 0, 1) := by decide +kernel
theorem dX8_set_24 : decode cX8_set 24 = .ok (.iload_n 1, 1) := by decide +kernel
theorem dX8_set_25 : decode cX8_set 25 = .ok (.iload_n 2, 1) := by decide +kernel
theorem dX8_set_26 : decode cX8_set 26 = .ok (.invokevirtual 117, 3) := by decide +kernel
theorem dX8_set_29 : decode cX8_set 29 = .ok (.ifCond .ne 6, 3) := by decide +kernel
theorem dX8_set_32 : decode cX8_set 32 = .ok (.bipush (-4), 2) := by decide +kernel
theorem dX8_set_34 : decode cX8_set 34 = .ok (.ireturn, 1) := by decide +kernel
theorem dX8_set_35 : decode cX8_set 35 = .ok (.aload_n 0, 1) := by decide +kernel
theorem dX8_set_36 : decode cX8_set 36 = .ok (.getfield 7, 3) := by decide +kernel
theorem dX8_set_39 : decode cX8_set 39 = .ok (.iload_n 1, 1) := by decide +kernel
theorem dX8_set_40 : decode cX8_set 40 = .ok (.iaload, 1) := by decide +kernel
theorem dX8_set_41 : decode cX8_set 41 = .ok (.istore_n 3, 1) := by decide +kernel
theorem dX8_set_42 : decode cX8_set 42 = .ok (.iload_n 3, 1) := by decide +kernel
theorem dX8_set_43 : decode cX8_set 43 = .ok (.iload_n 2, 1) := by decide +kernel
theorem dX8_set_44 : decode cX8_set 44 = .ok (.if_icmp .ne 6, 3) := by decide +kernel
theorem dX8_set_47 : decode cX8_set 47 = .ok (.bipush (-5), 2) := by decide +kernel
theorem dX8_set_49 : decode cX8_set 49 = .ok (.ireturn, 1) := by decide +kernel
theorem dX8_set_50 : decode cX8_set 50 = .ok (.aload_n 0, 1) := by decide +kernel
theorem dX8_set_51 : decode cX8_set 51 = .ok (.invokevirtual 43, 3) := by decide +kernel
theorem dX8_set_54 : decode cX8_set 54 = .ok (.aload_n 0, 1) := by decide +kernel
theorem dX8_set_55 : decode cX8_set 55 = .ok (.getfield 7, 3) := by decide +kernel
theorem dX8_set_58 : decode cX8_set 58 = .ok (.iload_n 1, 1) := by decide +kernel
theorem dX8_set_59 : decode cX8_set 59 = .ok (.iload_n 2, 1) := by decide +kernel
theorem dX8_set_60 : decode cX8_set 60 = .ok (.iastore, 1) := by decide +kernel
theorem dX8_set_61 : decode cX8_set 61 = .ok (.iload_n 3, 1) := by decide +kernel
theorem dX8_set_62 : decode cX8_set 62 = .ok (.ireturn, 1) := by decide +kernel
theorem dX8_type_0 : decode cX8_type 0 = .ok (.aload_n 0, 1) := by decide +kernel
theorem dX8_type_1 : decode cX8_type 1 = .ok (.getfield 120, 3) := by decide +kernel
theorem dX8_type_4 : decode cX8_type 4 = .ok (.bipush 60, 2) := by decide +kernel
theorem dX8_type_6 : decode cX8_type 6 = .ok (.if_icmp .ne 6, 3) := by decide +kernel
theorem dX8_type_9 : decode cX8_type 9 = .ok (.bipush (-3), 2) := by decide +kernel
theorem dX8_type_11 : decode cX8_type 11 = .ok (.ireturn, 1) := by decide +kernel
theorem dX8_type_12 : decode cX8_type 12 = .ok (.aload_n 0, 1) := by decide +kernel
theorem dX8_type_13 : decode cX8_type 13 = .ok (.getfield 25, 3) := by decide +kernel
theorem dX8_type_16 : decode cX8_type 16 = .ok (.aload_n 0, 1) := by decide +kernel
theorem dX8_type_17 : decode cX8_type 17 = .ok (.getfield 120, 3) := by decide +kernel
theorem dX8_type_20 : decode cX8_type 20 = .ok (.iload_n 1, 1) := by decide +kernel
theorem dX8_type_21 : decode cX8_type 21 = .ok (.iastore, 1) := by decide +kernel
theorem dX8_type_22 : decode cX8_type 22 = .ok (.aload_n 0, 1) := by decide +kernel
theorem dX8_type_23 : decode cX8_type 23 = .ok (.dup, 1) := by decide +kernel
theorem dX8_type_24 : decode cX8_type 24 = .ok (.getfield 120, 3) := by decide +kernel
theorem dX8_type_27 : decode cX8_type 27 = .ok (.iconst 1, 1) := by decide +kernel
theorem dX8_type_28 : decode cX8_type 28 = .ok (.iadd, 1) := by decide +kernel
theorem dX8_type_29 : decode cX8_type 29 = .ok (.putfield 120, 3) := by decide +kernel
theorem dX8_type_32 : decode cX8_type 32 = .ok (.aload_n 0, 1) := by decide +kernel
theorem dX8_type_33 : decode cX8_type 33 = .ok (.getfield 120, 3) := by decide +kernel
theorem dX8_type_36 : decode cX8_type 36 = .ok (.ireturn, 1) := by decide +kernel
theorem dX8_clearText_0 : decode cX8_clearText 0 = .ok (.aload_n 0, 1) := by decide +kernel
theorem dX8_clearText_1 : decode cX8_clearText 1 = .ok (.getfield 120, 3) := by decide +kernel
theorem dX8_clearText_4 : decode cX8_clearText 4 = .ok (.istore_n 1, 1) := by decide +kernel
theorem dX8_clearText_5 : decode cX8_clearText 5 = .ok (.aload_n 0, 1) := by decide +kernel
theorem dX8_clearText_6 : decode cX8_clearText 6 = .ok (.iconst 0, 1) := by decide +kernel
theorem dX8_clearText_7 : decode cX8_clearText 7 = .ok (.putfield 120, 3) := by decide +kernel
theorem dX8_clearText_10 : decode cX8_clearText 10 = .ok (.iload_n 1, 1) := by decide +kernel
theorem dX8_clearText_11 : decode cX8_clearText 11 = .ok (.ireturn, 1) := by decide +kernel
set_option maxRecDepth 20000 in
theorem ggX8_takes_X8_in : GoodIn wsX8_takes wsX8_in := goodIn_r _ [7] (by decide +kernel) (by decide +kernel)
set_option maxRecDepth 20000 in
theorem gX8_takes_X8_in : GoodIn wsX8_takes (va_wsS RX8 31 yX8_in wsX8_in) := goodIn_app (goodIn_of _ (by decide +kernel)) ggX8_takes_X8_in
theorem dX8_takes_0 : decode cX8_takes 0 = .ok (.aload_n 0, 1) := by decide +kernel
theorem dX8_takes_1 : decode cX8_takes 1 = .ok (.getfield 123, 3) := by decide +kernel
theorem dX8_takes_4 : decode cX8_takes 4 = .ok (.aload_n 0, 1) := by decide +kernel
theorem dX8_takes_5 : decode cX8_takes 5 = .ok (.getfield 120, 3) := by decide +kernel
theorem dX8_takes_8 : decode cX8_takes 8 = .ok (.if_icmp .ge 24, 3) := by decide +kernel
theorem dX8_takes_11 : decode cX8_takes 11 = .ok (.aload_n 0, 1) := by decide +kernel
theorem dX8_takes_12 : decode cX8_takes 12 = .ok (.getfield 25, 3) := by decide +kernel
theorem dX8_takes_15 : decode cX8_takes 15 = .ok (.aload_n 0, 1) := by decide +kernel
theorem dX8_takes_16 : decode cX8_takes 16 = .ok (.getfield 123, 3) := by decide +kernel
theorem dX8_takes_19 : decode cX8_takes 19 = .ok (.iaload, 1) := by decide +kernel
theorem dX8_takes_20 : decode cX8_takes 20 = .ok (.iload_n 1, 1) := by decide +kernel
theorem dX8_takes_21 : decode cX8_takes 21 = .ok (.iload_n 2, 1) := by decide +kernel
theorem dX8_takes_22 : decode cX8_takes 22 = .ok (.invokestatic 31, 3) := by decide +kernel
theorem dX8_takes_25 : decode cX8_takes 25 = .ok (.ifCond .eq 7, 3) := by decide +kernel
theorem dX8_takes_28 : decode cX8_takes 28 = .ok (.iconst 1, 1) := by decide +kernel
theorem dX8_takes_29 : decode cX8_takes 29 = .ok (.goto 4, 3) := by decide +kernel
theorem dX8_takes_32 : decode cX8_takes 32 = .ok (.iconst 0, 1) := by decide +kernel
theorem dX8_takes_33 : decode cX8_takes 33 = .ok (.istore_n 3, 1) := by decide +kernel
theorem dX8_takes_34 : decode cX8_takes 34 = .ok (.aload_n 0, 1) := by decide +kernel
theorem dX8_takes_35 : decode cX8_takes 35 = .ok (.dup, 1) := by decide +kernel
theorem dX8_takes_36 : decode cX8_takes 36 = .ok (.getfield 123, 3) := by decide +kernel
theorem dX8_takes_39 : decode cX8_takes 39 = .ok (.iload_n 3, 1) := by decide +kernel
theorem dX8_takes_40 : decode cX8_takes 40 = .ok (.ifCond .eq 7, 3) := by decide +kernel
theorem dX8_takes_43 : decode cX8_takes 43 = .ok (.iconst 1, 1) := by decide +kernel
theorem dX8_takes_44 : decode cX8_takes 44 = .ok (.goto 4, 3) := by decide +kernel
theorem dX8_takes_47 : decode cX8_takes 47 = .ok (.iconst 0, 1) := by decide +kernel
theorem dX8_takes_48 : decode cX8_takes 48 = .ok (.iadd, 1) := by decide +kernel
theorem dX8_takes_49 : decode cX8_takes 49 = .ok (.putfield 123, 3) := by decide +kernel
theorem dX8_takes_52 : decode cX8_takes 52 = .ok (.iload_n 3, 1) := by decide +kernel
theorem dX8_takes_53 : decode cX8_takes 53 = .ok (.ireturn, 1) := by decide +kernel
theorem dX8_digit_0 : decode cX8_digit 0 = .ok (.aload_n 0, 1) := by decide +kernel
theorem dX8_digit_1 : decode cX8_digit 1 = .ok (.getfield 25, 3) := by decide +kernel
theorem dX8_digit_4 : decode cX8_digit 4 = .ok (.aload_n 0, 1) := by decide +kernel
theorem dX8_digit_5 : decode cX8_digit 5 = .ok (.getfield 123, 3) := by decide +kernel
theorem dX8_digit_8 : decode cX8_digit 8 = .ok (.iconst 1, 1) := by decide +kernel
theorem dX8_digit_9 : decode cX8_digit 9 = .ok (.isub, 1) := by decide +kernel
theorem dX8_digit_10 : decode cX8_digit 10 = .ok (.iaload, 1) := by decide +kernel
theorem dX8_digit_11 : decode cX8_digit 11 = .ok (.bipush 48, 2) := by decide +kernel
theorem dX8_digit_13 : decode cX8_digit 13 = .ok (.isub, 1) := by decide +kernel
theorem dX8_digit_14 : decode cX8_digit 14 = .ok (.ireturn, 1) := by decide +kernel
set_option maxRecDepth 20000 in
theorem ggX8_readsSize_X8_takes : GoodIn wsX8_readsSize wsX8_takes := goodIn_r _ [7, 8, 9, 10, 11, 12, 6, 13, 18, 19, 20, 21, 22, 23, 24, 25, 26, 27, 28, 29, 30] (by decide +kernel) (by decide +kernel)
set_option maxRecDepth 20000 in
theorem gX8_readsSize_X8_takes : GoodIn wsX8_readsSize (wsV RX8 126 RX8 yX8_takes wsX8_takes) := goodIn_app (goodIn_of _ (by decide +kernel)) ggX8_readsSize_X8_takes
set_option maxRecDepth 20000 in
theorem ggX8_readsSize_X8_digit : GoodIn wsX8_readsSize wsX8_digit := goodIn_r _ [17, 10, 8, 18, 19, 20, 21, 22, 23, 24, 25, 26, 27, 28, 29, 30] (by decide +kernel) (by decide +kernel)
set_option maxRecDepth 20000 in
theorem gX8_readsSize_X8_digit : GoodIn wsX8_readsSize (wsV RX8 129 RX8 yX8_digit wsX8_digit) := goodIn_app (goodIn_of _ (by decide +kernel)) ggX8_readsSize_X8_digit
theorem dX8_readsSize_0 : decode cX8_readsSize 0 = .ok (.aload_n 0, 1) := by decide +kernel
theorem dX8_readsSize_1 : decode cX8_readsSize 1 = .ok (.bipush 49, 2) := by decide +kernel
theorem dX8_readsSize_3 : decode cX8_readsSize 3 = .ok (.bipush 57, 2) := by decide +kernel
theorem dX8_readsSize_5 : decode cX8_readsSize 5 = .ok (.invokevirtual 126, 3) := by decide +kernel
theorem dX8_readsSize_8 : decode cX8_readsSize 8 = .ok (.ifCond .ne 5, 3) := by decide +kernel
theorem dX8_readsSize_11 : decode cX8_readsSize 11 = .ok (.iconst 0, 1) := by decide +kernel
theorem dX8_readsSize_12 : decode cX8_readsSize 12 = .ok (.ireturn, 1) := by decide +kernel
theorem dX8_readsSize_13 : decode cX8_readsSize 13 = .ok (.aload_n 0, 1) := by decide +kernel
theorem dX8_readsSize_14 : decode cX8_readsSize 14 = .ok (.invokevirtual 129, 3) := by decide +kernel
theorem dX8_readsSize_17 : decode cX8_readsSize 17 = .ok (.istore_n 1, 1) := by decide +kernel
theorem dX8_readsSize_18 : decode cX8_readsSize 18 = .ok (.iload_n 1, 1) := by decide +kernel
theorem dX8_readsSize_19 : decode cX8_readsSize 19 = .ok (.iconst 3, 1) := by decide +kernel
theorem dX8_readsSize_20 : decode cX8_readsSize 20 = .ok (.if_icmp .ge 17, 3) := by decide +kernel
theorem dX8_readsSize_23 : decode cX8_readsSize 23 = .ok (.aload_n 0, 1) := by decide +kernel
theorem dX8_readsSize_24 : decode cX8_readsSize 24 = .ok (.bipush 48, 2) := by decide +kernel
theorem dX8_readsSize_26 : decode cX8_readsSize 26 = .ok (.bipush 57, 2) := by decide +kernel
theorem dX8_readsSize_28 : decode cX8_readsSize 28 = .ok (.invokevirtual 126, 3) := by decide +kernel
theorem dX8_readsSize_31 : decode cX8_readsSize 31 = .ok (.ifCond .eq 32, 3) := by decide +kernel
theorem dX8_readsSize_34 : decode cX8_readsSize 34 = .ok (.goto 19, 3) := by decide +kernel
theorem dX8_readsSize_37 : decode cX8_readsSize 37 = .ok (.iload_n 1, 1) := by decide +kernel
theorem dX8_readsSize_38 : decode cX8_readsSize 38 = .ok (.iconst 3, 1) := by decide +kernel
theorem dX8_readsSize_39 : decode cX8_readsSize 39 = .ok (.if_icmp .ne 24, 3) := by decide +kernel
theorem dX8_readsSize_42 : decode cX8_readsSize 42 = .ok (.aload_n 0, 1) := by decide +kernel
theorem dX8_readsSize_43 : decode cX8_readsSize 43 = .ok (.bipush 48, 2) := by decide +kernel
theorem dX8_readsSize_45 : decode cX8_readsSize 45 = .ok (.bipush 48, 2) := by decide +kernel
theorem dX8_readsSize_47 : decode cX8_readsSize 47 = .ok (.invokevirtual 126, 3) := by decide +kernel
theorem dX8_readsSize_50 : decode cX8_readsSize 50 = .ok (.ifCond .eq 13, 3) := by decide +kernel
theorem dX8_readsSize_53 : decode cX8_readsSize 53 = .ok (.bipush 10, 2) := by decide +kernel
theorem dX8_readsSize_55 : decode cX8_readsSize 55 = .ok (.iload_n 1, 1) := by decide +kernel
theorem dX8_readsSize_56 : decode cX8_readsSize 56 = .ok (.imul, 1) := by decide +kernel
theorem dX8_readsSize_57 : decode cX8_readsSize 57 = .ok (.aload_n 0, 1) := by decide +kernel
theorem dX8_readsSize_58 : decode cX8_readsSize 58 = .ok (.invokevirtual 129, 3) := by decide +kernel
theorem dX8_readsSize_61 : decode cX8_readsSize 61 = .ok (.iadd, 1) := by decide +kernel
theorem dX8_readsSize_62 : decode cX8_readsSize 62 = .ok (.istore_n 1, 1) := by decide +kernel
theorem dX8_readsSize_63 : decode cX8_readsSize 63 = .ok (.aload_n 0, 1) := by decide +kernel
theorem dX8_readsSize_64 : decode cX8_readsSize 64 = .ok (.getfield 28, 3) := by decide +kernel
theorem dX8_readsSize_67 : decode cX8_readsSize 67 = .ok (.iconst 5, 1) := by decide +kernel
theorem dX8_readsSize_68 : decode cX8_readsSize 68 = .ok (.aload_n 0, 1) := by decide +kernel
theorem dX8_readsSize_69 : decode cX8_readsSize 69 = .ok (.getfield 132, 3) := by decide +kernel
theorem dX8_readsSize_72 : decode cX8_readsSize 72 = .ok (.imul, 1) := by decide +kernel
theorem dX8_readsSize_73 : decode cX8_readsSize 73 = .ok (.iconst 1, 1) := by decide +kernel
theorem dX8_readsSize_74 : decode cX8_readsSize 74 = .ok (.iadd, 1) := by decide +kernel
theorem dX8_readsSize_75 : decode cX8_readsSize 75 = .ok (.iload_n 1, 1) := by decide +kernel
theorem dX8_readsSize_76 : decode cX8_readsSize 76 = .ok (.iastore, 1) := by decide +kernel
theorem dX8_readsSize_77 : decode cX8_readsSize 77 = .ok (.iconst 1, 1) := by decide +kernel
theorem dX8_readsSize_78 : decode cX8_readsSize 78 = .ok (.ireturn, 1) := by decide +kernel
set_option maxRecDepth 20000 in
theorem ggX8_readsDigit_X8_takes : GoodIn wsX8_readsDigit wsX8_takes := goodIn_r _ [7, 8, 9, 10, 11, 12, 6, 13, 18, 19, 20, 21, 22, 23, 24, 25, 26, 27, 28, 29, 30] (by decide +kernel) (by decide +kernel)
set_option maxRecDepth 20000 in
theorem gX8_readsDigit_X8_takes : GoodIn wsX8_readsDigit (wsV RX8 126 RX8 yX8_takes wsX8_takes) := goodIn_app (goodIn_of _ (by decide +kernel)) ggX8_readsDigit_X8_takes
set_option maxRecDepth 20000 in
theorem ggX8_readsDigit_X8_digit : GoodIn wsX8_readsDigit wsX8_digit := goodIn_r _ [17, 10, 8, 18, 19, 20, 21, 22, 23, 24, 25, 26, 27, 28, 29, 30] (by decide +kernel) (by decide +kernel)
set_option maxRecDepth 20000 in
theorem gX8_readsDigit_X8_digit : GoodIn wsX8_readsDigit (wsV RX8 129 RX8 yX8_digit wsX8_digit) := goodIn_app (goodIn_of _ (by decide +kernel)) ggX8_readsDigit_X8_digit
theorem dX8_readsDigit_0 : decode cX8_readsDigit 0 = .ok (.aload_n 0, 1) := by decide +kernel
theorem dX8_readsDigit_1 : decode cX8_readsDigit 1 = .ok (.getfield 28, 3) := by decide +kernel
theorem dX8_readsDigit_4 : decode cX8_readsDigit 4 = .ok (.iconst 5, 1) := by decide +kernel
theorem dX8_readsDigit_5 : decode cX8_readsDigit 5 = .ok (.aload_n 0, 1) := by decide +kernel
theorem dX8_readsDigit_6 : decode cX8_readsDigit 6 = .ok (.getfield 132, 3) := by decide +kernel
theorem dX8_readsDigit_9 : decode cX8_readsDigit 9 = .ok (.imul, 1) := by decide +kernel
theorem dX8_readsDigit_10 : decode cX8_readsDigit 10 = .ok (.iload_n 2, 1) := by decide +kernel
theorem dX8_readsDigit_11 : decode cX8_readsDigit 11 = .ok (.iadd, 1) := by decide +kernel
theorem dX8_readsDigit_12 : decode cX8_readsDigit 12 = .ok (.iconst 0, 1) := by decide +kernel
theorem dX8_readsDigit_13 : decode cX8_readsDigit 13 = .ok (.iastore, 1) := by decide +kernel
theorem dX8_readsDigit_14 : decode cX8_readsDigit 14 = .ok (.aload_n 0, 1) := by decide +kernel
theorem dX8_readsDigit_15 : decode cX8_readsDigit 15 = .ok (.iload_n 1, 1) := by decide +kernel
theorem dX8_readsDigit_16 : decode cX8_readsDigit 16 = .ok (.iload_n 1, 1) := by decide +kernel
theorem dX8_readsDigit_17 : decode cX8_readsDigit 17 = .ok (.invokevirtual 126, 3) := by decide +kernel
theorem dX8_readsDigit_20 : decode cX8_readsDigit 20 = .ok (.ifCond .ne 5, 3) := by decide +kernel
theorem dX8_readsDigit_23 : decode cX8_readsDigit 23 = .ok (.iconst 1, 1) := by decide +kernel
theorem dX8_readsDigit_24 : decode cX8_readsDigit 24 = .ok (.ireturn, 1) := by decide +kernel
theorem dX8_readsDigit_25 : decode cX8_readsDigit 25 = .ok (.aload_n 0, 1) := by decide +kernel
theorem dX8_readsDigit_26 : decode cX8_readsDigit 26 = .ok (.bipush 48, 2) := by decide +kernel
theorem dX8_readsDigit_28 : decode cX8_readsDigit 28 = .ok (.bipush 57, 2) := by decide +kernel
theorem dX8_readsDigit_30 : decode cX8_readsDigit 30 = .ok (.invokevirtual 126, 3) := by decide +kernel
theorem dX8_readsDigit_33 : decode cX8_readsDigit 33 = .ok (.istore_n 3, 1) := by decide +kernel
theorem dX8_readsDigit_34 : decode cX8_readsDigit 34 = .ok (.aload_n 0, 1) := by decide +kernel
theorem dX8_readsDigit_35 : decode cX8_readsDigit 35 = .ok (.getfield 28, 3) := by decide +kernel
theorem dX8_readsDigit_38 : decode cX8_readsDigit 38 = .ok (.iconst 5, 1) := by decide +kernel
theorem dX8_readsDigit_39 : decode cX8_readsDigit 39 = .ok (.aload_n 0, 1) := by decide +kernel
theorem dX8_readsDigit_40 : decode cX8_readsDigit 40 = .ok (.getfield 132, 3) := by decide +kernel
theorem dX8_readsDigit_43 : decode cX8_readsDigit 43 = .ok (.imul, 1) := by decide +kernel
theorem dX8_readsDigit_44 : decode cX8_readsDigit 44 = .ok (.iload_n 2, 1) := by decide +kernel
theorem dX8_readsDigit_45 : decode cX8_readsDigit 45 = .ok (.iadd, 1) := by decide +kernel
theorem dX8_readsDigit_46 : decode cX8_readsDigit 46 = .ok (.iload_n 3, 1) := by decide +kernel
theorem dX8_readsDigit_47 : decode cX8_readsDigit 47 = .ok (.ifCond .eq 10, 3) := by decide +kernel
theorem dX8_readsDigit_50 : decode cX8_readsDigit 50 = .ok (.aload_n 0, 1) := by decide +kernel
theorem dX8_readsDigit_51 : decode cX8_readsDigit 51 = .ok (.invokevirtual 129, 3) := by decide +kernel
theorem dX8_readsDigit_54 : decode cX8_readsDigit 54 = .ok (.goto 4, 3) := by decide +kernel
theorem dX8_readsDigit_57 : decode cX8_readsDigit 57 = .ok (.iconst 0, 1) := by decide +kernel
theorem dX8_readsDigit_58 : decode cX8_readsDigit 58 = .ok (.iastore, 1) := by decide +kernel
theorem dX8_readsDigit_59 : decode cX8_readsDigit 59 = .ok (.iload_n 3, 1) := by decide +kernel
theorem dX8_readsDigit_60 : decode cX8_readsDigit 60 = .ok (.ireturn, 1) := by decide +kernel
set_option maxRecDepth 20000 in
theorem ggX8_readsButton_X8_takes : GoodIn wsX8_readsButton wsX8_takes := goodIn_r _ [7, 8, 9, 10, 11, 12, 6, 13, 26, 27, 28, 29, 30, 31, 32, 33, 34, 35, 36, 37, 38] (by decide +kernel) (by decide +kernel)
set_option maxRecDepth 20000 in
theorem gX8_readsButton_X8_takes : GoodIn wsX8_readsButton (wsV RX8 126 RX8 yX8_takes wsX8_takes) := goodIn_app (goodIn_of _ (by decide +kernel)) ggX8_readsButton_X8_takes
set_option maxRecDepth 20000 in
theorem ggX8_readsButton_X8_digit : GoodIn wsX8_readsButton wsX8_digit := goodIn_r _ [17, 10, 8, 26, 27, 28, 29, 30, 31, 32, 33, 34, 35, 36, 37, 38] (by decide +kernel) (by decide +kernel)
set_option maxRecDepth 20000 in
theorem gX8_readsButton_X8_digit : GoodIn wsX8_readsButton (wsV RX8 129 RX8 yX8_digit wsX8_digit) := goodIn_app (goodIn_of _ (by decide +kernel)) ggX8_readsButton_X8_digit
set_option maxRecDepth 20000 in
theorem ggX8_readsButton_X8_readsSize : GoodIn wsX8_readsButton wsX8_readsSize := goodIn_r _ [21, 1, 2, 3, 4, 5, 6, 7, 8, 9, 10, 11, 12, 13, 14, 15, 16, 17, 26, 27, 28, 29, 30, 31, 32, 33, 34, 35, 36, 37, 38] (by decide +kernel) (by decide +kernel)
set_option maxRecDepth 20000 in
theorem gX8_readsButton_X8_readsSize : GoodIn wsX8_readsButton (wsV RX8 135 RX8 yX8_readsSize wsX8_readsSize) := goodIn_app (goodIn_of _ (by decide +kernel)) ggX8_readsButton_X8_readsSize
set_option maxRecDepth 20000 in
theorem ggX8_readsButton_X8_readsDigit : GoodIn wsX8_readsButton wsX8_readsDigit := goodIn_r _ [25, 1, 2, 3, 4, 5, 6, 7, 8, 9, 10, 11, 12, 13, 14, 15, 16, 17, 26, 27, 28, 29, 30, 31, 32, 33, 34, 35, 36, 37, 38] (by decide +kernel) (by decide +kernel)
set_option maxRecDepth 20000 in
theorem gX8_readsButton_X8_readsDigit : GoodIn wsX8_readsButton (wsV RX8 139 RX8 yX8_readsDigit wsX8_readsDigit) := goodIn_app (goodIn_of _ (by decide +kernel)) ggX8_readsButton_X8_readsDigit
theorem dX8_readsButton_0 : decode cX8_readsButton 0 = .ok (.aload_n 0, 1) := by decide +kernel
theorem dX8_readsButton_1 : decode cX8_readsButton 1 = .ok (.bipush 49, 2) := by decide +kernel
theorem dX8_readsButton_3 : decode cX8_readsButton 3 = .ok (.bipush 52, 2) := by decide +kernel
theorem dX8_readsButton_5 : decode cX8_readsButton 5 = .ok (.invokevirtual 126, 3) := by decide +kernel
theorem dX8_readsButton_8 : decode cX8_readsButton 8 = .ok (.ifCond .ne 5, 3) := by decide +kernel
theorem dX8_readsButton_11 : decode cX8_readsButton 11 = .ok (.iconst 0, 1) := by decide +kernel
theorem dX8_readsButton_12 : decode cX8_readsButton 12 = .ok (.ireturn, 1) := by decide +kernel
theorem dX8_readsButton_13 : decode cX8_readsButton 13 = .ok (.aload_n 0, 1) := by decide +kernel
theorem dX8_readsButton_14 : decode cX8_readsButton 14 = .ok (.getfield 28, 3) := by decide +kernel
theorem dX8_readsButton_17 : decode cX8_readsButton 17 = .ok (.iconst 5, 1) := by decide +kernel
theorem dX8_readsButton_18 : decode cX8_readsButton 18 = .ok (.aload_n 0, 1) := by decide +kernel
theorem dX8_readsButton_19 : decode cX8_readsButton 19 = .ok (.getfield 132, 3) := by decide +kernel
theorem dX8_readsButton_22 : decode cX8_readsButton 22 = .ok (.imul, 1) := by decide +kernel
theorem dX8_readsButton_23 : decode cX8_readsButton 23 = .ok (.aload_n 0, 1) := by decide +kernel
theorem dX8_readsButton_24 : decode cX8_readsButton 24 = .ok (.invokevirtual 129, 3) := by decide +kernel
theorem dX8_readsButton_27 : decode cX8_readsButton 27 = .ok (.iastore, 1) := by decide +kernel
theorem dX8_readsButton_28 : decode cX8_readsButton 28 = .ok (.aload_n 0, 1) := by decide +kernel
theorem dX8_readsButton_29 : decode cX8_readsButton 29 = .ok (.bipush 104, 2) := by decide +kernel
theorem dX8_readsButton_31 : decode cX8_readsButton 31 = .ok (.bipush 104, 2) := by decide +kernel
theorem dX8_readsButton_33 : decode cX8_readsButton 33 = .ok (.invokevirtual 126, 3) := by decide +kernel
theorem dX8_readsButton_36 : decode cX8_readsButton 36 = .ok (.ifCond .eq 44, 3) := by decide +kernel
theorem dX8_readsButton_39 : decode cX8_readsButton 39 = .ok (.aload_n 0, 1) := by decide +kernel
theorem dX8_readsButton_40 : decode cX8_readsButton 40 = .ok (.invokevirtual 135, 3) := by decide +kernel
theorem dX8_readsButton_43 : decode cX8_readsButton 43 = .ok (.ifCond .eq 37, 3) := by decide +kernel
theorem dX8_readsButton_46 : decode cX8_readsButton 46 = .ok (.aload_n 0, 1) := by decide +kernel
theorem dX8_readsButton_47 : decode cX8_readsButton 47 = .ok (.bipush 105, 2) := by decide +kernel
theorem dX8_readsButton_49 : decode cX8_readsButton 49 = .ok (.iconst 2, 1) := by decide +kernel
theorem dX8_readsButton_50 : decode cX8_readsButton 50 = .ok (.invokevirtual 139, 3) := by decide +kernel
theorem dX8_readsButton_53 : decode cX8_readsButton 53 = .ok (.ifCond .eq 27, 3) := by decide +kernel
theorem dX8_readsButton_56 : decode cX8_readsButton 56 = .ok (.aload_n 0, 1) := by decide +kernel
theorem dX8_readsButton_57 : decode cX8_readsButton 57 = .ok (.bipush 99, 2) := by decide +kernel
theorem dX8_readsButton_59 : decode cX8_readsButton 59 = .ok (.iconst 3, 1) := by decide +kernel
theorem dX8_readsButton_60 : decode cX8_readsButton 60 = .ok (.invokevirtual 139, 3) := by decide +kernel
theorem dX8_readsButton_63 : decode cX8_readsButton 63 = .ok (.ifCond .eq 17, 3) := by decide +kernel
theorem dX8_readsButton_66 : decode cX8_readsButton 66 = .ok (.aload_n 0, 1) := by decide +kernel
theorem dX8_readsButton_67 : decode cX8_readsButton 67 = .ok (.bipush 115, 2) := by decide +kernel
theorem dX8_readsButton_69 : decode cX8_readsButton 69 = .ok (.iconst 4, 1) := by decide +kernel
theorem dX8_readsButton_70 : decode cX8_readsButton 70 = .ok (.invokevirtual 139, 3) := by decide +kernel
theorem dX8_readsButton_73 : decode cX8_readsButton 73 = .ok (.ifCond .eq 7, 3) := by decide +kernel
theorem dX8_readsButton_76 : decode cX8_readsButton 76 = .ok (.iconst 1, 1) := by decide +kernel
theorem dX8_readsButton_77 : decode cX8_readsButton 77 = .ok (.goto 4, 3) := by decide +kernel
theorem dX8_readsButton_80 : decode cX8_readsButton 80 = .ok (.iconst 0, 1) := by decide +kernel
theorem dX8_readsButton_81 : decode cX8_readsButton 81 = .ok (.istore_n 1, 1) := by decide +kernel
theorem dX8_readsButton_82 : decode cX8_readsButton 82 = .ok (.aload_n 0, 1) := by decide +kernel
theorem dX8_readsButton_83 : decode cX8_readsButton 83 = .ok (.dup, 1) := by decide +kernel
theorem dX8_readsButton_84 : decode cX8_readsButton 84 = .ok (.getfield 132, 3) := by decide +kernel
theorem dX8_readsButton_87 : decode cX8_readsButton 87 = .ok (.iload_n 1, 1) := by decide +kernel
theorem dX8_readsButton_88 : decode cX8_readsButton 88 = .ok (.ifCond .eq 7, 3) := by decide +kernel
theorem dX8_readsButton_91 : decode cX8_readsButton 91 = .ok (.iconst 1, 1) := by decide +kernel
theorem dX8_readsButton_92 : decode cX8_readsButton 92 = .ok (.goto 4, 3) := by decide +kernel
theorem dX8_readsButton_95 : decode cX8_readsButton 95 = .ok (.iconst 0, 1) := by decide +kernel
theorem dX8_readsButton_96 : decode cX8_readsButton 96 = .ok (.iadd, 1) := by decide +kernel
theorem dX8_readsButton_97 : decode cX8_readsButton 97 = .ok (.putfield 132, 3) := by decide +kernel
theorem dX8_readsButton_100 : decode cX8_readsButton 100 = .ok (.iload_n 1, 1) := by decide +kernel
theorem dX8_readsButton_101 : decode cX8_readsButton 101 = .ok (.ireturn, 1) := by decide +kernel
set_option maxRecDepth 20000 in
theorem ggX8_areButtons_X8_readsButton : GoodIn wsX8_areButtons wsX8_readsButton := goodIn_r _ [8, 9, 2, 10, 11, 12, 7, 13, 1, 3, 14, 15, 16, 17, 18, 19, 20, 21, 22, 23, 24, 25, 26, 27, 28, 29, 30, 31, 32, 33, 34, 35, 36, 37, 38, 39, 40, 41, 42] (by decide +kernel) (by decide +kernel)
set_option maxRecDepth 20000 in
theorem gX8_areButtons_X8_readsButton : GoodIn wsX8_areButtons (wsV RX8 142 RX8 yX8_readsButton wsX8_readsButton) := goodIn_app (goodIn_of _ (by decide +kernel)) ggX8_areButtons_X8_readsButton
set_option maxRecDepth 20000 in
theorem ggX8_areButtons_X8_takes : GoodIn wsX8_areButtons wsX8_takes := goodIn_r _ [13, 1, 3, 14, 15, 16, 7, 17, 30, 31, 32, 33, 34, 35, 36, 37, 38, 39, 40, 41, 42] (by decide +kernel) (by decide +kernel)
set_option maxRecDepth 20000 in
theorem gX8_areButtons_X8_takes : GoodIn wsX8_areButtons (wsV RX8 126 RX8 yX8_takes wsX8_takes) := goodIn_app (goodIn_of _ (by decide +kernel)) ggX8_areButtons_X8_takes
theorem dX8_areButtons_0 : decode cX8_areButtons 0 = .ok (.aload_n 0, 1) := by decide +kernel
theorem dX8_areButtons_1 : decode cX8_areButtons 1 = .ok (.iconst 0, 1) := by decide +kernel
theorem dX8_areButtons_2 : decode cX8_areButtons 2 = .ok (.putfield 123, 3) := by decide +kernel
theorem dX8_areButtons_5 : decode cX8_areButtons 5 = .ok (.aload_n 0, 1) := by decide +kernel
theorem dX8_areButtons_6 : decode cX8_areButtons 6 = .ok (.iconst 0, 1) := by decide +kernel
theorem dX8_areButtons_7 : decode cX8_areButtons 7 = .ok (.putfield 132, 3) := by decide +kernel
theorem dX8_areButtons_10 : decode cX8_areButtons 10 = .ok (.aload_n 0, 1) := by decide +kernel
theorem dX8_areButtons_11 : decode cX8_areButtons 11 = .ok (.invokevirtual 142, 3) := by decide +kernel
theorem dX8_areButtons_14 : decode cX8_areButtons 14 = .ok (.istore_n 1, 1) := by decide +kernel
theorem dX8_areButtons_15 : decode cX8_areButtons 15 = .ok (.iload_n 1, 1) := by decide +kernel
theorem dX8_areButtons_16 : decode cX8_areButtons 16 = .ok (.ifCond .eq 22, 3) := by decide +kernel
theorem dX8_areButtons_19 : decode cX8_areButtons 19 = .ok (.aload_n 0, 1) := by decide +kernel
theorem dX8_areButtons_20 : decode cX8_areButtons 20 = .ok (.bipush 44, 2) := by decide +kernel
theorem dX8_areButtons_22 : decode cX8_areButtons 22 = .ok (.bipush 44, 2) := by decide +kernel
theorem dX8_areButtons_24 : decode cX8_areButtons 24 = .ok (.invokevirtual 126, 3) := by decide +kernel
theorem dX8_areButtons_27 : decode cX8_areButtons 27 = .ok (.ifCond .eq 11, 3) := by decide +kernel
theorem dX8_areButtons_30 : decode cX8_areButtons 30 = .ok (.aload_n 0, 1) := by decide +kernel
theorem dX8_areButtons_31 : decode cX8_areButtons 31 = .ok (.invokevirtual 142, 3) := by decide +kernel
theorem dX8_areButtons_34 : decode cX8_areButtons 34 = .ok (.istore_n 1, 1) := by decide +kernel
theorem dX8_areButtons_35 : decode cX8_areButtons 35 = .ok (.goto (-20), 3) := by decide +kernel
theorem dX8_areButtons_38 : decode cX8_areButtons 38 = .ok (.iload_n 1, 1) := by decide +kernel
theorem dX8_areButtons_39 : decode cX8_areButtons 39 = .ok (.ifCond .eq 18, 3) := by decide +kernel
theorem dX8_areButtons_42 : decode cX8_areButtons 42 = .ok (.aload_n 0, 1) := by decide +kernel
theorem dX8_areButtons_43 : decode cX8_areButtons 43 = .ok (.getfield 123, 3) := by decide +kernel
theorem dX8_areButtons_46 : decode cX8_areButtons 46 = .ok (.aload_n 0, 1) := by decide +kernel
theorem dX8_areButtons_47 : decode cX8_areButtons 47 = .ok (.getfield 120, 3) := by decide +kernel
theorem dX8_areButtons_50 : decode cX8_areButtons 50 = .ok (.if_icmp .ne 7, 3) := by decide +kernel
theorem dX8_areButtons_53 : decode cX8_areButtons 53 = .ok (.iconst 1, 1) := by decide +kernel
theorem dX8_areButtons_54 : decode cX8_areButtons 54 = .ok (.goto 4, 3) := by decide +kernel
theorem dX8_areButtons_57 : decode cX8_areButtons 57 = .ok (.iconst 0, 1) := by decide +kernel
theorem dX8_areButtons_58 : decode cX8_areButtons 58 = .ok (.ireturn, 1) := by decide +kernel
set_option maxRecDepth 20000 in
theorem ggX8_come_X8_put : GoodIn wsX8_come wsX8_put := goodIn_r _ [7, 1, 16, 17, 18, 19, 20, 21, 22, 23, 24, 25, 26, 27, 28] (by decide +kernel) (by decide +kernel)
set_option maxRecDepth 20000 in
theorem gX8_come_X8_put : GoodIn wsX8_come (wsV RX8 54 RX8 yX8_put wsX8_put) := goodIn_app (goodIn_of _ (by decide +kernel)) ggX8_come_X8_put
set_option maxRecDepth 20000 in
theorem ggX8_come_X8_toHopper : GoodIn wsX8_come wsX8_toHopper := goodIn_r _ [11, 1, 12, 13, 14, 6, 15, 3, 4, 5, 7, 16, 17, 18, 19, 20, 21, 22, 23, 24, 25, 26, 27, 28] (by decide +kernel) (by decide +kernel)
set_option maxRecDepth 20000 in
theorem gX8_come_X8_toHopper : GoodIn wsX8_come (wsV RX8 82 RX8 yX8_toHopper wsX8_toHopper) := goodIn_app (goodIn_of _ (by decide +kernel)) ggX8_come_X8_toHopper
theorem dX8_come_0 : decode cX8_come 0 = .ok (.aload_n 0, 1) := by decide +kernel
theorem dX8_come_1 : decode cX8_come 1 = .ok (.getfield 7, 3) := by decide +kernel
theorem dX8_come_4 : decode cX8_come 4 = .ok (.bipush 13, 2) := by decide +kernel
theorem dX8_come_6 : decode cX8_come 6 = .ok (.iaload, 1) := by decide +kernel
theorem dX8_come_7 : decode cX8_come 7 = .ok (.istore_n 2, 1) := by decide +kernel
theorem dX8_come_8 : decode cX8_come 8 = .ok (.aload_n 0, 1) := by decide +kernel
theorem dX8_come_9 : decode cX8_come 9 = .ok (.getfield 7, 3) := by decide +kernel
theorem dX8_come_12 : decode cX8_come 12 = .ok (.bipush 13, 2) := by decide +kernel
theorem dX8_come_14 : decode cX8_come 14 = .ok (.dup2, 1) := by decide +kernel
theorem dX8_come_15 : decode cX8_come 15 = .ok (.iaload, 1) := by decide +kernel
theorem dX8_come_16 : decode cX8_come 16 = .ok (.iconst 1, 1) := by decide +kernel
theorem dX8_come_17 : decode cX8_come 17 = .ok (.iadd, 1) := by decide +kernel
theorem dX8_come_18 : decode cX8_come 18 = .ok (.iastore, 1) := by decide +kernel
theorem dX8_come_19 : decode cX8_come 19 = .ok (.iconst 0, 1) := by decide +kernel
theorem dX8_come_20 : decode cX8_come 20 = .ok (.istore_n 3, 1) := by decide +kernel
theorem dX8_come_21 : decode cX8_come 21 = .ok (.iload_n 3, 1) := by decide +kernel
theorem dX8_come_22 : decode cX8_come 22 = .ok (.iconst 5, 1) := by decide +kernel
theorem dX8_come_23 : decode cX8_come 23 = .ok (.if_icmp .ge 25, 3) := by decide +kernel
theorem dX8_come_26 : decode cX8_come 26 = .ok (.aload_n 0, 1) := by decide +kernel
theorem dX8_come_27 : decode cX8_come 27 = .ok (.iload_n 2, 1) := by decide +kernel
theorem dX8_come_28 : decode cX8_come 28 = .ok (.iload_n 3, 1) := by decide +kernel
theorem dX8_come_29 : decode cX8_come 29 = .ok (.aload_n 0, 1) := by decide +kernel
theorem dX8_come_30 : decode cX8_come 30 = .ok (.getfield 28, 3) := by decide +kernel
theorem dX8_come_33 : decode cX8_come 33 = .ok (.iconst 5, 1) := by decide +kernel
theorem dX8_come_34 : decode cX8_come 34 = .ok (.iload_n 1, 1) := by decide +kernel
theorem dX8_come_35 : decode cX8_come 35 = .ok (.imul, 1) := by decide +kernel
theorem dX8_come_36 : decode cX8_come 36 = .ok (.iload_n 3, 1) := by decide +kernel
theorem dX8_come_37 : decode cX8_come 37 = .ok (.iadd, 1) := by decide +kernel
theorem dX8_come_38 : decode cX8_come 38 = .ok (.iaload, 1) := by decide +kernel
theorem dX8_come_39 : decode cX8_come 39 = .ok (.invokevirtual 54, 3) := by decide +kernel
theorem dX8_come_42 : decode cX8_come 42 = .ok (.iinc 3 1, 3) := by decide +kernel
theorem dX8_come_45 : decode cX8_come 45 = .ok (.goto (-24), 3) := by decide +kernel
theorem dX8_come_48 : decode cX8_come 48 = .ok (.aload_n 0, 1) := by decide +kernel
theorem dX8_come_49 : decode cX8_come 49 = .ok (.iload_n 2, 1) := by decide +kernel
theorem dX8_come_50 : decode cX8_come 50 = .ok (.bipush 7, 2) := by decide +kernel
theorem dX8_come_52 : decode cX8_come 52 = .ok (.bipush (-5), 2) := by decide +kernel
theorem dX8_come_54 : decode cX8_come 54 = .ok (.invokevirtual 54, 3) := by decide +kernel
theorem dX8_come_57 : decode cX8_come 57 = .ok (.aload_n 0, 1) := by decide +kernel
theorem dX8_come_58 : decode cX8_come 58 = .ok (.iload_n 2, 1) := by decide +kernel
theorem dX8_come_59 : decode cX8_come 59 = .ok (.bipush 8, 2) := by decide +kernel
theorem dX8_come_61 : decode cX8_come 61 = .ok (.iconst 0, 1) := by decide +kernel
theorem dX8_come_62 : decode cX8_come 62 = .ok (.invokevirtual 54, 3) := by decide +kernel
theorem dX8_come_65 : decode cX8_come 65 = .ok (.aload_n 0, 1) := by decide +kernel
theorem dX8_come_66 : decode cX8_come 66 = .ok (.iload_n 2, 1) := by decide +kernel
theorem dX8_come_67 : decode cX8_come 67 = .ok (.invokevirtual 82, 3) := by decide +kernel
theorem dX8_come_70 : decode cX8_come 70 = .ok (.return_, 1) := by decide +kernel
set_option maxRecDepth 20000 in
theorem ggX8_read_X8_areButtons : GoodIn wsX8_read wsX8_areButtons := goodIn_r _ [8, 1, 3, 9, 10, 11, 12, 7, 13, 14, 15, 16, 17, 18, 19, 20, 21, 22, 23, 24, 25, 26, 27, 28, 29, 30, 31, 32, 33, 34, 57, 58, 59, 60, 61, 62, 63, 64, 65, 66, 67, 68, 69] (by decide +kernel) (by decide +kernel)
set_option maxRecDepth 20000 in
theorem gX8_read_X8_areButtons : GoodIn wsX8_read (wsV RX8 145 RX8 yX8_areButtons wsX8_areButtons) := goodIn_app (goodIn_of _ (by decide +kernel)) ggX8_read_X8_areButtons
set_option maxRecDepth 20000 in
theorem ggX8_read_X8_record : GoodIn wsX8_read wsX8_record := goodIn_r _ [38, 39, 40, 2, 57, 58, 59, 60, 61, 62, 63, 64, 65, 66, 67, 68, 69] (by decide +kernel) (by decide +kernel)
set_option maxRecDepth 20000 in
theorem gX8_read_X8_record : GoodIn wsX8_read (wsV RX8 43 RX8 yX8_record wsX8_record) := goodIn_app (goodIn_of _ (by decide +kernel)) ggX8_read_X8_record
set_option maxRecDepth 20000 in
theorem ggX8_read_X8_come : GoodIn wsX8_read wsX8_come := goodIn_r _ [44, 2, 14, 45, 46, 47, 7, 48, 49, 50, 51, 52, 53, 54, 55, 56, 57, 58, 59, 60, 61, 62, 63, 64, 65, 66, 67, 68, 69] (by decide +kernel) (by decide +kernel)
set_option maxRecDepth 20000 in
theorem gX8_read_X8_come : GoodIn wsX8_read (wsV RX8 148 RX8 yX8_come wsX8_come) := goodIn_app (goodIn_of _ (by decide +kernel)) ggX8_read_X8_come
theorem dX8_read_0 : decode cX8_read 0 = .ok (.aload_n 0, 1) := by decide +kernel
theorem dX8_read_1 : decode cX8_read 1 = .ok (.invokevirtual 145, 3) := by decide +kernel
theorem dX8_read_4 : decode cX8_read 4 = .ok (.ifCond .ne 11, 3) := by decide +kernel
theorem dX8_read_7 : decode cX8_read 7 = .ok (.bipush (-100), 2) := by decide +kernel
theorem dX8_read_9 : decode cX8_read 9 = .ok (.aload_n 0, 1) := by decide +kernel
theorem dX8_read_10 : decode cX8_read 10 = .ok (.getfield 123, 3) := by decide +kernel
theorem dX8_read_13 : decode cX8_read 13 = .ok (.isub, 1) := by decide +kernel
theorem dX8_read_14 : decode cX8_read 14 = .ok (.ireturn, 1) := by decide +kernel
theorem dX8_read_15 : decode cX8_read 15 = .ok (.aload_n 0, 1) := by decide +kernel
theorem dX8_read_16 : decode cX8_read 16 = .ok (.getfield 7, 3) := by decide +kernel
theorem dX8_read_19 : decode cX8_read 19 = .ok (.bipush 13, 2) := by decide +kernel
theorem dX8_read_21 : decode cX8_read 21 = .ok (.iaload, 1) := by decide +kernel
theorem dX8_read_22 : decode cX8_read 22 = .ok (.aload_n 0, 1) := by decide +kernel
theorem dX8_read_23 : decode cX8_read 23 = .ok (.getfield 132, 3) := by decide +kernel
theorem dX8_read_26 : decode cX8_read 26 = .ok (.iadd, 1) := by decide +kernel
theorem dX8_read_27 : decode cX8_read 27 = .ok (.bipush 40, 2) := by decide +kernel
theorem dX8_read_29 : decode cX8_read 29 = .ok (.if_icmp .le 6, 3) := by decide +kernel
theorem dX8_read_32 : decode cX8_read 32 = .ok (.bipush (-3), 2) := by decide +kernel
theorem dX8_read_34 : decode cX8_read 34 = .ok (.ireturn, 1) := by decide +kernel
theorem dX8_read_35 : decode cX8_read 35 = .ok (.aload_n 0, 1) := by decide +kernel
theorem dX8_read_36 : decode cX8_read 36 = .ok (.invokevirtual 43, 3) := by decide +kernel
theorem dX8_read_39 : decode cX8_read 39 = .ok (.iconst 0, 1) := by decide +kernel
theorem dX8_read_40 : decode cX8_read 40 = .ok (.istore_n 1, 1) := by decide +kernel
theorem dX8_read_41 : decode cX8_read 41 = .ok (.iload_n 1, 1) := by decide +kernel
theorem dX8_read_42 : decode cX8_read 42 = .ok (.aload_n 0, 1) := by decide +kernel
theorem dX8_read_43 : decode cX8_read 43 = .ok (.getfield 132, 3) := by decide +kernel
theorem dX8_read_46 : decode cX8_read 46 = .ok (.if_icmp .ge 14, 3) := by decide +kernel
theorem dX8_read_49 : decode cX8_read 49 = .ok (.aload_n 0, 1) := by decide +kernel
theorem dX8_read_50 : decode cX8_read 50 = .ok (.iload_n 1, 1) := by decide +kernel
theorem dX8_read_51 : decode cX8_read 51 = .ok (.invokevirtual 148, 3) := by decide +kernel
theorem dX8_read_54 : decode cX8_read 54 = .ok (.iinc 1 1, 3) := by decide +kernel
theorem dX8_read_57 : decode cX8_read 57 = .ok (.goto (-16), 3) := by decide +kernel
theorem dX8_read_60 : decode cX8_read 60 = .ok (.aload_n 0, 1) := by decide +kernel
theorem dX8_read_61 : decode cX8_read 61 = .ok (.getfield 132, 3) := by decide +kernel
theorem dX8_read_64 : decode cX8_read 64 = .ok (.ireturn, 1) := by decide +kernel
theorem dX8_rankInHopper_0 : decode cX8_rankInHopper 0 = .ok (.bipush (-5), 2) := by decide +kernel
theorem dX8_rankInHopper_2 : decode cX8_rankInHopper 2 = .ok (.istore_n 2, 1) := by decide +kernel
theorem dX8_rankInHopper_3 : decode cX8_rankInHopper 3 = .ok (.iconst 0, 1) := by decide +kernel
theorem dX8_rankInHopper_4 : decode cX8_rankInHopper 4 = .ok (.istore_n 3, 1) := by decide +kernel
theorem dX8_rankInHopper_5 : decode cX8_rankInHopper 5 = .ok (.iload_n 3, 1) := by decide +kernel
theorem dX8_rankInHopper_6 : decode cX8_rankInHopper 6 = .ok (.aload_n 0, 1) := by decide +kernel
theorem dX8_rankInHopper_7 : decode cX8_rankInHopper 7 = .ok (.getfield 7, 3) := by decide +kernel
theorem dX8_rankInHopper_10 : decode cX8_rankInHopper 10 = .ok (.bipush 14, 2) := by decide +kernel
theorem dX8_rankInHopper_12 : decode cX8_rankInHopper 12 = .ok (.iaload, 1) := by decide +kernel
theorem dX8_rankInHopper_13 : decode cX8_rankInHopper 13 = .ok (.if_icmp .ge 28, 3) := by decide +kernel
theorem dX8_rankInHopper_16 : decode cX8_rankInHopper 16 = .ok (.aload_n 0, 1) := by decide +kernel
theorem dX8_rankInHopper_17 : decode cX8_rankInHopper 17 = .ok (.getfield 7, 3) := by decide +kernel
theorem dX8_rankInHopper_20 : decode cX8_rankInHopper 20 = .ok (.bipush 15, 2) := by decide +kernel
theorem dX8_rankInHopper_22 : decode cX8_rankInHopper 22 = .ok (.iload_n 3, 1) := by decide +kernel
theorem dX8_rankInHopper_23 : decode cX8_rankInHopper 23 = .ok (.iadd, 1) := by decide +kernel
theorem dX8_rankInHopper_24 : decode cX8_rankInHopper 24 = .ok (.iaload, 1) := by decide +kernel
theorem dX8_rankInHopper_25 : decode cX8_rankInHopper 25 = .ok (.iload_n 1, 1) := by decide +kernel
theorem dX8_rankInHopper_26 : decode cX8_rankInHopper 26 = .ok (.if_icmp .ne 7, 3) := by decide +kernel
theorem dX8_rankInHopper_29 : decode cX8_rankInHopper 29 = .ok (.iload_n 3, 1) := by decide +kernel
theorem dX8_rankInHopper_30 : decode cX8_rankInHopper 30 = .ok (.goto 4, 3) := by decide +kernel
theorem dX8_rankInHopper_33 : decode cX8_rankInHopper 33 = .ok (.iload_n 2, 1) := by decide +kernel
theorem dX8_rankInHopper_34 : decode cX8_rankInHopper 34 = .ok (.istore_n 2, 1) := by decide +kernel
theorem dX8_rankInHopper_35 : decode cX8_rankInHopper 35 = .ok (.iinc 3 1, 3) := by decide +kernel
theorem dX8_rankInHopper_38 : decode cX8_rankInHopper 38 = .ok (.goto (-33), 3) := by decide +kernel
theorem dX8_rankInHopper_41 : decode cX8_rankInHopper 41 = .ok (.iload_n 2, 1) := by decide +kernel
theorem dX8_rankInHopper_42 : decode cX8_rankInHopper 42 = .ok (.ireturn, 1) := by decide +kernel
set_option maxRecDepth 20000 in
theorem ggX8_button_X8_isButton : GoodIn wsX8_button wsX8_isButton := goodIn_r _ [5, 6, 7, 8, 4, 9, 18, 19, 20, 21, 22, 23, 24, 25, 26, 27, 28, 29, 30] (by decide +kernel) (by decide +kernel)
set_option maxRecDepth 20000 in
theorem gX8_button_X8_isButton : GoodIn wsX8_button (wsV RX8 111 RX8 yX8_isButton wsX8_isButton) := goodIn_app (goodIn_of _ (by decide +kernel)) ggX8_button_X8_isButton
set_option maxRecDepth 20000 in
theorem ggX8_button_X8_of : GoodIn wsX8_button wsX8_of := goodIn_r _ [13, 6, 18, 19, 20, 21, 22, 23, 24, 25, 26, 27, 28, 29, 30] (by decide +kernel) (by decide +kernel)
set_option maxRecDepth 20000 in
theorem gX8_button_X8_of : GoodIn wsX8_button (wsV RX8 46 RX8 yX8_of wsX8_of) := goodIn_app (goodIn_of _ (by decide +kernel)) ggX8_button_X8_of
set_option maxRecDepth 20000 in
theorem ggX8_button_X8_rankInHopper : GoodIn wsX8_button wsX8_rankInHopper := goodIn_r _ [17, 6, 18, 19, 20, 21, 22, 23, 24, 25, 26, 27, 28, 29, 30] (by decide +kernel) (by decide +kernel)
set_option maxRecDepth 20000 in
theorem gX8_button_X8_rankInHopper : GoodIn wsX8_button (wsV RX8 151 RX8 yX8_rankInHopper wsX8_rankInHopper) := goodIn_app (goodIn_of _ (by decide +kernel)) ggX8_button_X8_rankInHopper
theorem dX8_button_0 : decode cX8_button 0 = .ok (.aload_n 0, 1) := by decide +kernel
theorem dX8_button_1 : decode cX8_button 1 = .ok (.iload_n 1, 1) := by decide +kernel
theorem dX8_button_2 : decode cX8_button 2 = .ok (.invokevirtual 111, 3) := by decide +kernel
theorem dX8_button_5 : decode cX8_button 5 = .ok (.ifCond .ne 5, 3) := by decide +kernel
theorem dX8_button_8 : decode cX8_button 8 = .ok (.iconst (-1), 1) := by decide +kernel
theorem dX8_button_9 : decode cX8_button 9 = .ok (.ireturn, 1) := by decide +kernel
theorem dX8_button_10 : decode cX8_button 10 = .ok (.iload_n 2, 1) := by decide +kernel
theorem dX8_button_11 : decode cX8_button 11 = .ok (.tableswitch 82 0 9 #[53, 53, 53, 53, 53, 53, 53, 60, 66, 74], 53) := by decide +kernel
theorem dX8_button_64 : decode cX8_button 64 = .ok (.aload_n 0, 1) := by decide +kernel
theorem dX8_button_65 : decode cX8_button 65 = .ok (.iload_n 1, 1) := by decide +kernel
theorem dX8_button_66 : decode cX8_button 66 = .ok (.iload_n 2, 1) := by decide +kernel
theorem dX8_button_67 : decode cX8_button 67 = .ok (.invokevirtual 46, 3) := by decide +kernel
theorem dX8_button_70 : decode cX8_button 70 = .ok (.ireturn, 1) := by decide +kernel
theorem dX8_button_71 : decode cX8_button 71 = .ok (.aload_n 0, 1) := by decide +kernel
theorem dX8_button_72 : decode cX8_button 72 = .ok (.iload_n 1, 1) := by decide +kernel
theorem dX8_button_73 : decode cX8_button 73 = .ok (.invokevirtual 151, 3) := by decide +kernel
theorem dX8_button_76 : decode cX8_button 76 = .ok (.ireturn, 1) := by decide +kernel
theorem dX8_button_77 : decode cX8_button 77 = .ok (.aload_n 0, 1) := by decide +kernel
theorem dX8_button_78 : decode cX8_button 78 = .ok (.iload_n 1, 1) := by decide +kernel
theorem dX8_button_79 : decode cX8_button 79 = .ok (.bipush 7, 2) := by decide +kernel
theorem dX8_button_81 : decode cX8_button 81 = .ok (.invokevirtual 46, 3) := by decide +kernel
theorem dX8_button_84 : decode cX8_button 84 = .ok (.ireturn, 1) := by decide +kernel
theorem dX8_button_85 : decode cX8_button 85 = .ok (.aload_n 0, 1) := by decide +kernel
theorem dX8_button_86 : decode cX8_button 86 = .ok (.iload_n 1, 1) := by decide +kernel
theorem dX8_button_87 : decode cX8_button 87 = .ok (.bipush 8, 2) := by decide +kernel
theorem dX8_button_89 : decode cX8_button 89 = .ok (.invokevirtual 46, 3) := by decide +kernel
theorem dX8_button_92 : decode cX8_button 92 = .ok (.ireturn, 1) := by decide +kernel
theorem dX8_button_93 : decode cX8_button 93 = .ok (.bipush (-2), 2) := by decide +kernel
theorem dX8_button_95 : decode cX8_button 95 = .ok (.ireturn, 1) := by decide +kernel
set_option maxRecDepth 20000 in
theorem ggX8_inBin_X8_isBin : GoodIn wsX8_inBin wsX8_isBin := goodIn_r _ [6, 7, 8, 5, 9] (by decide +kernel) (by decide +kernel)
set_option maxRecDepth 20000 in
theorem gX8_inBin_X8_isBin : GoodIn wsX8_inBin (va_wsS RX8 89 yX8_isBin wsX8_isBin) := goodIn_app (goodIn_of _ (by decide +kernel)) ggX8_inBin_X8_isBin
set_option maxRecDepth 20000 in
theorem ggX8_inBin_X8_order : GoodIn wsX8_inBin wsX8_order := goodIn_r _ [13, 1, 14, 2, 15, 16, 17, 5, 18, 19, 20, 21, 22, 23, 24, 25, 26, 27, 28, 29, 30, 31, 32, 33, 34, 35] (by decide +kernel) (by decide +kernel)
set_option maxRecDepth 20000 in
theorem gX8_inBin_X8_order : GoodIn wsX8_inBin (wsV RX8 96 RX8 yX8_order wsX8_order) := goodIn_app (goodIn_of _ (by decide +kernel)) ggX8_inBin_X8_order
theorem dX8_inBin_0 : decode cX8_inBin 0 = .ok (.iload_n 1, 1) := by decide +kernel
theorem dX8_inBin_1 : decode cX8_inBin 1 = .ok (.invokestatic 89, 3) := by decide +kernel
theorem dX8_inBin_4 : decode cX8_inBin 4 = .ok (.ifCond .ne 5, 3) := by decide +kernel
theorem dX8_inBin_7 : decode cX8_inBin 7 = .ok (.iconst (-1), 1) := by decide +kernel
theorem dX8_inBin_8 : decode cX8_inBin 8 = .ok (.ireturn, 1) := by decide +kernel
theorem dX8_inBin_9 : decode cX8_inBin 9 = .ok (.iload_n 2, 1) := by decide +kernel
theorem dX8_inBin_10 : decode cX8_inBin 10 = .ok (.ifCond .ge 6, 3) := by decide +kernel
theorem dX8_inBin_13 : decode cX8_inBin 13 = .ok (.bipush (-2), 2) := by decide +kernel
theorem dX8_inBin_15 : decode cX8_inBin 15 = .ok (.ireturn, 1) := by decide +kernel
theorem dX8_inBin_16 : decode cX8_inBin 16 = .ok (.aload_n 0, 1) := by decide +kernel
theorem dX8_inBin_17 : decode cX8_inBin 17 = .ok (.iload_n 1, 1) := by decide +kernel
theorem dX8_inBin_18 : decode cX8_inBin 18 = .ok (.invokevirtual 96, 3) := by decide +kernel
theorem dX8_inBin_21 : decode cX8_inBin 21 = .ok (.iload_n 2, 1) := by decide +kernel
theorem dX8_inBin_22 : decode cX8_inBin 22 = .ok (.aload_n 0, 1) := by decide +kernel
theorem dX8_inBin_23 : decode cX8_inBin 23 = .ok (.getfield 93, 3) := by decide +kernel
theorem dX8_inBin_26 : decode cX8_inBin 26 = .ok (.if_icmp .ge 12, 3) := by decide +kernel
theorem dX8_inBin_29 : decode cX8_inBin 29 = .ok (.aload_n 0, 1) := by decide +kernel
theorem dX8_inBin_30 : decode cX8_inBin 30 = .ok (.getfield 22, 3) := by decide +kernel
theorem dX8_inBin_33 : decode cX8_inBin 33 = .ok (.iload_n 2, 1) := by decide +kernel
theorem dX8_inBin_34 : decode cX8_inBin 34 = .ok (.iaload, 1) := by decide +kernel
theorem dX8_inBin_35 : decode cX8_inBin 35 = .ok (.goto 5, 3) := by decide +kernel
theorem dX8_inBin_38 : decode cX8_inBin 38 = .ok (.bipush (-5), 2) := by decide +kernel
theorem dX8_inBin_40 : decode cX8_inBin 40 = .ok (.ireturn, 1) := by decide +kernel
set_option maxRecDepth 20000 in
theorem ggX8_sumOf_X8_order : GoodIn wsX8_sumOf wsX8_order := goodIn_r _ [7, 1, 8, 2, 9, 10, 11, 6, 12, 13, 14, 15, 16, 17, 18, 19, 20, 21, 22, 23, 24, 25, 26, 27, 28, 29] (by decide +kernel) (by decide +kernel)
set_option maxRecDepth 20000 in
theorem gX8_sumOf_X8_order : GoodIn wsX8_sumOf (wsV RX8 96 RX8 yX8_order wsX8_order) := goodIn_app (goodIn_of _ (by decide +kernel)) ggX8_sumOf_X8_order
set_option maxRecDepth 20000 in
theorem ggX8_sumOf_X8_of : GoodIn wsX8_sumOf wsX8_of := goodIn_r _ [16, 8, 17, 18, 19, 20, 21, 22, 23, 24, 25, 26, 27, 28, 29] (by decide +kernel) (by decide +kernel)
set_option maxRecDepth 20000 in
theorem gX8_sumOf_X8_of : GoodIn wsX8_sumOf (wsV RX8 46 RX8 yX8_of wsX8_of) := goodIn_app (goodIn_of _ (by decide +kernel)) ggX8_sumOf_X8_of
theorem dX8_sumOf_0 : decode cX8_sumOf 0 = .ok (.iconst 0, 1) := by decide +kernel
theorem dX8_sumOf_1 : decode cX8_sumOf 1 = .ok (.istore_n 2, 1) := by decide +kernel
theorem dX8_sumOf_2 : decode cX8_sumOf 2 = .ok (.aload_n 0, 1) := by decide +kernel
theorem dX8_sumOf_3 : decode cX8_sumOf 3 = .ok (.iload_n 1, 1) := by decide +kernel
theorem dX8_sumOf_4 : decode cX8_sumOf 4 = .ok (.invokevirtual 96, 3) := by decide +kernel
theorem dX8_sumOf_7 : decode cX8_sumOf 7 = .ok (.iconst 0, 1) := by decide +kernel
theorem dX8_sumOf_8 : decode cX8_sumOf 8 = .ok (.istore_n 3, 1) := by decide +kernel
theorem dX8_sumOf_9 : decode cX8_sumOf 9 = .ok (.iload_n 3, 1) := by decide +kernel
theorem dX8_sumOf_10 : decode cX8_sumOf 10 = .ok (.aload_n 0, 1) := by decide +kernel
theorem dX8_sumOf_11 : decode cX8_sumOf 11 = .ok (.getfield 93, 3) := by decide +kernel
theorem dX8_sumOf_14 : decode cX8_sumOf 14 = .ok (.if_icmp .ge 23, 3) := by decide +kernel
theorem dX8_sumOf_17 : decode cX8_sumOf 17 = .ok (.iload_n 2, 1) := by decide +kernel
theorem dX8_sumOf_18 : decode cX8_sumOf 18 = .ok (.aload_n 0, 1) := by decide +kernel
theorem dX8_sumOf_19 : decode cX8_sumOf 19 = .ok (.aload_n 0, 1) := by decide +kernel
theorem dX8_sumOf_20 : decode cX8_sumOf 20 = .ok (.getfield 22, 3) := by decide +kernel
theorem dX8_sumOf_23 : decode cX8_sumOf 23 = .ok (.iload_n 3, 1) := by decide +kernel
theorem dX8_sumOf_24 : decode cX8_sumOf 24 = .ok (.iaload, 1) := by decide +kernel
theorem dX8_sumOf_25 : decode cX8_sumOf 25 = .ok (.iconst 4, 1) := by decide +kernel
theorem dX8_sumOf_26 : decode cX8_sumOf 26 = .ok (.invokevirtual 46, 3) := by decide +kernel
theorem dX8_sumOf_29 : decode cX8_sumOf 29 = .ok (.iadd, 1) := by decide +kernel
theorem dX8_sumOf_30 : decode cX8_sumOf 30 = .ok (.istore_n 2, 1) := by decide +kernel
theorem dX8_sumOf_31 : decode cX8_sumOf 31 = .ok (.iinc 3 1, 3) := by decide +kernel
theorem dX8_sumOf_34 : decode cX8_sumOf 34 = .ok (.goto (-25), 3) := by decide +kernel
theorem dX8_sumOf_37 : decode cX8_sumOf 37 = .ok (.iload_n 2, 1) := by decide +kernel
theorem dX8_sumOf_38 : decode cX8_sumOf 38 = .ok (.ireturn, 1) := by decide +kernel
set_option maxRecDepth 20000 in
theorem ggX8_mostAlike_X8_firstAlike : GoodIn wsX8_mostAlike wsX8_firstAlike := goodIn_r _ [5, 6, 7, 8, 9, 10, 4, 11, 12, 13, 14, 15, 16, 17, 18, 19, 20, 21, 22, 23, 24, 25, 26, 27, 28, 29, 30, 31, 32, 33, 34, 35, 36, 37] (by decide +kernel) (by decide +kernel)
set_option maxRecDepth 20000 in
theorem gX8_mostAlike_X8_firstAlike : GoodIn wsX8_mostAlike (wsV RX8 102 RX8 yX8_firstAlike wsX8_firstAlike) := goodIn_app (goodIn_of _ (by decide +kernel)) ggX8_mostAlike_X8_firstAlike
theorem dX8_mostAlike_0 : decode cX8_mostAlike 0 = .ok (.iconst 0, 1) := by decide +kernel
theorem dX8_mostAlike_1 : decode cX8_mostAlike 1 = .ok (.istore_n 2, 1) := by decide +kernel
theorem dX8_mostAlike_2 : decode cX8_mostAlike 2 = .ok (.iconst 1, 1) := by decide +kernel
theorem dX8_mostAlike_3 : decode cX8_mostAlike 3 = .ok (.istore_n 3, 1) := by decide +kernel
theorem dX8_mostAlike_4 : decode cX8_mostAlike 4 = .ok (.iload_n 3, 1) := by decide +kernel
theorem dX8_mostAlike_5 : decode cX8_mostAlike 5 = .ok (.bipush 10, 2) := by decide +kernel
theorem dX8_mostAlike_7 : decode cX8_mostAlike 7 = .ok (.if_icmp .ge 26, 3) := by decide +kernel
theorem dX8_mostAlike_10 : decode cX8_mostAlike 10 = .ok (.aload_n 0, 1) := by decide +kernel
theorem dX8_mostAlike_11 : decode cX8_mostAlike 11 = .ok (.iload_n 1, 1) := by decide +kernel
theorem dX8_mostAlike_12 : decode cX8_mostAlike 12 = .ok (.iload_n 3, 1) := by decide +kernel
theorem dX8_mostAlike_13 : decode cX8_mostAlike 13 = .ok (.invokevirtual 102, 3) := by decide +kernel
theorem dX8_mostAlike_16 : decode cX8_mostAlike 16 = .ok (.bipush (-5), 2) := by decide +kernel
theorem dX8_mostAlike_18 : decode cX8_mostAlike 18 = .ok (.if_icmp .eq 7, 3) := by decide +kernel
theorem dX8_mostAlike_21 : decode cX8_mostAlike 21 = .ok (.iload_n 3, 1) := by decide +kernel
theorem dX8_mostAlike_22 : decode cX8_mostAlike 22 = .ok (.goto 4, 3) := by decide +kernel
theorem dX8_mostAlike_25 : decode cX8_mostAlike 25 = .ok (.iload_n 2, 1) := by decide +kernel
theorem dX8_mostAlike_26 : decode cX8_mostAlike 26 = .ok (.istore_n 2, 1) := by decide +kernel
theorem dX8_mostAlike_27 : decode cX8_mostAlike 27 = .ok (.iinc 3 1, 3) := by decide +kernel
theorem dX8_mostAlike_30 : decode cX8_mostAlike 30 = .ok (.goto (-26), 3) := by decide +kernel
theorem dX8_mostAlike_33 : decode cX8_mostAlike 33 = .ok (.iload_n 2, 1) := by decide +kernel
theorem dX8_mostAlike_34 : decode cX8_mostAlike 34 = .ok (.ireturn, 1) := by decide +kernel
set_option maxRecDepth 20000 in
theorem ggX8_spreadOf_X8_order : GoodIn wsX8_spreadOf wsX8_order := goodIn_r _ [6, 1, 7, 8, 9, 10, 11, 5, 12, 13, 14, 15, 16, 21, 22, 23, 24, 25, 26, 27, 28, 29, 30, 31, 32, 33] (by decide +kernel) (by decide +kernel)
set_option maxRecDepth 20000 in
theorem gX8_spreadOf_X8_order : GoodIn wsX8_spreadOf (wsV RX8 96 RX8 yX8_order wsX8_order) := goodIn_app (goodIn_of _ (by decide +kernel)) ggX8_spreadOf_X8_order
set_option maxRecDepth 20000 in
theorem ggX8_spreadOf_X8_spread : GoodIn wsX8_spreadOf wsX8_spread := goodIn_r _ [20, 8, 13, 14, 15, 5, 16, 7, 21, 22, 23, 24, 25, 26, 27, 28, 29, 30, 31, 32, 33] (by decide +kernel) (by decide +kernel)
set_option maxRecDepth 20000 in
theorem gX8_spreadOf_X8_spread : GoodIn wsX8_spreadOf (wsV RX8 99 RX8 yX8_spread wsX8_spread) := goodIn_app (goodIn_of _ (by decide +kernel)) ggX8_spreadOf_X8_spread
theorem dX8_spreadOf_0 : decode cX8_spreadOf 0 = .ok (.aload_n 0, 1) := by decide +kernel
theorem dX8_spreadOf_1 : decode cX8_spreadOf 1 = .ok (.iload_n 1, 1) := by decide +kernel
theorem dX8_spreadOf_2 : decode cX8_spreadOf 2 = .ok (.invokevirtual 96, 3) := by decide +kernel
theorem dX8_spreadOf_5 : decode cX8_spreadOf 5 = .ok (.aload_n 0, 1) := by decide +kernel
theorem dX8_spreadOf_6 : decode cX8_spreadOf 6 = .ok (.getfield 93, 3) := by decide +kernel
theorem dX8_spreadOf_9 : decode cX8_spreadOf 9 = .ok (.ifCond .ne 7, 3) := by decide +kernel
theorem dX8_spreadOf_12 : decode cX8_spreadOf 12 = .ok (.iconst 0, 1) := by decide +kernel
theorem dX8_spreadOf_13 : decode cX8_spreadOf 13 = .ok (.goto 12, 3) := by decide +kernel
theorem dX8_spreadOf_16 : decode cX8_spreadOf 16 = .ok (.aload_n 0, 1) := by decide +kernel
theorem dX8_spreadOf_17 : decode cX8_spreadOf 17 = .ok (.iconst 0, 1) := by decide +kernel
theorem dX8_spreadOf_18 : decode cX8_spreadOf 18 = .ok (.aload_n 0, 1) := by decide +kernel
theorem dX8_spreadOf_19 : decode cX8_spreadOf 19 = .ok (.getfield 93, 3) := by decide +kernel
theorem dX8_spreadOf_22 : decode cX8_spreadOf 22 = .ok (.invokevirtual 99, 3) := by decide +kernel
theorem dX8_spreadOf_25 : decode cX8_spreadOf 25 = .ok (.ireturn, 1) := by decide +kernel
set_option maxRecDepth 20000 in
theorem ggX8_bin_X8_isBin : GoodIn wsX8_bin wsX8_isBin := goodIn_r _ [5, 6, 7, 4, 8] (by decide +kernel) (by decide +kernel)
set_option maxRecDepth 20000 in
theorem gX8_bin_X8_isBin : GoodIn wsX8_bin (va_wsS RX8 89 yX8_isBin wsX8_isBin) := goodIn_app (goodIn_of _ (by decide +kernel)) ggX8_bin_X8_isBin
set_option maxRecDepth 20000 in
theorem ggX8_bin_X8_manyIn : GoodIn wsX8_bin wsX8_manyIn := goodIn_r _ [12, 1, 13, 14, 15, 4, 16, 17, 18, 19, 20, 47, 48, 49, 50, 51, 52, 53, 54, 55, 56, 57, 58, 59] (by decide +kernel) (by decide +kernel)
set_option maxRecDepth 20000 in
theorem gX8_bin_X8_manyIn : GoodIn wsX8_bin (wsV RX8 79 RX8 yX8_manyIn wsX8_manyIn) := goodIn_app (goodIn_of _ (by decide +kernel)) ggX8_bin_X8_manyIn
set_option maxRecDepth 20000 in
theorem ggX8_bin_X8_sumOf : GoodIn wsX8_bin wsX8_sumOf := goodIn_r _ [24, 25, 26, 27, 28, 29, 4, 30, 1, 13, 14, 15, 16, 17, 18, 19, 20, 47, 48, 49, 50, 51, 52, 53, 54, 55, 56, 57, 58, 59] (by decide +kernel) (by decide +kernel)
set_option maxRecDepth 20000 in
theorem gX8_bin_X8_sumOf : GoodIn wsX8_bin (wsV RX8 154 RX8 yX8_sumOf wsX8_sumOf) := goodIn_app (goodIn_of _ (by decide +kernel)) ggX8_bin_X8_sumOf
set_option maxRecDepth 20000 in
theorem ggX8_bin_X8_mostAlike : GoodIn wsX8_bin wsX8_mostAlike := goodIn_r _ [34, 35, 36, 37, 4, 38, 25, 1, 27, 28, 29, 30, 26, 13, 14, 15, 16, 17, 18, 19, 20, 39, 40, 41, 42, 47, 48, 49, 50, 51, 52, 53, 54, 55, 56, 57, 58, 59] (by decide +kernel) (by decide +kernel)
set_option maxRecDepth 20000 in
theorem gX8_bin_X8_mostAlike : GoodIn wsX8_bin (wsV RX8 157 RX8 yX8_mostAlike wsX8_mostAlike) := goodIn_app (goodIn_of _ (by decide +kernel)) ggX8_bin_X8_mostAlike
set_option maxRecDepth 20000 in
theorem ggX8_bin_X8_spreadOf : GoodIn wsX8_bin wsX8_spreadOf := goodIn_r _ [46, 25, 27, 28, 29, 4, 30, 1, 26, 13, 14, 15, 16, 17, 18, 19, 20, 39, 40, 41, 42, 47, 48, 49, 50, 51, 52, 53, 54, 55, 56, 57, 58, 59] (by decide +kernel) (by decide +kernel)
set_option maxRecDepth 20000 in
theorem gX8_bin_X8_spreadOf : GoodIn wsX8_bin (wsV RX8 160 RX8 yX8_spreadOf wsX8_spreadOf) := goodIn_app (goodIn_of _ (by decide +kernel)) ggX8_bin_X8_spreadOf
theorem dX8_bin_0 : decode cX8_bin 0 = .ok (.iload_n 1, 1) := by decide +kernel
theorem dX8_bin_1 : decode cX8_bin 1 = .ok (.invokestatic 89, 3) := by decide +kernel
theorem dX8_bin_4 : decode cX8_bin 4 = .ok (.ifCond .ne 5, 3) := by decide +kernel
theorem dX8_bin_7 : decode cX8_bin 7 = .ok (.iconst (-1), 1) := by decide +kernel
theorem dX8_bin_8 : decode cX8_bin 8 = .ok (.ireturn, 1) := by decide +kernel
theorem dX8_bin_9 : decode cX8_bin 9 = .ok (.aload_n 0, 1) := by decide +kernel
theorem dX8_bin_10 : decode cX8_bin 10 = .ok (.iload_n 1, 1) := by decide +kernel
theorem dX8_bin_11 : decode cX8_bin 11 = .ok (.invokevirtual 79, 3) := by decide +kernel
theorem dX8_bin_14 : decode cX8_bin 14 = .ok (.istore_n 3, 1) := by decide +kernel
theorem dX8_bin_15 : decode cX8_bin 15 = .ok (.iload_n 2, 1) := by decide +kernel
theorem dX8_bin_16 : decode cX8_bin 16 = .ok (.tableswitch 81 0 4 #[36, 38, 63, 69, 75], 36) := by decide +kernel
theorem dX8_bin_52 : decode cX8_bin 52 = .ok (.iload_n 3, 1) := by decide +kernel
theorem dX8_bin_53 : decode cX8_bin 53 = .ok (.ireturn, 1) := by decide +kernel
theorem dX8_bin_54 : decode cX8_bin 54 = .ok (.aload_n 0, 1) := by decide +kernel
theorem dX8_bin_55 : decode cX8_bin 55 = .ok (.getfield 7, 3) := by decide +kernel
theorem dX8_bin_58 : decode cX8_bin 58 = .ok (.bipush 6, 2) := by decide +kernel
theorem dX8_bin_60 : decode cX8_bin 60 = .ok (.iaload, 1) := by decide +kernel
theorem dX8_bin_61 : decode cX8_bin 61 = .ok (.iload_n 3, 1) := by decide +kernel
theorem dX8_bin_62 : decode cX8_bin 62 = .ok (.if_icmp .le 15, 3) := by decide +kernel
theorem dX8_bin_65 : decode cX8_bin 65 = .ok (.aload_n 0, 1) := by decide +kernel
theorem dX8_bin_66 : decode cX8_bin 66 = .ok (.getfield 7, 3) := by decide +kernel
theorem dX8_bin_69 : decode cX8_bin 69 = .ok (.bipush 6, 2) := by decide +kernel
theorem dX8_bin_71 : decode cX8_bin 71 = .ok (.iaload, 1) := by decide +kernel
theorem dX8_bin_72 : decode cX8_bin 72 = .ok (.iload_n 3, 1) := by decide +kernel
theorem dX8_bin_73 : decode cX8_bin 73 = .ok (.isub, 1) := by decide +kernel
theorem dX8_bin_74 : decode cX8_bin 74 = .ok (.goto 4, 3) := by decide +kernel
theorem dX8_bin_77 : decode cX8_bin 77 = .ok (.iconst 0, 1) := by decide +kernel
theorem dX8_bin_78 : decode cX8_bin 78 = .ok (.ireturn, 1) := by decide +kernel
theorem dX8_bin_79 : decode cX8_bin 79 = .ok (.aload_n 0, 1) := by decide +kernel
theorem dX8_bin_80 : decode cX8_bin 80 = .ok (.iload_n 1, 1) := by decide +kernel
theorem dX8_bin_81 : decode cX8_bin 81 = .ok (.invokevirtual 154, 3) := by decide +kernel
theorem dX8_bin_84 : decode cX8_bin 84 = .ok (.ireturn, 1) := by decide +kernel
theorem dX8_bin_85 : decode cX8_bin 85 = .ok (.aload_n 0, 1) := by decide +kernel
theorem dX8_bin_86 : decode cX8_bin 86 = .ok (.iload_n 1, 1) := by decide +kernel
theorem dX8_bin_87 : decode cX8_bin 87 = .ok (.invokevirtual 157, 3) := by decide +kernel
theorem dX8_bin_90 : decode cX8_bin 90 = .ok (.ireturn, 1) := by decide +kernel
theorem dX8_bin_91 : decode cX8_bin 91 = .ok (.aload_n 0, 1) := by decide +kernel
theorem dX8_bin_92 : decode cX8_bin 92 = .ok (.iload_n 1, 1) := by decide +kernel
theorem dX8_bin_93 : decode cX8_bin 93 = .ok (.invokevirtual 160, 3) := by decide +kernel
theorem dX8_bin_96 : decode cX8_bin 96 = .ok (.ireturn, 1) := by decide +kernel
theorem dX8_bin_97 : decode cX8_bin 97 = .ok (.bipush (-2), 2) := by decide +kernel
theorem dX8_bin_99 : decode cX8_bin 99 = .ok (.ireturn, 1) := by decide +kernel
set_option maxRecDepth 20000 in
theorem ggX8_chips_X8_of : GoodIn wsX8_chips wsX8_of := goodIn_r _ [6, 1, 7, 8, 9, 10, 11, 12, 13, 14, 15, 16, 17, 18, 19] (by decide +kernel) (by decide +kernel)
set_option maxRecDepth 20000 in
theorem gX8_chips_X8_of : GoodIn wsX8_chips (wsV RX8 46 RX8 yX8_of wsX8_of) := goodIn_app (goodIn_of _ (by decide +kernel)) ggX8_chips_X8_of
theorem dX8_chips_0 : decode cX8_chips 0 = .ok (.iconst 0, 1) := by decide +kernel
theorem dX8_chips_1 : decode cX8_chips 1 = .ok (.istore_n 1, 1) := by decide +kernel
theorem dX8_chips_2 : decode cX8_chips 2 = .ok (.iconst 0, 1) := by decide +kernel
theorem dX8_chips_3 : decode cX8_chips 3 = .ok (.istore_n 2, 1) := by decide +kernel
theorem dX8_chips_4 : decode cX8_chips 4 = .ok (.iload_n 2, 1) := by decide +kernel
theorem dX8_chips_5 : decode cX8_chips 5 = .ok (.aload_n 0, 1) := by decide +kernel
theorem dX8_chips_6 : decode cX8_chips 6 = .ok (.getfield 7, 3) := by decide +kernel
theorem dX8_chips_9 : decode cX8_chips 9 = .ok (.bipush 13, 2) := by decide +kernel
theorem dX8_chips_11 : decode cX8_chips 11 = .ok (.iaload, 1) := by decide +kernel
theorem dX8_chips_12 : decode cX8_chips 12 = .ok (.if_icmp .ge 18, 3) := by decide +kernel
theorem dX8_chips_15 : decode cX8_chips 15 = .ok (.iload_n 1, 1) := by decide +kernel
theorem dX8_chips_16 : decode cX8_chips 16 = .ok (.aload_n 0, 1) := by decide +kernel
theorem dX8_chips_17 : decode cX8_chips 17 = .ok (.iload_n 2, 1) := by decide +kernel
theorem dX8_chips_18 : decode cX8_chips 18 = .ok (.iconst 3, 1) := by decide +kernel
theorem dX8_chips_19 : decode cX8_chips 19 = .ok (.invokevirtual 46, 3) := by decide +kernel
theorem dX8_chips_22 : decode cX8_chips 22 = .ok (.iadd, 1) := by decide +kernel
theorem dX8_chips_23 : decode cX8_chips 23 = .ok (.istore_n 1, 1) := by decide +kernel
theorem dX8_chips_24 : decode cX8_chips 24 = .ok (.iinc 2 1, 3) := by decide +kernel
theorem dX8_chips_27 : decode cX8_chips 27 = .ok (.goto (-23), 3) := by decide +kernel
theorem dX8_chips_30 : decode cX8_chips 30 = .ok (.iload_n 1, 1) := by decide +kernel
theorem dX8_chips_31 : decode cX8_chips 31 = .ok (.ireturn, 1) := by decide +kernel
set_option maxRecDepth 20000 in
theorem ggX8_total_X8_in : GoodIn wsX8_total wsX8_in := goodIn_r _ [7] (by decide +kernel) (by decide +kernel)
set_option maxRecDepth 20000 in
theorem gX8_total_X8_in : GoodIn wsX8_total (va_wsS RX8 31 yX8_in wsX8_in) := goodIn_app (goodIn_of _ (by decide +kernel)) ggX8_total_X8_in
set_option maxRecDepth 20000 in
theorem ggX8_total_X8_at : GoodIn wsX8_total wsX8_at := goodIn_r _ [11, 1, 12, 13, 14, 6, 15, 20, 21, 22, 23, 24, 25, 26, 27, 28, 29, 30, 31, 32] (by decide +kernel) (by decide +kernel)
set_option maxRecDepth 20000 in
theorem gX8_total_X8_at : GoodIn wsX8_total (wsV RX8 69 RX8 yX8_at wsX8_at) := goodIn_app (goodIn_of _ (by decide +kernel)) ggX8_total_X8_at
set_option maxRecDepth 20000 in
theorem ggX8_total_X8_chips : GoodIn wsX8_total wsX8_chips := goodIn_r _ [19, 1, 12, 13, 14, 6, 15, 20, 21, 22, 23, 24, 25, 26, 27, 28, 29, 30, 31, 32] (by decide +kernel) (by decide +kernel)
set_option maxRecDepth 20000 in
theorem gX8_total_X8_chips : GoodIn wsX8_total (wsV RX8 163 RX8 yX8_chips wsX8_chips) := goodIn_app (goodIn_of _ (by decide +kernel)) ggX8_total_X8_chips
theorem dX8_total_0 : decode cX8_total 0 = .ok (.iload_n 1, 1) := by decide +kernel
theorem dX8_total_1 : decode cX8_total 1 = .ok (.iconst 0, 1) := by decide +kernel
theorem dX8_total_2 : decode cX8_total 2 = .ok (.bipush 23, 2) := by decide +kernel
theorem dX8_total_4 : decode cX8_total 4 = .ok (.invokestatic 31, 3) := by decide +kernel
theorem dX8_total_7 : decode cX8_total 7 = .ok (.ifCond .ne 6, 3) := by decide +kernel
theorem dX8_total_10 : decode cX8_total 10 = .ok (.bipush (-2), 2) := by decide +kernel
theorem dX8_total_12 : decode cX8_total 12 = .ok (.ireturn, 1) := by decide +kernel
theorem dX8_total_13 : decode cX8_total 13 = .ok (.iload_n 1, 1) := by decide +kernel
theorem dX8_total_14 : decode cX8_total 14 = .ok (.bipush 8, 2) := by decide +kernel
theorem dX8_total_16 : decode cX8_total 16 = .ok (.if_icmp .ge 10, 3) := by decide +kernel
theorem dX8_total_19 : decode cX8_total 19 = .ok (.aload_n 0, 1) := by decide +kernel
theorem dX8_total_20 : decode cX8_total 20 = .ok (.getfield 7, 3) := by decide +kernel
theorem dX8_total_23 : decode cX8_total 23 = .ok (.iload_n 1, 1) := by decide +kernel
theorem dX8_total_24 : decode cX8_total 24 = .ok (.iaload, 1) := by decide +kernel
theorem dX8_total_25 : decode cX8_total 25 = .ok (.ireturn, 1) := by decide +kernel
theorem dX8_total_26 : decode cX8_total 26 = .ok (.iload_n 1, 1) := by decide +kernel
theorem dX8_total_27 : decode cX8_total 27 = .ok (.bipush 8, 2) := by decide +kernel
theorem dX8_total_29 : decode cX8_total 29 = .ok (.if_icmp .le 18, 3) := by decide +kernel
theorem dX8_total_32 : decode cX8_total 32 = .ok (.iload_n 1, 1) := by decide +kernel
theorem dX8_total_33 : decode cX8_total 33 = .ok (.bipush 16, 2) := by decide +kernel
theorem dX8_total_35 : decode cX8_total 35 = .ok (.if_icmp .ge 12, 3) := by decide +kernel
theorem dX8_total_38 : decode cX8_total 38 = .ok (.aload_n 0, 1) := by decide +kernel
theorem dX8_total_39 : decode cX8_total 39 = .ok (.iload_n 1, 1) := by decide +kernel
theorem dX8_total_40 : decode cX8_total 40 = .ok (.bipush 9, 2) := by decide +kernel
theorem dX8_total_42 : decode cX8_total 42 = .ok (.isub, 1) := by decide +kernel
theorem dX8_total_43 : decode cX8_total 43 = .ok (.invokevirtual 69, 3) := by decide +kernel
theorem dX8_total_46 : decode cX8_total 46 = .ok (.ireturn, 1) := by decide +kernel
theorem dX8_total_47 : decode cX8_total 47 = .ok (.iload_n 1, 1) := by decide +kernel
theorem dX8_total_48 : decode cX8_total 48 = .ok (.lookupswitch 67 #[(8, 44), (21, 52), (22, 57), (23, 62)], 44) := by decide +kernel
theorem dX8_total_92 : decode cX8_total 92 = .ok (.aload_n 0, 1) := by decide +kernel
theorem dX8_total_93 : decode cX8_total 93 = .ok (.getfield 7, 3) := by decide +kernel
theorem dX8_total_96 : decode cX8_total 96 = .ok (.bipush 13, 2) := by decide +kernel
theorem dX8_total_98 : decode cX8_total 98 = .ok (.iaload, 1) := by decide +kernel
theorem dX8_total_99 : decode cX8_total 99 = .ok (.ireturn, 1) := by decide +kernel
theorem dX8_total_100 : decode cX8_total 100 = .ok (.aload_n 0, 1) := by decide +kernel
theorem dX8_total_101 : decode cX8_total 101 = .ok (.invokevirtual 163, 3) := by decide +kernel
theorem dX8_total_104 : decode cX8_total 104 = .ok (.ireturn, 1) := by decide +kernel
theorem dX8_total_105 : decode cX8_total 105 = .ok (.aload_n 0, 1) := by decide +kernel
theorem dX8_total_106 : decode cX8_total 106 = .ok (.getfield 35, 3) := by decide +kernel
theorem dX8_total_109 : decode cX8_total 109 = .ok (.ireturn, 1) := by decide +kernel
theorem dX8_total_110 : decode cX8_total 110 = .ok (.aload_n 0, 1) := by decide +kernel
theorem dX8_total_111 : decode cX8_total 111 = .ok (.getfield 120, 3) := by decide +kernel
theorem dX8_total_114 : decode cX8_total 114 = .ok (.ireturn, 1) := by decide +kernel
theorem dX8_total_115 : decode cX8_total 115 = .ok (.aload_n 0, 1) := by decide +kernel
theorem dX8_total_116 : decode cX8_total 116 = .ok (.getfield 7, 3) := by decide +kernel
theorem dX8_total_119 : decode cX8_total 119 = .ok (.bipush 8, 2) := by decide +kernel
theorem dX8_total_121 : decode cX8_total 121 = .ok (.iload_n 1, 1) := by decide +kernel
theorem dX8_total_122 : decode cX8_total 122 = .ok (.iadd, 1) := by decide +kernel
theorem dX8_total_123 : decode cX8_total 123 = .ok (.bipush 16, 2) := by decide +kernel
theorem dX8_total_125 : decode cX8_total 125 = .ok (.isub, 1) := by decide +kernel
theorem dX8_total_126 : decode cX8_total 126 = .ok (.iaload, 1) := by decide +kernel
theorem dX8_total_127 : decode cX8_total 127 = .ok (.ireturn, 1) := by decide +kernel
set_option maxRecDepth 20000 in
theorem ggX8_goesTo_X8_isButton : GoodIn wsX8_goesTo wsX8_isButton := goodIn_r _ [6, 1, 7, 8, 5, 9, 38, 39, 40, 41, 42, 43, 44, 45, 46, 47, 48, 49, 50] (by decide +kernel) (by decide +kernel)
set_option maxRecDepth 20000 in
theorem gX8_goesTo_X8_isButton : GoodIn wsX8_goesTo (wsV RX8 111 RX8 yX8_isButton wsX8_isButton) := goodIn_app (goodIn_of _ (by decide +kernel)) ggX8_goesTo_X8_isButton
set_option maxRecDepth 20000 in
theorem ggX8_goesTo_X8_of : GoodIn wsX8_goesTo wsX8_of := goodIn_r _ [13, 1, 38, 39, 40, 41, 42, 43, 44, 45, 46, 47, 48, 49, 50] (by decide +kernel) (by decide +kernel)
set_option maxRecDepth 20000 in
theorem gX8_goesTo_X8_of : GoodIn wsX8_goesTo (wsV RX8 46 RX8 yX8_of wsX8_of) := goodIn_app (goodIn_of _ (by decide +kernel)) ggX8_goesTo_X8_of
set_option maxRecDepth 20000 in
theorem ggX8_goesTo_X8_placeFor : GoodIn wsX8_goesTo wsX8_placeFor := goodIn_r _ [17, 1, 10, 11, 12, 5, 13, 38, 39, 40, 41, 42, 43, 44, 45, 46, 47, 48, 49, 50] (by decide +kernel) (by decide +kernel)
set_option maxRecDepth 20000 in
theorem gX8_goesTo_X8_placeFor : GoodIn wsX8_goesTo (wsV RX8 66 RX8 yX8_placeFor wsX8_placeFor) := goodIn_app (goodIn_of _ (by decide +kernel)) ggX8_goesTo_X8_placeFor
set_option maxRecDepth 20000 in
theorem ggX8_goesTo_X8_at : GoodIn wsX8_goesTo wsX8_at := goodIn_r _ [21, 1, 10, 11, 12, 5, 13, 38, 39, 40, 41, 42, 43, 44, 45, 46, 47, 48, 49, 50] (by decide +kernel) (by decide +kernel)
set_option maxRecDepth 20000 in
theorem gX8_goesTo_X8_at : GoodIn wsX8_goesTo (wsV RX8 69 RX8 yX8_at wsX8_at) := goodIn_app (goodIn_of _ (by decide +kernel)) ggX8_goesTo_X8_at
set_option maxRecDepth 20000 in
theorem ggX8_goesTo_X8_binOf : GoodIn wsX8_goesTo wsX8_binOf := goodIn_r _ [25, 26, 27, 28, 5, 29, 1, 10, 11, 12, 13, 38, 39, 40, 41, 42, 43, 44, 45, 46, 47, 48, 49, 50] (by decide +kernel) (by decide +kernel)
set_option maxRecDepth 20000 in
theorem gX8_goesTo_X8_binOf : GoodIn wsX8_goesTo (wsV RX8 76 RX8 yX8_binOf wsX8_binOf) := goodIn_app (goodIn_of _ (by decide +kernel)) ggX8_goesTo_X8_binOf
set_option maxRecDepth 20000 in
theorem ggX8_goesTo_X8_manyIn : GoodIn wsX8_goesTo wsX8_manyIn := goodIn_r _ [33, 1, 34, 35, 36, 5, 37, 10, 11, 12, 13, 38, 39, 40, 41, 42, 43, 44, 45, 46, 47, 48, 49, 50] (by decide +kernel) (by decide +kernel)
set_option maxRecDepth 20000 in
theorem gX8_goesTo_X8_manyIn : GoodIn wsX8_goesTo (wsV RX8 79 RX8 yX8_manyIn wsX8_manyIn) := goodIn_app (goodIn_of _ (by decide +kernel)) ggX8_goesTo_X8_manyIn
theorem dX8_goesTo_0 : decode cX8_goesTo 0 = .ok (.aload_n 0, 1) := by decide +kernel
theorem dX8_goesTo_1 : decode cX8_goesTo 1 = .ok (.iload_n 1, 1) := by decide +kernel
theorem dX8_goesTo_2 : decode cX8_goesTo 2 = .ok (.invokevirtual 111, 3) := by decide +kernel
theorem dX8_goesTo_5 : decode cX8_goesTo 5 = .ok (.ifCond .ne 5, 3) := by decide +kernel
theorem dX8_goesTo_8 : decode cX8_goesTo 8 = .ok (.iconst (-1), 1) := by decide +kernel
theorem dX8_goesTo_9 : decode cX8_goesTo 9 = .ok (.ireturn, 1) := by decide +kernel
theorem dX8_goesTo_10 : decode cX8_goesTo 10 = .ok (.aload_n 0, 1) := by decide +kernel
theorem dX8_goesTo_11 : decode cX8_goesTo 11 = .ok (.iload_n 1, 1) := by decide +kernel
theorem dX8_goesTo_12 : decode cX8_goesTo 12 = .ok (.iconst 5, 1) := by decide +kernel
theorem dX8_goesTo_13 : decode cX8_goesTo 13 = .ok (.invokevirtual 46, 3) := by decide +kernel
theorem dX8_goesTo_16 : decode cX8_goesTo 16 = .ok (.ifCond .eq 6, 3) := by decide +kernel
theorem dX8_goesTo_19 : decode cX8_goesTo 19 = .ok (.bipush (-4), 2) := by decide +kernel
theorem dX8_goesTo_21 : decode cX8_goesTo 21 = .ok (.ireturn, 1) := by decide +kernel
theorem dX8_goesTo_22 : decode cX8_goesTo 22 = .ok (.aload_n 0, 1) := by decide +kernel
theorem dX8_goesTo_23 : decode cX8_goesTo 23 = .ok (.iload_n 1, 1) := by decide +kernel
theorem dX8_goesTo_24 : decode cX8_goesTo 24 = .ok (.invokevirtual 66, 3) := by decide +kernel
theorem dX8_goesTo_27 : decode cX8_goesTo 27 = .ok (.istore_n 2, 1) := by decide +kernel
theorem dX8_goesTo_28 : decode cX8_goesTo 28 = .ok (.iload_n 2, 1) := by decide +kernel
theorem dX8_goesTo_29 : decode cX8_goesTo 29 = .ok (.iconst 2, 1) := by decide +kernel
theorem dX8_goesTo_30 : decode cX8_goesTo 30 = .ok (.if_icmp .ne 25, 3) := by decide +kernel
theorem dX8_goesTo_33 : decode cX8_goesTo 33 = .ok (.aload_n 0, 1) := by decide +kernel
theorem dX8_goesTo_34 : decode cX8_goesTo 34 = .ok (.iconst 2, 1) := by decide +kernel
theorem dX8_goesTo_35 : decode cX8_goesTo 35 = .ok (.invokevirtual 69, 3) := by decide +kernel
theorem dX8_goesTo_38 : decode cX8_goesTo 38 = .ok (.iconst 1, 1) := by decide +kernel
theorem dX8_goesTo_39 : decode cX8_goesTo 39 = .ok (.iadd, 1) := by decide +kernel
theorem dX8_goesTo_40 : decode cX8_goesTo 40 = .ok (.aload_n 0, 1) := by decide +kernel
theorem dX8_goesTo_41 : decode cX8_goesTo 41 = .ok (.getfield 7, 3) := by decide +kernel
theorem dX8_goesTo_44 : decode cX8_goesTo 44 = .ok (.iconst 5, 1) := by decide +kernel
theorem dX8_goesTo_45 : decode cX8_goesTo 45 = .ok (.iaload, 1) := by decide +kernel
theorem dX8_goesTo_46 : decode cX8_goesTo 46 = .ok (.if_icmp .lt 7, 3) := by decide +kernel
theorem dX8_goesTo_49 : decode cX8_goesTo 49 = .ok (.iconst 3, 1) := by decide +kernel
theorem dX8_goesTo_50 : decode cX8_goesTo 50 = .ok (.goto 4, 3) := by decide +kernel
theorem dX8_goesTo_53 : decode cX8_goesTo 53 = .ok (.iconst 2, 1) := by decide +kernel
theorem dX8_goesTo_54 : decode cX8_goesTo 54 = .ok (.ireturn, 1) := by decide +kernel
theorem dX8_goesTo_55 : decode cX8_goesTo 55 = .ok (.iload_n 2, 1) := by decide +kernel
theorem dX8_goesTo_56 : decode cX8_goesTo 56 = .ok (.iconst 5, 1) := by decide +kernel
theorem dX8_goesTo_57 : decode cX8_goesTo 57 = .ok (.if_icmp .ne 26, 3) := by decide +kernel
theorem dX8_goesTo_60 : decode cX8_goesTo 60 = .ok (.aload_n 0, 1) := by decide +kernel
theorem dX8_goesTo_61 : decode cX8_goesTo 61 = .ok (.aload_n 0, 1) := by decide +kernel
theorem dX8_goesTo_62 : decode cX8_goesTo 62 = .ok (.iload_n 1, 1) := by decide +kernel
theorem dX8_goesTo_63 : decode cX8_goesTo 63 = .ok (.invokevirtual 76, 3) := by decide +kernel
theorem dX8_goesTo_66 : decode cX8_goesTo 66 = .ok (.invokevirtual 79, 3) := by decide +kernel
theorem dX8_goesTo_69 : decode cX8_goesTo 69 = .ok (.aload_n 0, 1) := by decide +kernel
theorem dX8_goesTo_70 : decode cX8_goesTo 70 = .ok (.getfield 7, 3) := by decide +kernel
theorem dX8_goesTo_73 : decode cX8_goesTo 73 = .ok (.bipush 6, 2) := by decide +kernel
theorem dX8_goesTo_75 : decode cX8_goesTo 75 = .ok (.iaload, 1) := by decide +kernel
theorem dX8_goesTo_76 : decode cX8_goesTo 76 = .ok (.if_icmp .lt 7, 3) := by decide +kernel
theorem dX8_goesTo_79 : decode cX8_goesTo 79 = .ok (.iconst 0, 1) := by decide +kernel
theorem dX8_goesTo_80 : decode cX8_goesTo 80 = .ok (.goto 4, 3) := by decide +kernel
theorem dX8_goesTo_83 : decode cX8_goesTo 83 = .ok (.iload_n 2, 1) := by decide +kernel
theorem dX8_goesTo_84 : decode cX8_goesTo 84 = .ok (.ireturn, 1) := by decide +kernel
set_option maxRecDepth 20000 in
theorem ggX8_reason_X8_isBin : GoodIn wsX8_reason wsX8_isBin := goodIn_r _ [4, 5, 6, 3, 7] (by decide +kernel) (by decide +kernel)
set_option maxRecDepth 20000 in
theorem gX8_reason_X8_isBin : GoodIn wsX8_reason (va_wsS RX8 89 yX8_isBin wsX8_isBin) := goodIn_app (goodIn_of _ (by decide +kernel)) ggX8_reason_X8_isBin
set_option maxRecDepth 20000 in
theorem ggX8_reason_X8_in : GoodIn wsX8_reason wsX8_in := goodIn_r _ [7] (by decide +kernel) (by decide +kernel)
set_option maxRecDepth 20000 in
theorem gX8_reason_X8_in : GoodIn wsX8_reason (va_wsS RX8 31 yX8_in wsX8_in) := goodIn_app (goodIn_of _ (by decide +kernel)) ggX8_reason_X8_in
set_option maxRecDepth 20000 in
theorem ggX8_reason_X8_reasonFor : GoodIn wsX8_reason wsX8_reasonFor := goodIn_r _ [11, 12, 13, 14, 3, 15, 16, 17, 18, 19, 20, 21, 22, 23, 24, 25, 26, 27, 28, 29, 30, 31, 32, 33, 34, 35, 36, 37, 38, 39, 40, 41, 42, 43, 44, 45, 46, 47, 48, 49, 50, 51] (by decide +kernel) (by decide +kernel)
set_option maxRecDepth 20000 in
theorem gX8_reason_X8_reasonFor : GoodIn wsX8_reason (wsV RX8 105 RX8 yX8_reasonFor wsX8_reasonFor) := goodIn_app (goodIn_of _ (by decide +kernel)) ggX8_reason_X8_reasonFor
theorem dX8_reason_0 : decode cX8_reason 0 = .ok (.iload_n 1, 1) := by decide +kernel
theorem dX8_reason_1 : decode cX8_reason 1 = .ok (.invokestatic 89, 3) := by decide +kernel
theorem dX8_reason_4 : decode cX8_reason 4 = .ok (.ifCond .ne 5, 3) := by decide +kernel
theorem dX8_reason_7 : decode cX8_reason 7 = .ok (.iconst (-1), 1) := by decide +kernel
theorem dX8_reason_8 : decode cX8_reason 8 = .ok (.ireturn, 1) := by decide +kernel
theorem dX8_reason_9 : decode cX8_reason 9 = .ok (.iload_n 2, 1) := by decide +kernel
theorem dX8_reason_10 : decode cX8_reason 10 = .ok (.iconst 1, 1) := by decide +kernel
theorem dX8_reason_11 : decode cX8_reason 11 = .ok (.bipush 9, 2) := by decide +kernel
theorem dX8_reason_13 : decode cX8_reason 13 = .ok (.invokestatic 31, 3) := by decide +kernel
theorem dX8_reason_16 : decode cX8_reason 16 = .ok (.ifCond .eq 12, 3) := by decide +kernel
theorem dX8_reason_19 : decode cX8_reason 19 = .ok (.aload_n 0, 1) := by decide +kernel
theorem dX8_reason_20 : decode cX8_reason 20 = .ok (.iload_n 1, 1) := by decide +kernel
theorem dX8_reason_21 : decode cX8_reason 21 = .ok (.iload_n 2, 1) := by decide +kernel
theorem dX8_reason_22 : decode cX8_reason 22 = .ok (.invokevirtual 105, 3) := by decide +kernel
theorem dX8_reason_25 : decode cX8_reason 25 = .ok (.goto 5, 3) := by decide +kernel
theorem dX8_reason_28 : decode cX8_reason 28 = .ok (.bipush (-2), 2) := by decide +kernel
theorem dX8_reason_30 : decode cX8_reason 30 = .ok (.ireturn, 1) := by decide +kernel
set_option maxRecDepth 20000 in
theorem ggX8_leastSpread_X8_isBin : GoodIn wsX8_leastSpread wsX8_isBin := goodIn_r _ [5, 6, 7, 4, 8] (by decide +kernel) (by decide +kernel)
set_option maxRecDepth 20000 in
theorem gX8_leastSpread_X8_isBin : GoodIn wsX8_leastSpread (va_wsS RX8 89 yX8_isBin wsX8_isBin) := goodIn_app (goodIn_of _ (by decide +kernel)) ggX8_leastSpread_X8_isBin
set_option maxRecDepth 20000 in
theorem ggX8_leastSpread_X8_in : GoodIn wsX8_leastSpread wsX8_in := goodIn_r _ [8] (by decide +kernel) (by decide +kernel)
set_option maxRecDepth 20000 in
theorem gX8_leastSpread_X8_in : GoodIn wsX8_leastSpread (va_wsS RX8 31 yX8_in wsX8_in) := goodIn_app (goodIn_of _ (by decide +kernel)) ggX8_leastSpread_X8_in
set_option maxRecDepth 20000 in
theorem ggX8_leastSpread_X8_order : GoodIn wsX8_leastSpread wsX8_order := goodIn_r _ [12, 1, 13, 14, 15, 16, 17, 4, 18, 19, 20, 21, 22, 27, 28, 29, 30, 31, 32, 33, 34, 35, 36, 37, 38, 39] (by decide +kernel) (by decide +kernel)
set_option maxRecDepth 20000 in
theorem gX8_leastSpread_X8_order : GoodIn wsX8_leastSpread (wsV RX8 96 RX8 yX8_order wsX8_order) := goodIn_app (goodIn_of _ (by decide +kernel)) ggX8_leastSpread_X8_order
set_option maxRecDepth 20000 in
theorem ggX8_leastSpread_X8_spread : GoodIn wsX8_leastSpread wsX8_spread := goodIn_r _ [26, 14, 19, 20, 21, 4, 22, 13, 27, 28, 29, 30, 31, 32, 33, 34, 35, 36, 37, 38, 39] (by decide +kernel) (by decide +kernel)
set_option maxRecDepth 20000 in
theorem gX8_leastSpread_X8_spread : GoodIn wsX8_leastSpread (wsV RX8 99 RX8 yX8_spread wsX8_spread) := goodIn_app (goodIn_of _ (by decide +kernel)) ggX8_leastSpread_X8_spread
theorem dX8_leastSpread_0 : decode cX8_leastSpread 0 = .ok (.iload_n 1, 1) := by decide +kernel
theorem dX8_leastSpread_1 : decode cX8_leastSpread 1 = .ok (.invokestatic 89, 3) := by decide +kernel
theorem dX8_leastSpread_4 : decode cX8_leastSpread 4 = .ok (.ifCond .ne 5, 3) := by decide +kernel
theorem dX8_leastSpread_7 : decode cX8_leastSpread 7 = .ok (.iconst (-1), 1) := by decide +kernel
theorem dX8_leastSpread_8 : decode cX8_leastSpread 8 = .ok (.ireturn, 1) := by decide +kernel
theorem dX8_leastSpread_9 : decode cX8_leastSpread 9 = .ok (.iload_n 2, 1) := by decide +kernel
theorem dX8_leastSpread_10 : decode cX8_leastSpread 10 = .ok (.iconst 1, 1) := by decide +kernel
theorem dX8_leastSpread_11 : decode cX8_leastSpread 11 = .ok (.bipush 9, 2) := by decide +kernel
theorem dX8_leastSpread_13 : decode cX8_leastSpread 13 = .ok (.invokestatic 31, 3) := by decide +kernel
theorem dX8_leastSpread_16 : decode cX8_leastSpread 16 = .ok (.ifCond .ne 6, 3) := by decide +kernel
theorem dX8_leastSpread_19 : decode cX8_leastSpread 19 = .ok (.bipush (-2), 2) := by decide +kernel
theorem dX8_leastSpread_21 : decode cX8_leastSpread 21 = .ok (.ireturn, 1) := by decide +kernel
theorem dX8_leastSpread_22 : decode cX8_leastSpread 22 = .ok (.aload_n 0, 1) := by decide +kernel
theorem dX8_leastSpread_23 : decode cX8_leastSpread 23 = .ok (.iload_n 1, 1) := by decide +kernel
theorem dX8_leastSpread_24 : decode cX8_leastSpread 24 = .ok (.invokevirtual 96, 3) := by decide +kernel
theorem dX8_leastSpread_27 : decode cX8_leastSpread 27 = .ok (.bipush (-5), 2) := by decide +kernel
theorem dX8_leastSpread_29 : decode cX8_leastSpread 29 = .ok (.istore_n 3, 1) := by decide +kernel
theorem dX8_leastSpread_30 : decode cX8_leastSpread 30 = .ok (.iconst 0, 1) := by decide +kernel
theorem dX8_leastSpread_31 : decode cX8_leastSpread 31 = .ok (.istore 4, 2) := by decide +kernel
theorem dX8_leastSpread_33 : decode cX8_leastSpread 33 = .ok (.iload 4, 2) := by decide +kernel
theorem dX8_leastSpread_35 : decode cX8_leastSpread 35 = .ok (.iload_n 2, 1) := by decide +kernel
theorem dX8_leastSpread_36 : decode cX8_leastSpread 36 = .ok (.iadd, 1) := by decide +kernel
theorem dX8_leastSpread_37 : decode cX8_leastSpread 37 = .ok (.aload_n 0, 1) := by decide +kernel
theorem dX8_leastSpread_38 : decode cX8_leastSpread 38 = .ok (.getfield 93, 3) := by decide +kernel
theorem dX8_leastSpread_41 : decode cX8_leastSpread 41 = .ok (.if_icmp .gt 38, 3) := by decide +kernel
theorem dX8_leastSpread_44 : decode cX8_leastSpread 44 = .ok (.iload_n 3, 1) := by decide +kernel
theorem dX8_leastSpread_45 : decode cX8_leastSpread 45 = .ok (.bipush (-5), 2) := by decide +kernel
theorem dX8_leastSpread_47 : decode cX8_leastSpread 47 = .ok (.if_icmp .eq 14, 3) := by decide +kernel
theorem dX8_leastSpread_50 : decode cX8_leastSpread 50 = .ok (.aload_n 0, 1) := by decide +kernel
theorem dX8_leastSpread_51 : decode cX8_leastSpread 51 = .ok (.iload 4, 2) := by decide +kernel
theorem dX8_leastSpread_53 : decode cX8_leastSpread 53 = .ok (.iload_n 2, 1) := by decide +kernel
theorem dX8_leastSpread_54 : decode cX8_leastSpread 54 = .ok (.invokevirtual 99, 3) := by decide +kernel
theorem dX8_leastSpread_57 : decode cX8_leastSpread 57 = .ok (.iload_n 3, 1) := by decide +kernel
theorem dX8_leastSpread_58 : decode cX8_leastSpread 58 = .ok (.if_icmp .ge 13, 3) := by decide +kernel
theorem dX8_leastSpread_61 : decode cX8_leastSpread 61 = .ok (.aload_n 0, 1) := by decide +kernel
theorem dX8_leastSpread_62 : decode cX8_leastSpread 62 = .ok (.iload 4, 2) := by decide +kernel
theorem dX8_leastSpread_64 : decode cX8_leastSpread 64 = .ok (.iload_n 2, 1) := by decide +kernel
theorem dX8_leastSpread_65 : decode cX8_leastSpread 65 = .ok (.invokevirtual 99, 3) := by decide +kernel
theorem dX8_leastSpread_68 : decode cX8_leastSpread 68 = .ok (.goto 4, 3) := by decide +kernel
theorem dX8_leastSpread_71 : decode cX8_leastSpread 71 = .ok (.iload_n 3, 1) := by decide +kernel
theorem dX8_leastSpread_72 : decode cX8_leastSpread 72 = .ok (.istore_n 3, 1) := by decide +kernel
theorem dX8_leastSpread_73 : decode cX8_leastSpread 73 = .ok (.iinc 4 1, 3) := by decide +kernel
theorem dX8_leastSpread_76 : decode cX8_leastSpread 76 = .ok (.goto (-43), 3) := by decide +kernel
theorem dX8_leastSpread_79 : decode cX8_leastSpread 79 = .ok (.iload_n 3, 1) := by decide +kernel
theorem dX8_leastSpread_80 : decode cX8_leastSpread 80 = .ok (.ireturn, 1) := by decide +kernel
set_option maxRecDepth 20000 in
theorem ggX8_shirts_X8_in : GoodIn wsX8_shirts wsX8_in := goodIn_r _ [6] (by decide +kernel) (by decide +kernel)
set_option maxRecDepth 20000 in
theorem gX8_shirts_X8_in : GoodIn wsX8_shirts (va_wsS RX8 31 yX8_in wsX8_in) := goodIn_app (goodIn_of _ (by decide +kernel)) ggX8_shirts_X8_in
set_option maxRecDepth 20000 in
theorem ggX8_shirts_X8_putAside : GoodIn wsX8_shirts wsX8_putAside := goodIn_r _ [10, 2, 1, 49, 50, 51, 52, 53, 54, 55, 56, 57, 58, 59, 60, 61] (by decide +kernel) (by decide +kernel)
set_option maxRecDepth 20000 in
theorem gX8_shirts_X8_putAside : GoodIn wsX8_shirts (wsV RX8 166 RX8 yX8_putAside wsX8_putAside) := goodIn_app (goodIn_of _ (by decide +kernel)) ggX8_shirts_X8_putAside
set_option maxRecDepth 20000 in
theorem ggX8_shirts_X8_firstAlike : GoodIn wsX8_shirts wsX8_firstAlike := goodIn_r _ [14, 15, 1, 16, 17, 18, 5, 19, 20, 21, 22, 23, 24, 25, 26, 27, 28, 29, 30, 31, 32, 49, 50, 51, 52, 53, 54, 55, 56, 57, 58, 59, 60, 61] (by decide +kernel) (by decide +kernel)
set_option maxRecDepth 20000 in
theorem gX8_shirts_X8_firstAlike : GoodIn wsX8_shirts (wsV RX8 102 RX8 yX8_firstAlike wsX8_firstAlike) := goodIn_app (goodIn_of _ (by decide +kernel)) ggX8_shirts_X8_firstAlike
set_option maxRecDepth 20000 in
theorem ggX8_shirts_X8_shirtNow : GoodIn wsX8_shirts wsX8_shirtNow := goodIn_r _ [36, 20, 1, 11, 12, 13, 5, 14, 15, 16, 17, 18, 19, 21, 22, 23, 24, 25, 26, 27, 28, 29, 30, 31, 32, 37, 38, 39, 40, 41, 42, 43, 44, 49, 50, 51, 52, 53, 54, 55, 56, 57, 58, 59, 60, 61] (by decide +kernel) (by decide +kernel)
set_option maxRecDepth 20000 in
theorem gX8_shirts_X8_shirtNow : GoodIn wsX8_shirts (wsV RX8 108 RX8 yX8_shirtNow wsX8_shirtNow) := goodIn_app (goodIn_of _ (by decide +kernel)) ggX8_shirts_X8_shirtNow
set_option maxRecDepth 20000 in
theorem ggX8_shirts_X8_putBack : GoodIn wsX8_shirts wsX8_putBack := goodIn_r _ [48, 1, 2, 49, 50, 51, 52, 53, 54, 55, 56, 57, 58, 59, 60, 61] (by decide +kernel) (by decide +kernel)
set_option maxRecDepth 20000 in
theorem gX8_shirts_X8_putBack : GoodIn wsX8_shirts (wsV RX8 169 RX8 yX8_putBack wsX8_putBack) := goodIn_app (goodIn_of _ (by decide +kernel)) ggX8_shirts_X8_putBack
theorem dX8_shirts_0 : decode cX8_shirts 0 = .ok (.iload_n 1, 1) := by decide +kernel
theorem dX8_shirts_1 : decode cX8_shirts 1 = .ok (.iconst 1, 1) := by decide +kernel
theorem dX8_shirts_2 : decode cX8_shirts 2 = .ok (.bipush 9, 2) := by decide +kernel
theorem dX8_shirts_4 : decode cX8_shirts 4 = .ok (.invokestatic 31, 3) := by decide +kernel
theorem dX8_shirts_7 : decode cX8_shirts 7 = .ok (.ifCond .ne 6, 3) := by decide +kernel
theorem dX8_shirts_10 : decode cX8_shirts 10 = .ok (.bipush (-2), 2) := by decide +kernel
theorem dX8_shirts_12 : decode cX8_shirts 12 = .ok (.ireturn, 1) := by decide +kernel
theorem dX8_shirts_13 : decode cX8_shirts 13 = .ok (.aload_n 0, 1) := by decide +kernel
theorem dX8_shirts_14 : decode cX8_shirts 14 = .ok (.invokevirtual 166, 3) := by decide +kernel
theorem dX8_shirts_17 : decode cX8_shirts 17 = .ok (.iconst 0, 1) := by decide +kernel
theorem dX8_shirts_18 : decode cX8_shirts 18 = .ok (.istore_n 2, 1) := by decide +kernel
theorem dX8_shirts_19 : decode cX8_shirts 19 = .ok (.iload_n 2, 1) := by decide +kernel
theorem dX8_shirts_20 : decode cX8_shirts 20 = .ok (.bipush 12, 2) := by decide +kernel
theorem dX8_shirts_22 : decode cX8_shirts 22 = .ok (.if_icmp .ge 30, 3) := by decide +kernel
theorem dX8_shirts_25 : decode cX8_shirts 25 = .ok (.aload_n 0, 1) := by decide +kernel
theorem dX8_shirts_26 : decode cX8_shirts 26 = .ok (.iload_n 2, 1) := by decide +kernel
theorem dX8_shirts_27 : decode cX8_shirts 27 = .ok (.iload_n 1, 1) := by decide +kernel
theorem dX8_shirts_28 : decode cX8_shirts 28 = .ok (.invokevirtual 102, 3) := by decide +kernel
theorem dX8_shirts_31 : decode cX8_shirts 31 = .ok (.bipush (-5), 2) := by decide +kernel
theorem dX8_shirts_33 : decode cX8_shirts 33 = .ok (.if_icmp .eq 13, 3) := by decide +kernel
theorem dX8_shirts_36 : decode cX8_shirts 36 = .ok (.aload_n 0, 1) := by decide +kernel
theorem dX8_shirts_37 : decode cX8_shirts 37 = .ok (.iload_n 2, 1) := by decide +kernel
theorem dX8_shirts_38 : decode cX8_shirts 38 = .ok (.iload_n 1, 1) := by decide +kernel
theorem dX8_shirts_39 : decode cX8_shirts 39 = .ok (.invokevirtual 108, 3) := by decide +kernel
theorem dX8_shirts_42 : decode cX8_shirts 42 = .ok (.istore_n 3, 1) := by decide +kernel
theorem dX8_shirts_43 : decode cX8_shirts 43 = .ok (.goto (-18), 3) := by decide +kernel
theorem dX8_shirts_46 : decode cX8_shirts 46 = .ok (.iinc 2 1, 3) := by decide +kernel
theorem dX8_shirts_49 : decode cX8_shirts 49 = .ok (.goto (-30), 3) := by decide +kernel
theorem dX8_shirts_52 : decode cX8_shirts 52 = .ok (.aload_n 0, 1) := by decide +kernel
theorem dX8_shirts_53 : decode cX8_shirts 53 = .ok (.getfield 7, 3) := by decide +kernel
theorem dX8_shirts_56 : decode cX8_shirts 56 = .ok (.bipush 8, 2) := by decide +kernel
theorem dX8_shirts_58 : decode cX8_shirts 58 = .ok (.iaload, 1) := by decide +kernel
theorem dX8_shirts_59 : decode cX8_shirts 59 = .ok (.aload_n 0, 1) := by decide +kernel
theorem dX8_shirts_60 : decode cX8_shirts 60 = .ok (.getfield 19, 3) := by decide +kernel
theorem dX8_shirts_63 : decode cX8_shirts 63 = .ok (.bipush 8, 2) := by decide +kernel
theorem dX8_shirts_65 : decode cX8_shirts 65 = .ok (.iaload, 1) := by decide +kernel
theorem dX8_shirts_66 : decode cX8_shirts 66 = .ok (.isub, 1) := by decide +kernel
theorem dX8_shirts_67 : decode cX8_shirts 67 = .ok (.istore_n 2, 1) := by decide +kernel
theorem dX8_shirts_68 : decode cX8_shirts 68 = .ok (.aload_n 0, 1) := by decide +kernel
theorem dX8_shirts_69 : decode cX8_shirts 69 = .ok (.invokevirtual 169, 3) := by decide +kernel
theorem dX8_shirts_72 : decode cX8_shirts 72 = .ok (.iload_n 2, 1) := by decide +kernel
theorem dX8_shirts_73 : decode cX8_shirts 73 = .ok (.ireturn, 1) := by decide +kernel
set_option maxRecDepth 20000 in
theorem ggX8_ifMesh_X8_in : GoodIn wsX8_ifMesh wsX8_in := goodIn_r _ [5] (by decide +kernel) (by decide +kernel)
set_option maxRecDepth 20000 in
theorem gX8_ifMesh_X8_in : GoodIn wsX8_ifMesh (va_wsS RX8 31 yX8_in wsX8_in) := goodIn_app (goodIn_of _ (by decide +kernel)) ggX8_ifMesh_X8_in
set_option maxRecDepth 20000 in
theorem ggX8_ifMesh_X8_areMeshes : GoodIn wsX8_ifMesh wsX8_areMeshes := goodIn_r _ [9, 1, 67, 68, 69, 70, 71, 72, 73, 74, 75, 76, 77, 78, 79] (by decide +kernel) (by decide +kernel)
set_option maxRecDepth 20000 in
theorem gX8_ifMesh_X8_areMeshes : GoodIn wsX8_ifMesh (wsV RX8 117 RX8 yX8_areMeshes wsX8_areMeshes) := goodIn_app (goodIn_of _ (by decide +kernel)) ggX8_ifMesh_X8_areMeshes
set_option maxRecDepth 20000 in
theorem ggX8_ifMesh_X8_putAside : GoodIn wsX8_ifMesh wsX8_putAside := goodIn_r _ [13, 14, 1, 67, 68, 69, 70, 71, 72, 73, 74, 75, 76, 77, 78, 79] (by decide +kernel) (by decide +kernel)
set_option maxRecDepth 20000 in
theorem gX8_ifMesh_X8_putAside : GoodIn wsX8_ifMesh (wsV RX8 166 RX8 yX8_putAside wsX8_putAside) := goodIn_app (goodIn_of _ (by decide +kernel)) ggX8_ifMesh_X8_putAside
set_option maxRecDepth 20000 in
theorem ggX8_ifMesh_X8_sortOne : GoodIn wsX8_ifMesh wsX8_sortOne := goodIn_r _ [18, 1, 19, 20, 21, 4, 22, 23, 24, 25, 26, 27, 28, 29, 30, 31, 32, 33, 34, 35, 36, 37, 38, 39, 40, 41, 42, 43, 44, 45, 46, 47, 48, 49, 50, 51, 52, 53, 54, 55, 56, 57, 58, 59, 60, 61, 62, 67, 68, 69, 70, 71, 72, 73, 74, 75, 76, 77, 78, 79] (by decide +kernel) (by decide +kernel)
set_option maxRecDepth 20000 in
theorem gX8_ifMesh_X8_sortOne : GoodIn wsX8_ifMesh (wsV RX8 86 RX8 yX8_sortOne wsX8_sortOne) := goodIn_app (goodIn_of _ (by decide +kernel)) ggX8_ifMesh_X8_sortOne
set_option maxRecDepth 20000 in
theorem ggX8_ifMesh_X8_at : GoodIn wsX8_ifMesh wsX8_at := goodIn_r _ [38, 1, 19, 20, 21, 4, 22, 67, 68, 69, 70, 71, 72, 73, 74, 75, 76, 77, 78, 79] (by decide +kernel) (by decide +kernel)
set_option maxRecDepth 20000 in
theorem gX8_ifMesh_X8_at : GoodIn wsX8_ifMesh (wsV RX8 69 RX8 yX8_at wsX8_at) := goodIn_app (goodIn_of _ (by decide +kernel)) ggX8_ifMesh_X8_at
set_option maxRecDepth 20000 in
theorem ggX8_ifMesh_X8_putBack : GoodIn wsX8_ifMesh wsX8_putBack := goodIn_r _ [66, 1, 14, 67, 68, 69, 70, 71, 72, 73, 74, 75, 76, 77, 78, 79] (by decide +kernel) (by decide +kernel)
set_option maxRecDepth 20000 in
theorem gX8_ifMesh_X8_putBack : GoodIn wsX8_ifMesh (wsV RX8 169 RX8 yX8_putBack wsX8_putBack) := goodIn_app (goodIn_of _ (by decide +kernel)) ggX8_ifMesh_X8_putBack
theorem dX8_ifMesh_0 : decode cX8_ifMesh 0 = .ok (.iload_n 1, 1) := by decide +kernel
theorem dX8_ifMesh_1 : decode cX8_ifMesh 1 = .ok (.iconst 0, 1) := by decide +kernel
theorem dX8_ifMesh_2 : decode cX8_ifMesh 2 = .ok (.iconst 2, 1) := by decide +kernel
theorem dX8_ifMesh_3 : decode cX8_ifMesh 3 = .ok (.invokestatic 31, 3) := by decide +kernel
theorem dX8_ifMesh_6 : decode cX8_ifMesh 6 = .ok (.ifCond .ne 5, 3) := by decide +kernel
theorem dX8_ifMesh_9 : decode cX8_ifMesh 9 = .ok (.iconst (-1), 1) := by decide +kernel
theorem dX8_ifMesh_10 : decode cX8_ifMesh 10 = .ok (.ireturn, 1) := by decide +kernel
theorem dX8_ifMesh_11 : decode cX8_ifMesh 11 = .ok (.iload_n 2, 1) := by decide +kernel
theorem dX8_ifMesh_12 : decode cX8_ifMesh 12 = .ok (.iconst 1, 1) := by decide +kernel
theorem dX8_ifMesh_13 : decode cX8_ifMesh 13 = .ok (.bipush 30, 2) := by decide +kernel
theorem dX8_ifMesh_15 : decode cX8_ifMesh 15 = .ok (.invokestatic 31, 3) := by decide +kernel
theorem dX8_ifMesh_18 : decode cX8_ifMesh 18 = .ok (.ifCond .eq 13, 3) := by decide +kernel
theorem dX8_ifMesh_21 : decode cX8_ifMesh 21 = .ok (.iload_n 3, 1) := by decide +kernel
theorem dX8_ifMesh_22 : decode cX8_ifMesh 22 = .ok (.iconst 0, 1) := by decide +kernel
theorem dX8_ifMesh_23 : decode cX8_ifMesh 23 = .ok (.bipush 6, 2) := by decide +kernel
theorem dX8_ifMesh_25 : decode cX8_ifMesh 25 = .ok (.invokestatic 31, 3) := by decide +kernel
theorem dX8_ifMesh_28 : decode cX8_ifMesh 28 = .ok (.ifCond .ne 6, 3) := by decide +kernel
theorem dX8_ifMesh_31 : decode cX8_ifMesh 31 = .ok (.bipush (-2), 2) := by decide +kernel
theorem dX8_ifMesh_33 : decode cX8_ifMesh 33 = .ok (.ireturn, 1) := by decide +kernel
theorem dX8_ifMesh_34 : decode cX8_ifMesh 34 = .ok (.aload_n 0, 1) := by decide +kernel
theorem dX8_ifMesh_35 : decode cX8_ifMesh 35 = .ok (.iload_n 1, 1) := by decide +kernel
theorem dX8_ifMesh_36 : decode cX8_ifMesh 36 = .ok (.iload_n 2, 1) := by decide +kernel
theorem dX8_ifMesh_37 : decode cX8_ifMesh 37 = .ok (.invokevirtual 117, 3) := by decide +kernel
theorem dX8_ifMesh_40 : decode cX8_ifMesh 40 = .ok (.ifCond .ne 6, 3) := by decide +kernel
theorem dX8_ifMesh_43 : decode cX8_ifMesh 43 = .ok (.bipush (-4), 2) := by decide +kernel
theorem dX8_ifMesh_45 : decode cX8_ifMesh 45 = .ok (.ireturn, 1) := by decide +kernel
theorem dX8_ifMesh_46 : decode cX8_ifMesh 46 = .ok (.aload_n 0, 1) := by decide +kernel
theorem dX8_ifMesh_47 : decode cX8_ifMesh 47 = .ok (.invokevirtual 166, 3) := by decide +kernel
theorem dX8_ifMesh_50 : decode cX8_ifMesh 50 = .ok (.aload_n 0, 1) := by decide +kernel
theorem dX8_ifMesh_51 : decode cX8_ifMesh 51 = .ok (.getfield 7, 3) := by decide +kernel
theorem dX8_ifMesh_54 : decode cX8_ifMesh 54 = .ok (.iload_n 1, 1) := by decide +kernel
theorem dX8_ifMesh_55 : decode cX8_ifMesh 55 = .ok (.iload_n 2, 1) := by decide +kernel
theorem dX8_ifMesh_56 : decode cX8_ifMesh 56 = .ok (.iastore, 1) := by decide +kernel
theorem dX8_ifMesh_57 : decode cX8_ifMesh 57 = .ok (.aload_n 0, 1) := by decide +kernel
theorem dX8_ifMesh_58 : decode cX8_ifMesh 58 = .ok (.getfield 7, 3) := by decide +kernel
theorem dX8_ifMesh_61 : decode cX8_ifMesh 61 = .ok (.bipush 14, 2) := by decide +kernel
theorem dX8_ifMesh_63 : decode cX8_ifMesh 63 = .ok (.iaload, 1) := by decide +kernel
theorem dX8_ifMesh_64 : decode cX8_ifMesh 64 = .ok (.istore 4, 2) := by decide +kernel
theorem dX8_ifMesh_66 : decode cX8_ifMesh 66 = .ok (.iload 4, 2) := by decide +kernel
theorem dX8_ifMesh_68 : decode cX8_ifMesh 68 = .ok (.ifCond .le 13, 3) := by decide +kernel
theorem dX8_ifMesh_71 : decode cX8_ifMesh 71 = .ok (.aload_n 0, 1) := by decide +kernel
theorem dX8_ifMesh_72 : decode cX8_ifMesh 72 = .ok (.invokevirtual 86, 3) := by decide +kernel
theorem dX8_ifMesh_75 : decode cX8_ifMesh 75 = .ok (.iinc 4 (-1), 3) := by decide +kernel
theorem dX8_ifMesh_78 : decode cX8_ifMesh 78 = .ok (.goto (-12), 3) := by decide +kernel
theorem dX8_ifMesh_81 : decode cX8_ifMesh 81 = .ok (.aload_n 0, 1) := by decide +kernel
theorem dX8_ifMesh_82 : decode cX8_ifMesh 82 = .ok (.iload_n 3, 1) := by decide +kernel
theorem dX8_ifMesh_83 : decode cX8_ifMesh 83 = .ok (.invokevirtual 69, 3) := by decide +kernel
theorem dX8_ifMesh_86 : decode cX8_ifMesh 86 = .ok (.istore 4, 2) := by decide +kernel
theorem dX8_ifMesh_88 : decode cX8_ifMesh 88 = .ok (.aload_n 0, 1) := by decide +kernel
theorem dX8_ifMesh_89 : decode cX8_ifMesh 89 = .ok (.invokevirtual 169, 3) := by decide +kernel
theorem dX8_ifMesh_92 : decode cX8_ifMesh 92 = .ok (.iload 4, 2) := by decide +kernel
theorem dX8_ifMesh_94 : decode cX8_ifMesh 94 = .ok (.ireturn, 1) := by decide +kernel
