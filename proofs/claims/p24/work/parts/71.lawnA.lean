theorem dL_cell_0 : decode cL_cell 0 = .ok (.iload_n 1, 1) := by decide +kernel
theorem dL_cell_1 : decode cL_cell 1 = .ok (.aload_n 0, 1) := by decide +kernel
theorem dL_cell_2 : decode cL_cell 2 = .ok (.arraylength, 1) := by decide +kernel
theorem dL_cell_3 : decode cL_cell 3 = .ok (.if_icmp .ge 9, 3) := by decide +kernel
theorem dL_cell_6 : decode cL_cell 6 = .ok (.aload_n 0, 1) := by decide +kernel
theorem dL_cell_7 : decode cL_cell 7 = .ok (.iload_n 1, 1) := by decide +kernel
theorem dL_cell_8 : decode cL_cell 8 = .ok (.iaload, 1) := by decide +kernel
theorem dL_cell_9 : decode cL_cell 9 = .ok (.goto 9, 3) := by decide +kernel
theorem dL_cell_12 : decode cL_cell 12 = .ok (.ldc 7, 2) := by decide +kernel
theorem dL_cell_14 : decode cL_cell 14 = .ok (.iload_n 1, 1) := by decide +kernel
theorem dL_cell_15 : decode cL_cell 15 = .ok (.iconst 1, 1) := by decide +kernel
theorem dL_cell_16 : decode cL_cell 16 = .ok (.iadd, 1) := by decide +kernel
theorem dL_cell_17 : decode cL_cell 17 = .ok (.imul, 1) := by decide +kernel
theorem dL_cell_18 : decode cL_cell 18 = .ok (.ireturn, 1) := by decide +kernel
theorem dL_low_0 : decode cL_low 0 = .ok (.iload_n 0, 1) := by decide +kernel
theorem dL_low_1 : decode cL_low 1 = .ok (.ldc 8, 2) := by decide +kernel
theorem dL_low_3 : decode cL_low 3 = .ok (.iand, 1) := by decide +kernel
theorem dL_low_4 : decode cL_low 4 = .ok (.iload_n 1, 1) := by decide +kernel
theorem dL_low_5 : decode cL_low 5 = .ok (.irem, 1) := by decide +kernel
theorem dL_low_6 : decode cL_low 6 = .ok (.ireturn, 1) := by decide +kernel
theorem dL_at_0 : decode cL_at 0 = .ok (.iconst 0, 1) := by decide +kernel
theorem dL_at_1 : decode cL_at 1 = .ok (.istore_n 3, 1) := by decide +kernel
theorem dL_at_2 : decode cL_at 2 = .ok (.iconst 0, 1) := by decide +kernel
theorem dL_at_3 : decode cL_at 3 = .ok (.istore 4, 2) := by decide +kernel
theorem dL_at_5 : decode cL_at 5 = .ok (.iload 4, 2) := by decide +kernel
theorem dL_at_7 : decode cL_at 7 = .ok (.aload_n 1, 1) := by decide +kernel
theorem dL_at_8 : decode cL_at 8 = .ok (.bipush 13, 2) := by decide +kernel
theorem dL_at_10 : decode cL_at 10 = .ok (.iaload, 1) := by decide +kernel
theorem dL_at_11 : decode cL_at 11 = .ok (.if_icmp .ge 27, 3) := by decide +kernel
theorem dL_at_14 : decode cL_at 14 = .ok (.iload_n 3, 1) := by decide +kernel
theorem dL_at_15 : decode cL_at 15 = .ok (.aload_n 0, 1) := by decide +kernel
theorem dL_at_16 : decode cL_at 16 = .ok (.iconst 3, 1) := by decide +kernel
theorem dL_at_17 : decode cL_at 17 = .ok (.iload 4, 2) := by decide +kernel
theorem dL_at_19 : decode cL_at 19 = .ok (.imul, 1) := by decide +kernel
theorem dL_at_20 : decode cL_at 20 = .ok (.iaload, 1) := by decide +kernel
theorem dL_at_21 : decode cL_at 21 = .ok (.iload_n 2, 1) := by decide +kernel
theorem dL_at_22 : decode cL_at 22 = .ok (.if_icmp .ne 7, 3) := by decide +kernel
theorem dL_at_25 : decode cL_at 25 = .ok (.iconst 1, 1) := by decide +kernel
theorem dL_at_26 : decode cL_at 26 = .ok (.goto 4, 3) := by decide +kernel
theorem dL_at_29 : decode cL_at 29 = .ok (.iconst 0, 1) := by decide +kernel
theorem dL_at_30 : decode cL_at 30 = .ok (.iadd, 1) := by decide +kernel
theorem dL_at_31 : decode cL_at 31 = .ok (.istore_n 3, 1) := by decide +kernel
theorem dL_at_32 : decode cL_at 32 = .ok (.iinc 4 1, 3) := by decide +kernel
theorem dL_at_35 : decode cL_at 35 = .ok (.goto (-30), 3) := by decide +kernel
theorem dL_at_38 : decode cL_at 38 = .ok (.iload_n 3, 1) := by decide +kernel
theorem dL_at_39 : decode cL_at 39 = .ok (.ireturn, 1) := by decide +kernel
theorem dL_in_0 : decode cL_in 0 = .ok (.iconst 0, 1) := by decide +kernel
theorem dL_in_1 : decode cL_in 1 = .ok (.istore_n 3, 1) := by decide +kernel
theorem dL_in_2 : decode cL_in 2 = .ok (.iconst 0, 1) := by decide +kernel
theorem dL_in_3 : decode cL_in 3 = .ok (.istore 4, 2) := by decide +kernel
theorem dL_in_5 : decode cL_in 5 = .ok (.iload 4, 2) := by decide +kernel
theorem dL_in_7 : decode cL_in 7 = .ok (.aload_n 1, 1) := by decide +kernel
theorem dL_in_8 : decode cL_in 8 = .ok (.bipush 13, 2) := by decide +kernel
theorem dL_in_10 : decode cL_in 10 = .ok (.iaload, 1) := by decide +kernel
theorem dL_in_11 : decode cL_in 11 = .ok (.if_icmp .ge 39, 3) := by decide +kernel
theorem dL_in_14 : decode cL_in 14 = .ok (.iload_n 3, 1) := by decide +kernel
theorem dL_in_15 : decode cL_in 15 = .ok (.aload_n 0, 1) := by decide +kernel
theorem dL_in_16 : decode cL_in 16 = .ok (.iconst 3, 1) := by decide +kernel
theorem dL_in_17 : decode cL_in 17 = .ok (.iload 4, 2) := by decide +kernel
theorem dL_in_19 : decode cL_in 19 = .ok (.imul, 1) := by decide +kernel
theorem dL_in_20 : decode cL_in 20 = .ok (.iaload, 1) := by decide +kernel
theorem dL_in_21 : decode cL_in 21 = .ok (.iconst 5, 1) := by decide +kernel
theorem dL_in_22 : decode cL_in 22 = .ok (.if_icmp .ne 19, 3) := by decide +kernel
theorem dL_in_25 : decode cL_in 25 = .ok (.aload_n 0, 1) := by decide +kernel
theorem dL_in_26 : decode cL_in 26 = .ok (.iconst 3, 1) := by decide +kernel
theorem dL_in_27 : decode cL_in 27 = .ok (.iload 4, 2) := by decide +kernel
theorem dL_in_29 : decode cL_in 29 = .ok (.imul, 1) := by decide +kernel
theorem dL_in_30 : decode cL_in 30 = .ok (.iconst 1, 1) := by decide +kernel
theorem dL_in_31 : decode cL_in 31 = .ok (.iadd, 1) := by decide +kernel
theorem dL_in_32 : decode cL_in 32 = .ok (.iaload, 1) := by decide +kernel
theorem dL_in_33 : decode cL_in 33 = .ok (.iload_n 2, 1) := by decide +kernel
theorem dL_in_34 : decode cL_in 34 = .ok (.if_icmp .ne 7, 3) := by decide +kernel
theorem dL_in_37 : decode cL_in 37 = .ok (.iconst 1, 1) := by decide +kernel
theorem dL_in_38 : decode cL_in 38 = .ok (.goto 4, 3) := by decide +kernel
theorem dL_in_41 : decode cL_in 41 = .ok (.iconst 0, 1) := by decide +kernel
theorem dL_in_42 : decode cL_in 42 = .ok (.iadd, 1) := by decide +kernel
theorem dL_in_43 : decode cL_in 43 = .ok (.istore_n 3, 1) := by decide +kernel
theorem dL_in_44 : decode cL_in 44 = .ok (.iinc 4 1, 3) := by decide +kernel
theorem dL_in_47 : decode cL_in 47 = .ok (.goto (-42), 3) := by decide +kernel
theorem dL_in_50 : decode cL_in 50 = .ok (.iload_n 3, 1) := by decide +kernel
theorem dL_in_51 : decode cL_in 51 = .ok (.ireturn, 1) := by decide +kernel
theorem dL_goes_0 : decode cL_goes 0 = .ok (.aload_n 1, 1) := by decide +kernel
theorem dL_goes_1 : decode cL_goes 1 = .ok (.iconst 3, 1) := by decide +kernel
theorem dL_goes_2 : decode cL_goes 2 = .ok (.iload_n 3, 1) := by decide +kernel
theorem dL_goes_3 : decode cL_goes 3 = .ok (.imul, 1) := by decide +kernel
theorem dL_goes_4 : decode cL_goes 4 = .ok (.iaload, 1) := by decide +kernel
theorem dL_goes_5 : decode cL_goes 5 = .ok (.aload_n 2, 1) := by decide +kernel
theorem dL_goes_6 : decode cL_goes 6 = .ok (.iconst 3, 1) := by decide +kernel
theorem dL_goes_7 : decode cL_goes 7 = .ok (.iaload, 1) := by decide +kernel
theorem dL_goes_8 : decode cL_goes 8 = .ok (.if_icmp .le 5, 3) := by decide +kernel
theorem dL_goes_11 : decode cL_goes 11 = .ok (.iconst 1, 1) := by decide +kernel
theorem dL_goes_12 : decode cL_goes 12 = .ok (.ireturn, 1) := by decide +kernel
theorem dL_goes_13 : decode cL_goes 13 = .ok (.aload_n 0, 1) := by decide +kernel
theorem dL_goes_14 : decode cL_goes 14 = .ok (.iconst 3, 1) := by decide +kernel
theorem dL_goes_15 : decode cL_goes 15 = .ok (.iload_n 3, 1) := by decide +kernel
theorem dL_goes_16 : decode cL_goes 16 = .ok (.imul, 1) := by decide +kernel
theorem dL_goes_17 : decode cL_goes 17 = .ok (.iconst 2, 1) := by decide +kernel
theorem dL_goes_18 : decode cL_goes 18 = .ok (.iadd, 1) := by decide +kernel
theorem dL_goes_19 : decode cL_goes 19 = .ok (.iaload, 1) := by decide +kernel
theorem dL_goes_20 : decode cL_goes 20 = .ok (.aload_n 2, 1) := by decide +kernel
theorem dL_goes_21 : decode cL_goes 21 = .ok (.iconst 4, 1) := by decide +kernel
theorem dL_goes_22 : decode cL_goes 22 = .ok (.iaload, 1) := by decide +kernel
theorem dL_goes_23 : decode cL_goes 23 = .ok (.if_icmp .lt 5, 3) := by decide +kernel
theorem dL_goes_26 : decode cL_goes 26 = .ok (.iconst 2, 1) := by decide +kernel
theorem dL_goes_27 : decode cL_goes 27 = .ok (.ireturn, 1) := by decide +kernel
theorem dL_goes_28 : decode cL_goes 28 = .ok (.aload_n 0, 1) := by decide +kernel
theorem dL_goes_29 : decode cL_goes 29 = .ok (.iconst 3, 1) := by decide +kernel
theorem dL_goes_30 : decode cL_goes 30 = .ok (.iload_n 3, 1) := by decide +kernel
theorem dL_goes_31 : decode cL_goes 31 = .ok (.imul, 1) := by decide +kernel
theorem dL_goes_32 : decode cL_goes 32 = .ok (.iconst 1, 1) := by decide +kernel
theorem dL_goes_33 : decode cL_goes 33 = .ok (.iadd, 1) := by decide +kernel
theorem dL_goes_34 : decode cL_goes 34 = .ok (.iaload, 1) := by decide +kernel
theorem dL_goes_35 : decode cL_goes 35 = .ok (.aload_n 2, 1) := by decide +kernel
theorem dL_goes_36 : decode cL_goes 36 = .ok (.iconst 2, 1) := by decide +kernel
theorem dL_goes_37 : decode cL_goes 37 = .ok (.iaload, 1) := by decide +kernel
theorem dL_goes_38 : decode cL_goes 38 = .ok (.if_icmp .le 7, 3) := by decide +kernel
theorem dL_goes_41 : decode cL_goes 41 = .ok (.iconst 4, 1) := by decide +kernel
theorem dL_goes_42 : decode cL_goes 42 = .ok (.goto 4, 3) := by decide +kernel
theorem dL_goes_45 : decode cL_goes 45 = .ok (.iconst 5, 1) := by decide +kernel
theorem dL_goes_46 : decode cL_goes 46 = .ok (.ireturn, 1) := by decide +kernel
theorem dL_binOf_0 : decode cL_binOf 0 = .ok (.iconst 0, 1) := by decide +kernel
theorem dL_binOf_1 : decode cL_binOf 1 = .ok (.istore_n 3, 1) := by decide +kernel
theorem dL_binOf_2 : decode cL_binOf 2 = .ok (.aload_n 1, 1) := by decide +kernel
theorem dL_binOf_3 : decode cL_binOf 3 = .ok (.iload_n 3, 1) := by decide +kernel
theorem dL_binOf_4 : decode cL_binOf 4 = .ok (.iaload, 1) := by decide +kernel
theorem dL_binOf_5 : decode cL_binOf 5 = .ok (.aload_n 0, 1) := by decide +kernel
theorem dL_binOf_6 : decode cL_binOf 6 = .ok (.iconst 3, 1) := by decide +kernel
theorem dL_binOf_7 : decode cL_binOf 7 = .ok (.iload_n 2, 1) := by decide +kernel
theorem dL_binOf_8 : decode cL_binOf 8 = .ok (.imul, 1) := by decide +kernel
theorem dL_binOf_9 : decode cL_binOf 9 = .ok (.iconst 1, 1) := by decide +kernel
theorem dL_binOf_10 : decode cL_binOf 10 = .ok (.iadd, 1) := by decide +kernel
theorem dL_binOf_11 : decode cL_binOf 11 = .ok (.iaload, 1) := by decide +kernel
theorem dL_binOf_12 : decode cL_binOf 12 = .ok (.if_icmp .ge 9, 3) := by decide +kernel
theorem dL_binOf_15 : decode cL_binOf 15 = .ok (.iinc 3 1, 3) := by decide +kernel
theorem dL_binOf_18 : decode cL_binOf 18 = .ok (.goto (-16), 3) := by decide +kernel
theorem dL_binOf_21 : decode cL_binOf 21 = .ok (.iconst 4, 1) := by decide +kernel
theorem dL_binOf_22 : decode cL_binOf 22 = .ok (.iload_n 3, 1) := by decide +kernel
theorem dL_binOf_23 : decode cL_binOf 23 = .ok (.imul, 1) := by decide +kernel
theorem dL_binOf_24 : decode cL_binOf 24 = .ok (.aload_n 0, 1) := by decide +kernel
theorem dL_binOf_25 : decode cL_binOf 25 = .ok (.iconst 3, 1) := by decide +kernel
theorem dL_binOf_26 : decode cL_binOf 26 = .ok (.iload_n 2, 1) := by decide +kernel
theorem dL_binOf_27 : decode cL_binOf 27 = .ok (.imul, 1) := by decide +kernel
theorem dL_binOf_28 : decode cL_binOf 28 = .ok (.iaload, 1) := by decide +kernel
theorem dL_binOf_29 : decode cL_binOf 29 = .ok (.iadd, 1) := by decide +kernel
theorem dL_binOf_30 : decode cL_binOf 30 = .ok (.iconst 1, 1) := by decide +kernel
theorem dL_binOf_31 : decode cL_binOf 31 = .ok (.isub, 1) := by decide +kernel
theorem dL_binOf_32 : decode cL_binOf 32 = .ok (.ireturn, 1) := by decide +kernel
set_option maxRecDepth 20000 in
theorem ggL_sorts_L_goes : GoodIn wsL_sorts wsL_goes := goodIn_r _ [4] (by decide +kernel) (by decide +kernel)
set_option maxRecDepth 20000 in
theorem gL_sorts_L_goes : GoodIn wsL_sorts (va_wsS RL 9 yL_goes wsL_goes) := goodIn_app (goodIn_of _ (by decide +kernel)) ggL_sorts_L_goes
set_option maxRecDepth 20000 in
theorem ggL_sorts_L_at : GoodIn wsL_sorts wsL_at := goodIn_r _ [7] (by decide +kernel) (by decide +kernel)
set_option maxRecDepth 20000 in
theorem gL_sorts_L_at : GoodIn wsL_sorts (va_wsS RL 15 yL_at wsL_at) := goodIn_app (goodIn_of _ (by decide +kernel)) ggL_sorts_L_at
set_option maxRecDepth 20000 in
theorem ggL_sorts_L_binOf : GoodIn wsL_sorts wsL_binOf := goodIn_r _ [10] (by decide +kernel) (by decide +kernel)
set_option maxRecDepth 20000 in
theorem gL_sorts_L_binOf : GoodIn wsL_sorts (va_wsS RL 19 yL_binOf wsL_binOf) := goodIn_app (goodIn_of _ (by decide +kernel)) ggL_sorts_L_binOf
set_option maxRecDepth 20000 in
theorem ggL_sorts_L_in : GoodIn wsL_sorts wsL_in := goodIn_r _ [13] (by decide +kernel) (by decide +kernel)
set_option maxRecDepth 20000 in
theorem gL_sorts_L_in : GoodIn wsL_sorts (va_wsS RL 22 yL_in wsL_in) := goodIn_app (goodIn_of _ (by decide +kernel)) ggL_sorts_L_in
theorem dL_sorts_0 : decode cL_sorts 0 = .ok (.aload_n 3, 1) := by decide +kernel
theorem dL_sorts_1 : decode cL_sorts 1 = .ok (.iconst 0, 1) := by decide +kernel
theorem dL_sorts_2 : decode cL_sorts 2 = .ok (.iaload, 1) := by decide +kernel
theorem dL_sorts_3 : decode cL_sorts 3 = .ok (.istore 5, 2) := by decide +kernel
theorem dL_sorts_5 : decode cL_sorts 5 = .ok (.aload 4, 2) := by decide +kernel
theorem dL_sorts_7 : decode cL_sorts 7 = .ok (.bipush 14, 2) := by decide +kernel
theorem dL_sorts_9 : decode cL_sorts 9 = .ok (.dup2, 1) := by decide +kernel
theorem dL_sorts_10 : decode cL_sorts 10 = .ok (.iaload, 1) := by decide +kernel
theorem dL_sorts_11 : decode cL_sorts 11 = .ok (.iconst 1, 1) := by decide +kernel
theorem dL_sorts_12 : decode cL_sorts 12 = .ok (.isub, 1) := by decide +kernel
theorem dL_sorts_13 : decode cL_sorts 13 = .ok (.iastore, 1) := by decide +kernel
theorem dL_sorts_14 : decode cL_sorts 14 = .ok (.iconst 0, 1) := by decide +kernel
theorem dL_sorts_15 : decode cL_sorts 15 = .ok (.istore 6, 2) := by decide +kernel
theorem dL_sorts_17 : decode cL_sorts 17 = .ok (.iload 6, 2) := by decide +kernel
theorem dL_sorts_19 : decode cL_sorts 19 = .ok (.aload 4, 2) := by decide +kernel
theorem dL_sorts_21 : decode cL_sorts 21 = .ok (.bipush 14, 2) := by decide +kernel
theorem dL_sorts_23 : decode cL_sorts 23 = .ok (.iaload, 1) := by decide +kernel
theorem dL_sorts_24 : decode cL_sorts 24 = .ok (.if_icmp .ge 19, 3) := by decide +kernel
theorem dL_sorts_27 : decode cL_sorts 27 = .ok (.aload_n 3, 1) := by decide +kernel
theorem dL_sorts_28 : decode cL_sorts 28 = .ok (.iload 6, 2) := by decide +kernel
theorem dL_sorts_30 : decode cL_sorts 30 = .ok (.aload_n 3, 1) := by decide +kernel
theorem dL_sorts_31 : decode cL_sorts 31 = .ok (.iload 6, 2) := by decide +kernel
theorem dL_sorts_33 : decode cL_sorts 33 = .ok (.iconst 1, 1) := by decide +kernel
theorem dL_sorts_34 : decode cL_sorts 34 = .ok (.iadd, 1) := by decide +kernel
theorem dL_sorts_35 : decode cL_sorts 35 = .ok (.iaload, 1) := by decide +kernel
theorem dL_sorts_36 : decode cL_sorts 36 = .ok (.iastore, 1) := by decide +kernel
theorem dL_sorts_37 : decode cL_sorts 37 = .ok (.iinc 6 1, 3) := by decide +kernel
theorem dL_sorts_40 : decode cL_sorts 40 = .ok (.goto (-23), 3) := by decide +kernel
theorem dL_sorts_43 : decode cL_sorts 43 = .ok (.aload 4, 2) := by decide +kernel
theorem dL_sorts_45 : decode cL_sorts 45 = .ok (.bipush 10, 2) := by decide +kernel
theorem dL_sorts_47 : decode cL_sorts 47 = .ok (.dup2, 1) := by decide +kernel
theorem dL_sorts_48 : decode cL_sorts 48 = .ok (.iaload, 1) := by decide +kernel
theorem dL_sorts_49 : decode cL_sorts 49 = .ok (.iconst 1, 1) := by decide +kernel
theorem dL_sorts_50 : decode cL_sorts 50 = .ok (.iadd, 1) := by decide +kernel
theorem dL_sorts_51 : decode cL_sorts 51 = .ok (.iastore, 1) := by decide +kernel
theorem dL_sorts_52 : decode cL_sorts 52 = .ok (.aload_n 1, 1) := by decide +kernel
theorem dL_sorts_53 : decode cL_sorts 53 = .ok (.iconst 3, 1) := by decide +kernel
theorem dL_sorts_54 : decode cL_sorts 54 = .ok (.iload 5, 2) := by decide +kernel
theorem dL_sorts_56 : decode cL_sorts 56 = .ok (.imul, 1) := by decide +kernel
theorem dL_sorts_57 : decode cL_sorts 57 = .ok (.iconst 2, 1) := by decide +kernel
theorem dL_sorts_58 : decode cL_sorts 58 = .ok (.iadd, 1) := by decide +kernel
theorem dL_sorts_59 : decode cL_sorts 59 = .ok (.dup2, 1) := by decide +kernel
theorem dL_sorts_60 : decode cL_sorts 60 = .ok (.iaload, 1) := by decide +kernel
theorem dL_sorts_61 : decode cL_sorts 61 = .ok (.iconst 1, 1) := by decide +kernel
theorem dL_sorts_62 : decode cL_sorts 62 = .ok (.iadd, 1) := by decide +kernel
theorem dL_sorts_63 : decode cL_sorts 63 = .ok (.iastore, 1) := by decide +kernel
theorem dL_sorts_64 : decode cL_sorts 64 = .ok (.aload_n 0, 1) := by decide +kernel
theorem dL_sorts_65 : decode cL_sorts 65 = .ok (.aload_n 1, 1) := by decide +kernel
theorem dL_sorts_66 : decode cL_sorts 66 = .ok (.aload 4, 2) := by decide +kernel
theorem dL_sorts_68 : decode cL_sorts 68 = .ok (.iload 5, 2) := by decide +kernel
theorem dL_sorts_70 : decode cL_sorts 70 = .ok (.invokestatic 9, 3) := by decide +kernel
theorem dL_sorts_73 : decode cL_sorts 73 = .ok (.istore 6, 2) := by decide +kernel
theorem dL_sorts_75 : decode cL_sorts 75 = .ok (.iload 6, 2) := by decide +kernel
theorem dL_sorts_77 : decode cL_sorts 77 = .ok (.iconst 5, 1) := by decide +kernel
theorem dL_sorts_78 : decode cL_sorts 78 = .ok (.if_icmp .ge 89, 3) := by decide +kernel
theorem dL_sorts_81 : decode cL_sorts 81 = .ok (.aload_n 2, 1) := by decide +kernel
theorem dL_sorts_82 : decode cL_sorts 82 = .ok (.iconst 3, 1) := by decide +kernel
theorem dL_sorts_83 : decode cL_sorts 83 = .ok (.iload 5, 2) := by decide +kernel
theorem dL_sorts_85 : decode cL_sorts 85 = .ok (.imul, 1) := by decide +kernel
theorem dL_sorts_86 : decode cL_sorts 86 = .ok (.iload 6, 2) := by decide +kernel
theorem dL_sorts_88 : decode cL_sorts 88 = .ok (.iastore, 1) := by decide +kernel
theorem dL_sorts_89 : decode cL_sorts 89 = .ok (.aload_n 2, 1) := by decide +kernel
theorem dL_sorts_90 : decode cL_sorts 90 = .ok (.aload 4, 2) := by decide +kernel
theorem dL_sorts_92 : decode cL_sorts 92 = .ok (.iconst 2, 1) := by decide +kernel
theorem dL_sorts_93 : decode cL_sorts 93 = .ok (.invokestatic 15, 3) := by decide +kernel
theorem dL_sorts_96 : decode cL_sorts 96 = .ok (.aload 4, 2) := by decide +kernel
theorem dL_sorts_98 : decode cL_sorts 98 = .ok (.iconst 5, 1) := by decide +kernel
theorem dL_sorts_99 : decode cL_sorts 99 = .ok (.iaload, 1) := by decide +kernel
theorem dL_sorts_100 : decode cL_sorts 100 = .ok (.if_icmp .lt 7, 3) := by decide +kernel
theorem dL_sorts_103 : decode cL_sorts 103 = .ok (.iconst 1, 1) := by decide +kernel
theorem dL_sorts_104 : decode cL_sorts 104 = .ok (.goto 4, 3) := by decide +kernel
theorem dL_sorts_107 : decode cL_sorts 107 = .ok (.iconst 0, 1) := by decide +kernel
theorem dL_sorts_108 : decode cL_sorts 108 = .ok (.istore 7, 2) := by decide +kernel
theorem dL_sorts_110 : decode cL_sorts 110 = .ok (.iconst 0, 1) := by decide +kernel
theorem dL_sorts_111 : decode cL_sorts 111 = .ok (.istore 8, 2) := by decide +kernel
theorem dL_sorts_113 : decode cL_sorts 113 = .ok (.iload 8, 2) := by decide +kernel
theorem dL_sorts_115 : decode cL_sorts 115 = .ok (.aload 4, 2) := by decide +kernel
theorem dL_sorts_117 : decode cL_sorts 117 = .ok (.bipush 13, 2) := by decide +kernel
theorem dL_sorts_119 : decode cL_sorts 119 = .ok (.iaload, 1) := by decide +kernel
theorem dL_sorts_120 : decode cL_sorts 120 = .ok (.if_icmp .ge 46, 3) := by decide +kernel
theorem dL_sorts_123 : decode cL_sorts 123 = .ok (.iload 6, 2) := by decide +kernel
theorem dL_sorts_125 : decode cL_sorts 125 = .ok (.iconst 2, 1) := by decide +kernel
theorem dL_sorts_126 : decode cL_sorts 126 = .ok (.if_icmp .ne 40, 3) := by decide +kernel
theorem dL_sorts_129 : decode cL_sorts 129 = .ok (.iload 7, 2) := by decide +kernel
theorem dL_sorts_131 : decode cL_sorts 131 = .ok (.ifCond .eq 35, 3) := by decide +kernel
theorem dL_sorts_134 : decode cL_sorts 134 = .ok (.aload_n 2, 1) := by decide +kernel
theorem dL_sorts_135 : decode cL_sorts 135 = .ok (.iconst 3, 1) := by decide +kernel
theorem dL_sorts_136 : decode cL_sorts 136 = .ok (.iload 8, 2) := by decide +kernel
theorem dL_sorts_138 : decode cL_sorts 138 = .ok (.imul, 1) := by decide +kernel
theorem dL_sorts_139 : decode cL_sorts 139 = .ok (.aload_n 2, 1) := by decide +kernel
theorem dL_sorts_140 : decode cL_sorts 140 = .ok (.iconst 3, 1) := by decide +kernel
theorem dL_sorts_141 : decode cL_sorts 141 = .ok (.iload 8, 2) := by decide +kernel
theorem dL_sorts_143 : decode cL_sorts 143 = .ok (.imul, 1) := by decide +kernel
theorem dL_sorts_144 : decode cL_sorts 144 = .ok (.iaload, 1) := by decide +kernel
theorem dL_sorts_145 : decode cL_sorts 145 = .ok (.iconst 2, 1) := by decide +kernel
theorem dL_sorts_146 : decode cL_sorts 146 = .ok (.if_icmp .ne 7, 3) := by decide +kernel
theorem dL_sorts_149 : decode cL_sorts 149 = .ok (.iconst 3, 1) := by decide +kernel
theorem dL_sorts_150 : decode cL_sorts 150 = .ok (.goto 9, 3) := by decide +kernel
theorem dL_sorts_153 : decode cL_sorts 153 = .ok (.aload_n 2, 1) := by decide +kernel
theorem dL_sorts_154 : decode cL_sorts 154 = .ok (.iconst 3, 1) := by decide +kernel
theorem dL_sorts_155 : decode cL_sorts 155 = .ok (.iload 8, 2) := by decide +kernel
theorem dL_sorts_157 : decode cL_sorts 157 = .ok (.imul, 1) := by decide +kernel
theorem dL_sorts_158 : decode cL_sorts 158 = .ok (.iaload, 1) := by decide +kernel
theorem dL_sorts_159 : decode cL_sorts 159 = .ok (.iastore, 1) := by decide +kernel
theorem dL_sorts_160 : decode cL_sorts 160 = .ok (.iinc 8 1, 3) := by decide +kernel
theorem dL_sorts_163 : decode cL_sorts 163 = .ok (.goto (-50), 3) := by decide +kernel
theorem dL_sorts_166 : decode cL_sorts 166 = .ok (.return_, 1) := by decide +kernel
theorem dL_sorts_167 : decode cL_sorts 167 = .ok (.aload_n 0, 1) := by decide +kernel
theorem dL_sorts_168 : decode cL_sorts 168 = .ok (.aload 4, 2) := by decide +kernel
theorem dL_sorts_170 : decode cL_sorts 170 = .ok (.iload 5, 2) := by decide +kernel
theorem dL_sorts_172 : decode cL_sorts 172 = .ok (.invokestatic 19, 3) := by decide +kernel
theorem dL_sorts_175 : decode cL_sorts 175 = .ok (.istore 7, 2) := by decide +kernel
theorem dL_sorts_177 : decode cL_sorts 177 = .ok (.aload_n 0, 1) := by decide +kernel
theorem dL_sorts_178 : decode cL_sorts 178 = .ok (.iconst 3, 1) := by decide +kernel
theorem dL_sorts_179 : decode cL_sorts 179 = .ok (.iload 5, 2) := by decide +kernel
theorem dL_sorts_181 : decode cL_sorts 181 = .ok (.imul, 1) := by decide +kernel
theorem dL_sorts_182 : decode cL_sorts 182 = .ok (.iconst 1, 1) := by decide +kernel
theorem dL_sorts_183 : decode cL_sorts 183 = .ok (.iadd, 1) := by decide +kernel
theorem dL_sorts_184 : decode cL_sorts 184 = .ok (.iaload, 1) := by decide +kernel
theorem dL_sorts_185 : decode cL_sorts 185 = .ok (.aload 4, 2) := by decide +kernel
theorem dL_sorts_187 : decode cL_sorts 187 = .ok (.iload 7, 2) := by decide +kernel
theorem dL_sorts_189 : decode cL_sorts 189 = .ok (.iconst 4, 1) := by decide +kernel
theorem dL_sorts_190 : decode cL_sorts 190 = .ok (.idiv, 1) := by decide +kernel
theorem dL_sorts_191 : decode cL_sorts 191 = .ok (.iaload, 1) := by decide +kernel
theorem dL_sorts_192 : decode cL_sorts 192 = .ok (.if_icmp .ne 37, 3) := by decide +kernel
theorem dL_sorts_195 : decode cL_sorts 195 = .ok (.aload_n 1, 1) := by decide +kernel
theorem dL_sorts_196 : decode cL_sorts 196 = .ok (.iconst 3, 1) := by decide +kernel
theorem dL_sorts_197 : decode cL_sorts 197 = .ok (.iload 5, 2) := by decide +kernel
theorem dL_sorts_199 : decode cL_sorts 199 = .ok (.imul, 1) := by decide +kernel
theorem dL_sorts_200 : decode cL_sorts 200 = .ok (.dup2, 1) := by decide +kernel
theorem dL_sorts_201 : decode cL_sorts 201 = .ok (.iaload, 1) := by decide +kernel
theorem dL_sorts_202 : decode cL_sorts 202 = .ok (.aload_n 1, 1) := by decide +kernel
theorem dL_sorts_203 : decode cL_sorts 203 = .ok (.iconst 3, 1) := by decide +kernel
theorem dL_sorts_204 : decode cL_sorts 204 = .ok (.iload 5, 2) := by decide +kernel
theorem dL_sorts_206 : decode cL_sorts 206 = .ok (.imul, 1) := by decide +kernel
theorem dL_sorts_207 : decode cL_sorts 207 = .ok (.iaload, 1) := by decide +kernel
theorem dL_sorts_208 : decode cL_sorts 208 = .ok (.bipush 9, 2) := by decide +kernel
theorem dL_sorts_210 : decode cL_sorts 210 = .ok (.if_icmp .ne 7, 3) := by decide +kernel
theorem dL_sorts_213 : decode cL_sorts 213 = .ok (.iconst 0, 1) := by decide +kernel
theorem dL_sorts_214 : decode cL_sorts 214 = .ok (.goto 4, 3) := by decide +kernel
theorem dL_sorts_217 : decode cL_sorts 217 = .ok (.iconst 1, 1) := by decide +kernel
theorem dL_sorts_218 : decode cL_sorts 218 = .ok (.iadd, 1) := by decide +kernel
theorem dL_sorts_219 : decode cL_sorts 219 = .ok (.iastore, 1) := by decide +kernel
theorem dL_sorts_220 : decode cL_sorts 220 = .ok (.aload 4, 2) := by decide +kernel
theorem dL_sorts_222 : decode cL_sorts 222 = .ok (.bipush 12, 2) := by decide +kernel
theorem dL_sorts_224 : decode cL_sorts 224 = .ok (.dup2, 1) := by decide +kernel
theorem dL_sorts_225 : decode cL_sorts 225 = .ok (.iaload, 1) := by decide +kernel
theorem dL_sorts_226 : decode cL_sorts 226 = .ok (.iconst 1, 1) := by decide +kernel
theorem dL_sorts_227 : decode cL_sorts 227 = .ok (.iadd, 1) := by decide +kernel
theorem dL_sorts_228 : decode cL_sorts 228 = .ok (.iastore, 1) := by decide +kernel
theorem dL_sorts_229 : decode cL_sorts 229 = .ok (.aload_n 2, 1) := by decide +kernel
theorem dL_sorts_230 : decode cL_sorts 230 = .ok (.aload 4, 2) := by decide +kernel
theorem dL_sorts_232 : decode cL_sorts 232 = .ok (.iload 7, 2) := by decide +kernel
theorem dL_sorts_234 : decode cL_sorts 234 = .ok (.invokestatic 22, 3) := by decide +kernel
theorem dL_sorts_237 : decode cL_sorts 237 = .ok (.aload 4, 2) := by decide +kernel
theorem dL_sorts_239 : decode cL_sorts 239 = .ok (.bipush 6, 2) := by decide +kernel
theorem dL_sorts_241 : decode cL_sorts 241 = .ok (.iaload, 1) := by decide +kernel
theorem dL_sorts_242 : decode cL_sorts 242 = .ok (.if_icmp .ge 7, 3) := by decide +kernel
theorem dL_sorts_245 : decode cL_sorts 245 = .ok (.iconst 1, 1) := by decide +kernel
theorem dL_sorts_246 : decode cL_sorts 246 = .ok (.goto 4, 3) := by decide +kernel
theorem dL_sorts_249 : decode cL_sorts 249 = .ok (.iconst 0, 1) := by decide +kernel
theorem dL_sorts_250 : decode cL_sorts 250 = .ok (.istore 8, 2) := by decide +kernel
theorem dL_sorts_252 : decode cL_sorts 252 = .ok (.aload_n 2, 1) := by decide +kernel
theorem dL_sorts_253 : decode cL_sorts 253 = .ok (.iconst 3, 1) := by decide +kernel
theorem dL_sorts_254 : decode cL_sorts 254 = .ok (.iload 5, 2) := by decide +kernel
theorem dL_sorts_256 : decode cL_sorts 256 = .ok (.imul, 1) := by decide +kernel
theorem dL_sorts_257 : decode cL_sorts 257 = .ok (.iload 8, 2) := by decide +kernel
theorem dL_sorts_259 : decode cL_sorts 259 = .ok (.ifCond .eq 7, 3) := by decide +kernel
theorem dL_sorts_262 : decode cL_sorts 262 = .ok (.iconst 5, 1) := by decide +kernel
theorem dL_sorts_263 : decode cL_sorts 263 = .ok (.goto 4, 3) := by decide +kernel
theorem dL_sorts_266 : decode cL_sorts 266 = .ok (.iconst 0, 1) := by decide +kernel
theorem dL_sorts_267 : decode cL_sorts 267 = .ok (.iastore, 1) := by decide +kernel
theorem dL_sorts_268 : decode cL_sorts 268 = .ok (.aload_n 2, 1) := by decide +kernel
theorem dL_sorts_269 : decode cL_sorts 269 = .ok (.iconst 3, 1) := by decide +kernel
theorem dL_sorts_270 : decode cL_sorts 270 = .ok (.iload 5, 2) := by decide +kernel
theorem dL_sorts_272 : decode cL_sorts 272 = .ok (.imul, 1) := by decide +kernel
theorem dL_sorts_273 : decode cL_sorts 273 = .ok (.iconst 1, 1) := by decide +kernel
theorem dL_sorts_274 : decode cL_sorts 274 = .ok (.iadd, 1) := by decide +kernel
theorem dL_sorts_275 : decode cL_sorts 275 = .ok (.iload 8, 2) := by decide +kernel
theorem dL_sorts_277 : decode cL_sorts 277 = .ok (.ifCond .eq 8, 3) := by decide +kernel
theorem dL_sorts_280 : decode cL_sorts 280 = .ok (.iload 7, 2) := by decide +kernel
theorem dL_sorts_282 : decode cL_sorts 282 = .ok (.goto 5, 3) := by decide +kernel
theorem dL_sorts_285 : decode cL_sorts 285 = .ok (.bipush (-5), 2) := by decide +kernel
theorem dL_sorts_287 : decode cL_sorts 287 = .ok (.iastore, 1) := by decide +kernel
theorem dL_sorts_288 : decode cL_sorts 288 = .ok (.iload 8, 2) := by decide +kernel
theorem dL_sorts_290 : decode cL_sorts 290 = .ok (.ifCond .ne 30, 3) := by decide +kernel
theorem dL_sorts_293 : decode cL_sorts 293 = .ok (.aload_n 3, 1) := by decide +kernel
theorem dL_sorts_294 : decode cL_sorts 294 = .ok (.aload 4, 2) := by decide +kernel
theorem dL_sorts_296 : decode cL_sorts 296 = .ok (.bipush 14, 2) := by decide +kernel
theorem dL_sorts_298 : decode cL_sorts 298 = .ok (.iaload, 1) := by decide +kernel
theorem dL_sorts_299 : decode cL_sorts 299 = .ok (.iload 5, 2) := by decide +kernel
theorem dL_sorts_301 : decode cL_sorts 301 = .ok (.iastore, 1) := by decide +kernel
theorem dL_sorts_302 : decode cL_sorts 302 = .ok (.aload 4, 2) := by decide +kernel
theorem dL_sorts_304 : decode cL_sorts 304 = .ok (.bipush 14, 2) := by decide +kernel
theorem dL_sorts_306 : decode cL_sorts 306 = .ok (.dup2, 1) := by decide +kernel
theorem dL_sorts_307 : decode cL_sorts 307 = .ok (.iaload, 1) := by decide +kernel
theorem dL_sorts_308 : decode cL_sorts 308 = .ok (.iconst 1, 1) := by decide +kernel
theorem dL_sorts_309 : decode cL_sorts 309 = .ok (.iadd, 1) := by decide +kernel
theorem dL_sorts_310 : decode cL_sorts 310 = .ok (.iastore, 1) := by decide +kernel
theorem dL_sorts_311 : decode cL_sorts 311 = .ok (.aload 4, 2) := by decide +kernel
theorem dL_sorts_313 : decode cL_sorts 313 = .ok (.bipush 11, 2) := by decide +kernel
theorem dL_sorts_315 : decode cL_sorts 315 = .ok (.dup2, 1) := by decide +kernel
theorem dL_sorts_316 : decode cL_sorts 316 = .ok (.iaload, 1) := by decide +kernel
theorem dL_sorts_317 : decode cL_sorts 317 = .ok (.iconst 1, 1) := by decide +kernel
theorem dL_sorts_318 : decode cL_sorts 318 = .ok (.iadd, 1) := by decide +kernel
theorem dL_sorts_319 : decode cL_sorts 319 = .ok (.iastore, 1) := by decide +kernel
theorem dL_sorts_320 : decode cL_sorts 320 = .ok (.return_, 1) := by decide +kernel
theorem dL_next_0 : decode cL_next 0 = .ok (.bipush (-5), 2) := by decide +kernel
theorem dL_next_2 : decode cL_next 2 = .ok (.istore 5, 2) := by decide +kernel
theorem dL_next_4 : decode cL_next 4 = .ok (.iconst 0, 1) := by decide +kernel
theorem dL_next_5 : decode cL_next 5 = .ok (.istore 6, 2) := by decide +kernel
theorem dL_next_7 : decode cL_next 7 = .ok (.iload 6, 2) := by decide +kernel
theorem dL_next_9 : decode cL_next 9 = .ok (.aload_n 2, 1) := by decide +kernel
theorem dL_next_10 : decode cL_next 10 = .ok (.bipush 13, 2) := by decide +kernel
theorem dL_next_12 : decode cL_next 12 = .ok (.iaload, 1) := by decide +kernel
theorem dL_next_13 : decode cL_next 13 = .ok (.if_icmp .ge 138, 3) := by decide +kernel
theorem dL_next_16 : decode cL_next 16 = .ok (.aload_n 1, 1) := by decide +kernel
theorem dL_next_17 : decode cL_next 17 = .ok (.iconst 3, 1) := by decide +kernel
theorem dL_next_18 : decode cL_next 18 = .ok (.iload 6, 2) := by decide +kernel
theorem dL_next_20 : decode cL_next 20 = .ok (.imul, 1) := by decide +kernel
theorem dL_next_21 : decode cL_next 21 = .ok (.iaload, 1) := by decide +kernel
theorem dL_next_22 : decode cL_next 22 = .ok (.iconst 5, 1) := by decide +kernel
theorem dL_next_23 : decode cL_next 23 = .ok (.if_icmp .ne 19, 3) := by decide +kernel
theorem dL_next_26 : decode cL_next 26 = .ok (.aload_n 1, 1) := by decide +kernel
theorem dL_next_27 : decode cL_next 27 = .ok (.iconst 3, 1) := by decide +kernel
theorem dL_next_28 : decode cL_next 28 = .ok (.iload 6, 2) := by decide +kernel
theorem dL_next_30 : decode cL_next 30 = .ok (.imul, 1) := by decide +kernel
theorem dL_next_31 : decode cL_next 31 = .ok (.iconst 1, 1) := by decide +kernel
theorem dL_next_32 : decode cL_next 32 = .ok (.iadd, 1) := by decide +kernel
theorem dL_next_33 : decode cL_next 33 = .ok (.iaload, 1) := by decide +kernel
theorem dL_next_34 : decode cL_next 34 = .ok (.iload_n 3, 1) := by decide +kernel
theorem dL_next_35 : decode cL_next 35 = .ok (.if_icmp .ne 7, 3) := by decide +kernel
theorem dL_next_38 : decode cL_next 38 = .ok (.iconst 1, 1) := by decide +kernel
theorem dL_next_39 : decode cL_next 39 = .ok (.goto 4, 3) := by decide +kernel
theorem dL_next_42 : decode cL_next 42 = .ok (.iconst 0, 1) := by decide +kernel
theorem dL_next_43 : decode cL_next 43 = .ok (.istore 7, 2) := by decide +kernel
theorem dL_next_45 : decode cL_next 45 = .ok (.iload 4, 2) := by decide +kernel
theorem dL_next_47 : decode cL_next 47 = .ok (.ifCond .lt 48, 3) := by decide +kernel
theorem dL_next_50 : decode cL_next 50 = .ok (.aload_n 0, 1) := by decide +kernel
theorem dL_next_51 : decode cL_next 51 = .ok (.iconst 3, 1) := by decide +kernel
theorem dL_next_52 : decode cL_next 52 = .ok (.iload 6, 2) := by decide +kernel
theorem dL_next_54 : decode cL_next 54 = .ok (.imul, 1) := by decide +kernel
theorem dL_next_55 : decode cL_next 55 = .ok (.iconst 1, 1) := by decide +kernel
theorem dL_next_56 : decode cL_next 56 = .ok (.iadd, 1) := by decide +kernel
theorem dL_next_57 : decode cL_next 57 = .ok (.iaload, 1) := by decide +kernel
theorem dL_next_58 : decode cL_next 58 = .ok (.aload_n 0, 1) := by decide +kernel
theorem dL_next_59 : decode cL_next 59 = .ok (.iconst 3, 1) := by decide +kernel
theorem dL_next_60 : decode cL_next 60 = .ok (.iload 4, 2) := by decide +kernel
theorem dL_next_62 : decode cL_next 62 = .ok (.imul, 1) := by decide +kernel
theorem dL_next_63 : decode cL_next 63 = .ok (.iconst 1, 1) := by decide +kernel
theorem dL_next_64 : decode cL_next 64 = .ok (.iadd, 1) := by decide +kernel
theorem dL_next_65 : decode cL_next 65 = .ok (.iaload, 1) := by decide +kernel
theorem dL_next_66 : decode cL_next 66 = .ok (.if_icmp .gt 29, 3) := by decide +kernel
theorem dL_next_69 : decode cL_next 69 = .ok (.aload_n 0, 1) := by decide +kernel
theorem dL_next_70 : decode cL_next 70 = .ok (.iconst 3, 1) := by decide +kernel
theorem dL_next_71 : decode cL_next 71 = .ok (.iload 6, 2) := by decide +kernel
theorem dL_next_73 : decode cL_next 73 = .ok (.imul, 1) := by decide +kernel
theorem dL_next_74 : decode cL_next 74 = .ok (.iconst 1, 1) := by decide +kernel
theorem dL_next_75 : decode cL_next 75 = .ok (.iadd, 1) := by decide +kernel
theorem dL_next_76 : decode cL_next 76 = .ok (.iaload, 1) := by decide +kernel
theorem dL_next_77 : decode cL_next 77 = .ok (.aload_n 0, 1) := by decide +kernel
theorem dL_next_78 : decode cL_next 78 = .ok (.iconst 3, 1) := by decide +kernel
theorem dL_next_79 : decode cL_next 79 = .ok (.iload 4, 2) := by decide +kernel
theorem dL_next_81 : decode cL_next 81 = .ok (.imul, 1) := by decide +kernel
theorem dL_next_82 : decode cL_next 82 = .ok (.iconst 1, 1) := by decide +kernel
theorem dL_next_83 : decode cL_next 83 = .ok (.iadd, 1) := by decide +kernel
theorem dL_next_84 : decode cL_next 84 = .ok (.iaload, 1) := by decide +kernel
theorem dL_next_85 : decode cL_next 85 = .ok (.if_icmp .ne 14, 3) := by decide +kernel
theorem dL_next_88 : decode cL_next 88 = .ok (.iload 6, 2) := by decide +kernel
theorem dL_next_90 : decode cL_next 90 = .ok (.iload 4, 2) := by decide +kernel
theorem dL_next_92 : decode cL_next 92 = .ok (.if_icmp .le 7, 3) := by decide +kernel
theorem dL_next_95 : decode cL_next 95 = .ok (.iconst 1, 1) := by decide +kernel
theorem dL_next_96 : decode cL_next 96 = .ok (.goto 4, 3) := by decide +kernel
theorem dL_next_99 : decode cL_next 99 = .ok (.iconst 0, 1) := by decide +kernel
theorem dL_next_100 : decode cL_next 100 = .ok (.istore 8, 2) := by decide +kernel
theorem dL_next_102 : decode cL_next 102 = .ok (.iload 7, 2) := by decide +kernel
theorem dL_next_104 : decode cL_next 104 = .ok (.ifCond .eq 37, 3) := by decide +kernel
theorem dL_next_107 : decode cL_next 107 = .ok (.iload 8, 2) := by decide +kernel
theorem dL_next_109 : decode cL_next 109 = .ok (.ifCond .eq 32, 3) := by decide +kernel
theorem dL_next_112 : decode cL_next 112 = .ok (.iload 5, 2) := by decide +kernel
theorem dL_next_114 : decode cL_next 114 = .ok (.ifCond .lt 22, 3) := by decide +kernel
theorem dL_next_117 : decode cL_next 117 = .ok (.aload_n 0, 1) := by decide +kernel
theorem dL_next_118 : decode cL_next 118 = .ok (.iconst 3, 1) := by decide +kernel
theorem dL_next_119 : decode cL_next 119 = .ok (.iload 6, 2) := by decide +kernel
theorem dL_next_121 : decode cL_next 121 = .ok (.imul, 1) := by decide +kernel
theorem dL_next_122 : decode cL_next 122 = .ok (.iconst 1, 1) := by decide +kernel
theorem dL_next_123 : decode cL_next 123 = .ok (.iadd, 1) := by decide +kernel
theorem dL_next_124 : decode cL_next 124 = .ok (.iaload, 1) := by decide +kernel
theorem dL_next_125 : decode cL_next 125 = .ok (.aload_n 0, 1) := by decide +kernel
theorem dL_next_126 : decode cL_next 126 = .ok (.iconst 3, 1) := by decide +kernel
theorem dL_next_127 : decode cL_next 127 = .ok (.iload 5, 2) := by decide +kernel
theorem dL_next_129 : decode cL_next 129 = .ok (.imul, 1) := by decide +kernel
theorem dL_next_130 : decode cL_next 130 = .ok (.iconst 1, 1) := by decide +kernel
theorem dL_next_131 : decode cL_next 131 = .ok (.iadd, 1) := by decide +kernel
theorem dL_next_132 : decode cL_next 132 = .ok (.iaload, 1) := by decide +kernel
theorem dL_next_133 : decode cL_next 133 = .ok (.if_icmp .ge 8, 3) := by decide +kernel
theorem dL_next_136 : decode cL_next 136 = .ok (.iload 6, 2) := by decide +kernel
theorem dL_next_138 : decode cL_next 138 = .ok (.goto 5, 3) := by decide +kernel
theorem dL_next_141 : decode cL_next 141 = .ok (.iload 5, 2) := by decide +kernel
theorem dL_next_143 : decode cL_next 143 = .ok (.istore 5, 2) := by decide +kernel
theorem dL_next_145 : decode cL_next 145 = .ok (.iinc 6 1, 3) := by decide +kernel
theorem dL_next_148 : decode cL_next 148 = .ok (.goto (-141), 3) := by decide +kernel
theorem dL_next_151 : decode cL_next 151 = .ok (.iload 5, 2) := by decide +kernel
theorem dL_next_153 : decode cL_next 153 = .ok (.ireturn, 1) := by decide +kernel
set_option maxRecDepth 20000 in
theorem ggL_differs_L_next : GoodIn wsL_differs wsL_next := goodIn_r _ [4] (by decide +kernel) (by decide +kernel)
set_option maxRecDepth 20000 in
theorem gL_differs_L_next : GoodIn wsL_differs (va_wsS RL 25 yL_next wsL_next) := goodIn_app (goodIn_of _ (by decide +kernel)) ggL_differs_L_next
theorem dL_differs_0 : decode cL_differs 0 = .ok (.iload 4, 2) := by decide +kernel
theorem dL_differs_2 : decode cL_differs 2 = .ok (.istore 6, 2) := by decide +kernel
theorem dL_differs_4 : decode cL_differs 4 = .ok (.iconst 1, 1) := by decide +kernel
theorem dL_differs_5 : decode cL_differs 5 = .ok (.istore 7, 2) := by decide +kernel
theorem dL_differs_7 : decode cL_differs 7 = .ok (.iload 7, 2) := by decide +kernel
theorem dL_differs_9 : decode cL_differs 9 = .ok (.iload 5, 2) := by decide +kernel
theorem dL_differs_11 : decode cL_differs 11 = .ok (.if_icmp .ge 25, 3) := by decide +kernel
theorem dL_differs_14 : decode cL_differs 14 = .ok (.iload 6, 2) := by decide +kernel
theorem dL_differs_16 : decode cL_differs 16 = .ok (.ifCond .lt 20, 3) := by decide +kernel
theorem dL_differs_19 : decode cL_differs 19 = .ok (.aload_n 0, 1) := by decide +kernel
theorem dL_differs_20 : decode cL_differs 20 = .ok (.aload_n 1, 1) := by decide +kernel
theorem dL_differs_21 : decode cL_differs 21 = .ok (.aload_n 2, 1) := by decide +kernel
theorem dL_differs_22 : decode cL_differs 22 = .ok (.iload_n 3, 1) := by decide +kernel
theorem dL_differs_23 : decode cL_differs 23 = .ok (.iload 6, 2) := by decide +kernel
theorem dL_differs_25 : decode cL_differs 25 = .ok (.invokestatic 25, 3) := by decide +kernel
theorem dL_differs_28 : decode cL_differs 28 = .ok (.istore 6, 2) := by decide +kernel
theorem dL_differs_30 : decode cL_differs 30 = .ok (.iinc 7 1, 3) := by decide +kernel
theorem dL_differs_33 : decode cL_differs 33 = .ok (.goto (-26), 3) := by decide +kernel
theorem dL_differs_36 : decode cL_differs 36 = .ok (.iload 4, 2) := by decide +kernel
theorem dL_differs_38 : decode cL_differs 38 = .ok (.ifCond .lt 8, 3) := by decide +kernel
theorem dL_differs_41 : decode cL_differs 41 = .ok (.iload 6, 2) := by decide +kernel
theorem dL_differs_43 : decode cL_differs 43 = .ok (.ifCond .ge 8, 3) := by decide +kernel
theorem dL_differs_46 : decode cL_differs 46 = .ok (.bipush (-5), 2) := by decide +kernel
theorem dL_differs_48 : decode cL_differs 48 = .ok (.goto 20, 3) := by decide +kernel
theorem dL_differs_51 : decode cL_differs 51 = .ok (.aload_n 0, 1) := by decide +kernel
theorem dL_differs_52 : decode cL_differs 52 = .ok (.iconst 3, 1) := by decide +kernel
theorem dL_differs_53 : decode cL_differs 53 = .ok (.iload 6, 2) := by decide +kernel
theorem dL_differs_55 : decode cL_differs 55 = .ok (.imul, 1) := by decide +kernel
theorem dL_differs_56 : decode cL_differs 56 = .ok (.iconst 1, 1) := by decide +kernel
theorem dL_differs_57 : decode cL_differs 57 = .ok (.iadd, 1) := by decide +kernel
theorem dL_differs_58 : decode cL_differs 58 = .ok (.iaload, 1) := by decide +kernel
theorem dL_differs_59 : decode cL_differs 59 = .ok (.aload_n 0, 1) := by decide +kernel
theorem dL_differs_60 : decode cL_differs 60 = .ok (.iconst 3, 1) := by decide +kernel
theorem dL_differs_61 : decode cL_differs 61 = .ok (.iload 4, 2) := by decide +kernel
theorem dL_differs_63 : decode cL_differs 63 = .ok (.imul, 1) := by decide +kernel
theorem dL_differs_64 : decode cL_differs 64 = .ok (.iconst 1, 1) := by decide +kernel
theorem dL_differs_65 : decode cL_differs 65 = .ok (.iadd, 1) := by decide +kernel
theorem dL_differs_66 : decode cL_differs 66 = .ok (.iaload, 1) := by decide +kernel
theorem dL_differs_67 : decode cL_differs 67 = .ok (.isub, 1) := by decide +kernel
theorem dL_differs_68 : decode cL_differs 68 = .ok (.ireturn, 1) := by decide +kernel
set_option maxRecDepth 20000 in
theorem ggL_first_L_next : GoodIn wsL_first wsL_next := goodIn_r _ [4] (by decide +kernel) (by decide +kernel)
set_option maxRecDepth 20000 in
theorem gL_first_L_next : GoodIn wsL_first (va_wsS RL 25 yL_next wsL_next) := goodIn_app (goodIn_of _ (by decide +kernel)) ggL_first_L_next
set_option maxRecDepth 20000 in
theorem ggL_first_L_differs : GoodIn wsL_first wsL_differs := goodIn_r _ [7, 1, 2, 3, 4] (by decide +kernel) (by decide +kernel)
set_option maxRecDepth 20000 in
theorem gL_first_L_differs : GoodIn wsL_first (va_wsS RL 29 yL_differs wsL_differs) := goodIn_app (goodIn_of _ (by decide +kernel)) ggL_first_L_differs
theorem dL_first_0 : decode cL_first 0 = .ok (.aload_n 0, 1) := by decide +kernel
theorem dL_first_1 : decode cL_first 1 = .ok (.aload_n 1, 1) := by decide +kernel
theorem dL_first_2 : decode cL_first 2 = .ok (.aload_n 2, 1) := by decide +kernel
theorem dL_first_3 : decode cL_first 3 = .ok (.iload_n 3, 1) := by decide +kernel
theorem dL_first_4 : decode cL_first 4 = .ok (.bipush (-5), 2) := by decide +kernel
theorem dL_first_6 : decode cL_first 6 = .ok (.invokestatic 25, 3) := by decide +kernel
theorem dL_first_9 : decode cL_first 9 = .ok (.istore 5, 2) := by decide +kernel
theorem dL_first_11 : decode cL_first 11 = .ok (.iload 5, 2) := by decide +kernel
theorem dL_first_13 : decode cL_first 13 = .ok (.ifCond .lt 49, 3) := by decide +kernel
theorem dL_first_16 : decode cL_first 16 = .ok (.aload_n 0, 1) := by decide +kernel
theorem dL_first_17 : decode cL_first 17 = .ok (.aload_n 1, 1) := by decide +kernel
theorem dL_first_18 : decode cL_first 18 = .ok (.aload_n 2, 1) := by decide +kernel
theorem dL_first_19 : decode cL_first 19 = .ok (.iload_n 3, 1) := by decide +kernel
theorem dL_first_20 : decode cL_first 20 = .ok (.iload 5, 2) := by decide +kernel
theorem dL_first_22 : decode cL_first 22 = .ok (.iload 4, 2) := by decide +kernel
theorem dL_first_24 : decode cL_first 24 = .ok (.invokestatic 29, 3) := by decide +kernel
theorem dL_first_27 : decode cL_first 27 = .ok (.ifCond .lt 21, 3) := by decide +kernel
theorem dL_first_30 : decode cL_first 30 = .ok (.aload_n 0, 1) := by decide +kernel
theorem dL_first_31 : decode cL_first 31 = .ok (.aload_n 1, 1) := by decide +kernel
theorem dL_first_32 : decode cL_first 32 = .ok (.aload_n 2, 1) := by decide +kernel
theorem dL_first_33 : decode cL_first 33 = .ok (.iload_n 3, 1) := by decide +kernel
theorem dL_first_34 : decode cL_first 34 = .ok (.iload 5, 2) := by decide +kernel
theorem dL_first_36 : decode cL_first 36 = .ok (.iload 4, 2) := by decide +kernel
theorem dL_first_38 : decode cL_first 38 = .ok (.invokestatic 29, 3) := by decide +kernel
theorem dL_first_41 : decode cL_first 41 = .ok (.aload_n 2, 1) := by decide +kernel
theorem dL_first_42 : decode cL_first 42 = .ok (.bipush 7, 2) := by decide +kernel
theorem dL_first_44 : decode cL_first 44 = .ok (.iaload, 1) := by decide +kernel
theorem dL_first_45 : decode cL_first 45 = .ok (.if_icmp .le 17, 3) := by decide +kernel
theorem dL_first_48 : decode cL_first 48 = .ok (.aload_n 0, 1) := by decide +kernel
theorem dL_first_49 : decode cL_first 49 = .ok (.aload_n 1, 1) := by decide +kernel
theorem dL_first_50 : decode cL_first 50 = .ok (.aload_n 2, 1) := by decide +kernel
theorem dL_first_51 : decode cL_first 51 = .ok (.iload_n 3, 1) := by decide +kernel
theorem dL_first_52 : decode cL_first 52 = .ok (.iload 5, 2) := by decide +kernel
theorem dL_first_54 : decode cL_first 54 = .ok (.invokestatic 25, 3) := by decide +kernel
theorem dL_first_57 : decode cL_first 57 = .ok (.istore 5, 2) := by decide +kernel
theorem dL_first_59 : decode cL_first 59 = .ok (.goto (-48), 3) := by decide +kernel
theorem dL_first_62 : decode cL_first 62 = .ok (.iload 5, 2) := by decide +kernel
theorem dL_first_64 : decode cL_first 64 = .ok (.ireturn, 1) := by decide +kernel
set_option maxRecDepth 20000 in
theorem ggL_sews_L_first : GoodIn wsL_sews wsL_first := goodIn_r _ [4, 5, 6, 3, 7, 8, 9, 10] (by decide +kernel) (by decide +kernel)
set_option maxRecDepth 20000 in
theorem gL_sews_L_first : GoodIn wsL_sews (va_wsS RL 33 yL_first wsL_first) := goodIn_app (goodIn_of _ (by decide +kernel)) ggL_sews_L_first
set_option maxRecDepth 20000 in
theorem ggL_sews_L_next : GoodIn wsL_sews wsL_next := goodIn_r _ [7] (by decide +kernel) (by decide +kernel)
set_option maxRecDepth 20000 in
theorem gL_sews_L_next : GoodIn wsL_sews (va_wsS RL 25 yL_next wsL_next) := goodIn_app (goodIn_of _ (by decide +kernel)) ggL_sews_L_next
theorem dL_sews_0 : decode cL_sews 0 = .ok (.aload_n 0, 1) := by decide +kernel
theorem dL_sews_1 : decode cL_sews 1 = .ok (.aload_n 1, 1) := by decide +kernel
theorem dL_sews_2 : decode cL_sews 2 = .ok (.aload_n 2, 1) := by decide +kernel
theorem dL_sews_3 : decode cL_sews 3 = .ok (.iload_n 3, 1) := by decide +kernel
theorem dL_sews_4 : decode cL_sews 4 = .ok (.iload 4, 2) := by decide +kernel
theorem dL_sews_6 : decode cL_sews 6 = .ok (.invokestatic 33, 3) := by decide +kernel
theorem dL_sews_9 : decode cL_sews 9 = .ok (.istore 5, 2) := by decide +kernel
theorem dL_sews_11 : decode cL_sews 11 = .ok (.iconst 0, 1) := by decide +kernel
theorem dL_sews_12 : decode cL_sews 12 = .ok (.istore 6, 2) := by decide +kernel
theorem dL_sews_14 : decode cL_sews 14 = .ok (.iconst 0, 1) := by decide +kernel
theorem dL_sews_15 : decode cL_sews 15 = .ok (.istore 7, 2) := by decide +kernel
theorem dL_sews_17 : decode cL_sews 17 = .ok (.iload 7, 2) := by decide +kernel
theorem dL_sews_19 : decode cL_sews 19 = .ok (.iload 4, 2) := by decide +kernel
theorem dL_sews_21 : decode cL_sews 21 = .ok (.if_icmp .ge 74, 3) := by decide +kernel
theorem dL_sews_24 : decode cL_sews 24 = .ok (.aload_n 0, 1) := by decide +kernel
theorem dL_sews_25 : decode cL_sews 25 = .ok (.aload_n 1, 1) := by decide +kernel
theorem dL_sews_26 : decode cL_sews 26 = .ok (.aload_n 2, 1) := by decide +kernel
theorem dL_sews_27 : decode cL_sews 27 = .ok (.iload_n 3, 1) := by decide +kernel
theorem dL_sews_28 : decode cL_sews 28 = .ok (.iload 5, 2) := by decide +kernel
theorem dL_sews_30 : decode cL_sews 30 = .ok (.invokestatic 25, 3) := by decide +kernel
theorem dL_sews_33 : decode cL_sews 33 = .ok (.istore 8, 2) := by decide +kernel
theorem dL_sews_35 : decode cL_sews 35 = .ok (.iload 6, 2) := by decide +kernel
theorem dL_sews_37 : decode cL_sews 37 = .ok (.aload_n 0, 1) := by decide +kernel
theorem dL_sews_38 : decode cL_sews 38 = .ok (.iconst 3, 1) := by decide +kernel
theorem dL_sews_39 : decode cL_sews 39 = .ok (.iload 5, 2) := by decide +kernel
theorem dL_sews_41 : decode cL_sews 41 = .ok (.imul, 1) := by decide +kernel
theorem dL_sews_42 : decode cL_sews 42 = .ok (.iconst 1, 1) := by decide +kernel
theorem dL_sews_43 : decode cL_sews 43 = .ok (.iadd, 1) := by decide +kernel
theorem dL_sews_44 : decode cL_sews 44 = .ok (.iaload, 1) := by decide +kernel
theorem dL_sews_45 : decode cL_sews 45 = .ok (.aload_n 0, 1) := by decide +kernel
theorem dL_sews_46 : decode cL_sews 46 = .ok (.iconst 3, 1) := by decide +kernel
theorem dL_sews_47 : decode cL_sews 47 = .ok (.iload 5, 2) := by decide +kernel
theorem dL_sews_49 : decode cL_sews 49 = .ok (.imul, 1) := by decide +kernel
theorem dL_sews_50 : decode cL_sews 50 = .ok (.iaload, 1) := by decide +kernel
theorem dL_sews_51 : decode cL_sews 51 = .ok (.isub, 1) := by decide +kernel
theorem dL_sews_52 : decode cL_sews 52 = .ok (.iadd, 1) := by decide +kernel
theorem dL_sews_53 : decode cL_sews 53 = .ok (.istore 6, 2) := by decide +kernel
theorem dL_sews_55 : decode cL_sews 55 = .ok (.aload_n 1, 1) := by decide +kernel
theorem dL_sews_56 : decode cL_sews 56 = .ok (.iconst 3, 1) := by decide +kernel
theorem dL_sews_57 : decode cL_sews 57 = .ok (.iload 5, 2) := by decide +kernel
theorem dL_sews_59 : decode cL_sews 59 = .ok (.imul, 1) := by decide +kernel
theorem dL_sews_60 : decode cL_sews 60 = .ok (.bipush 6, 2) := by decide +kernel
theorem dL_sews_62 : decode cL_sews 62 = .ok (.iastore, 1) := by decide +kernel
theorem dL_sews_63 : decode cL_sews 63 = .ok (.aload_n 1, 1) := by decide +kernel
theorem dL_sews_64 : decode cL_sews 64 = .ok (.iconst 3, 1) := by decide +kernel
theorem dL_sews_65 : decode cL_sews 65 = .ok (.iload 5, 2) := by decide +kernel
theorem dL_sews_67 : decode cL_sews 67 = .ok (.imul, 1) := by decide +kernel
theorem dL_sews_68 : decode cL_sews 68 = .ok (.iconst 1, 1) := by decide +kernel
theorem dL_sews_69 : decode cL_sews 69 = .ok (.iadd, 1) := by decide +kernel
theorem dL_sews_70 : decode cL_sews 70 = .ok (.bipush (-5), 2) := by decide +kernel
theorem dL_sews_72 : decode cL_sews 72 = .ok (.iastore, 1) := by decide +kernel
theorem dL_sews_73 : decode cL_sews 73 = .ok (.aload_n 1, 1) := by decide +kernel
theorem dL_sews_74 : decode cL_sews 74 = .ok (.iconst 3, 1) := by decide +kernel
theorem dL_sews_75 : decode cL_sews 75 = .ok (.iload 5, 2) := by decide +kernel
theorem dL_sews_77 : decode cL_sews 77 = .ok (.imul, 1) := by decide +kernel
theorem dL_sews_78 : decode cL_sews 78 = .ok (.iconst 2, 1) := by decide +kernel
theorem dL_sews_79 : decode cL_sews 79 = .ok (.iadd, 1) := by decide +kernel
theorem dL_sews_80 : decode cL_sews 80 = .ok (.aload_n 2, 1) := by decide +kernel
theorem dL_sews_81 : decode cL_sews 81 = .ok (.bipush 8, 2) := by decide +kernel
theorem dL_sews_83 : decode cL_sews 83 = .ok (.iaload, 1) := by decide +kernel
theorem dL_sews_84 : decode cL_sews 84 = .ok (.iastore, 1) := by decide +kernel
theorem dL_sews_85 : decode cL_sews 85 = .ok (.iload 8, 2) := by decide +kernel
theorem dL_sews_87 : decode cL_sews 87 = .ok (.istore 5, 2) := by decide +kernel
theorem dL_sews_89 : decode cL_sews 89 = .ok (.iinc 7 1, 3) := by decide +kernel
theorem dL_sews_92 : decode cL_sews 92 = .ok (.goto (-75), 3) := by decide +kernel
theorem dL_sews_95 : decode cL_sews 95 = .ok (.iload 6, 2) := by decide +kernel
theorem dL_sews_97 : decode cL_sews 97 = .ok (.ifCond .le 8, 3) := by decide +kernel
theorem dL_sews_100 : decode cL_sews 100 = .ok (.iload 6, 2) := by decide +kernel
theorem dL_sews_102 : decode cL_sews 102 = .ok (.goto 4, 3) := by decide +kernel
theorem dL_sews_105 : decode cL_sews 105 = .ok (.iconst 0, 1) := by decide +kernel
theorem dL_sews_106 : decode cL_sews 106 = .ok (.istore 6, 2) := by decide +kernel
theorem dL_sews_108 : decode cL_sews 108 = .ok (.aload_n 2, 1) := by decide +kernel
theorem dL_sews_109 : decode cL_sews 109 = .ok (.bipush 8, 2) := by decide +kernel
theorem dL_sews_111 : decode cL_sews 111 = .ok (.dup2, 1) := by decide +kernel
theorem dL_sews_112 : decode cL_sews 112 = .ok (.iaload, 1) := by decide +kernel
theorem dL_sews_113 : decode cL_sews 113 = .ok (.iconst 1, 1) := by decide +kernel
theorem dL_sews_114 : decode cL_sews 114 = .ok (.iadd, 1) := by decide +kernel
theorem dL_sews_115 : decode cL_sews 115 = .ok (.iastore, 1) := by decide +kernel
theorem dL_sews_116 : decode cL_sews 116 = .ok (.aload_n 2, 1) := by decide +kernel
theorem dL_sews_117 : decode cL_sews 117 = .ok (.bipush 9, 2) := by decide +kernel
theorem dL_sews_119 : decode cL_sews 119 = .ok (.dup2, 1) := by decide +kernel
theorem dL_sews_120 : decode cL_sews 120 = .ok (.iaload, 1) := by decide +kernel
theorem dL_sews_121 : decode cL_sews 121 = .ok (.iload 6, 2) := by decide +kernel
theorem dL_sews_123 : decode cL_sews 123 = .ok (.iadd, 1) := by decide +kernel
theorem dL_sews_124 : decode cL_sews 124 = .ok (.iastore, 1) := by decide +kernel
theorem dL_sews_125 : decode cL_sews 125 = .ok (.iload 6, 2) := by decide +kernel
theorem dL_sews_127 : decode cL_sews 127 = .ok (.ireturn, 1) := by decide +kernel
set_option maxRecDepth 20000 in
theorem ggL_areButtons_X7_button : GoodIn wsL_areButtons wsX7_button := goodIn_r _ [5, 6, 7, 8, 9, 10, 11, 12, 13, 14, 15, 16, 17, 18, 19, 20, 21, 22, 23, 24, 25, 26, 27, 28, 29, 30, 97, 98, 99, 100, 101, 102, 103, 104, 105, 106, 107, 108, 109, 110, 111, 112, 113, 114, 115, 116, 117, 118, 119, 120, 121, 122, 123, 124, 125] (by decide +kernel) (by decide +kernel)
set_option maxRecDepth 20000 in
theorem gL_areButtons_X7_button : GoodIn wsL_areButtons (wsV RL 36 RX7 yX7_button wsX7_button) := goodIn_app (goodIn_of _ (by decide +kernel)) ggL_areButtons_X7_button
set_option maxRecDepth 20000 in
theorem ggL_areButtons_X7_goesTo : GoodIn wsL_areButtons wsX7_goesTo := goodIn_r _ [34, 6, 7, 13, 14, 18, 19, 20, 21, 22, 23, 35, 36, 37, 38, 39, 40, 41, 42, 43, 44, 45, 46, 47, 48, 49, 50, 51, 52, 53, 54, 55, 56, 57, 58, 59, 60, 61, 4, 62, 97, 98, 99, 100, 101, 102, 103, 104, 105, 106, 107, 108, 109, 110, 111, 112, 120, 121, 122, 123, 124, 125, 113, 114, 115, 116, 117, 118, 119] (by decide +kernel) (by decide +kernel)
set_option maxRecDepth 20000 in
theorem gL_areButtons_X7_goesTo : GoodIn wsL_areButtons (wsV RL 42 RX7 yX7_goesTo wsX7_goesTo) := goodIn_app (goodIn_of _ (by decide +kernel)) ggL_areButtons_X7_goesTo
set_option maxRecDepth 20000 in
theorem ggL_areButtons_L_goes : GoodIn wsL_areButtons wsL_goes := goodIn_r _ [66] (by decide +kernel) (by decide +kernel)
set_option maxRecDepth 20000 in
theorem gL_areButtons_L_goes : GoodIn wsL_areButtons (va_wsS RL 9 yL_goes wsL_goes) := goodIn_app (goodIn_of _ (by decide +kernel)) ggL_areButtons_L_goes
set_option maxRecDepth 20000 in
theorem ggL_areButtons_L_at : GoodIn wsL_areButtons wsL_at := goodIn_r _ [69] (by decide +kernel) (by decide +kernel)
set_option maxRecDepth 20000 in
theorem gL_areButtons_L_at : GoodIn wsL_areButtons (va_wsS RL 15 yL_at wsL_at) := goodIn_app (goodIn_of _ (by decide +kernel)) ggL_areButtons_L_at
set_option maxRecDepth 20000 in
theorem ggL_areButtons_L_binOf : GoodIn wsL_areButtons wsL_binOf := goodIn_r _ [72] (by decide +kernel) (by decide +kernel)
set_option maxRecDepth 20000 in
theorem gL_areButtons_L_binOf : GoodIn wsL_areButtons (va_wsS RL 19 yL_binOf wsL_binOf) := goodIn_app (goodIn_of _ (by decide +kernel)) ggL_areButtons_L_binOf
set_option maxRecDepth 20000 in
theorem ggL_areButtons_L_in : GoodIn wsL_areButtons wsL_in := goodIn_r _ [75] (by decide +kernel) (by decide +kernel)
set_option maxRecDepth 20000 in
theorem gL_areButtons_L_in : GoodIn wsL_areButtons (va_wsS RL 22 yL_in wsL_in) := goodIn_app (goodIn_of _ (by decide +kernel)) ggL_areButtons_L_in
set_option maxRecDepth 20000 in
theorem ggL_areButtons_X7_total : GoodIn wsL_areButtons wsX7_total := goodIn_r _ [79, 6, 80, 13, 81, 7, 82, 83, 84, 85, 86, 87, 88, 89, 90, 91, 92, 93, 94, 21, 95, 23, 96, 97, 98, 99, 100, 101, 102, 103, 104, 105, 106, 107, 108, 109, 110, 111, 112, 120, 121, 122, 123, 124, 125, 113, 114, 115, 116, 117, 118, 119, 126, 127, 128, 129] (by decide +kernel) (by decide +kernel)
set_option maxRecDepth 20000 in
theorem gL_areButtons_X7_total : GoodIn wsL_areButtons (wsV RL 46 RX7 yX7_total wsX7_total) := goodIn_app (goodIn_of _ (by decide +kernel)) ggL_areButtons_X7_total
theorem dL_areButtons_0 : decode cL_areButtons 0 = .ok (.iconst 0, 1) := by decide +kernel
theorem dL_areButtons_1 : decode cL_areButtons 1 = .ok (.istore 6, 2) := by decide +kernel
theorem dL_areButtons_3 : decode cL_areButtons 3 = .ok (.aload_n 0, 1) := by decide +kernel
theorem dL_areButtons_4 : decode cL_areButtons 4 = .ok (.aload 5, 2) := by decide +kernel
theorem dL_areButtons_6 : decode cL_areButtons 6 = .ok (.bipush 13, 2) := by decide +kernel
theorem dL_areButtons_8 : decode cL_areButtons 8 = .ok (.iaload, 1) := by decide +kernel
theorem dL_areButtons_9 : decode cL_areButtons 9 = .ok (.iconst 0, 1) := by decide +kernel
theorem dL_areButtons_10 : decode cL_areButtons 10 = .ok (.invokevirtual 36, 3) := by decide +kernel
theorem dL_areButtons_13 : decode cL_areButtons 13 = .ok (.iconst (-1), 1) := by decide +kernel
theorem dL_areButtons_14 : decode cL_areButtons 14 = .ok (.if_icmp .ne 16, 3) := by decide +kernel
theorem dL_areButtons_17 : decode cL_areButtons 17 = .ok (.aload_n 0, 1) := by decide +kernel
theorem dL_areButtons_18 : decode cL_areButtons 18 = .ok (.iconst (-1), 1) := by decide +kernel
theorem dL_areButtons_19 : decode cL_areButtons 19 = .ok (.invokevirtual 42, 3) := by decide +kernel
theorem dL_areButtons_22 : decode cL_areButtons 22 = .ok (.iconst (-1), 1) := by decide +kernel
theorem dL_areButtons_23 : decode cL_areButtons 23 = .ok (.if_icmp .ne 7, 3) := by decide +kernel
theorem dL_areButtons_26 : decode cL_areButtons 26 = .ok (.iconst 1, 1) := by decide +kernel
theorem dL_areButtons_27 : decode cL_areButtons 27 = .ok (.goto 4, 3) := by decide +kernel
theorem dL_areButtons_30 : decode cL_areButtons 30 = .ok (.iconst 0, 1) := by decide +kernel
theorem dL_areButtons_31 : decode cL_areButtons 31 = .ok (.istore 7, 2) := by decide +kernel
theorem dL_areButtons_33 : decode cL_areButtons 33 = .ok (.iconst 0, 1) := by decide +kernel
theorem dL_areButtons_34 : decode cL_areButtons 34 = .ok (.istore 8, 2) := by decide +kernel
theorem dL_areButtons_36 : decode cL_areButtons 36 = .ok (.iload 8, 2) := by decide +kernel
theorem dL_areButtons_38 : decode cL_areButtons 38 = .ok (.aload 5, 2) := by decide +kernel
theorem dL_areButtons_40 : decode cL_areButtons 40 = .ok (.bipush 13, 2) := by decide +kernel
theorem dL_areButtons_42 : decode cL_areButtons 42 = .ok (.iaload, 1) := by decide +kernel
theorem dL_areButtons_43 : decode cL_areButtons 43 = .ok (.if_icmp .ge 353, 3) := by decide +kernel
theorem dL_areButtons_46 : decode cL_areButtons 46 = .ok (.iload 7, 2) := by decide +kernel
theorem dL_areButtons_48 : decode cL_areButtons 48 = .ok (.ifCond .eq 348, 3) := by decide +kernel
theorem dL_areButtons_51 : decode cL_areButtons 51 = .ok (.bipush (-5), 2) := by decide +kernel
theorem dL_areButtons_53 : decode cL_areButtons 53 = .ok (.istore 9, 2) := by decide +kernel
theorem dL_areButtons_55 : decode cL_areButtons 55 = .ok (.iconst 0, 1) := by decide +kernel
theorem dL_areButtons_56 : decode cL_areButtons 56 = .ok (.istore 10, 2) := by decide +kernel
theorem dL_areButtons_58 : decode cL_areButtons 58 = .ok (.iload 10, 2) := by decide +kernel
theorem dL_areButtons_60 : decode cL_areButtons 60 = .ok (.aload 5, 2) := by decide +kernel
theorem dL_areButtons_62 : decode cL_areButtons 62 = .ok (.bipush 14, 2) := by decide +kernel
theorem dL_areButtons_64 : decode cL_areButtons 64 = .ok (.iaload, 1) := by decide +kernel
theorem dL_areButtons_65 : decode cL_areButtons 65 = .ok (.if_icmp .ge 28, 3) := by decide +kernel
theorem dL_areButtons_68 : decode cL_areButtons 68 = .ok (.aload 4, 2) := by decide +kernel
theorem dL_areButtons_70 : decode cL_areButtons 70 = .ok (.iload 10, 2) := by decide +kernel
theorem dL_areButtons_72 : decode cL_areButtons 72 = .ok (.iaload, 1) := by decide +kernel
theorem dL_areButtons_73 : decode cL_areButtons 73 = .ok (.iload 8, 2) := by decide +kernel
theorem dL_areButtons_75 : decode cL_areButtons 75 = .ok (.if_icmp .ne 8, 3) := by decide +kernel
theorem dL_areButtons_78 : decode cL_areButtons 78 = .ok (.iload 10, 2) := by decide +kernel
theorem dL_areButtons_80 : decode cL_areButtons 80 = .ok (.goto 5, 3) := by decide +kernel
theorem dL_areButtons_83 : decode cL_areButtons 83 = .ok (.iload 9, 2) := by decide +kernel
theorem dL_areButtons_85 : decode cL_areButtons 85 = .ok (.istore 9, 2) := by decide +kernel
theorem dL_areButtons_87 : decode cL_areButtons 87 = .ok (.iinc 10 1, 3) := by decide +kernel
theorem dL_areButtons_90 : decode cL_areButtons 90 = .ok (.goto (-32), 3) := by decide +kernel
theorem dL_areButtons_93 : decode cL_areButtons 93 = .ok (.aload_n 1, 1) := by decide +kernel
theorem dL_areButtons_94 : decode cL_areButtons 94 = .ok (.aload_n 2, 1) := by decide +kernel
theorem dL_areButtons_95 : decode cL_areButtons 95 = .ok (.aload 5, 2) := by decide +kernel
theorem dL_areButtons_97 : decode cL_areButtons 97 = .ok (.iload 8, 2) := by decide +kernel
theorem dL_areButtons_99 : decode cL_areButtons 99 = .ok (.invokestatic 9, 3) := by decide +kernel
theorem dL_areButtons_102 : decode cL_areButtons 102 = .ok (.istore 10, 2) := by decide +kernel
theorem dL_areButtons_104 : decode cL_areButtons 104 = .ok (.iload 10, 2) := by decide +kernel
theorem dL_areButtons_106 : decode cL_areButtons 106 = .ok (.iconst 2, 1) := by decide +kernel
theorem dL_areButtons_107 : decode cL_areButtons 107 = .ok (.if_icmp .ne 23, 3) := by decide +kernel
theorem dL_areButtons_110 : decode cL_areButtons 110 = .ok (.aload_n 3, 1) := by decide +kernel
theorem dL_areButtons_111 : decode cL_areButtons 111 = .ok (.aload 5, 2) := by decide +kernel
theorem dL_areButtons_113 : decode cL_areButtons 113 = .ok (.iconst 2, 1) := by decide +kernel
theorem dL_areButtons_114 : decode cL_areButtons 114 = .ok (.invokestatic 15, 3) := by decide +kernel
theorem dL_areButtons_117 : decode cL_areButtons 117 = .ok (.iconst 1, 1) := by decide +kernel
theorem dL_areButtons_118 : decode cL_areButtons 118 = .ok (.iadd, 1) := by decide +kernel
theorem dL_areButtons_119 : decode cL_areButtons 119 = .ok (.aload 5, 2) := by decide +kernel
theorem dL_areButtons_121 : decode cL_areButtons 121 = .ok (.iconst 5, 1) := by decide +kernel
theorem dL_areButtons_122 : decode cL_areButtons 122 = .ok (.iaload, 1) := by decide +kernel
theorem dL_areButtons_123 : decode cL_areButtons 123 = .ok (.if_icmp .lt 7, 3) := by decide +kernel
theorem dL_areButtons_126 : decode cL_areButtons 126 = .ok (.iconst 3, 1) := by decide +kernel
theorem dL_areButtons_127 : decode cL_areButtons 127 = .ok (.goto 37, 3) := by decide +kernel
theorem dL_areButtons_130 : decode cL_areButtons 130 = .ok (.iload 10, 2) := by decide +kernel
theorem dL_areButtons_132 : decode cL_areButtons 132 = .ok (.iconst 5, 1) := by decide +kernel
theorem dL_areButtons_133 : decode cL_areButtons 133 = .ok (.if_icmp .ne 29, 3) := by decide +kernel
theorem dL_areButtons_136 : decode cL_areButtons 136 = .ok (.aload_n 3, 1) := by decide +kernel
theorem dL_areButtons_137 : decode cL_areButtons 137 = .ok (.aload 5, 2) := by decide +kernel
theorem dL_areButtons_139 : decode cL_areButtons 139 = .ok (.aload_n 1, 1) := by decide +kernel
theorem dL_areButtons_140 : decode cL_areButtons 140 = .ok (.aload 5, 2) := by decide +kernel
theorem dL_areButtons_142 : decode cL_areButtons 142 = .ok (.iload 8, 2) := by decide +kernel
theorem dL_areButtons_144 : decode cL_areButtons 144 = .ok (.invokestatic 19, 3) := by decide +kernel
theorem dL_areButtons_147 : decode cL_areButtons 147 = .ok (.invokestatic 22, 3) := by decide +kernel
theorem dL_areButtons_150 : decode cL_areButtons 150 = .ok (.aload 5, 2) := by decide +kernel
theorem dL_areButtons_152 : decode cL_areButtons 152 = .ok (.bipush 6, 2) := by decide +kernel
theorem dL_areButtons_154 : decode cL_areButtons 154 = .ok (.iaload, 1) := by decide +kernel
theorem dL_areButtons_155 : decode cL_areButtons 155 = .ok (.if_icmp .lt 7, 3) := by decide +kernel
theorem dL_areButtons_158 : decode cL_areButtons 158 = .ok (.iconst 0, 1) := by decide +kernel
theorem dL_areButtons_159 : decode cL_areButtons 159 = .ok (.goto 5, 3) := by decide +kernel
theorem dL_areButtons_162 : decode cL_areButtons 162 = .ok (.iload 10, 2) := by decide +kernel
theorem dL_areButtons_164 : decode cL_areButtons 164 = .ok (.istore 10, 2) := by decide +kernel
theorem dL_areButtons_166 : decode cL_areButtons 166 = .ok (.aload_n 0, 1) := by decide +kernel
theorem dL_areButtons_167 : decode cL_areButtons 167 = .ok (.iload 8, 2) := by decide +kernel
theorem dL_areButtons_169 : decode cL_areButtons 169 = .ok (.iconst 0, 1) := by decide +kernel
theorem dL_areButtons_170 : decode cL_areButtons 170 = .ok (.invokevirtual 36, 3) := by decide +kernel
theorem dL_areButtons_173 : decode cL_areButtons 173 = .ok (.aload_n 1, 1) := by decide +kernel
theorem dL_areButtons_174 : decode cL_areButtons 174 = .ok (.iconst 3, 1) := by decide +kernel
theorem dL_areButtons_175 : decode cL_areButtons 175 = .ok (.iload 8, 2) := by decide +kernel
theorem dL_areButtons_177 : decode cL_areButtons 177 = .ok (.imul, 1) := by decide +kernel
theorem dL_areButtons_178 : decode cL_areButtons 178 = .ok (.iaload, 1) := by decide +kernel
theorem dL_areButtons_179 : decode cL_areButtons 179 = .ok (.if_icmp .ne 197, 3) := by decide +kernel
theorem dL_areButtons_182 : decode cL_areButtons 182 = .ok (.aload_n 0, 1) := by decide +kernel
theorem dL_areButtons_183 : decode cL_areButtons 183 = .ok (.iload 8, 2) := by decide +kernel
theorem dL_areButtons_185 : decode cL_areButtons 185 = .ok (.iconst 1, 1) := by decide +kernel
theorem dL_areButtons_186 : decode cL_areButtons 186 = .ok (.invokevirtual 36, 3) := by decide +kernel
theorem dL_areButtons_189 : decode cL_areButtons 189 = .ok (.aload_n 1, 1) := by decide +kernel
theorem dL_areButtons_190 : decode cL_areButtons 190 = .ok (.iconst 3, 1) := by decide +kernel
theorem dL_areButtons_191 : decode cL_areButtons 191 = .ok (.iload 8, 2) := by decide +kernel
theorem dL_areButtons_193 : decode cL_areButtons 193 = .ok (.imul, 1) := by decide +kernel
theorem dL_areButtons_194 : decode cL_areButtons 194 = .ok (.iconst 1, 1) := by decide +kernel
theorem dL_areButtons_195 : decode cL_areButtons 195 = .ok (.iadd, 1) := by decide +kernel
theorem dL_areButtons_196 : decode cL_areButtons 196 = .ok (.iaload, 1) := by decide +kernel
theorem dL_areButtons_197 : decode cL_areButtons 197 = .ok (.if_icmp .ne 179, 3) := by decide +kernel
theorem dL_areButtons_200 : decode cL_areButtons 200 = .ok (.aload_n 0, 1) := by decide +kernel
theorem dL_areButtons_201 : decode cL_areButtons 201 = .ok (.iload 8, 2) := by decide +kernel
theorem dL_areButtons_203 : decode cL_areButtons 203 = .ok (.iconst 2, 1) := by decide +kernel
theorem dL_areButtons_204 : decode cL_areButtons 204 = .ok (.invokevirtual 36, 3) := by decide +kernel
theorem dL_areButtons_207 : decode cL_areButtons 207 = .ok (.aload_n 1, 1) := by decide +kernel
theorem dL_areButtons_208 : decode cL_areButtons 208 = .ok (.iconst 3, 1) := by decide +kernel
theorem dL_areButtons_209 : decode cL_areButtons 209 = .ok (.iload 8, 2) := by decide +kernel
theorem dL_areButtons_211 : decode cL_areButtons 211 = .ok (.imul, 1) := by decide +kernel
theorem dL_areButtons_212 : decode cL_areButtons 212 = .ok (.iconst 2, 1) := by decide +kernel
theorem dL_areButtons_213 : decode cL_areButtons 213 = .ok (.iadd, 1) := by decide +kernel
theorem dL_areButtons_214 : decode cL_areButtons 214 = .ok (.iaload, 1) := by decide +kernel
theorem dL_areButtons_215 : decode cL_areButtons 215 = .ok (.if_icmp .ne 161, 3) := by decide +kernel
theorem dL_areButtons_218 : decode cL_areButtons 218 = .ok (.aload_n 0, 1) := by decide +kernel
theorem dL_areButtons_219 : decode cL_areButtons 219 = .ok (.iload 8, 2) := by decide +kernel
theorem dL_areButtons_221 : decode cL_areButtons 221 = .ok (.iconst 3, 1) := by decide +kernel
theorem dL_areButtons_222 : decode cL_areButtons 222 = .ok (.invokevirtual 36, 3) := by decide +kernel
theorem dL_areButtons_225 : decode cL_areButtons 225 = .ok (.aload_n 2, 1) := by decide +kernel
theorem dL_areButtons_226 : decode cL_areButtons 226 = .ok (.iconst 3, 1) := by decide +kernel
theorem dL_areButtons_227 : decode cL_areButtons 227 = .ok (.iload 8, 2) := by decide +kernel
theorem dL_areButtons_229 : decode cL_areButtons 229 = .ok (.imul, 1) := by decide +kernel
theorem dL_areButtons_230 : decode cL_areButtons 230 = .ok (.iaload, 1) := by decide +kernel
theorem dL_areButtons_231 : decode cL_areButtons 231 = .ok (.if_icmp .ne 145, 3) := by decide +kernel
theorem dL_areButtons_234 : decode cL_areButtons 234 = .ok (.aload_n 0, 1) := by decide +kernel
theorem dL_areButtons_235 : decode cL_areButtons 235 = .ok (.iload 8, 2) := by decide +kernel
theorem dL_areButtons_237 : decode cL_areButtons 237 = .ok (.iconst 4, 1) := by decide +kernel
theorem dL_areButtons_238 : decode cL_areButtons 238 = .ok (.invokevirtual 36, 3) := by decide +kernel
theorem dL_areButtons_241 : decode cL_areButtons 241 = .ok (.aload_n 2, 1) := by decide +kernel
theorem dL_areButtons_242 : decode cL_areButtons 242 = .ok (.iconst 3, 1) := by decide +kernel
theorem dL_areButtons_243 : decode cL_areButtons 243 = .ok (.iload 8, 2) := by decide +kernel
theorem dL_areButtons_245 : decode cL_areButtons 245 = .ok (.imul, 1) := by decide +kernel
theorem dL_areButtons_246 : decode cL_areButtons 246 = .ok (.iconst 1, 1) := by decide +kernel
theorem dL_areButtons_247 : decode cL_areButtons 247 = .ok (.iadd, 1) := by decide +kernel
theorem dL_areButtons_248 : decode cL_areButtons 248 = .ok (.iaload, 1) := by decide +kernel
theorem dL_areButtons_249 : decode cL_areButtons 249 = .ok (.if_icmp .ne 127, 3) := by decide +kernel
theorem dL_areButtons_252 : decode cL_areButtons 252 = .ok (.aload_n 0, 1) := by decide +kernel
theorem dL_areButtons_253 : decode cL_areButtons 253 = .ok (.iload 8, 2) := by decide +kernel
theorem dL_areButtons_255 : decode cL_areButtons 255 = .ok (.iconst 5, 1) := by decide +kernel
theorem dL_areButtons_256 : decode cL_areButtons 256 = .ok (.invokevirtual 36, 3) := by decide +kernel
theorem dL_areButtons_259 : decode cL_areButtons 259 = .ok (.aload_n 3, 1) := by decide +kernel
theorem dL_areButtons_260 : decode cL_areButtons 260 = .ok (.iconst 3, 1) := by decide +kernel
theorem dL_areButtons_261 : decode cL_areButtons 261 = .ok (.iload 8, 2) := by decide +kernel
theorem dL_areButtons_263 : decode cL_areButtons 263 = .ok (.imul, 1) := by decide +kernel
theorem dL_areButtons_264 : decode cL_areButtons 264 = .ok (.iaload, 1) := by decide +kernel
theorem dL_areButtons_265 : decode cL_areButtons 265 = .ok (.if_icmp .ne 111, 3) := by decide +kernel
theorem dL_areButtons_268 : decode cL_areButtons 268 = .ok (.aload_n 0, 1) := by decide +kernel
theorem dL_areButtons_269 : decode cL_areButtons 269 = .ok (.iload 8, 2) := by decide +kernel
theorem dL_areButtons_271 : decode cL_areButtons 271 = .ok (.bipush 6, 2) := by decide +kernel
theorem dL_areButtons_273 : decode cL_areButtons 273 = .ok (.invokevirtual 36, 3) := by decide +kernel
theorem dL_areButtons_276 : decode cL_areButtons 276 = .ok (.aload_n 3, 1) := by decide +kernel
theorem dL_areButtons_277 : decode cL_areButtons 277 = .ok (.iconst 3, 1) := by decide +kernel
theorem dL_areButtons_278 : decode cL_areButtons 278 = .ok (.iload 8, 2) := by decide +kernel
theorem dL_areButtons_280 : decode cL_areButtons 280 = .ok (.imul, 1) := by decide +kernel
theorem dL_areButtons_281 : decode cL_areButtons 281 = .ok (.iconst 1, 1) := by decide +kernel
theorem dL_areButtons_282 : decode cL_areButtons 282 = .ok (.iadd, 1) := by decide +kernel
theorem dL_areButtons_283 : decode cL_areButtons 283 = .ok (.iaload, 1) := by decide +kernel
theorem dL_areButtons_284 : decode cL_areButtons 284 = .ok (.if_icmp .ne 92, 3) := by decide +kernel
theorem dL_areButtons_287 : decode cL_areButtons 287 = .ok (.aload_n 0, 1) := by decide +kernel
theorem dL_areButtons_288 : decode cL_areButtons 288 = .ok (.iload 8, 2) := by decide +kernel
theorem dL_areButtons_290 : decode cL_areButtons 290 = .ok (.bipush 7, 2) := by decide +kernel
theorem dL_areButtons_292 : decode cL_areButtons 292 = .ok (.invokevirtual 36, 3) := by decide +kernel
theorem dL_areButtons_295 : decode cL_areButtons 295 = .ok (.iload 9, 2) := by decide +kernel
theorem dL_areButtons_297 : decode cL_areButtons 297 = .ok (.if_icmp .ne 79, 3) := by decide +kernel
theorem dL_areButtons_300 : decode cL_areButtons 300 = .ok (.aload_n 0, 1) := by decide +kernel
theorem dL_areButtons_301 : decode cL_areButtons 301 = .ok (.iload 8, 2) := by decide +kernel
theorem dL_areButtons_303 : decode cL_areButtons 303 = .ok (.bipush 8, 2) := by decide +kernel
theorem dL_areButtons_305 : decode cL_areButtons 305 = .ok (.invokevirtual 36, 3) := by decide +kernel
theorem dL_areButtons_308 : decode cL_areButtons 308 = .ok (.aload_n 3, 1) := by decide +kernel
theorem dL_areButtons_309 : decode cL_areButtons 309 = .ok (.iconst 3, 1) := by decide +kernel
theorem dL_areButtons_310 : decode cL_areButtons 310 = .ok (.iload 8, 2) := by decide +kernel
theorem dL_areButtons_312 : decode cL_areButtons 312 = .ok (.imul, 1) := by decide +kernel
theorem dL_areButtons_313 : decode cL_areButtons 313 = .ok (.iconst 2, 1) := by decide +kernel
theorem dL_areButtons_314 : decode cL_areButtons 314 = .ok (.iadd, 1) := by decide +kernel
theorem dL_areButtons_315 : decode cL_areButtons 315 = .ok (.iaload, 1) := by decide +kernel
theorem dL_areButtons_316 : decode cL_areButtons 316 = .ok (.if_icmp .ne 60, 3) := by decide +kernel
theorem dL_areButtons_319 : decode cL_areButtons 319 = .ok (.aload_n 0, 1) := by decide +kernel
theorem dL_areButtons_320 : decode cL_areButtons 320 = .ok (.iload 8, 2) := by decide +kernel
theorem dL_areButtons_322 : decode cL_areButtons 322 = .ok (.bipush 9, 2) := by decide +kernel
theorem dL_areButtons_324 : decode cL_areButtons 324 = .ok (.invokevirtual 36, 3) := by decide +kernel
theorem dL_areButtons_327 : decode cL_areButtons 327 = .ok (.aload_n 2, 1) := by decide +kernel
theorem dL_areButtons_328 : decode cL_areButtons 328 = .ok (.iconst 3, 1) := by decide +kernel
theorem dL_areButtons_329 : decode cL_areButtons 329 = .ok (.iload 8, 2) := by decide +kernel
theorem dL_areButtons_331 : decode cL_areButtons 331 = .ok (.imul, 1) := by decide +kernel
theorem dL_areButtons_332 : decode cL_areButtons 332 = .ok (.iconst 2, 1) := by decide +kernel
theorem dL_areButtons_333 : decode cL_areButtons 333 = .ok (.iadd, 1) := by decide +kernel
theorem dL_areButtons_334 : decode cL_areButtons 334 = .ok (.iaload, 1) := by decide +kernel
theorem dL_areButtons_335 : decode cL_areButtons 335 = .ok (.if_icmp .ne 41, 3) := by decide +kernel
theorem dL_areButtons_338 : decode cL_areButtons 338 = .ok (.aload_n 0, 1) := by decide +kernel
theorem dL_areButtons_339 : decode cL_areButtons 339 = .ok (.iload 8, 2) := by decide +kernel
theorem dL_areButtons_341 : decode cL_areButtons 341 = .ok (.bipush 10, 2) := by decide +kernel
theorem dL_areButtons_343 : decode cL_areButtons 343 = .ok (.invokevirtual 36, 3) := by decide +kernel
theorem dL_areButtons_346 : decode cL_areButtons 346 = .ok (.bipush (-2), 2) := by decide +kernel
theorem dL_areButtons_348 : decode cL_areButtons 348 = .ok (.if_icmp .ne 28, 3) := by decide +kernel
theorem dL_areButtons_351 : decode cL_areButtons 351 = .ok (.aload_n 0, 1) := by decide +kernel
theorem dL_areButtons_352 : decode cL_areButtons 352 = .ok (.iload 8, 2) := by decide +kernel
theorem dL_areButtons_354 : decode cL_areButtons 354 = .ok (.invokevirtual 42, 3) := by decide +kernel
theorem dL_areButtons_357 : decode cL_areButtons 357 = .ok (.iload 9, 2) := by decide +kernel
theorem dL_areButtons_359 : decode cL_areButtons 359 = .ok (.ifCond .ge 8, 3) := by decide +kernel
theorem dL_areButtons_362 : decode cL_areButtons 362 = .ok (.bipush (-4), 2) := by decide +kernel
theorem dL_areButtons_364 : decode cL_areButtons 364 = .ok (.goto 5, 3) := by decide +kernel
theorem dL_areButtons_367 : decode cL_areButtons 367 = .ok (.iload 10, 2) := by decide +kernel
theorem dL_areButtons_369 : decode cL_areButtons 369 = .ok (.if_icmp .ne 7, 3) := by decide +kernel
theorem dL_areButtons_372 : decode cL_areButtons 372 = .ok (.iconst 1, 1) := by decide +kernel
theorem dL_areButtons_373 : decode cL_areButtons 373 = .ok (.goto 4, 3) := by decide +kernel
theorem dL_areButtons_376 : decode cL_areButtons 376 = .ok (.iconst 0, 1) := by decide +kernel
theorem dL_areButtons_377 : decode cL_areButtons 377 = .ok (.istore 7, 2) := by decide +kernel
theorem dL_areButtons_379 : decode cL_areButtons 379 = .ok (.iload 6, 2) := by decide +kernel
theorem dL_areButtons_381 : decode cL_areButtons 381 = .ok (.aload_n 2, 1) := by decide +kernel
theorem dL_areButtons_382 : decode cL_areButtons 382 = .ok (.iconst 3, 1) := by decide +kernel
theorem dL_areButtons_383 : decode cL_areButtons 383 = .ok (.iload 8, 2) := by decide +kernel
theorem dL_areButtons_385 : decode cL_areButtons 385 = .ok (.imul, 1) := by decide +kernel
theorem dL_areButtons_386 : decode cL_areButtons 386 = .ok (.iaload, 1) := by decide +kernel
theorem dL_areButtons_387 : decode cL_areButtons 387 = .ok (.iadd, 1) := by decide +kernel
theorem dL_areButtons_388 : decode cL_areButtons 388 = .ok (.istore 6, 2) := by decide +kernel
theorem dL_areButtons_390 : decode cL_areButtons 390 = .ok (.iinc 8 1, 3) := by decide +kernel
theorem dL_areButtons_393 : decode cL_areButtons 393 = .ok (.goto (-357), 3) := by decide +kernel
theorem dL_areButtons_396 : decode cL_areButtons 396 = .ok (.iconst 0, 1) := by decide +kernel
theorem dL_areButtons_397 : decode cL_areButtons 397 = .ok (.istore 8, 2) := by decide +kernel
theorem dL_areButtons_399 : decode cL_areButtons 399 = .ok (.iload 8, 2) := by decide +kernel
theorem dL_areButtons_401 : decode cL_areButtons 401 = .ok (.bipush 8, 2) := by decide +kernel
theorem dL_areButtons_403 : decode cL_areButtons 403 = .ok (.if_icmp .ge 62, 3) := by decide +kernel
theorem dL_areButtons_406 : decode cL_areButtons 406 = .ok (.iload 7, 2) := by decide +kernel
theorem dL_areButtons_408 : decode cL_areButtons 408 = .ok (.ifCond .eq 48, 3) := by decide +kernel
theorem dL_areButtons_411 : decode cL_areButtons 411 = .ok (.aload_n 0, 1) := by decide +kernel
theorem dL_areButtons_412 : decode cL_areButtons 412 = .ok (.iload 8, 2) := by decide +kernel
theorem dL_areButtons_414 : decode cL_areButtons 414 = .ok (.invokevirtual 46, 3) := by decide +kernel
theorem dL_areButtons_417 : decode cL_areButtons 417 = .ok (.aload 5, 2) := by decide +kernel
theorem dL_areButtons_419 : decode cL_areButtons 419 = .ok (.iload 8, 2) := by decide +kernel
theorem dL_areButtons_421 : decode cL_areButtons 421 = .ok (.iaload, 1) := by decide +kernel
theorem dL_areButtons_422 : decode cL_areButtons 422 = .ok (.if_icmp .ne 34, 3) := by decide +kernel
theorem dL_areButtons_425 : decode cL_areButtons 425 = .ok (.iload 8, 2) := by decide +kernel
theorem dL_areButtons_427 : decode cL_areButtons 427 = .ok (.bipush 7, 2) := by decide +kernel
theorem dL_areButtons_429 : decode cL_areButtons 429 = .ok (.if_icmp .eq 23, 3) := by decide +kernel
theorem dL_areButtons_432 : decode cL_areButtons 432 = .ok (.aload_n 0, 1) := by decide +kernel
theorem dL_areButtons_433 : decode cL_areButtons 433 = .ok (.bipush 9, 2) := by decide +kernel
theorem dL_areButtons_435 : decode cL_areButtons 435 = .ok (.iload 8, 2) := by decide +kernel
theorem dL_areButtons_437 : decode cL_areButtons 437 = .ok (.iadd, 1) := by decide +kernel
theorem dL_areButtons_438 : decode cL_areButtons 438 = .ok (.invokevirtual 46, 3) := by decide +kernel
theorem dL_areButtons_441 : decode cL_areButtons 441 = .ok (.aload_n 3, 1) := by decide +kernel
theorem dL_areButtons_442 : decode cL_areButtons 442 = .ok (.aload 5, 2) := by decide +kernel
theorem dL_areButtons_444 : decode cL_areButtons 444 = .ok (.iload 8, 2) := by decide +kernel
theorem dL_areButtons_446 : decode cL_areButtons 446 = .ok (.invokestatic 15, 3) := by decide +kernel
theorem dL_areButtons_449 : decode cL_areButtons 449 = .ok (.if_icmp .ne 7, 3) := by decide +kernel
theorem dL_areButtons_452 : decode cL_areButtons 452 = .ok (.iconst 1, 1) := by decide +kernel
theorem dL_areButtons_453 : decode cL_areButtons 453 = .ok (.goto 4, 3) := by decide +kernel
theorem dL_areButtons_456 : decode cL_areButtons 456 = .ok (.iconst 0, 1) := by decide +kernel
theorem dL_areButtons_457 : decode cL_areButtons 457 = .ok (.istore 7, 2) := by decide +kernel
theorem dL_areButtons_459 : decode cL_areButtons 459 = .ok (.iinc 8 1, 3) := by decide +kernel
theorem dL_areButtons_462 : decode cL_areButtons 462 = .ok (.goto (-63), 3) := by decide +kernel
theorem dL_areButtons_465 : decode cL_areButtons 465 = .ok (.iconst 0, 1) := by decide +kernel
theorem dL_areButtons_466 : decode cL_areButtons 466 = .ok (.istore 8, 2) := by decide +kernel
theorem dL_areButtons_468 : decode cL_areButtons 468 = .ok (.iload 8, 2) := by decide +kernel
theorem dL_areButtons_470 : decode cL_areButtons 470 = .ok (.iconst 5, 1) := by decide +kernel
theorem dL_areButtons_471 : decode cL_areButtons 471 = .ok (.if_icmp .ge 41, 3) := by decide +kernel
theorem dL_areButtons_474 : decode cL_areButtons 474 = .ok (.iload 7, 2) := by decide +kernel
theorem dL_areButtons_476 : decode cL_areButtons 476 = .ok (.ifCond .eq 27, 3) := by decide +kernel
theorem dL_areButtons_479 : decode cL_areButtons 479 = .ok (.aload_n 0, 1) := by decide +kernel
theorem dL_areButtons_480 : decode cL_areButtons 480 = .ok (.bipush 16, 2) := by decide +kernel
theorem dL_areButtons_482 : decode cL_areButtons 482 = .ok (.iload 8, 2) := by decide +kernel
theorem dL_areButtons_484 : decode cL_areButtons 484 = .ok (.iadd, 1) := by decide +kernel
theorem dL_areButtons_485 : decode cL_areButtons 485 = .ok (.invokevirtual 46, 3) := by decide +kernel
theorem dL_areButtons_488 : decode cL_areButtons 488 = .ok (.aload 5, 2) := by decide +kernel
theorem dL_areButtons_490 : decode cL_areButtons 490 = .ok (.bipush 8, 2) := by decide +kernel
theorem dL_areButtons_492 : decode cL_areButtons 492 = .ok (.iload 8, 2) := by decide +kernel
theorem dL_areButtons_494 : decode cL_areButtons 494 = .ok (.iadd, 1) := by decide +kernel
theorem dL_areButtons_495 : decode cL_areButtons 495 = .ok (.iaload, 1) := by decide +kernel
theorem dL_areButtons_496 : decode cL_areButtons 496 = .ok (.if_icmp .ne 7, 3) := by decide +kernel
theorem dL_areButtons_499 : decode cL_areButtons 499 = .ok (.iconst 1, 1) := by decide +kernel
theorem dL_areButtons_500 : decode cL_areButtons 500 = .ok (.goto 4, 3) := by decide +kernel
theorem dL_areButtons_503 : decode cL_areButtons 503 = .ok (.iconst 0, 1) := by decide +kernel
theorem dL_areButtons_504 : decode cL_areButtons 504 = .ok (.istore 7, 2) := by decide +kernel
theorem dL_areButtons_506 : decode cL_areButtons 506 = .ok (.iinc 8 1, 3) := by decide +kernel
theorem dL_areButtons_509 : decode cL_areButtons 509 = .ok (.goto (-41), 3) := by decide +kernel
theorem dL_areButtons_512 : decode cL_areButtons 512 = .ok (.iload 7, 2) := by decide +kernel
theorem dL_areButtons_514 : decode cL_areButtons 514 = .ok (.ifCond .eq 57, 3) := by decide +kernel
theorem dL_areButtons_517 : decode cL_areButtons 517 = .ok (.aload_n 0, 1) := by decide +kernel
theorem dL_areButtons_518 : decode cL_areButtons 518 = .ok (.bipush 8, 2) := by decide +kernel
theorem dL_areButtons_520 : decode cL_areButtons 520 = .ok (.invokevirtual 46, 3) := by decide +kernel
theorem dL_areButtons_523 : decode cL_areButtons 523 = .ok (.aload 5, 2) := by decide +kernel
theorem dL_areButtons_525 : decode cL_areButtons 525 = .ok (.bipush 13, 2) := by decide +kernel
theorem dL_areButtons_527 : decode cL_areButtons 527 = .ok (.iaload, 1) := by decide +kernel
theorem dL_areButtons_528 : decode cL_areButtons 528 = .ok (.if_icmp .ne 43, 3) := by decide +kernel
theorem dL_areButtons_531 : decode cL_areButtons 531 = .ok (.aload_n 0, 1) := by decide +kernel
theorem dL_areButtons_532 : decode cL_areButtons 532 = .ok (.bipush 9, 2) := by decide +kernel
theorem dL_areButtons_534 : decode cL_areButtons 534 = .ok (.invokevirtual 46, 3) := by decide +kernel
theorem dL_areButtons_537 : decode cL_areButtons 537 = .ok (.aload 5, 2) := by decide +kernel
theorem dL_areButtons_539 : decode cL_areButtons 539 = .ok (.bipush 14, 2) := by decide +kernel
theorem dL_areButtons_541 : decode cL_areButtons 541 = .ok (.iaload, 1) := by decide +kernel
theorem dL_areButtons_542 : decode cL_areButtons 542 = .ok (.if_icmp .ne 29, 3) := by decide +kernel
theorem dL_areButtons_545 : decode cL_areButtons 545 = .ok (.aload_n 0, 1) := by decide +kernel
theorem dL_areButtons_546 : decode cL_areButtons 546 = .ok (.bipush 21, 2) := by decide +kernel
theorem dL_areButtons_548 : decode cL_areButtons 548 = .ok (.invokevirtual 46, 3) := by decide +kernel
theorem dL_areButtons_551 : decode cL_areButtons 551 = .ok (.iload 6, 2) := by decide +kernel
theorem dL_areButtons_553 : decode cL_areButtons 553 = .ok (.if_icmp .ne 18, 3) := by decide +kernel
theorem dL_areButtons_556 : decode cL_areButtons 556 = .ok (.aload_n 0, 1) := by decide +kernel
theorem dL_areButtons_557 : decode cL_areButtons 557 = .ok (.bipush 24, 2) := by decide +kernel
theorem dL_areButtons_559 : decode cL_areButtons 559 = .ok (.invokevirtual 46, 3) := by decide +kernel
theorem dL_areButtons_562 : decode cL_areButtons 562 = .ok (.bipush (-2), 2) := by decide +kernel
theorem dL_areButtons_564 : decode cL_areButtons 564 = .ok (.if_icmp .ne 7, 3) := by decide +kernel
theorem dL_areButtons_567 : decode cL_areButtons 567 = .ok (.iconst 1, 1) := by decide +kernel
theorem dL_areButtons_568 : decode cL_areButtons 568 = .ok (.goto 4, 3) := by decide +kernel
theorem dL_areButtons_571 : decode cL_areButtons 571 = .ok (.iconst 0, 1) := by decide +kernel
theorem dL_areButtons_572 : decode cL_areButtons 572 = .ok (.ireturn, 1) := by decide +kernel
