theorem dX5_init_0 : decode cX5_init 0 = .ok (.aload_n 0, 1) := by decide +kernel
theorem dX5_init_1 : decode cX5_init 1 = .ok (.invokespecial 1, 3) := by decide +kernel
theorem dX5_init_4 : decode cX5_init 4 = .ok (.aload_n 0, 1) := by decide +kernel
theorem dX5_init_5 : decode cX5_init 5 = .ok (.sipush 180, 3) := by decide +kernel
theorem dX5_init_8 : decode cX5_init 8 = .ok (.newarray .int, 2) := by decide +kernel
theorem dX5_init_10 : decode cX5_init 10 = .ok (.putfield 7, 3) := by decide +kernel
theorem dX5_init_13 : decode cX5_init 13 = .ok (.aload_n 0, 1) := by decide +kernel
theorem dX5_init_14 : decode cX5_init 14 = .ok (.sipush 180, 3) := by decide +kernel
theorem dX5_init_17 : decode cX5_init 17 = .ok (.newarray .int, 2) := by decide +kernel
theorem dX5_init_19 : decode cX5_init 19 = .ok (.putfield 13, 3) := by decide +kernel
theorem dX5_init_22 : decode cX5_init 22 = .ok (.aload_n 0, 1) := by decide +kernel
theorem dX5_init_23 : decode cX5_init 23 = .ok (.sipush 360, 3) := by decide +kernel
theorem dX5_init_26 : decode cX5_init 26 = .ok (.newarray .int, 2) := by decide +kernel
theorem dX5_init_28 : decode cX5_init 28 = .ok (.putfield 16, 3) := by decide +kernel
theorem dX5_init_31 : decode cX5_init 31 = .ok (.aload_n 0, 1) := by decide +kernel
theorem dX5_init_32 : decode cX5_init 32 = .ok (.iconst 3, 1) := by decide +kernel
theorem dX5_init_33 : decode cX5_init 33 = .ok (.newarray .int, 2) := by decide +kernel
theorem dX5_init_35 : decode cX5_init 35 = .ok (.putfield 19, 3) := by decide +kernel
theorem dX5_init_38 : decode cX5_init 38 = .ok (.aload_n 0, 1) := by decide +kernel
theorem dX5_init_39 : decode cX5_init 39 = .ok (.bipush 6, 2) := by decide +kernel
theorem dX5_init_41 : decode cX5_init 41 = .ok (.newarray .long, 2) := by decide +kernel
theorem dX5_init_43 : decode cX5_init 43 = .ok (.putfield 22, 3) := by decide +kernel
theorem dX5_init_46 : decode cX5_init 46 = .ok (.aload_n 0, 1) := by decide +kernel
theorem dX5_init_47 : decode cX5_init 47 = .ok (.bipush 30, 2) := by decide +kernel
theorem dX5_init_49 : decode cX5_init 49 = .ok (.newarray .long, 2) := by decide +kernel
theorem dX5_init_51 : decode cX5_init 51 = .ok (.putfield 26, 3) := by decide +kernel
theorem dX5_init_54 : decode cX5_init 54 = .ok (.aload_n 0, 1) := by decide +kernel
theorem dX5_init_55 : decode cX5_init 55 = .ok (.bipush 64, 2) := by decide +kernel
theorem dX5_init_57 : decode cX5_init 57 = .ok (.newarray .long, 2) := by decide +kernel
theorem dX5_init_59 : decode cX5_init 59 = .ok (.putfield 29, 3) := by decide +kernel
theorem dX5_init_62 : decode cX5_init 62 = .ok (.aload_n 0, 1) := by decide +kernel
theorem dX5_init_63 : decode cX5_init 63 = .ok (.iconst 5, 1) := by decide +kernel
theorem dX5_init_64 : decode cX5_init 64 = .ok (.newarray .int, 2) := by decide +kernel
theorem dX5_init_66 : decode cX5_init 66 = .ok (.putfield 32, 3) := by decide +kernel
theorem dX5_init_69 : decode cX5_init 69 = .ok (.aload_n 0, 1) := by decide +kernel
theorem dX5_init_70 : decode cX5_init 70 = .ok (.bipush 9, 2) := by decide +kernel
theorem dX5_init_72 : decode cX5_init 72 = .ok (.newarray .long, 2) := by decide +kernel
theorem dX5_init_74 : decode cX5_init 74 = .ok (.putfield 35, 3) := by decide +kernel
theorem dX5_init_77 : decode cX5_init 77 = .ok (.aload_n 0, 1) := by decide +kernel
theorem dX5_init_78 : decode cX5_init 78 = .ok (.bipush 9, 2) := by decide +kernel
theorem dX5_init_80 : decode cX5_init 80 = .ok (.newarray .long, 2) := by decide +kernel
theorem dX5_init_82 : decode cX5_init 82 = .ok (.putfield 38, 3) := by decide +kernel
theorem dX5_init_85 : decode cX5_init 85 = .ok (.aload_n 0, 1) := by decide +kernel
theorem dX5_init_86 : decode cX5_init 86 = .ok (.bipush 6, 2) := by decide +kernel
theorem dX5_init_88 : decode cX5_init 88 = .ok (.newarray .long, 2) := by decide +kernel
theorem dX5_init_90 : decode cX5_init 90 = .ok (.putfield 41, 3) := by decide +kernel
theorem dX5_init_93 : decode cX5_init 93 = .ok (.aload_n 0, 1) := by decide +kernel
theorem dX5_init_94 : decode cX5_init 94 = .ok (.bipush 6, 2) := by decide +kernel
theorem dX5_init_96 : decode cX5_init 96 = .ok (.newarray .long, 2) := by decide +kernel
theorem dX5_init_98 : decode cX5_init 98 = .ok (.putfield 44, 3) := by decide +kernel
theorem dX5_init_101 : decode cX5_init 101 = .ok (.aload_n 0, 1) := by decide +kernel
theorem dX5_init_102 : decode cX5_init 102 = .ok (.iconst 3, 1) := by decide +kernel
theorem dX5_init_103 : decode cX5_init 103 = .ok (.newarray .long, 2) := by decide +kernel
theorem dX5_init_105 : decode cX5_init 105 = .ok (.putfield 47, 3) := by decide +kernel
theorem dX5_init_108 : decode cX5_init 108 = .ok (.aload_n 0, 1) := by decide +kernel
theorem dX5_init_109 : decode cX5_init 109 = .ok (.iconst 3, 1) := by decide +kernel
theorem dX5_init_110 : decode cX5_init 110 = .ok (.newarray .long, 2) := by decide +kernel
theorem dX5_init_112 : decode cX5_init 112 = .ok (.putfield 50, 3) := by decide +kernel
theorem dX5_init_115 : decode cX5_init 115 = .ok (.aload_n 0, 1) := by decide +kernel
theorem dX5_init_116 : decode cX5_init 116 = .ok (.iconst 3, 1) := by decide +kernel
theorem dX5_init_117 : decode cX5_init 117 = .ok (.newarray .long, 2) := by decide +kernel
theorem dX5_init_119 : decode cX5_init 119 = .ok (.putfield 53, 3) := by decide +kernel
theorem dX5_init_122 : decode cX5_init 122 = .ok (.aload_n 0, 1) := by decide +kernel
theorem dX5_init_123 : decode cX5_init 123 = .ok (.getfield 19, 3) := by decide +kernel
theorem dX5_init_126 : decode cX5_init 126 = .ok (.iconst 0, 1) := by decide +kernel
theorem dX5_init_127 : decode cX5_init 127 = .ok (.iconst 0, 1) := by decide +kernel
theorem dX5_init_128 : decode cX5_init 128 = .ok (.iastore, 1) := by decide +kernel
theorem dX5_init_129 : decode cX5_init 129 = .ok (.return_, 1) := by decide +kernel
theorem dX5_in_0 : decode cX5_in 0 = .ok (.lload_n 0, 1) := by decide +kernel
theorem dX5_in_1 : decode cX5_in 1 = .ok (.lload_n 2, 1) := by decide +kernel
theorem dX5_in_2 : decode cX5_in 2 = .ok (.lcmp, 1) := by decide +kernel
theorem dX5_in_3 : decode cX5_in 3 = .ok (.ifCond .lt 14, 3) := by decide +kernel
theorem dX5_in_6 : decode cX5_in 6 = .ok (.lload_n 0, 1) := by decide +kernel
theorem dX5_in_7 : decode cX5_in 7 = .ok (.lload 4, 2) := by decide +kernel
theorem dX5_in_9 : decode cX5_in 9 = .ok (.lcmp, 1) := by decide +kernel
theorem dX5_in_10 : decode cX5_in 10 = .ok (.ifCond .gt 7, 3) := by decide +kernel
theorem dX5_in_13 : decode cX5_in 13 = .ok (.iconst 1, 1) := by decide +kernel
theorem dX5_in_14 : decode cX5_in 14 = .ok (.goto 4, 3) := by decide +kernel
theorem dX5_in_17 : decode cX5_in 17 = .ok (.iconst 0, 1) := by decide +kernel
theorem dX5_in_18 : decode cX5_in 18 = .ok (.ireturn, 1) := by decide +kernel
set_option maxRecDepth 20000 in
theorem ggX5_isOf_X5_in : GoodIn wsX5_isOf wsX5_in := goodIn_r _ [5] (by decide +kernel) (by decide +kernel)
set_option maxRecDepth 20000 in
theorem gX5_isOf_X5_in : GoodIn wsX5_isOf (va_wsS RX5 56 yX5_in wsX5_in) := goodIn_app (goodIn_of _ (by decide +kernel)) ggX5_isOf_X5_in
theorem dX5_isOf_0 : decode cX5_isOf 0 = .ok (.iload_n 2, 1) := by decide +kernel
theorem dX5_isOf_1 : decode cX5_isOf 1 = .ok (.i2l, 1) := by decide +kernel
theorem dX5_isOf_2 : decode cX5_isOf 2 = .ok (.lconst 0, 1) := by decide +kernel
theorem dX5_isOf_3 : decode cX5_isOf 3 = .ok (.aload_n 0, 1) := by decide +kernel
theorem dX5_isOf_4 : decode cX5_isOf 4 = .ok (.getfield 19, 3) := by decide +kernel
theorem dX5_isOf_7 : decode cX5_isOf 7 = .ok (.iload_n 1, 1) := by decide +kernel
theorem dX5_isOf_8 : decode cX5_isOf 8 = .ok (.iaload, 1) := by decide +kernel
theorem dX5_isOf_9 : decode cX5_isOf 9 = .ok (.iconst 1, 1) := by decide +kernel
theorem dX5_isOf_10 : decode cX5_isOf 10 = .ok (.isub, 1) := by decide +kernel
theorem dX5_isOf_11 : decode cX5_isOf 11 = .ok (.i2l, 1) := by decide +kernel
theorem dX5_isOf_12 : decode cX5_isOf 12 = .ok (.invokestatic 56, 3) := by decide +kernel
theorem dX5_isOf_15 : decode cX5_isOf 15 = .ok (.ireturn, 1) := by decide +kernel
theorem dX5_wide_0 : decode cX5_wide 0 = .ok (.iload_n 0, 1) := by decide +kernel
theorem dX5_wide_1 : decode cX5_wide 1 = .ok (.iconst 2, 1) := by decide +kernel
theorem dX5_wide_2 : decode cX5_wide 2 = .ok (.if_icmp .ne 8, 3) := by decide +kernel
theorem dX5_wide_5 : decode cX5_wide 5 = .ok (.bipush 6, 2) := by decide +kernel
theorem dX5_wide_7 : decode cX5_wide 7 = .ok (.goto 4, 3) := by decide +kernel
theorem dX5_wide_10 : decode cX5_wide 10 = .ok (.iconst 3, 1) := by decide +kernel
theorem dX5_wide_11 : decode cX5_wide 11 = .ok (.ireturn, 1) := by decide +kernel
theorem dX5_numberOf_0 : decode cX5_numberOf 0 = .ok (.iload_n 1, 1) := by decide +kernel
theorem dX5_numberOf_1 : decode cX5_numberOf 1 = .ok (.ifCond .ne 16, 3) := by decide +kernel
theorem dX5_numberOf_4 : decode cX5_numberOf 4 = .ok (.aload_n 0, 1) := by decide +kernel
theorem dX5_numberOf_5 : decode cX5_numberOf 5 = .ok (.getfield 7, 3) := by decide +kernel
theorem dX5_numberOf_8 : decode cX5_numberOf 8 = .ok (.iconst 3, 1) := by decide +kernel
theorem dX5_numberOf_9 : decode cX5_numberOf 9 = .ok (.iload_n 2, 1) := by decide +kernel
theorem dX5_numberOf_10 : decode cX5_numberOf 10 = .ok (.imul, 1) := by decide +kernel
theorem dX5_numberOf_11 : decode cX5_numberOf 11 = .ok (.iload_n 3, 1) := by decide +kernel
theorem dX5_numberOf_12 : decode cX5_numberOf 12 = .ok (.iadd, 1) := by decide +kernel
theorem dX5_numberOf_13 : decode cX5_numberOf 13 = .ok (.iaload, 1) := by decide +kernel
theorem dX5_numberOf_14 : decode cX5_numberOf 14 = .ok (.goto 32, 3) := by decide +kernel
theorem dX5_numberOf_17 : decode cX5_numberOf 17 = .ok (.iload_n 1, 1) := by decide +kernel
theorem dX5_numberOf_18 : decode cX5_numberOf 18 = .ok (.iconst 1, 1) := by decide +kernel
theorem dX5_numberOf_19 : decode cX5_numberOf 19 = .ok (.if_icmp .ne 16, 3) := by decide +kernel
theorem dX5_numberOf_22 : decode cX5_numberOf 22 = .ok (.aload_n 0, 1) := by decide +kernel
theorem dX5_numberOf_23 : decode cX5_numberOf 23 = .ok (.getfield 13, 3) := by decide +kernel
theorem dX5_numberOf_26 : decode cX5_numberOf 26 = .ok (.iconst 3, 1) := by decide +kernel
theorem dX5_numberOf_27 : decode cX5_numberOf 27 = .ok (.iload_n 2, 1) := by decide +kernel
theorem dX5_numberOf_28 : decode cX5_numberOf 28 = .ok (.imul, 1) := by decide +kernel
theorem dX5_numberOf_29 : decode cX5_numberOf 29 = .ok (.iload_n 3, 1) := by decide +kernel
theorem dX5_numberOf_30 : decode cX5_numberOf 30 = .ok (.iadd, 1) := by decide +kernel
theorem dX5_numberOf_31 : decode cX5_numberOf 31 = .ok (.iaload, 1) := by decide +kernel
theorem dX5_numberOf_32 : decode cX5_numberOf 32 = .ok (.goto 14, 3) := by decide +kernel
theorem dX5_numberOf_35 : decode cX5_numberOf 35 = .ok (.aload_n 0, 1) := by decide +kernel
theorem dX5_numberOf_36 : decode cX5_numberOf 36 = .ok (.getfield 16, 3) := by decide +kernel
theorem dX5_numberOf_39 : decode cX5_numberOf 39 = .ok (.bipush 6, 2) := by decide +kernel
theorem dX5_numberOf_41 : decode cX5_numberOf 41 = .ok (.iload_n 2, 1) := by decide +kernel
theorem dX5_numberOf_42 : decode cX5_numberOf 42 = .ok (.imul, 1) := by decide +kernel
theorem dX5_numberOf_43 : decode cX5_numberOf 43 = .ok (.iload_n 3, 1) := by decide +kernel
theorem dX5_numberOf_44 : decode cX5_numberOf 44 = .ok (.iadd, 1) := by decide +kernel
theorem dX5_numberOf_45 : decode cX5_numberOf 45 = .ok (.iaload, 1) := by decide +kernel
theorem dX5_numberOf_46 : decode cX5_numberOf 46 = .ok (.ireturn, 1) := by decide +kernel
theorem dX5_common_0 : decode cX5_common 0 = .ok (.lload_n 0, 1) := by decide +kernel
theorem dX5_common_1 : decode cX5_common 1 = .ok (.lconst 0, 1) := by decide +kernel
theorem dX5_common_2 : decode cX5_common 2 = .ok (.lcmp, 1) := by decide +kernel
theorem dX5_common_3 : decode cX5_common 3 = .ok (.ifCond .ge 8, 3) := by decide +kernel
theorem dX5_common_6 : decode cX5_common 6 = .ok (.lload_n 0, 1) := by decide +kernel
theorem dX5_common_7 : decode cX5_common 7 = .ok (.lneg, 1) := by decide +kernel
theorem dX5_common_8 : decode cX5_common 8 = .ok (.goto 4, 3) := by decide +kernel
theorem dX5_common_11 : decode cX5_common 11 = .ok (.lload_n 0, 1) := by decide +kernel
theorem dX5_common_12 : decode cX5_common 12 = .ok (.lstore 4, 2) := by decide +kernel
theorem dX5_common_14 : decode cX5_common 14 = .ok (.lload_n 2, 1) := by decide +kernel
theorem dX5_common_15 : decode cX5_common 15 = .ok (.lconst 0, 1) := by decide +kernel
theorem dX5_common_16 : decode cX5_common 16 = .ok (.lcmp, 1) := by decide +kernel
theorem dX5_common_17 : decode cX5_common 17 = .ok (.ifCond .ge 8, 3) := by decide +kernel
theorem dX5_common_20 : decode cX5_common 20 = .ok (.lload_n 2, 1) := by decide +kernel
theorem dX5_common_21 : decode cX5_common 21 = .ok (.lneg, 1) := by decide +kernel
theorem dX5_common_22 : decode cX5_common 22 = .ok (.goto 4, 3) := by decide +kernel
theorem dX5_common_25 : decode cX5_common 25 = .ok (.lload_n 2, 1) := by decide +kernel
theorem dX5_common_26 : decode cX5_common 26 = .ok (.lstore 6, 2) := by decide +kernel
theorem dX5_common_28 : decode cX5_common 28 = .ok (.lload 6, 2) := by decide +kernel
theorem dX5_common_30 : decode cX5_common 30 = .ok (.lconst 0, 1) := by decide +kernel
theorem dX5_common_31 : decode cX5_common 31 = .ok (.lcmp, 1) := by decide +kernel
theorem dX5_common_32 : decode cX5_common 32 = .ok (.ifCond .eq 21, 3) := by decide +kernel
theorem dX5_common_35 : decode cX5_common 35 = .ok (.lload 4, 2) := by decide +kernel
theorem dX5_common_37 : decode cX5_common 37 = .ok (.lload 6, 2) := by decide +kernel
theorem dX5_common_39 : decode cX5_common 39 = .ok (.lrem, 1) := by decide +kernel
theorem dX5_common_40 : decode cX5_common 40 = .ok (.lstore 8, 2) := by decide +kernel
theorem dX5_common_42 : decode cX5_common 42 = .ok (.lload 6, 2) := by decide +kernel
theorem dX5_common_44 : decode cX5_common 44 = .ok (.lstore 4, 2) := by decide +kernel
theorem dX5_common_46 : decode cX5_common 46 = .ok (.lload 8, 2) := by decide +kernel
theorem dX5_common_48 : decode cX5_common 48 = .ok (.lstore 6, 2) := by decide +kernel
theorem dX5_common_50 : decode cX5_common 50 = .ok (.goto (-22), 3) := by decide +kernel
theorem dX5_common_53 : decode cX5_common 53 = .ok (.lload 4, 2) := by decide +kernel
theorem dX5_common_55 : decode cX5_common 55 = .ok (.lreturn, 1) := by decide +kernel
set_option maxRecDepth 20000 in
theorem ggX5_norm_X5_common : GoodIn wsX5_norm wsX5_common := goodIn_r _ [4] (by decide +kernel) (by decide +kernel)
set_option maxRecDepth 20000 in
theorem gX5_norm_X5_common : GoodIn wsX5_norm (va_wsS RX5 60 yX5_common wsX5_common) := goodIn_app (goodIn_of _ (by decide +kernel)) ggX5_norm_X5_common
theorem dX5_norm_0 : decode cX5_norm 0 = .ok (.lconst 0, 1) := by decide +kernel
theorem dX5_norm_1 : decode cX5_norm 1 = .ok (.lstore_n 2, 1) := by decide +kernel
theorem dX5_norm_2 : decode cX5_norm 2 = .ok (.iconst 0, 1) := by decide +kernel
theorem dX5_norm_3 : decode cX5_norm 3 = .ok (.istore 4, 2) := by decide +kernel
theorem dX5_norm_5 : decode cX5_norm 5 = .ok (.iload 4, 2) := by decide +kernel
theorem dX5_norm_7 : decode cX5_norm 7 = .ok (.iload_n 1, 1) := by decide +kernel
theorem dX5_norm_8 : decode cX5_norm 8 = .ok (.if_icmp .ge 18, 3) := by decide +kernel
theorem dX5_norm_11 : decode cX5_norm 11 = .ok (.lload_n 2, 1) := by decide +kernel
theorem dX5_norm_12 : decode cX5_norm 12 = .ok (.aload_n 0, 1) := by decide +kernel
theorem dX5_norm_13 : decode cX5_norm 13 = .ok (.iload 4, 2) := by decide +kernel
theorem dX5_norm_15 : decode cX5_norm 15 = .ok (.laload, 1) := by decide +kernel
theorem dX5_norm_16 : decode cX5_norm 16 = .ok (.invokestatic 60, 3) := by decide +kernel
theorem dX5_norm_19 : decode cX5_norm 19 = .ok (.lstore_n 2, 1) := by decide +kernel
theorem dX5_norm_20 : decode cX5_norm 20 = .ok (.iinc 4 1, 3) := by decide +kernel
theorem dX5_norm_23 : decode cX5_norm 23 = .ok (.goto (-18), 3) := by decide +kernel
theorem dX5_norm_26 : decode cX5_norm 26 = .ok (.lload_n 2, 1) := by decide +kernel
theorem dX5_norm_27 : decode cX5_norm 27 = .ok (.lconst 0, 1) := by decide +kernel
theorem dX5_norm_28 : decode cX5_norm 28 = .ok (.lcmp, 1) := by decide +kernel
theorem dX5_norm_29 : decode cX5_norm 29 = .ok (.ifCond .ne 5, 3) := by decide +kernel
theorem dX5_norm_32 : decode cX5_norm 32 = .ok (.iconst 0, 1) := by decide +kernel
theorem dX5_norm_33 : decode cX5_norm 33 = .ok (.ireturn, 1) := by decide +kernel
theorem dX5_norm_34 : decode cX5_norm 34 = .ok (.iconst 0, 1) := by decide +kernel
theorem dX5_norm_35 : decode cX5_norm 35 = .ok (.istore 4, 2) := by decide +kernel
theorem dX5_norm_37 : decode cX5_norm 37 = .ok (.aload_n 0, 1) := by decide +kernel
theorem dX5_norm_38 : decode cX5_norm 38 = .ok (.iload 4, 2) := by decide +kernel
theorem dX5_norm_40 : decode cX5_norm 40 = .ok (.laload, 1) := by decide +kernel
theorem dX5_norm_41 : decode cX5_norm 41 = .ok (.lconst 0, 1) := by decide +kernel
theorem dX5_norm_42 : decode cX5_norm 42 = .ok (.lcmp, 1) := by decide +kernel
theorem dX5_norm_43 : decode cX5_norm 43 = .ok (.ifCond .ne 9, 3) := by decide +kernel
theorem dX5_norm_46 : decode cX5_norm 46 = .ok (.iinc 4 1, 3) := by decide +kernel
theorem dX5_norm_49 : decode cX5_norm 49 = .ok (.goto (-12), 3) := by decide +kernel
theorem dX5_norm_52 : decode cX5_norm 52 = .ok (.aload_n 0, 1) := by decide +kernel
theorem dX5_norm_53 : decode cX5_norm 53 = .ok (.iload 4, 2) := by decide +kernel
theorem dX5_norm_55 : decode cX5_norm 55 = .ok (.laload, 1) := by decide +kernel
theorem dX5_norm_56 : decode cX5_norm 56 = .ok (.lconst 0, 1) := by decide +kernel
theorem dX5_norm_57 : decode cX5_norm 57 = .ok (.lcmp, 1) := by decide +kernel
theorem dX5_norm_58 : decode cX5_norm 58 = .ok (.ifCond .ge 8, 3) := by decide +kernel
theorem dX5_norm_61 : decode cX5_norm 61 = .ok (.lload_n 2, 1) := by decide +kernel
theorem dX5_norm_62 : decode cX5_norm 62 = .ok (.lneg, 1) := by decide +kernel
theorem dX5_norm_63 : decode cX5_norm 63 = .ok (.goto 4, 3) := by decide +kernel
theorem dX5_norm_66 : decode cX5_norm 66 = .ok (.lload_n 2, 1) := by decide +kernel
theorem dX5_norm_67 : decode cX5_norm 67 = .ok (.lstore_n 2, 1) := by decide +kernel
theorem dX5_norm_68 : decode cX5_norm 68 = .ok (.iconst 0, 1) := by decide +kernel
theorem dX5_norm_69 : decode cX5_norm 69 = .ok (.istore 5, 2) := by decide +kernel
theorem dX5_norm_71 : decode cX5_norm 71 = .ok (.iload 5, 2) := by decide +kernel
theorem dX5_norm_73 : decode cX5_norm 73 = .ok (.iload_n 1, 1) := by decide +kernel
theorem dX5_norm_74 : decode cX5_norm 74 = .ok (.if_icmp .ge 19, 3) := by decide +kernel
theorem dX5_norm_77 : decode cX5_norm 77 = .ok (.aload_n 0, 1) := by decide +kernel
theorem dX5_norm_78 : decode cX5_norm 78 = .ok (.iload 5, 2) := by decide +kernel
theorem dX5_norm_80 : decode cX5_norm 80 = .ok (.aload_n 0, 1) := by decide +kernel
theorem dX5_norm_81 : decode cX5_norm 81 = .ok (.iload 5, 2) := by decide +kernel
theorem dX5_norm_83 : decode cX5_norm 83 = .ok (.laload, 1) := by decide +kernel
theorem dX5_norm_84 : decode cX5_norm 84 = .ok (.lload_n 2, 1) := by decide +kernel
theorem dX5_norm_85 : decode cX5_norm 85 = .ok (.ldiv, 1) := by decide +kernel
theorem dX5_norm_86 : decode cX5_norm 86 = .ok (.lastore, 1) := by decide +kernel
theorem dX5_norm_87 : decode cX5_norm 87 = .ok (.iinc 5 1, 3) := by decide +kernel
theorem dX5_norm_90 : decode cX5_norm 90 = .ok (.goto (-19), 3) := by decide +kernel
theorem dX5_norm_93 : decode cX5_norm 93 = .ok (.iconst 1, 1) := by decide +kernel
theorem dX5_norm_94 : decode cX5_norm 94 = .ok (.ireturn, 1) := by decide +kernel
set_option maxRecDepth 20000 in
theorem ggX5_keep_X5_wide : GoodIn wsX5_keep wsX5_wide := goodIn_r _ [13] (by decide +kernel) (by decide +kernel)
set_option maxRecDepth 20000 in
theorem gX5_keep_X5_wide : GoodIn wsX5_keep (va_wsS RX5 64 yX5_wide wsX5_wide) := goodIn_app (goodIn_of _ (by decide +kernel)) ggX5_keep_X5_wide
set_option maxRecDepth 20000 in
theorem ggX5_keep_X5_norm : GoodIn wsX5_keep wsX5_norm := goodIn_r _ [16, 17, 18, 12, 19] (by decide +kernel) (by decide +kernel)
set_option maxRecDepth 20000 in
theorem gX5_keep_X5_norm : GoodIn wsX5_keep (va_wsS RX5 68 yX5_norm wsX5_norm) := goodIn_app (goodIn_of _ (by decide +kernel)) ggX5_keep_X5_norm
set_option maxRecDepth 20000 in
theorem ggX5_keep_X5_in : GoodIn wsX5_keep wsX5_in := goodIn_r _ [22] (by decide +kernel) (by decide +kernel)
set_option maxRecDepth 20000 in
theorem gX5_keep_X5_in : GoodIn wsX5_keep (va_wsS RX5 56 yX5_in wsX5_in) := goodIn_app (goodIn_of _ (by decide +kernel)) ggX5_keep_X5_in
theorem dX5_keep_0 : decode cX5_keep 0 = .ok (.iload_n 1, 1) := by decide +kernel
theorem dX5_keep_1 : decode cX5_keep 1 = .ok (.invokestatic 64, 3) := by decide +kernel
theorem dX5_keep_4 : decode cX5_keep 4 = .ok (.istore_n 3, 1) := by decide +kernel
theorem dX5_keep_5 : decode cX5_keep 5 = .ok (.aload_n 0, 1) := by decide +kernel
theorem dX5_keep_6 : decode cX5_keep 6 = .ok (.getfield 22, 3) := by decide +kernel
theorem dX5_keep_9 : decode cX5_keep 9 = .ok (.iload_n 3, 1) := by decide +kernel
theorem dX5_keep_10 : decode cX5_keep 10 = .ok (.invokestatic 68, 3) := by decide +kernel
theorem dX5_keep_13 : decode cX5_keep 13 = .ok (.ifCond .ne 5, 3) := by decide +kernel
theorem dX5_keep_16 : decode cX5_keep 16 = .ok (.iload_n 2, 1) := by decide +kernel
theorem dX5_keep_17 : decode cX5_keep 17 = .ok (.ireturn, 1) := by decide +kernel
theorem dX5_keep_18 : decode cX5_keep 18 = .ok (.iconst 0, 1) := by decide +kernel
theorem dX5_keep_19 : decode cX5_keep 19 = .ok (.istore 4, 2) := by decide +kernel
theorem dX5_keep_21 : decode cX5_keep 21 = .ok (.iconst 0, 1) := by decide +kernel
theorem dX5_keep_22 : decode cX5_keep 22 = .ok (.istore 5, 2) := by decide +kernel
theorem dX5_keep_24 : decode cX5_keep 24 = .ok (.iload 5, 2) := by decide +kernel
theorem dX5_keep_26 : decode cX5_keep 26 = .ok (.iload_n 3, 1) := by decide +kernel
theorem dX5_keep_27 : decode cX5_keep 27 = .ok (.if_icmp .ge 40, 3) := by decide +kernel
theorem dX5_keep_30 : decode cX5_keep 30 = .ok (.iload 4, 2) := by decide +kernel
theorem dX5_keep_32 : decode cX5_keep 32 = .ok (.ifCond .ne 22, 3) := by decide +kernel
theorem dX5_keep_35 : decode cX5_keep 35 = .ok (.aload_n 0, 1) := by decide +kernel
theorem dX5_keep_36 : decode cX5_keep 36 = .ok (.getfield 22, 3) := by decide +kernel
theorem dX5_keep_39 : decode cX5_keep 39 = .ok (.iload 5, 2) := by decide +kernel
theorem dX5_keep_41 : decode cX5_keep 41 = .ok (.laload, 1) := by decide +kernel
theorem dX5_keep_42 : decode cX5_keep 42 = .ok (.ldc2_w 72, 3) := by decide +kernel
theorem dX5_keep_45 : decode cX5_keep 45 = .ok (.ldc2_w 74, 3) := by decide +kernel
theorem dX5_keep_48 : decode cX5_keep 48 = .ok (.invokestatic 56, 3) := by decide +kernel
theorem dX5_keep_51 : decode cX5_keep 51 = .ok (.ifCond .ne 7, 3) := by decide +kernel
theorem dX5_keep_54 : decode cX5_keep 54 = .ok (.iconst 1, 1) := by decide +kernel
theorem dX5_keep_55 : decode cX5_keep 55 = .ok (.goto 4, 3) := by decide +kernel
theorem dX5_keep_58 : decode cX5_keep 58 = .ok (.iconst 0, 1) := by decide +kernel
theorem dX5_keep_59 : decode cX5_keep 59 = .ok (.istore 4, 2) := by decide +kernel
theorem dX5_keep_61 : decode cX5_keep 61 = .ok (.iinc 5 1, 3) := by decide +kernel
theorem dX5_keep_64 : decode cX5_keep 64 = .ok (.goto (-40), 3) := by decide +kernel
theorem dX5_keep_67 : decode cX5_keep 67 = .ok (.iload 4, 2) := by decide +kernel
theorem dX5_keep_69 : decode cX5_keep 69 = .ok (.ifCond .eq 6, 3) := by decide +kernel
theorem dX5_keep_72 : decode cX5_keep 72 = .ok (.ldc 76, 2) := by decide +kernel
theorem dX5_keep_74 : decode cX5_keep 74 = .ok (.ireturn, 1) := by decide +kernel
theorem dX5_keep_75 : decode cX5_keep 75 = .ok (.aload_n 0, 1) := by decide +kernel
theorem dX5_keep_76 : decode cX5_keep 76 = .ok (.getfield 19, 3) := by decide +kernel
theorem dX5_keep_79 : decode cX5_keep 79 = .ok (.iload_n 1, 1) := by decide +kernel
theorem dX5_keep_80 : decode cX5_keep 80 = .ok (.iaload, 1) := by decide +kernel
theorem dX5_keep_81 : decode cX5_keep 81 = .ok (.bipush 60, 2) := by decide +kernel
theorem dX5_keep_83 : decode cX5_keep 83 = .ok (.if_icmp .ne 6, 3) := by decide +kernel
theorem dX5_keep_86 : decode cX5_keep 86 = .ok (.ldc 77, 2) := by decide +kernel
theorem dX5_keep_88 : decode cX5_keep 88 = .ok (.ireturn, 1) := by decide +kernel
theorem dX5_keep_89 : decode cX5_keep 89 = .ok (.aload_n 0, 1) := by decide +kernel
theorem dX5_keep_90 : decode cX5_keep 90 = .ok (.getfield 19, 3) := by decide +kernel
theorem dX5_keep_93 : decode cX5_keep 93 = .ok (.iload_n 1, 1) := by decide +kernel
theorem dX5_keep_94 : decode cX5_keep 94 = .ok (.iaload, 1) := by decide +kernel
theorem dX5_keep_95 : decode cX5_keep 95 = .ok (.istore 5, 2) := by decide +kernel
theorem dX5_keep_97 : decode cX5_keep 97 = .ok (.iconst 0, 1) := by decide +kernel
theorem dX5_keep_98 : decode cX5_keep 98 = .ok (.istore 6, 2) := by decide +kernel
theorem dX5_keep_100 : decode cX5_keep 100 = .ok (.iload 6, 2) := by decide +kernel
theorem dX5_keep_102 : decode cX5_keep 102 = .ok (.iload_n 3, 1) := by decide +kernel
theorem dX5_keep_103 : decode cX5_keep 103 = .ok (.if_icmp .ge 85, 3) := by decide +kernel
theorem dX5_keep_106 : decode cX5_keep 106 = .ok (.iload_n 1, 1) := by decide +kernel
theorem dX5_keep_107 : decode cX5_keep 107 = .ok (.ifCond .ne 26, 3) := by decide +kernel
theorem dX5_keep_110 : decode cX5_keep 110 = .ok (.aload_n 0, 1) := by decide +kernel
theorem dX5_keep_111 : decode cX5_keep 111 = .ok (.getfield 7, 3) := by decide +kernel
theorem dX5_keep_114 : decode cX5_keep 114 = .ok (.iconst 3, 1) := by decide +kernel
theorem dX5_keep_115 : decode cX5_keep 115 = .ok (.iload 5, 2) := by decide +kernel
theorem dX5_keep_117 : decode cX5_keep 117 = .ok (.imul, 1) := by decide +kernel
theorem dX5_keep_118 : decode cX5_keep 118 = .ok (.iload 6, 2) := by decide +kernel
theorem dX5_keep_120 : decode cX5_keep 120 = .ok (.iadd, 1) := by decide +kernel
theorem dX5_keep_121 : decode cX5_keep 121 = .ok (.aload_n 0, 1) := by decide +kernel
theorem dX5_keep_122 : decode cX5_keep 122 = .ok (.getfield 22, 3) := by decide +kernel
theorem dX5_keep_125 : decode cX5_keep 125 = .ok (.iload 6, 2) := by decide +kernel
theorem dX5_keep_127 : decode cX5_keep 127 = .ok (.laload, 1) := by decide +kernel
theorem dX5_keep_128 : decode cX5_keep 128 = .ok (.l2i, 1) := by decide +kernel
theorem dX5_keep_129 : decode cX5_keep 129 = .ok (.iastore, 1) := by decide +kernel
theorem dX5_keep_130 : decode cX5_keep 130 = .ok (.goto 52, 3) := by decide +kernel
theorem dX5_keep_133 : decode cX5_keep 133 = .ok (.iload_n 1, 1) := by decide +kernel
theorem dX5_keep_134 : decode cX5_keep 134 = .ok (.iconst 1, 1) := by decide +kernel
theorem dX5_keep_135 : decode cX5_keep 135 = .ok (.if_icmp .ne 26, 3) := by decide +kernel
theorem dX5_keep_138 : decode cX5_keep 138 = .ok (.aload_n 0, 1) := by decide +kernel
theorem dX5_keep_139 : decode cX5_keep 139 = .ok (.getfield 13, 3) := by decide +kernel
theorem dX5_keep_142 : decode cX5_keep 142 = .ok (.iconst 3, 1) := by decide +kernel
theorem dX5_keep_143 : decode cX5_keep 143 = .ok (.iload 5, 2) := by decide +kernel
theorem dX5_keep_145 : decode cX5_keep 145 = .ok (.imul, 1) := by decide +kernel
theorem dX5_keep_146 : decode cX5_keep 146 = .ok (.iload 6, 2) := by decide +kernel
theorem dX5_keep_148 : decode cX5_keep 148 = .ok (.iadd, 1) := by decide +kernel
theorem dX5_keep_149 : decode cX5_keep 149 = .ok (.aload_n 0, 1) := by decide +kernel
theorem dX5_keep_150 : decode cX5_keep 150 = .ok (.getfield 22, 3) := by decide +kernel
theorem dX5_keep_153 : decode cX5_keep 153 = .ok (.iload 6, 2) := by decide +kernel
theorem dX5_keep_155 : decode cX5_keep 155 = .ok (.laload, 1) := by decide +kernel
theorem dX5_keep_156 : decode cX5_keep 156 = .ok (.l2i, 1) := by decide +kernel
theorem dX5_keep_157 : decode cX5_keep 157 = .ok (.iastore, 1) := by decide +kernel
theorem dX5_keep_158 : decode cX5_keep 158 = .ok (.goto 24, 3) := by decide +kernel
theorem dX5_keep_161 : decode cX5_keep 161 = .ok (.aload_n 0, 1) := by decide +kernel
theorem dX5_keep_162 : decode cX5_keep 162 = .ok (.getfield 16, 3) := by decide +kernel
theorem dX5_keep_165 : decode cX5_keep 165 = .ok (.bipush 6, 2) := by decide +kernel
theorem dX5_keep_167 : decode cX5_keep 167 = .ok (.iload 5, 2) := by decide +kernel
theorem dX5_keep_169 : decode cX5_keep 169 = .ok (.imul, 1) := by decide +kernel
theorem dX5_keep_170 : decode cX5_keep 170 = .ok (.iload 6, 2) := by decide +kernel
theorem dX5_keep_172 : decode cX5_keep 172 = .ok (.iadd, 1) := by decide +kernel
theorem dX5_keep_173 : decode cX5_keep 173 = .ok (.aload_n 0, 1) := by decide +kernel
theorem dX5_keep_174 : decode cX5_keep 174 = .ok (.getfield 22, 3) := by decide +kernel
theorem dX5_keep_177 : decode cX5_keep 177 = .ok (.iload 6, 2) := by decide +kernel
theorem dX5_keep_179 : decode cX5_keep 179 = .ok (.laload, 1) := by decide +kernel
theorem dX5_keep_180 : decode cX5_keep 180 = .ok (.l2i, 1) := by decide +kernel
theorem dX5_keep_181 : decode cX5_keep 181 = .ok (.iastore, 1) := by decide +kernel
theorem dX5_keep_182 : decode cX5_keep 182 = .ok (.iinc 6 1, 3) := by decide +kernel
theorem dX5_keep_185 : decode cX5_keep 185 = .ok (.goto (-85), 3) := by decide +kernel
theorem dX5_keep_188 : decode cX5_keep 188 = .ok (.aload_n 0, 1) := by decide +kernel
theorem dX5_keep_189 : decode cX5_keep 189 = .ok (.getfield 19, 3) := by decide +kernel
theorem dX5_keep_192 : decode cX5_keep 192 = .ok (.iload_n 1, 1) := by decide +kernel
theorem dX5_keep_193 : decode cX5_keep 193 = .ok (.dup2, 1) := by decide +kernel
theorem dX5_keep_194 : decode cX5_keep 194 = .ok (.iaload, 1) := by decide +kernel
theorem dX5_keep_195 : decode cX5_keep 195 = .ok (.iconst 1, 1) := by decide +kernel
theorem dX5_keep_196 : decode cX5_keep 196 = .ok (.iadd, 1) := by decide +kernel
theorem dX5_keep_197 : decode cX5_keep 197 = .ok (.iastore, 1) := by decide +kernel
theorem dX5_keep_198 : decode cX5_keep 198 = .ok (.iload 5, 2) := by decide +kernel
theorem dX5_keep_200 : decode cX5_keep 200 = .ok (.ireturn, 1) := by decide +kernel
set_option maxRecDepth 20000 in
theorem ggX5_isNear_X5_in : GoodIn wsX5_isNear wsX5_in := goodIn_r _ [6] (by decide +kernel) (by decide +kernel)
set_option maxRecDepth 20000 in
theorem gX5_isNear_X5_in : GoodIn wsX5_isNear (va_wsS RX5 56 yX5_in wsX5_in) := goodIn_app (goodIn_of _ (by decide +kernel)) ggX5_isNear_X5_in
theorem dX5_isNear_0 : decode cX5_isNear 0 = .ok (.lload_n 0, 1) := by decide +kernel
theorem dX5_isNear_1 : decode cX5_isNear 1 = .ok (.ldc2_w 78, 3) := by decide +kernel
theorem dX5_isNear_4 : decode cX5_isNear 4 = .ok (.ldc2_w 80, 3) := by decide +kernel
theorem dX5_isNear_7 : decode cX5_isNear 7 = .ok (.invokestatic 56, 3) := by decide +kernel
theorem dX5_isNear_10 : decode cX5_isNear 10 = .ok (.ireturn, 1) := by decide +kernel
set_option maxRecDepth 20000 in
theorem ggX5_told3_X5_isNear : GoodIn wsX5_told3 wsX5_isNear := goodIn_r _ [6, 7, 8, 9, 10, 5, 11] (by decide +kernel) (by decide +kernel)
set_option maxRecDepth 20000 in
theorem gX5_told3_X5_isNear : GoodIn wsX5_told3 (va_wsS RX5 82 yX5_isNear wsX5_isNear) := goodIn_app (goodIn_of _ (by decide +kernel)) ggX5_told3_X5_isNear
set_option maxRecDepth 20000 in
theorem ggX5_told3_X5_keep : GoodIn wsX5_told3 wsX5_keep := goodIn_r _ [15, 2, 16, 17, 18, 19, 20, 21, 22, 23, 24, 25, 5, 26, 27, 28, 29, 30, 31, 32, 9, 10, 11, 33, 34, 35, 36, 37, 38, 39, 40, 41, 42, 43, 44, 45, 46, 47, 48, 49] (by decide +kernel) (by decide +kernel)
set_option maxRecDepth 20000 in
theorem gX5_told3_X5_keep : GoodIn wsX5_told3 (wsV RX5 87 RX5 yX5_keep wsX5_keep) := goodIn_app (goodIn_of _ (by decide +kernel)) ggX5_told3_X5_keep
theorem dX5_told3_0 : decode cX5_told3 0 = .ok (.iload_n 2, 1) := by decide +kernel
theorem dX5_told3_1 : decode cX5_told3 1 = .ok (.i2l, 1) := by decide +kernel
theorem dX5_told3_2 : decode cX5_told3 2 = .ok (.invokestatic 82, 3) := by decide +kernel
theorem dX5_told3_5 : decode cX5_told3 5 = .ok (.ifCond .eq 20, 3) := by decide +kernel
theorem dX5_told3_8 : decode cX5_told3 8 = .ok (.iload_n 3, 1) := by decide +kernel
theorem dX5_told3_9 : decode cX5_told3 9 = .ok (.i2l, 1) := by decide +kernel
theorem dX5_told3_10 : decode cX5_told3 10 = .ok (.invokestatic 82, 3) := by decide +kernel
theorem dX5_told3_13 : decode cX5_told3 13 = .ok (.ifCond .eq 12, 3) := by decide +kernel
theorem dX5_told3_16 : decode cX5_told3 16 = .ok (.iload 4, 2) := by decide +kernel
theorem dX5_told3_18 : decode cX5_told3 18 = .ok (.i2l, 1) := by decide +kernel
theorem dX5_told3_19 : decode cX5_told3 19 = .ok (.invokestatic 82, 3) := by decide +kernel
theorem dX5_told3_22 : decode cX5_told3 22 = .ok (.ifCond .ne 6, 3) := by decide +kernel
theorem dX5_told3_25 : decode cX5_told3 25 = .ok (.ldc 86, 2) := by decide +kernel
theorem dX5_told3_27 : decode cX5_told3 27 = .ok (.ireturn, 1) := by decide +kernel
theorem dX5_told3_28 : decode cX5_told3 28 = .ok (.aload_n 0, 1) := by decide +kernel
theorem dX5_told3_29 : decode cX5_told3 29 = .ok (.getfield 22, 3) := by decide +kernel
theorem dX5_told3_32 : decode cX5_told3 32 = .ok (.iconst 0, 1) := by decide +kernel
theorem dX5_told3_33 : decode cX5_told3 33 = .ok (.iload_n 2, 1) := by decide +kernel
theorem dX5_told3_34 : decode cX5_told3 34 = .ok (.i2l, 1) := by decide +kernel
theorem dX5_told3_35 : decode cX5_told3 35 = .ok (.lastore, 1) := by decide +kernel
theorem dX5_told3_36 : decode cX5_told3 36 = .ok (.aload_n 0, 1) := by decide +kernel
theorem dX5_told3_37 : decode cX5_told3 37 = .ok (.getfield 22, 3) := by decide +kernel
theorem dX5_told3_40 : decode cX5_told3 40 = .ok (.iconst 1, 1) := by decide +kernel
theorem dX5_told3_41 : decode cX5_told3 41 = .ok (.iload_n 3, 1) := by decide +kernel
theorem dX5_told3_42 : decode cX5_told3 42 = .ok (.i2l, 1) := by decide +kernel
theorem dX5_told3_43 : decode cX5_told3 43 = .ok (.lastore, 1) := by decide +kernel
theorem dX5_told3_44 : decode cX5_told3 44 = .ok (.aload_n 0, 1) := by decide +kernel
theorem dX5_told3_45 : decode cX5_told3 45 = .ok (.getfield 22, 3) := by decide +kernel
theorem dX5_told3_48 : decode cX5_told3 48 = .ok (.iconst 2, 1) := by decide +kernel
theorem dX5_told3_49 : decode cX5_told3 49 = .ok (.iload 4, 2) := by decide +kernel
theorem dX5_told3_51 : decode cX5_told3 51 = .ok (.i2l, 1) := by decide +kernel
theorem dX5_told3_52 : decode cX5_told3 52 = .ok (.lastore, 1) := by decide +kernel
theorem dX5_told3_53 : decode cX5_told3 53 = .ok (.aload_n 0, 1) := by decide +kernel
theorem dX5_told3_54 : decode cX5_told3 54 = .ok (.iload_n 1, 1) := by decide +kernel
theorem dX5_told3_55 : decode cX5_told3 55 = .ok (.ldc 86, 2) := by decide +kernel
theorem dX5_told3_57 : decode cX5_told3 57 = .ok (.invokevirtual 87, 3) := by decide +kernel
theorem dX5_told3_60 : decode cX5_told3 60 = .ok (.ireturn, 1) := by decide +kernel
set_option maxRecDepth 20000 in
theorem ggX5_point_X5_told3 : GoodIn wsX5_point wsX5_told3 := goodIn_r _ [5, 6, 7, 8, 9, 4, 10, 11, 12, 13, 14, 15, 16, 17, 18, 19, 20, 21, 22, 23, 24, 25, 26, 27, 28, 29, 30, 31, 32, 33, 34, 35, 36, 37, 38, 39, 40, 41, 42, 43, 44, 45, 46, 47, 48, 49, 50, 51, 52, 53] (by decide +kernel) (by decide +kernel)
set_option maxRecDepth 20000 in
theorem gX5_point_X5_told3 : GoodIn wsX5_point (wsV RX5 91 RX5 yX5_told3 wsX5_told3) := goodIn_app (goodIn_of _ (by decide +kernel)) ggX5_point_X5_told3
theorem dX5_point_0 : decode cX5_point 0 = .ok (.aload_n 0, 1) := by decide +kernel
theorem dX5_point_1 : decode cX5_point 1 = .ok (.iconst 0, 1) := by decide +kernel
theorem dX5_point_2 : decode cX5_point 2 = .ok (.iload_n 1, 1) := by decide +kernel
theorem dX5_point_3 : decode cX5_point 3 = .ok (.iload_n 2, 1) := by decide +kernel
