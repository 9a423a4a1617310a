theorem dX5_on_96 : decode cX5_on 96 = .ok (.iload_n 3, 1) := by decide +kernel
theorem dX5_on_97 : decode cX5_on 97 = .ok (.invokevirtual 114, 3) := by decide +kernel
theorem dX5_on_100 : decode cX5_on 100 = .ok (.goto 5, 3) := by decide +kernel
theorem dX5_on_103 : decode cX5_on 103 = .ok (.lload 4, 2) := by decide +kernel
theorem dX5_on_105 : decode cX5_on 105 = .ok (.lstore 4, 2) := by decide +kernel
theorem dX5_on_107 : decode cX5_on 107 = .ok (.lload 4, 2) := by decide +kernel
theorem dX5_on_109 : decode cX5_on 109 = .ok (.lconst 0, 1) := by decide +kernel
theorem dX5_on_110 : decode cX5_on 110 = .ok (.lcmp, 1) := by decide +kernel
theorem dX5_on_111 : decode cX5_on 111 = .ok (.ifCond .ne 7, 3) := by decide +kernel
theorem dX5_on_114 : decode cX5_on 114 = .ok (.iconst 1, 1) := by decide +kernel
theorem dX5_on_115 : decode cX5_on 115 = .ok (.goto 4, 3) := by decide +kernel
theorem dX5_on_118 : decode cX5_on 118 = .ok (.iconst 0, 1) := by decide +kernel
theorem dX5_on_119 : decode cX5_on 119 = .ok (.ireturn, 1) := by decide +kernel
theorem dX5_layRow_0 : decode cX5_layRow 0 = .ok (.aload_n 0, 1) := by decide +kernel
theorem dX5_layRow_1 : decode cX5_layRow 1 = .ok (.getfield 7, 3) := by decide +kernel
theorem dX5_layRow_4 : decode cX5_layRow 4 = .ok (.iconst 3, 1) := by decide +kernel
theorem dX5_layRow_5 : decode cX5_layRow 5 = .ok (.iload_n 2, 1) := by decide +kernel
theorem dX5_layRow_6 : decode cX5_layRow 6 = .ok (.imul, 1) := by decide +kernel
theorem dX5_layRow_7 : decode cX5_layRow 7 = .ok (.iaload, 1) := by decide +kernel
theorem dX5_layRow_8 : decode cX5_layRow 8 = .ok (.i2l, 1) := by decide +kernel
theorem dX5_layRow_9 : decode cX5_layRow 9 = .ok (.lstore_n 3, 1) := by decide +kernel
theorem dX5_layRow_10 : decode cX5_layRow 10 = .ok (.aload_n 0, 1) := by decide +kernel
theorem dX5_layRow_11 : decode cX5_layRow 11 = .ok (.getfield 7, 3) := by decide +kernel
theorem dX5_layRow_14 : decode cX5_layRow 14 = .ok (.iconst 3, 1) := by decide +kernel
theorem dX5_layRow_15 : decode cX5_layRow 15 = .ok (.iload_n 2, 1) := by decide +kernel
theorem dX5_layRow_16 : decode cX5_layRow 16 = .ok (.imul, 1) := by decide +kernel
theorem dX5_layRow_17 : decode cX5_layRow 17 = .ok (.iconst 1, 1) := by decide +kernel
theorem dX5_layRow_18 : decode cX5_layRow 18 = .ok (.iadd, 1) := by decide +kernel
theorem dX5_layRow_19 : decode cX5_layRow 19 = .ok (.iaload, 1) := by decide +kernel
theorem dX5_layRow_20 : decode cX5_layRow 20 = .ok (.i2l, 1) := by decide +kernel
theorem dX5_layRow_21 : decode cX5_layRow 21 = .ok (.lstore 5, 2) := by decide +kernel
theorem dX5_layRow_23 : decode cX5_layRow 23 = .ok (.aload_n 0, 1) := by decide +kernel
theorem dX5_layRow_24 : decode cX5_layRow 24 = .ok (.getfield 7, 3) := by decide +kernel
theorem dX5_layRow_27 : decode cX5_layRow 27 = .ok (.iconst 3, 1) := by decide +kernel
theorem dX5_layRow_28 : decode cX5_layRow 28 = .ok (.iload_n 2, 1) := by decide +kernel
theorem dX5_layRow_29 : decode cX5_layRow 29 = .ok (.imul, 1) := by decide +kernel
theorem dX5_layRow_30 : decode cX5_layRow 30 = .ok (.iconst 2, 1) := by decide +kernel
theorem dX5_layRow_31 : decode cX5_layRow 31 = .ok (.iadd, 1) := by decide +kernel
theorem dX5_layRow_32 : decode cX5_layRow 32 = .ok (.iaload, 1) := by decide +kernel
theorem dX5_layRow_33 : decode cX5_layRow 33 = .ok (.i2l, 1) := by decide +kernel
theorem dX5_layRow_34 : decode cX5_layRow 34 = .ok (.lstore 7, 2) := by decide +kernel
theorem dX5_layRow_36 : decode cX5_layRow 36 = .ok (.aload_n 0, 1) := by decide +kernel
theorem dX5_layRow_37 : decode cX5_layRow 37 = .ok (.getfield 26, 3) := by decide +kernel
theorem dX5_layRow_40 : decode cX5_layRow 40 = .ok (.bipush 6, 2) := by decide +kernel
theorem dX5_layRow_42 : decode cX5_layRow 42 = .ok (.iload_n 1, 1) := by decide +kernel
theorem dX5_layRow_43 : decode cX5_layRow 43 = .ok (.imul, 1) := by decide +kernel
theorem dX5_layRow_44 : decode cX5_layRow 44 = .ok (.lload_n 3, 1) := by decide +kernel
theorem dX5_layRow_45 : decode cX5_layRow 45 = .ok (.lload_n 3, 1) := by decide +kernel
theorem dX5_layRow_46 : decode cX5_layRow 46 = .ok (.lmul, 1) := by decide +kernel
theorem dX5_layRow_47 : decode cX5_layRow 47 = .ok (.lastore, 1) := by decide +kernel
theorem dX5_layRow_48 : decode cX5_layRow 48 = .ok (.aload_n 0, 1) := by decide +kernel
theorem dX5_layRow_49 : decode cX5_layRow 49 = .ok (.getfield 26, 3) := by decide +kernel
theorem dX5_layRow_52 : decode cX5_layRow 52 = .ok (.bipush 6, 2) := by decide +kernel
theorem dX5_layRow_54 : decode cX5_layRow 54 = .ok (.iload_n 1, 1) := by decide +kernel
theorem dX5_layRow_55 : decode cX5_layRow 55 = .ok (.imul, 1) := by decide +kernel
theorem dX5_layRow_56 : decode cX5_layRow 56 = .ok (.iconst 1, 1) := by decide +kernel
theorem dX5_layRow_57 : decode cX5_layRow 57 = .ok (.iadd, 1) := by decide +kernel
theorem dX5_layRow_58 : decode cX5_layRow 58 = .ok (.lload_n 3, 1) := by decide +kernel
theorem dX5_layRow_59 : decode cX5_layRow 59 = .ok (.lload 5, 2) := by decide +kernel
theorem dX5_layRow_61 : decode cX5_layRow 61 = .ok (.lmul, 1) := by decide +kernel
theorem dX5_layRow_62 : decode cX5_layRow 62 = .ok (.lastore, 1) := by decide +kernel
theorem dX5_layRow_63 : decode cX5_layRow 63 = .ok (.aload_n 0, 1) := by decide +kernel
theorem dX5_layRow_64 : decode cX5_layRow 64 = .ok (.getfield 26, 3) := by decide +kernel
theorem dX5_layRow_67 : decode cX5_layRow 67 = .ok (.bipush 6, 2) := by decide +kernel
theorem dX5_layRow_69 : decode cX5_layRow 69 = .ok (.iload_n 1, 1) := by decide +kernel
theorem dX5_layRow_70 : decode cX5_layRow 70 = .ok (.imul, 1) := by decide +kernel
theorem dX5_layRow_71 : decode cX5_layRow 71 = .ok (.iconst 2, 1) := by decide +kernel
theorem dX5_layRow_72 : decode cX5_layRow 72 = .ok (.iadd, 1) := by decide +kernel
theorem dX5_layRow_73 : decode cX5_layRow 73 = .ok (.lload 5, 2) := by decide +kernel
theorem dX5_layRow_75 : decode cX5_layRow 75 = .ok (.lload 5, 2) := by decide +kernel
theorem dX5_layRow_77 : decode cX5_layRow 77 = .ok (.lmul, 1) := by decide +kernel
theorem dX5_layRow_78 : decode cX5_layRow 78 = .ok (.lastore, 1) := by decide +kernel
theorem dX5_layRow_79 : decode cX5_layRow 79 = .ok (.aload_n 0, 1) := by decide +kernel
theorem dX5_layRow_80 : decode cX5_layRow 80 = .ok (.getfield 26, 3) := by decide +kernel
theorem dX5_layRow_83 : decode cX5_layRow 83 = .ok (.bipush 6, 2) := by decide +kernel
theorem dX5_layRow_85 : decode cX5_layRow 85 = .ok (.iload_n 1, 1) := by decide +kernel
theorem dX5_layRow_86 : decode cX5_layRow 86 = .ok (.imul, 1) := by decide +kernel
theorem dX5_layRow_87 : decode cX5_layRow 87 = .ok (.iconst 3, 1) := by decide +kernel
theorem dX5_layRow_88 : decode cX5_layRow 88 = .ok (.iadd, 1) := by decide +kernel
theorem dX5_layRow_89 : decode cX5_layRow 89 = .ok (.lload_n 3, 1) := by decide +kernel
theorem dX5_layRow_90 : decode cX5_layRow 90 = .ok (.lload 7, 2) := by decide +kernel
theorem dX5_layRow_92 : decode cX5_layRow 92 = .ok (.lmul, 1) := by decide +kernel
theorem dX5_layRow_93 : decode cX5_layRow 93 = .ok (.lastore, 1) := by decide +kernel
theorem dX5_layRow_94 : decode cX5_layRow 94 = .ok (.aload_n 0, 1) := by decide +kernel
theorem dX5_layRow_95 : decode cX5_layRow 95 = .ok (.getfield 26, 3) := by decide +kernel
theorem dX5_layRow_98 : decode cX5_layRow 98 = .ok (.bipush 6, 2) := by decide +kernel
theorem dX5_layRow_100 : decode cX5_layRow 100 = .ok (.iload_n 1, 1) := by decide +kernel
theorem dX5_layRow_101 : decode cX5_layRow 101 = .ok (.imul, 1) := by decide +kernel
theorem dX5_layRow_102 : decode cX5_layRow 102 = .ok (.iconst 4, 1) := by decide +kernel
theorem dX5_layRow_103 : decode cX5_layRow 103 = .ok (.iadd, 1) := by decide +kernel
theorem dX5_layRow_104 : decode cX5_layRow 104 = .ok (.lload 5, 2) := by decide +kernel
theorem dX5_layRow_106 : decode cX5_layRow 106 = .ok (.lload 7, 2) := by decide +kernel
theorem dX5_layRow_108 : decode cX5_layRow 108 = .ok (.lmul, 1) := by decide +kernel
theorem dX5_layRow_109 : decode cX5_layRow 109 = .ok (.lastore, 1) := by decide +kernel
theorem dX5_layRow_110 : decode cX5_layRow 110 = .ok (.aload_n 0, 1) := by decide +kernel
theorem dX5_layRow_111 : decode cX5_layRow 111 = .ok (.getfield 26, 3) := by decide +kernel
theorem dX5_layRow_114 : decode cX5_layRow 114 = .ok (.bipush 6, 2) := by decide +kernel
theorem dX5_layRow_116 : decode cX5_layRow 116 = .ok (.iload_n 1, 1) := by decide +kernel
theorem dX5_layRow_117 : decode cX5_layRow 117 = .ok (.imul, 1) := by decide +kernel
theorem dX5_layRow_118 : decode cX5_layRow 118 = .ok (.iconst 5, 1) := by decide +kernel
theorem dX5_layRow_119 : decode cX5_layRow 119 = .ok (.iadd, 1) := by decide +kernel
theorem dX5_layRow_120 : decode cX5_layRow 120 = .ok (.lload 7, 2) := by decide +kernel
theorem dX5_layRow_122 : decode cX5_layRow 122 = .ok (.lload 7, 2) := by decide +kernel
theorem dX5_layRow_124 : decode cX5_layRow 124 = .ok (.lmul, 1) := by decide +kernel
theorem dX5_layRow_125 : decode cX5_layRow 125 = .ok (.lastore, 1) := by decide +kernel
theorem dX5_layRow_126 : decode cX5_layRow 126 = .ok (.return_, 1) := by decide +kernel
set_option maxRecDepth 20000 in
theorem ggX5_isSmall_X5_in : GoodIn wsX5_isSmall wsX5_in := goodIn_r _ [7] (by decide +kernel) (by decide +kernel)
set_option maxRecDepth 20000 in
theorem gX5_isSmall_X5_in : GoodIn wsX5_isSmall (va_wsS RX5 56 yX5_in wsX5_in) := goodIn_app (goodIn_of _ (by decide +kernel)) ggX5_isSmall_X5_in
theorem dX5_isSmall_0 : decode cX5_isSmall 0 = .ok (.iconst 1, 1) := by decide +kernel
theorem dX5_isSmall_1 : decode cX5_isSmall 1 = .ok (.istore_n 2, 1) := by decide +kernel
theorem dX5_isSmall_2 : decode cX5_isSmall 2 = .ok (.iconst 0, 1) := by decide +kernel
theorem dX5_isSmall_3 : decode cX5_isSmall 3 = .ok (.istore_n 3, 1) := by decide +kernel
theorem dX5_isSmall_4 : decode cX5_isSmall 4 = .ok (.iload_n 3, 1) := by decide +kernel
theorem dX5_isSmall_5 : decode cX5_isSmall 5 = .ok (.iconst 3, 1) := by decide +kernel
theorem dX5_isSmall_6 : decode cX5_isSmall 6 = .ok (.if_icmp .ge 42, 3) := by decide +kernel
theorem dX5_isSmall_9 : decode cX5_isSmall 9 = .ok (.iload_n 2, 1) := by decide +kernel
theorem dX5_isSmall_10 : decode cX5_isSmall 10 = .ok (.ifCond .eq 30, 3) := by decide +kernel
theorem dX5_isSmall_13 : decode cX5_isSmall 13 = .ok (.aload_n 0, 1) := by decide +kernel
theorem dX5_isSmall_14 : decode cX5_isSmall 14 = .ok (.getfield 7, 3) := by decide +kernel
theorem dX5_isSmall_17 : decode cX5_isSmall 17 = .ok (.iconst 3, 1) := by decide +kernel
theorem dX5_isSmall_18 : decode cX5_isSmall 18 = .ok (.iload_n 1, 1) := by decide +kernel
theorem dX5_isSmall_19 : decode cX5_isSmall 19 = .ok (.imul, 1) := by decide +kernel
theorem dX5_isSmall_20 : decode cX5_isSmall 20 = .ok (.iload_n 3, 1) := by decide +kernel
theorem dX5_isSmall_21 : decode cX5_isSmall 21 = .ok (.iadd, 1) := by decide +kernel
theorem dX5_isSmall_22 : decode cX5_isSmall 22 = .ok (.iaload, 1) := by decide +kernel
theorem dX5_isSmall_23 : decode cX5_isSmall 23 = .ok (.i2l, 1) := by decide +kernel
theorem dX5_isSmall_24 : decode cX5_isSmall 24 = .ok (.ldc2_w 118, 3) := by decide +kernel
theorem dX5_isSmall_27 : decode cX5_isSmall 27 = .ok (.ldc2_w 120, 3) := by decide +kernel
theorem dX5_isSmall_30 : decode cX5_isSmall 30 = .ok (.invokestatic 56, 3) := by decide +kernel
theorem dX5_isSmall_33 : decode cX5_isSmall 33 = .ok (.ifCond .eq 7, 3) := by decide +kernel
theorem dX5_isSmall_36 : decode cX5_isSmall 36 = .ok (.iconst 1, 1) := by decide +kernel
theorem dX5_isSmall_37 : decode cX5_isSmall 37 = .ok (.goto 4, 3) := by decide +kernel
theorem dX5_isSmall_40 : decode cX5_isSmall 40 = .ok (.iconst 0, 1) := by decide +kernel
theorem dX5_isSmall_41 : decode cX5_isSmall 41 = .ok (.istore_n 2, 1) := by decide +kernel
theorem dX5_isSmall_42 : decode cX5_isSmall 42 = .ok (.iinc 3 1, 3) := by decide +kernel
theorem dX5_isSmall_45 : decode cX5_isSmall 45 = .ok (.goto (-41), 3) := by decide +kernel
theorem dX5_isSmall_48 : decode cX5_isSmall 48 = .ok (.iload_n 2, 1) := by decide +kernel
theorem dX5_isSmall_49 : decode cX5_isSmall 49 = .ok (.ireturn, 1) := by decide +kernel
theorem dX5_layMinors_0 : decode cX5_layMinors 0 = .ok (.aload_n 0, 1) := by decide +kernel
theorem dX5_layMinors_1 : decode cX5_layMinors 1 = .ok (.getfield 29, 3) := by decide +kernel
theorem dX5_layMinors_4 : decode cX5_layMinors 4 = .ok (.iconst 0, 1) := by decide +kernel
theorem dX5_layMinors_5 : decode cX5_layMinors 5 = .ok (.lconst 1, 1) := by decide +kernel
theorem dX5_layMinors_6 : decode cX5_layMinors 6 = .ok (.lastore, 1) := by decide +kernel
theorem dX5_layMinors_7 : decode cX5_layMinors 7 = .ok (.iconst 1, 1) := by decide +kernel
theorem dX5_layMinors_8 : decode cX5_layMinors 8 = .ok (.istore_n 1, 1) := by decide +kernel
theorem dX5_layMinors_9 : decode cX5_layMinors 9 = .ok (.iload_n 1, 1) := by decide +kernel
theorem dX5_layMinors_10 : decode cX5_layMinors 10 = .ok (.bipush 64, 2) := by decide +kernel
theorem dX5_layMinors_12 : decode cX5_layMinors 12 = .ok (.if_icmp .ge 136, 3) := by decide +kernel
theorem dX5_layMinors_15 : decode cX5_layMinors 15 = .ok (.ldc 122, 2) := by decide +kernel
theorem dX5_layMinors_17 : decode cX5_layMinors 17 = .ok (.istore_n 2, 1) := by decide +kernel
theorem dX5_layMinors_18 : decode cX5_layMinors 18 = .ok (.iconst 0, 1) := by decide +kernel
theorem dX5_layMinors_19 : decode cX5_layMinors 19 = .ok (.istore_n 3, 1) := by decide +kernel
theorem dX5_layMinors_20 : decode cX5_layMinors 20 = .ok (.iload_n 3, 1) := by decide +kernel
theorem dX5_layMinors_21 : decode cX5_layMinors 21 = .ok (.bipush 6, 2) := by decide +kernel
theorem dX5_layMinors_23 : decode cX5_layMinors 23 = .ok (.if_icmp .ge 29, 3) := by decide +kernel
theorem dX5_layMinors_26 : decode cX5_layMinors 26 = .ok (.iload_n 2, 1) := by decide +kernel
theorem dX5_layMinors_27 : decode cX5_layMinors 27 = .ok (.ldc 122, 2) := by decide +kernel
theorem dX5_layMinors_29 : decode cX5_layMinors 29 = .ok (.if_icmp .ne 7, 3) := by decide +kernel
theorem dX5_layMinors_32 : decode cX5_layMinors 32 = .ok (.iconst (-1), 1) := by decide +kernel
theorem dX5_layMinors_33 : decode cX5_layMinors 33 = .ok (.goto 4, 3) := by decide +kernel
theorem dX5_layMinors_36 : decode cX5_layMinors 36 = .ok (.iload_n 2, 1) := by decide +kernel
theorem dX5_layMinors_37 : decode cX5_layMinors 37 = .ok (.istore_n 2, 1) := by decide +kernel
theorem dX5_layMinors_38 : decode cX5_layMinors 38 = .ok (.iload_n 2, 1) := by decide +kernel
theorem dX5_layMinors_39 : decode cX5_layMinors 39 = .ok (.iload_n 1, 1) := by decide +kernel
theorem dX5_layMinors_40 : decode cX5_layMinors 40 = .ok (.iload_n 3, 1) := by decide +kernel
theorem dX5_layMinors_41 : decode cX5_layMinors 41 = .ok (.ishr, 1) := by decide +kernel
theorem dX5_layMinors_42 : decode cX5_layMinors 42 = .ok (.iconst 1, 1) := by decide +kernel
theorem dX5_layMinors_43 : decode cX5_layMinors 43 = .ok (.iand, 1) := by decide +kernel
theorem dX5_layMinors_44 : decode cX5_layMinors 44 = .ok (.iadd, 1) := by decide +kernel
theorem dX5_layMinors_45 : decode cX5_layMinors 45 = .ok (.istore_n 2, 1) := by decide +kernel
theorem dX5_layMinors_46 : decode cX5_layMinors 46 = .ok (.iinc 3 1, 3) := by decide +kernel
theorem dX5_layMinors_49 : decode cX5_layMinors 49 = .ok (.goto (-29), 3) := by decide +kernel
theorem dX5_layMinors_52 : decode cX5_layMinors 52 = .ok (.lconst 0, 1) := by decide +kernel
theorem dX5_layMinors_53 : decode cX5_layMinors 53 = .ok (.lstore_n 3, 1) := by decide +kernel
theorem dX5_layMinors_54 : decode cX5_layMinors 54 = .ok (.iload_n 2, 1) := by decide +kernel
theorem dX5_layMinors_55 : decode cX5_layMinors 55 = .ok (.istore 5, 2) := by decide +kernel
theorem dX5_layMinors_57 : decode cX5_layMinors 57 = .ok (.iconst 0, 1) := by decide +kernel
theorem dX5_layMinors_58 : decode cX5_layMinors 58 = .ok (.istore 6, 2) := by decide +kernel
theorem dX5_layMinors_60 : decode cX5_layMinors 60 = .ok (.iload 6, 2) := by decide +kernel
theorem dX5_layMinors_62 : decode cX5_layMinors 62 = .ok (.bipush 6, 2) := by decide +kernel
theorem dX5_layMinors_64 : decode cX5_layMinors 64 = .ok (.if_icmp .ge 71, 3) := by decide +kernel
theorem dX5_layMinors_67 : decode cX5_layMinors 67 = .ok (.iload_n 2, 1) := by decide +kernel
theorem dX5_layMinors_68 : decode cX5_layMinors 68 = .ok (.iconst 5, 1) := by decide +kernel
theorem dX5_layMinors_69 : decode cX5_layMinors 69 = .ok (.if_icmp .ge 66, 3) := by decide +kernel
theorem dX5_layMinors_72 : decode cX5_layMinors 72 = .ok (.iload_n 1, 1) := by decide +kernel
theorem dX5_layMinors_73 : decode cX5_layMinors 73 = .ok (.iload 6, 2) := by decide +kernel
theorem dX5_layMinors_75 : decode cX5_layMinors 75 = .ok (.ishr, 1) := by decide +kernel
theorem dX5_layMinors_76 : decode cX5_layMinors 76 = .ok (.iconst 1, 1) := by decide +kernel
theorem dX5_layMinors_77 : decode cX5_layMinors 77 = .ok (.iand, 1) := by decide +kernel
theorem dX5_layMinors_78 : decode cX5_layMinors 78 = .ok (.iconst 1, 1) := by decide +kernel
theorem dX5_layMinors_79 : decode cX5_layMinors 79 = .ok (.if_icmp .ne 50, 3) := by decide +kernel
theorem dX5_layMinors_82 : decode cX5_layMinors 82 = .ok (.aload_n 0, 1) := by decide +kernel
theorem dX5_layMinors_83 : decode cX5_layMinors 83 = .ok (.getfield 26, 3) := by decide +kernel
theorem dX5_layMinors_86 : decode cX5_layMinors 86 = .ok (.bipush 6, 2) := by decide +kernel
theorem dX5_layMinors_88 : decode cX5_layMinors 88 = .ok (.iload_n 2, 1) := by decide +kernel
theorem dX5_layMinors_89 : decode cX5_layMinors 89 = .ok (.imul, 1) := by decide +kernel
theorem dX5_layMinors_90 : decode cX5_layMinors 90 = .ok (.iload 6, 2) := by decide +kernel
theorem dX5_layMinors_92 : decode cX5_layMinors 92 = .ok (.iadd, 1) := by decide +kernel
theorem dX5_layMinors_93 : decode cX5_layMinors 93 = .ok (.laload, 1) := by decide +kernel
theorem dX5_layMinors_94 : decode cX5_layMinors 94 = .ok (.aload_n 0, 1) := by decide +kernel
theorem dX5_layMinors_95 : decode cX5_layMinors 95 = .ok (.getfield 29, 3) := by decide +kernel
theorem dX5_layMinors_98 : decode cX5_layMinors 98 = .ok (.iload_n 1, 1) := by decide +kernel
theorem dX5_layMinors_99 : decode cX5_layMinors 99 = .ok (.iconst 1, 1) := by decide +kernel
theorem dX5_layMinors_100 : decode cX5_layMinors 100 = .ok (.iload 6, 2) := by decide +kernel
theorem dX5_layMinors_102 : decode cX5_layMinors 102 = .ok (.ishl, 1) := by decide +kernel
theorem dX5_layMinors_103 : decode cX5_layMinors 103 = .ok (.isub, 1) := by decide +kernel
theorem dX5_layMinors_104 : decode cX5_layMinors 104 = .ok (.laload, 1) := by decide +kernel
theorem dX5_layMinors_105 : decode cX5_layMinors 105 = .ok (.lmul, 1) := by decide +kernel
theorem dX5_layMinors_106 : decode cX5_layMinors 106 = .ok (.lstore 7, 2) := by decide +kernel
theorem dX5_layMinors_108 : decode cX5_layMinors 108 = .ok (.lload_n 3, 1) := by decide +kernel
theorem dX5_layMinors_109 : decode cX5_layMinors 109 = .ok (.iload 5, 2) := by decide +kernel
theorem dX5_layMinors_111 : decode cX5_layMinors 111 = .ok (.iconst 2, 1) := by decide +kernel
theorem dX5_layMinors_112 : decode cX5_layMinors 112 = .ok (.irem, 1) := by decide +kernel
theorem dX5_layMinors_113 : decode cX5_layMinors 113 = .ok (.ifCond .ne 8, 3) := by decide +kernel
theorem dX5_layMinors_116 : decode cX5_layMinors 116 = .ok (.lload 7, 2) := by decide +kernel
theorem dX5_layMinors_118 : decode cX5_layMinors 118 = .ok (.goto 6, 3) := by decide +kernel
theorem dX5_layMinors_121 : decode cX5_layMinors 121 = .ok (.lload 7, 2) := by decide +kernel
theorem dX5_layMinors_123 : decode cX5_layMinors 123 = .ok (.lneg, 1) := by decide +kernel
theorem dX5_layMinors_124 : decode cX5_layMinors 124 = .ok (.ladd, 1) := by decide +kernel
theorem dX5_layMinors_125 : decode cX5_layMinors 125 = .ok (.lstore_n 3, 1) := by decide +kernel
theorem dX5_layMinors_126 : decode cX5_layMinors 126 = .ok (.iinc 5 (-1), 3) := by decide +kernel
theorem dX5_layMinors_129 : decode cX5_layMinors 129 = .ok (.iinc 6 1, 3) := by decide +kernel
theorem dX5_layMinors_132 : decode cX5_layMinors 132 = .ok (.goto (-72), 3) := by decide +kernel
theorem dX5_layMinors_135 : decode cX5_layMinors 135 = .ok (.aload_n 0, 1) := by decide +kernel
theorem dX5_layMinors_136 : decode cX5_layMinors 136 = .ok (.getfield 29, 3) := by decide +kernel
theorem dX5_layMinors_139 : decode cX5_layMinors 139 = .ok (.iload_n 1, 1) := by decide +kernel
theorem dX5_layMinors_140 : decode cX5_layMinors 140 = .ok (.lload_n 3, 1) := by decide +kernel
theorem dX5_layMinors_141 : decode cX5_layMinors 141 = .ok (.lastore, 1) := by decide +kernel
theorem dX5_layMinors_142 : decode cX5_layMinors 142 = .ok (.iinc 1 1, 3) := by decide +kernel
theorem dX5_layMinors_145 : decode cX5_layMinors 145 = .ok (.goto (-136), 3) := by decide +kernel
theorem dX5_layMinors_148 : decode cX5_layMinors 148 = .ok (.return_, 1) := by decide +kernel
theorem dX5_spreadOf_0 : decode cX5_spreadOf 0 = .ok (.lconst 0, 1) := by decide +kernel
theorem dX5_spreadOf_1 : decode cX5_spreadOf 1 = .ok (.lstore 4, 2) := by decide +kernel
theorem dX5_spreadOf_3 : decode cX5_spreadOf 3 = .ok (.iconst 0, 1) := by decide +kernel
theorem dX5_spreadOf_4 : decode cX5_spreadOf 4 = .ok (.istore 6, 2) := by decide +kernel
theorem dX5_spreadOf_6 : decode cX5_spreadOf 6 = .ok (.iload 6, 2) := by decide +kernel
theorem dX5_spreadOf_8 : decode cX5_spreadOf 8 = .ok (.iconst 3, 1) := by decide +kernel
theorem dX5_spreadOf_9 : decode cX5_spreadOf 9 = .ok (.if_icmp .ge 123, 3) := by decide +kernel
theorem dX5_spreadOf_12 : decode cX5_spreadOf 12 = .ok (.iload 6, 2) := by decide +kernel
theorem dX5_spreadOf_14 : decode cX5_spreadOf 14 = .ok (.iconst 1, 1) := by decide +kernel
theorem dX5_spreadOf_15 : decode cX5_spreadOf 15 = .ok (.iadd, 1) := by decide +kernel
theorem dX5_spreadOf_16 : decode cX5_spreadOf 16 = .ok (.iconst 3, 1) := by decide +kernel
theorem dX5_spreadOf_17 : decode cX5_spreadOf 17 = .ok (.irem, 1) := by decide +kernel
theorem dX5_spreadOf_18 : decode cX5_spreadOf 18 = .ok (.istore 7, 2) := by decide +kernel
theorem dX5_spreadOf_20 : decode cX5_spreadOf 20 = .ok (.iload 6, 2) := by decide +kernel
theorem dX5_spreadOf_22 : decode cX5_spreadOf 22 = .ok (.iconst 2, 1) := by decide +kernel
theorem dX5_spreadOf_23 : decode cX5_spreadOf 23 = .ok (.iadd, 1) := by decide +kernel
theorem dX5_spreadOf_24 : decode cX5_spreadOf 24 = .ok (.iconst 3, 1) := by decide +kernel
theorem dX5_spreadOf_25 : decode cX5_spreadOf 25 = .ok (.irem, 1) := by decide +kernel
theorem dX5_spreadOf_26 : decode cX5_spreadOf 26 = .ok (.istore 8, 2) := by decide +kernel
theorem dX5_spreadOf_28 : decode cX5_spreadOf 28 = .ok (.aload_n 0, 1) := by decide +kernel
theorem dX5_spreadOf_29 : decode cX5_spreadOf 29 = .ok (.getfield 7, 3) := by decide +kernel
theorem dX5_spreadOf_32 : decode cX5_spreadOf 32 = .ok (.iconst 3, 1) := by decide +kernel
theorem dX5_spreadOf_33 : decode cX5_spreadOf 33 = .ok (.aload_n 0, 1) := by decide +kernel
theorem dX5_spreadOf_34 : decode cX5_spreadOf 34 = .ok (.getfield 32, 3) := by decide +kernel
theorem dX5_spreadOf_37 : decode cX5_spreadOf 37 = .ok (.iload_n 2, 1) := by decide +kernel
theorem dX5_spreadOf_38 : decode cX5_spreadOf 38 = .ok (.iaload, 1) := by decide +kernel
theorem dX5_spreadOf_39 : decode cX5_spreadOf 39 = .ok (.imul, 1) := by decide +kernel
theorem dX5_spreadOf_40 : decode cX5_spreadOf 40 = .ok (.iload 7, 2) := by decide +kernel
theorem dX5_spreadOf_42 : decode cX5_spreadOf 42 = .ok (.iadd, 1) := by decide +kernel
theorem dX5_spreadOf_43 : decode cX5_spreadOf 43 = .ok (.iaload, 1) := by decide +kernel
theorem dX5_spreadOf_44 : decode cX5_spreadOf 44 = .ok (.i2l, 1) := by decide +kernel
theorem dX5_spreadOf_45 : decode cX5_spreadOf 45 = .ok (.aload_n 0, 1) := by decide +kernel
theorem dX5_spreadOf_46 : decode cX5_spreadOf 46 = .ok (.getfield 7, 3) := by decide +kernel
theorem dX5_spreadOf_49 : decode cX5_spreadOf 49 = .ok (.iconst 3, 1) := by decide +kernel
theorem dX5_spreadOf_50 : decode cX5_spreadOf 50 = .ok (.aload_n 0, 1) := by decide +kernel
theorem dX5_spreadOf_51 : decode cX5_spreadOf 51 = .ok (.getfield 32, 3) := by decide +kernel
theorem dX5_spreadOf_54 : decode cX5_spreadOf 54 = .ok (.iload_n 3, 1) := by decide +kernel
theorem dX5_spreadOf_55 : decode cX5_spreadOf 55 = .ok (.iaload, 1) := by decide +kernel
theorem dX5_spreadOf_56 : decode cX5_spreadOf 56 = .ok (.imul, 1) := by decide +kernel
theorem dX5_spreadOf_57 : decode cX5_spreadOf 57 = .ok (.iload 8, 2) := by decide +kernel
theorem dX5_spreadOf_59 : decode cX5_spreadOf 59 = .ok (.iadd, 1) := by decide +kernel
theorem dX5_spreadOf_60 : decode cX5_spreadOf 60 = .ok (.iaload, 1) := by decide +kernel
theorem dX5_spreadOf_61 : decode cX5_spreadOf 61 = .ok (.i2l, 1) := by decide +kernel
theorem dX5_spreadOf_62 : decode cX5_spreadOf 62 = .ok (.lmul, 1) := by decide +kernel
theorem dX5_spreadOf_63 : decode cX5_spreadOf 63 = .ok (.aload_n 0, 1) := by decide +kernel
theorem dX5_spreadOf_64 : decode cX5_spreadOf 64 = .ok (.getfield 7, 3) := by decide +kernel
theorem dX5_spreadOf_67 : decode cX5_spreadOf 67 = .ok (.iconst 3, 1) := by decide +kernel
theorem dX5_spreadOf_68 : decode cX5_spreadOf 68 = .ok (.aload_n 0, 1) := by decide +kernel
theorem dX5_spreadOf_69 : decode cX5_spreadOf 69 = .ok (.getfield 32, 3) := by decide +kernel
theorem dX5_spreadOf_72 : decode cX5_spreadOf 72 = .ok (.iload_n 2, 1) := by decide +kernel
theorem dX5_spreadOf_73 : decode cX5_spreadOf 73 = .ok (.iaload, 1) := by decide +kernel
theorem dX5_spreadOf_74 : decode cX5_spreadOf 74 = .ok (.imul, 1) := by decide +kernel
theorem dX5_spreadOf_75 : decode cX5_spreadOf 75 = .ok (.iload 8, 2) := by decide +kernel
theorem dX5_spreadOf_77 : decode cX5_spreadOf 77 = .ok (.iadd, 1) := by decide +kernel
theorem dX5_spreadOf_78 : decode cX5_spreadOf 78 = .ok (.iaload, 1) := by decide +kernel
theorem dX5_spreadOf_79 : decode cX5_spreadOf 79 = .ok (.i2l, 1) := by decide +kernel
theorem dX5_spreadOf_80 : decode cX5_spreadOf 80 = .ok (.aload_n 0, 1) := by decide +kernel
theorem dX5_spreadOf_81 : decode cX5_spreadOf 81 = .ok (.getfield 7, 3) := by decide +kernel
theorem dX5_spreadOf_84 : decode cX5_spreadOf 84 = .ok (.iconst 3, 1) := by decide +kernel
theorem dX5_spreadOf_85 : decode cX5_spreadOf 85 = .ok (.aload_n 0, 1) := by decide +kernel
theorem dX5_spreadOf_86 : decode cX5_spreadOf 86 = .ok (.getfield 32, 3) := by decide +kernel
theorem dX5_spreadOf_89 : decode cX5_spreadOf 89 = .ok (.iload_n 3, 1) := by decide +kernel
theorem dX5_spreadOf_90 : decode cX5_spreadOf 90 = .ok (.iaload, 1) := by decide +kernel
theorem dX5_spreadOf_91 : decode cX5_spreadOf 91 = .ok (.imul, 1) := by decide +kernel
theorem dX5_spreadOf_92 : decode cX5_spreadOf 92 = .ok (.iload 7, 2) := by decide +kernel
theorem dX5_spreadOf_94 : decode cX5_spreadOf 94 = .ok (.iadd, 1) := by decide +kernel
theorem dX5_spreadOf_95 : decode cX5_spreadOf 95 = .ok (.iaload, 1) := by decide +kernel
theorem dX5_spreadOf_96 : decode cX5_spreadOf 96 = .ok (.i2l, 1) := by decide +kernel
theorem dX5_spreadOf_97 : decode cX5_spreadOf 97 = .ok (.lmul, 1) := by decide +kernel
theorem dX5_spreadOf_98 : decode cX5_spreadOf 98 = .ok (.lsub, 1) := by decide +kernel
theorem dX5_spreadOf_99 : decode cX5_spreadOf 99 = .ok (.lstore 9, 2) := by decide +kernel
theorem dX5_spreadOf_101 : decode cX5_spreadOf 101 = .ok (.lload 4, 2) := by decide +kernel
theorem dX5_spreadOf_103 : decode cX5_spreadOf 103 = .ok (.aload_n 0, 1) := by decide +kernel
theorem dX5_spreadOf_104 : decode cX5_spreadOf 104 = .ok (.getfield 7, 3) := by decide +kernel
theorem dX5_spreadOf_107 : decode cX5_spreadOf 107 = .ok (.iconst 3, 1) := by decide +kernel
theorem dX5_spreadOf_108 : decode cX5_spreadOf 108 = .ok (.aload_n 0, 1) := by decide +kernel
theorem dX5_spreadOf_109 : decode cX5_spreadOf 109 = .ok (.getfield 32, 3) := by decide +kernel
theorem dX5_spreadOf_112 : decode cX5_spreadOf 112 = .ok (.iload_n 1, 1) := by decide +kernel
theorem dX5_spreadOf_113 : decode cX5_spreadOf 113 = .ok (.iaload, 1) := by decide +kernel
theorem dX5_spreadOf_114 : decode cX5_spreadOf 114 = .ok (.imul, 1) := by decide +kernel
theorem dX5_spreadOf_115 : decode cX5_spreadOf 115 = .ok (.iload 6, 2) := by decide +kernel
theorem dX5_spreadOf_117 : decode cX5_spreadOf 117 = .ok (.iadd, 1) := by decide +kernel
theorem dX5_spreadOf_118 : decode cX5_spreadOf 118 = .ok (.iaload, 1) := by decide +kernel
theorem dX5_spreadOf_119 : decode cX5_spreadOf 119 = .ok (.i2l, 1) := by decide +kernel
theorem dX5_spreadOf_120 : decode cX5_spreadOf 120 = .ok (.lload 9, 2) := by decide +kernel
theorem dX5_spreadOf_122 : decode cX5_spreadOf 122 = .ok (.lmul, 1) := by decide +kernel
theorem dX5_spreadOf_123 : decode cX5_spreadOf 123 = .ok (.ladd, 1) := by decide +kernel
theorem dX5_spreadOf_124 : decode cX5_spreadOf 124 = .ok (.lstore 4, 2) := by decide +kernel
theorem dX5_spreadOf_126 : decode cX5_spreadOf 126 = .ok (.iinc 6 1, 3) := by decide +kernel
theorem dX5_spreadOf_129 : decode cX5_spreadOf 129 = .ok (.goto (-123), 3) := by decide +kernel
theorem dX5_spreadOf_132 : decode cX5_spreadOf 132 = .ok (.lload 4, 2) := by decide +kernel
theorem dX5_spreadOf_134 : decode cX5_spreadOf 134 = .ok (.lreturn, 1) := by decide +kernel
set_option maxRecDepth 20000 in
theorem ggX5_areSeveral_X5_spreadOf : GoodIn wsX5_areSeveral wsX5_spreadOf := goodIn_r _ [7, 1, 2, 8, 9, 10, 11, 12, 13, 14, 15, 16, 17, 18, 19, 20, 21, 22, 23, 24] (by decide +kernel) (by decide +kernel)
set_option maxRecDepth 20000 in
theorem gX5_areSeveral_X5_spreadOf : GoodIn wsX5_areSeveral (wsV RX5 123 RX5 yX5_spreadOf wsX5_spreadOf) := goodIn_app (goodIn_of _ (by decide +kernel)) ggX5_areSeveral_X5_spreadOf
theorem dX5_areSeveral_0 : decode cX5_areSeveral 0 = .ok (.iconst 0, 1) := by decide +kernel
theorem dX5_areSeveral_1 : decode cX5_areSeveral 1 = .ok (.istore_n 1, 1) := by decide +kernel
theorem dX5_areSeveral_2 : decode cX5_areSeveral 2 = .ok (.iconst 0, 1) := by decide +kernel
theorem dX5_areSeveral_3 : decode cX5_areSeveral 3 = .ok (.istore_n 2, 1) := by decide +kernel
theorem dX5_areSeveral_4 : decode cX5_areSeveral 4 = .ok (.iload_n 2, 1) := by decide +kernel
theorem dX5_areSeveral_5 : decode cX5_areSeveral 5 = .ok (.iconst 5, 1) := by decide +kernel
theorem dX5_areSeveral_6 : decode cX5_areSeveral 6 = .ok (.if_icmp .ge 196, 3) := by decide +kernel
theorem dX5_areSeveral_9 : decode cX5_areSeveral 9 = .ok (.iconst 0, 1) := by decide +kernel
theorem dX5_areSeveral_10 : decode cX5_areSeveral 10 = .ok (.istore_n 3, 1) := by decide +kernel
theorem dX5_areSeveral_11 : decode cX5_areSeveral 11 = .ok (.iload_n 3, 1) := by decide +kernel
theorem dX5_areSeveral_12 : decode cX5_areSeveral 12 = .ok (.iload_n 2, 1) := by decide +kernel
theorem dX5_areSeveral_13 : decode cX5_areSeveral 13 = .ok (.if_icmp .ge 89, 3) := by decide +kernel
theorem dX5_areSeveral_16 : decode cX5_areSeveral 16 = .ok (.iconst 1, 1) := by decide +kernel
theorem dX5_areSeveral_17 : decode cX5_areSeveral 17 = .ok (.istore 4, 2) := by decide +kernel
theorem dX5_areSeveral_19 : decode cX5_areSeveral 19 = .ok (.iconst 0, 1) := by decide +kernel
theorem dX5_areSeveral_20 : decode cX5_areSeveral 20 = .ok (.istore 5, 2) := by decide +kernel
theorem dX5_areSeveral_22 : decode cX5_areSeveral 22 = .ok (.iload 5, 2) := by decide +kernel
theorem dX5_areSeveral_24 : decode cX5_areSeveral 24 = .ok (.iconst 3, 1) := by decide +kernel
theorem dX5_areSeveral_25 : decode cX5_areSeveral 25 = .ok (.if_icmp .ge 56, 3) := by decide +kernel
theorem dX5_areSeveral_28 : decode cX5_areSeveral 28 = .ok (.iload 4, 2) := by decide +kernel
theorem dX5_areSeveral_30 : decode cX5_areSeveral 30 = .ok (.ifCond .eq 42, 3) := by decide +kernel
theorem dX5_areSeveral_33 : decode cX5_areSeveral 33 = .ok (.aload_n 0, 1) := by decide +kernel
theorem dX5_areSeveral_34 : decode cX5_areSeveral 34 = .ok (.getfield 7, 3) := by decide +kernel
theorem dX5_areSeveral_37 : decode cX5_areSeveral 37 = .ok (.iconst 3, 1) := by decide +kernel
theorem dX5_areSeveral_38 : decode cX5_areSeveral 38 = .ok (.aload_n 0, 1) := by decide +kernel
theorem dX5_areSeveral_39 : decode cX5_areSeveral 39 = .ok (.getfield 32, 3) := by decide +kernel
theorem dX5_areSeveral_42 : decode cX5_areSeveral 42 = .ok (.iload_n 2, 1) := by decide +kernel
theorem dX5_areSeveral_43 : decode cX5_areSeveral 43 = .ok (.iaload, 1) := by decide +kernel
theorem dX5_areSeveral_44 : decode cX5_areSeveral 44 = .ok (.imul, 1) := by decide +kernel
theorem dX5_areSeveral_45 : decode cX5_areSeveral 45 = .ok (.iload 5, 2) := by decide +kernel
theorem dX5_areSeveral_47 : decode cX5_areSeveral 47 = .ok (.iadd, 1) := by decide +kernel
theorem dX5_areSeveral_48 : decode cX5_areSeveral 48 = .ok (.iaload, 1) := by decide +kernel
theorem dX5_areSeveral_49 : decode cX5_areSeveral 49 = .ok (.aload_n 0, 1) := by decide +kernel
theorem dX5_areSeveral_50 : decode cX5_areSeveral 50 = .ok (.getfield 7, 3) := by decide +kernel
theorem dX5_areSeveral_53 : decode cX5_areSeveral 53 = .ok (.iconst 3, 1) := by decide +kernel
theorem dX5_areSeveral_54 : decode cX5_areSeveral 54 = .ok (.aload_n 0, 1) := by decide +kernel
theorem dX5_areSeveral_55 : decode cX5_areSeveral 55 = .ok (.getfield 32, 3) := by decide +kernel
theorem dX5_areSeveral_58 : decode cX5_areSeveral 58 = .ok (.iload_n 3, 1) := by decide +kernel
theorem dX5_areSeveral_59 : decode cX5_areSeveral 59 = .ok (.iaload, 1) := by decide +kernel
theorem dX5_areSeveral_60 : decode cX5_areSeveral 60 = .ok (.imul, 1) := by decide +kernel
theorem dX5_areSeveral_61 : decode cX5_areSeveral 61 = .ok (.iload 5, 2) := by decide +kernel
theorem dX5_areSeveral_63 : decode cX5_areSeveral 63 = .ok (.iadd, 1) := by decide +kernel
theorem dX5_areSeveral_64 : decode cX5_areSeveral 64 = .ok (.iaload, 1) := by decide +kernel
theorem dX5_areSeveral_65 : decode cX5_areSeveral 65 = .ok (.if_icmp .ne 7, 3) := by decide +kernel
theorem dX5_areSeveral_68 : decode cX5_areSeveral 68 = .ok (.iconst 1, 1) := by decide +kernel
theorem dX5_areSeveral_69 : decode cX5_areSeveral 69 = .ok (.goto 4, 3) := by decide +kernel
theorem dX5_areSeveral_72 : decode cX5_areSeveral 72 = .ok (.iconst 0, 1) := by decide +kernel
theorem dX5_areSeveral_73 : decode cX5_areSeveral 73 = .ok (.istore 4, 2) := by decide +kernel
theorem dX5_areSeveral_75 : decode cX5_areSeveral 75 = .ok (.iinc 5 1, 3) := by decide +kernel
theorem dX5_areSeveral_78 : decode cX5_areSeveral 78 = .ok (.goto (-56), 3) := by decide +kernel
theorem dX5_areSeveral_81 : decode cX5_areSeveral 81 = .ok (.iload_n 1, 1) := by decide +kernel
theorem dX5_areSeveral_82 : decode cX5_areSeveral 82 = .ok (.ifCond .ne 8, 3) := by decide +kernel
theorem dX5_areSeveral_85 : decode cX5_areSeveral 85 = .ok (.iload 4, 2) := by decide +kernel
theorem dX5_areSeveral_87 : decode cX5_areSeveral 87 = .ok (.ifCond .eq 7, 3) := by decide +kernel
theorem dX5_areSeveral_90 : decode cX5_areSeveral 90 = .ok (.iconst 1, 1) := by decide +kernel
theorem dX5_areSeveral_91 : decode cX5_areSeveral 91 = .ok (.goto 4, 3) := by decide +kernel
theorem dX5_areSeveral_94 : decode cX5_areSeveral 94 = .ok (.iconst 0, 1) := by decide +kernel
theorem dX5_areSeveral_95 : decode cX5_areSeveral 95 = .ok (.istore_n 1, 1) := by decide +kernel
theorem dX5_areSeveral_96 : decode cX5_areSeveral 96 = .ok (.iinc 3 1, 3) := by decide +kernel
theorem dX5_areSeveral_99 : decode cX5_areSeveral 99 = .ok (.goto (-88), 3) := by decide +kernel
theorem dX5_areSeveral_102 : decode cX5_areSeveral 102 = .ok (.iload_n 2, 1) := by decide +kernel
theorem dX5_areSeveral_103 : decode cX5_areSeveral 103 = .ok (.iconst 1, 1) := by decide +kernel
theorem dX5_areSeveral_104 : decode cX5_areSeveral 104 = .ok (.iadd, 1) := by decide +kernel
theorem dX5_areSeveral_105 : decode cX5_areSeveral 105 = .ok (.iconst 5, 1) := by decide +kernel
theorem dX5_areSeveral_106 : decode cX5_areSeveral 106 = .ok (.irem, 1) := by decide +kernel
theorem dX5_areSeveral_107 : decode cX5_areSeveral 107 = .ok (.istore_n 3, 1) := by decide +kernel
theorem dX5_areSeveral_108 : decode cX5_areSeveral 108 = .ok (.iload_n 2, 1) := by decide +kernel
theorem dX5_areSeveral_109 : decode cX5_areSeveral 109 = .ok (.iconst 2, 1) := by decide +kernel
theorem dX5_areSeveral_110 : decode cX5_areSeveral 110 = .ok (.iadd, 1) := by decide +kernel
theorem dX5_areSeveral_111 : decode cX5_areSeveral 111 = .ok (.iconst 5, 1) := by decide +kernel
theorem dX5_areSeveral_112 : decode cX5_areSeveral 112 = .ok (.irem, 1) := by decide +kernel
theorem dX5_areSeveral_113 : decode cX5_areSeveral 113 = .ok (.istore 4, 2) := by decide +kernel
theorem dX5_areSeveral_115 : decode cX5_areSeveral 115 = .ok (.iload_n 2, 1) := by decide +kernel
theorem dX5_areSeveral_116 : decode cX5_areSeveral 116 = .ok (.iconst 3, 1) := by decide +kernel
theorem dX5_areSeveral_117 : decode cX5_areSeveral 117 = .ok (.iadd, 1) := by decide +kernel
