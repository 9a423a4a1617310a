theorem dX5_putPart_34 : decode cX5_putPart 34 = .ok (.getfield 53, 3) := by decide +kernel
theorem dX5_putPart_37 : decode cX5_putPart 37 = .ok (.iconst 3, 1) := by decide +kernel
theorem dX5_putPart_38 : decode cX5_putPart 38 = .ok (.invokestatic 68, 3) := by decide +kernel
theorem dX5_putPart_41 : decode cX5_putPart 41 = .ok (.istore 4, 2) := by decide +kernel
theorem dX5_putPart_43 : decode cX5_putPart 43 = .ok (.iconst 0, 1) := by decide +kernel
theorem dX5_putPart_44 : decode cX5_putPart 44 = .ok (.istore 5, 2) := by decide +kernel
theorem dX5_putPart_46 : decode cX5_putPart 46 = .ok (.iload 5, 2) := by decide +kernel
theorem dX5_putPart_48 : decode cX5_putPart 48 = .ok (.iconst 3, 1) := by decide +kernel
theorem dX5_putPart_49 : decode cX5_putPart 49 = .ok (.if_icmp .ge 27, 3) := by decide +kernel
theorem dX5_putPart_52 : decode cX5_putPart 52 = .ok (.aload_n 0, 1) := by decide +kernel
theorem dX5_putPart_53 : decode cX5_putPart 53 = .ok (.getfield 44, 3) := by decide +kernel
theorem dX5_putPart_56 : decode cX5_putPart 56 = .ok (.iconst 3, 1) := by decide +kernel
theorem dX5_putPart_57 : decode cX5_putPart 57 = .ok (.iload_n 1, 1) := by decide +kernel
theorem dX5_putPart_58 : decode cX5_putPart 58 = .ok (.imul, 1) := by decide +kernel
theorem dX5_putPart_59 : decode cX5_putPart 59 = .ok (.iload 5, 2) := by decide +kernel
theorem dX5_putPart_61 : decode cX5_putPart 61 = .ok (.iadd, 1) := by decide +kernel
theorem dX5_putPart_62 : decode cX5_putPart 62 = .ok (.aload_n 0, 1) := by decide +kernel
theorem dX5_putPart_63 : decode cX5_putPart 63 = .ok (.getfield 53, 3) := by decide +kernel
theorem dX5_putPart_66 : decode cX5_putPart 66 = .ok (.iload 5, 2) := by decide +kernel
theorem dX5_putPart_68 : decode cX5_putPart 68 = .ok (.laload, 1) := by decide +kernel
theorem dX5_putPart_69 : decode cX5_putPart 69 = .ok (.lastore, 1) := by decide +kernel
theorem dX5_putPart_70 : decode cX5_putPart 70 = .ok (.iinc 5 1, 3) := by decide +kernel
theorem dX5_putPart_73 : decode cX5_putPart 73 = .ok (.goto (-27), 3) := by decide +kernel
theorem dX5_putPart_76 : decode cX5_putPart 76 = .ok (.return_, 1) := by decide +kernel
set_option maxRecDepth 20000 in
theorem ggX5_part_X5_in : GoodIn wsX5_part wsX5_in := goodIn_r _ [9] (by decide +kernel) (by decide +kernel)
set_option maxRecDepth 20000 in
theorem gX5_part_X5_in : GoodIn wsX5_part (va_wsS RX5 56 yX5_in wsX5_in) := goodIn_app (goodIn_of _ (by decide +kernel)) ggX5_part_X5_in
theorem dX5_part_0 : decode cX5_part 0 = .ok (.iload_n 2, 1) := by decide +kernel
theorem dX5_part_1 : decode cX5_part 1 = .ok (.i2l, 1) := by decide +kernel
theorem dX5_part_2 : decode cX5_part 2 = .ok (.lconst 0, 1) := by decide +kernel
theorem dX5_part_3 : decode cX5_part 3 = .ok (.ldc2_w 95, 3) := by decide +kernel
theorem dX5_part_6 : decode cX5_part 6 = .ok (.invokestatic 56, 3) := by decide +kernel
theorem dX5_part_9 : decode cX5_part 9 = .ok (.ifCond .ne 7, 3) := by decide +kernel
theorem dX5_part_12 : decode cX5_part 12 = .ok (.ldc2_w 168, 3) := by decide +kernel
theorem dX5_part_15 : decode cX5_part 15 = .ok (.lreturn, 1) := by decide +kernel
theorem dX5_part_16 : decode cX5_part 16 = .ok (.iload_n 1, 1) := by decide +kernel
theorem dX5_part_17 : decode cX5_part 17 = .ok (.i2l, 1) := by decide +kernel
theorem dX5_part_18 : decode cX5_part 18 = .ok (.lconst 0, 1) := by decide +kernel
theorem dX5_part_19 : decode cX5_part 19 = .ok (.aload_n 0, 1) := by decide +kernel
theorem dX5_part_20 : decode cX5_part 20 = .ok (.getfield 209, 3) := by decide +kernel
theorem dX5_part_23 : decode cX5_part 23 = .ok (.i2l, 1) := by decide +kernel
theorem dX5_part_24 : decode cX5_part 24 = .ok (.lconst 1, 1) := by decide +kernel
theorem dX5_part_25 : decode cX5_part 25 = .ok (.lsub, 1) := by decide +kernel
theorem dX5_part_26 : decode cX5_part 26 = .ok (.invokestatic 56, 3) := by decide +kernel
theorem dX5_part_29 : decode cX5_part 29 = .ok (.ifCond .eq 16, 3) := by decide +kernel
theorem dX5_part_32 : decode cX5_part 32 = .ok (.aload_n 0, 1) := by decide +kernel
theorem dX5_part_33 : decode cX5_part 33 = .ok (.getfield 44, 3) := by decide +kernel
theorem dX5_part_36 : decode cX5_part 36 = .ok (.iconst 3, 1) := by decide +kernel
theorem dX5_part_37 : decode cX5_part 37 = .ok (.iload_n 1, 1) := by decide +kernel
theorem dX5_part_38 : decode cX5_part 38 = .ok (.imul, 1) := by decide +kernel
theorem dX5_part_39 : decode cX5_part 39 = .ok (.iload_n 2, 1) := by decide +kernel
theorem dX5_part_40 : decode cX5_part 40 = .ok (.iadd, 1) := by decide +kernel
theorem dX5_part_41 : decode cX5_part 41 = .ok (.laload, 1) := by decide +kernel
theorem dX5_part_42 : decode cX5_part 42 = .ok (.goto 6, 3) := by decide +kernel
theorem dX5_part_45 : decode cX5_part 45 = .ok (.ldc2_w 207, 3) := by decide +kernel
theorem dX5_part_48 : decode cX5_part 48 = .ok (.lreturn, 1) := by decide +kernel
