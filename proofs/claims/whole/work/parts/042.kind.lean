-- laid by wip/whole/gen
def z4_properKind (x : Int64) (y : Int64) : Int32 := if x ≤ 0 then if x = 0 then 2 else if 0 ≤ y then 1 else 0 else 3
set_option maxHeartbeats 4000000 in
set_option maxRecDepth 100000 in
/-- X4.properKind -/
theorem c_X4_properKind (l : Launch) (D : va_G) (cI cJ : ClassId) (x : Int64) (y : Int64) : mr_C l yX4_properKind wsX4_properKind ({ frames := 0, cells := 0, slots := 0, locals := 0 }) D cI cJ [.long x, .long y] [] (vp_Si (fun r : Int32 => r = z4_properKind x y)) := by
  refine mr_in (cc := cX4_properKind) (lv := [(0, .long x), (2, .long y)]) (by decide) rfl (Nat.le_of_ble_eq_true rfl) rfl ?_
  intro pG eG sG mG below meth cG ls hx hb hr hml hown hts hlk hP hK hl
  have hown : sG.vm.findClass RX4 = some mG.cls := hown
  refine lv_lload_n hx hb dX4_properKind_0 rfl (lv_at hl 0 rfl) ?_
  refine lv_lconst (v := 0) hx hb dX4_properKind_1 (by decide) ?_
  refine lb_le (tgt := 8) hx hb dX4_properKind_2 rfl dX4_properKind_3 (by decide) (fun c_1 => ?_) (fun c_1 => ?_)
  · skip
    refine lv_lload_n hx hb dX4_properKind_8 rfl (lv_at hl 0 rfl) ?_
    refine lv_lconst (v := 0) hx hb dX4_properKind_9 (by decide) ?_
    refine lb_ne (tgt := 16) hx hb dX4_properKind_10 rfl dX4_properKind_11 (by decide) (fun c_2 => ?_) (fun c_2 => ?_)
    · skip
      refine lv_lload_n hx hb dX4_properKind_16 rfl (lv_at hl 1 rfl) ?_
      refine lv_lconst (v := 0) hx hb dX4_properKind_17 (by decide) ?_
      refine lb_ge (tgt := 26) hx hb dX4_properKind_18 rfl dX4_properKind_19 (by decide) (fun c_3 => ?_) (fun c_3 => ?_)
      · skip
        refine lv_iconst (v := 1) hx hb dX4_properKind_26 (by decide) ?_
        have he : z4_properKind x y = 1 := by unfold z4_properKind; rw [if_pos c_1, if_neg c_2, if_pos c_3]
        exact rr_i hx hb hr hlk dX4_properKind_27 he.symm
      · skip
        refine lv_iconst (v := 0) hx hb dX4_properKind_22 (by decide) ?_
        refine lv_goto (tgt := 27) hx hb dX4_properKind_23 (by decide) ?_
        have he : z4_properKind x y = 0 := by unfold z4_properKind; rw [if_pos c_1, if_neg c_2, if_neg c_3]
        exact rr_i hx hb hr hlk dX4_properKind_27 he.symm
    · skip
      refine lv_iconst (v := 2) hx hb dX4_properKind_14 (by decide) ?_
      have he : z4_properKind x y = 2 := by unfold z4_properKind; rw [if_pos c_1, if_pos c_2]
      exact rr_i hx hb hr hlk dX4_properKind_15 he.symm
  · skip
    refine lv_iconst (v := 3) hx hb dX4_properKind_6 (by decide) ?_
    have he : z4_properKind x y = 3 := by unfold z4_properKind; rw [if_neg c_1]
    exact rr_i hx hb hr hlk dX4_properKind_7 he.symm
def z4_flatKind (a : Int64) (b : Int64) (c : Int64) (d : Int64) (e : Int64) (f : Int64) : Int32 := if a = 0 then if b = 0 then if c = 0 then if d = 0 then if e = 0 then 10 else 9 else 9 else if (((d * d) + (e * e)) - ((4 * (a + c)) * f)) = 0 then 6 else if (((d * d) + (e * e)) - ((4 * (a + c)) * f)) ≤ 0 then 8 else 5 else if (((d * d) + (e * e)) - ((4 * (a + c)) * f)) = 0 then 6 else if (((d * d) + (e * e)) - ((4 * (a + c)) * f)) ≤ 0 then 8 else 5 else if (((d * d) + (e * e)) - ((4 * (a + c)) * f)) = 0 then 6 else if (((d * d) + (e * e)) - ((4 * (a + c)) * f)) ≤ 0 then 8 else 5
set_option maxHeartbeats 4000000 in
set_option maxRecDepth 100000 in
/-- X4.flatKind -/
theorem c_X4_flatKind (l : Launch) (D : va_G) (cI cJ : ClassId) (h : Nat) (a : Int64) (b : Int64) (c : Int64) (d : Int64) (e : Int64) (f : Int64) : mr_C l yX4_flatKind wsX4_flatKind ({ frames := 0, cells := 0, slots := 0, locals := 0 }) D cI cJ [.ref h] [kF h a b c d e f] (vp_Si (fun r : Int32 => r = z4_flatKind a b c d e f)) := by
  refine mr_in (cc := cX4_flatKind) (lv := [(0, .ref h)]) (by decide) rfl (Nat.le_of_ble_eq_true rfl) rfl ?_
  intro pG eG sG mG below meth cG ls hx hb hr hml hown hts hlk hP hK hl
  have hown : sG.vm.findClass RX4 = some mG.cls := hown
  have k_1 : ∀ w ∈ wsX00, w ∈ wsX4_flatKind := by decide +kernel
  have k_2 := hts (.constantLong RX4 273 (4)) (by decide +kernel)
  refine lv_aload_n hx hb dX4_flatKind_0 rfl (lv_at hl 0 rfl) ?_
  refine va_getN (D := D) (ci := 0) (v := .long a) (C := RX0) (T := TX0) (N := 6) hx hb hts k_1 hown hK.1 hP 0 rfl rfl 0 (by decide) (nw_f hK.2 16 rfl) (fun _ h9 => h9) rfl dX4_flatKind_1 ?_
  refine lv_lconst (v := 0) hx hb dX4_flatKind_4 (by decide) ?_
  refine lb_ne (tgt := 53) hx hb dX4_flatKind_5 rfl dX4_flatKind_6 (by decide) (fun c_1 => ?_) (fun c_1 => ?_)
  · skip
    refine lv_aload_n hx hb dX4_flatKind_53 rfl (lv_at hl 0 rfl) ?_
    refine va_getN (D := D) (ci := 0) (v := .long d) (C := RX0) (T := TX0) (N := 6) hx hb hts k_1 hown hK.1 hP 0 rfl rfl 3 (by decide) (nw_f hK.2 25 rfl) (fun _ h9 => h9) rfl dX4_flatKind_54 ?_
    refine lv_aload_n hx hb dX4_flatKind_57 rfl (lv_at hl 0 rfl) ?_
    refine va_getN (D := D) (ci := 0) (v := .long d) (C := RX0) (T := TX0) (N := 6) hx hb hts k_1 hown hK.1 hP 0 rfl rfl 3 (by decide) (nw_f hK.2 25 rfl) (fun _ h9 => h9) rfl dX4_flatKind_58 ?_
    refine lv_lmul hx hb dX4_flatKind_61 ?_
    refine lv_aload_n hx hb dX4_flatKind_62 rfl (lv_at hl 0 rfl) ?_
    refine va_getN (D := D) (ci := 0) (v := .long e) (C := RX0) (T := TX0) (N := 6) hx hb hts k_1 hown hK.1 hP 0 rfl rfl 4 (by decide) (nw_f hK.2 28 rfl) (fun _ h9 => h9) rfl dX4_flatKind_63 ?_
    refine lv_aload_n hx hb dX4_flatKind_66 rfl (lv_at hl 0 rfl) ?_
    refine va_getN (D := D) (ci := 0) (v := .long e) (C := RX0) (T := TX0) (N := 6) hx hb hts k_1 hown hK.1 hP 0 rfl rfl 4 (by decide) (nw_f hK.2 28 rfl) (fun _ h9 => h9) rfl dX4_flatKind_67 ?_
    refine lv_lmul hx hb dX4_flatKind_70 ?_
    refine lv_ladd hx hb dX4_flatKind_71 ?_
    refine lv_ldc2 hx hb hown k_2 dX4_flatKind_72 ?_
    refine lv_aload_n hx hb dX4_flatKind_75 rfl (lv_at hl 0 rfl) ?_
    refine va_getN (D := D) (ci := 0) (v := .long a) (C := RX0) (T := TX0) (N := 6) hx hb hts k_1 hown hK.1 hP 0 rfl rfl 0 (by decide) (nw_f hK.2 16 rfl) (fun _ h9 => h9) rfl dX4_flatKind_76 ?_
    refine lv_aload_n hx hb dX4_flatKind_79 rfl (lv_at hl 0 rfl) ?_
    refine va_getN (D := D) (ci := 0) (v := .long c) (C := RX0) (T := TX0) (N := 6) hx hb hts k_1 hown hK.1 hP 0 rfl rfl 2 (by decide) (nw_f hK.2 22 rfl) (fun _ h9 => h9) rfl dX4_flatKind_80 ?_
    refine lv_ladd hx hb dX4_flatKind_83 ?_
    refine lv_lmul hx hb dX4_flatKind_84 ?_
    refine lv_aload_n hx hb dX4_flatKind_85 rfl (lv_at hl 0 rfl) ?_
    refine va_getN (D := D) (ci := 0) (v := .long f) (C := RX0) (T := TX0) (N := 6) hx hb hts k_1 hown hK.1 hP 0 rfl rfl 5 (by decide) (nw_f hK.2 31 rfl) (fun _ h9 => h9) rfl dX4_flatKind_86 ?_
    refine lv_lmul hx hb dX4_flatKind_89 ?_
    refine lv_lsub hx hb dX4_flatKind_90 ?_
    refine lv_lstore_n (lv' := [(1, .long (((d * d) + (e * e)) - ((4 * (a + c)) * f))), (0, .ref h)]) hx hb dX4_flatKind_91 rfl hl (by decide) rfl (fun ls hl => ?_)
    refine lv_lload_n hx hb dX4_flatKind_92 rfl (lv_at hl 0 rfl) ?_
    refine lv_lconst (v := 0) hx hb dX4_flatKind_93 (by decide) ?_
    refine lb_ne (tgt := 101) hx hb dX4_flatKind_94 rfl dX4_flatKind_95 (by decide) (fun c_2 => ?_) (fun c_2 => ?_)
    · skip
      refine lv_lload_n hx hb dX4_flatKind_101 rfl (lv_at hl 0 rfl) ?_
      refine lv_lconst (v := 0) hx hb dX4_flatKind_102 (by decide) ?_
      refine lb_le (tgt := 111) hx hb dX4_flatKind_103 rfl dX4_flatKind_104 (by decide) (fun c_3 => ?_) (fun c_3 => ?_)
      · skip
        refine lv_bipush (v := 8) hx hb dX4_flatKind_111 (by decide) ?_
        have he : z4_flatKind a b c d e f = 8 := by unfold z4_flatKind; rw [if_neg c_1, if_neg c_2, if_pos c_3]
        exact rr_i hx hb hr hlk dX4_flatKind_113 he.symm
      · skip
        refine lv_iconst (v := 5) hx hb dX4_flatKind_107 (by decide) ?_
        refine lv_goto (tgt := 113) hx hb dX4_flatKind_108 (by decide) ?_
        have he : z4_flatKind a b c d e f = 5 := by unfold z4_flatKind; rw [if_neg c_1, if_neg c_2, if_neg c_3]
        exact rr_i hx hb hr hlk dX4_flatKind_113 he.symm
    · skip
      refine lv_bipush (v := 6) hx hb dX4_flatKind_98 (by decide) ?_
      have he : z4_flatKind a b c d e f = 6 := by unfold z4_flatKind; rw [if_neg c_1, if_pos c_2]
      exact rr_i hx hb hr hlk dX4_flatKind_100 he.symm
  · skip
    refine lv_aload_n hx hb dX4_flatKind_9 rfl (lv_at hl 0 rfl) ?_
    refine va_getN (D := D) (ci := 0) (v := .long b) (C := RX0) (T := TX0) (N := 6) hx hb hts k_1 hown hK.1 hP 0 rfl rfl 1 (by decide) (nw_f hK.2 19 rfl) (fun _ h9 => h9) rfl dX4_flatKind_10 ?_
    refine lv_lconst (v := 0) hx hb dX4_flatKind_13 (by decide) ?_
    refine lb_ne (tgt := 53) hx hb dX4_flatKind_14 rfl dX4_flatKind_15 (by decide) (fun c_4 => ?_) (fun c_4 => ?_)
    · skip
      refine lv_aload_n hx hb dX4_flatKind_53 rfl (lv_at hl 0 rfl) ?_
      refine va_getN (D := D) (ci := 0) (v := .long d) (C := RX0) (T := TX0) (N := 6) hx hb hts k_1 hown hK.1 hP 0 rfl rfl 3 (by decide) (nw_f hK.2 25 rfl) (fun _ h9 => h9) rfl dX4_flatKind_54 ?_
      refine lv_aload_n hx hb dX4_flatKind_57 rfl (lv_at hl 0 rfl) ?_
      refine va_getN (D := D) (ci := 0) (v := .long d) (C := RX0) (T := TX0) (N := 6) hx hb hts k_1 hown hK.1 hP 0 rfl rfl 3 (by decide) (nw_f hK.2 25 rfl) (fun _ h9 => h9) rfl dX4_flatKind_58 ?_
      refine lv_lmul hx hb dX4_flatKind_61 ?_
      refine lv_aload_n hx hb dX4_flatKind_62 rfl (lv_at hl 0 rfl) ?_
      refine va_getN (D := D) (ci := 0) (v := .long e) (C := RX0) (T := TX0) (N := 6) hx hb hts k_1 hown hK.1 hP 0 rfl rfl 4 (by decide) (nw_f hK.2 28 rfl) (fun _ h9 => h9) rfl dX4_flatKind_63 ?_
      refine lv_aload_n hx hb dX4_flatKind_66 rfl (lv_at hl 0 rfl) ?_
      refine va_getN (D := D) (ci := 0) (v := .long e) (C := RX0) (T := TX0) (N := 6) hx hb hts k_1 hown hK.1 hP 0 rfl rfl 4 (by decide) (nw_f hK.2 28 rfl) (fun _ h9 => h9) rfl dX4_flatKind_67 ?_
      refine lv_lmul hx hb dX4_flatKind_70 ?_
      refine lv_ladd hx hb dX4_flatKind_71 ?_
      refine lv_ldc2 hx hb hown k_2 dX4_flatKind_72 ?_
      refine lv_aload_n hx hb dX4_flatKind_75 rfl (lv_at hl 0 rfl) ?_
      refine va_getN (D := D) (ci := 0) (v := .long a) (C := RX0) (T := TX0) (N := 6) hx hb hts k_1 hown hK.1 hP 0 rfl rfl 0 (by decide) (nw_f hK.2 16 rfl) (fun _ h9 => h9) rfl dX4_flatKind_76 ?_
      refine lv_aload_n hx hb dX4_flatKind_79 rfl (lv_at hl 0 rfl) ?_
      refine va_getN (D := D) (ci := 0) (v := .long c) (C := RX0) (T := TX0) (N := 6) hx hb hts k_1 hown hK.1 hP 0 rfl rfl 2 (by decide) (nw_f hK.2 22 rfl) (fun _ h9 => h9) rfl dX4_flatKind_80 ?_
      refine lv_ladd hx hb dX4_flatKind_83 ?_
      refine lv_lmul hx hb dX4_flatKind_84 ?_
      refine lv_aload_n hx hb dX4_flatKind_85 rfl (lv_at hl 0 rfl) ?_
      refine va_getN (D := D) (ci := 0) (v := .long f) (C := RX0) (T := TX0) (N := 6) hx hb hts k_1 hown hK.1 hP 0 rfl rfl 5 (by decide) (nw_f hK.2 31 rfl) (fun _ h9 => h9) rfl dX4_flatKind_86 ?_
      refine lv_lmul hx hb dX4_flatKind_89 ?_
      refine lv_lsub hx hb dX4_flatKind_90 ?_
      refine lv_lstore_n (lv' := [(1, .long (((d * d) + (e * e)) - ((4 * (a + c)) * f))), (0, .ref h)]) hx hb dX4_flatKind_91 rfl hl (by decide) rfl (fun ls hl => ?_)
      refine lv_lload_n hx hb dX4_flatKind_92 rfl (lv_at hl 0 rfl) ?_
      refine lv_lconst (v := 0) hx hb dX4_flatKind_93 (by decide) ?_
      refine lb_ne (tgt := 101) hx hb dX4_flatKind_94 rfl dX4_flatKind_95 (by decide) (fun c_5 => ?_) (fun c_5 => ?_)
      · skip
        refine lv_lload_n hx hb dX4_flatKind_101 rfl (lv_at hl 0 rfl) ?_
        refine lv_lconst (v := 0) hx hb dX4_flatKind_102 (by decide) ?_
        refine lb_le (tgt := 111) hx hb dX4_flatKind_103 rfl dX4_flatKind_104 (by decide) (fun c_6 => ?_) (fun c_6 => ?_)
        · skip
          refine lv_bipush (v := 8) hx hb dX4_flatKind_111 (by decide) ?_
          have he : z4_flatKind a b c d e f = 8 := by unfold z4_flatKind; rw [if_pos c_1, if_neg c_4, if_neg c_5, if_pos c_6]
          exact rr_i hx hb hr hlk dX4_flatKind_113 he.symm
        · skip
          refine lv_iconst (v := 5) hx hb dX4_flatKind_107 (by decide) ?_
          refine lv_goto (tgt := 113) hx hb dX4_flatKind_108 (by decide) ?_
          have he : z4_flatKind a b c d e f = 5 := by unfold z4_flatKind; rw [if_pos c_1, if_neg c_4, if_neg c_5, if_neg c_6]
          exact rr_i hx hb hr hlk dX4_flatKind_113 he.symm
      · skip
        refine lv_bipush (v := 6) hx hb dX4_flatKind_98 (by decide) ?_
        have he : z4_flatKind a b c d e f = 6 := by unfold z4_flatKind; rw [if_pos c_1, if_neg c_4, if_pos c_5]
        exact rr_i hx hb hr hlk dX4_flatKind_100 he.symm
    · skip
      refine lv_aload_n hx hb dX4_flatKind_18 rfl (lv_at hl 0 rfl) ?_
      refine va_getN (D := D) (ci := 0) (v := .long c) (C := RX0) (T := TX0) (N := 6) hx hb hts k_1 hown hK.1 hP 0 rfl rfl 2 (by decide) (nw_f hK.2 22 rfl) (fun _ h9 => h9) rfl dX4_flatKind_19 ?_
      refine lv_lconst (v := 0) hx hb dX4_flatKind_22 (by decide) ?_
      refine lb_ne (tgt := 53) hx hb dX4_flatKind_23 rfl dX4_flatKind_24 (by decide) (fun c_7 => ?_) (fun c_7 => ?_)
      · skip
        refine lv_aload_n hx hb dX4_flatKind_53 rfl (lv_at hl 0 rfl) ?_
        refine va_getN (D := D) (ci := 0) (v := .long d) (C := RX0) (T := TX0) (N := 6) hx hb hts k_1 hown hK.1 hP 0 rfl rfl 3 (by decide) (nw_f hK.2 25 rfl) (fun _ h9 => h9) rfl dX4_flatKind_54 ?_
        refine lv_aload_n hx hb dX4_flatKind_57 rfl (lv_at hl 0 rfl) ?_
        refine va_getN (D := D) (ci := 0) (v := .long d) (C := RX0) (T := TX0) (N := 6) hx hb hts k_1 hown hK.1 hP 0 rfl rfl 3 (by decide) (nw_f hK.2 25 rfl) (fun _ h9 => h9) rfl dX4_flatKind_58 ?_
        refine lv_lmul hx hb dX4_flatKind_61 ?_
        refine lv_aload_n hx hb dX4_flatKind_62 rfl (lv_at hl 0 rfl) ?_
        refine va_getN (D := D) (ci := 0) (v := .long e) (C := RX0) (T := TX0) (N := 6) hx hb hts k_1 hown hK.1 hP 0 rfl rfl 4 (by decide) (nw_f hK.2 28 rfl) (fun _ h9 => h9) rfl dX4_flatKind_63 ?_
        refine lv_aload_n hx hb dX4_flatKind_66 rfl (lv_at hl 0 rfl) ?_
        refine va_getN (D := D) (ci := 0) (v := .long e) (C := RX0) (T := TX0) (N := 6) hx hb hts k_1 hown hK.1 hP 0 rfl rfl 4 (by decide) (nw_f hK.2 28 rfl) (fun _ h9 => h9) rfl dX4_flatKind_67 ?_
        refine lv_lmul hx hb dX4_flatKind_70 ?_
        refine lv_ladd hx hb dX4_flatKind_71 ?_
        refine lv_ldc2 hx hb hown k_2 dX4_flatKind_72 ?_
        refine lv_aload_n hx hb dX4_flatKind_75 rfl (lv_at hl 0 rfl) ?_
        refine va_getN (D := D) (ci := 0) (v := .long a) (C := RX0) (T := TX0) (N := 6) hx hb hts k_1 hown hK.1 hP 0 rfl rfl 0 (by decide) (nw_f hK.2 16 rfl) (fun _ h9 => h9) rfl dX4_flatKind_76 ?_
        refine lv_aload_n hx hb dX4_flatKind_79 rfl (lv_at hl 0 rfl) ?_
        refine va_getN (D := D) (ci := 0) (v := .long c) (C := RX0) (T := TX0) (N := 6) hx hb hts k_1 hown hK.1 hP 0 rfl rfl 2 (by decide) (nw_f hK.2 22 rfl) (fun _ h9 => h9) rfl dX4_flatKind_80 ?_
        refine lv_ladd hx hb dX4_flatKind_83 ?_
        refine lv_lmul hx hb dX4_flatKind_84 ?_
        refine lv_aload_n hx hb dX4_flatKind_85 rfl (lv_at hl 0 rfl) ?_
        refine va_getN (D := D) (ci := 0) (v := .long f) (C := RX0) (T := TX0) (N := 6) hx hb hts k_1 hown hK.1 hP 0 rfl rfl 5 (by decide) (nw_f hK.2 31 rfl) (fun _ h9 => h9) rfl dX4_flatKind_86 ?_
        refine lv_lmul hx hb dX4_flatKind_89 ?_
        refine lv_lsub hx hb dX4_flatKind_90 ?_
        refine lv_lstore_n (lv' := [(1, .long (((d * d) + (e * e)) - ((4 * (a + c)) * f))), (0, .ref h)]) hx hb dX4_flatKind_91 rfl hl (by decide) rfl (fun ls hl => ?_)
        refine lv_lload_n hx hb dX4_flatKind_92 rfl (lv_at hl 0 rfl) ?_
        refine lv_lconst (v := 0) hx hb dX4_flatKind_93 (by decide) ?_
        refine lb_ne (tgt := 101) hx hb dX4_flatKind_94 rfl dX4_flatKind_95 (by decide) (fun c_8 => ?_) (fun c_8 => ?_)
        · skip
          refine lv_lload_n hx hb dX4_flatKind_101 rfl (lv_at hl 0 rfl) ?_
          refine lv_lconst (v := 0) hx hb dX4_flatKind_102 (by decide) ?_
          refine lb_le (tgt := 111) hx hb dX4_flatKind_103 rfl dX4_flatKind_104 (by decide) (fun c_9 => ?_) (fun c_9 => ?_)
          · skip
            refine lv_bipush (v := 8) hx hb dX4_flatKind_111 (by decide) ?_
            have he : z4_flatKind a b c d e f = 8 := by unfold z4_flatKind; rw [if_pos c_1, if_pos c_4, if_neg c_7, if_neg c_8, if_pos c_9]
            exact rr_i hx hb hr hlk dX4_flatKind_113 he.symm
          · skip
            refine lv_iconst (v := 5) hx hb dX4_flatKind_107 (by decide) ?_
            refine lv_goto (tgt := 113) hx hb dX4_flatKind_108 (by decide) ?_
            have he : z4_flatKind a b c d e f = 5 := by unfold z4_flatKind; rw [if_pos c_1, if_pos c_4, if_neg c_7, if_neg c_8, if_neg c_9]
            exact rr_i hx hb hr hlk dX4_flatKind_113 he.symm
        · skip
          refine lv_bipush (v := 6) hx hb dX4_flatKind_98 (by decide) ?_
          have he : z4_flatKind a b c d e f = 6 := by unfold z4_flatKind; rw [if_pos c_1, if_pos c_4, if_neg c_7, if_pos c_8]
          exact rr_i hx hb hr hlk dX4_flatKind_100 he.symm
      · skip
        refine lv_aload_n hx hb dX4_flatKind_27 rfl (lv_at hl 0 rfl) ?_
        refine va_getN (D := D) (ci := 0) (v := .long d) (C := RX0) (T := TX0) (N := 6) hx hb hts k_1 hown hK.1 hP 0 rfl rfl 3 (by decide) (nw_f hK.2 25 rfl) (fun _ h9 => h9) rfl dX4_flatKind_28 ?_
        refine lv_lconst (v := 0) hx hb dX4_flatKind_31 (by decide) ?_
        refine lb_ne (tgt := 50) hx hb dX4_flatKind_32 rfl dX4_flatKind_33 (by decide) (fun c_10 => ?_) (fun c_10 => ?_)
        · skip
          refine lv_bipush (v := 9) hx hb dX4_flatKind_50 (by decide) ?_
          have he : z4_flatKind a b c d e f = 9 := by unfold z4_flatKind; rw [if_pos c_1, if_pos c_4, if_pos c_7, if_neg c_10]
          exact rr_i hx hb hr hlk dX4_flatKind_52 he.symm
        · skip
          refine lv_aload_n hx hb dX4_flatKind_36 rfl (lv_at hl 0 rfl) ?_
          refine va_getN (D := D) (ci := 0) (v := .long e) (C := RX0) (T := TX0) (N := 6) hx hb hts k_1 hown hK.1 hP 0 rfl rfl 4 (by decide) (nw_f hK.2 28 rfl) (fun _ h9 => h9) rfl dX4_flatKind_37 ?_
          refine lv_lconst (v := 0) hx hb dX4_flatKind_40 (by decide) ?_
          refine lb_ne (tgt := 50) hx hb dX4_flatKind_41 rfl dX4_flatKind_42 (by decide) (fun c_11 => ?_) (fun c_11 => ?_)
          · skip
            refine lv_bipush (v := 9) hx hb dX4_flatKind_50 (by decide) ?_
            have he : z4_flatKind a b c d e f = 9 := by unfold z4_flatKind; rw [if_pos c_1, if_pos c_4, if_pos c_7, if_pos c_10, if_neg c_11]
            exact rr_i hx hb hr hlk dX4_flatKind_52 he.symm
          · skip
            refine lv_bipush (v := 10) hx hb dX4_flatKind_45 (by decide) ?_
            refine lv_goto (tgt := 52) hx hb dX4_flatKind_47 (by decide) ?_
            have he : z4_flatKind a b c d e f = 10 := by unfold z4_flatKind; rw [if_pos c_1, if_pos c_4, if_pos c_7, if_pos c_10, if_pos c_11]
            exact rr_i hx hb hr hlk dX4_flatKind_52 he.symm
def z4_kind_v1 (nc : Int32) (gc : Nat → Int32) (c : Int32) : Int64 := z0_det (z0_read_a 6 nc c gc) (z0_read_b 6 nc c gc) (z0_read_c 6 nc c gc) (z0_read_d 6 nc c gc) (z0_read_e 6 nc c gc) (z0_read_f 6 nc c gc)
def z4_kind_v2 (nc : Int32) (gc : Nat → Int32) (c : Int32) : Int32 := z4_flatKind (z0_read_a 6 nc c gc) (z0_read_b 6 nc c gc) (z0_read_c 6 nc c gc) (z0_read_d 6 nc c gc) (z0_read_e 6 nc c gc) (z0_read_f 6 nc c gc)
def z4_kind_v3 (nc : Int32) (gc : Nat → Int32) (c : Int32) : Int32 := z4_properKind (z0_disc (z0_read_a 6 nc c gc) (z0_read_b 6 nc c gc) (z0_read_c 6 nc c gc)) (((z0_read_a 6 nc c gc) + (z0_read_c 6 nc c gc)) * (z4_kind_v1 nc gc c))
def z4_kind (nc : Int32) (gc : Nat → Int32) (c : Int32) : Int32 := if (z2_has nc c) = 0 then (-1000002) else if (z4_kind_v1 nc gc c) = 0 then if (z0_disc (z0_read_a 6 nc c gc) (z0_read_b 6 nc c gc) (z0_read_c 6 nc c gc)) = 0 then z4_kind_v2 nc gc c else if (z0_disc (z0_read_a 6 nc c gc) (z0_read_b 6 nc c gc) (z0_read_c 6 nc c gc)) ≤ 0 then 7 else 4 else z4_kind_v3 nc gc c
set_option maxHeartbeats 4000000 in
set_option maxRecDepth 100000 in
/-- X4.kind -/
theorem c_X4_kind (l : Launch) (D : va_G) (cI cJ : ClassId) (o : Nat) (oP : Nat) (oL : Nat) (oC : Nat) (oX : Nat) (oY : Nat) (oF : Nat) (oS : Nat) (oT : Nat) (oM : Nat) (fL : Nat) (fR : Nat) (fN : Nat) (fM : Nat) (oR : Nat) (qc : Nat) (nc : Int32) (gc : Nat → Int32) (a5 : Int64) (b5 : Int64) (c5 : Int64) (d5 : Int64) (e5 : Int64) (f5 : Int64) (c : Int32) (hsc : sh_ok 6 360 nc) : mw_C l yX4_kind wsX4_kind ({ frames := 3, cells := 0, slots := 0, locals := 65 }) D cI cJ [.ref o, .int c] [kC o oP oL oC oX oY oF oS oT oM fL fR fN fM oR, kS oC 6 qc nc, kA qc cI 360 gc, kF fL a5 b5 c5 d5 e5 f5] (qe_i (fun (r : Int32) (_ : Int64 × Int64 × Int64 × Int64 × Int64 × Int64) => r = z4_kind nc gc c) (fun uu => [kC o oP oL oC oX oY oF oS oT oM fL fR fN fM oR, kS oC 6 qc nc, kA qc cI 360 gc, kF fL uu.1 uu.2.1 uu.2.2.1 uu.2.2.2.1 uu.2.2.2.2.1 uu.2.2.2.2.2])) := by
  refine mw_in (cc := cX4_kind) (lv := [(0, .ref o), (1, .int c)]) (by decide) rfl (Nat.le_of_ble_eq_true rfl) rfl ?_
  intro pG eG sG mG below meth cG ls A hx hb hr hml hown hts hlk hin hP hK hD hA hS hl
  have hown : sG.vm.findClass RX4 = some mG.cls := hown
  have k_1 := hts (.fieldLink RX4 21 "ConicRows" "conics" "LConicRows$Shelf;") (by decide +kernel)
  have k_2 : ∀ w ∈ wsX40, w ∈ wsX4_kind := by decide +kernel
  have k_3 := hts (.fieldLink RX4 53 "ConicRows" "left" "LConicRows$Form;") (by decide +kernel)
  have k_4 : ∀ w ∈ wsX00, w ∈ wsX4_kind := by decide +kernel
  have k_5 := hts (.constant RX4 108 (-1000002)) (by decide +kernel)
  refine lv_aload_n hx hb dX4_kind_0 rfl (lv_at hl 0 rfl) ?_
  refine va_get (D := D) (ci := 4) (v := .ref oC) (C := RX4) (T := TX4) (N := 14) hx hb hts k_2 hown hK.1 hP 0 rfl rfl 2 (by decide) k_1 (fun _ h9 => h9) rfl dX4_kind_1 ?_
  refine lv_iload_n hx hb dX4_kind_4 rfl (lv_at hl 1 rfl) ?_
  have hPc := hP.sub (ws' := [kS oC 6 qc nc]) [1] rfl
  refine cr_i (va_runV (As := [.int c]) (rest := []) ⟨hx, hb, hml, hown, hts⟩ (c_X2_has l D cI cJ oC qc 6 nc c) (cwV 1 hts gX4_kind_X2_has rfl rfl rfl (by decide +kernel) ⟨Nat.le_of_ble_eq_true rfl, Nat.le_of_ble_eq_true rfl⟩) ⟨gd_blR, va_recv hK.1 hPc (ci := 2) (q0 := 0) rfl rfl, gd_prR hPc hK⟩ rfl rfl hl.1 rfl (lv_room (Nat.le_of_ble_eq_true rfl)) dX4_kind_5 ⟨Nat.zero_le _, Nat.zero_le _⟩) (fun r_5 hw => ?_)
  subst hw
  clear hPc
  refine lv_if_ne (tgt := 14) hx hb dX4_kind_8 (by decide) (fun c_1 => ?_) (fun c_1 => ?_)
  · skip
    refine lv_aload_n hx hb dX4_kind_14 rfl (lv_at hl 0 rfl) ?_
    refine va_get (D := D) (ci := 4) (v := .ref fL) (C := RX4) (T := TX4) (N := 14) hx hb hts k_2 hown hK.1 hP 0 rfl rfl 9 (by decide) k_3 (fun _ h9 => h9) rfl dX4_kind_15 ?_
    refine lv_aload_n hx hb dX4_kind_18 rfl (lv_at hl 0 rfl) ?_
    refine va_get (D := D) (ci := 4) (v := .ref oC) (C := RX4) (T := TX4) (N := 14) hx hb hts k_2 hown hK.1 hP 0 rfl rfl 2 (by decide) k_1 (fun _ h9 => h9) rfl dX4_kind_19 ?_
    refine lv_iload_n hx hb dX4_kind_22 rfl (lv_at hl 1 rfl) ?_
    have hPc := hP.sub (ws' := [kF fL a5 b5 c5 d5 e5 f5, kS oC 6 qc nc, kA qc cI 360 gc]) [3, 1, 2] rfl
    have hDc := hD.sub (ws' := [kF fL a5 b5 c5 d5 e5 f5, kS oC 6 qc nc, kA qc cI 360 gc]) [3, 1, 2] (by decide) rfl
    refine cl_v (wc := [kF fL a5 b5 c5 d5 e5 f5, kS oC 6 qc nc, kA qc cI 360 gc]) (wr := [kC o oP oL oC oX oY oF oS oT oM fL fR fN fM oR]) (w1 := fun uu : Unit => [kF fL (z0_read_a 6 nc c gc) (z0_read_b 6 nc c gc) (z0_read_c 6 nc c gc) (z0_read_d 6 nc c gc) (z0_read_e 6 nc c gc) (z0_read_f 6 nc c gc), kS oC 6 qc nc, kA qc cI 360 gc]) (wn := fun uu : Unit => [kC o oP oL oC oX oY oF oS oT oM fL fR fN fM oR, kS oC 6 qc nc, kA qc cI 360 gc, kF fL (z0_read_a 6 nc c gc) (z0_read_b 6 nc c gc) (z0_read_c 6 nc c gc) (z0_read_d 6 nc c gc) (z0_read_e 6 nc c gc) (z0_read_f 6 nc c gc)]) (va_runV (As := [.ref oC, .int c]) (rest := []) ⟨hx, hb, hml, hown, hts⟩ (c_X0_read l D cI cJ fL oC qc 360 a5 b5 c5 d5 e5 f5 6 nc c gc hsc _) (cwV 2 hts gX4_kind_X0_read rfl rfl rfl (by decide +kernel) ⟨Nat.le_of_ble_eq_true rfl, Nat.le_of_ble_eq_true rfl⟩) ⟨gd_blP, va_recv hK.1 hPc (ci := 0) (q0 := 0) rfl rfl, gd_prP hPc hK hDc⟩ rfl rfl hl.1 rfl (lv_room (Nat.le_of_ble_eq_true rfl)) dX4_kind_23 ⟨Nat.zero_le _, Nat.zero_le _⟩) hP hD hS hA [3, 1, 2] [0] rfl rfl (by decide) (by decide) [0, 2, 3, 1] (by decide) (fun _ => rfl) (fun uG H locs hw hP hD hS => ?_)
    have hP : va_P D vwCl [kC o oP oL oC oX oY oF oS oT oM fL fR fN fM oR, kS oC 6 qc nc, kA qc cI 360 gc, kF fL (z0_read_a 6 nc c gc) (z0_read_b 6 nc c gc) (z0_read_c 6 nc c gc) (z0_read_d 6 nc c gc) (z0_read_e 6 nc c gc) (z0_read_f 6 nc c gc)] H := hP
    have hD : va_D A [kC o oP oL oC oX oY oF oS oT oM fL fR fN fM oR, kS oC 6 qc nc, kA qc cI 360 gc, kF fL (z0_read_a 6 nc c gc) (z0_read_b 6 nc c gc) (z0_read_c 6 nc c gc) (z0_read_d 6 nc c gc) (z0_read_e 6 nc c gc) (z0_read_f 6 nc c gc)] := hD
    clear hPc hDc
    refine lv_aload_n hx hb dX4_kind_26 rfl (lv_at hl 0 rfl) ?_
    refine va_get (D := D) (ci := 4) (v := .ref fL) (C := RX4) (T := TX4) (N := 14) hx hb hts k_2 hown hK.1 hP 0 rfl rfl 9 (by decide) k_3 (fun _ h9 => h9) rfl dX4_kind_27 ?_
    have hPc := hP.sub (ws' := [kF fL (z0_read_a 6 nc c gc) (z0_read_b 6 nc c gc) (z0_read_c 6 nc c gc) (z0_read_d 6 nc c gc) (z0_read_e 6 nc c gc) (z0_read_f 6 nc c gc)]) [3] rfl
    refine cr_l (va_runV (As := []) (rest := []) ⟨hx, hb, hml, hown, hts⟩ (c_X0_det l D cI cJ fL (z0_read_a 6 nc c gc) (z0_read_b 6 nc c gc) (z0_read_c 6 nc c gc) (z0_read_d 6 nc c gc) (z0_read_e 6 nc c gc) (z0_read_f 6 nc c gc)) (cwV 0 hts gX4_kind_X0_det rfl rfl rfl (by decide +kernel) ⟨Nat.le_of_ble_eq_true rfl, Nat.le_of_ble_eq_true rfl⟩) ⟨gd_blR, va_recv hK.1 hPc (ci := 0) (q0 := 0) rfl rfl, gd_prR hPc hK⟩ rfl rfl hl.1 rfl (lv_room (Nat.le_of_ble_eq_true rfl)) dX4_kind_30 ⟨Nat.zero_le _, Nat.zero_le _⟩) (fun r_30 hw => ?_)
    subst hw
    clear hPc
    refine lv_eql (v := z4_kind_v1 nc gc c) (by delta z4_kind_v1; rfl) ?_
    refine lv_lstore_n (lv' := [(2, .long (z4_kind_v1 nc gc c)), (0, .ref o), (1, .int c)]) hx hb dX4_kind_33 rfl hl (by decide) rfl (fun ls hl => ?_)
    refine lv_aload_n hx hb dX4_kind_34 rfl (lv_at hl 1 rfl) ?_
    refine va_get (D := D) (ci := 4) (v := .ref fL) (C := RX4) (T := TX4) (N := 14) hx hb hts k_2 hown hK.1 hP 0 rfl rfl 9 (by decide) k_3 (fun _ h9 => h9) rfl dX4_kind_35 ?_
    have hPc := hP.sub (ws' := [kF fL (z0_read_a 6 nc c gc) (z0_read_b 6 nc c gc) (z0_read_c 6 nc c gc) (z0_read_d 6 nc c gc) (z0_read_e 6 nc c gc) (z0_read_f 6 nc c gc)]) [3] rfl
    refine cr_l (va_runV (As := []) (rest := []) ⟨hx, hb, hml, hown, hts⟩ (c_X0_disc l D cI cJ fL (z0_read_a 6 nc c gc) (z0_read_b 6 nc c gc) (z0_read_c 6 nc c gc) (z0_read_d 6 nc c gc) (z0_read_e 6 nc c gc) (z0_read_f 6 nc c gc)) (cwV 0 hts gX4_kind_X0_disc rfl rfl rfl (by decide +kernel) ⟨Nat.le_of_ble_eq_true rfl, Nat.le_of_ble_eq_true rfl⟩) ⟨gd_blR, va_recv hK.1 hPc (ci := 0) (q0 := 0) rfl rfl, gd_prR hPc hK⟩ rfl rfl hl.1 rfl (lv_room (Nat.le_of_ble_eq_true rfl)) dX4_kind_38 ⟨Nat.zero_le _, Nat.zero_le _⟩) (fun r_38 hw => ?_)
    subst hw
    clear hPc
    refine lv_lstore (lv' := [(4, .long (z0_disc (z0_read_a 6 nc c gc) (z0_read_b 6 nc c gc) (z0_read_c 6 nc c gc))), (2, .long (z4_kind_v1 nc gc c)), (0, .ref o), (1, .int c)]) hx hb dX4_kind_41 hl (by decide) rfl (fun ls hl => ?_)
    refine lv_lload_n hx hb dX4_kind_43 rfl (lv_at hl 1 rfl) ?_
    refine lv_lconst (v := 0) hx hb dX4_kind_44 (by decide) ?_
    refine lb_eq (tgt := 72) hx hb dX4_kind_45 rfl dX4_kind_46 (by decide) (fun c_2 => ?_) (fun c_2 => ?_)
    · skip
      refine lv_lload hx hb dX4_kind_72 (lv_at hl 0 rfl) ?_
      refine lv_lconst (v := 0) hx hb dX4_kind_74 (by decide) ?_
      refine lb_eq (tgt := 93) hx hb dX4_kind_75 rfl dX4_kind_76 (by decide) (fun c_3 => ?_) (fun c_3 => ?_)
      · skip
        refine lv_aload_n hx hb dX4_kind_93 rfl (lv_at hl 2 rfl) ?_
        refine va_get (D := D) (ci := 4) (v := .ref fL) (C := RX4) (T := TX4) (N := 14) hx hb hts k_2 hown hK.1 hP 0 rfl rfl 9 (by decide) k_3 (fun _ h9 => h9) rfl dX4_kind_94 ?_
        have hPc := hP.sub (ws' := [kF fL (z0_read_a 6 nc c gc) (z0_read_b 6 nc c gc) (z0_read_c 6 nc c gc) (z0_read_d 6 nc c gc) (z0_read_e 6 nc c gc) (z0_read_f 6 nc c gc)]) [3] rfl
        refine cr_i (va_runS (As := [.ref fL]) (rest := []) ⟨hx, hb, hml, hown, hts⟩ (c_X4_flatKind l D cI cJ fL (z0_read_a 6 nc c gc) (z0_read_b 6 nc c gc) (z0_read_c 6 nc c gc) (z0_read_d 6 nc c gc) (z0_read_e 6 nc c gc) (z0_read_f 6 nc c gc)) (va_cwS 1 hts gX4_kind_X4_flatKind rfl rfl rfl (by decide +kernel) ⟨Nat.le_of_ble_eq_true rfl, Nat.le_of_ble_eq_true rfl⟩) ⟨gd_blR, gd_prR hPc hK⟩ rfl rfl hl.1 rfl (lv_room (Nat.le_of_ble_eq_true rfl)) dX4_kind_97 ⟨Nat.zero_le _, Nat.zero_le _⟩) (fun r_97 hw => ?_)
        subst hw
        clear hPc
        refine lv_eqi (v := z4_kind_v2 nc gc c) (by delta z4_kind_v2; rfl) ?_
        have he : z4_kind nc gc c = z4_kind_v2 nc gc c := by unfold z4_kind; rw [if_neg c_1, if_pos c_2, if_pos c_3]
        exact rt_i (w1 := fun uu : Int64 × Int64 × Int64 × Int64 × Int64 × Int64 => [kC o oP oL oC oX oY oF oS oT oM fL fR fN fM oR, kS oC 6 qc nc, kA qc cI 360 gc, kF fL uu.1 uu.2.1 uu.2.2.1 uu.2.2.2.1 uu.2.2.2.2.1 uu.2.2.2.2.2]) hx hb hr hlk hS dX4_kind_100 ((z0_read_a 6 nc c gc, z0_read_b 6 nc c gc, z0_read_c 6 nc c gc, z0_read_d 6 nc c gc, z0_read_e 6 nc c gc, z0_read_f 6 nc c gc)) he.symm (by dsimp only; exact hP) (by dsimp only; exact hD)
      · skip
        refine lv_lload hx hb dX4_kind_79 (lv_at hl 0 rfl) ?_
        refine lv_lconst (v := 0) hx hb dX4_kind_81 (by decide) ?_
        refine lb_le (tgt := 90) hx hb dX4_kind_82 rfl dX4_kind_83 (by decide) (fun c_4 => ?_) (fun c_4 => ?_)
        · skip
          refine lv_bipush (v := 7) hx hb dX4_kind_90 (by decide) ?_
          have he : z4_kind nc gc c = 7 := by unfold z4_kind; rw [if_neg c_1, if_pos c_2, if_neg c_3, if_pos c_4]
          exact rt_i (w1 := fun uu : Int64 × Int64 × Int64 × Int64 × Int64 × Int64 => [kC o oP oL oC oX oY oF oS oT oM fL fR fN fM oR, kS oC 6 qc nc, kA qc cI 360 gc, kF fL uu.1 uu.2.1 uu.2.2.1 uu.2.2.2.1 uu.2.2.2.2.1 uu.2.2.2.2.2]) hx hb hr hlk hS dX4_kind_92 ((z0_read_a 6 nc c gc, z0_read_b 6 nc c gc, z0_read_c 6 nc c gc, z0_read_d 6 nc c gc, z0_read_e 6 nc c gc, z0_read_f 6 nc c gc)) he.symm (by dsimp only; exact hP) (by dsimp only; exact hD)
        · skip
          refine lv_iconst (v := 4) hx hb dX4_kind_86 (by decide) ?_
          refine lv_goto (tgt := 92) hx hb dX4_kind_87 (by decide) ?_
          have he : z4_kind nc gc c = 4 := by unfold z4_kind; rw [if_neg c_1, if_pos c_2, if_neg c_3, if_neg c_4]
          exact rt_i (w1 := fun uu : Int64 × Int64 × Int64 × Int64 × Int64 × Int64 => [kC o oP oL oC oX oY oF oS oT oM fL fR fN fM oR, kS oC 6 qc nc, kA qc cI 360 gc, kF fL uu.1 uu.2.1 uu.2.2.1 uu.2.2.2.1 uu.2.2.2.2.1 uu.2.2.2.2.2]) hx hb hr hlk hS dX4_kind_92 ((z0_read_a 6 nc c gc, z0_read_b 6 nc c gc, z0_read_c 6 nc c gc, z0_read_d 6 nc c gc, z0_read_e 6 nc c gc, z0_read_f 6 nc c gc)) he.symm (by dsimp only; exact hP) (by dsimp only; exact hD)
    · skip
      refine lv_lload hx hb dX4_kind_49 (lv_at hl 0 rfl) ?_
      refine lv_aload_n hx hb dX4_kind_51 rfl (lv_at hl 2 rfl) ?_
      refine va_get (D := D) (ci := 4) (v := .ref fL) (C := RX4) (T := TX4) (N := 14) hx hb hts k_2 hown hK.1 hP 0 rfl rfl 9 (by decide) k_3 (fun _ h9 => h9) rfl dX4_kind_52 ?_
      refine va_getN (D := D) (ci := 0) (v := .long (z0_read_a 6 nc c gc)) (C := RX0) (T := TX0) (N := 6) hx hb hts k_4 hown hK.1 hP 3 rfl rfl 0 (by decide) (nw_f hK.2 16 rfl) (fun _ h9 => h9) rfl dX4_kind_55 ?_
      refine lv_aload_n hx hb dX4_kind_58 rfl (lv_at hl 2 rfl) ?_
      refine va_get (D := D) (ci := 4) (v := .ref fL) (C := RX4) (T := TX4) (N := 14) hx hb hts k_2 hown hK.1 hP 0 rfl rfl 9 (by decide) k_3 (fun _ h9 => h9) rfl dX4_kind_59 ?_
      refine va_getN (D := D) (ci := 0) (v := .long (z0_read_c 6 nc c gc)) (C := RX0) (T := TX0) (N := 6) hx hb hts k_4 hown hK.1 hP 3 rfl rfl 2 (by decide) (nw_f hK.2 22 rfl) (fun _ h9 => h9) rfl dX4_kind_62 ?_
      refine lv_ladd hx hb dX4_kind_65 ?_
      refine lv_lload_n hx hb dX4_kind_66 rfl (lv_at hl 1 rfl) ?_
      refine lv_lmul hx hb dX4_kind_67 ?_
      have hPc := hP.sub (ws' := []) [] rfl
      refine cr_i (va_runS (As := [.long (z0_disc (z0_read_a 6 nc c gc) (z0_read_b 6 nc c gc) (z0_read_c 6 nc c gc)), .long (((z0_read_a 6 nc c gc) + (z0_read_c 6 nc c gc)) * (z4_kind_v1 nc gc c))]) (rest := []) ⟨hx, hb, hml, hown, hts⟩ (c_X4_properKind l D cI cJ (z0_disc (z0_read_a 6 nc c gc) (z0_read_b 6 nc c gc) (z0_read_c 6 nc c gc)) (((z0_read_a 6 nc c gc) + (z0_read_c 6 nc c gc)) * (z4_kind_v1 nc gc c))) (va_cwS 2 hts gX4_kind_X4_properKind rfl rfl rfl (by decide +kernel) ⟨Nat.le_of_ble_eq_true rfl, Nat.le_of_ble_eq_true rfl⟩) ⟨gd_blR, gd_prR hPc hK⟩ rfl rfl hl.1 rfl (lv_room (Nat.le_of_ble_eq_true rfl)) dX4_kind_68 ⟨Nat.zero_le _, Nat.zero_le _⟩) (fun r_68 hw => ?_)
      subst hw
      clear hPc
      refine lv_eqi (v := z4_kind_v3 nc gc c) (by delta z4_kind_v3; rfl) ?_
      have he : z4_kind nc gc c = z4_kind_v3 nc gc c := by unfold z4_kind; rw [if_neg c_1, if_neg c_2]
      exact rt_i (w1 := fun uu : Int64 × Int64 × Int64 × Int64 × Int64 × Int64 => [kC o oP oL oC oX oY oF oS oT oM fL fR fN fM oR, kS oC 6 qc nc, kA qc cI 360 gc, kF fL uu.1 uu.2.1 uu.2.2.1 uu.2.2.2.1 uu.2.2.2.2.1 uu.2.2.2.2.2]) hx hb hr hlk hS dX4_kind_71 ((z0_read_a 6 nc c gc, z0_read_b 6 nc c gc, z0_read_c 6 nc c gc, z0_read_d 6 nc c gc, z0_read_e 6 nc c gc, z0_read_f 6 nc c gc)) he.symm (by dsimp only; exact hP) (by dsimp only; exact hD)
  · skip
    refine lv_ldc hx hb hown k_5 dX4_kind_11 ?_
    have he : z4_kind nc gc c = (-1000002) := by unfold z4_kind; rw [if_pos c_1]
    exact rt_i (w1 := fun uu : Int64 × Int64 × Int64 × Int64 × Int64 × Int64 => [kC o oP oL oC oX oY oF oS oT oM fL fR fN fM oR, kS oC 6 qc nc, kA qc cI 360 gc, kF fL uu.1 uu.2.1 uu.2.2.1 uu.2.2.2.1 uu.2.2.2.2.1 uu.2.2.2.2.2]) hx hb hr hlk hS dX4_kind_13 ((a5, b5, c5, d5, e5, f5)) he.symm (by dsimp only; exact hP) (by dsimp only; exact hD)
def z4_told_v1 (nc : Int32) (gc : Nat → Int32) (c : Int32) : Int64 := z0_det (z0_read_a 6 nc c gc) (z0_read_b 6 nc c gc) (z0_read_c 6 nc c gc) (z0_read_d 6 nc c gc) (z0_read_e 6 nc c gc) (z0_read_f 6 nc c gc)
def z4_told (nc : Int32) (gc : Nat → Int32) (c : Int32) (w : Int32) : Int64 := if (z2_has nc c) = 0 then (-1000002) else if w = 0 then z4_told_v1 nc gc c else if w = 1 then z0_disc (z0_read_a 6 nc c gc) (z0_read_b 6 nc c gc) (z0_read_c 6 nc c gc) else (-1000003)
set_option maxHeartbeats 4000000 in
set_option maxRecDepth 100000 in
/-- X4.told -/
theorem c_X4_told (l : Launch) (D : va_G) (cI cJ : ClassId) (o : Nat) (oP : Nat) (oL : Nat) (oC : Nat) (oX : Nat) (oY : Nat) (oF : Nat) (oS : Nat) (oT : Nat) (oM : Nat) (fL : Nat) (fR : Nat) (fN : Nat) (fM : Nat) (oR : Nat) (qc : Nat) (nc : Int32) (gc : Nat → Int32) (a5 : Int64) (b5 : Int64) (c5 : Int64) (d5 : Int64) (e5 : Int64) (f5 : Int64) (c : Int32) (w : Int32) (hsc : sh_ok 6 360 nc) : mw_C l yX4_told wsX4_told ({ frames := 3, cells := 0, slots := 0, locals := 65 }) D cI cJ [.ref o, .int c, .int w] [kC o oP oL oC oX oY oF oS oT oM fL fR fN fM oR, kS oC 6 qc nc, kA qc cI 360 gc, kF fL a5 b5 c5 d5 e5 f5] (qe_l (fun (r : Int64) (_ : Int64 × Int64 × Int64 × Int64 × Int64 × Int64) => r = z4_told nc gc c w) (fun uu => [kC o oP oL oC oX oY oF oS oT oM fL fR fN fM oR, kS oC 6 qc nc, kA qc cI 360 gc, kF fL uu.1 uu.2.1 uu.2.2.1 uu.2.2.2.1 uu.2.2.2.2.1 uu.2.2.2.2.2])) := by
  refine mw_in (cc := cX4_told) (lv := [(0, .ref o), (1, .int c), (2, .int w)]) (by decide) rfl (Nat.le_of_ble_eq_true rfl) rfl ?_
  intro pG eG sG mG below meth cG ls A hx hb hr hml hown hts hlk hin hP hK hD hA hS hl
  have hown : sG.vm.findClass RX4 = some mG.cls := hown
  have k_1 := hts (.fieldLink RX4 21 "ConicRows" "conics" "LConicRows$Shelf;") (by decide +kernel)
  have k_2 : ∀ w ∈ wsX40, w ∈ wsX4_told := by decide +kernel
  have k_3 := hts (.fieldLink RX4 53 "ConicRows" "left" "LConicRows$Form;") (by decide +kernel)
  have k_4 := hts (.constantLong RX4 178 (-1000003)) (by decide +kernel)
  have k_5 := hts (.constantLong RX4 176 (-1000002)) (by decide +kernel)
  refine lv_aload_n hx hb dX4_told_0 rfl (lv_at hl 0 rfl) ?_
  refine va_get (D := D) (ci := 4) (v := .ref oC) (C := RX4) (T := TX4) (N := 14) hx hb hts k_2 hown hK.1 hP 0 rfl rfl 2 (by decide) k_1 (fun _ h9 => h9) rfl dX4_told_1 ?_
  refine lv_iload_n hx hb dX4_told_4 rfl (lv_at hl 1 rfl) ?_
  have hPc := hP.sub (ws' := [kS oC 6 qc nc]) [1] rfl
  refine cr_i (va_runV (As := [.int c]) (rest := []) ⟨hx, hb, hml, hown, hts⟩ (c_X2_has l D cI cJ oC qc 6 nc c) (cwV 1 hts gX4_told_X2_has rfl rfl rfl (by decide +kernel) ⟨Nat.le_of_ble_eq_true rfl, Nat.le_of_ble_eq_true rfl⟩) ⟨gd_blR, va_recv hK.1 hPc (ci := 2) (q0 := 0) rfl rfl, gd_prR hPc hK⟩ rfl rfl hl.1 rfl (lv_room (Nat.le_of_ble_eq_true rfl)) dX4_told_5 ⟨Nat.zero_le _, Nat.zero_le _⟩) (fun r_5 hw => ?_)
  subst hw
  clear hPc
  refine lv_if_ne (tgt := 15) hx hb dX4_told_8 (by decide) (fun c_1 => ?_) (fun c_1 => ?_)
  · skip
    refine lv_aload_n hx hb dX4_told_15 rfl (lv_at hl 0 rfl) ?_
    refine va_get (D := D) (ci := 4) (v := .ref fL) (C := RX4) (T := TX4) (N := 14) hx hb hts k_2 hown hK.1 hP 0 rfl rfl 9 (by decide) k_3 (fun _ h9 => h9) rfl dX4_told_16 ?_
    refine lv_aload_n hx hb dX4_told_19 rfl (lv_at hl 0 rfl) ?_
    refine va_get (D := D) (ci := 4) (v := .ref oC) (C := RX4) (T := TX4) (N := 14) hx hb hts k_2 hown hK.1 hP 0 rfl rfl 2 (by decide) k_1 (fun _ h9 => h9) rfl dX4_told_20 ?_
    refine lv_iload_n hx hb dX4_told_23 rfl (lv_at hl 1 rfl) ?_
    have hPc := hP.sub (ws' := [kF fL a5 b5 c5 d5 e5 f5, kS oC 6 qc nc, kA qc cI 360 gc]) [3, 1, 2] rfl
    have hDc := hD.sub (ws' := [kF fL a5 b5 c5 d5 e5 f5, kS oC 6 qc nc, kA qc cI 360 gc]) [3, 1, 2] (by decide) rfl
    refine cl_v (wc := [kF fL a5 b5 c5 d5 e5 f5, kS oC 6 qc nc, kA qc cI 360 gc]) (wr := [kC o oP oL oC oX oY oF oS oT oM fL fR fN fM oR]) (w1 := fun uu : Unit => [kF fL (z0_read_a 6 nc c gc) (z0_read_b 6 nc c gc) (z0_read_c 6 nc c gc) (z0_read_d 6 nc c gc) (z0_read_e 6 nc c gc) (z0_read_f 6 nc c gc), kS oC 6 qc nc, kA qc cI 360 gc]) (wn := fun uu : Unit => [kC o oP oL oC oX oY oF oS oT oM fL fR fN fM oR, kS oC 6 qc nc, kA qc cI 360 gc, kF fL (z0_read_a 6 nc c gc) (z0_read_b 6 nc c gc) (z0_read_c 6 nc c gc) (z0_read_d 6 nc c gc) (z0_read_e 6 nc c gc) (z0_read_f 6 nc c gc)]) (va_runV (As := [.ref oC, .int c]) (rest := []) ⟨hx, hb, hml, hown, hts⟩ (c_X0_read l D cI cJ fL oC qc 360 a5 b5 c5 d5 e5 f5 6 nc c gc hsc _) (cwV 2 hts gX4_told_X0_read rfl rfl rfl (by decide +kernel) ⟨Nat.le_of_ble_eq_true rfl, Nat.le_of_ble_eq_true rfl⟩) ⟨gd_blP, va_recv hK.1 hPc (ci := 0) (q0 := 0) rfl rfl, gd_prP hPc hK hDc⟩ rfl rfl hl.1 rfl (lv_room (Nat.le_of_ble_eq_true rfl)) dX4_told_24 ⟨Nat.zero_le _, Nat.zero_le _⟩) hP hD hS hA [3, 1, 2] [0] rfl rfl (by decide) (by decide) [0, 2, 3, 1] (by decide) (fun _ => rfl) (fun uG H locs hw hP hD hS => ?_)
    have hP : va_P D vwCl [kC o oP oL oC oX oY oF oS oT oM fL fR fN fM oR, kS oC 6 qc nc, kA qc cI 360 gc, kF fL (z0_read_a 6 nc c gc) (z0_read_b 6 nc c gc) (z0_read_c 6 nc c gc) (z0_read_d 6 nc c gc) (z0_read_e 6 nc c gc) (z0_read_f 6 nc c gc)] H := hP
    have hD : va_D A [kC o oP oL oC oX oY oF oS oT oM fL fR fN fM oR, kS oC 6 qc nc, kA qc cI 360 gc, kF fL (z0_read_a 6 nc c gc) (z0_read_b 6 nc c gc) (z0_read_c 6 nc c gc) (z0_read_d 6 nc c gc) (z0_read_e 6 nc c gc) (z0_read_f 6 nc c gc)] := hD
    clear hPc hDc
    refine lv_iload_n hx hb dX4_told_27 rfl (lv_at hl 2 rfl) ?_
    refine lv_if_ne (tgt := 39) hx hb dX4_told_28 (by decide) (fun c_2 => ?_) (fun c_2 => ?_)
    · skip
      refine lv_iload_n hx hb dX4_told_39 rfl (lv_at hl 2 rfl) ?_
      refine lv_iconst (v := 1) hx hb dX4_told_40 (by decide) ?_
      refine lv_icmp_ne (tgt := 54) hx hb dX4_told_41 (by decide) (fun c_3 => ?_) (fun c_3 => ?_)
      · skip
        refine lv_ldc2 hx hb hown k_4 dX4_told_54 ?_
        have he : z4_told nc gc c w = (-1000003) := by unfold z4_told; rw [if_neg c_1, if_neg c_2, if_neg c_3]
        exact rt_l (w1 := fun uu : Int64 × Int64 × Int64 × Int64 × Int64 × Int64 => [kC o oP oL oC oX oY oF oS oT oM fL fR fN fM oR, kS oC 6 qc nc, kA qc cI 360 gc, kF fL uu.1 uu.2.1 uu.2.2.1 uu.2.2.2.1 uu.2.2.2.2.1 uu.2.2.2.2.2]) hx hb hr hlk hS dX4_told_57 ((z0_read_a 6 nc c gc, z0_read_b 6 nc c gc, z0_read_c 6 nc c gc, z0_read_d 6 nc c gc, z0_read_e 6 nc c gc, z0_read_f 6 nc c gc)) he.symm (by dsimp only; exact hP) (by dsimp only; exact hD)
      · skip
        refine lv_aload_n hx hb dX4_told_44 rfl (lv_at hl 0 rfl) ?_
        refine va_get (D := D) (ci := 4) (v := .ref fL) (C := RX4) (T := TX4) (N := 14) hx hb hts k_2 hown hK.1 hP 0 rfl rfl 9 (by decide) k_3 (fun _ h9 => h9) rfl dX4_told_45 ?_
        have hPc := hP.sub (ws' := [kF fL (z0_read_a 6 nc c gc) (z0_read_b 6 nc c gc) (z0_read_c 6 nc c gc) (z0_read_d 6 nc c gc) (z0_read_e 6 nc c gc) (z0_read_f 6 nc c gc)]) [3] rfl
        refine cr_l (va_runV (As := []) (rest := []) ⟨hx, hb, hml, hown, hts⟩ (c_X0_disc l D cI cJ fL (z0_read_a 6 nc c gc) (z0_read_b 6 nc c gc) (z0_read_c 6 nc c gc) (z0_read_d 6 nc c gc) (z0_read_e 6 nc c gc) (z0_read_f 6 nc c gc)) (cwV 0 hts gX4_told_X0_disc rfl rfl rfl (by decide +kernel) ⟨Nat.le_of_ble_eq_true rfl, Nat.le_of_ble_eq_true rfl⟩) ⟨gd_blR, va_recv hK.1 hPc (ci := 0) (q0 := 0) rfl rfl, gd_prR hPc hK⟩ rfl rfl hl.1 rfl (lv_room (Nat.le_of_ble_eq_true rfl)) dX4_told_48 ⟨Nat.zero_le _, Nat.zero_le _⟩) (fun r_48 hw => ?_)
        subst hw
        clear hPc
        refine lv_goto (tgt := 57) hx hb dX4_told_51 (by decide) ?_
        have he : z4_told nc gc c w = z0_disc (z0_read_a 6 nc c gc) (z0_read_b 6 nc c gc) (z0_read_c 6 nc c gc) := by unfold z4_told; rw [if_neg c_1, if_neg c_2, if_pos c_3]
        exact rt_l (w1 := fun uu : Int64 × Int64 × Int64 × Int64 × Int64 × Int64 => [kC o oP oL oC oX oY oF oS oT oM fL fR fN fM oR, kS oC 6 qc nc, kA qc cI 360 gc, kF fL uu.1 uu.2.1 uu.2.2.1 uu.2.2.2.1 uu.2.2.2.2.1 uu.2.2.2.2.2]) hx hb hr hlk hS dX4_told_57 ((z0_read_a 6 nc c gc, z0_read_b 6 nc c gc, z0_read_c 6 nc c gc, z0_read_d 6 nc c gc, z0_read_e 6 nc c gc, z0_read_f 6 nc c gc)) he.symm (by dsimp only; exact hP) (by dsimp only; exact hD)
    · skip
      refine lv_aload_n hx hb dX4_told_31 rfl (lv_at hl 0 rfl) ?_
      refine va_get (D := D) (ci := 4) (v := .ref fL) (C := RX4) (T := TX4) (N := 14) hx hb hts k_2 hown hK.1 hP 0 rfl rfl 9 (by decide) k_3 (fun _ h9 => h9) rfl dX4_told_32 ?_
      have hPc := hP.sub (ws' := [kF fL (z0_read_a 6 nc c gc) (z0_read_b 6 nc c gc) (z0_read_c 6 nc c gc) (z0_read_d 6 nc c gc) (z0_read_e 6 nc c gc) (z0_read_f 6 nc c gc)]) [3] rfl
      refine cr_l (va_runV (As := []) (rest := []) ⟨hx, hb, hml, hown, hts⟩ (c_X0_det l D cI cJ fL (z0_read_a 6 nc c gc) (z0_read_b 6 nc c gc) (z0_read_c 6 nc c gc) (z0_read_d 6 nc c gc) (z0_read_e 6 nc c gc) (z0_read_f 6 nc c gc)) (cwV 0 hts gX4_told_X0_det rfl rfl rfl (by decide +kernel) ⟨Nat.le_of_ble_eq_true rfl, Nat.le_of_ble_eq_true rfl⟩) ⟨gd_blR, va_recv hK.1 hPc (ci := 0) (q0 := 0) rfl rfl, gd_prR hPc hK⟩ rfl rfl hl.1 rfl (lv_room (Nat.le_of_ble_eq_true rfl)) dX4_told_35 ⟨Nat.zero_le _, Nat.zero_le _⟩) (fun r_35 hw => ?_)
      subst hw
      clear hPc
      refine lv_eql (v := z4_told_v1 nc gc c) (by delta z4_told_v1; rfl) ?_
      have he : z4_told nc gc c w = z4_told_v1 nc gc c := by unfold z4_told; rw [if_neg c_1, if_pos c_2]
      exact rt_l (w1 := fun uu : Int64 × Int64 × Int64 × Int64 × Int64 × Int64 => [kC o oP oL oC oX oY oF oS oT oM fL fR fN fM oR, kS oC 6 qc nc, kA qc cI 360 gc, kF fL uu.1 uu.2.1 uu.2.2.1 uu.2.2.2.1 uu.2.2.2.2.1 uu.2.2.2.2.2]) hx hb hr hlk hS dX4_told_38 ((z0_read_a 6 nc c gc, z0_read_b 6 nc c gc, z0_read_c 6 nc c gc, z0_read_d 6 nc c gc, z0_read_e 6 nc c gc, z0_read_f 6 nc c gc)) he.symm (by dsimp only; exact hP) (by dsimp only; exact hD)
  · skip
    refine lv_ldc2 hx hb hown k_5 dX4_told_11 ?_
    have he : z4_told nc gc c w = (-1000002) := by unfold z4_told; rw [if_pos c_1]
    exact rt_l (w1 := fun uu : Int64 × Int64 × Int64 × Int64 × Int64 × Int64 => [kC o oP oL oC oX oY oF oS oT oM fL fR fN fM oR, kS oC 6 qc nc, kA qc cI 360 gc, kF fL uu.1 uu.2.1 uu.2.2.1 uu.2.2.2.1 uu.2.2.2.2.1 uu.2.2.2.2.2]) hx hb hr hlk hS dX4_told_14 ((a5, b5, c5, d5, e5, f5)) he.symm (by dsimp only; exact hP) (by dsimp only; exact hD)
def z4_round (nc : Int32) (gc : Nat → Int32) (c : Int32) : Int32 := if (z2_has nc c) = 0 then (-1000002) else if (z0_read_b 6 nc c gc) = 0 then if (z0_read_a 6 nc c gc) = (z0_read_c 6 nc c gc) then if (z0_read_a 6 nc c gc) = 0 then if ((z0_read_a 6 nc c gc) + (z0_read_c 6 nc c gc)) = 0 then 0 else 0 else 1 else if ((z0_read_a 6 nc c gc) + (z0_read_c 6 nc c gc)) = 0 then if (z0_read_a 6 nc c gc) = 0 then 0 else 2 else 0 else if ((z0_read_a 6 nc c gc) + (z0_read_c 6 nc c gc)) = 0 then if (z0_read_a 6 nc c gc) = 0 then 2 else 2 else 0
set_option maxHeartbeats 4000000 in
set_option maxRecDepth 100000 in
/-- X4.round -/
theorem c_X4_round (l : Launch) (D : va_G) (cI cJ : ClassId) (o : Nat) (oP : Nat) (oL : Nat) (oC : Nat) (oX : Nat) (oY : Nat) (oF : Nat) (oS : Nat) (oT : Nat) (oM : Nat) (fL : Nat) (fR : Nat) (fN : Nat) (fM : Nat) (oR : Nat) (qc : Nat) (nc : Int32) (gc : Nat → Int32) (a5 : Int64) (b5 : Int64) (c5 : Int64) (d5 : Int64) (e5 : Int64) (f5 : Int64) (c : Int32) (hsc : sh_ok 6 360 nc) : mw_C l yX4_round wsX4_round ({ frames := 3, cells := 0, slots := 0, locals := 65 }) D cI cJ [.ref o, .int c] [kC o oP oL oC oX oY oF oS oT oM fL fR fN fM oR, kS oC 6 qc nc, kA qc cI 360 gc, kF fL a5 b5 c5 d5 e5 f5] (qe_i (fun (r : Int32) (_ : Int64 × Int64 × Int64 × Int64 × Int64 × Int64) => r = z4_round nc gc c) (fun uu => [kC o oP oL oC oX oY oF oS oT oM fL fR fN fM oR, kS oC 6 qc nc, kA qc cI 360 gc, kF fL uu.1 uu.2.1 uu.2.2.1 uu.2.2.2.1 uu.2.2.2.2.1 uu.2.2.2.2.2])) := by
  refine mw_in (cc := cX4_round) (lv := [(0, .ref o), (1, .int c)]) (by decide) rfl (Nat.le_of_ble_eq_true rfl) rfl ?_
  intro pG eG sG mG below meth cG ls A hx hb hr hml hown hts hlk hin hP hK hD hA hS hl
  have hown : sG.vm.findClass RX4 = some mG.cls := hown
  have k_1 := hts (.fieldLink RX4 21 "ConicRows" "conics" "LConicRows$Shelf;") (by decide +kernel)
  have k_2 : ∀ w ∈ wsX40, w ∈ wsX4_round := by decide +kernel
  have k_3 := hts (.fieldLink RX4 53 "ConicRows" "left" "LConicRows$Form;") (by decide +kernel)
  have k_4 : ∀ w ∈ wsX00, w ∈ wsX4_round := by decide +kernel
  have k_5 := hts (.constant RX4 108 (-1000002)) (by decide +kernel)
  refine lv_aload_n hx hb dX4_round_0 rfl (lv_at hl 0 rfl) ?_
  refine va_get (D := D) (ci := 4) (v := .ref oC) (C := RX4) (T := TX4) (N := 14) hx hb hts k_2 hown hK.1 hP 0 rfl rfl 2 (by decide) k_1 (fun _ h9 => h9) rfl dX4_round_1 ?_
  refine lv_iload_n hx hb dX4_round_4 rfl (lv_at hl 1 rfl) ?_
  have hPc := hP.sub (ws' := [kS oC 6 qc nc]) [1] rfl
  refine cr_i (va_runV (As := [.int c]) (rest := []) ⟨hx, hb, hml, hown, hts⟩ (c_X2_has l D cI cJ oC qc 6 nc c) (cwV 1 hts gX4_round_X2_has rfl rfl rfl (by decide +kernel) ⟨Nat.le_of_ble_eq_true rfl, Nat.le_of_ble_eq_true rfl⟩) ⟨gd_blR, va_recv hK.1 hPc (ci := 2) (q0 := 0) rfl rfl, gd_prR hPc hK⟩ rfl rfl hl.1 rfl (lv_room (Nat.le_of_ble_eq_true rfl)) dX4_round_5 ⟨Nat.zero_le _, Nat.zero_le _⟩) (fun r_5 hw => ?_)
  subst hw
  clear hPc
  refine lv_if_ne (tgt := 14) hx hb dX4_round_8 (by decide) (fun c_1 => ?_) (fun c_1 => ?_)
  · skip
    refine lv_aload_n hx hb dX4_round_14 rfl (lv_at hl 0 rfl) ?_
    refine va_get (D := D) (ci := 4) (v := .ref fL) (C := RX4) (T := TX4) (N := 14) hx hb hts k_2 hown hK.1 hP 0 rfl rfl 9 (by decide) k_3 (fun _ h9 => h9) rfl dX4_round_15 ?_
    refine lv_aload_n hx hb dX4_round_18 rfl (lv_at hl 0 rfl) ?_
    refine va_get (D := D) (ci := 4) (v := .ref oC) (C := RX4) (T := TX4) (N := 14) hx hb hts k_2 hown hK.1 hP 0 rfl rfl 2 (by decide) k_1 (fun _ h9 => h9) rfl dX4_round_19 ?_
    refine lv_iload_n hx hb dX4_round_22 rfl (lv_at hl 1 rfl) ?_
    have hPc := hP.sub (ws' := [kF fL a5 b5 c5 d5 e5 f5, kS oC 6 qc nc, kA qc cI 360 gc]) [3, 1, 2] rfl
    have hDc := hD.sub (ws' := [kF fL a5 b5 c5 d5 e5 f5, kS oC 6 qc nc, kA qc cI 360 gc]) [3, 1, 2] (by decide) rfl
    refine cl_v (wc := [kF fL a5 b5 c5 d5 e5 f5, kS oC 6 qc nc, kA qc cI 360 gc]) (wr := [kC o oP oL oC oX oY oF oS oT oM fL fR fN fM oR]) (w1 := fun uu : Unit => [kF fL (z0_read_a 6 nc c gc) (z0_read_b 6 nc c gc) (z0_read_c 6 nc c gc) (z0_read_d 6 nc c gc) (z0_read_e 6 nc c gc) (z0_read_f 6 nc c gc), kS oC 6 qc nc, kA qc cI 360 gc]) (wn := fun uu : Unit => [kC o oP oL oC oX oY oF oS oT oM fL fR fN fM oR, kS oC 6 qc nc, kA qc cI 360 gc, kF fL (z0_read_a 6 nc c gc) (z0_read_b 6 nc c gc) (z0_read_c 6 nc c gc) (z0_read_d 6 nc c gc) (z0_read_e 6 nc c gc) (z0_read_f 6 nc c gc)]) (va_runV (As := [.ref oC, .int c]) (rest := []) ⟨hx, hb, hml, hown, hts⟩ (c_X0_read l D cI cJ fL oC qc 360 a5 b5 c5 d5 e5 f5 6 nc c gc hsc _) (cwV 2 hts gX4_round_X0_read rfl rfl rfl (by decide +kernel) ⟨Nat.le_of_ble_eq_true rfl, Nat.le_of_ble_eq_true rfl⟩) ⟨gd_blP, va_recv hK.1 hPc (ci := 0) (q0 := 0) rfl rfl, gd_prP hPc hK hDc⟩ rfl rfl hl.1 rfl (lv_room (Nat.le_of_ble_eq_true rfl)) dX4_round_23 ⟨Nat.zero_le _, Nat.zero_le _⟩) hP hD hS hA [3, 1, 2] [0] rfl rfl (by decide) (by decide) [0, 2, 3, 1] (by decide) (fun _ => rfl) (fun uG H locs hw hP hD hS => ?_)
    have hP : va_P D vwCl [kC o oP oL oC oX oY oF oS oT oM fL fR fN fM oR, kS oC 6 qc nc, kA qc cI 360 gc, kF fL (z0_read_a 6 nc c gc) (z0_read_b 6 nc c gc) (z0_read_c 6 nc c gc) (z0_read_d 6 nc c gc) (z0_read_e 6 nc c gc) (z0_read_f 6 nc c gc)] H := hP
    have hD : va_D A [kC o oP oL oC oX oY oF oS oT oM fL fR fN fM oR, kS oC 6 qc nc, kA qc cI 360 gc, kF fL (z0_read_a 6 nc c gc) (z0_read_b 6 nc c gc) (z0_read_c 6 nc c gc) (z0_read_d 6 nc c gc) (z0_read_e 6 nc c gc) (z0_read_f 6 nc c gc)] := hD
    clear hPc hDc
    refine lv_aload_n hx hb dX4_round_26 rfl (lv_at hl 0 rfl) ?_
    refine va_get (D := D) (ci := 4) (v := .ref fL) (C := RX4) (T := TX4) (N := 14) hx hb hts k_2 hown hK.1 hP 0 rfl rfl 9 (by decide) k_3 (fun _ h9 => h9) rfl dX4_round_27 ?_
    refine va_getN (D := D) (ci := 0) (v := .long (z0_read_b 6 nc c gc)) (C := RX0) (T := TX0) (N := 6) hx hb hts k_4 hown hK.1 hP 3 rfl rfl 1 (by decide) (nw_f hK.2 19 rfl) (fun _ h9 => h9) rfl dX4_round_30 ?_
    refine lv_lconst (v := 0) hx hb dX4_round_33 (by decide) ?_
    refine lb_ne (tgt := 70) hx hb dX4_round_34 rfl dX4_round_35 (by decide) (fun c_2 => ?_) (fun c_2 => ?_)
    · skip
      refine lv_aload_n hx hb dX4_round_70 rfl (lv_at hl 0 rfl) ?_
      refine va_get (D := D) (ci := 4) (v := .ref fL) (C := RX4) (T := TX4) (N := 14) hx hb hts k_2 hown hK.1 hP 0 rfl rfl 9 (by decide) k_3 (fun _ h9 => h9) rfl dX4_round_71 ?_
      refine va_getN (D := D) (ci := 0) (v := .long (z0_read_a 6 nc c gc)) (C := RX0) (T := TX0) (N := 6) hx hb hts k_4 hown hK.1 hP 3 rfl rfl 0 (by decide) (nw_f hK.2 16 rfl) (fun _ h9 => h9) rfl dX4_round_74 ?_
      refine lv_aload_n hx hb dX4_round_77 rfl (lv_at hl 0 rfl) ?_
      refine va_get (D := D) (ci := 4) (v := .ref fL) (C := RX4) (T := TX4) (N := 14) hx hb hts k_2 hown hK.1 hP 0 rfl rfl 9 (by decide) k_3 (fun _ h9 => h9) rfl dX4_round_78 ?_
      refine va_getN (D := D) (ci := 0) (v := .long (z0_read_c 6 nc c gc)) (C := RX0) (T := TX0) (N := 6) hx hb hts k_4 hown hK.1 hP 3 rfl rfl 2 (by decide) (nw_f hK.2 22 rfl) (fun _ h9 => h9) rfl dX4_round_81 ?_
      refine lv_ladd hx hb dX4_round_84 ?_
      refine lv_lconst (v := 0) hx hb dX4_round_85 (by decide) ?_
      refine lb_ne (tgt := 118) hx hb dX4_round_86 rfl dX4_round_87 (by decide) (fun c_3 => ?_) (fun c_3 => ?_)
      · skip
        refine lv_iconst (v := 0) hx hb dX4_round_118 (by decide) ?_
        refine lv_istore_n (lv' := [(2, .int 0), (0, .ref o), (1, .int c)]) hx hb dX4_round_119 rfl hl (by decide) rfl (fun ls hl => ?_)
        refine lv_iload_n hx hb dX4_round_120 rfl (lv_at hl 0 rfl) ?_
        refine lv_if_eq (tgt := 128) hx hb dX4_round_121 (by decide) (fun _ => ?_) (fun h => absurd (by decide) h)
        refine lv_iconst (v := 0) hx hb dX4_round_128 (by decide) ?_
        have he : z4_round nc gc c = 0 := by unfold z4_round; rw [if_neg c_1, if_neg c_2, if_neg c_3]
        exact rt_i (w1 := fun uu : Int64 × Int64 × Int64 × Int64 × Int64 × Int64 => [kC o oP oL oC oX oY oF oS oT oM fL fR fN fM oR, kS oC 6 qc nc, kA qc cI 360 gc, kF fL uu.1 uu.2.1 uu.2.2.1 uu.2.2.2.1 uu.2.2.2.2.1 uu.2.2.2.2.2]) hx hb hr hlk hS dX4_round_129 ((z0_read_a 6 nc c gc, z0_read_b 6 nc c gc, z0_read_c 6 nc c gc, z0_read_d 6 nc c gc, z0_read_e 6 nc c gc, z0_read_f 6 nc c gc)) he.symm (by dsimp only; exact hP) (by dsimp only; exact hD)
      · skip
        refine lv_aload_n hx hb dX4_round_90 rfl (lv_at hl 0 rfl) ?_
        refine va_get (D := D) (ci := 4) (v := .ref fL) (C := RX4) (T := TX4) (N := 14) hx hb hts k_2 hown hK.1 hP 0 rfl rfl 9 (by decide) k_3 (fun _ h9 => h9) rfl dX4_round_91 ?_
        refine va_getN (D := D) (ci := 0) (v := .long (z0_read_a 6 nc c gc)) (C := RX0) (T := TX0) (N := 6) hx hb hts k_4 hown hK.1 hP 3 rfl rfl 0 (by decide) (nw_f hK.2 16 rfl) (fun _ h9 => h9) rfl dX4_round_94 ?_
        refine lv_lconst (v := 0) hx hb dX4_round_97 (by decide) ?_
        refine lb_ne (tgt := 114) hx hb dX4_round_98 rfl dX4_round_99 (by decide) (fun c_4 => ?_) (fun c_4 => ?_)
        · skip
          refine lv_iconst (v := 1) hx hb dX4_round_114 (by decide) ?_
          refine lv_goto (tgt := 119) hx hb dX4_round_115 (by decide) ?_
          refine lv_istore_n (lv' := [(2, .int 1), (0, .ref o), (1, .int c)]) hx hb dX4_round_119 rfl hl (by decide) rfl (fun ls hl => ?_)
          refine lv_iload_n hx hb dX4_round_120 rfl (lv_at hl 0 rfl) ?_
          refine lv_if_eq (tgt := 128) hx hb dX4_round_121 (by decide) (fun h => absurd h (by decide)) (fun _ => ?_)
          refine lv_iconst (v := 2) hx hb dX4_round_124 (by decide) ?_
          refine lv_goto (tgt := 129) hx hb dX4_round_125 (by decide) ?_
          have he : z4_round nc gc c = 2 := by unfold z4_round; rw [if_neg c_1, if_neg c_2, if_pos c_3, if_neg c_4]
          exact rt_i (w1 := fun uu : Int64 × Int64 × Int64 × Int64 × Int64 × Int64 => [kC o oP oL oC oX oY oF oS oT oM fL fR fN fM oR, kS oC 6 qc nc, kA qc cI 360 gc, kF fL uu.1 uu.2.1 uu.2.2.1 uu.2.2.2.1 uu.2.2.2.2.1 uu.2.2.2.2.2]) hx hb hr hlk hS dX4_round_129 ((z0_read_a 6 nc c gc, z0_read_b 6 nc c gc, z0_read_c 6 nc c gc, z0_read_d 6 nc c gc, z0_read_e 6 nc c gc, z0_read_f 6 nc c gc)) he.symm (by dsimp only; exact hP) (by dsimp only; exact hD)
        · skip
          refine lv_aload_n hx hb dX4_round_102 rfl (lv_at hl 0 rfl) ?_
          refine va_get (D := D) (ci := 4) (v := .ref fL) (C := RX4) (T := TX4) (N := 14) hx hb hts k_2 hown hK.1 hP 0 rfl rfl 9 (by decide) k_3 (fun _ h9 => h9) rfl dX4_round_103 ?_
          refine va_getN (D := D) (ci := 0) (v := .long (z0_read_b 6 nc c gc)) (C := RX0) (T := TX0) (N := 6) hx hb hts k_4 hown hK.1 hP 3 rfl rfl 1 (by decide) (nw_f hK.2 19 rfl) (fun _ h9 => h9) rfl dX4_round_106 ?_
          refine lv_lconst (v := 0) hx hb dX4_round_109 (by decide) ?_
          refine lb_eq (tgt := 118) hx hb dX4_round_110 rfl dX4_round_111 (by decide) (fun h => absurd h c_2) (fun _ => ?_)
          refine lv_iconst (v := 1) hx hb dX4_round_114 (by decide) ?_
          refine lv_goto (tgt := 119) hx hb dX4_round_115 (by decide) ?_
          refine lv_istore_n (lv' := [(2, .int 1), (0, .ref o), (1, .int c)]) hx hb dX4_round_119 rfl hl (by decide) rfl (fun ls hl => ?_)
          refine lv_iload_n hx hb dX4_round_120 rfl (lv_at hl 0 rfl) ?_
          refine lv_if_eq (tgt := 128) hx hb dX4_round_121 (by decide) (fun h => absurd h (by decide)) (fun _ => ?_)
          refine lv_iconst (v := 2) hx hb dX4_round_124 (by decide) ?_
          refine lv_goto (tgt := 129) hx hb dX4_round_125 (by decide) ?_
          have he : z4_round nc gc c = 2 := by unfold z4_round; rw [if_neg c_1, if_neg c_2, if_pos c_3, if_pos c_4]
          exact rt_i (w1 := fun uu : Int64 × Int64 × Int64 × Int64 × Int64 × Int64 => [kC o oP oL oC oX oY oF oS oT oM fL fR fN fM oR, kS oC 6 qc nc, kA qc cI 360 gc, kF fL uu.1 uu.2.1 uu.2.2.1 uu.2.2.2.1 uu.2.2.2.2.1 uu.2.2.2.2.2]) hx hb hr hlk hS dX4_round_129 ((z0_read_a 6 nc c gc, z0_read_b 6 nc c gc, z0_read_c 6 nc c gc, z0_read_d 6 nc c gc, z0_read_e 6 nc c gc, z0_read_f 6 nc c gc)) he.symm (by dsimp only; exact hP) (by dsimp only; exact hD)
    · skip
      refine lv_aload_n hx hb dX4_round_38 rfl (lv_at hl 0 rfl) ?_
      refine va_get (D := D) (ci := 4) (v := .ref fL) (C := RX4) (T := TX4) (N := 14) hx hb hts k_2 hown hK.1 hP 0 rfl rfl 9 (by decide) k_3 (fun _ h9 => h9) rfl dX4_round_39 ?_
      refine va_getN (D := D) (ci := 0) (v := .long (z0_read_a 6 nc c gc)) (C := RX0) (T := TX0) (N := 6) hx hb hts k_4 hown hK.1 hP 3 rfl rfl 0 (by decide) (nw_f hK.2 16 rfl) (fun _ h9 => h9) rfl dX4_round_42 ?_
      refine lv_aload_n hx hb dX4_round_45 rfl (lv_at hl 0 rfl) ?_
      refine va_get (D := D) (ci := 4) (v := .ref fL) (C := RX4) (T := TX4) (N := 14) hx hb hts k_2 hown hK.1 hP 0 rfl rfl 9 (by decide) k_3 (fun _ h9 => h9) rfl dX4_round_46 ?_
      refine va_getN (D := D) (ci := 0) (v := .long (z0_read_c 6 nc c gc)) (C := RX0) (T := TX0) (N := 6) hx hb hts k_4 hown hK.1 hP 3 rfl rfl 2 (by decide) (nw_f hK.2 22 rfl) (fun _ h9 => h9) rfl dX4_round_49 ?_
      refine lb_ne (tgt := 70) hx hb dX4_round_52 rfl dX4_round_53 (by decide) (fun c_5 => ?_) (fun c_5 => ?_)
      · skip
        refine lv_aload_n hx hb dX4_round_70 rfl (lv_at hl 0 rfl) ?_
        refine va_get (D := D) (ci := 4) (v := .ref fL) (C := RX4) (T := TX4) (N := 14) hx hb hts k_2 hown hK.1 hP 0 rfl rfl 9 (by decide) k_3 (fun _ h9 => h9) rfl dX4_round_71 ?_
        refine va_getN (D := D) (ci := 0) (v := .long (z0_read_a 6 nc c gc)) (C := RX0) (T := TX0) (N := 6) hx hb hts k_4 hown hK.1 hP 3 rfl rfl 0 (by decide) (nw_f hK.2 16 rfl) (fun _ h9 => h9) rfl dX4_round_74 ?_
        refine lv_aload_n hx hb dX4_round_77 rfl (lv_at hl 0 rfl) ?_
        refine va_get (D := D) (ci := 4) (v := .ref fL) (C := RX4) (T := TX4) (N := 14) hx hb hts k_2 hown hK.1 hP 0 rfl rfl 9 (by decide) k_3 (fun _ h9 => h9) rfl dX4_round_78 ?_
        refine va_getN (D := D) (ci := 0) (v := .long (z0_read_c 6 nc c gc)) (C := RX0) (T := TX0) (N := 6) hx hb hts k_4 hown hK.1 hP 3 rfl rfl 2 (by decide) (nw_f hK.2 22 rfl) (fun _ h9 => h9) rfl dX4_round_81 ?_
        refine lv_ladd hx hb dX4_round_84 ?_
        refine lv_lconst (v := 0) hx hb dX4_round_85 (by decide) ?_
        refine lb_ne (tgt := 118) hx hb dX4_round_86 rfl dX4_round_87 (by decide) (fun c_6 => ?_) (fun c_6 => ?_)
        · skip
          refine lv_iconst (v := 0) hx hb dX4_round_118 (by decide) ?_
          refine lv_istore_n (lv' := [(2, .int 0), (0, .ref o), (1, .int c)]) hx hb dX4_round_119 rfl hl (by decide) rfl (fun ls hl => ?_)
          refine lv_iload_n hx hb dX4_round_120 rfl (lv_at hl 0 rfl) ?_
          refine lv_if_eq (tgt := 128) hx hb dX4_round_121 (by decide) (fun _ => ?_) (fun h => absurd (by decide) h)
          refine lv_iconst (v := 0) hx hb dX4_round_128 (by decide) ?_
          have he : z4_round nc gc c = 0 := by unfold z4_round; rw [if_neg c_1, if_pos c_2, if_neg c_5, if_neg c_6]
          exact rt_i (w1 := fun uu : Int64 × Int64 × Int64 × Int64 × Int64 × Int64 => [kC o oP oL oC oX oY oF oS oT oM fL fR fN fM oR, kS oC 6 qc nc, kA qc cI 360 gc, kF fL uu.1 uu.2.1 uu.2.2.1 uu.2.2.2.1 uu.2.2.2.2.1 uu.2.2.2.2.2]) hx hb hr hlk hS dX4_round_129 ((z0_read_a 6 nc c gc, z0_read_b 6 nc c gc, z0_read_c 6 nc c gc, z0_read_d 6 nc c gc, z0_read_e 6 nc c gc, z0_read_f 6 nc c gc)) he.symm (by dsimp only; exact hP) (by dsimp only; exact hD)
        · skip
          refine lv_aload_n hx hb dX4_round_90 rfl (lv_at hl 0 rfl) ?_
          refine va_get (D := D) (ci := 4) (v := .ref fL) (C := RX4) (T := TX4) (N := 14) hx hb hts k_2 hown hK.1 hP 0 rfl rfl 9 (by decide) k_3 (fun _ h9 => h9) rfl dX4_round_91 ?_
          refine va_getN (D := D) (ci := 0) (v := .long (z0_read_a 6 nc c gc)) (C := RX0) (T := TX0) (N := 6) hx hb hts k_4 hown hK.1 hP 3 rfl rfl 0 (by decide) (nw_f hK.2 16 rfl) (fun _ h9 => h9) rfl dX4_round_94 ?_
          refine lv_lconst (v := 0) hx hb dX4_round_97 (by decide) ?_
          refine lb_ne (tgt := 114) hx hb dX4_round_98 rfl dX4_round_99 (by decide) (fun c_7 => ?_) (fun c_7 => ?_)
          · skip
            refine lv_iconst (v := 1) hx hb dX4_round_114 (by decide) ?_
            refine lv_goto (tgt := 119) hx hb dX4_round_115 (by decide) ?_
            refine lv_istore_n (lv' := [(2, .int 1), (0, .ref o), (1, .int c)]) hx hb dX4_round_119 rfl hl (by decide) rfl (fun ls hl => ?_)
            refine lv_iload_n hx hb dX4_round_120 rfl (lv_at hl 0 rfl) ?_
            refine lv_if_eq (tgt := 128) hx hb dX4_round_121 (by decide) (fun h => absurd h (by decide)) (fun _ => ?_)
            refine lv_iconst (v := 2) hx hb dX4_round_124 (by decide) ?_
            refine lv_goto (tgt := 129) hx hb dX4_round_125 (by decide) ?_
            have he : z4_round nc gc c = 2 := by unfold z4_round; rw [if_neg c_1, if_pos c_2, if_neg c_5, if_pos c_6, if_neg c_7]
            exact rt_i (w1 := fun uu : Int64 × Int64 × Int64 × Int64 × Int64 × Int64 => [kC o oP oL oC oX oY oF oS oT oM fL fR fN fM oR, kS oC 6 qc nc, kA qc cI 360 gc, kF fL uu.1 uu.2.1 uu.2.2.1 uu.2.2.2.1 uu.2.2.2.2.1 uu.2.2.2.2.2]) hx hb hr hlk hS dX4_round_129 ((z0_read_a 6 nc c gc, z0_read_b 6 nc c gc, z0_read_c 6 nc c gc, z0_read_d 6 nc c gc, z0_read_e 6 nc c gc, z0_read_f 6 nc c gc)) he.symm (by dsimp only; exact hP) (by dsimp only; exact hD)
          · skip
            refine lv_aload_n hx hb dX4_round_102 rfl (lv_at hl 0 rfl) ?_
            refine va_get (D := D) (ci := 4) (v := .ref fL) (C := RX4) (T := TX4) (N := 14) hx hb hts k_2 hown hK.1 hP 0 rfl rfl 9 (by decide) k_3 (fun _ h9 => h9) rfl dX4_round_103 ?_
            refine va_getN (D := D) (ci := 0) (v := .long (z0_read_b 6 nc c gc)) (C := RX0) (T := TX0) (N := 6) hx hb hts k_4 hown hK.1 hP 3 rfl rfl 1 (by decide) (nw_f hK.2 19 rfl) (fun _ h9 => h9) rfl dX4_round_106 ?_
            refine lv_lconst (v := 0) hx hb dX4_round_109 (by decide) ?_
            refine lb_eq (tgt := 118) hx hb dX4_round_110 rfl dX4_round_111 (by decide) (fun _ => ?_) (fun h => absurd c_2 h)
            refine lv_iconst (v := 0) hx hb dX4_round_118 (by decide) ?_
            refine lv_istore_n (lv' := [(2, .int 0), (0, .ref o), (1, .int c)]) hx hb dX4_round_119 rfl hl (by decide) rfl (fun ls hl => ?_)
            refine lv_iload_n hx hb dX4_round_120 rfl (lv_at hl 0 rfl) ?_
            refine lv_if_eq (tgt := 128) hx hb dX4_round_121 (by decide) (fun _ => ?_) (fun h => absurd (by decide) h)
            refine lv_iconst (v := 0) hx hb dX4_round_128 (by decide) ?_
            have he : z4_round nc gc c = 0 := by unfold z4_round; rw [if_neg c_1, if_pos c_2, if_neg c_5, if_pos c_6, if_pos c_7]
            exact rt_i (w1 := fun uu : Int64 × Int64 × Int64 × Int64 × Int64 × Int64 => [kC o oP oL oC oX oY oF oS oT oM fL fR fN fM oR, kS oC 6 qc nc, kA qc cI 360 gc, kF fL uu.1 uu.2.1 uu.2.2.1 uu.2.2.2.1 uu.2.2.2.2.1 uu.2.2.2.2.2]) hx hb hr hlk hS dX4_round_129 ((z0_read_a 6 nc c gc, z0_read_b 6 nc c gc, z0_read_c 6 nc c gc, z0_read_d 6 nc c gc, z0_read_e 6 nc c gc, z0_read_f 6 nc c gc)) he.symm (by dsimp only; exact hP) (by dsimp only; exact hD)
      · skip
        refine lv_aload_n hx hb dX4_round_56 rfl (lv_at hl 0 rfl) ?_
        refine va_get (D := D) (ci := 4) (v := .ref fL) (C := RX4) (T := TX4) (N := 14) hx hb hts k_2 hown hK.1 hP 0 rfl rfl 9 (by decide) k_3 (fun _ h9 => h9) rfl dX4_round_57 ?_
        refine va_getN (D := D) (ci := 0) (v := .long (z0_read_a 6 nc c gc)) (C := RX0) (T := TX0) (N := 6) hx hb hts k_4 hown hK.1 hP 3 rfl rfl 0 (by decide) (nw_f hK.2 16 rfl) (fun _ h9 => h9) rfl dX4_round_60 ?_
        refine lv_lconst (v := 0) hx hb dX4_round_63 (by decide) ?_
        refine lb_eq (tgt := 70) hx hb dX4_round_64 rfl dX4_round_65 (by decide) (fun c_8 => ?_) (fun c_8 => ?_)
        · skip
          refine lv_aload_n hx hb dX4_round_70 rfl (lv_at hl 0 rfl) ?_
          refine va_get (D := D) (ci := 4) (v := .ref fL) (C := RX4) (T := TX4) (N := 14) hx hb hts k_2 hown hK.1 hP 0 rfl rfl 9 (by decide) k_3 (fun _ h9 => h9) rfl dX4_round_71 ?_
          refine va_getN (D := D) (ci := 0) (v := .long (z0_read_a 6 nc c gc)) (C := RX0) (T := TX0) (N := 6) hx hb hts k_4 hown hK.1 hP 3 rfl rfl 0 (by decide) (nw_f hK.2 16 rfl) (fun _ h9 => h9) rfl dX4_round_74 ?_
          refine lv_aload_n hx hb dX4_round_77 rfl (lv_at hl 0 rfl) ?_
          refine va_get (D := D) (ci := 4) (v := .ref fL) (C := RX4) (T := TX4) (N := 14) hx hb hts k_2 hown hK.1 hP 0 rfl rfl 9 (by decide) k_3 (fun _ h9 => h9) rfl dX4_round_78 ?_
          refine va_getN (D := D) (ci := 0) (v := .long (z0_read_c 6 nc c gc)) (C := RX0) (T := TX0) (N := 6) hx hb hts k_4 hown hK.1 hP 3 rfl rfl 2 (by decide) (nw_f hK.2 22 rfl) (fun _ h9 => h9) rfl dX4_round_81 ?_
          refine lv_ladd hx hb dX4_round_84 ?_
          refine lv_lconst (v := 0) hx hb dX4_round_85 (by decide) ?_
          refine lb_ne (tgt := 118) hx hb dX4_round_86 rfl dX4_round_87 (by decide) (fun c_9 => ?_) (fun c_9 => ?_)
          · skip
            refine lv_iconst (v := 0) hx hb dX4_round_118 (by decide) ?_
            refine lv_istore_n (lv' := [(2, .int 0), (0, .ref o), (1, .int c)]) hx hb dX4_round_119 rfl hl (by decide) rfl (fun ls hl => ?_)
            refine lv_iload_n hx hb dX4_round_120 rfl (lv_at hl 0 rfl) ?_
            refine lv_if_eq (tgt := 128) hx hb dX4_round_121 (by decide) (fun _ => ?_) (fun h => absurd (by decide) h)
            refine lv_iconst (v := 0) hx hb dX4_round_128 (by decide) ?_
            have he : z4_round nc gc c = 0 := by unfold z4_round; rw [if_neg c_1, if_pos c_2, if_pos c_5, if_pos c_8, if_neg c_9]
            exact rt_i (w1 := fun uu : Int64 × Int64 × Int64 × Int64 × Int64 × Int64 => [kC o oP oL oC oX oY oF oS oT oM fL fR fN fM oR, kS oC 6 qc nc, kA qc cI 360 gc, kF fL uu.1 uu.2.1 uu.2.2.1 uu.2.2.2.1 uu.2.2.2.2.1 uu.2.2.2.2.2]) hx hb hr hlk hS dX4_round_129 ((z0_read_a 6 nc c gc, z0_read_b 6 nc c gc, z0_read_c 6 nc c gc, z0_read_d 6 nc c gc, z0_read_e 6 nc c gc, z0_read_f 6 nc c gc)) he.symm (by dsimp only; exact hP) (by dsimp only; exact hD)
          · skip
            refine lv_aload_n hx hb dX4_round_90 rfl (lv_at hl 0 rfl) ?_
            refine va_get (D := D) (ci := 4) (v := .ref fL) (C := RX4) (T := TX4) (N := 14) hx hb hts k_2 hown hK.1 hP 0 rfl rfl 9 (by decide) k_3 (fun _ h9 => h9) rfl dX4_round_91 ?_
            refine va_getN (D := D) (ci := 0) (v := .long (z0_read_a 6 nc c gc)) (C := RX0) (T := TX0) (N := 6) hx hb hts k_4 hown hK.1 hP 3 rfl rfl 0 (by decide) (nw_f hK.2 16 rfl) (fun _ h9 => h9) rfl dX4_round_94 ?_
            refine lv_lconst (v := 0) hx hb dX4_round_97 (by decide) ?_
            refine lb_ne (tgt := 114) hx hb dX4_round_98 rfl dX4_round_99 (by decide) (fun h => absurd c_8 h) (fun _ => ?_)
            refine lv_aload_n hx hb dX4_round_102 rfl (lv_at hl 0 rfl) ?_
            refine va_get (D := D) (ci := 4) (v := .ref fL) (C := RX4) (T := TX4) (N := 14) hx hb hts k_2 hown hK.1 hP 0 rfl rfl 9 (by decide) k_3 (fun _ h9 => h9) rfl dX4_round_103 ?_
            refine va_getN (D := D) (ci := 0) (v := .long (z0_read_b 6 nc c gc)) (C := RX0) (T := TX0) (N := 6) hx hb hts k_4 hown hK.1 hP 3 rfl rfl 1 (by decide) (nw_f hK.2 19 rfl) (fun _ h9 => h9) rfl dX4_round_106 ?_
            refine lv_lconst (v := 0) hx hb dX4_round_109 (by decide) ?_
            refine lb_eq (tgt := 118) hx hb dX4_round_110 rfl dX4_round_111 (by decide) (fun _ => ?_) (fun h => absurd c_2 h)
            refine lv_iconst (v := 0) hx hb dX4_round_118 (by decide) ?_
            refine lv_istore_n (lv' := [(2, .int 0), (0, .ref o), (1, .int c)]) hx hb dX4_round_119 rfl hl (by decide) rfl (fun ls hl => ?_)
            refine lv_iload_n hx hb dX4_round_120 rfl (lv_at hl 0 rfl) ?_
            refine lv_if_eq (tgt := 128) hx hb dX4_round_121 (by decide) (fun _ => ?_) (fun h => absurd (by decide) h)
            refine lv_iconst (v := 0) hx hb dX4_round_128 (by decide) ?_
            have he : z4_round nc gc c = 0 := by unfold z4_round; rw [if_neg c_1, if_pos c_2, if_pos c_5, if_pos c_8, if_pos c_9]
            exact rt_i (w1 := fun uu : Int64 × Int64 × Int64 × Int64 × Int64 × Int64 => [kC o oP oL oC oX oY oF oS oT oM fL fR fN fM oR, kS oC 6 qc nc, kA qc cI 360 gc, kF fL uu.1 uu.2.1 uu.2.2.1 uu.2.2.2.1 uu.2.2.2.2.1 uu.2.2.2.2.2]) hx hb hr hlk hS dX4_round_129 ((z0_read_a 6 nc c gc, z0_read_b 6 nc c gc, z0_read_c 6 nc c gc, z0_read_d 6 nc c gc, z0_read_e 6 nc c gc, z0_read_f 6 nc c gc)) he.symm (by dsimp only; exact hP) (by dsimp only; exact hD)
        · skip
          refine lv_iconst (v := 1) hx hb dX4_round_68 (by decide) ?_
          have he : z4_round nc gc c = 1 := by unfold z4_round; rw [if_neg c_1, if_pos c_2, if_pos c_5, if_neg c_8]
          exact rt_i (w1 := fun uu : Int64 × Int64 × Int64 × Int64 × Int64 × Int64 => [kC o oP oL oC oX oY oF oS oT oM fL fR fN fM oR, kS oC 6 qc nc, kA qc cI 360 gc, kF fL uu.1 uu.2.1 uu.2.2.1 uu.2.2.2.1 uu.2.2.2.2.1 uu.2.2.2.2.2]) hx hb hr hlk hS dX4_round_69 ((z0_read_a 6 nc c gc, z0_read_b 6 nc c gc, z0_read_c 6 nc c gc, z0_read_d 6 nc c gc, z0_read_e 6 nc c gc, z0_read_f 6 nc c gc)) he.symm (by dsimp only; exact hP) (by dsimp only; exact hD)
  · skip
    refine lv_ldc hx hb hown k_5 dX4_round_11 ?_
    have he : z4_round nc gc c = (-1000002) := by unfold z4_round; rw [if_pos c_1]
    exact rt_i (w1 := fun uu : Int64 × Int64 × Int64 × Int64 × Int64 × Int64 => [kC o oP oL oC oX oY oF oS oT oM fL fR fN fM oR, kS oC 6 qc nc, kA qc cI 360 gc, kF fL uu.1 uu.2.1 uu.2.2.1 uu.2.2.2.1 uu.2.2.2.2.1 uu.2.2.2.2.2]) hx hb hr hlk hS dX4_round_13 ((a5, b5, c5, d5, e5, f5)) he.symm (by dsimp only; exact hP) (by dsimp only; exact hD)
