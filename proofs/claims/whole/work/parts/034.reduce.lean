-- laid by wip/whole/gen
def z3_reduce (x : Int64) (y : Int64) (z : Int64) : Int64 × Int64 × Int64 := if x < 0 then if (-(z4_commonDivisor (z4_commonDivisor (lg_ab x) (lg_ab y)) (lg_ab z))) = 0 then (x, y, z) else ((x / (-(z4_commonDivisor (z4_commonDivisor (lg_ab x) (lg_ab y)) (lg_ab z)))), (y / (-(z4_commonDivisor (z4_commonDivisor (lg_ab x) (lg_ab y)) (lg_ab z)))), (z / (-(z4_commonDivisor (z4_commonDivisor (lg_ab x) (lg_ab y)) (lg_ab z))))) else if x = 0 then if y < 0 then if (-(z4_commonDivisor (z4_commonDivisor (lg_ab x) (lg_ab y)) (lg_ab z))) = 0 then (x, y, z) else ((x / (-(z4_commonDivisor (z4_commonDivisor (lg_ab x) (lg_ab y)) (lg_ab z)))), (y / (-(z4_commonDivisor (z4_commonDivisor (lg_ab x) (lg_ab y)) (lg_ab z)))), (z / (-(z4_commonDivisor (z4_commonDivisor (lg_ab x) (lg_ab y)) (lg_ab z))))) else if y = 0 then if 0 ≤ z then if (z4_commonDivisor (z4_commonDivisor (lg_ab x) (lg_ab y)) (lg_ab z)) = 0 then (x, y, z) else ((x / (z4_commonDivisor (z4_commonDivisor (lg_ab x) (lg_ab y)) (lg_ab z))), (y / (z4_commonDivisor (z4_commonDivisor (lg_ab x) (lg_ab y)) (lg_ab z))), (z / (z4_commonDivisor (z4_commonDivisor (lg_ab x) (lg_ab y)) (lg_ab z)))) else if (-(z4_commonDivisor (z4_commonDivisor (lg_ab x) (lg_ab y)) (lg_ab z))) = 0 then (x, y, z) else ((x / (-(z4_commonDivisor (z4_commonDivisor (lg_ab x) (lg_ab y)) (lg_ab z)))), (y / (-(z4_commonDivisor (z4_commonDivisor (lg_ab x) (lg_ab y)) (lg_ab z)))), (z / (-(z4_commonDivisor (z4_commonDivisor (lg_ab x) (lg_ab y)) (lg_ab z))))) else if (z4_commonDivisor (z4_commonDivisor (lg_ab x) (lg_ab y)) (lg_ab z)) = 0 then (x, y, z) else ((x / (z4_commonDivisor (z4_commonDivisor (lg_ab x) (lg_ab y)) (lg_ab z))), (y / (z4_commonDivisor (z4_commonDivisor (lg_ab x) (lg_ab y)) (lg_ab z))), (z / (z4_commonDivisor (z4_commonDivisor (lg_ab x) (lg_ab y)) (lg_ab z)))) else if (z4_commonDivisor (z4_commonDivisor (lg_ab x) (lg_ab y)) (lg_ab z)) = 0 then (x, y, z) else ((x / (z4_commonDivisor (z4_commonDivisor (lg_ab x) (lg_ab y)) (lg_ab z))), (y / (z4_commonDivisor (z4_commonDivisor (lg_ab x) (lg_ab y)) (lg_ab z))), (z / (z4_commonDivisor (z4_commonDivisor (lg_ab x) (lg_ab y)) (lg_ab z))))
set_option maxHeartbeats 4000000 in
set_option maxRecDepth 100000 in
/-- X3.reduce -/
theorem c_X3_reduce (l : Launch) (D : va_G) (cI cJ : ClassId) (h : Nat) (x : Int64) (y : Int64) (z : Int64) : mw_C l yX3_reduce wsX3_reduce ({ frames := 1, cells := 0, slots := 0, locals := 30 }) D cI cJ [.ref h] [kT h x y z] (qe_v (fun _ : Unit => True) (fun uu => [kT h ((z3_reduce x y z).1) ((z3_reduce x y z).2.1) ((z3_reduce x y z).2.2)])) := by
  refine mw_in (cc := cX3_reduce) (lv := [(0, .ref h)]) (by decide) rfl (Nat.le_of_ble_eq_true rfl) rfl ?_
  intro pG eG sG mG below meth cG ls A hx hb hr hml hown hts hlk hin hP hK hD hA hS hl
  have hown : sG.vm.findClass RX3 = some mG.cls := hown
  have k_1 := hts (.fieldLink RX3 7 "ConicRows$Triple" "x" "J") (by decide +kernel)
  have k_2 : ∀ w ∈ wsX30, w ∈ wsX3_reduce := by decide +kernel
  have k_3 := hts (.methodLink RX3 35 Lib.MathLoose.abs_long.x) (by decide +kernel)
  have k_4 := hts (.static Lib.MathLoose.abs_long.x) (by decide +kernel)
  have k_5 := hts (.initialized "java/lang/Math") (by decide +kernel)
  have k_6 := hts (.code Lib.MathLoose.abs_long.x Lib.MathLoose.abs_long.code 2 (some .long)) (by decide +kernel)
  have k_7 := hts (.fieldLink RX3 13 "ConicRows$Triple" "y" "J") (by decide +kernel)
  have k_8 := hts (.initialized RX4) (by decide +kernel)
  have k_9 := hts (.static yX4_commonDivisor) (by decide +kernel)
  have k_10 := hts (.fieldLink RX3 16 "ConicRows$Triple" "z" "J") (by decide +kernel)
  refine lv_aload_n hx hb dX3_reduce_0 rfl (lv_at hl 0 rfl) ?_
  refine va_get (D := D) (ci := 3) (v := .long x) (C := RX3) (T := TX3) (N := 3) hx hb hts k_2 hown hK.1 hP 0 rfl rfl 0 (by decide) k_1 (fun _ h9 => h9) rfl dX3_reduce_1 ?_
  refine va_mabs_long hx hb (hml.trans hl.1.symm) hown k_3 k_4 k_5 k_6 (Nat.le_of_ble_eq_true rfl) (Nat.le_of_ble_eq_true rfl) (Nat.zero_le _) (Nat.zero_le _) dX3_reduce_4 ?_
  refine lv_aload_n hx hb dX3_reduce_7 rfl (lv_at hl 0 rfl) ?_
  refine va_get (D := D) (ci := 3) (v := .long y) (C := RX3) (T := TX3) (N := 3) hx hb hts k_2 hown hK.1 hP 0 rfl rfl 1 (by decide) k_7 (fun _ h9 => h9) rfl dX3_reduce_8 ?_
  refine va_mabs_long hx hb (hml.trans hl.1.symm) hown k_3 k_4 k_5 k_6 (Nat.le_of_ble_eq_true rfl) (Nat.le_of_ble_eq_true rfl) (Nat.zero_le _) (Nat.zero_le _) dX3_reduce_11 ?_
  have hPc := hP.sub (ws' := []) [] rfl
  refine cr_l (va_runSN (As := [.long (lg_ab x), .long (lg_ab y)]) (rest := []) ⟨hx, hb, hml, hown, hts⟩ (c_X4_commonDivisor l D cI cJ (lg_ab x) (lg_ab y)) ⟨va_cnB 2 hts gX3_reduce_X4_commonDivisor_n41 rfl rfl rfl (nw_m hK.2 4 rfl) k_8 (by decide +kernel) ⟨Nat.le_of_ble_eq_true rfl, Nat.le_of_ble_eq_true rfl⟩, k_9, trivial⟩ ⟨gd_blR, gd_prR hPc hK⟩ rfl rfl hl.1 rfl (lv_room (Nat.le_of_ble_eq_true rfl)) dX3_reduce_14 ⟨Nat.zero_le _, Nat.zero_le _⟩) (fun r_14 hw => ?_)
  subst hw
  clear hPc
  refine lv_aload_n hx hb dX3_reduce_17 rfl (lv_at hl 0 rfl) ?_
  refine va_get (D := D) (ci := 3) (v := .long z) (C := RX3) (T := TX3) (N := 3) hx hb hts k_2 hown hK.1 hP 0 rfl rfl 2 (by decide) k_10 (fun _ h9 => h9) rfl dX3_reduce_18 ?_
  refine va_mabs_long hx hb (hml.trans hl.1.symm) hown k_3 k_4 k_5 k_6 (Nat.le_of_ble_eq_true rfl) (Nat.le_of_ble_eq_true rfl) (Nat.zero_le _) (Nat.zero_le _) dX3_reduce_21 ?_
  have hPc := hP.sub (ws' := []) [] rfl
  refine cr_l (va_runSN (As := [.long (z4_commonDivisor (lg_ab x) (lg_ab y)), .long (lg_ab z)]) (rest := []) ⟨hx, hb, hml, hown, hts⟩ (c_X4_commonDivisor l D cI cJ (z4_commonDivisor (lg_ab x) (lg_ab y)) (lg_ab z)) ⟨va_cnB 2 hts gX3_reduce_X4_commonDivisor_n41 rfl rfl rfl (nw_m hK.2 4 rfl) k_8 (by decide +kernel) ⟨Nat.le_of_ble_eq_true rfl, Nat.le_of_ble_eq_true rfl⟩, k_9, trivial⟩ ⟨gd_blR, gd_prR hPc hK⟩ rfl rfl hl.1 rfl (lv_room (Nat.le_of_ble_eq_true rfl)) dX3_reduce_24 ⟨Nat.zero_le _, Nat.zero_le _⟩) (fun r_24 hw => ?_)
  subst hw
  clear hPc
  refine lv_lstore_n (lv' := [(1, .long (z4_commonDivisor (z4_commonDivisor (lg_ab x) (lg_ab y)) (lg_ab z))), (0, .ref h)]) hx hb dX3_reduce_27 rfl hl (by decide) rfl (fun ls hl => ?_)
  refine lv_aload_n hx hb dX3_reduce_28 rfl (lv_at hl 1 rfl) ?_
  refine va_get (D := D) (ci := 3) (v := .long x) (C := RX3) (T := TX3) (N := 3) hx hb hts k_2 hown hK.1 hP 0 rfl rfl 0 (by decide) k_1 (fun _ h9 => h9) rfl dX3_reduce_29 ?_
  refine lv_lconst (v := 0) hx hb dX3_reduce_32 (by decide) ?_
  refine lb_lt (tgt := 73) hx hb dX3_reduce_33 rfl dX3_reduce_34 (by decide) (fun c_1 => ?_) (fun c_1 => ?_)
  · skip
    refine lv_lload_n hx hb dX3_reduce_73 rfl (lv_at hl 0 rfl) ?_
    refine lv_lneg hx hb dX3_reduce_74 ?_
    refine lv_lstore_n (lv' := [(1, .long (-(z4_commonDivisor (z4_commonDivisor (lg_ab x) (lg_ab y)) (lg_ab z)))), (0, .ref h)]) hx hb dX3_reduce_75 rfl hl (by decide) rfl (fun ls hl => ?_)
    refine lv_lload_n hx hb dX3_reduce_76 rfl (lv_at hl 0 rfl) ?_
    refine lv_lconst (v := 0) hx hb dX3_reduce_77 (by decide) ?_
    refine lb_eq (tgt := 104) hx hb dX3_reduce_78 rfl dX3_reduce_79 (by decide) (fun c_2 => ?_) (fun c_2 => ?_)
    · skip
      have he : z3_reduce x y z = (x, y, z) := by unfold z3_reduce; rw [if_pos c_1, if_pos c_2]
      have he_0 : (z3_reduce x y z).1 = x := by rw [he]
      have he_1 : (z3_reduce x y z).2.1 = y := by rw [he]
      have he_2 : (z3_reduce x y z).2.2 = z := by rw [he]
      exact rt_v (w1 := fun uu : Unit => [kT h ((z3_reduce x y z).1) ((z3_reduce x y z).2.1) ((z3_reduce x y z).2.2)]) hx hb hr hlk hS dX3_reduce_104 (()) trivial (by rw [he_0, he_1, he_2]; exact hP) (by rw [he_0, he_1, he_2]; exact hD)
    · skip
      refine lv_aload_n hx hb dX3_reduce_82 rfl (lv_at hl 1 rfl) ?_
      refine lv_aload_n hx hb dX3_reduce_83 rfl (lv_at hl 1 rfl) ?_
      refine va_get (D := D) (ci := 3) (v := .long x) (C := RX3) (T := TX3) (N := 3) hx hb hts k_2 hown hK.1 hP 0 rfl rfl 0 (by decide) k_1 (fun _ h9 => h9) rfl dX3_reduce_84 ?_
      refine lv_lload_n hx hb dX3_reduce_87 rfl (lv_at hl 0 rfl) ?_
      refine lv_ldiv hx hb dX3_reduce_88 c_2 ?_
      refine lv_aload_n hx hb dX3_reduce_89 rfl (lv_at hl 1 rfl) ?_
      refine va_get (D := D) (ci := 3) (v := .long y) (C := RX3) (T := TX3) (N := 3) hx hb hts k_2 hown hK.1 hP 0 rfl rfl 1 (by decide) k_7 (fun _ h9 => h9) rfl dX3_reduce_90 ?_
      refine lv_lload_n hx hb dX3_reduce_93 rfl (lv_at hl 0 rfl) ?_
      refine lv_ldiv hx hb dX3_reduce_94 c_2 ?_
      refine lv_aload_n hx hb dX3_reduce_95 rfl (lv_at hl 1 rfl) ?_
      refine va_get (D := D) (ci := 3) (v := .long z) (C := RX3) (T := TX3) (N := 3) hx hb hts k_2 hown hK.1 hP 0 rfl rfl 2 (by decide) k_10 (fun _ h9 => h9) rfl dX3_reduce_96 ?_
      refine lv_lload_n hx hb dX3_reduce_99 rfl (lv_at hl 0 rfl) ?_
      refine lv_ldiv hx hb dX3_reduce_100 c_2 ?_
      have hPc := hP.sub (ws' := [kT h x y z]) [0] rfl
      have hDc := hD.sub (ws' := [kT h x y z]) [0] (by decide) rfl
      refine cl_v (wc := [kT h x y z]) (wr := []) (w1 := fun uu : Unit => [kT h (x / (-(z4_commonDivisor (z4_commonDivisor (lg_ab x) (lg_ab y)) (lg_ab z)))) (y / (-(z4_commonDivisor (z4_commonDivisor (lg_ab x) (lg_ab y)) (lg_ab z)))) (z / (-(z4_commonDivisor (z4_commonDivisor (lg_ab x) (lg_ab y)) (lg_ab z))))]) (wn := fun uu : Unit => [kT h (x / (-(z4_commonDivisor (z4_commonDivisor (lg_ab x) (lg_ab y)) (lg_ab z)))) (y / (-(z4_commonDivisor (z4_commonDivisor (lg_ab x) (lg_ab y)) (lg_ab z)))) (z / (-(z4_commonDivisor (z4_commonDivisor (lg_ab x) (lg_ab y)) (lg_ab z))))]) (va_runV (As := [.long (x / (-(z4_commonDivisor (z4_commonDivisor (lg_ab x) (lg_ab y)) (lg_ab z)))), .long (y / (-(z4_commonDivisor (z4_commonDivisor (lg_ab x) (lg_ab y)) (lg_ab z)))), .long (z / (-(z4_commonDivisor (z4_commonDivisor (lg_ab x) (lg_ab y)) (lg_ab z))))]) (rest := []) ⟨hx, hb, hml, hown, hts⟩ (c_X3_set l D cI cJ h x y z (x / (-(z4_commonDivisor (z4_commonDivisor (lg_ab x) (lg_ab y)) (lg_ab z)))) (y / (-(z4_commonDivisor (z4_commonDivisor (lg_ab x) (lg_ab y)) (lg_ab z)))) (z / (-(z4_commonDivisor (z4_commonDivisor (lg_ab x) (lg_ab y)) (lg_ab z)))) _) (cwV 3 hts gX3_reduce_X3_set rfl rfl rfl (by decide +kernel) ⟨Nat.le_of_ble_eq_true rfl, Nat.le_of_ble_eq_true rfl⟩) ⟨gd_blP, va_recv hK.1 hPc (ci := 3) (q0 := 0) rfl rfl, gd_prP hPc hK hDc⟩ rfl rfl hl.1 rfl (lv_room (Nat.le_of_ble_eq_true rfl)) dX3_reduce_101 ⟨Nat.zero_le _, Nat.zero_le _⟩) hP hD hS hA [0] [] rfl rfl (by decide) (by decide) [0] (by decide) (fun _ => rfl) (fun uG H locs hw hP hD hS => ?_)
      have hP : va_P D vwCl [kT h (x / (-(z4_commonDivisor (z4_commonDivisor (lg_ab x) (lg_ab y)) (lg_ab z)))) (y / (-(z4_commonDivisor (z4_commonDivisor (lg_ab x) (lg_ab y)) (lg_ab z)))) (z / (-(z4_commonDivisor (z4_commonDivisor (lg_ab x) (lg_ab y)) (lg_ab z))))] H := hP
      have hD : va_D A [kT h (x / (-(z4_commonDivisor (z4_commonDivisor (lg_ab x) (lg_ab y)) (lg_ab z)))) (y / (-(z4_commonDivisor (z4_commonDivisor (lg_ab x) (lg_ab y)) (lg_ab z)))) (z / (-(z4_commonDivisor (z4_commonDivisor (lg_ab x) (lg_ab y)) (lg_ab z))))] := hD
      clear hPc hDc
      have he : z3_reduce x y z = ((x / (-(z4_commonDivisor (z4_commonDivisor (lg_ab x) (lg_ab y)) (lg_ab z)))), (y / (-(z4_commonDivisor (z4_commonDivisor (lg_ab x) (lg_ab y)) (lg_ab z)))), (z / (-(z4_commonDivisor (z4_commonDivisor (lg_ab x) (lg_ab y)) (lg_ab z))))) := by unfold z3_reduce; rw [if_pos c_1, if_neg c_2]
      have he_0 : (z3_reduce x y z).1 = (x / (-(z4_commonDivisor (z4_commonDivisor (lg_ab x) (lg_ab y)) (lg_ab z)))) := by rw [he]
      have he_1 : (z3_reduce x y z).2.1 = (y / (-(z4_commonDivisor (z4_commonDivisor (lg_ab x) (lg_ab y)) (lg_ab z)))) := by rw [he]
      have he_2 : (z3_reduce x y z).2.2 = (z / (-(z4_commonDivisor (z4_commonDivisor (lg_ab x) (lg_ab y)) (lg_ab z)))) := by rw [he]
      exact rt_v (w1 := fun uu : Unit => [kT h ((z3_reduce x y z).1) ((z3_reduce x y z).2.1) ((z3_reduce x y z).2.2)]) hx hb hr hlk hS dX3_reduce_104 (()) trivial (by rw [he_0, he_1, he_2]; exact hP) (by rw [he_0, he_1, he_2]; exact hD)
  · skip
    refine lv_aload_n hx hb dX3_reduce_37 rfl (lv_at hl 1 rfl) ?_
    refine va_get (D := D) (ci := 3) (v := .long x) (C := RX3) (T := TX3) (N := 3) hx hb hts k_2 hown hK.1 hP 0 rfl rfl 0 (by decide) k_1 (fun _ h9 => h9) rfl dX3_reduce_38 ?_
    refine lv_lconst (v := 0) hx hb dX3_reduce_41 (by decide) ?_
    refine lb_ne (tgt := 76) hx hb dX3_reduce_42 rfl dX3_reduce_43 (by decide) (fun c_3 => ?_) (fun c_3 => ?_)
    · skip
      refine lv_lload_n hx hb dX3_reduce_76 rfl (lv_at hl 0 rfl) ?_
      refine lv_lconst (v := 0) hx hb dX3_reduce_77 (by decide) ?_
      refine lb_eq (tgt := 104) hx hb dX3_reduce_78 rfl dX3_reduce_79 (by decide) (fun c_4 => ?_) (fun c_4 => ?_)
      · skip
        have he : z3_reduce x y z = (x, y, z) := by unfold z3_reduce; rw [if_neg c_1, if_neg c_3, if_pos c_4]
        have he_0 : (z3_reduce x y z).1 = x := by rw [he]
        have he_1 : (z3_reduce x y z).2.1 = y := by rw [he]
        have he_2 : (z3_reduce x y z).2.2 = z := by rw [he]
        exact rt_v (w1 := fun uu : Unit => [kT h ((z3_reduce x y z).1) ((z3_reduce x y z).2.1) ((z3_reduce x y z).2.2)]) hx hb hr hlk hS dX3_reduce_104 (()) trivial (by rw [he_0, he_1, he_2]; exact hP) (by rw [he_0, he_1, he_2]; exact hD)
      · skip
        refine lv_aload_n hx hb dX3_reduce_82 rfl (lv_at hl 1 rfl) ?_
        refine lv_aload_n hx hb dX3_reduce_83 rfl (lv_at hl 1 rfl) ?_
        refine va_get (D := D) (ci := 3) (v := .long x) (C := RX3) (T := TX3) (N := 3) hx hb hts k_2 hown hK.1 hP 0 rfl rfl 0 (by decide) k_1 (fun _ h9 => h9) rfl dX3_reduce_84 ?_
        refine lv_lload_n hx hb dX3_reduce_87 rfl (lv_at hl 0 rfl) ?_
        refine lv_ldiv hx hb dX3_reduce_88 c_4 ?_
        refine lv_aload_n hx hb dX3_reduce_89 rfl (lv_at hl 1 rfl) ?_
        refine va_get (D := D) (ci := 3) (v := .long y) (C := RX3) (T := TX3) (N := 3) hx hb hts k_2 hown hK.1 hP 0 rfl rfl 1 (by decide) k_7 (fun _ h9 => h9) rfl dX3_reduce_90 ?_
        refine lv_lload_n hx hb dX3_reduce_93 rfl (lv_at hl 0 rfl) ?_
        refine lv_ldiv hx hb dX3_reduce_94 c_4 ?_
        refine lv_aload_n hx hb dX3_reduce_95 rfl (lv_at hl 1 rfl) ?_
        refine va_get (D := D) (ci := 3) (v := .long z) (C := RX3) (T := TX3) (N := 3) hx hb hts k_2 hown hK.1 hP 0 rfl rfl 2 (by decide) k_10 (fun _ h9 => h9) rfl dX3_reduce_96 ?_
        refine lv_lload_n hx hb dX3_reduce_99 rfl (lv_at hl 0 rfl) ?_
        refine lv_ldiv hx hb dX3_reduce_100 c_4 ?_
        have hPc := hP.sub (ws' := [kT h x y z]) [0] rfl
        have hDc := hD.sub (ws' := [kT h x y z]) [0] (by decide) rfl
        refine cl_v (wc := [kT h x y z]) (wr := []) (w1 := fun uu : Unit => [kT h (x / (z4_commonDivisor (z4_commonDivisor (lg_ab x) (lg_ab y)) (lg_ab z))) (y / (z4_commonDivisor (z4_commonDivisor (lg_ab x) (lg_ab y)) (lg_ab z))) (z / (z4_commonDivisor (z4_commonDivisor (lg_ab x) (lg_ab y)) (lg_ab z)))]) (wn := fun uu : Unit => [kT h (x / (z4_commonDivisor (z4_commonDivisor (lg_ab x) (lg_ab y)) (lg_ab z))) (y / (z4_commonDivisor (z4_commonDivisor (lg_ab x) (lg_ab y)) (lg_ab z))) (z / (z4_commonDivisor (z4_commonDivisor (lg_ab x) (lg_ab y)) (lg_ab z)))]) (va_runV (As := [.long (x / (z4_commonDivisor (z4_commonDivisor (lg_ab x) (lg_ab y)) (lg_ab z))), .long (y / (z4_commonDivisor (z4_commonDivisor (lg_ab x) (lg_ab y)) (lg_ab z))), .long (z / (z4_commonDivisor (z4_commonDivisor (lg_ab x) (lg_ab y)) (lg_ab z)))]) (rest := []) ⟨hx, hb, hml, hown, hts⟩ (c_X3_set l D cI cJ h x y z (x / (z4_commonDivisor (z4_commonDivisor (lg_ab x) (lg_ab y)) (lg_ab z))) (y / (z4_commonDivisor (z4_commonDivisor (lg_ab x) (lg_ab y)) (lg_ab z))) (z / (z4_commonDivisor (z4_commonDivisor (lg_ab x) (lg_ab y)) (lg_ab z))) _) (cwV 3 hts gX3_reduce_X3_set rfl rfl rfl (by decide +kernel) ⟨Nat.le_of_ble_eq_true rfl, Nat.le_of_ble_eq_true rfl⟩) ⟨gd_blP, va_recv hK.1 hPc (ci := 3) (q0 := 0) rfl rfl, gd_prP hPc hK hDc⟩ rfl rfl hl.1 rfl (lv_room (Nat.le_of_ble_eq_true rfl)) dX3_reduce_101 ⟨Nat.zero_le _, Nat.zero_le _⟩) hP hD hS hA [0] [] rfl rfl (by decide) (by decide) [0] (by decide) (fun _ => rfl) (fun uG H locs hw hP hD hS => ?_)
        have hP : va_P D vwCl [kT h (x / (z4_commonDivisor (z4_commonDivisor (lg_ab x) (lg_ab y)) (lg_ab z))) (y / (z4_commonDivisor (z4_commonDivisor (lg_ab x) (lg_ab y)) (lg_ab z))) (z / (z4_commonDivisor (z4_commonDivisor (lg_ab x) (lg_ab y)) (lg_ab z)))] H := hP
        have hD : va_D A [kT h (x / (z4_commonDivisor (z4_commonDivisor (lg_ab x) (lg_ab y)) (lg_ab z))) (y / (z4_commonDivisor (z4_commonDivisor (lg_ab x) (lg_ab y)) (lg_ab z))) (z / (z4_commonDivisor (z4_commonDivisor (lg_ab x) (lg_ab y)) (lg_ab z)))] := hD
        clear hPc hDc
        have he : z3_reduce x y z = ((x / (z4_commonDivisor (z4_commonDivisor (lg_ab x) (lg_ab y)) (lg_ab z))), (y / (z4_commonDivisor (z4_commonDivisor (lg_ab x) (lg_ab y)) (lg_ab z))), (z / (z4_commonDivisor (z4_commonDivisor (lg_ab x) (lg_ab y)) (lg_ab z)))) := by unfold z3_reduce; rw [if_neg c_1, if_neg c_3, if_neg c_4]
        have he_0 : (z3_reduce x y z).1 = (x / (z4_commonDivisor (z4_commonDivisor (lg_ab x) (lg_ab y)) (lg_ab z))) := by rw [he]
        have he_1 : (z3_reduce x y z).2.1 = (y / (z4_commonDivisor (z4_commonDivisor (lg_ab x) (lg_ab y)) (lg_ab z))) := by rw [he]
        have he_2 : (z3_reduce x y z).2.2 = (z / (z4_commonDivisor (z4_commonDivisor (lg_ab x) (lg_ab y)) (lg_ab z))) := by rw [he]
        exact rt_v (w1 := fun uu : Unit => [kT h ((z3_reduce x y z).1) ((z3_reduce x y z).2.1) ((z3_reduce x y z).2.2)]) hx hb hr hlk hS dX3_reduce_104 (()) trivial (by rw [he_0, he_1, he_2]; exact hP) (by rw [he_0, he_1, he_2]; exact hD)
    · skip
      refine lv_aload_n hx hb dX3_reduce_46 rfl (lv_at hl 1 rfl) ?_
      refine va_get (D := D) (ci := 3) (v := .long y) (C := RX3) (T := TX3) (N := 3) hx hb hts k_2 hown hK.1 hP 0 rfl rfl 1 (by decide) k_7 (fun _ h9 => h9) rfl dX3_reduce_47 ?_
      refine lv_lconst (v := 0) hx hb dX3_reduce_50 (by decide) ?_
      refine lb_lt (tgt := 73) hx hb dX3_reduce_51 rfl dX3_reduce_52 (by decide) (fun c_5 => ?_) (fun c_5 => ?_)
      · skip
        refine lv_lload_n hx hb dX3_reduce_73 rfl (lv_at hl 0 rfl) ?_
        refine lv_lneg hx hb dX3_reduce_74 ?_
        refine lv_lstore_n (lv' := [(1, .long (-(z4_commonDivisor (z4_commonDivisor (lg_ab x) (lg_ab y)) (lg_ab z)))), (0, .ref h)]) hx hb dX3_reduce_75 rfl hl (by decide) rfl (fun ls hl => ?_)
        refine lv_lload_n hx hb dX3_reduce_76 rfl (lv_at hl 0 rfl) ?_
        refine lv_lconst (v := 0) hx hb dX3_reduce_77 (by decide) ?_
        refine lb_eq (tgt := 104) hx hb dX3_reduce_78 rfl dX3_reduce_79 (by decide) (fun c_6 => ?_) (fun c_6 => ?_)
        · skip
          have he : z3_reduce x y z = (x, y, z) := by unfold z3_reduce; rw [if_neg c_1, if_pos c_3, if_pos c_5, if_pos c_6]
          have he_0 : (z3_reduce x y z).1 = x := by rw [he]
          have he_1 : (z3_reduce x y z).2.1 = y := by rw [he]
          have he_2 : (z3_reduce x y z).2.2 = z := by rw [he]
          exact rt_v (w1 := fun uu : Unit => [kT h ((z3_reduce x y z).1) ((z3_reduce x y z).2.1) ((z3_reduce x y z).2.2)]) hx hb hr hlk hS dX3_reduce_104 (()) trivial (by rw [he_0, he_1, he_2]; exact hP) (by rw [he_0, he_1, he_2]; exact hD)
        · skip
          refine lv_aload_n hx hb dX3_reduce_82 rfl (lv_at hl 1 rfl) ?_
          refine lv_aload_n hx hb dX3_reduce_83 rfl (lv_at hl 1 rfl) ?_
          refine va_get (D := D) (ci := 3) (v := .long x) (C := RX3) (T := TX3) (N := 3) hx hb hts k_2 hown hK.1 hP 0 rfl rfl 0 (by decide) k_1 (fun _ h9 => h9) rfl dX3_reduce_84 ?_
          refine lv_lload_n hx hb dX3_reduce_87 rfl (lv_at hl 0 rfl) ?_
          refine lv_ldiv hx hb dX3_reduce_88 c_6 ?_
          refine lv_aload_n hx hb dX3_reduce_89 rfl (lv_at hl 1 rfl) ?_
          refine va_get (D := D) (ci := 3) (v := .long y) (C := RX3) (T := TX3) (N := 3) hx hb hts k_2 hown hK.1 hP 0 rfl rfl 1 (by decide) k_7 (fun _ h9 => h9) rfl dX3_reduce_90 ?_
          refine lv_lload_n hx hb dX3_reduce_93 rfl (lv_at hl 0 rfl) ?_
          refine lv_ldiv hx hb dX3_reduce_94 c_6 ?_
          refine lv_aload_n hx hb dX3_reduce_95 rfl (lv_at hl 1 rfl) ?_
          refine va_get (D := D) (ci := 3) (v := .long z) (C := RX3) (T := TX3) (N := 3) hx hb hts k_2 hown hK.1 hP 0 rfl rfl 2 (by decide) k_10 (fun _ h9 => h9) rfl dX3_reduce_96 ?_
          refine lv_lload_n hx hb dX3_reduce_99 rfl (lv_at hl 0 rfl) ?_
          refine lv_ldiv hx hb dX3_reduce_100 c_6 ?_
          have hPc := hP.sub (ws' := [kT h x y z]) [0] rfl
          have hDc := hD.sub (ws' := [kT h x y z]) [0] (by decide) rfl
          refine cl_v (wc := [kT h x y z]) (wr := []) (w1 := fun uu : Unit => [kT h (x / (-(z4_commonDivisor (z4_commonDivisor (lg_ab x) (lg_ab y)) (lg_ab z)))) (y / (-(z4_commonDivisor (z4_commonDivisor (lg_ab x) (lg_ab y)) (lg_ab z)))) (z / (-(z4_commonDivisor (z4_commonDivisor (lg_ab x) (lg_ab y)) (lg_ab z))))]) (wn := fun uu : Unit => [kT h (x / (-(z4_commonDivisor (z4_commonDivisor (lg_ab x) (lg_ab y)) (lg_ab z)))) (y / (-(z4_commonDivisor (z4_commonDivisor (lg_ab x) (lg_ab y)) (lg_ab z)))) (z / (-(z4_commonDivisor (z4_commonDivisor (lg_ab x) (lg_ab y)) (lg_ab z))))]) (va_runV (As := [.long (x / (-(z4_commonDivisor (z4_commonDivisor (lg_ab x) (lg_ab y)) (lg_ab z)))), .long (y / (-(z4_commonDivisor (z4_commonDivisor (lg_ab x) (lg_ab y)) (lg_ab z)))), .long (z / (-(z4_commonDivisor (z4_commonDivisor (lg_ab x) (lg_ab y)) (lg_ab z))))]) (rest := []) ⟨hx, hb, hml, hown, hts⟩ (c_X3_set l D cI cJ h x y z (x / (-(z4_commonDivisor (z4_commonDivisor (lg_ab x) (lg_ab y)) (lg_ab z)))) (y / (-(z4_commonDivisor (z4_commonDivisor (lg_ab x) (lg_ab y)) (lg_ab z)))) (z / (-(z4_commonDivisor (z4_commonDivisor (lg_ab x) (lg_ab y)) (lg_ab z)))) _) (cwV 3 hts gX3_reduce_X3_set rfl rfl rfl (by decide +kernel) ⟨Nat.le_of_ble_eq_true rfl, Nat.le_of_ble_eq_true rfl⟩) ⟨gd_blP, va_recv hK.1 hPc (ci := 3) (q0 := 0) rfl rfl, gd_prP hPc hK hDc⟩ rfl rfl hl.1 rfl (lv_room (Nat.le_of_ble_eq_true rfl)) dX3_reduce_101 ⟨Nat.zero_le _, Nat.zero_le _⟩) hP hD hS hA [0] [] rfl rfl (by decide) (by decide) [0] (by decide) (fun _ => rfl) (fun uG H locs hw hP hD hS => ?_)
          have hP : va_P D vwCl [kT h (x / (-(z4_commonDivisor (z4_commonDivisor (lg_ab x) (lg_ab y)) (lg_ab z)))) (y / (-(z4_commonDivisor (z4_commonDivisor (lg_ab x) (lg_ab y)) (lg_ab z)))) (z / (-(z4_commonDivisor (z4_commonDivisor (lg_ab x) (lg_ab y)) (lg_ab z))))] H := hP
          have hD : va_D A [kT h (x / (-(z4_commonDivisor (z4_commonDivisor (lg_ab x) (lg_ab y)) (lg_ab z)))) (y / (-(z4_commonDivisor (z4_commonDivisor (lg_ab x) (lg_ab y)) (lg_ab z)))) (z / (-(z4_commonDivisor (z4_commonDivisor (lg_ab x) (lg_ab y)) (lg_ab z))))] := hD
          clear hPc hDc
          have he : z3_reduce x y z = ((x / (-(z4_commonDivisor (z4_commonDivisor (lg_ab x) (lg_ab y)) (lg_ab z)))), (y / (-(z4_commonDivisor (z4_commonDivisor (lg_ab x) (lg_ab y)) (lg_ab z)))), (z / (-(z4_commonDivisor (z4_commonDivisor (lg_ab x) (lg_ab y)) (lg_ab z))))) := by unfold z3_reduce; rw [if_neg c_1, if_pos c_3, if_pos c_5, if_neg c_6]
          have he_0 : (z3_reduce x y z).1 = (x / (-(z4_commonDivisor (z4_commonDivisor (lg_ab x) (lg_ab y)) (lg_ab z)))) := by rw [he]
          have he_1 : (z3_reduce x y z).2.1 = (y / (-(z4_commonDivisor (z4_commonDivisor (lg_ab x) (lg_ab y)) (lg_ab z)))) := by rw [he]
          have he_2 : (z3_reduce x y z).2.2 = (z / (-(z4_commonDivisor (z4_commonDivisor (lg_ab x) (lg_ab y)) (lg_ab z)))) := by rw [he]
          exact rt_v (w1 := fun uu : Unit => [kT h ((z3_reduce x y z).1) ((z3_reduce x y z).2.1) ((z3_reduce x y z).2.2)]) hx hb hr hlk hS dX3_reduce_104 (()) trivial (by rw [he_0, he_1, he_2]; exact hP) (by rw [he_0, he_1, he_2]; exact hD)
      · skip
        refine lv_aload_n hx hb dX3_reduce_55 rfl (lv_at hl 1 rfl) ?_
        refine va_get (D := D) (ci := 3) (v := .long y) (C := RX3) (T := TX3) (N := 3) hx hb hts k_2 hown hK.1 hP 0 rfl rfl 1 (by decide) k_7 (fun _ h9 => h9) rfl dX3_reduce_56 ?_
        refine lv_lconst (v := 0) hx hb dX3_reduce_59 (by decide) ?_
        refine lb_ne (tgt := 76) hx hb dX3_reduce_60 rfl dX3_reduce_61 (by decide) (fun c_7 => ?_) (fun c_7 => ?_)
        · skip
          refine lv_lload_n hx hb dX3_reduce_76 rfl (lv_at hl 0 rfl) ?_
          refine lv_lconst (v := 0) hx hb dX3_reduce_77 (by decide) ?_
          refine lb_eq (tgt := 104) hx hb dX3_reduce_78 rfl dX3_reduce_79 (by decide) (fun c_8 => ?_) (fun c_8 => ?_)
          · skip
            have he : z3_reduce x y z = (x, y, z) := by unfold z3_reduce; rw [if_neg c_1, if_pos c_3, if_neg c_5, if_neg c_7, if_pos c_8]
            have he_0 : (z3_reduce x y z).1 = x := by rw [he]
            have he_1 : (z3_reduce x y z).2.1 = y := by rw [he]
            have he_2 : (z3_reduce x y z).2.2 = z := by rw [he]
            exact rt_v (w1 := fun uu : Unit => [kT h ((z3_reduce x y z).1) ((z3_reduce x y z).2.1) ((z3_reduce x y z).2.2)]) hx hb hr hlk hS dX3_reduce_104 (()) trivial (by rw [he_0, he_1, he_2]; exact hP) (by rw [he_0, he_1, he_2]; exact hD)
          · skip
            refine lv_aload_n hx hb dX3_reduce_82 rfl (lv_at hl 1 rfl) ?_
            refine lv_aload_n hx hb dX3_reduce_83 rfl (lv_at hl 1 rfl) ?_
            refine va_get (D := D) (ci := 3) (v := .long x) (C := RX3) (T := TX3) (N := 3) hx hb hts k_2 hown hK.1 hP 0 rfl rfl 0 (by decide) k_1 (fun _ h9 => h9) rfl dX3_reduce_84 ?_
            refine lv_lload_n hx hb dX3_reduce_87 rfl (lv_at hl 0 rfl) ?_
            refine lv_ldiv hx hb dX3_reduce_88 c_8 ?_
            refine lv_aload_n hx hb dX3_reduce_89 rfl (lv_at hl 1 rfl) ?_
            refine va_get (D := D) (ci := 3) (v := .long y) (C := RX3) (T := TX3) (N := 3) hx hb hts k_2 hown hK.1 hP 0 rfl rfl 1 (by decide) k_7 (fun _ h9 => h9) rfl dX3_reduce_90 ?_
            refine lv_lload_n hx hb dX3_reduce_93 rfl (lv_at hl 0 rfl) ?_
            refine lv_ldiv hx hb dX3_reduce_94 c_8 ?_
            refine lv_aload_n hx hb dX3_reduce_95 rfl (lv_at hl 1 rfl) ?_
            refine va_get (D := D) (ci := 3) (v := .long z) (C := RX3) (T := TX3) (N := 3) hx hb hts k_2 hown hK.1 hP 0 rfl rfl 2 (by decide) k_10 (fun _ h9 => h9) rfl dX3_reduce_96 ?_
            refine lv_lload_n hx hb dX3_reduce_99 rfl (lv_at hl 0 rfl) ?_
            refine lv_ldiv hx hb dX3_reduce_100 c_8 ?_
            have hPc := hP.sub (ws' := [kT h x y z]) [0] rfl
            have hDc := hD.sub (ws' := [kT h x y z]) [0] (by decide) rfl
            refine cl_v (wc := [kT h x y z]) (wr := []) (w1 := fun uu : Unit => [kT h (x / (z4_commonDivisor (z4_commonDivisor (lg_ab x) (lg_ab y)) (lg_ab z))) (y / (z4_commonDivisor (z4_commonDivisor (lg_ab x) (lg_ab y)) (lg_ab z))) (z / (z4_commonDivisor (z4_commonDivisor (lg_ab x) (lg_ab y)) (lg_ab z)))]) (wn := fun uu : Unit => [kT h (x / (z4_commonDivisor (z4_commonDivisor (lg_ab x) (lg_ab y)) (lg_ab z))) (y / (z4_commonDivisor (z4_commonDivisor (lg_ab x) (lg_ab y)) (lg_ab z))) (z / (z4_commonDivisor (z4_commonDivisor (lg_ab x) (lg_ab y)) (lg_ab z)))]) (va_runV (As := [.long (x / (z4_commonDivisor (z4_commonDivisor (lg_ab x) (lg_ab y)) (lg_ab z))), .long (y / (z4_commonDivisor (z4_commonDivisor (lg_ab x) (lg_ab y)) (lg_ab z))), .long (z / (z4_commonDivisor (z4_commonDivisor (lg_ab x) (lg_ab y)) (lg_ab z)))]) (rest := []) ⟨hx, hb, hml, hown, hts⟩ (c_X3_set l D cI cJ h x y z (x / (z4_commonDivisor (z4_commonDivisor (lg_ab x) (lg_ab y)) (lg_ab z))) (y / (z4_commonDivisor (z4_commonDivisor (lg_ab x) (lg_ab y)) (lg_ab z))) (z / (z4_commonDivisor (z4_commonDivisor (lg_ab x) (lg_ab y)) (lg_ab z))) _) (cwV 3 hts gX3_reduce_X3_set rfl rfl rfl (by decide +kernel) ⟨Nat.le_of_ble_eq_true rfl, Nat.le_of_ble_eq_true rfl⟩) ⟨gd_blP, va_recv hK.1 hPc (ci := 3) (q0 := 0) rfl rfl, gd_prP hPc hK hDc⟩ rfl rfl hl.1 rfl (lv_room (Nat.le_of_ble_eq_true rfl)) dX3_reduce_101 ⟨Nat.zero_le _, Nat.zero_le _⟩) hP hD hS hA [0] [] rfl rfl (by decide) (by decide) [0] (by decide) (fun _ => rfl) (fun uG H locs hw hP hD hS => ?_)
            have hP : va_P D vwCl [kT h (x / (z4_commonDivisor (z4_commonDivisor (lg_ab x) (lg_ab y)) (lg_ab z))) (y / (z4_commonDivisor (z4_commonDivisor (lg_ab x) (lg_ab y)) (lg_ab z))) (z / (z4_commonDivisor (z4_commonDivisor (lg_ab x) (lg_ab y)) (lg_ab z)))] H := hP
            have hD : va_D A [kT h (x / (z4_commonDivisor (z4_commonDivisor (lg_ab x) (lg_ab y)) (lg_ab z))) (y / (z4_commonDivisor (z4_commonDivisor (lg_ab x) (lg_ab y)) (lg_ab z))) (z / (z4_commonDivisor (z4_commonDivisor (lg_ab x) (lg_ab y)) (lg_ab z)))] := hD
            clear hPc hDc
            have he : z3_reduce x y z = ((x / (z4_commonDivisor (z4_commonDivisor (lg_ab x) (lg_ab y)) (lg_ab z))), (y / (z4_commonDivisor (z4_commonDivisor (lg_ab x) (lg_ab y)) (lg_ab z))), (z / (z4_commonDivisor (z4_commonDivisor (lg_ab x) (lg_ab y)) (lg_ab z)))) := by unfold z3_reduce; rw [if_neg c_1, if_pos c_3, if_neg c_5, if_neg c_7, if_neg c_8]
            have he_0 : (z3_reduce x y z).1 = (x / (z4_commonDivisor (z4_commonDivisor (lg_ab x) (lg_ab y)) (lg_ab z))) := by rw [he]
            have he_1 : (z3_reduce x y z).2.1 = (y / (z4_commonDivisor (z4_commonDivisor (lg_ab x) (lg_ab y)) (lg_ab z))) := by rw [he]
            have he_2 : (z3_reduce x y z).2.2 = (z / (z4_commonDivisor (z4_commonDivisor (lg_ab x) (lg_ab y)) (lg_ab z))) := by rw [he]
            exact rt_v (w1 := fun uu : Unit => [kT h ((z3_reduce x y z).1) ((z3_reduce x y z).2.1) ((z3_reduce x y z).2.2)]) hx hb hr hlk hS dX3_reduce_104 (()) trivial (by rw [he_0, he_1, he_2]; exact hP) (by rw [he_0, he_1, he_2]; exact hD)
        · skip
          refine lv_aload_n hx hb dX3_reduce_64 rfl (lv_at hl 1 rfl) ?_
          refine va_get (D := D) (ci := 3) (v := .long z) (C := RX3) (T := TX3) (N := 3) hx hb hts k_2 hown hK.1 hP 0 rfl rfl 2 (by decide) k_10 (fun _ h9 => h9) rfl dX3_reduce_65 ?_
          refine lv_lconst (v := 0) hx hb dX3_reduce_68 (by decide) ?_
          refine lb_ge (tgt := 76) hx hb dX3_reduce_69 rfl dX3_reduce_70 (by decide) (fun c_9 => ?_) (fun c_9 => ?_)
          · skip
            refine lv_lload_n hx hb dX3_reduce_76 rfl (lv_at hl 0 rfl) ?_
            refine lv_lconst (v := 0) hx hb dX3_reduce_77 (by decide) ?_
            refine lb_eq (tgt := 104) hx hb dX3_reduce_78 rfl dX3_reduce_79 (by decide) (fun c_10 => ?_) (fun c_10 => ?_)
            · skip
              have he : z3_reduce x y z = (x, y, z) := by unfold z3_reduce; rw [if_neg c_1, if_pos c_3, if_neg c_5, if_pos c_7, if_pos c_9, if_pos c_10]
              have he_0 : (z3_reduce x y z).1 = x := by rw [he]
              have he_1 : (z3_reduce x y z).2.1 = y := by rw [he]
              have he_2 : (z3_reduce x y z).2.2 = z := by rw [he]
              exact rt_v (w1 := fun uu : Unit => [kT h ((z3_reduce x y z).1) ((z3_reduce x y z).2.1) ((z3_reduce x y z).2.2)]) hx hb hr hlk hS dX3_reduce_104 (()) trivial (by rw [he_0, he_1, he_2]; exact hP) (by rw [he_0, he_1, he_2]; exact hD)
            · skip
              refine lv_aload_n hx hb dX3_reduce_82 rfl (lv_at hl 1 rfl) ?_
              refine lv_aload_n hx hb dX3_reduce_83 rfl (lv_at hl 1 rfl) ?_
              refine va_get (D := D) (ci := 3) (v := .long x) (C := RX3) (T := TX3) (N := 3) hx hb hts k_2 hown hK.1 hP 0 rfl rfl 0 (by decide) k_1 (fun _ h9 => h9) rfl dX3_reduce_84 ?_
              refine lv_lload_n hx hb dX3_reduce_87 rfl (lv_at hl 0 rfl) ?_
              refine lv_ldiv hx hb dX3_reduce_88 c_10 ?_
              refine lv_aload_n hx hb dX3_reduce_89 rfl (lv_at hl 1 rfl) ?_
              refine va_get (D := D) (ci := 3) (v := .long y) (C := RX3) (T := TX3) (N := 3) hx hb hts k_2 hown hK.1 hP 0 rfl rfl 1 (by decide) k_7 (fun _ h9 => h9) rfl dX3_reduce_90 ?_
              refine lv_lload_n hx hb dX3_reduce_93 rfl (lv_at hl 0 rfl) ?_
              refine lv_ldiv hx hb dX3_reduce_94 c_10 ?_
              refine lv_aload_n hx hb dX3_reduce_95 rfl (lv_at hl 1 rfl) ?_
              refine va_get (D := D) (ci := 3) (v := .long z) (C := RX3) (T := TX3) (N := 3) hx hb hts k_2 hown hK.1 hP 0 rfl rfl 2 (by decide) k_10 (fun _ h9 => h9) rfl dX3_reduce_96 ?_
              refine lv_lload_n hx hb dX3_reduce_99 rfl (lv_at hl 0 rfl) ?_
              refine lv_ldiv hx hb dX3_reduce_100 c_10 ?_
              have hPc := hP.sub (ws' := [kT h x y z]) [0] rfl
              have hDc := hD.sub (ws' := [kT h x y z]) [0] (by decide) rfl
              refine cl_v (wc := [kT h x y z]) (wr := []) (w1 := fun uu : Unit => [kT h (x / (z4_commonDivisor (z4_commonDivisor (lg_ab x) (lg_ab y)) (lg_ab z))) (y / (z4_commonDivisor (z4_commonDivisor (lg_ab x) (lg_ab y)) (lg_ab z))) (z / (z4_commonDivisor (z4_commonDivisor (lg_ab x) (lg_ab y)) (lg_ab z)))]) (wn := fun uu : Unit => [kT h (x / (z4_commonDivisor (z4_commonDivisor (lg_ab x) (lg_ab y)) (lg_ab z))) (y / (z4_commonDivisor (z4_commonDivisor (lg_ab x) (lg_ab y)) (lg_ab z))) (z / (z4_commonDivisor (z4_commonDivisor (lg_ab x) (lg_ab y)) (lg_ab z)))]) (va_runV (As := [.long (x / (z4_commonDivisor (z4_commonDivisor (lg_ab x) (lg_ab y)) (lg_ab z))), .long (y / (z4_commonDivisor (z4_commonDivisor (lg_ab x) (lg_ab y)) (lg_ab z))), .long (z / (z4_commonDivisor (z4_commonDivisor (lg_ab x) (lg_ab y)) (lg_ab z)))]) (rest := []) ⟨hx, hb, hml, hown, hts⟩ (c_X3_set l D cI cJ h x y z (x / (z4_commonDivisor (z4_commonDivisor (lg_ab x) (lg_ab y)) (lg_ab z))) (y / (z4_commonDivisor (z4_commonDivisor (lg_ab x) (lg_ab y)) (lg_ab z))) (z / (z4_commonDivisor (z4_commonDivisor (lg_ab x) (lg_ab y)) (lg_ab z))) _) (cwV 3 hts gX3_reduce_X3_set rfl rfl rfl (by decide +kernel) ⟨Nat.le_of_ble_eq_true rfl, Nat.le_of_ble_eq_true rfl⟩) ⟨gd_blP, va_recv hK.1 hPc (ci := 3) (q0 := 0) rfl rfl, gd_prP hPc hK hDc⟩ rfl rfl hl.1 rfl (lv_room (Nat.le_of_ble_eq_true rfl)) dX3_reduce_101 ⟨Nat.zero_le _, Nat.zero_le _⟩) hP hD hS hA [0] [] rfl rfl (by decide) (by decide) [0] (by decide) (fun _ => rfl) (fun uG H locs hw hP hD hS => ?_)
              have hP : va_P D vwCl [kT h (x / (z4_commonDivisor (z4_commonDivisor (lg_ab x) (lg_ab y)) (lg_ab z))) (y / (z4_commonDivisor (z4_commonDivisor (lg_ab x) (lg_ab y)) (lg_ab z))) (z / (z4_commonDivisor (z4_commonDivisor (lg_ab x) (lg_ab y)) (lg_ab z)))] H := hP
              have hD : va_D A [kT h (x / (z4_commonDivisor (z4_commonDivisor (lg_ab x) (lg_ab y)) (lg_ab z))) (y / (z4_commonDivisor (z4_commonDivisor (lg_ab x) (lg_ab y)) (lg_ab z))) (z / (z4_commonDivisor (z4_commonDivisor (lg_ab x) (lg_ab y)) (lg_ab z)))] := hD
              clear hPc hDc
              have he : z3_reduce x y z = ((x / (z4_commonDivisor (z4_commonDivisor (lg_ab x) (lg_ab y)) (lg_ab z))), (y / (z4_commonDivisor (z4_commonDivisor (lg_ab x) (lg_ab y)) (lg_ab z))), (z / (z4_commonDivisor (z4_commonDivisor (lg_ab x) (lg_ab y)) (lg_ab z)))) := by unfold z3_reduce; rw [if_neg c_1, if_pos c_3, if_neg c_5, if_pos c_7, if_pos c_9, if_neg c_10]
              have he_0 : (z3_reduce x y z).1 = (x / (z4_commonDivisor (z4_commonDivisor (lg_ab x) (lg_ab y)) (lg_ab z))) := by rw [he]
              have he_1 : (z3_reduce x y z).2.1 = (y / (z4_commonDivisor (z4_commonDivisor (lg_ab x) (lg_ab y)) (lg_ab z))) := by rw [he]
              have he_2 : (z3_reduce x y z).2.2 = (z / (z4_commonDivisor (z4_commonDivisor (lg_ab x) (lg_ab y)) (lg_ab z))) := by rw [he]
              exact rt_v (w1 := fun uu : Unit => [kT h ((z3_reduce x y z).1) ((z3_reduce x y z).2.1) ((z3_reduce x y z).2.2)]) hx hb hr hlk hS dX3_reduce_104 (()) trivial (by rw [he_0, he_1, he_2]; exact hP) (by rw [he_0, he_1, he_2]; exact hD)
          · skip
            refine lv_lload_n hx hb dX3_reduce_73 rfl (lv_at hl 0 rfl) ?_
            refine lv_lneg hx hb dX3_reduce_74 ?_
            refine lv_lstore_n (lv' := [(1, .long (-(z4_commonDivisor (z4_commonDivisor (lg_ab x) (lg_ab y)) (lg_ab z)))), (0, .ref h)]) hx hb dX3_reduce_75 rfl hl (by decide) rfl (fun ls hl => ?_)
            refine lv_lload_n hx hb dX3_reduce_76 rfl (lv_at hl 0 rfl) ?_
            refine lv_lconst (v := 0) hx hb dX3_reduce_77 (by decide) ?_
            refine lb_eq (tgt := 104) hx hb dX3_reduce_78 rfl dX3_reduce_79 (by decide) (fun c_11 => ?_) (fun c_11 => ?_)
            · skip
              have he : z3_reduce x y z = (x, y, z) := by unfold z3_reduce; rw [if_neg c_1, if_pos c_3, if_neg c_5, if_pos c_7, if_neg c_9, if_pos c_11]
              have he_0 : (z3_reduce x y z).1 = x := by rw [he]
              have he_1 : (z3_reduce x y z).2.1 = y := by rw [he]
              have he_2 : (z3_reduce x y z).2.2 = z := by rw [he]
              exact rt_v (w1 := fun uu : Unit => [kT h ((z3_reduce x y z).1) ((z3_reduce x y z).2.1) ((z3_reduce x y z).2.2)]) hx hb hr hlk hS dX3_reduce_104 (()) trivial (by rw [he_0, he_1, he_2]; exact hP) (by rw [he_0, he_1, he_2]; exact hD)
            · skip
              refine lv_aload_n hx hb dX3_reduce_82 rfl (lv_at hl 1 rfl) ?_
              refine lv_aload_n hx hb dX3_reduce_83 rfl (lv_at hl 1 rfl) ?_
              refine va_get (D := D) (ci := 3) (v := .long x) (C := RX3) (T := TX3) (N := 3) hx hb hts k_2 hown hK.1 hP 0 rfl rfl 0 (by decide) k_1 (fun _ h9 => h9) rfl dX3_reduce_84 ?_
              refine lv_lload_n hx hb dX3_reduce_87 rfl (lv_at hl 0 rfl) ?_
              refine lv_ldiv hx hb dX3_reduce_88 c_11 ?_
              refine lv_aload_n hx hb dX3_reduce_89 rfl (lv_at hl 1 rfl) ?_
              refine va_get (D := D) (ci := 3) (v := .long y) (C := RX3) (T := TX3) (N := 3) hx hb hts k_2 hown hK.1 hP 0 rfl rfl 1 (by decide) k_7 (fun _ h9 => h9) rfl dX3_reduce_90 ?_
              refine lv_lload_n hx hb dX3_reduce_93 rfl (lv_at hl 0 rfl) ?_
              refine lv_ldiv hx hb dX3_reduce_94 c_11 ?_
              refine lv_aload_n hx hb dX3_reduce_95 rfl (lv_at hl 1 rfl) ?_
              refine va_get (D := D) (ci := 3) (v := .long z) (C := RX3) (T := TX3) (N := 3) hx hb hts k_2 hown hK.1 hP 0 rfl rfl 2 (by decide) k_10 (fun _ h9 => h9) rfl dX3_reduce_96 ?_
              refine lv_lload_n hx hb dX3_reduce_99 rfl (lv_at hl 0 rfl) ?_
              refine lv_ldiv hx hb dX3_reduce_100 c_11 ?_
              have hPc := hP.sub (ws' := [kT h x y z]) [0] rfl
              have hDc := hD.sub (ws' := [kT h x y z]) [0] (by decide) rfl
              refine cl_v (wc := [kT h x y z]) (wr := []) (w1 := fun uu : Unit => [kT h (x / (-(z4_commonDivisor (z4_commonDivisor (lg_ab x) (lg_ab y)) (lg_ab z)))) (y / (-(z4_commonDivisor (z4_commonDivisor (lg_ab x) (lg_ab y)) (lg_ab z)))) (z / (-(z4_commonDivisor (z4_commonDivisor (lg_ab x) (lg_ab y)) (lg_ab z))))]) (wn := fun uu : Unit => [kT h (x / (-(z4_commonDivisor (z4_commonDivisor (lg_ab x) (lg_ab y)) (lg_ab z)))) (y / (-(z4_commonDivisor (z4_commonDivisor (lg_ab x) (lg_ab y)) (lg_ab z)))) (z / (-(z4_commonDivisor (z4_commonDivisor (lg_ab x) (lg_ab y)) (lg_ab z))))]) (va_runV (As := [.long (x / (-(z4_commonDivisor (z4_commonDivisor (lg_ab x) (lg_ab y)) (lg_ab z)))), .long (y / (-(z4_commonDivisor (z4_commonDivisor (lg_ab x) (lg_ab y)) (lg_ab z)))), .long (z / (-(z4_commonDivisor (z4_commonDivisor (lg_ab x) (lg_ab y)) (lg_ab z))))]) (rest := []) ⟨hx, hb, hml, hown, hts⟩ (c_X3_set l D cI cJ h x y z (x / (-(z4_commonDivisor (z4_commonDivisor (lg_ab x) (lg_ab y)) (lg_ab z)))) (y / (-(z4_commonDivisor (z4_commonDivisor (lg_ab x) (lg_ab y)) (lg_ab z)))) (z / (-(z4_commonDivisor (z4_commonDivisor (lg_ab x) (lg_ab y)) (lg_ab z)))) _) (cwV 3 hts gX3_reduce_X3_set rfl rfl rfl (by decide +kernel) ⟨Nat.le_of_ble_eq_true rfl, Nat.le_of_ble_eq_true rfl⟩) ⟨gd_blP, va_recv hK.1 hPc (ci := 3) (q0 := 0) rfl rfl, gd_prP hPc hK hDc⟩ rfl rfl hl.1 rfl (lv_room (Nat.le_of_ble_eq_true rfl)) dX3_reduce_101 ⟨Nat.zero_le _, Nat.zero_le _⟩) hP hD hS hA [0] [] rfl rfl (by decide) (by decide) [0] (by decide) (fun _ => rfl) (fun uG H locs hw hP hD hS => ?_)
              have hP : va_P D vwCl [kT h (x / (-(z4_commonDivisor (z4_commonDivisor (lg_ab x) (lg_ab y)) (lg_ab z)))) (y / (-(z4_commonDivisor (z4_commonDivisor (lg_ab x) (lg_ab y)) (lg_ab z)))) (z / (-(z4_commonDivisor (z4_commonDivisor (lg_ab x) (lg_ab y)) (lg_ab z))))] H := hP
              have hD : va_D A [kT h (x / (-(z4_commonDivisor (z4_commonDivisor (lg_ab x) (lg_ab y)) (lg_ab z)))) (y / (-(z4_commonDivisor (z4_commonDivisor (lg_ab x) (lg_ab y)) (lg_ab z)))) (z / (-(z4_commonDivisor (z4_commonDivisor (lg_ab x) (lg_ab y)) (lg_ab z))))] := hD
              clear hPc hDc
              have he : z3_reduce x y z = ((x / (-(z4_commonDivisor (z4_commonDivisor (lg_ab x) (lg_ab y)) (lg_ab z)))), (y / (-(z4_commonDivisor (z4_commonDivisor (lg_ab x) (lg_ab y)) (lg_ab z)))), (z / (-(z4_commonDivisor (z4_commonDivisor (lg_ab x) (lg_ab y)) (lg_ab z))))) := by unfold z3_reduce; rw [if_neg c_1, if_pos c_3, if_neg c_5, if_pos c_7, if_neg c_9, if_neg c_11]
              have he_0 : (z3_reduce x y z).1 = (x / (-(z4_commonDivisor (z4_commonDivisor (lg_ab x) (lg_ab y)) (lg_ab z)))) := by rw [he]
              have he_1 : (z3_reduce x y z).2.1 = (y / (-(z4_commonDivisor (z4_commonDivisor (lg_ab x) (lg_ab y)) (lg_ab z)))) := by rw [he]
              have he_2 : (z3_reduce x y z).2.2 = (z / (-(z4_commonDivisor (z4_commonDivisor (lg_ab x) (lg_ab y)) (lg_ab z)))) := by rw [he]
              exact rt_v (w1 := fun uu : Unit => [kT h ((z3_reduce x y z).1) ((z3_reduce x y z).2.1) ((z3_reduce x y z).2.2)]) hx hb hr hlk hS dX3_reduce_104 (()) trivial (by rw [he_0, he_1, he_2]; exact hP) (by rw [he_0, he_1, he_2]; exact hD)
def z0_reduce_v1 (a : Int64) (b : Int64) (c : Int64) (d : Int64) (e : Int64) : Int64 := z4_commonDivisor (z4_commonDivisor (z4_commonDivisor (z4_commonDivisor (lg_ab a) (lg_ab b)) (lg_ab c)) (lg_ab d)) (lg_ab e)
def z0_reduce (a : Int64) (b : Int64) (c : Int64) (d : Int64) (e : Int64) (f : Int64) : Int64 × Int64 × Int64 × Int64 × Int64 × Int64 := if 0 ≤ (z0_firstNumber a b c d e f) then if (z4_commonDivisor (z0_reduce_v1 a b c d e) (lg_ab f)) = 0 then (a, b, c, d, e, f) else ((a / (z4_commonDivisor (z0_reduce_v1 a b c d e) (lg_ab f))), (b / (z4_commonDivisor (z0_reduce_v1 a b c d e) (lg_ab f))), (c / (z4_commonDivisor (z0_reduce_v1 a b c d e) (lg_ab f))), (d / (z4_commonDivisor (z0_reduce_v1 a b c d e) (lg_ab f))), (e / (z4_commonDivisor (z0_reduce_v1 a b c d e) (lg_ab f))), (f / (z4_commonDivisor (z0_reduce_v1 a b c d e) (lg_ab f)))) else if (-(z4_commonDivisor (z0_reduce_v1 a b c d e) (lg_ab f))) = 0 then (a, b, c, d, e, f) else ((a / (-(z4_commonDivisor (z0_reduce_v1 a b c d e) (lg_ab f)))), (b / (-(z4_commonDivisor (z0_reduce_v1 a b c d e) (lg_ab f)))), (c / (-(z4_commonDivisor (z0_reduce_v1 a b c d e) (lg_ab f)))), (d / (-(z4_commonDivisor (z0_reduce_v1 a b c d e) (lg_ab f)))), (e / (-(z4_commonDivisor (z0_reduce_v1 a b c d e) (lg_ab f)))), (f / (-(z4_commonDivisor (z0_reduce_v1 a b c d e) (lg_ab f)))))
set_option maxHeartbeats 4000000 in
set_option maxRecDepth 100000 in
/-- X0.reduce -/
theorem c_X0_reduce (l : Launch) (D : va_G) (cI cJ : ClassId) (h : Nat) (a : Int64) (b : Int64) (c : Int64) (d : Int64) (e : Int64) (f : Int64) : mw_C l yX0_reduce wsX0_reduce ({ frames := 1, cells := 0, slots := 0, locals := 30 }) D cI cJ [.ref h] [kF h a b c d e f] (qe_v (fun _ : Unit => True) (fun uu => [kF h ((z0_reduce a b c d e f).1) ((z0_reduce a b c d e f).2.1) ((z0_reduce a b c d e f).2.2.1) ((z0_reduce a b c d e f).2.2.2.1) ((z0_reduce a b c d e f).2.2.2.2.1) ((z0_reduce a b c d e f).2.2.2.2.2)])) := by
  refine mw_in (cc := cX0_reduce) (lv := [(0, .ref h)]) (by decide) rfl (Nat.le_of_ble_eq_true rfl) rfl ?_
  intro pG eG sG mG below meth cG ls A hx hb hr hml hown hts hlk hin hP hK hD hA hS hl
  have hown : sG.vm.findClass RX0 = some mG.cls := hown
  have k_1 := hts (.fieldLink RX0 7 "ConicRows$Form" "a" "J") (by decide +kernel)
  have k_2 : ∀ w ∈ wsX00, w ∈ wsX0_reduce := by decide +kernel
  have k_3 := hts (.methodLink RX0 60 Lib.MathLoose.abs_long.x) (by decide +kernel)
  have k_4 := hts (.static Lib.MathLoose.abs_long.x) (by decide +kernel)
  have k_5 := hts (.initialized "java/lang/Math") (by decide +kernel)
  have k_6 := hts (.code Lib.MathLoose.abs_long.x Lib.MathLoose.abs_long.code 2 (some .long)) (by decide +kernel)
  have k_7 := hts (.fieldLink RX0 13 "ConicRows$Form" "b" "J") (by decide +kernel)
  have k_8 := hts (.initialized RX4) (by decide +kernel)
  have k_9 := hts (.static yX4_commonDivisor) (by decide +kernel)
  have k_10 := hts (.fieldLink RX0 16 "ConicRows$Form" "c" "J") (by decide +kernel)
  have k_11 := hts (.fieldLink RX0 19 "ConicRows$Form" "d" "J") (by decide +kernel)
  have k_12 := hts (.fieldLink RX0 22 "ConicRows$Form" "e" "J") (by decide +kernel)
  have k_13 := hts (.fieldLink RX0 25 "ConicRows$Form" "f" "J") (by decide +kernel)
  refine lv_aload_n hx hb dX0_reduce_0 rfl (lv_at hl 0 rfl) ?_
  refine va_get (D := D) (ci := 0) (v := .long a) (C := RX0) (T := TX0) (N := 6) hx hb hts k_2 hown hK.1 hP 0 rfl rfl 0 (by decide) k_1 (fun _ h9 => h9) rfl dX0_reduce_1 ?_
  refine va_mabs_long hx hb (hml.trans hl.1.symm) hown k_3 k_4 k_5 k_6 (Nat.le_of_ble_eq_true rfl) (Nat.le_of_ble_eq_true rfl) (Nat.zero_le _) (Nat.zero_le _) dX0_reduce_4 ?_
  refine lv_aload_n hx hb dX0_reduce_7 rfl (lv_at hl 0 rfl) ?_
  refine va_get (D := D) (ci := 0) (v := .long b) (C := RX0) (T := TX0) (N := 6) hx hb hts k_2 hown hK.1 hP 0 rfl rfl 1 (by decide) k_7 (fun _ h9 => h9) rfl dX0_reduce_8 ?_
  refine va_mabs_long hx hb (hml.trans hl.1.symm) hown k_3 k_4 k_5 k_6 (Nat.le_of_ble_eq_true rfl) (Nat.le_of_ble_eq_true rfl) (Nat.zero_le _) (Nat.zero_le _) dX0_reduce_11 ?_
  have hPc := hP.sub (ws' := []) [] rfl
  refine cr_l (va_runSN (As := [.long (lg_ab a), .long (lg_ab b)]) (rest := []) ⟨hx, hb, hml, hown, hts⟩ (c_X4_commonDivisor l D cI cJ (lg_ab a) (lg_ab b)) ⟨va_cnB 2 hts gX0_reduce_X4_commonDivisor_n66 rfl rfl rfl (nw_m hK.2 6 rfl) k_8 (by decide +kernel) ⟨Nat.le_of_ble_eq_true rfl, Nat.le_of_ble_eq_true rfl⟩, k_9, trivial⟩ ⟨gd_blR, gd_prR hPc hK⟩ rfl rfl hl.1 rfl (lv_room (Nat.le_of_ble_eq_true rfl)) dX0_reduce_14 ⟨Nat.zero_le _, Nat.zero_le _⟩) (fun r_14 hw => ?_)
  subst hw
  clear hPc
  refine lv_aload_n hx hb dX0_reduce_17 rfl (lv_at hl 0 rfl) ?_
  refine va_get (D := D) (ci := 0) (v := .long c) (C := RX0) (T := TX0) (N := 6) hx hb hts k_2 hown hK.1 hP 0 rfl rfl 2 (by decide) k_10 (fun _ h9 => h9) rfl dX0_reduce_18 ?_
  refine va_mabs_long hx hb (hml.trans hl.1.symm) hown k_3 k_4 k_5 k_6 (Nat.le_of_ble_eq_true rfl) (Nat.le_of_ble_eq_true rfl) (Nat.zero_le _) (Nat.zero_le _) dX0_reduce_21 ?_
  have hPc := hP.sub (ws' := []) [] rfl
  refine cr_l (va_runSN (As := [.long (z4_commonDivisor (lg_ab a) (lg_ab b)), .long (lg_ab c)]) (rest := []) ⟨hx, hb, hml, hown, hts⟩ (c_X4_commonDivisor l D cI cJ (z4_commonDivisor (lg_ab a) (lg_ab b)) (lg_ab c)) ⟨va_cnB 2 hts gX0_reduce_X4_commonDivisor_n66 rfl rfl rfl (nw_m hK.2 6 rfl) k_8 (by decide +kernel) ⟨Nat.le_of_ble_eq_true rfl, Nat.le_of_ble_eq_true rfl⟩, k_9, trivial⟩ ⟨gd_blR, gd_prR hPc hK⟩ rfl rfl hl.1 rfl (lv_room (Nat.le_of_ble_eq_true rfl)) dX0_reduce_24 ⟨Nat.zero_le _, Nat.zero_le _⟩) (fun r_24 hw => ?_)
  subst hw
  clear hPc
  refine lv_lstore_n (lv' := [(1, .long (z4_commonDivisor (z4_commonDivisor (lg_ab a) (lg_ab b)) (lg_ab c))), (0, .ref h)]) hx hb dX0_reduce_27 rfl hl (by decide) rfl (fun ls hl => ?_)
  refine lv_lload_n hx hb dX0_reduce_28 rfl (lv_at hl 0 rfl) ?_
  refine lv_aload_n hx hb dX0_reduce_29 rfl (lv_at hl 1 rfl) ?_
  refine va_get (D := D) (ci := 0) (v := .long d) (C := RX0) (T := TX0) (N := 6) hx hb hts k_2 hown hK.1 hP 0 rfl rfl 3 (by decide) k_11 (fun _ h9 => h9) rfl dX0_reduce_30 ?_
  refine va_mabs_long hx hb (hml.trans hl.1.symm) hown k_3 k_4 k_5 k_6 (Nat.le_of_ble_eq_true rfl) (Nat.le_of_ble_eq_true rfl) (Nat.zero_le _) (Nat.zero_le _) dX0_reduce_33 ?_
  have hPc := hP.sub (ws' := []) [] rfl
  refine cr_l (va_runSN (As := [.long (z4_commonDivisor (z4_commonDivisor (lg_ab a) (lg_ab b)) (lg_ab c)), .long (lg_ab d)]) (rest := []) ⟨hx, hb, hml, hown, hts⟩ (c_X4_commonDivisor l D cI cJ (z4_commonDivisor (z4_commonDivisor (lg_ab a) (lg_ab b)) (lg_ab c)) (lg_ab d)) ⟨va_cnB 2 hts gX0_reduce_X4_commonDivisor_n66 rfl rfl rfl (nw_m hK.2 6 rfl) k_8 (by decide +kernel) ⟨Nat.le_of_ble_eq_true rfl, Nat.le_of_ble_eq_true rfl⟩, k_9, trivial⟩ ⟨gd_blR, gd_prR hPc hK⟩ rfl rfl hl.1 rfl (lv_room (Nat.le_of_ble_eq_true rfl)) dX0_reduce_36 ⟨Nat.zero_le _, Nat.zero_le _⟩) (fun r_36 hw => ?_)
  subst hw
  clear hPc
  refine lv_aload_n hx hb dX0_reduce_39 rfl (lv_at hl 1 rfl) ?_
  refine va_get (D := D) (ci := 0) (v := .long e) (C := RX0) (T := TX0) (N := 6) hx hb hts k_2 hown hK.1 hP 0 rfl rfl 4 (by decide) k_12 (fun _ h9 => h9) rfl dX0_reduce_40 ?_
  refine va_mabs_long hx hb (hml.trans hl.1.symm) hown k_3 k_4 k_5 k_6 (Nat.le_of_ble_eq_true rfl) (Nat.le_of_ble_eq_true rfl) (Nat.zero_le _) (Nat.zero_le _) dX0_reduce_43 ?_
  have hPc := hP.sub (ws' := []) [] rfl
  refine cr_l (va_runSN (As := [.long (z4_commonDivisor (z4_commonDivisor (z4_commonDivisor (lg_ab a) (lg_ab b)) (lg_ab c)) (lg_ab d)), .long (lg_ab e)]) (rest := []) ⟨hx, hb, hml, hown, hts⟩ (c_X4_commonDivisor l D cI cJ (z4_commonDivisor (z4_commonDivisor (z4_commonDivisor (lg_ab a) (lg_ab b)) (lg_ab c)) (lg_ab d)) (lg_ab e)) ⟨va_cnB 2 hts gX0_reduce_X4_commonDivisor_n66 rfl rfl rfl (nw_m hK.2 6 rfl) k_8 (by decide +kernel) ⟨Nat.le_of_ble_eq_true rfl, Nat.le_of_ble_eq_true rfl⟩, k_9, trivial⟩ ⟨gd_blR, gd_prR hPc hK⟩ rfl rfl hl.1 rfl (lv_room (Nat.le_of_ble_eq_true rfl)) dX0_reduce_46 ⟨Nat.zero_le _, Nat.zero_le _⟩) (fun r_46 hw => ?_)
  subst hw
  clear hPc
  refine lv_eql (v := z0_reduce_v1 a b c d e) (by delta z0_reduce_v1; rfl) ?_
  refine lv_lstore_n (lv' := [(1, .long (z0_reduce_v1 a b c d e)), (0, .ref h)]) hx hb dX0_reduce_49 rfl hl (by decide) rfl (fun ls hl => ?_)
  refine lv_lload_n hx hb dX0_reduce_50 rfl (lv_at hl 0 rfl) ?_
  refine lv_aload_n hx hb dX0_reduce_51 rfl (lv_at hl 1 rfl) ?_
  refine va_get (D := D) (ci := 0) (v := .long f) (C := RX0) (T := TX0) (N := 6) hx hb hts k_2 hown hK.1 hP 0 rfl rfl 5 (by decide) k_13 (fun _ h9 => h9) rfl dX0_reduce_52 ?_
  refine va_mabs_long hx hb (hml.trans hl.1.symm) hown k_3 k_4 k_5 k_6 (Nat.le_of_ble_eq_true rfl) (Nat.le_of_ble_eq_true rfl) (Nat.zero_le _) (Nat.zero_le _) dX0_reduce_55 ?_
  have hPc := hP.sub (ws' := []) [] rfl
  refine cr_l (va_runSN (As := [.long (z0_reduce_v1 a b c d e), .long (lg_ab f)]) (rest := []) ⟨hx, hb, hml, hown, hts⟩ (c_X4_commonDivisor l D cI cJ (z0_reduce_v1 a b c d e) (lg_ab f)) ⟨va_cnB 2 hts gX0_reduce_X4_commonDivisor_n66 rfl rfl rfl (nw_m hK.2 6 rfl) k_8 (by decide +kernel) ⟨Nat.le_of_ble_eq_true rfl, Nat.le_of_ble_eq_true rfl⟩, k_9, trivial⟩ ⟨gd_blR, gd_prR hPc hK⟩ rfl rfl hl.1 rfl (lv_room (Nat.le_of_ble_eq_true rfl)) dX0_reduce_58 ⟨Nat.zero_le _, Nat.zero_le _⟩) (fun r_58 hw => ?_)
  subst hw
  clear hPc
  refine lv_lstore_n (lv' := [(1, .long (z4_commonDivisor (z0_reduce_v1 a b c d e) (lg_ab f))), (0, .ref h)]) hx hb dX0_reduce_61 rfl hl (by decide) rfl (fun ls hl => ?_)
  refine lv_aload_n hx hb dX0_reduce_62 rfl (lv_at hl 1 rfl) ?_
  have hPc := hP.sub (ws' := [kF h a b c d e f]) [0] rfl
  refine cr_l (va_runV (As := []) (rest := []) ⟨hx, hb, hml, hown, hts⟩ (c_X0_firstNumber l D cI cJ h a b c d e f) (cwV 0 hts gX0_reduce_X0_firstNumber rfl rfl rfl (by decide +kernel) ⟨Nat.le_of_ble_eq_true rfl, Nat.le_of_ble_eq_true rfl⟩) ⟨gd_blR, va_recv hK.1 hPc (ci := 0) (q0 := 0) rfl rfl, gd_prR hPc hK⟩ rfl rfl hl.1 rfl (lv_room (Nat.le_of_ble_eq_true rfl)) dX0_reduce_63 ⟨Nat.zero_le _, Nat.zero_le _⟩) (fun r_63 hw => ?_)
  subst hw
  clear hPc
  refine lv_lconst (v := 0) hx hb dX0_reduce_66 (by decide) ?_
  refine lb_ge (tgt := 74) hx hb dX0_reduce_67 rfl dX0_reduce_68 (by decide) (fun c_1 => ?_) (fun c_1 => ?_)
  · skip
    refine lv_lload_n hx hb dX0_reduce_74 rfl (lv_at hl 0 rfl) ?_
    refine lv_lconst (v := 0) hx hb dX0_reduce_75 (by decide) ?_
    refine lb_eq (tgt := 124) hx hb dX0_reduce_76 rfl dX0_reduce_77 (by decide) (fun c_2 => ?_) (fun c_2 => ?_)
    · skip
      have he : z0_reduce a b c d e f = (a, b, c, d, e, f) := by unfold z0_reduce; rw [if_pos c_1, if_pos c_2]
      have he_0 : (z0_reduce a b c d e f).1 = a := by rw [he]
      have he_1 : (z0_reduce a b c d e f).2.1 = b := by rw [he]
      have he_2 : (z0_reduce a b c d e f).2.2.1 = c := by rw [he]
      have he_3 : (z0_reduce a b c d e f).2.2.2.1 = d := by rw [he]
      have he_4 : (z0_reduce a b c d e f).2.2.2.2.1 = e := by rw [he]
      have he_5 : (z0_reduce a b c d e f).2.2.2.2.2 = f := by rw [he]
      exact rt_v (w1 := fun uu : Unit => [kF h ((z0_reduce a b c d e f).1) ((z0_reduce a b c d e f).2.1) ((z0_reduce a b c d e f).2.2.1) ((z0_reduce a b c d e f).2.2.2.1) ((z0_reduce a b c d e f).2.2.2.2.1) ((z0_reduce a b c d e f).2.2.2.2.2)]) hx hb hr hlk hS dX0_reduce_124 (()) trivial (by rw [he_0, he_1, he_2, he_3, he_4, he_5]; exact hP) (by rw [he_0, he_1, he_2, he_3, he_4, he_5]; exact hD)
    · skip
      refine lv_aload_n hx hb dX0_reduce_80 rfl (lv_at hl 1 rfl) ?_
      refine lv_aload_n hx hb dX0_reduce_81 rfl (lv_at hl 1 rfl) ?_
      refine va_get (D := D) (ci := 0) (v := .long a) (C := RX0) (T := TX0) (N := 6) hx hb hts k_2 hown hK.1 hP 0 rfl rfl 0 (by decide) k_1 (fun _ h9 => h9) rfl dX0_reduce_82 ?_
      refine lv_lload_n hx hb dX0_reduce_85 rfl (lv_at hl 0 rfl) ?_
      refine lv_ldiv hx hb dX0_reduce_86 c_2 ?_
      refine lv_aload_n hx hb dX0_reduce_87 rfl (lv_at hl 1 rfl) ?_
      refine va_get (D := D) (ci := 0) (v := .long b) (C := RX0) (T := TX0) (N := 6) hx hb hts k_2 hown hK.1 hP 0 rfl rfl 1 (by decide) k_7 (fun _ h9 => h9) rfl dX0_reduce_88 ?_
      refine lv_lload_n hx hb dX0_reduce_91 rfl (lv_at hl 0 rfl) ?_
      refine lv_ldiv hx hb dX0_reduce_92 c_2 ?_
      refine lv_aload_n hx hb dX0_reduce_93 rfl (lv_at hl 1 rfl) ?_
      refine va_get (D := D) (ci := 0) (v := .long c) (C := RX0) (T := TX0) (N := 6) hx hb hts k_2 hown hK.1 hP 0 rfl rfl 2 (by decide) k_10 (fun _ h9 => h9) rfl dX0_reduce_94 ?_
      refine lv_lload_n hx hb dX0_reduce_97 rfl (lv_at hl 0 rfl) ?_
      refine lv_ldiv hx hb dX0_reduce_98 c_2 ?_
      have hPc := hP.sub (ws' := [kF h a b c d e f]) [0] rfl
      have hDc := hD.sub (ws' := [kF h a b c d e f]) [0] (by decide) rfl
      refine cl_v (wc := [kF h a b c d e f]) (wr := []) (w1 := fun uu : Unit => [kF h (a / (z4_commonDivisor (z0_reduce_v1 a b c d e) (lg_ab f))) (b / (z4_commonDivisor (z0_reduce_v1 a b c d e) (lg_ab f))) (c / (z4_commonDivisor (z0_reduce_v1 a b c d e) (lg_ab f))) d e f]) (wn := fun uu : Unit => [kF h (a / (z4_commonDivisor (z0_reduce_v1 a b c d e) (lg_ab f))) (b / (z4_commonDivisor (z0_reduce_v1 a b c d e) (lg_ab f))) (c / (z4_commonDivisor (z0_reduce_v1 a b c d e) (lg_ab f))) d e f]) (va_runV (As := [.long (a / (z4_commonDivisor (z0_reduce_v1 a b c d e) (lg_ab f))), .long (b / (z4_commonDivisor (z0_reduce_v1 a b c d e) (lg_ab f))), .long (c / (z4_commonDivisor (z0_reduce_v1 a b c d e) (lg_ab f)))]) (rest := []) ⟨hx, hb, hml, hown, hts⟩ (c_X0_setQuadratic l D cI cJ h a b c d e f (a / (z4_commonDivisor (z0_reduce_v1 a b c d e) (lg_ab f))) (b / (z4_commonDivisor (z0_reduce_v1 a b c d e) (lg_ab f))) (c / (z4_commonDivisor (z0_reduce_v1 a b c d e) (lg_ab f))) _) (cwV 3 hts gX0_reduce_X0_setQuadratic rfl rfl rfl (by decide +kernel) ⟨Nat.le_of_ble_eq_true rfl, Nat.le_of_ble_eq_true rfl⟩) ⟨gd_blP, va_recv hK.1 hPc (ci := 0) (q0 := 0) rfl rfl, gd_prP hPc hK hDc⟩ rfl rfl hl.1 rfl (lv_room (Nat.le_of_ble_eq_true rfl)) dX0_reduce_99 ⟨Nat.zero_le _, Nat.zero_le _⟩) hP hD hS hA [0] [] rfl rfl (by decide) (by decide) [0] (by decide) (fun _ => rfl) (fun uG H locs hw hP hD hS => ?_)
      have hP : va_P D vwCl [kF h (a / (z4_commonDivisor (z0_reduce_v1 a b c d e) (lg_ab f))) (b / (z4_commonDivisor (z0_reduce_v1 a b c d e) (lg_ab f))) (c / (z4_commonDivisor (z0_reduce_v1 a b c d e) (lg_ab f))) d e f] H := hP
      have hD : va_D A [kF h (a / (z4_commonDivisor (z0_reduce_v1 a b c d e) (lg_ab f))) (b / (z4_commonDivisor (z0_reduce_v1 a b c d e) (lg_ab f))) (c / (z4_commonDivisor (z0_reduce_v1 a b c d e) (lg_ab f))) d e f] := hD
      clear hPc hDc
      refine lv_aload_n hx hb dX0_reduce_102 rfl (lv_at hl 1 rfl) ?_
      refine lv_aload_n hx hb dX0_reduce_103 rfl (lv_at hl 1 rfl) ?_
      refine va_get (D := D) (ci := 0) (v := .long d) (C := RX0) (T := TX0) (N := 6) hx hb hts k_2 hown hK.1 hP 0 rfl rfl 3 (by decide) k_11 (fun _ h9 => h9) rfl dX0_reduce_104 ?_
      refine lv_lload_n hx hb dX0_reduce_107 rfl (lv_at hl 0 rfl) ?_
      refine lv_ldiv hx hb dX0_reduce_108 c_2 ?_
      refine lv_aload_n hx hb dX0_reduce_109 rfl (lv_at hl 1 rfl) ?_
      refine va_get (D := D) (ci := 0) (v := .long e) (C := RX0) (T := TX0) (N := 6) hx hb hts k_2 hown hK.1 hP 0 rfl rfl 4 (by decide) k_12 (fun _ h9 => h9) rfl dX0_reduce_110 ?_
      refine lv_lload_n hx hb dX0_reduce_113 rfl (lv_at hl 0 rfl) ?_
      refine lv_ldiv hx hb dX0_reduce_114 c_2 ?_
      refine lv_aload_n hx hb dX0_reduce_115 rfl (lv_at hl 1 rfl) ?_
      refine va_get (D := D) (ci := 0) (v := .long f) (C := RX0) (T := TX0) (N := 6) hx hb hts k_2 hown hK.1 hP 0 rfl rfl 5 (by decide) k_13 (fun _ h9 => h9) rfl dX0_reduce_116 ?_
      refine lv_lload_n hx hb dX0_reduce_119 rfl (lv_at hl 0 rfl) ?_
      refine lv_ldiv hx hb dX0_reduce_120 c_2 ?_
      have hPc := hP.sub (ws' := [kF h (a / (z4_commonDivisor (z0_reduce_v1 a b c d e) (lg_ab f))) (b / (z4_commonDivisor (z0_reduce_v1 a b c d e) (lg_ab f))) (c / (z4_commonDivisor (z0_reduce_v1 a b c d e) (lg_ab f))) d e f]) [0] rfl
      have hDc := hD.sub (ws' := [kF h (a / (z4_commonDivisor (z0_reduce_v1 a b c d e) (lg_ab f))) (b / (z4_commonDivisor (z0_reduce_v1 a b c d e) (lg_ab f))) (c / (z4_commonDivisor (z0_reduce_v1 a b c d e) (lg_ab f))) d e f]) [0] (by decide) rfl
      refine cl_v (wc := [kF h (a / (z4_commonDivisor (z0_reduce_v1 a b c d e) (lg_ab f))) (b / (z4_commonDivisor (z0_reduce_v1 a b c d e) (lg_ab f))) (c / (z4_commonDivisor (z0_reduce_v1 a b c d e) (lg_ab f))) d e f]) (wr := []) (w1 := fun uu : Unit => [kF h (a / (z4_commonDivisor (z0_reduce_v1 a b c d e) (lg_ab f))) (b / (z4_commonDivisor (z0_reduce_v1 a b c d e) (lg_ab f))) (c / (z4_commonDivisor (z0_reduce_v1 a b c d e) (lg_ab f))) (d / (z4_commonDivisor (z0_reduce_v1 a b c d e) (lg_ab f))) (e / (z4_commonDivisor (z0_reduce_v1 a b c d e) (lg_ab f))) (f / (z4_commonDivisor (z0_reduce_v1 a b c d e) (lg_ab f)))]) (wn := fun uu : Unit => [kF h (a / (z4_commonDivisor (z0_reduce_v1 a b c d e) (lg_ab f))) (b / (z4_commonDivisor (z0_reduce_v1 a b c d e) (lg_ab f))) (c / (z4_commonDivisor (z0_reduce_v1 a b c d e) (lg_ab f))) (d / (z4_commonDivisor (z0_reduce_v1 a b c d e) (lg_ab f))) (e / (z4_commonDivisor (z0_reduce_v1 a b c d e) (lg_ab f))) (f / (z4_commonDivisor (z0_reduce_v1 a b c d e) (lg_ab f)))]) (va_runV (As := [.long (d / (z4_commonDivisor (z0_reduce_v1 a b c d e) (lg_ab f))), .long (e / (z4_commonDivisor (z0_reduce_v1 a b c d e) (lg_ab f))), .long (f / (z4_commonDivisor (z0_reduce_v1 a b c d e) (lg_ab f)))]) (rest := []) ⟨hx, hb, hml, hown, hts⟩ (c_X0_setRest l D cI cJ h (a / (z4_commonDivisor (z0_reduce_v1 a b c d e) (lg_ab f))) (b / (z4_commonDivisor (z0_reduce_v1 a b c d e) (lg_ab f))) (c / (z4_commonDivisor (z0_reduce_v1 a b c d e) (lg_ab f))) d e f (d / (z4_commonDivisor (z0_reduce_v1 a b c d e) (lg_ab f))) (e / (z4_commonDivisor (z0_reduce_v1 a b c d e) (lg_ab f))) (f / (z4_commonDivisor (z0_reduce_v1 a b c d e) (lg_ab f))) _) (cwV 3 hts gX0_reduce_X0_setRest rfl rfl rfl (by decide +kernel) ⟨Nat.le_of_ble_eq_true rfl, Nat.le_of_ble_eq_true rfl⟩) ⟨gd_blP, va_recv hK.1 hPc (ci := 0) (q0 := 0) rfl rfl, gd_prP hPc hK hDc⟩ rfl rfl hl.1 rfl (lv_room (Nat.le_of_ble_eq_true rfl)) dX0_reduce_121 ⟨Nat.zero_le _, Nat.zero_le _⟩) hP hD hS hA [0] [] rfl rfl (by decide) (by decide) [0] (by decide) (fun _ => rfl) (fun uG H locs hw hP hD hS => ?_)
      have hP : va_P D vwCl [kF h (a / (z4_commonDivisor (z0_reduce_v1 a b c d e) (lg_ab f))) (b / (z4_commonDivisor (z0_reduce_v1 a b c d e) (lg_ab f))) (c / (z4_commonDivisor (z0_reduce_v1 a b c d e) (lg_ab f))) (d / (z4_commonDivisor (z0_reduce_v1 a b c d e) (lg_ab f))) (e / (z4_commonDivisor (z0_reduce_v1 a b c d e) (lg_ab f))) (f / (z4_commonDivisor (z0_reduce_v1 a b c d e) (lg_ab f)))] H := hP
      have hD : va_D A [kF h (a / (z4_commonDivisor (z0_reduce_v1 a b c d e) (lg_ab f))) (b / (z4_commonDivisor (z0_reduce_v1 a b c d e) (lg_ab f))) (c / (z4_commonDivisor (z0_reduce_v1 a b c d e) (lg_ab f))) (d / (z4_commonDivisor (z0_reduce_v1 a b c d e) (lg_ab f))) (e / (z4_commonDivisor (z0_reduce_v1 a b c d e) (lg_ab f))) (f / (z4_commonDivisor (z0_reduce_v1 a b c d e) (lg_ab f)))] := hD
      clear hPc hDc
      have he : z0_reduce a b c d e f = ((a / (z4_commonDivisor (z0_reduce_v1 a b c d e) (lg_ab f))), (b / (z4_commonDivisor (z0_reduce_v1 a b c d e) (lg_ab f))), (c / (z4_commonDivisor (z0_reduce_v1 a b c d e) (lg_ab f))), (d / (z4_commonDivisor (z0_reduce_v1 a b c d e) (lg_ab f))), (e / (z4_commonDivisor (z0_reduce_v1 a b c d e) (lg_ab f))), (f / (z4_commonDivisor (z0_reduce_v1 a b c d e) (lg_ab f)))) := by unfold z0_reduce; rw [if_pos c_1, if_neg c_2]
      have he_0 : (z0_reduce a b c d e f).1 = (a / (z4_commonDivisor (z0_reduce_v1 a b c d e) (lg_ab f))) := by rw [he]
      have he_1 : (z0_reduce a b c d e f).2.1 = (b / (z4_commonDivisor (z0_reduce_v1 a b c d e) (lg_ab f))) := by rw [he]
      have he_2 : (z0_reduce a b c d e f).2.2.1 = (c / (z4_commonDivisor (z0_reduce_v1 a b c d e) (lg_ab f))) := by rw [he]
      have he_3 : (z0_reduce a b c d e f).2.2.2.1 = (d / (z4_commonDivisor (z0_reduce_v1 a b c d e) (lg_ab f))) := by rw [he]
      have he_4 : (z0_reduce a b c d e f).2.2.2.2.1 = (e / (z4_commonDivisor (z0_reduce_v1 a b c d e) (lg_ab f))) := by rw [he]
      have he_5 : (z0_reduce a b c d e f).2.2.2.2.2 = (f / (z4_commonDivisor (z0_reduce_v1 a b c d e) (lg_ab f))) := by rw [he]
      exact rt_v (w1 := fun uu : Unit => [kF h ((z0_reduce a b c d e f).1) ((z0_reduce a b c d e f).2.1) ((z0_reduce a b c d e f).2.2.1) ((z0_reduce a b c d e f).2.2.2.1) ((z0_reduce a b c d e f).2.2.2.2.1) ((z0_reduce a b c d e f).2.2.2.2.2)]) hx hb hr hlk hS dX0_reduce_124 (()) trivial (by rw [he_0, he_1, he_2, he_3, he_4, he_5]; exact hP) (by rw [he_0, he_1, he_2, he_3, he_4, he_5]; exact hD)
  · skip
    refine lv_lload_n hx hb dX0_reduce_71 rfl (lv_at hl 0 rfl) ?_
    refine lv_lneg hx hb dX0_reduce_72 ?_
    refine lv_lstore_n (lv' := [(1, .long (-(z4_commonDivisor (z0_reduce_v1 a b c d e) (lg_ab f)))), (0, .ref h)]) hx hb dX0_reduce_73 rfl hl (by decide) rfl (fun ls hl => ?_)
    refine lv_lload_n hx hb dX0_reduce_74 rfl (lv_at hl 0 rfl) ?_
    refine lv_lconst (v := 0) hx hb dX0_reduce_75 (by decide) ?_
    refine lb_eq (tgt := 124) hx hb dX0_reduce_76 rfl dX0_reduce_77 (by decide) (fun c_3 => ?_) (fun c_3 => ?_)
    · skip
      have he : z0_reduce a b c d e f = (a, b, c, d, e, f) := by unfold z0_reduce; rw [if_neg c_1, if_pos c_3]
      have he_0 : (z0_reduce a b c d e f).1 = a := by rw [he]
      have he_1 : (z0_reduce a b c d e f).2.1 = b := by rw [he]
      have he_2 : (z0_reduce a b c d e f).2.2.1 = c := by rw [he]
      have he_3 : (z0_reduce a b c d e f).2.2.2.1 = d := by rw [he]
      have he_4 : (z0_reduce a b c d e f).2.2.2.2.1 = e := by rw [he]
      have he_5 : (z0_reduce a b c d e f).2.2.2.2.2 = f := by rw [he]
      exact rt_v (w1 := fun uu : Unit => [kF h ((z0_reduce a b c d e f).1) ((z0_reduce a b c d e f).2.1) ((z0_reduce a b c d e f).2.2.1) ((z0_reduce a b c d e f).2.2.2.1) ((z0_reduce a b c d e f).2.2.2.2.1) ((z0_reduce a b c d e f).2.2.2.2.2)]) hx hb hr hlk hS dX0_reduce_124 (()) trivial (by rw [he_0, he_1, he_2, he_3, he_4, he_5]; exact hP) (by rw [he_0, he_1, he_2, he_3, he_4, he_5]; exact hD)
    · skip
      refine lv_aload_n hx hb dX0_reduce_80 rfl (lv_at hl 1 rfl) ?_
      refine lv_aload_n hx hb dX0_reduce_81 rfl (lv_at hl 1 rfl) ?_
      refine va_get (D := D) (ci := 0) (v := .long a) (C := RX0) (T := TX0) (N := 6) hx hb hts k_2 hown hK.1 hP 0 rfl rfl 0 (by decide) k_1 (fun _ h9 => h9) rfl dX0_reduce_82 ?_
      refine lv_lload_n hx hb dX0_reduce_85 rfl (lv_at hl 0 rfl) ?_
      refine lv_ldiv hx hb dX0_reduce_86 c_3 ?_
      refine lv_aload_n hx hb dX0_reduce_87 rfl (lv_at hl 1 rfl) ?_
      refine va_get (D := D) (ci := 0) (v := .long b) (C := RX0) (T := TX0) (N := 6) hx hb hts k_2 hown hK.1 hP 0 rfl rfl 1 (by decide) k_7 (fun _ h9 => h9) rfl dX0_reduce_88 ?_
      refine lv_lload_n hx hb dX0_reduce_91 rfl (lv_at hl 0 rfl) ?_
      refine lv_ldiv hx hb dX0_reduce_92 c_3 ?_
      refine lv_aload_n hx hb dX0_reduce_93 rfl (lv_at hl 1 rfl) ?_
      refine va_get (D := D) (ci := 0) (v := .long c) (C := RX0) (T := TX0) (N := 6) hx hb hts k_2 hown hK.1 hP 0 rfl rfl 2 (by decide) k_10 (fun _ h9 => h9) rfl dX0_reduce_94 ?_
      refine lv_lload_n hx hb dX0_reduce_97 rfl (lv_at hl 0 rfl) ?_
      refine lv_ldiv hx hb dX0_reduce_98 c_3 ?_
      have hPc := hP.sub (ws' := [kF h a b c d e f]) [0] rfl
      have hDc := hD.sub (ws' := [kF h a b c d e f]) [0] (by decide) rfl
      refine cl_v (wc := [kF h a b c d e f]) (wr := []) (w1 := fun uu : Unit => [kF h (a / (-(z4_commonDivisor (z0_reduce_v1 a b c d e) (lg_ab f)))) (b / (-(z4_commonDivisor (z0_reduce_v1 a b c d e) (lg_ab f)))) (c / (-(z4_commonDivisor (z0_reduce_v1 a b c d e) (lg_ab f)))) d e f]) (wn := fun uu : Unit => [kF h (a / (-(z4_commonDivisor (z0_reduce_v1 a b c d e) (lg_ab f)))) (b / (-(z4_commonDivisor (z0_reduce_v1 a b c d e) (lg_ab f)))) (c / (-(z4_commonDivisor (z0_reduce_v1 a b c d e) (lg_ab f)))) d e f]) (va_runV (As := [.long (a / (-(z4_commonDivisor (z0_reduce_v1 a b c d e) (lg_ab f)))), .long (b / (-(z4_commonDivisor (z0_reduce_v1 a b c d e) (lg_ab f)))), .long (c / (-(z4_commonDivisor (z0_reduce_v1 a b c d e) (lg_ab f))))]) (rest := []) ⟨hx, hb, hml, hown, hts⟩ (c_X0_setQuadratic l D cI cJ h a b c d e f (a / (-(z4_commonDivisor (z0_reduce_v1 a b c d e) (lg_ab f)))) (b / (-(z4_commonDivisor (z0_reduce_v1 a b c d e) (lg_ab f)))) (c / (-(z4_commonDivisor (z0_reduce_v1 a b c d e) (lg_ab f)))) _) (cwV 3 hts gX0_reduce_X0_setQuadratic rfl rfl rfl (by decide +kernel) ⟨Nat.le_of_ble_eq_true rfl, Nat.le_of_ble_eq_true rfl⟩) ⟨gd_blP, va_recv hK.1 hPc (ci := 0) (q0 := 0) rfl rfl, gd_prP hPc hK hDc⟩ rfl rfl hl.1 rfl (lv_room (Nat.le_of_ble_eq_true rfl)) dX0_reduce_99 ⟨Nat.zero_le _, Nat.zero_le _⟩) hP hD hS hA [0] [] rfl rfl (by decide) (by decide) [0] (by decide) (fun _ => rfl) (fun uG H locs hw hP hD hS => ?_)
      have hP : va_P D vwCl [kF h (a / (-(z4_commonDivisor (z0_reduce_v1 a b c d e) (lg_ab f)))) (b / (-(z4_commonDivisor (z0_reduce_v1 a b c d e) (lg_ab f)))) (c / (-(z4_commonDivisor (z0_reduce_v1 a b c d e) (lg_ab f)))) d e f] H := hP
      have hD : va_D A [kF h (a / (-(z4_commonDivisor (z0_reduce_v1 a b c d e) (lg_ab f)))) (b / (-(z4_commonDivisor (z0_reduce_v1 a b c d e) (lg_ab f)))) (c / (-(z4_commonDivisor (z0_reduce_v1 a b c d e) (lg_ab f)))) d e f] := hD
      clear hPc hDc
      refine lv_aload_n hx hb dX0_reduce_102 rfl (lv_at hl 1 rfl) ?_
      refine lv_aload_n hx hb dX0_reduce_103 rfl (lv_at hl 1 rfl) ?_
      refine va_get (D := D) (ci := 0) (v := .long d) (C := RX0) (T := TX0) (N := 6) hx hb hts k_2 hown hK.1 hP 0 rfl rfl 3 (by decide) k_11 (fun _ h9 => h9) rfl dX0_reduce_104 ?_
      refine lv_lload_n hx hb dX0_reduce_107 rfl (lv_at hl 0 rfl) ?_
      refine lv_ldiv hx hb dX0_reduce_108 c_3 ?_
      refine lv_aload_n hx hb dX0_reduce_109 rfl (lv_at hl 1 rfl) ?_
      refine va_get (D := D) (ci := 0) (v := .long e) (C := RX0) (T := TX0) (N := 6) hx hb hts k_2 hown hK.1 hP 0 rfl rfl 4 (by decide) k_12 (fun _ h9 => h9) rfl dX0_reduce_110 ?_
      refine lv_lload_n hx hb dX0_reduce_113 rfl (lv_at hl 0 rfl) ?_
      refine lv_ldiv hx hb dX0_reduce_114 c_3 ?_
      refine lv_aload_n hx hb dX0_reduce_115 rfl (lv_at hl 1 rfl) ?_
      refine va_get (D := D) (ci := 0) (v := .long f) (C := RX0) (T := TX0) (N := 6) hx hb hts k_2 hown hK.1 hP 0 rfl rfl 5 (by decide) k_13 (fun _ h9 => h9) rfl dX0_reduce_116 ?_
      refine lv_lload_n hx hb dX0_reduce_119 rfl (lv_at hl 0 rfl) ?_
      refine lv_ldiv hx hb dX0_reduce_120 c_3 ?_
      have hPc := hP.sub (ws' := [kF h (a / (-(z4_commonDivisor (z0_reduce_v1 a b c d e) (lg_ab f)))) (b / (-(z4_commonDivisor (z0_reduce_v1 a b c d e) (lg_ab f)))) (c / (-(z4_commonDivisor (z0_reduce_v1 a b c d e) (lg_ab f)))) d e f]) [0] rfl
      have hDc := hD.sub (ws' := [kF h (a / (-(z4_commonDivisor (z0_reduce_v1 a b c d e) (lg_ab f)))) (b / (-(z4_commonDivisor (z0_reduce_v1 a b c d e) (lg_ab f)))) (c / (-(z4_commonDivisor (z0_reduce_v1 a b c d e) (lg_ab f)))) d e f]) [0] (by decide) rfl
      refine cl_v (wc := [kF h (a / (-(z4_commonDivisor (z0_reduce_v1 a b c d e) (lg_ab f)))) (b / (-(z4_commonDivisor (z0_reduce_v1 a b c d e) (lg_ab f)))) (c / (-(z4_commonDivisor (z0_reduce_v1 a b c d e) (lg_ab f)))) d e f]) (wr := []) (w1 := fun uu : Unit => [kF h (a / (-(z4_commonDivisor (z0_reduce_v1 a b c d e) (lg_ab f)))) (b / (-(z4_commonDivisor (z0_reduce_v1 a b c d e) (lg_ab f)))) (c / (-(z4_commonDivisor (z0_reduce_v1 a b c d e) (lg_ab f)))) (d / (-(z4_commonDivisor (z0_reduce_v1 a b c d e) (lg_ab f)))) (e / (-(z4_commonDivisor (z0_reduce_v1 a b c d e) (lg_ab f)))) (f / (-(z4_commonDivisor (z0_reduce_v1 a b c d e) (lg_ab f))))]) (wn := fun uu : Unit => [kF h (a / (-(z4_commonDivisor (z0_reduce_v1 a b c d e) (lg_ab f)))) (b / (-(z4_commonDivisor (z0_reduce_v1 a b c d e) (lg_ab f)))) (c / (-(z4_commonDivisor (z0_reduce_v1 a b c d e) (lg_ab f)))) (d / (-(z4_commonDivisor (z0_reduce_v1 a b c d e) (lg_ab f)))) (e / (-(z4_commonDivisor (z0_reduce_v1 a b c d e) (lg_ab f)))) (f / (-(z4_commonDivisor (z0_reduce_v1 a b c d e) (lg_ab f))))]) (va_runV (As := [.long (d / (-(z4_commonDivisor (z0_reduce_v1 a b c d e) (lg_ab f)))), .long (e / (-(z4_commonDivisor (z0_reduce_v1 a b c d e) (lg_ab f)))), .long (f / (-(z4_commonDivisor (z0_reduce_v1 a b c d e) (lg_ab f))))]) (rest := []) ⟨hx, hb, hml, hown, hts⟩ (c_X0_setRest l D cI cJ h (a / (-(z4_commonDivisor (z0_reduce_v1 a b c d e) (lg_ab f)))) (b / (-(z4_commonDivisor (z0_reduce_v1 a b c d e) (lg_ab f)))) (c / (-(z4_commonDivisor (z0_reduce_v1 a b c d e) (lg_ab f)))) d e f (d / (-(z4_commonDivisor (z0_reduce_v1 a b c d e) (lg_ab f)))) (e / (-(z4_commonDivisor (z0_reduce_v1 a b c d e) (lg_ab f)))) (f / (-(z4_commonDivisor (z0_reduce_v1 a b c d e) (lg_ab f)))) _) (cwV 3 hts gX0_reduce_X0_setRest rfl rfl rfl (by decide +kernel) ⟨Nat.le_of_ble_eq_true rfl, Nat.le_of_ble_eq_true rfl⟩) ⟨gd_blP, va_recv hK.1 hPc (ci := 0) (q0 := 0) rfl rfl, gd_prP hPc hK hDc⟩ rfl rfl hl.1 rfl (lv_room (Nat.le_of_ble_eq_true rfl)) dX0_reduce_121 ⟨Nat.zero_le _, Nat.zero_le _⟩) hP hD hS hA [0] [] rfl rfl (by decide) (by decide) [0] (by decide) (fun _ => rfl) (fun uG H locs hw hP hD hS => ?_)
      have hP : va_P D vwCl [kF h (a / (-(z4_commonDivisor (z0_reduce_v1 a b c d e) (lg_ab f)))) (b / (-(z4_commonDivisor (z0_reduce_v1 a b c d e) (lg_ab f)))) (c / (-(z4_commonDivisor (z0_reduce_v1 a b c d e) (lg_ab f)))) (d / (-(z4_commonDivisor (z0_reduce_v1 a b c d e) (lg_ab f)))) (e / (-(z4_commonDivisor (z0_reduce_v1 a b c d e) (lg_ab f)))) (f / (-(z4_commonDivisor (z0_reduce_v1 a b c d e) (lg_ab f))))] H := hP
      have hD : va_D A [kF h (a / (-(z4_commonDivisor (z0_reduce_v1 a b c d e) (lg_ab f)))) (b / (-(z4_commonDivisor (z0_reduce_v1 a b c d e) (lg_ab f)))) (c / (-(z4_commonDivisor (z0_reduce_v1 a b c d e) (lg_ab f)))) (d / (-(z4_commonDivisor (z0_reduce_v1 a b c d e) (lg_ab f)))) (e / (-(z4_commonDivisor (z0_reduce_v1 a b c d e) (lg_ab f)))) (f / (-(z4_commonDivisor (z0_reduce_v1 a b c d e) (lg_ab f))))] := hD
      clear hPc hDc
      have he : z0_reduce a b c d e f = ((a / (-(z4_commonDivisor (z0_reduce_v1 a b c d e) (lg_ab f)))), (b / (-(z4_commonDivisor (z0_reduce_v1 a b c d e) (lg_ab f)))), (c / (-(z4_commonDivisor (z0_reduce_v1 a b c d e) (lg_ab f)))), (d / (-(z4_commonDivisor (z0_reduce_v1 a b c d e) (lg_ab f)))), (e / (-(z4_commonDivisor (z0_reduce_v1 a b c d e) (lg_ab f)))), (f / (-(z4_commonDivisor (z0_reduce_v1 a b c d e) (lg_ab f))))) := by unfold z0_reduce; rw [if_neg c_1, if_neg c_3]
      have he_0 : (z0_reduce a b c d e f).1 = (a / (-(z4_commonDivisor (z0_reduce_v1 a b c d e) (lg_ab f)))) := by rw [he]
      have he_1 : (z0_reduce a b c d e f).2.1 = (b / (-(z4_commonDivisor (z0_reduce_v1 a b c d e) (lg_ab f)))) := by rw [he]
      have he_2 : (z0_reduce a b c d e f).2.2.1 = (c / (-(z4_commonDivisor (z0_reduce_v1 a b c d e) (lg_ab f)))) := by rw [he]
      have he_3 : (z0_reduce a b c d e f).2.2.2.1 = (d / (-(z4_commonDivisor (z0_reduce_v1 a b c d e) (lg_ab f)))) := by rw [he]
      have he_4 : (z0_reduce a b c d e f).2.2.2.2.1 = (e / (-(z4_commonDivisor (z0_reduce_v1 a b c d e) (lg_ab f)))) := by rw [he]
      have he_5 : (z0_reduce a b c d e f).2.2.2.2.2 = (f / (-(z4_commonDivisor (z0_reduce_v1 a b c d e) (lg_ab f)))) := by rw [he]
      exact rt_v (w1 := fun uu : Unit => [kF h ((z0_reduce a b c d e f).1) ((z0_reduce a b c d e f).2.1) ((z0_reduce a b c d e f).2.2.1) ((z0_reduce a b c d e f).2.2.2.1) ((z0_reduce a b c d e f).2.2.2.2.1) ((z0_reduce a b c d e f).2.2.2.2.2)]) hx hb hr hlk hS dX0_reduce_124 (()) trivial (by rw [he_0, he_1, he_2, he_3, he_4, he_5]; exact hP) (by rw [he_0, he_1, he_2, he_3, he_4, he_5]; exact hD)
def z2_keepTriple_v1 (w : Int32) (n : Int32) (f : Nat → Int32) (x : Int64) (y : Int64) (z : Int64) : Nat → Int32 := z2_put w n 2 (z2_put w n 1 (z2_put w n 0 f ((z3_reduce x y z).1)) ((z3_reduce x y z).2.1)) ((z3_reduce x y z).2.2)
def z2_keepTriple (w : Int32) (n : Int32) (f : Nat → Int32) (x : Int64) (y : Int64) (z : Int64) : Int32 × Int32 × (Nat → Int32) × Int64 × Int64 × Int64 := if (z3_isWithin ((z3_reduce x y z).1) ((z3_reduce x y z).2.1) ((z3_reduce x y z).2.2) 500) = 0 then ((-1000006), n, f, (z3_reduce x y z).1, (z3_reduce x y z).2.1, (z3_reduce x y z).2.2) else ((z2_close n).1, (z2_close n).2, z2_keepTriple_v1 w n f x y z, (z3_reduce x y z).1, (z3_reduce x y z).2.1, (z3_reduce x y z).2.2)
set_option maxHeartbeats 4000000 in
set_option maxRecDepth 100000 in
/-- X2.keepTriple -/
theorem c_X2_keepTriple (l : Launch) (D : va_G) (cI cJ : ClassId) (h : Nat) (q : Nat) (L : Nat) (g : Nat) (w : Int32) (n : Int32) (f : Nat → Int32) (x : Int64) (y : Int64) (z : Int64) (hs : sh_ok w L n) : mw_C l yX2_keepTriple wsX2_keepTriple ({ frames := 2, cells := 0, slots := 0, locals := 52 }) D cI cJ [.ref h, .ref g] [kS h w q n, kA q cI L f, kT g x y z] (qe_i (fun (r : Int32) (_ : Unit) => r = (z2_keepTriple w n f x y z).1) (fun uu => [kS h w q ((z2_keepTriple w n f x y z).2.1), kA q cI L ((z2_keepTriple w n f x y z).2.2.1), kT g ((z2_keepTriple w n f x y z).2.2.2.1) ((z2_keepTriple w n f x y z).2.2.2.2.1) ((z2_keepTriple w n f x y z).2.2.2.2.2)])) := by
  refine mw_in (cc := cX2_keepTriple) (lv := [(0, .ref h), (1, .ref g)]) (by decide) rfl (Nat.le_of_ble_eq_true rfl) rfl ?_
  intro pG eG sG mG below meth cG ls A hx hb hr hml hown hts hlk hin hP hK hD hA hS hl
  have hown : sG.vm.findClass RX2 = some mG.cls := hown
  have k_1 := hts (.constantLong RX2 35 (500)) (by decide +kernel)
  have k_2 : ∀ w ∈ wsX30, w ∈ wsX2_keepTriple := by decide +kernel
  have k_3 := hts (.constant RX2 41 (-1000006)) (by decide +kernel)
  refine lv_aload_n hx hb dX2_keepTriple_0 rfl (lv_at hl 1 rfl) ?_
  have hPc := hP.sub (ws' := [kT g x y z]) [2] rfl
  have hDc := hD.sub (ws' := [kT g x y z]) [2] (by decide) rfl
  refine cl_v (wc := [kT g x y z]) (wr := [kS h w q n, kA q cI L f]) (w1 := fun uu : Unit => [kT g ((z3_reduce x y z).1) ((z3_reduce x y z).2.1) ((z3_reduce x y z).2.2)]) (wn := fun uu : Unit => [kS h w q n, kA q cI L f, kT g ((z3_reduce x y z).1) ((z3_reduce x y z).2.1) ((z3_reduce x y z).2.2)]) (va_runV (As := []) (rest := []) ⟨hx, hb, hml, hown, hts⟩ (c_X3_reduce l D cI cJ g x y z _) (cwV 0 hts gX2_keepTriple_X3_reduce rfl rfl rfl (by decide +kernel) ⟨Nat.le_of_ble_eq_true rfl, Nat.le_of_ble_eq_true rfl⟩) ⟨gd_blP, va_recv hK.1 hPc (ci := 3) (q0 := 0) rfl rfl, gd_prP hPc hK hDc⟩ rfl rfl hl.1 rfl (lv_room (Nat.le_of_ble_eq_true rfl)) dX2_keepTriple_1 ⟨Nat.zero_le _, Nat.zero_le _⟩) hP hD hS hA [2] [0, 1] rfl rfl (by decide) (by decide) [0, 1, 2] (by decide) (fun _ => rfl) (fun uG H locs hw hP hD hS => ?_)
  have hP : va_P D vwCl [kS h w q n, kA q cI L f, kT g ((z3_reduce x y z).1) ((z3_reduce x y z).2.1) ((z3_reduce x y z).2.2)] H := hP
  have hD : va_D A [kS h w q n, kA q cI L f, kT g ((z3_reduce x y z).1) ((z3_reduce x y z).2.1) ((z3_reduce x y z).2.2)] := hD
  clear hPc hDc
  refine lv_aload_n hx hb dX2_keepTriple_4 rfl (lv_at hl 1 rfl) ?_
  refine lv_ldc2 hx hb hown k_1 dX2_keepTriple_5 ?_
  have hPc := hP.sub (ws' := [kT g ((z3_reduce x y z).1) ((z3_reduce x y z).2.1) ((z3_reduce x y z).2.2)]) [2] rfl
  refine cr_i (va_runV (As := [.long 500]) (rest := []) ⟨hx, hb, hml, hown, hts⟩ (c_X3_isWithin l D cI cJ g ((z3_reduce x y z).1) ((z3_reduce x y z).2.1) ((z3_reduce x y z).2.2) 500) (cwV 1 hts gX2_keepTriple_X3_isWithin rfl rfl rfl (by decide +kernel) ⟨Nat.le_of_ble_eq_true rfl, Nat.le_of_ble_eq_true rfl⟩) ⟨gd_blR, va_recv hK.1 hPc (ci := 3) (q0 := 0) rfl rfl, gd_prR hPc hK⟩ rfl rfl hl.1 rfl (lv_room (Nat.le_of_ble_eq_true rfl)) dX2_keepTriple_8 ⟨Nat.zero_le _, Nat.zero_le _⟩) (fun r_8 hw => ?_)
  subst hw
  clear hPc
  refine lv_if_ne (tgt := 17) hx hb dX2_keepTriple_11 (by decide) (fun c_1 => ?_) (fun c_1 => ?_)
  · skip
    refine lv_aload_n hx hb dX2_keepTriple_17 rfl (lv_at hl 0 rfl) ?_
    refine lv_iconst (v := 0) hx hb dX2_keepTriple_18 (by decide) ?_
    refine lv_aload_n hx hb dX2_keepTriple_19 rfl (lv_at hl 1 rfl) ?_
    refine va_getN (D := D) (ci := 3) (v := .long ((z3_reduce x y z).1)) (C := RX3) (T := TX3) (N := 3) hx hb hts k_2 hown hK.1 hP 2 rfl rfl 0 (by decide) (nw_f hK.2 2 rfl) (fun _ h9 => h9) rfl dX2_keepTriple_20 ?_
    have hPc := hP.sub (ws' := [kS h w q n, kA q cI L f]) [0, 1] rfl
    have hDc := hD.sub (ws' := [kS h w q n, kA q cI L f]) [0, 1] (by decide) rfl
    refine cl_v (wc := [kS h w q n, kA q cI L f]) (wr := [kT g ((z3_reduce x y z).1) ((z3_reduce x y z).2.1) ((z3_reduce x y z).2.2)]) (w1 := fun uu : Unit => [kS h w q n, kA q cI L (z2_put w n 0 f ((z3_reduce x y z).1))]) (wn := fun uu : Unit => [kS h w q n, kA q cI L (z2_put w n 0 f ((z3_reduce x y z).1)), kT g ((z3_reduce x y z).1) ((z3_reduce x y z).2.1) ((z3_reduce x y z).2.2)]) (va_runV (As := [.int 0, .long ((z3_reduce x y z).1)]) (rest := []) ⟨hx, hb, hml, hown, hts⟩ (c_X2_put l D cI cJ h q L w n 0 f ((z3_reduce x y z).1) hs _) (cwV 2 hts gX2_keepTriple_X2_put rfl rfl rfl (by decide +kernel) ⟨Nat.le_of_ble_eq_true rfl, Nat.le_of_ble_eq_true rfl⟩) ⟨gd_blP, va_recv hK.1 hPc (ci := 2) (q0 := 0) rfl rfl, gd_prP hPc hK hDc⟩ rfl rfl hl.1 rfl (lv_room (Nat.le_of_ble_eq_true rfl)) dX2_keepTriple_23 ⟨Nat.zero_le _, Nat.zero_le _⟩) hP hD hS hA [0, 1] [2] rfl rfl (by decide) (by decide) [1, 2, 0] (by decide) (fun _ => rfl) (fun uG H locs hw hP hD hS => ?_)
    have hP : va_P D vwCl [kS h w q n, kA q cI L (z2_put w n 0 f ((z3_reduce x y z).1)), kT g ((z3_reduce x y z).1) ((z3_reduce x y z).2.1) ((z3_reduce x y z).2.2)] H := hP
    have hD : va_D A [kS h w q n, kA q cI L (z2_put w n 0 f ((z3_reduce x y z).1)), kT g ((z3_reduce x y z).1) ((z3_reduce x y z).2.1) ((z3_reduce x y z).2.2)] := hD
    clear hPc hDc
    refine lv_aload_n hx hb dX2_keepTriple_26 rfl (lv_at hl 0 rfl) ?_
    refine lv_iconst (v := 1) hx hb dX2_keepTriple_27 (by decide) ?_
    refine lv_aload_n hx hb dX2_keepTriple_28 rfl (lv_at hl 1 rfl) ?_
    refine va_getN (D := D) (ci := 3) (v := .long ((z3_reduce x y z).2.1)) (C := RX3) (T := TX3) (N := 3) hx hb hts k_2 hown hK.1 hP 2 rfl rfl 1 (by decide) (nw_f hK.2 5 rfl) (fun _ h9 => h9) rfl dX2_keepTriple_29 ?_
    have hPc := hP.sub (ws' := [kS h w q n, kA q cI L (z2_put w n 0 f ((z3_reduce x y z).1))]) [0, 1] rfl
    have hDc := hD.sub (ws' := [kS h w q n, kA q cI L (z2_put w n 0 f ((z3_reduce x y z).1))]) [0, 1] (by decide) rfl
    refine cl_v (wc := [kS h w q n, kA q cI L (z2_put w n 0 f ((z3_reduce x y z).1))]) (wr := [kT g ((z3_reduce x y z).1) ((z3_reduce x y z).2.1) ((z3_reduce x y z).2.2)]) (w1 := fun uu : Unit => [kS h w q n, kA q cI L (z2_put w n 1 (z2_put w n 0 f ((z3_reduce x y z).1)) ((z3_reduce x y z).2.1))]) (wn := fun uu : Unit => [kS h w q n, kA q cI L (z2_put w n 1 (z2_put w n 0 f ((z3_reduce x y z).1)) ((z3_reduce x y z).2.1)), kT g ((z3_reduce x y z).1) ((z3_reduce x y z).2.1) ((z3_reduce x y z).2.2)]) (va_runV (As := [.int 1, .long ((z3_reduce x y z).2.1)]) (rest := []) ⟨hx, hb, hml, hown, hts⟩ (c_X2_put l D cI cJ h q L w n 1 (z2_put w n 0 f ((z3_reduce x y z).1)) ((z3_reduce x y z).2.1) hs _) (cwV 2 hts gX2_keepTriple_X2_put rfl rfl rfl (by decide +kernel) ⟨Nat.le_of_ble_eq_true rfl, Nat.le_of_ble_eq_true rfl⟩) ⟨gd_blP, va_recv hK.1 hPc (ci := 2) (q0 := 0) rfl rfl, gd_prP hPc hK hDc⟩ rfl rfl hl.1 rfl (lv_room (Nat.le_of_ble_eq_true rfl)) dX2_keepTriple_32 ⟨Nat.zero_le _, Nat.zero_le _⟩) hP hD hS hA [0, 1] [2] rfl rfl (by decide) (by decide) [1, 2, 0] (by decide) (fun _ => rfl) (fun uG H locs hw hP hD hS => ?_)
    have hP : va_P D vwCl [kS h w q n, kA q cI L (z2_put w n 1 (z2_put w n 0 f ((z3_reduce x y z).1)) ((z3_reduce x y z).2.1)), kT g ((z3_reduce x y z).1) ((z3_reduce x y z).2.1) ((z3_reduce x y z).2.2)] H := hP
    have hD : va_D A [kS h w q n, kA q cI L (z2_put w n 1 (z2_put w n 0 f ((z3_reduce x y z).1)) ((z3_reduce x y z).2.1)), kT g ((z3_reduce x y z).1) ((z3_reduce x y z).2.1) ((z3_reduce x y z).2.2)] := hD
    clear hPc hDc
    refine lv_aload_n hx hb dX2_keepTriple_35 rfl (lv_at hl 0 rfl) ?_
    refine lv_iconst (v := 2) hx hb dX2_keepTriple_36 (by decide) ?_
    refine lv_aload_n hx hb dX2_keepTriple_37 rfl (lv_at hl 1 rfl) ?_
    refine va_getN (D := D) (ci := 3) (v := .long ((z3_reduce x y z).2.2)) (C := RX3) (T := TX3) (N := 3) hx hb hts k_2 hown hK.1 hP 2 rfl rfl 2 (by decide) (nw_f hK.2 8 rfl) (fun _ h9 => h9) rfl dX2_keepTriple_38 ?_
    have hPc := hP.sub (ws' := [kS h w q n, kA q cI L (z2_put w n 1 (z2_put w n 0 f ((z3_reduce x y z).1)) ((z3_reduce x y z).2.1))]) [0, 1] rfl
    have hDc := hD.sub (ws' := [kS h w q n, kA q cI L (z2_put w n 1 (z2_put w n 0 f ((z3_reduce x y z).1)) ((z3_reduce x y z).2.1))]) [0, 1] (by decide) rfl
    refine cl_v (wc := [kS h w q n, kA q cI L (z2_put w n 1 (z2_put w n 0 f ((z3_reduce x y z).1)) ((z3_reduce x y z).2.1))]) (wr := [kT g ((z3_reduce x y z).1) ((z3_reduce x y z).2.1) ((z3_reduce x y z).2.2)]) (w1 := fun uu : Unit => [kS h w q n, kA q cI L (z2_put w n 2 (z2_put w n 1 (z2_put w n 0 f ((z3_reduce x y z).1)) ((z3_reduce x y z).2.1)) ((z3_reduce x y z).2.2))]) (wn := fun uu : Unit => [kS h w q n, kA q cI L (z2_put w n 2 (z2_put w n 1 (z2_put w n 0 f ((z3_reduce x y z).1)) ((z3_reduce x y z).2.1)) ((z3_reduce x y z).2.2)), kT g ((z3_reduce x y z).1) ((z3_reduce x y z).2.1) ((z3_reduce x y z).2.2)]) (va_runV (As := [.int 2, .long ((z3_reduce x y z).2.2)]) (rest := []) ⟨hx, hb, hml, hown, hts⟩ (c_X2_put l D cI cJ h q L w n 2 (z2_put w n 1 (z2_put w n 0 f ((z3_reduce x y z).1)) ((z3_reduce x y z).2.1)) ((z3_reduce x y z).2.2) hs _) (cwV 2 hts gX2_keepTriple_X2_put rfl rfl rfl (by decide +kernel) ⟨Nat.le_of_ble_eq_true rfl, Nat.le_of_ble_eq_true rfl⟩) ⟨gd_blP, va_recv hK.1 hPc (ci := 2) (q0 := 0) rfl rfl, gd_prP hPc hK hDc⟩ rfl rfl hl.1 rfl (lv_room (Nat.le_of_ble_eq_true rfl)) dX2_keepTriple_41 ⟨Nat.zero_le _, Nat.zero_le _⟩) hP hD hS hA [0, 1] [2] rfl rfl (by decide) (by decide) [1, 2, 0] (by decide) (fun _ => rfl) (fun uG H locs hw hP hD hS => ?_)
    have hP : va_P D vwCl [kS h w q n, kA q cI L (z2_put w n 2 (z2_put w n 1 (z2_put w n 0 f ((z3_reduce x y z).1)) ((z3_reduce x y z).2.1)) ((z3_reduce x y z).2.2)), kT g ((z3_reduce x y z).1) ((z3_reduce x y z).2.1) ((z3_reduce x y z).2.2)] H := hP
    have hD : va_D A [kS h w q n, kA q cI L (z2_put w n 2 (z2_put w n 1 (z2_put w n 0 f ((z3_reduce x y z).1)) ((z3_reduce x y z).2.1)) ((z3_reduce x y z).2.2)), kT g ((z3_reduce x y z).1) ((z3_reduce x y z).2.1) ((z3_reduce x y z).2.2)] := hD
    have ea_0 : z2_put w n 2 (z2_put w n 1 (z2_put w n 0 f ((z3_reduce x y z).1)) ((z3_reduce x y z).2.1)) ((z3_reduce x y z).2.2) = z2_keepTriple_v1 w n f x y z := by delta z2_keepTriple_v1; rfl
    rw [ea_0] at hP hD
    clear ea_0
    clear hPc hDc
    refine lv_aload_n hx hb dX2_keepTriple_44 rfl (lv_at hl 0 rfl) ?_
    have hPc := hP.sub (ws' := [kS h w q n]) [0] rfl
    have hDc := hD.sub (ws' := [kS h w q n]) [0] (by decide) rfl
    refine cl_i (wc := [kS h w q n]) (wr := [kA q cI L (z2_keepTriple_v1 w n f x y z), kT g ((z3_reduce x y z).1) ((z3_reduce x y z).2.1) ((z3_reduce x y z).2.2)]) (w1 := fun uu : Unit => [kS h w q ((z2_close n).2)]) (wn := fun uu : Unit => [kS h w q ((z2_close n).2), kA q cI L (z2_keepTriple_v1 w n f x y z), kT g ((z3_reduce x y z).1) ((z3_reduce x y z).2.1) ((z3_reduce x y z).2.2)]) (va_runV (As := []) (rest := []) ⟨hx, hb, hml, hown, hts⟩ (c_X2_close l D cI cJ h q w n _) (cwV 0 hts gX2_keepTriple_X2_close rfl rfl rfl (by decide +kernel) ⟨Nat.le_of_ble_eq_true rfl, Nat.le_of_ble_eq_true rfl⟩) ⟨gd_blP, va_recv hK.1 hPc (ci := 2) (q0 := 0) rfl rfl, gd_prP hPc hK hDc⟩ rfl rfl hl.1 rfl (lv_room (Nat.le_of_ble_eq_true rfl)) dX2_keepTriple_45 ⟨Nat.zero_le _, Nat.zero_le _⟩) hP hD hS hA [0] [1, 2] rfl rfl (by decide) (by decide) [2, 0, 1] (by decide) (fun _ => rfl) (fun r_45 uG H locs hw hP hD hS => ?_)
    have hP : va_P D vwCl [kS h w q ((z2_close n).2), kA q cI L (z2_keepTriple_v1 w n f x y z), kT g ((z3_reduce x y z).1) ((z3_reduce x y z).2.1) ((z3_reduce x y z).2.2)] H := hP
    have hD : va_D A [kS h w q ((z2_close n).2), kA q cI L (z2_keepTriple_v1 w n f x y z), kT g ((z3_reduce x y z).1) ((z3_reduce x y z).2.1) ((z3_reduce x y z).2.2)] := hD
    subst hw
    clear hPc hDc
    have he : z2_keepTriple w n f x y z = ((z2_close n).1, (z2_close n).2, z2_keepTriple_v1 w n f x y z, (z3_reduce x y z).1, (z3_reduce x y z).2.1, (z3_reduce x y z).2.2) := by unfold z2_keepTriple; rw [if_neg c_1]
    have he_0 : (z2_keepTriple w n f x y z).1 = (z2_close n).1 := by rw [he]
    have he_1 : (z2_keepTriple w n f x y z).2.1 = (z2_close n).2 := by rw [he]
    have he_2 : (z2_keepTriple w n f x y z).2.2.1 = z2_keepTriple_v1 w n f x y z := by rw [he]
    have he_3 : (z2_keepTriple w n f x y z).2.2.2.1 = (z3_reduce x y z).1 := by rw [he]
    have he_4 : (z2_keepTriple w n f x y z).2.2.2.2.1 = (z3_reduce x y z).2.1 := by rw [he]
    have he_5 : (z2_keepTriple w n f x y z).2.2.2.2.2 = (z3_reduce x y z).2.2 := by rw [he]
    exact rt_i (w1 := fun uu : Unit => [kS h w q ((z2_keepTriple w n f x y z).2.1), kA q cI L ((z2_keepTriple w n f x y z).2.2.1), kT g ((z2_keepTriple w n f x y z).2.2.2.1) ((z2_keepTriple w n f x y z).2.2.2.2.1) ((z2_keepTriple w n f x y z).2.2.2.2.2)]) hx hb hr hlk hS dX2_keepTriple_48 (()) he_0.symm (by rw [he_1, he_2, he_3, he_4, he_5]; exact hP) (by rw [he_1, he_2, he_3, he_4, he_5]; exact hD)
  · skip
    refine lv_ldc hx hb hown k_3 dX2_keepTriple_14 ?_
    have he : z2_keepTriple w n f x y z = ((-1000006), n, f, (z3_reduce x y z).1, (z3_reduce x y z).2.1, (z3_reduce x y z).2.2) := by unfold z2_keepTriple; rw [if_pos c_1]
    have he_0 : (z2_keepTriple w n f x y z).1 = (-1000006) := by rw [he]
    have he_1 : (z2_keepTriple w n f x y z).2.1 = n := by rw [he]
    have he_2 : (z2_keepTriple w n f x y z).2.2.1 = f := by rw [he]
    have he_3 : (z2_keepTriple w n f x y z).2.2.2.1 = (z3_reduce x y z).1 := by rw [he]
    have he_4 : (z2_keepTriple w n f x y z).2.2.2.2.1 = (z3_reduce x y z).2.1 := by rw [he]
    have he_5 : (z2_keepTriple w n f x y z).2.2.2.2.2 = (z3_reduce x y z).2.2 := by rw [he]
    exact rt_i (w1 := fun uu : Unit => [kS h w q ((z2_keepTriple w n f x y z).2.1), kA q cI L ((z2_keepTriple w n f x y z).2.2.1), kT g ((z2_keepTriple w n f x y z).2.2.2.1) ((z2_keepTriple w n f x y z).2.2.2.2.1) ((z2_keepTriple w n f x y z).2.2.2.2.2)]) hx hb hr hlk hS dX2_keepTriple_16 (()) he_0.symm (by rw [he_1, he_2, he_3, he_4, he_5]; exact hP) (by rw [he_1, he_2, he_3, he_4, he_5]; exact hD)
def z2_keepForm_v1 (a : Int64) (b : Int64) (c : Int64) (d : Int64) (e : Int64) (f : Int64) : Int32 := z0_isWithin ((z0_reduce a b c d e f).1) ((z0_reduce a b c d e f).2.1) ((z0_reduce a b c d e f).2.2.1) ((z0_reduce a b c d e f).2.2.2.1) ((z0_reduce a b c d e f).2.2.2.2.1) ((z0_reduce a b c d e f).2.2.2.2.2) 500
def z2_keepForm_v2 (w : Int32) (n : Int32) (j : Nat → Int32) (a : Int64) (b : Int64) (c : Int64) (d : Int64) (e : Int64) (f : Int64) : Nat → Int32 := z2_put w n 2 (z2_put w n 1 (z2_put w n 0 j ((z0_reduce a b c d e f).1)) ((z0_reduce a b c d e f).2.1)) ((z0_reduce a b c d e f).2.2.1)
def z2_keepForm_v3 (w : Int32) (n : Int32) (j : Nat → Int32) (a : Int64) (b : Int64) (c : Int64) (d : Int64) (e : Int64) (f : Int64) : Nat → Int32 := z2_put w n 4 (z2_put w n 3 (z2_keepForm_v2 w n j a b c d e f) ((z0_reduce a b c d e f).2.2.2.1)) ((z0_reduce a b c d e f).2.2.2.2.1)
def z2_keepForm (w : Int32) (n : Int32) (j : Nat → Int32) (a : Int64) (b : Int64) (c : Int64) (d : Int64) (e : Int64) (f : Int64) : Int32 × Int32 × (Nat → Int32) × Int64 × Int64 × Int64 × Int64 × Int64 × Int64 := if (z2_keepForm_v1 a b c d e f) = 0 then ((-1000006), n, j, (z0_reduce a b c d e f).1, (z0_reduce a b c d e f).2.1, (z0_reduce a b c d e f).2.2.1, (z0_reduce a b c d e f).2.2.2.1, (z0_reduce a b c d e f).2.2.2.2.1, (z0_reduce a b c d e f).2.2.2.2.2) else ((z2_close n).1, (z2_close n).2, z2_put w n 5 (z2_keepForm_v3 w n j a b c d e f) ((z0_reduce a b c d e f).2.2.2.2.2), (z0_reduce a b c d e f).1, (z0_reduce a b c d e f).2.1, (z0_reduce a b c d e f).2.2.1, (z0_reduce a b c d e f).2.2.2.1, (z0_reduce a b c d e f).2.2.2.2.1, (z0_reduce a b c d e f).2.2.2.2.2)
set_option maxHeartbeats 4000000 in
set_option maxRecDepth 100000 in
/-- X2.keepForm -/
theorem c_X2_keepForm (l : Launch) (D : va_G) (cI cJ : ClassId) (h : Nat) (q : Nat) (L : Nat) (g : Nat) (w : Int32) (n : Int32) (j : Nat → Int32) (a : Int64) (b : Int64) (c : Int64) (d : Int64) (e : Int64) (f : Int64) (hs : sh_ok w L n) : mw_C l yX2_keepForm wsX2_keepForm ({ frames := 2, cells := 0, slots := 0, locals := 52 }) D cI cJ [.ref h, .ref g] [kS h w q n, kA q cI L j, kF g a b c d e f] (qe_i (fun (r : Int32) (_ : Unit) => r = (z2_keepForm w n j a b c d e f).1) (fun uu => [kS h w q ((z2_keepForm w n j a b c d e f).2.1), kA q cI L ((z2_keepForm w n j a b c d e f).2.2.1), kF g ((z2_keepForm w n j a b c d e f).2.2.2.1) ((z2_keepForm w n j a b c d e f).2.2.2.2.1) ((z2_keepForm w n j a b c d e f).2.2.2.2.2.1) ((z2_keepForm w n j a b c d e f).2.2.2.2.2.2.1) ((z2_keepForm w n j a b c d e f).2.2.2.2.2.2.2.1) ((z2_keepForm w n j a b c d e f).2.2.2.2.2.2.2.2)])) := by
  refine mw_in (cc := cX2_keepForm) (lv := [(0, .ref h), (1, .ref g)]) (by decide) rfl (Nat.le_of_ble_eq_true rfl) rfl ?_
  intro pG eG sG mG below meth cG ls A hx hb hr hml hown hts hlk hin hP hK hD hA hS hl
  have hown : sG.vm.findClass RX2 = some mG.cls := hown
  have k_1 := hts (.constantLong RX2 35 (500)) (by decide +kernel)
  have k_2 : ∀ w ∈ wsX00, w ∈ wsX2_keepForm := by decide +kernel
  have k_3 := hts (.constant RX2 41 (-1000006)) (by decide +kernel)
  refine lv_aload_n hx hb dX2_keepForm_0 rfl (lv_at hl 1 rfl) ?_
  have hPc := hP.sub (ws' := [kF g a b c d e f]) [2] rfl
  have hDc := hD.sub (ws' := [kF g a b c d e f]) [2] (by decide) rfl
  refine cl_v (wc := [kF g a b c d e f]) (wr := [kS h w q n, kA q cI L j]) (w1 := fun uu : Unit => [kF g ((z0_reduce a b c d e f).1) ((z0_reduce a b c d e f).2.1) ((z0_reduce a b c d e f).2.2.1) ((z0_reduce a b c d e f).2.2.2.1) ((z0_reduce a b c d e f).2.2.2.2.1) ((z0_reduce a b c d e f).2.2.2.2.2)]) (wn := fun uu : Unit => [kS h w q n, kA q cI L j, kF g ((z0_reduce a b c d e f).1) ((z0_reduce a b c d e f).2.1) ((z0_reduce a b c d e f).2.2.1) ((z0_reduce a b c d e f).2.2.2.1) ((z0_reduce a b c d e f).2.2.2.2.1) ((z0_reduce a b c d e f).2.2.2.2.2)]) (va_runV (As := []) (rest := []) ⟨hx, hb, hml, hown, hts⟩ (c_X0_reduce l D cI cJ g a b c d e f _) (cwV 0 hts gX2_keepForm_X0_reduce rfl rfl rfl (by decide +kernel) ⟨Nat.le_of_ble_eq_true rfl, Nat.le_of_ble_eq_true rfl⟩) ⟨gd_blP, va_recv hK.1 hPc (ci := 0) (q0 := 0) rfl rfl, gd_prP hPc hK hDc⟩ rfl rfl hl.1 rfl (lv_room (Nat.le_of_ble_eq_true rfl)) dX2_keepForm_1 ⟨Nat.zero_le _, Nat.zero_le _⟩) hP hD hS hA [2] [0, 1] rfl rfl (by decide) (by decide) [0, 1, 2] (by decide) (fun _ => rfl) (fun uG H locs hw hP hD hS => ?_)
  have hP : va_P D vwCl [kS h w q n, kA q cI L j, kF g ((z0_reduce a b c d e f).1) ((z0_reduce a b c d e f).2.1) ((z0_reduce a b c d e f).2.2.1) ((z0_reduce a b c d e f).2.2.2.1) ((z0_reduce a b c d e f).2.2.2.2.1) ((z0_reduce a b c d e f).2.2.2.2.2)] H := hP
  have hD : va_D A [kS h w q n, kA q cI L j, kF g ((z0_reduce a b c d e f).1) ((z0_reduce a b c d e f).2.1) ((z0_reduce a b c d e f).2.2.1) ((z0_reduce a b c d e f).2.2.2.1) ((z0_reduce a b c d e f).2.2.2.2.1) ((z0_reduce a b c d e f).2.2.2.2.2)] := hD
  clear hPc hDc
  refine lv_aload_n hx hb dX2_keepForm_4 rfl (lv_at hl 1 rfl) ?_
  refine lv_ldc2 hx hb hown k_1 dX2_keepForm_5 ?_
  have hPc := hP.sub (ws' := [kF g ((z0_reduce a b c d e f).1) ((z0_reduce a b c d e f).2.1) ((z0_reduce a b c d e f).2.2.1) ((z0_reduce a b c d e f).2.2.2.1) ((z0_reduce a b c d e f).2.2.2.2.1) ((z0_reduce a b c d e f).2.2.2.2.2)]) [2] rfl
  refine cr_i (va_runV (As := [.long 500]) (rest := []) ⟨hx, hb, hml, hown, hts⟩ (c_X0_isWithin l D cI cJ g ((z0_reduce a b c d e f).1) ((z0_reduce a b c d e f).2.1) ((z0_reduce a b c d e f).2.2.1) ((z0_reduce a b c d e f).2.2.2.1) ((z0_reduce a b c d e f).2.2.2.2.1) ((z0_reduce a b c d e f).2.2.2.2.2) 500) (cwV 1 hts gX2_keepForm_X0_isWithin rfl rfl rfl (by decide +kernel) ⟨Nat.le_of_ble_eq_true rfl, Nat.le_of_ble_eq_true rfl⟩) ⟨gd_blR, va_recv hK.1 hPc (ci := 0) (q0 := 0) rfl rfl, gd_prR hPc hK⟩ rfl rfl hl.1 rfl (lv_room (Nat.le_of_ble_eq_true rfl)) dX2_keepForm_8 ⟨Nat.zero_le _, Nat.zero_le _⟩) (fun r_8 hw => ?_)
  subst hw
  clear hPc
  refine lv_eqi (v := z2_keepForm_v1 a b c d e f) (by delta z2_keepForm_v1; rfl) ?_
  refine lv_if_ne (tgt := 17) hx hb dX2_keepForm_11 (by decide) (fun c_1 => ?_) (fun c_1 => ?_)
  · skip
    refine lv_aload_n hx hb dX2_keepForm_17 rfl (lv_at hl 0 rfl) ?_
    refine lv_iconst (v := 0) hx hb dX2_keepForm_18 (by decide) ?_
    refine lv_aload_n hx hb dX2_keepForm_19 rfl (lv_at hl 1 rfl) ?_
    refine va_getN (D := D) (ci := 0) (v := .long ((z0_reduce a b c d e f).1)) (C := RX0) (T := TX0) (N := 6) hx hb hts k_2 hown hK.1 hP 2 rfl rfl 0 (by decide) (nw_f hK.2 14 rfl) (fun _ h9 => h9) rfl dX2_keepForm_20 ?_
    have hPc := hP.sub (ws' := [kS h w q n, kA q cI L j]) [0, 1] rfl
    have hDc := hD.sub (ws' := [kS h w q n, kA q cI L j]) [0, 1] (by decide) rfl
    refine cl_v (wc := [kS h w q n, kA q cI L j]) (wr := [kF g ((z0_reduce a b c d e f).1) ((z0_reduce a b c d e f).2.1) ((z0_reduce a b c d e f).2.2.1) ((z0_reduce a b c d e f).2.2.2.1) ((z0_reduce a b c d e f).2.2.2.2.1) ((z0_reduce a b c d e f).2.2.2.2.2)]) (w1 := fun uu : Unit => [kS h w q n, kA q cI L (z2_put w n 0 j ((z0_reduce a b c d e f).1))]) (wn := fun uu : Unit => [kS h w q n, kA q cI L (z2_put w n 0 j ((z0_reduce a b c d e f).1)), kF g ((z0_reduce a b c d e f).1) ((z0_reduce a b c d e f).2.1) ((z0_reduce a b c d e f).2.2.1) ((z0_reduce a b c d e f).2.2.2.1) ((z0_reduce a b c d e f).2.2.2.2.1) ((z0_reduce a b c d e f).2.2.2.2.2)]) (va_runV (As := [.int 0, .long ((z0_reduce a b c d e f).1)]) (rest := []) ⟨hx, hb, hml, hown, hts⟩ (c_X2_put l D cI cJ h q L w n 0 j ((z0_reduce a b c d e f).1) hs _) (cwV 2 hts gX2_keepForm_X2_put rfl rfl rfl (by decide +kernel) ⟨Nat.le_of_ble_eq_true rfl, Nat.le_of_ble_eq_true rfl⟩) ⟨gd_blP, va_recv hK.1 hPc (ci := 2) (q0 := 0) rfl rfl, gd_prP hPc hK hDc⟩ rfl rfl hl.1 rfl (lv_room (Nat.le_of_ble_eq_true rfl)) dX2_keepForm_23 ⟨Nat.zero_le _, Nat.zero_le _⟩) hP hD hS hA [0, 1] [2] rfl rfl (by decide) (by decide) [1, 2, 0] (by decide) (fun _ => rfl) (fun uG H locs hw hP hD hS => ?_)
    have hP : va_P D vwCl [kS h w q n, kA q cI L (z2_put w n 0 j ((z0_reduce a b c d e f).1)), kF g ((z0_reduce a b c d e f).1) ((z0_reduce a b c d e f).2.1) ((z0_reduce a b c d e f).2.2.1) ((z0_reduce a b c d e f).2.2.2.1) ((z0_reduce a b c d e f).2.2.2.2.1) ((z0_reduce a b c d e f).2.2.2.2.2)] H := hP
    have hD : va_D A [kS h w q n, kA q cI L (z2_put w n 0 j ((z0_reduce a b c d e f).1)), kF g ((z0_reduce a b c d e f).1) ((z0_reduce a b c d e f).2.1) ((z0_reduce a b c d e f).2.2.1) ((z0_reduce a b c d e f).2.2.2.1) ((z0_reduce a b c d e f).2.2.2.2.1) ((z0_reduce a b c d e f).2.2.2.2.2)] := hD
    clear hPc hDc
    refine lv_aload_n hx hb dX2_keepForm_26 rfl (lv_at hl 0 rfl) ?_
    refine lv_iconst (v := 1) hx hb dX2_keepForm_27 (by decide) ?_
    refine lv_aload_n hx hb dX2_keepForm_28 rfl (lv_at hl 1 rfl) ?_
    refine va_getN (D := D) (ci := 0) (v := .long ((z0_reduce a b c d e f).2.1)) (C := RX0) (T := TX0) (N := 6) hx hb hts k_2 hown hK.1 hP 2 rfl rfl 1 (by decide) (nw_f hK.2 17 rfl) (fun _ h9 => h9) rfl dX2_keepForm_29 ?_
    have hPc := hP.sub (ws' := [kS h w q n, kA q cI L (z2_put w n 0 j ((z0_reduce a b c d e f).1))]) [0, 1] rfl
    have hDc := hD.sub (ws' := [kS h w q n, kA q cI L (z2_put w n 0 j ((z0_reduce a b c d e f).1))]) [0, 1] (by decide) rfl
    refine cl_v (wc := [kS h w q n, kA q cI L (z2_put w n 0 j ((z0_reduce a b c d e f).1))]) (wr := [kF g ((z0_reduce a b c d e f).1) ((z0_reduce a b c d e f).2.1) ((z0_reduce a b c d e f).2.2.1) ((z0_reduce a b c d e f).2.2.2.1) ((z0_reduce a b c d e f).2.2.2.2.1) ((z0_reduce a b c d e f).2.2.2.2.2)]) (w1 := fun uu : Unit => [kS h w q n, kA q cI L (z2_put w n 1 (z2_put w n 0 j ((z0_reduce a b c d e f).1)) ((z0_reduce a b c d e f).2.1))]) (wn := fun uu : Unit => [kS h w q n, kA q cI L (z2_put w n 1 (z2_put w n 0 j ((z0_reduce a b c d e f).1)) ((z0_reduce a b c d e f).2.1)), kF g ((z0_reduce a b c d e f).1) ((z0_reduce a b c d e f).2.1) ((z0_reduce a b c d e f).2.2.1) ((z0_reduce a b c d e f).2.2.2.1) ((z0_reduce a b c d e f).2.2.2.2.1) ((z0_reduce a b c d e f).2.2.2.2.2)]) (va_runV (As := [.int 1, .long ((z0_reduce a b c d e f).2.1)]) (rest := []) ⟨hx, hb, hml, hown, hts⟩ (c_X2_put l D cI cJ h q L w n 1 (z2_put w n 0 j ((z0_reduce a b c d e f).1)) ((z0_reduce a b c d e f).2.1) hs _) (cwV 2 hts gX2_keepForm_X2_put rfl rfl rfl (by decide +kernel) ⟨Nat.le_of_ble_eq_true rfl, Nat.le_of_ble_eq_true rfl⟩) ⟨gd_blP, va_recv hK.1 hPc (ci := 2) (q0 := 0) rfl rfl, gd_prP hPc hK hDc⟩ rfl rfl hl.1 rfl (lv_room (Nat.le_of_ble_eq_true rfl)) dX2_keepForm_32 ⟨Nat.zero_le _, Nat.zero_le _⟩) hP hD hS hA [0, 1] [2] rfl rfl (by decide) (by decide) [1, 2, 0] (by decide) (fun _ => rfl) (fun uG H locs hw hP hD hS => ?_)
    have hP : va_P D vwCl [kS h w q n, kA q cI L (z2_put w n 1 (z2_put w n 0 j ((z0_reduce a b c d e f).1)) ((z0_reduce a b c d e f).2.1)), kF g ((z0_reduce a b c d e f).1) ((z0_reduce a b c d e f).2.1) ((z0_reduce a b c d e f).2.2.1) ((z0_reduce a b c d e f).2.2.2.1) ((z0_reduce a b c d e f).2.2.2.2.1) ((z0_reduce a b c d e f).2.2.2.2.2)] H := hP
    have hD : va_D A [kS h w q n, kA q cI L (z2_put w n 1 (z2_put w n 0 j ((z0_reduce a b c d e f).1)) ((z0_reduce a b c d e f).2.1)), kF g ((z0_reduce a b c d e f).1) ((z0_reduce a b c d e f).2.1) ((z0_reduce a b c d e f).2.2.1) ((z0_reduce a b c d e f).2.2.2.1) ((z0_reduce a b c d e f).2.2.2.2.1) ((z0_reduce a b c d e f).2.2.2.2.2)] := hD
    clear hPc hDc
    refine lv_aload_n hx hb dX2_keepForm_35 rfl (lv_at hl 0 rfl) ?_
    refine lv_iconst (v := 2) hx hb dX2_keepForm_36 (by decide) ?_
    refine lv_aload_n hx hb dX2_keepForm_37 rfl (lv_at hl 1 rfl) ?_
    refine va_getN (D := D) (ci := 0) (v := .long ((z0_reduce a b c d e f).2.2.1)) (C := RX0) (T := TX0) (N := 6) hx hb hts k_2 hown hK.1 hP 2 rfl rfl 2 (by decide) (nw_f hK.2 20 rfl) (fun _ h9 => h9) rfl dX2_keepForm_38 ?_
    have hPc := hP.sub (ws' := [kS h w q n, kA q cI L (z2_put w n 1 (z2_put w n 0 j ((z0_reduce a b c d e f).1)) ((z0_reduce a b c d e f).2.1))]) [0, 1] rfl
    have hDc := hD.sub (ws' := [kS h w q n, kA q cI L (z2_put w n 1 (z2_put w n 0 j ((z0_reduce a b c d e f).1)) ((z0_reduce a b c d e f).2.1))]) [0, 1] (by decide) rfl
    refine cl_v (wc := [kS h w q n, kA q cI L (z2_put w n 1 (z2_put w n 0 j ((z0_reduce a b c d e f).1)) ((z0_reduce a b c d e f).2.1))]) (wr := [kF g ((z0_reduce a b c d e f).1) ((z0_reduce a b c d e f).2.1) ((z0_reduce a b c d e f).2.2.1) ((z0_reduce a b c d e f).2.2.2.1) ((z0_reduce a b c d e f).2.2.2.2.1) ((z0_reduce a b c d e f).2.2.2.2.2)]) (w1 := fun uu : Unit => [kS h w q n, kA q cI L (z2_put w n 2 (z2_put w n 1 (z2_put w n 0 j ((z0_reduce a b c d e f).1)) ((z0_reduce a b c d e f).2.1)) ((z0_reduce a b c d e f).2.2.1))]) (wn := fun uu : Unit => [kS h w q n, kA q cI L (z2_put w n 2 (z2_put w n 1 (z2_put w n 0 j ((z0_reduce a b c d e f).1)) ((z0_reduce a b c d e f).2.1)) ((z0_reduce a b c d e f).2.2.1)), kF g ((z0_reduce a b c d e f).1) ((z0_reduce a b c d e f).2.1) ((z0_reduce a b c d e f).2.2.1) ((z0_reduce a b c d e f).2.2.2.1) ((z0_reduce a b c d e f).2.2.2.2.1) ((z0_reduce a b c d e f).2.2.2.2.2)]) (va_runV (As := [.int 2, .long ((z0_reduce a b c d e f).2.2.1)]) (rest := []) ⟨hx, hb, hml, hown, hts⟩ (c_X2_put l D cI cJ h q L w n 2 (z2_put w n 1 (z2_put w n 0 j ((z0_reduce a b c d e f).1)) ((z0_reduce a b c d e f).2.1)) ((z0_reduce a b c d e f).2.2.1) hs _) (cwV 2 hts gX2_keepForm_X2_put rfl rfl rfl (by decide +kernel) ⟨Nat.le_of_ble_eq_true rfl, Nat.le_of_ble_eq_true rfl⟩) ⟨gd_blP, va_recv hK.1 hPc (ci := 2) (q0 := 0) rfl rfl, gd_prP hPc hK hDc⟩ rfl rfl hl.1 rfl (lv_room (Nat.le_of_ble_eq_true rfl)) dX2_keepForm_41 ⟨Nat.zero_le _, Nat.zero_le _⟩) hP hD hS hA [0, 1] [2] rfl rfl (by decide) (by decide) [1, 2, 0] (by decide) (fun _ => rfl) (fun uG H locs hw hP hD hS => ?_)
    have hP : va_P D vwCl [kS h w q n, kA q cI L (z2_put w n 2 (z2_put w n 1 (z2_put w n 0 j ((z0_reduce a b c d e f).1)) ((z0_reduce a b c d e f).2.1)) ((z0_reduce a b c d e f).2.2.1)), kF g ((z0_reduce a b c d e f).1) ((z0_reduce a b c d e f).2.1) ((z0_reduce a b c d e f).2.2.1) ((z0_reduce a b c d e f).2.2.2.1) ((z0_reduce a b c d e f).2.2.2.2.1) ((z0_reduce a b c d e f).2.2.2.2.2)] H := hP
    have hD : va_D A [kS h w q n, kA q cI L (z2_put w n 2 (z2_put w n 1 (z2_put w n 0 j ((z0_reduce a b c d e f).1)) ((z0_reduce a b c d e f).2.1)) ((z0_reduce a b c d e f).2.2.1)), kF g ((z0_reduce a b c d e f).1) ((z0_reduce a b c d e f).2.1) ((z0_reduce a b c d e f).2.2.1) ((z0_reduce a b c d e f).2.2.2.1) ((z0_reduce a b c d e f).2.2.2.2.1) ((z0_reduce a b c d e f).2.2.2.2.2)] := hD
    have ea_0 : z2_put w n 2 (z2_put w n 1 (z2_put w n 0 j ((z0_reduce a b c d e f).1)) ((z0_reduce a b c d e f).2.1)) ((z0_reduce a b c d e f).2.2.1) = z2_keepForm_v2 w n j a b c d e f := by delta z2_keepForm_v2; rfl
    rw [ea_0] at hP hD
    clear ea_0
    clear hPc hDc
    refine lv_aload_n hx hb dX2_keepForm_44 rfl (lv_at hl 0 rfl) ?_
    refine lv_iconst (v := 3) hx hb dX2_keepForm_45 (by decide) ?_
    refine lv_aload_n hx hb dX2_keepForm_46 rfl (lv_at hl 1 rfl) ?_
    refine va_getN (D := D) (ci := 0) (v := .long ((z0_reduce a b c d e f).2.2.2.1)) (C := RX0) (T := TX0) (N := 6) hx hb hts k_2 hown hK.1 hP 2 rfl rfl 3 (by decide) (nw_f hK.2 23 rfl) (fun _ h9 => h9) rfl dX2_keepForm_47 ?_
    have hPc := hP.sub (ws' := [kS h w q n, kA q cI L (z2_keepForm_v2 w n j a b c d e f)]) [0, 1] rfl
    have hDc := hD.sub (ws' := [kS h w q n, kA q cI L (z2_keepForm_v2 w n j a b c d e f)]) [0, 1] (by decide) rfl
    refine cl_v (wc := [kS h w q n, kA q cI L (z2_keepForm_v2 w n j a b c d e f)]) (wr := [kF g ((z0_reduce a b c d e f).1) ((z0_reduce a b c d e f).2.1) ((z0_reduce a b c d e f).2.2.1) ((z0_reduce a b c d e f).2.2.2.1) ((z0_reduce a b c d e f).2.2.2.2.1) ((z0_reduce a b c d e f).2.2.2.2.2)]) (w1 := fun uu : Unit => [kS h w q n, kA q cI L (z2_put w n 3 (z2_keepForm_v2 w n j a b c d e f) ((z0_reduce a b c d e f).2.2.2.1))]) (wn := fun uu : Unit => [kS h w q n, kA q cI L (z2_put w n 3 (z2_keepForm_v2 w n j a b c d e f) ((z0_reduce a b c d e f).2.2.2.1)), kF g ((z0_reduce a b c d e f).1) ((z0_reduce a b c d e f).2.1) ((z0_reduce a b c d e f).2.2.1) ((z0_reduce a b c d e f).2.2.2.1) ((z0_reduce a b c d e f).2.2.2.2.1) ((z0_reduce a b c d e f).2.2.2.2.2)]) (va_runV (As := [.int 3, .long ((z0_reduce a b c d e f).2.2.2.1)]) (rest := []) ⟨hx, hb, hml, hown, hts⟩ (c_X2_put l D cI cJ h q L w n 3 (z2_keepForm_v2 w n j a b c d e f) ((z0_reduce a b c d e f).2.2.2.1) hs _) (cwV 2 hts gX2_keepForm_X2_put rfl rfl rfl (by decide +kernel) ⟨Nat.le_of_ble_eq_true rfl, Nat.le_of_ble_eq_true rfl⟩) ⟨gd_blP, va_recv hK.1 hPc (ci := 2) (q0 := 0) rfl rfl, gd_prP hPc hK hDc⟩ rfl rfl hl.1 rfl (lv_room (Nat.le_of_ble_eq_true rfl)) dX2_keepForm_50 ⟨Nat.zero_le _, Nat.zero_le _⟩) hP hD hS hA [0, 1] [2] rfl rfl (by decide) (by decide) [1, 2, 0] (by decide) (fun _ => rfl) (fun uG H locs hw hP hD hS => ?_)
    have hP : va_P D vwCl [kS h w q n, kA q cI L (z2_put w n 3 (z2_keepForm_v2 w n j a b c d e f) ((z0_reduce a b c d e f).2.2.2.1)), kF g ((z0_reduce a b c d e f).1) ((z0_reduce a b c d e f).2.1) ((z0_reduce a b c d e f).2.2.1) ((z0_reduce a b c d e f).2.2.2.1) ((z0_reduce a b c d e f).2.2.2.2.1) ((z0_reduce a b c d e f).2.2.2.2.2)] H := hP
    have hD : va_D A [kS h w q n, kA q cI L (z2_put w n 3 (z2_keepForm_v2 w n j a b c d e f) ((z0_reduce a b c d e f).2.2.2.1)), kF g ((z0_reduce a b c d e f).1) ((z0_reduce a b c d e f).2.1) ((z0_reduce a b c d e f).2.2.1) ((z0_reduce a b c d e f).2.2.2.1) ((z0_reduce a b c d e f).2.2.2.2.1) ((z0_reduce a b c d e f).2.2.2.2.2)] := hD
    clear hPc hDc
    refine lv_aload_n hx hb dX2_keepForm_53 rfl (lv_at hl 0 rfl) ?_
    refine lv_iconst (v := 4) hx hb dX2_keepForm_54 (by decide) ?_
    refine lv_aload_n hx hb dX2_keepForm_55 rfl (lv_at hl 1 rfl) ?_
    refine va_getN (D := D) (ci := 0) (v := .long ((z0_reduce a b c d e f).2.2.2.2.1)) (C := RX0) (T := TX0) (N := 6) hx hb hts k_2 hown hK.1 hP 2 rfl rfl 4 (by decide) (nw_f hK.2 26 rfl) (fun _ h9 => h9) rfl dX2_keepForm_56 ?_
    have hPc := hP.sub (ws' := [kS h w q n, kA q cI L (z2_put w n 3 (z2_keepForm_v2 w n j a b c d e f) ((z0_reduce a b c d e f).2.2.2.1))]) [0, 1] rfl
    have hDc := hD.sub (ws' := [kS h w q n, kA q cI L (z2_put w n 3 (z2_keepForm_v2 w n j a b c d e f) ((z0_reduce a b c d e f).2.2.2.1))]) [0, 1] (by decide) rfl
    refine cl_v (wc := [kS h w q n, kA q cI L (z2_put w n 3 (z2_keepForm_v2 w n j a b c d e f) ((z0_reduce a b c d e f).2.2.2.1))]) (wr := [kF g ((z0_reduce a b c d e f).1) ((z0_reduce a b c d e f).2.1) ((z0_reduce a b c d e f).2.2.1) ((z0_reduce a b c d e f).2.2.2.1) ((z0_reduce a b c d e f).2.2.2.2.1) ((z0_reduce a b c d e f).2.2.2.2.2)]) (w1 := fun uu : Unit => [kS h w q n, kA q cI L (z2_put w n 4 (z2_put w n 3 (z2_keepForm_v2 w n j a b c d e f) ((z0_reduce a b c d e f).2.2.2.1)) ((z0_reduce a b c d e f).2.2.2.2.1))]) (wn := fun uu : Unit => [kS h w q n, kA q cI L (z2_put w n 4 (z2_put w n 3 (z2_keepForm_v2 w n j a b c d e f) ((z0_reduce a b c d e f).2.2.2.1)) ((z0_reduce a b c d e f).2.2.2.2.1)), kF g ((z0_reduce a b c d e f).1) ((z0_reduce a b c d e f).2.1) ((z0_reduce a b c d e f).2.2.1) ((z0_reduce a b c d e f).2.2.2.1) ((z0_reduce a b c d e f).2.2.2.2.1) ((z0_reduce a b c d e f).2.2.2.2.2)]) (va_runV (As := [.int 4, .long ((z0_reduce a b c d e f).2.2.2.2.1)]) (rest := []) ⟨hx, hb, hml, hown, hts⟩ (c_X2_put l D cI cJ h q L w n 4 (z2_put w n 3 (z2_keepForm_v2 w n j a b c d e f) ((z0_reduce a b c d e f).2.2.2.1)) ((z0_reduce a b c d e f).2.2.2.2.1) hs _) (cwV 2 hts gX2_keepForm_X2_put rfl rfl rfl (by decide +kernel) ⟨Nat.le_of_ble_eq_true rfl, Nat.le_of_ble_eq_true rfl⟩) ⟨gd_blP, va_recv hK.1 hPc (ci := 2) (q0 := 0) rfl rfl, gd_prP hPc hK hDc⟩ rfl rfl hl.1 rfl (lv_room (Nat.le_of_ble_eq_true rfl)) dX2_keepForm_59 ⟨Nat.zero_le _, Nat.zero_le _⟩) hP hD hS hA [0, 1] [2] rfl rfl (by decide) (by decide) [1, 2, 0] (by decide) (fun _ => rfl) (fun uG H locs hw hP hD hS => ?_)
    have hP : va_P D vwCl [kS h w q n, kA q cI L (z2_put w n 4 (z2_put w n 3 (z2_keepForm_v2 w n j a b c d e f) ((z0_reduce a b c d e f).2.2.2.1)) ((z0_reduce a b c d e f).2.2.2.2.1)), kF g ((z0_reduce a b c d e f).1) ((z0_reduce a b c d e f).2.1) ((z0_reduce a b c d e f).2.2.1) ((z0_reduce a b c d e f).2.2.2.1) ((z0_reduce a b c d e f).2.2.2.2.1) ((z0_reduce a b c d e f).2.2.2.2.2)] H := hP
    have hD : va_D A [kS h w q n, kA q cI L (z2_put w n 4 (z2_put w n 3 (z2_keepForm_v2 w n j a b c d e f) ((z0_reduce a b c d e f).2.2.2.1)) ((z0_reduce a b c d e f).2.2.2.2.1)), kF g ((z0_reduce a b c d e f).1) ((z0_reduce a b c d e f).2.1) ((z0_reduce a b c d e f).2.2.1) ((z0_reduce a b c d e f).2.2.2.1) ((z0_reduce a b c d e f).2.2.2.2.1) ((z0_reduce a b c d e f).2.2.2.2.2)] := hD
    have ea_0 : z2_put w n 4 (z2_put w n 3 (z2_keepForm_v2 w n j a b c d e f) ((z0_reduce a b c d e f).2.2.2.1)) ((z0_reduce a b c d e f).2.2.2.2.1) = z2_keepForm_v3 w n j a b c d e f := by delta z2_keepForm_v3; rfl
    rw [ea_0] at hP hD
    clear ea_0
    clear hPc hDc
    refine lv_aload_n hx hb dX2_keepForm_62 rfl (lv_at hl 0 rfl) ?_
    refine lv_iconst (v := 5) hx hb dX2_keepForm_63 (by decide) ?_
    refine lv_aload_n hx hb dX2_keepForm_64 rfl (lv_at hl 1 rfl) ?_
    refine va_getN (D := D) (ci := 0) (v := .long ((z0_reduce a b c d e f).2.2.2.2.2)) (C := RX0) (T := TX0) (N := 6) hx hb hts k_2 hown hK.1 hP 2 rfl rfl 5 (by decide) (nw_f hK.2 29 rfl) (fun _ h9 => h9) rfl dX2_keepForm_65 ?_
    have hPc := hP.sub (ws' := [kS h w q n, kA q cI L (z2_keepForm_v3 w n j a b c d e f)]) [0, 1] rfl
    have hDc := hD.sub (ws' := [kS h w q n, kA q cI L (z2_keepForm_v3 w n j a b c d e f)]) [0, 1] (by decide) rfl
    refine cl_v (wc := [kS h w q n, kA q cI L (z2_keepForm_v3 w n j a b c d e f)]) (wr := [kF g ((z0_reduce a b c d e f).1) ((z0_reduce a b c d e f).2.1) ((z0_reduce a b c d e f).2.2.1) ((z0_reduce a b c d e f).2.2.2.1) ((z0_reduce a b c d e f).2.2.2.2.1) ((z0_reduce a b c d e f).2.2.2.2.2)]) (w1 := fun uu : Unit => [kS h w q n, kA q cI L (z2_put w n 5 (z2_keepForm_v3 w n j a b c d e f) ((z0_reduce a b c d e f).2.2.2.2.2))]) (wn := fun uu : Unit => [kS h w q n, kA q cI L (z2_put w n 5 (z2_keepForm_v3 w n j a b c d e f) ((z0_reduce a b c d e f).2.2.2.2.2)), kF g ((z0_reduce a b c d e f).1) ((z0_reduce a b c d e f).2.1) ((z0_reduce a b c d e f).2.2.1) ((z0_reduce a b c d e f).2.2.2.1) ((z0_reduce a b c d e f).2.2.2.2.1) ((z0_reduce a b c d e f).2.2.2.2.2)]) (va_runV (As := [.int 5, .long ((z0_reduce a b c d e f).2.2.2.2.2)]) (rest := []) ⟨hx, hb, hml, hown, hts⟩ (c_X2_put l D cI cJ h q L w n 5 (z2_keepForm_v3 w n j a b c d e f) ((z0_reduce a b c d e f).2.2.2.2.2) hs _) (cwV 2 hts gX2_keepForm_X2_put rfl rfl rfl (by decide +kernel) ⟨Nat.le_of_ble_eq_true rfl, Nat.le_of_ble_eq_true rfl⟩) ⟨gd_blP, va_recv hK.1 hPc (ci := 2) (q0 := 0) rfl rfl, gd_prP hPc hK hDc⟩ rfl rfl hl.1 rfl (lv_room (Nat.le_of_ble_eq_true rfl)) dX2_keepForm_68 ⟨Nat.zero_le _, Nat.zero_le _⟩) hP hD hS hA [0, 1] [2] rfl rfl (by decide) (by decide) [1, 2, 0] (by decide) (fun _ => rfl) (fun uG H locs hw hP hD hS => ?_)
    have hP : va_P D vwCl [kS h w q n, kA q cI L (z2_put w n 5 (z2_keepForm_v3 w n j a b c d e f) ((z0_reduce a b c d e f).2.2.2.2.2)), kF g ((z0_reduce a b c d e f).1) ((z0_reduce a b c d e f).2.1) ((z0_reduce a b c d e f).2.2.1) ((z0_reduce a b c d e f).2.2.2.1) ((z0_reduce a b c d e f).2.2.2.2.1) ((z0_reduce a b c d e f).2.2.2.2.2)] H := hP
    have hD : va_D A [kS h w q n, kA q cI L (z2_put w n 5 (z2_keepForm_v3 w n j a b c d e f) ((z0_reduce a b c d e f).2.2.2.2.2)), kF g ((z0_reduce a b c d e f).1) ((z0_reduce a b c d e f).2.1) ((z0_reduce a b c d e f).2.2.1) ((z0_reduce a b c d e f).2.2.2.1) ((z0_reduce a b c d e f).2.2.2.2.1) ((z0_reduce a b c d e f).2.2.2.2.2)] := hD
    clear hPc hDc
    refine lv_aload_n hx hb dX2_keepForm_71 rfl (lv_at hl 0 rfl) ?_
    have hPc := hP.sub (ws' := [kS h w q n]) [0] rfl
    have hDc := hD.sub (ws' := [kS h w q n]) [0] (by decide) rfl
    refine cl_i (wc := [kS h w q n]) (wr := [kA q cI L (z2_put w n 5 (z2_keepForm_v3 w n j a b c d e f) ((z0_reduce a b c d e f).2.2.2.2.2)), kF g ((z0_reduce a b c d e f).1) ((z0_reduce a b c d e f).2.1) ((z0_reduce a b c d e f).2.2.1) ((z0_reduce a b c d e f).2.2.2.1) ((z0_reduce a b c d e f).2.2.2.2.1) ((z0_reduce a b c d e f).2.2.2.2.2)]) (w1 := fun uu : Unit => [kS h w q ((z2_close n).2)]) (wn := fun uu : Unit => [kS h w q ((z2_close n).2), kA q cI L (z2_put w n 5 (z2_keepForm_v3 w n j a b c d e f) ((z0_reduce a b c d e f).2.2.2.2.2)), kF g ((z0_reduce a b c d e f).1) ((z0_reduce a b c d e f).2.1) ((z0_reduce a b c d e f).2.2.1) ((z0_reduce a b c d e f).2.2.2.1) ((z0_reduce a b c d e f).2.2.2.2.1) ((z0_reduce a b c d e f).2.2.2.2.2)]) (va_runV (As := []) (rest := []) ⟨hx, hb, hml, hown, hts⟩ (c_X2_close l D cI cJ h q w n _) (cwV 0 hts gX2_keepForm_X2_close rfl rfl rfl (by decide +kernel) ⟨Nat.le_of_ble_eq_true rfl, Nat.le_of_ble_eq_true rfl⟩) ⟨gd_blP, va_recv hK.1 hPc (ci := 2) (q0 := 0) rfl rfl, gd_prP hPc hK hDc⟩ rfl rfl hl.1 rfl (lv_room (Nat.le_of_ble_eq_true rfl)) dX2_keepForm_72 ⟨Nat.zero_le _, Nat.zero_le _⟩) hP hD hS hA [0] [1, 2] rfl rfl (by decide) (by decide) [2, 0, 1] (by decide) (fun _ => rfl) (fun r_72 uG H locs hw hP hD hS => ?_)
    have hP : va_P D vwCl [kS h w q ((z2_close n).2), kA q cI L (z2_put w n 5 (z2_keepForm_v3 w n j a b c d e f) ((z0_reduce a b c d e f).2.2.2.2.2)), kF g ((z0_reduce a b c d e f).1) ((z0_reduce a b c d e f).2.1) ((z0_reduce a b c d e f).2.2.1) ((z0_reduce a b c d e f).2.2.2.1) ((z0_reduce a b c d e f).2.2.2.2.1) ((z0_reduce a b c d e f).2.2.2.2.2)] H := hP
    have hD : va_D A [kS h w q ((z2_close n).2), kA q cI L (z2_put w n 5 (z2_keepForm_v3 w n j a b c d e f) ((z0_reduce a b c d e f).2.2.2.2.2)), kF g ((z0_reduce a b c d e f).1) ((z0_reduce a b c d e f).2.1) ((z0_reduce a b c d e f).2.2.1) ((z0_reduce a b c d e f).2.2.2.1) ((z0_reduce a b c d e f).2.2.2.2.1) ((z0_reduce a b c d e f).2.2.2.2.2)] := hD
    subst hw
    clear hPc hDc
    have he : z2_keepForm w n j a b c d e f = ((z2_close n).1, (z2_close n).2, z2_put w n 5 (z2_keepForm_v3 w n j a b c d e f) ((z0_reduce a b c d e f).2.2.2.2.2), (z0_reduce a b c d e f).1, (z0_reduce a b c d e f).2.1, (z0_reduce a b c d e f).2.2.1, (z0_reduce a b c d e f).2.2.2.1, (z0_reduce a b c d e f).2.2.2.2.1, (z0_reduce a b c d e f).2.2.2.2.2) := by unfold z2_keepForm; rw [if_neg c_1]
    have he_0 : (z2_keepForm w n j a b c d e f).1 = (z2_close n).1 := by rw [he]
    have he_1 : (z2_keepForm w n j a b c d e f).2.1 = (z2_close n).2 := by rw [he]
    have he_2 : (z2_keepForm w n j a b c d e f).2.2.1 = z2_put w n 5 (z2_keepForm_v3 w n j a b c d e f) ((z0_reduce a b c d e f).2.2.2.2.2) := by rw [he]
    have he_3 : (z2_keepForm w n j a b c d e f).2.2.2.1 = (z0_reduce a b c d e f).1 := by rw [he]
    have he_4 : (z2_keepForm w n j a b c d e f).2.2.2.2.1 = (z0_reduce a b c d e f).2.1 := by rw [he]
    have he_5 : (z2_keepForm w n j a b c d e f).2.2.2.2.2.1 = (z0_reduce a b c d e f).2.2.1 := by rw [he]
    have he_6 : (z2_keepForm w n j a b c d e f).2.2.2.2.2.2.1 = (z0_reduce a b c d e f).2.2.2.1 := by rw [he]
    have he_7 : (z2_keepForm w n j a b c d e f).2.2.2.2.2.2.2.1 = (z0_reduce a b c d e f).2.2.2.2.1 := by rw [he]
    have he_8 : (z2_keepForm w n j a b c d e f).2.2.2.2.2.2.2.2 = (z0_reduce a b c d e f).2.2.2.2.2 := by rw [he]
    exact rt_i (w1 := fun uu : Unit => [kS h w q ((z2_keepForm w n j a b c d e f).2.1), kA q cI L ((z2_keepForm w n j a b c d e f).2.2.1), kF g ((z2_keepForm w n j a b c d e f).2.2.2.1) ((z2_keepForm w n j a b c d e f).2.2.2.2.1) ((z2_keepForm w n j a b c d e f).2.2.2.2.2.1) ((z2_keepForm w n j a b c d e f).2.2.2.2.2.2.1) ((z2_keepForm w n j a b c d e f).2.2.2.2.2.2.2.1) ((z2_keepForm w n j a b c d e f).2.2.2.2.2.2.2.2)]) hx hb hr hlk hS dX2_keepForm_75 (()) he_0.symm (by rw [he_1, he_2, he_3, he_4, he_5, he_6, he_7, he_8]; exact hP) (by rw [he_1, he_2, he_3, he_4, he_5, he_6, he_7, he_8]; exact hD)
  · skip
    refine lv_ldc hx hb hown k_3 dX2_keepForm_14 ?_
    have he : z2_keepForm w n j a b c d e f = ((-1000006), n, j, (z0_reduce a b c d e f).1, (z0_reduce a b c d e f).2.1, (z0_reduce a b c d e f).2.2.1, (z0_reduce a b c d e f).2.2.2.1, (z0_reduce a b c d e f).2.2.2.2.1, (z0_reduce a b c d e f).2.2.2.2.2) := by unfold z2_keepForm; rw [if_pos c_1]
    have he_0 : (z2_keepForm w n j a b c d e f).1 = (-1000006) := by rw [he]
    have he_1 : (z2_keepForm w n j a b c d e f).2.1 = n := by rw [he]
    have he_2 : (z2_keepForm w n j a b c d e f).2.2.1 = j := by rw [he]
    have he_3 : (z2_keepForm w n j a b c d e f).2.2.2.1 = (z0_reduce a b c d e f).1 := by rw [he]
    have he_4 : (z2_keepForm w n j a b c d e f).2.2.2.2.1 = (z0_reduce a b c d e f).2.1 := by rw [he]
    have he_5 : (z2_keepForm w n j a b c d e f).2.2.2.2.2.1 = (z0_reduce a b c d e f).2.2.1 := by rw [he]
    have he_6 : (z2_keepForm w n j a b c d e f).2.2.2.2.2.2.1 = (z0_reduce a b c d e f).2.2.2.1 := by rw [he]
    have he_7 : (z2_keepForm w n j a b c d e f).2.2.2.2.2.2.2.1 = (z0_reduce a b c d e f).2.2.2.2.1 := by rw [he]
    have he_8 : (z2_keepForm w n j a b c d e f).2.2.2.2.2.2.2.2 = (z0_reduce a b c d e f).2.2.2.2.2 := by rw [he]
    exact rt_i (w1 := fun uu : Unit => [kS h w q ((z2_keepForm w n j a b c d e f).2.1), kA q cI L ((z2_keepForm w n j a b c d e f).2.2.1), kF g ((z2_keepForm w n j a b c d e f).2.2.2.1) ((z2_keepForm w n j a b c d e f).2.2.2.2.1) ((z2_keepForm w n j a b c d e f).2.2.2.2.2.1) ((z2_keepForm w n j a b c d e f).2.2.2.2.2.2.1) ((z2_keepForm w n j a b c d e f).2.2.2.2.2.2.2.1) ((z2_keepForm w n j a b c d e f).2.2.2.2.2.2.2.2)]) hx hb hr hlk hS dX2_keepForm_16 (()) he_0.symm (by rw [he_1, he_2, he_3, he_4, he_5, he_6, he_7, he_8]; exact hP) (by rw [he_1, he_2, he_3, he_4, he_5, he_6, he_7, he_8]; exact hD)
