-- laid by wip/whole/gen
def z3_setTurn (a : Int64) (b : Int64) (c : Int64) (d : Int64) (e : Int64) (f : Int64) (v : Int64) : Int64 × Int64 × Int64 := if v = 0 then (0, 0, 0) else if a = 0 then if c = 0 then (((-d) / v), ((-e) / v), ((-f) / v)) else (((-b) / v), ((-c) / v), ((-e) / v)) else (((-a) / v), ((-b) / v), ((-d) / v))
set_option maxHeartbeats 4000000 in
set_option maxRecDepth 100000 in
/-- X3.setTurn -/
theorem c_X3_setTurn (l : Launch) (D : va_G) (cI cJ : ClassId) (h : Nat) (g : Nat) (r : Int64) (s : Int64) (t : Int64) (a : Int64) (b : Int64) (c : Int64) (d : Int64) (e : Int64) (f : Int64) (v : Int64) : mw_C l yX3_setTurn wsX3_setTurn ({ frames := 1, cells := 0, slots := 0, locals := 26 }) D cI cJ [.ref h, .ref g, .long v] [kT h r s t, kF g a b c d e f] (qe_v (fun _ : Unit => True) (fun uu => [kT h ((z3_setTurn a b c d e f v).1) ((z3_setTurn a b c d e f v).2.1) ((z3_setTurn a b c d e f v).2.2), kF g a b c d e f])) := by
  refine mw_in (cc := cX3_setTurn) (lv := [(0, .ref h), (1, .ref g), (2, .long v)]) (by decide) rfl (Nat.le_of_ble_eq_true rfl) rfl ?_
  intro pG eG sG mG below meth cG ls A hx hb hr hml hown hts hlk hin hP hK hD hA hS hl
  have hown : sG.vm.findClass RX3 = some mG.cls := hown
  have k_1 : ∀ w ∈ wsX00, w ∈ wsX3_setTurn := by decide +kernel
  refine lv_lload_n hx hb dX3_setTurn_0 rfl (lv_at hl 2 rfl) ?_
  refine lv_lconst (v := 0) hx hb dX3_setTurn_1 (by decide) ?_
  refine lb_ne (tgt := 16) hx hb dX3_setTurn_2 rfl dX3_setTurn_3 (by decide) (fun c_1 => ?_) (fun c_1 => ?_)
  · skip
    refine lv_aload_n hx hb dX3_setTurn_16 rfl (lv_at hl 1 rfl) ?_
    refine va_getN (D := D) (ci := 0) (v := .long a) (C := RX0) (T := TX0) (N := 6) hx hb hts k_1 hown hK.1 hP 1 rfl rfl 0 (by decide) (nw_f hK.2 15 rfl) (fun _ h9 => h9) rfl dX3_setTurn_17 ?_
    refine lv_lconst (v := 0) hx hb dX3_setTurn_20 (by decide) ?_
    refine lb_eq (tgt := 53) hx hb dX3_setTurn_21 rfl dX3_setTurn_22 (by decide) (fun c_2 => ?_) (fun c_2 => ?_)
    · skip
      refine lv_aload_n hx hb dX3_setTurn_53 rfl (lv_at hl 1 rfl) ?_
      refine va_getN (D := D) (ci := 0) (v := .long c) (C := RX0) (T := TX0) (N := 6) hx hb hts k_1 hown hK.1 hP 1 rfl rfl 2 (by decide) (nw_f hK.2 21 rfl) (fun _ h9 => h9) rfl dX3_setTurn_54 ?_
      refine lv_lconst (v := 0) hx hb dX3_setTurn_57 (by decide) ?_
      refine lb_eq (tgt := 90) hx hb dX3_setTurn_58 rfl dX3_setTurn_59 (by decide) (fun c_3 => ?_) (fun c_3 => ?_)
      · skip
        refine lv_aload_n hx hb dX3_setTurn_90 rfl (lv_at hl 0 rfl) ?_
        refine lv_aload_n hx hb dX3_setTurn_91 rfl (lv_at hl 1 rfl) ?_
        refine va_getN (D := D) (ci := 0) (v := .long d) (C := RX0) (T := TX0) (N := 6) hx hb hts k_1 hown hK.1 hP 1 rfl rfl 3 (by decide) (nw_f hK.2 24 rfl) (fun _ h9 => h9) rfl dX3_setTurn_92 ?_
        refine lv_lneg hx hb dX3_setTurn_95 ?_
        refine lv_lload_n hx hb dX3_setTurn_96 rfl (lv_at hl 2 rfl) ?_
        refine lv_ldiv hx hb dX3_setTurn_97 c_1 ?_
        refine lv_aload_n hx hb dX3_setTurn_98 rfl (lv_at hl 1 rfl) ?_
        refine va_getN (D := D) (ci := 0) (v := .long e) (C := RX0) (T := TX0) (N := 6) hx hb hts k_1 hown hK.1 hP 1 rfl rfl 4 (by decide) (nw_f hK.2 27 rfl) (fun _ h9 => h9) rfl dX3_setTurn_99 ?_
        refine lv_lneg hx hb dX3_setTurn_102 ?_
        refine lv_lload_n hx hb dX3_setTurn_103 rfl (lv_at hl 2 rfl) ?_
        refine lv_ldiv hx hb dX3_setTurn_104 c_1 ?_
        refine lv_aload_n hx hb dX3_setTurn_105 rfl (lv_at hl 1 rfl) ?_
        refine va_getN (D := D) (ci := 0) (v := .long f) (C := RX0) (T := TX0) (N := 6) hx hb hts k_1 hown hK.1 hP 1 rfl rfl 5 (by decide) (nw_f hK.2 30 rfl) (fun _ h9 => h9) rfl dX3_setTurn_106 ?_
        refine lv_lneg hx hb dX3_setTurn_109 ?_
        refine lv_lload_n hx hb dX3_setTurn_110 rfl (lv_at hl 2 rfl) ?_
        refine lv_ldiv hx hb dX3_setTurn_111 c_1 ?_
        have hPc := hP.sub (ws' := [kT h r s t]) [0] rfl
        have hDc := hD.sub (ws' := [kT h r s t]) [0] (by decide) rfl
        refine cl_v (wc := [kT h r s t]) (wr := [kF g a b c d e f]) (w1 := fun uu : Unit => [kT h ((-d) / v) ((-e) / v) ((-f) / v)]) (wn := fun uu : Unit => [kT h ((-d) / v) ((-e) / v) ((-f) / v), kF g a b c d e f]) (va_runV (As := [.long ((-d) / v), .long ((-e) / v), .long ((-f) / v)]) (rest := []) ⟨hx, hb, hml, hown, hts⟩ (c_X3_set l D cI cJ h r s t ((-d) / v) ((-e) / v) ((-f) / v) _) (cwV 3 hts gX3_setTurn_X3_set rfl rfl rfl (by decide +kernel) ⟨Nat.le_of_ble_eq_true rfl, Nat.le_of_ble_eq_true rfl⟩) ⟨gd_blP, va_recv hK.1 hPc (ci := 3) (q0 := 0) rfl rfl, gd_prP hPc hK hDc⟩ rfl rfl hl.1 rfl (lv_room (Nat.le_of_ble_eq_true rfl)) dX3_setTurn_112 ⟨Nat.zero_le _, Nat.zero_le _⟩) hP hD hS hA [0] [1] rfl rfl (by decide) (by decide) [1, 0] (by decide) (fun _ => rfl) (fun uG H locs hw hP hD hS => ?_)
        have hP : va_P D vwCl [kT h ((-d) / v) ((-e) / v) ((-f) / v), kF g a b c d e f] H := hP
        have hD : va_D A [kT h ((-d) / v) ((-e) / v) ((-f) / v), kF g a b c d e f] := hD
        clear hPc hDc
        have he : z3_setTurn a b c d e f v = (((-d) / v), ((-e) / v), ((-f) / v)) := by unfold z3_setTurn; rw [if_neg c_1, if_pos c_2, if_pos c_3]
        have he_0 : (z3_setTurn a b c d e f v).1 = ((-d) / v) := by rw [he]
        have he_1 : (z3_setTurn a b c d e f v).2.1 = ((-e) / v) := by rw [he]
        have he_2 : (z3_setTurn a b c d e f v).2.2 = ((-f) / v) := by rw [he]
        exact rt_v (w1 := fun uu : Unit => [kT h ((z3_setTurn a b c d e f v).1) ((z3_setTurn a b c d e f v).2.1) ((z3_setTurn a b c d e f v).2.2), kF g a b c d e f]) hx hb hr hlk hS dX3_setTurn_115 (()) trivial (by rw [he_0, he_1, he_2]; exact hP) (by rw [he_0, he_1, he_2]; exact hD)
      · skip
        refine lv_aload_n hx hb dX3_setTurn_62 rfl (lv_at hl 0 rfl) ?_
        refine lv_aload_n hx hb dX3_setTurn_63 rfl (lv_at hl 1 rfl) ?_
        refine va_getN (D := D) (ci := 0) (v := .long b) (C := RX0) (T := TX0) (N := 6) hx hb hts k_1 hown hK.1 hP 1 rfl rfl 1 (by decide) (nw_f hK.2 18 rfl) (fun _ h9 => h9) rfl dX3_setTurn_64 ?_
        refine lv_lneg hx hb dX3_setTurn_67 ?_
        refine lv_lload_n hx hb dX3_setTurn_68 rfl (lv_at hl 2 rfl) ?_
        refine lv_ldiv hx hb dX3_setTurn_69 c_1 ?_
        refine lv_aload_n hx hb dX3_setTurn_70 rfl (lv_at hl 1 rfl) ?_
        refine va_getN (D := D) (ci := 0) (v := .long c) (C := RX0) (T := TX0) (N := 6) hx hb hts k_1 hown hK.1 hP 1 rfl rfl 2 (by decide) (nw_f hK.2 21 rfl) (fun _ h9 => h9) rfl dX3_setTurn_71 ?_
        refine lv_lneg hx hb dX3_setTurn_74 ?_
        refine lv_lload_n hx hb dX3_setTurn_75 rfl (lv_at hl 2 rfl) ?_
        refine lv_ldiv hx hb dX3_setTurn_76 c_1 ?_
        refine lv_aload_n hx hb dX3_setTurn_77 rfl (lv_at hl 1 rfl) ?_
        refine va_getN (D := D) (ci := 0) (v := .long e) (C := RX0) (T := TX0) (N := 6) hx hb hts k_1 hown hK.1 hP 1 rfl rfl 4 (by decide) (nw_f hK.2 27 rfl) (fun _ h9 => h9) rfl dX3_setTurn_78 ?_
        refine lv_lneg hx hb dX3_setTurn_81 ?_
        refine lv_lload_n hx hb dX3_setTurn_82 rfl (lv_at hl 2 rfl) ?_
        refine lv_ldiv hx hb dX3_setTurn_83 c_1 ?_
        have hPc := hP.sub (ws' := [kT h r s t]) [0] rfl
        have hDc := hD.sub (ws' := [kT h r s t]) [0] (by decide) rfl
        refine cl_v (wc := [kT h r s t]) (wr := [kF g a b c d e f]) (w1 := fun uu : Unit => [kT h ((-b) / v) ((-c) / v) ((-e) / v)]) (wn := fun uu : Unit => [kT h ((-b) / v) ((-c) / v) ((-e) / v), kF g a b c d e f]) (va_runV (As := [.long ((-b) / v), .long ((-c) / v), .long ((-e) / v)]) (rest := []) ⟨hx, hb, hml, hown, hts⟩ (c_X3_set l D cI cJ h r s t ((-b) / v) ((-c) / v) ((-e) / v) _) (cwV 3 hts gX3_setTurn_X3_set rfl rfl rfl (by decide +kernel) ⟨Nat.le_of_ble_eq_true rfl, Nat.le_of_ble_eq_true rfl⟩) ⟨gd_blP, va_recv hK.1 hPc (ci := 3) (q0 := 0) rfl rfl, gd_prP hPc hK hDc⟩ rfl rfl hl.1 rfl (lv_room (Nat.le_of_ble_eq_true rfl)) dX3_setTurn_84 ⟨Nat.zero_le _, Nat.zero_le _⟩) hP hD hS hA [0] [1] rfl rfl (by decide) (by decide) [1, 0] (by decide) (fun _ => rfl) (fun uG H locs hw hP hD hS => ?_)
        have hP : va_P D vwCl [kT h ((-b) / v) ((-c) / v) ((-e) / v), kF g a b c d e f] H := hP
        have hD : va_D A [kT h ((-b) / v) ((-c) / v) ((-e) / v), kF g a b c d e f] := hD
        clear hPc hDc
        refine lv_goto (tgt := 115) hx hb dX3_setTurn_87 (by decide) ?_
        have he : z3_setTurn a b c d e f v = (((-b) / v), ((-c) / v), ((-e) / v)) := by unfold z3_setTurn; rw [if_neg c_1, if_pos c_2, if_neg c_3]
        have he_0 : (z3_setTurn a b c d e f v).1 = ((-b) / v) := by rw [he]
        have he_1 : (z3_setTurn a b c d e f v).2.1 = ((-c) / v) := by rw [he]
        have he_2 : (z3_setTurn a b c d e f v).2.2 = ((-e) / v) := by rw [he]
        exact rt_v (w1 := fun uu : Unit => [kT h ((z3_setTurn a b c d e f v).1) ((z3_setTurn a b c d e f v).2.1) ((z3_setTurn a b c d e f v).2.2), kF g a b c d e f]) hx hb hr hlk hS dX3_setTurn_115 (()) trivial (by rw [he_0, he_1, he_2]; exact hP) (by rw [he_0, he_1, he_2]; exact hD)
    · skip
      refine lv_aload_n hx hb dX3_setTurn_25 rfl (lv_at hl 0 rfl) ?_
      refine lv_aload_n hx hb dX3_setTurn_26 rfl (lv_at hl 1 rfl) ?_
      refine va_getN (D := D) (ci := 0) (v := .long a) (C := RX0) (T := TX0) (N := 6) hx hb hts k_1 hown hK.1 hP 1 rfl rfl 0 (by decide) (nw_f hK.2 15 rfl) (fun _ h9 => h9) rfl dX3_setTurn_27 ?_
      refine lv_lneg hx hb dX3_setTurn_30 ?_
      refine lv_lload_n hx hb dX3_setTurn_31 rfl (lv_at hl 2 rfl) ?_
      refine lv_ldiv hx hb dX3_setTurn_32 c_1 ?_
      refine lv_aload_n hx hb dX3_setTurn_33 rfl (lv_at hl 1 rfl) ?_
      refine va_getN (D := D) (ci := 0) (v := .long b) (C := RX0) (T := TX0) (N := 6) hx hb hts k_1 hown hK.1 hP 1 rfl rfl 1 (by decide) (nw_f hK.2 18 rfl) (fun _ h9 => h9) rfl dX3_setTurn_34 ?_
      refine lv_lneg hx hb dX3_setTurn_37 ?_
      refine lv_lload_n hx hb dX3_setTurn_38 rfl (lv_at hl 2 rfl) ?_
      refine lv_ldiv hx hb dX3_setTurn_39 c_1 ?_
      refine lv_aload_n hx hb dX3_setTurn_40 rfl (lv_at hl 1 rfl) ?_
      refine va_getN (D := D) (ci := 0) (v := .long d) (C := RX0) (T := TX0) (N := 6) hx hb hts k_1 hown hK.1 hP 1 rfl rfl 3 (by decide) (nw_f hK.2 24 rfl) (fun _ h9 => h9) rfl dX3_setTurn_41 ?_
      refine lv_lneg hx hb dX3_setTurn_44 ?_
      refine lv_lload_n hx hb dX3_setTurn_45 rfl (lv_at hl 2 rfl) ?_
      refine lv_ldiv hx hb dX3_setTurn_46 c_1 ?_
      have hPc := hP.sub (ws' := [kT h r s t]) [0] rfl
      have hDc := hD.sub (ws' := [kT h r s t]) [0] (by decide) rfl
      refine cl_v (wc := [kT h r s t]) (wr := [kF g a b c d e f]) (w1 := fun uu : Unit => [kT h ((-a) / v) ((-b) / v) ((-d) / v)]) (wn := fun uu : Unit => [kT h ((-a) / v) ((-b) / v) ((-d) / v), kF g a b c d e f]) (va_runV (As := [.long ((-a) / v), .long ((-b) / v), .long ((-d) / v)]) (rest := []) ⟨hx, hb, hml, hown, hts⟩ (c_X3_set l D cI cJ h r s t ((-a) / v) ((-b) / v) ((-d) / v) _) (cwV 3 hts gX3_setTurn_X3_set rfl rfl rfl (by decide +kernel) ⟨Nat.le_of_ble_eq_true rfl, Nat.le_of_ble_eq_true rfl⟩) ⟨gd_blP, va_recv hK.1 hPc (ci := 3) (q0 := 0) rfl rfl, gd_prP hPc hK hDc⟩ rfl rfl hl.1 rfl (lv_room (Nat.le_of_ble_eq_true rfl)) dX3_setTurn_47 ⟨Nat.zero_le _, Nat.zero_le _⟩) hP hD hS hA [0] [1] rfl rfl (by decide) (by decide) [1, 0] (by decide) (fun _ => rfl) (fun uG H locs hw hP hD hS => ?_)
      have hP : va_P D vwCl [kT h ((-a) / v) ((-b) / v) ((-d) / v), kF g a b c d e f] H := hP
      have hD : va_D A [kT h ((-a) / v) ((-b) / v) ((-d) / v), kF g a b c d e f] := hD
      clear hPc hDc
      refine lv_goto (tgt := 115) hx hb dX3_setTurn_50 (by decide) ?_
      have he : z3_setTurn a b c d e f v = (((-a) / v), ((-b) / v), ((-d) / v)) := by unfold z3_setTurn; rw [if_neg c_1, if_neg c_2]
      have he_0 : (z3_setTurn a b c d e f v).1 = ((-a) / v) := by rw [he]
      have he_1 : (z3_setTurn a b c d e f v).2.1 = ((-b) / v) := by rw [he]
      have he_2 : (z3_setTurn a b c d e f v).2.2 = ((-d) / v) := by rw [he]
      exact rt_v (w1 := fun uu : Unit => [kT h ((z3_setTurn a b c d e f v).1) ((z3_setTurn a b c d e f v).2.1) ((z3_setTurn a b c d e f v).2.2), kF g a b c d e f]) hx hb hr hlk hS dX3_setTurn_115 (()) trivial (by rw [he_0, he_1, he_2]; exact hP) (by rw [he_0, he_1, he_2]; exact hD)
  · skip
    refine lv_aload_n hx hb dX3_setTurn_6 rfl (lv_at hl 0 rfl) ?_
    refine lv_lconst (v := 0) hx hb dX3_setTurn_7 (by decide) ?_
    refine lv_lconst (v := 0) hx hb dX3_setTurn_8 (by decide) ?_
    refine lv_lconst (v := 0) hx hb dX3_setTurn_9 (by decide) ?_
    have hPc := hP.sub (ws' := [kT h r s t]) [0] rfl
    have hDc := hD.sub (ws' := [kT h r s t]) [0] (by decide) rfl
    refine cl_v (wc := [kT h r s t]) (wr := [kF g a b c d e f]) (w1 := fun uu : Unit => [kT h 0 0 0]) (wn := fun uu : Unit => [kT h 0 0 0, kF g a b c d e f]) (va_runV (As := [.long 0, .long 0, .long 0]) (rest := []) ⟨hx, hb, hml, hown, hts⟩ (c_X3_set l D cI cJ h r s t 0 0 0 _) (cwV 3 hts gX3_setTurn_X3_set rfl rfl rfl (by decide +kernel) ⟨Nat.le_of_ble_eq_true rfl, Nat.le_of_ble_eq_true rfl⟩) ⟨gd_blP, va_recv hK.1 hPc (ci := 3) (q0 := 0) rfl rfl, gd_prP hPc hK hDc⟩ rfl rfl hl.1 rfl (lv_room (Nat.le_of_ble_eq_true rfl)) dX3_setTurn_10 ⟨Nat.zero_le _, Nat.zero_le _⟩) hP hD hS hA [0] [1] rfl rfl (by decide) (by decide) [1, 0] (by decide) (fun _ => rfl) (fun uG H locs hw hP hD hS => ?_)
    have hP : va_P D vwCl [kT h 0 0 0, kF g a b c d e f] H := hP
    have hD : va_D A [kT h 0 0 0, kF g a b c d e f] := hD
    clear hPc hDc
    refine lv_goto (tgt := 115) hx hb dX3_setTurn_13 (by decide) ?_
    have he : z3_setTurn a b c d e f v = (0, 0, 0) := by unfold z3_setTurn; rw [if_pos c_1]
    have he_0 : (z3_setTurn a b c d e f v).1 = 0 := by rw [he]
    have he_1 : (z3_setTurn a b c d e f v).2.1 = 0 := by rw [he]
    have he_2 : (z3_setTurn a b c d e f v).2.2 = 0 := by rw [he]
    exact rt_v (w1 := fun uu : Unit => [kT h ((z3_setTurn a b c d e f v).1) ((z3_setTurn a b c d e f v).2.1) ((z3_setTurn a b c d e f v).2.2), kF g a b c d e f]) hx hb hr hlk hS dX3_setTurn_115 (()) trivial (by rw [he_0, he_1, he_2]; exact hP) (by rw [he_0, he_1, he_2]; exact hD)
def z3_setRow (a : Int64) (b : Int64) (c : Int64) (d : Int64) (e : Int64) (f : Int64) (x : Int64) (y : Int64) (z : Int64) : Int64 × Int64 × Int64 := if (z3_isZero (2 * a) (b - z) (d + y)) = 0 then ((z3_reduce (2 * a) (b - z) (d + y)).1, (z3_reduce (2 * a) (b - z) (d + y)).2.1, (z3_reduce (2 * a) (b - z) (d + y)).2.2) else if (z3_isZero (b + z) (2 * c) (e - x)) = 0 then ((z3_reduce (b + z) (2 * c) (e - x)).1, (z3_reduce (b + z) (2 * c) (e - x)).2.1, (z3_reduce (b + z) (2 * c) (e - x)).2.2) else ((z3_reduce (d - y) (e + x) (2 * f)).1, (z3_reduce (d - y) (e + x) (2 * f)).2.1, (z3_reduce (d - y) (e + x) (2 * f)).2.2)
set_option maxHeartbeats 4000000 in
set_option maxRecDepth 100000 in
/-- X3.setRow -/
theorem c_X3_setRow (l : Launch) (D : va_G) (cI cJ : ClassId) (h : Nat) (g : Nat) (k : Nat) (r : Int64) (s : Int64) (t : Int64) (a : Int64) (b : Int64) (c : Int64) (d : Int64) (e : Int64) (f : Int64) (x : Int64) (y : Int64) (z : Int64) : mw_C l yX3_setRow wsX3_setRow ({ frames := 2, cells := 0, slots := 0, locals := 52 }) D cI cJ [.ref h, .ref g, .ref k] [kT h r s t, kF g a b c d e f, kT k x y z] (qe_v (fun _ : Unit => True) (fun uu => [kT h ((z3_setRow a b c d e f x y z).1) ((z3_setRow a b c d e f x y z).2.1) ((z3_setRow a b c d e f x y z).2.2), kF g a b c d e f, kT k x y z])) := by
  refine mw_in (cc := cX3_setRow) (lv := [(0, .ref h), (1, .ref g), (2, .ref k)]) (by decide) rfl (Nat.le_of_ble_eq_true rfl) rfl ?_
  intro pG eG sG mG below meth cG ls A hx hb hr hml hown hts hlk hin hP hK hD hA hS hl
  have hown : sG.vm.findClass RX3 = some mG.cls := hown
  have k_1 := hts (.constantLong RX3 45 (2)) (by decide +kernel)
  have k_2 : ∀ w ∈ wsX00, w ∈ wsX3_setRow := by decide +kernel
  have k_3 := hts (.fieldLink RX3 16 "ConicRows$Triple" "z" "J") (by decide +kernel)
  have k_4 : ∀ w ∈ wsX30, w ∈ wsX3_setRow := by decide +kernel
  have k_5 := hts (.fieldLink RX3 13 "ConicRows$Triple" "y" "J") (by decide +kernel)
  have k_6 := hts (.fieldLink RX3 7 "ConicRows$Triple" "x" "J") (by decide +kernel)
  refine lv_aload_n hx hb dX3_setRow_0 rfl (lv_at hl 0 rfl) ?_
  refine lv_ldc2 hx hb hown k_1 dX3_setRow_1 ?_
  refine lv_aload_n hx hb dX3_setRow_4 rfl (lv_at hl 1 rfl) ?_
  refine va_getN (D := D) (ci := 0) (v := .long a) (C := RX0) (T := TX0) (N := 6) hx hb hts k_2 hown hK.1 hP 1 rfl rfl 0 (by decide) (nw_f hK.2 15 rfl) (fun _ h9 => h9) rfl dX3_setRow_5 ?_
  refine lv_lmul hx hb dX3_setRow_8 ?_
  refine lv_aload_n hx hb dX3_setRow_9 rfl (lv_at hl 1 rfl) ?_
  refine va_getN (D := D) (ci := 0) (v := .long b) (C := RX0) (T := TX0) (N := 6) hx hb hts k_2 hown hK.1 hP 1 rfl rfl 1 (by decide) (nw_f hK.2 18 rfl) (fun _ h9 => h9) rfl dX3_setRow_10 ?_
  refine lv_aload_n hx hb dX3_setRow_13 rfl (lv_at hl 2 rfl) ?_
  refine va_get (D := D) (ci := 3) (v := .long z) (C := RX3) (T := TX3) (N := 3) hx hb hts k_4 hown hK.1 hP 2 rfl rfl 2 (by decide) k_3 (fun _ h9 => h9) rfl dX3_setRow_14 ?_
  refine lv_lsub hx hb dX3_setRow_17 ?_
  refine lv_aload_n hx hb dX3_setRow_18 rfl (lv_at hl 1 rfl) ?_
  refine va_getN (D := D) (ci := 0) (v := .long d) (C := RX0) (T := TX0) (N := 6) hx hb hts k_2 hown hK.1 hP 1 rfl rfl 3 (by decide) (nw_f hK.2 24 rfl) (fun _ h9 => h9) rfl dX3_setRow_19 ?_
  refine lv_aload_n hx hb dX3_setRow_22 rfl (lv_at hl 2 rfl) ?_
  refine va_get (D := D) (ci := 3) (v := .long y) (C := RX3) (T := TX3) (N := 3) hx hb hts k_4 hown hK.1 hP 2 rfl rfl 1 (by decide) k_5 (fun _ h9 => h9) rfl dX3_setRow_23 ?_
  refine lv_ladd hx hb dX3_setRow_26 ?_
  have hPc := hP.sub (ws' := [kT h r s t]) [0] rfl
  have hDc := hD.sub (ws' := [kT h r s t]) [0] (by decide) rfl
  refine cl_v (wc := [kT h r s t]) (wr := [kF g a b c d e f, kT k x y z]) (w1 := fun uu : Unit => [kT h (2 * a) (b - z) (d + y)]) (wn := fun uu : Unit => [kT h (2 * a) (b - z) (d + y), kF g a b c d e f, kT k x y z]) (va_runV (As := [.long (2 * a), .long (b - z), .long (d + y)]) (rest := []) ⟨hx, hb, hml, hown, hts⟩ (c_X3_set l D cI cJ h r s t (2 * a) (b - z) (d + y) _) (cwV 3 hts gX3_setRow_X3_set rfl rfl rfl (by decide +kernel) ⟨Nat.le_of_ble_eq_true rfl, Nat.le_of_ble_eq_true rfl⟩) ⟨gd_blP, va_recv hK.1 hPc (ci := 3) (q0 := 0) rfl rfl, gd_prP hPc hK hDc⟩ rfl rfl hl.1 rfl (lv_room (Nat.le_of_ble_eq_true rfl)) dX3_setRow_27 ⟨Nat.zero_le _, Nat.zero_le _⟩) hP hD hS hA [0] [1, 2] rfl rfl (by decide) (by decide) [2, 0, 1] (by decide) (fun _ => rfl) (fun uG H locs hw hP hD hS => ?_)
  have hP : va_P D vwCl [kT h (2 * a) (b - z) (d + y), kF g a b c d e f, kT k x y z] H := hP
  have hD : va_D A [kT h (2 * a) (b - z) (d + y), kF g a b c d e f, kT k x y z] := hD
  clear hPc hDc
  refine lv_aload_n hx hb dX3_setRow_30 rfl (lv_at hl 0 rfl) ?_
  have hPc := hP.sub (ws' := [kT h (2 * a) (b - z) (d + y)]) [0] rfl
  refine cr_i (va_runV (As := []) (rest := []) ⟨hx, hb, hml, hown, hts⟩ (c_X3_isZero l D cI cJ h (2 * a) (b - z) (d + y)) (cwV 0 hts gX3_setRow_X3_isZero rfl rfl rfl (by decide +kernel) ⟨Nat.le_of_ble_eq_true rfl, Nat.le_of_ble_eq_true rfl⟩) ⟨gd_blR, va_recv hK.1 hPc (ci := 3) (q0 := 0) rfl rfl, gd_prR hPc hK⟩ rfl rfl hl.1 rfl (lv_room (Nat.le_of_ble_eq_true rfl)) dX3_setRow_31 ⟨Nat.zero_le _, Nat.zero_le _⟩) (fun r_31 hw => ?_)
  subst hw
  clear hPc
  refine lv_if_eq (tgt := 67) hx hb dX3_setRow_34 (by decide) (fun c_1 => ?_) (fun c_1 => ?_)
  · skip
    refine lv_aload_n hx hb dX3_setRow_67 rfl (lv_at hl 0 rfl) ?_
    have hPc := hP.sub (ws' := [kT h (2 * a) (b - z) (d + y)]) [0] rfl
    refine cr_i (va_runV (As := []) (rest := []) ⟨hx, hb, hml, hown, hts⟩ (c_X3_isZero l D cI cJ h (2 * a) (b - z) (d + y)) (cwV 0 hts gX3_setRow_X3_isZero rfl rfl rfl (by decide +kernel) ⟨Nat.le_of_ble_eq_true rfl, Nat.le_of_ble_eq_true rfl⟩) ⟨gd_blR, va_recv hK.1 hPc (ci := 3) (q0 := 0) rfl rfl, gd_prR hPc hK⟩ rfl rfl hl.1 rfl (lv_room (Nat.le_of_ble_eq_true rfl)) dX3_setRow_68 ⟨Nat.zero_le _, Nat.zero_le _⟩) (fun r_68 hw => ?_)
    subst hw
    clear hPc
    refine lv_if_eq (tgt := 104) hx hb dX3_setRow_71 (by decide) (fun _ => ?_) (fun h => absurd c_1 h)
    refine lv_aload_n hx hb dX3_setRow_104 rfl (lv_at hl 0 rfl) ?_
    have hPc := hP.sub (ws' := [kT h (2 * a) (b - z) (d + y)]) [0] rfl
    have hDc := hD.sub (ws' := [kT h (2 * a) (b - z) (d + y)]) [0] (by decide) rfl
    refine cl_v (wc := [kT h (2 * a) (b - z) (d + y)]) (wr := [kF g a b c d e f, kT k x y z]) (w1 := fun uu : Unit => [kT h ((z3_reduce (2 * a) (b - z) (d + y)).1) ((z3_reduce (2 * a) (b - z) (d + y)).2.1) ((z3_reduce (2 * a) (b - z) (d + y)).2.2)]) (wn := fun uu : Unit => [kT h ((z3_reduce (2 * a) (b - z) (d + y)).1) ((z3_reduce (2 * a) (b - z) (d + y)).2.1) ((z3_reduce (2 * a) (b - z) (d + y)).2.2), kF g a b c d e f, kT k x y z]) (va_runV (As := []) (rest := []) ⟨hx, hb, hml, hown, hts⟩ (c_X3_reduce l D cI cJ h (2 * a) (b - z) (d + y) _) (cwV 0 hts gX3_setRow_X3_reduce rfl rfl rfl (by decide +kernel) ⟨Nat.le_of_ble_eq_true rfl, Nat.le_of_ble_eq_true rfl⟩) ⟨gd_blP, va_recv hK.1 hPc (ci := 3) (q0 := 0) rfl rfl, gd_prP hPc hK hDc⟩ rfl rfl hl.1 rfl (lv_room (Nat.le_of_ble_eq_true rfl)) dX3_setRow_105 ⟨Nat.zero_le _, Nat.zero_le _⟩) hP hD hS hA [0] [1, 2] rfl rfl (by decide) (by decide) [2, 0, 1] (by decide) (fun _ => rfl) (fun uG H locs hw hP hD hS => ?_)
    have hP : va_P D vwCl [kT h ((z3_reduce (2 * a) (b - z) (d + y)).1) ((z3_reduce (2 * a) (b - z) (d + y)).2.1) ((z3_reduce (2 * a) (b - z) (d + y)).2.2), kF g a b c d e f, kT k x y z] H := hP
    have hD : va_D A [kT h ((z3_reduce (2 * a) (b - z) (d + y)).1) ((z3_reduce (2 * a) (b - z) (d + y)).2.1) ((z3_reduce (2 * a) (b - z) (d + y)).2.2), kF g a b c d e f, kT k x y z] := hD
    clear hPc hDc
    have he : z3_setRow a b c d e f x y z = ((z3_reduce (2 * a) (b - z) (d + y)).1, (z3_reduce (2 * a) (b - z) (d + y)).2.1, (z3_reduce (2 * a) (b - z) (d + y)).2.2) := by unfold z3_setRow; rw [if_pos c_1]
    have he_0 : (z3_setRow a b c d e f x y z).1 = (z3_reduce (2 * a) (b - z) (d + y)).1 := by rw [he]
    have he_1 : (z3_setRow a b c d e f x y z).2.1 = (z3_reduce (2 * a) (b - z) (d + y)).2.1 := by rw [he]
    have he_2 : (z3_setRow a b c d e f x y z).2.2 = (z3_reduce (2 * a) (b - z) (d + y)).2.2 := by rw [he]
    exact rt_v (w1 := fun uu : Unit => [kT h ((z3_setRow a b c d e f x y z).1) ((z3_setRow a b c d e f x y z).2.1) ((z3_setRow a b c d e f x y z).2.2), kF g a b c d e f, kT k x y z]) hx hb hr hlk hS dX3_setRow_108 (()) trivial (by rw [he_0, he_1, he_2]; exact hP) (by rw [he_0, he_1, he_2]; exact hD)
  · skip
    refine lv_aload_n hx hb dX3_setRow_37 rfl (lv_at hl 0 rfl) ?_
    refine lv_aload_n hx hb dX3_setRow_38 rfl (lv_at hl 1 rfl) ?_
    refine va_getN (D := D) (ci := 0) (v := .long b) (C := RX0) (T := TX0) (N := 6) hx hb hts k_2 hown hK.1 hP 1 rfl rfl 1 (by decide) (nw_f hK.2 18 rfl) (fun _ h9 => h9) rfl dX3_setRow_39 ?_
    refine lv_aload_n hx hb dX3_setRow_42 rfl (lv_at hl 2 rfl) ?_
    refine va_get (D := D) (ci := 3) (v := .long z) (C := RX3) (T := TX3) (N := 3) hx hb hts k_4 hown hK.1 hP 2 rfl rfl 2 (by decide) k_3 (fun _ h9 => h9) rfl dX3_setRow_43 ?_
    refine lv_ladd hx hb dX3_setRow_46 ?_
    refine lv_ldc2 hx hb hown k_1 dX3_setRow_47 ?_
    refine lv_aload_n hx hb dX3_setRow_50 rfl (lv_at hl 1 rfl) ?_
    refine va_getN (D := D) (ci := 0) (v := .long c) (C := RX0) (T := TX0) (N := 6) hx hb hts k_2 hown hK.1 hP 1 rfl rfl 2 (by decide) (nw_f hK.2 21 rfl) (fun _ h9 => h9) rfl dX3_setRow_51 ?_
    refine lv_lmul hx hb dX3_setRow_54 ?_
    refine lv_aload_n hx hb dX3_setRow_55 rfl (lv_at hl 1 rfl) ?_
    refine va_getN (D := D) (ci := 0) (v := .long e) (C := RX0) (T := TX0) (N := 6) hx hb hts k_2 hown hK.1 hP 1 rfl rfl 4 (by decide) (nw_f hK.2 27 rfl) (fun _ h9 => h9) rfl dX3_setRow_56 ?_
    refine lv_aload_n hx hb dX3_setRow_59 rfl (lv_at hl 2 rfl) ?_
    refine va_get (D := D) (ci := 3) (v := .long x) (C := RX3) (T := TX3) (N := 3) hx hb hts k_4 hown hK.1 hP 2 rfl rfl 0 (by decide) k_6 (fun _ h9 => h9) rfl dX3_setRow_60 ?_
    refine lv_lsub hx hb dX3_setRow_63 ?_
    have hPc := hP.sub (ws' := [kT h (2 * a) (b - z) (d + y)]) [0] rfl
    have hDc := hD.sub (ws' := [kT h (2 * a) (b - z) (d + y)]) [0] (by decide) rfl
    refine cl_v (wc := [kT h (2 * a) (b - z) (d + y)]) (wr := [kF g a b c d e f, kT k x y z]) (w1 := fun uu : Unit => [kT h (b + z) (2 * c) (e - x)]) (wn := fun uu : Unit => [kT h (b + z) (2 * c) (e - x), kF g a b c d e f, kT k x y z]) (va_runV (As := [.long (b + z), .long (2 * c), .long (e - x)]) (rest := []) ⟨hx, hb, hml, hown, hts⟩ (c_X3_set l D cI cJ h (2 * a) (b - z) (d + y) (b + z) (2 * c) (e - x) _) (cwV 3 hts gX3_setRow_X3_set rfl rfl rfl (by decide +kernel) ⟨Nat.le_of_ble_eq_true rfl, Nat.le_of_ble_eq_true rfl⟩) ⟨gd_blP, va_recv hK.1 hPc (ci := 3) (q0 := 0) rfl rfl, gd_prP hPc hK hDc⟩ rfl rfl hl.1 rfl (lv_room (Nat.le_of_ble_eq_true rfl)) dX3_setRow_64 ⟨Nat.zero_le _, Nat.zero_le _⟩) hP hD hS hA [0] [1, 2] rfl rfl (by decide) (by decide) [2, 0, 1] (by decide) (fun _ => rfl) (fun uG H locs hw hP hD hS => ?_)
    have hP : va_P D vwCl [kT h (b + z) (2 * c) (e - x), kF g a b c d e f, kT k x y z] H := hP
    have hD : va_D A [kT h (b + z) (2 * c) (e - x), kF g a b c d e f, kT k x y z] := hD
    clear hPc hDc
    refine lv_aload_n hx hb dX3_setRow_67 rfl (lv_at hl 0 rfl) ?_
    have hPc := hP.sub (ws' := [kT h (b + z) (2 * c) (e - x)]) [0] rfl
    refine cr_i (va_runV (As := []) (rest := []) ⟨hx, hb, hml, hown, hts⟩ (c_X3_isZero l D cI cJ h (b + z) (2 * c) (e - x)) (cwV 0 hts gX3_setRow_X3_isZero rfl rfl rfl (by decide +kernel) ⟨Nat.le_of_ble_eq_true rfl, Nat.le_of_ble_eq_true rfl⟩) ⟨gd_blR, va_recv hK.1 hPc (ci := 3) (q0 := 0) rfl rfl, gd_prR hPc hK⟩ rfl rfl hl.1 rfl (lv_room (Nat.le_of_ble_eq_true rfl)) dX3_setRow_68 ⟨Nat.zero_le _, Nat.zero_le _⟩) (fun r_68 hw => ?_)
    subst hw
    clear hPc
    refine lv_if_eq (tgt := 104) hx hb dX3_setRow_71 (by decide) (fun c_2 => ?_) (fun c_2 => ?_)
    · skip
      refine lv_aload_n hx hb dX3_setRow_104 rfl (lv_at hl 0 rfl) ?_
      have hPc := hP.sub (ws' := [kT h (b + z) (2 * c) (e - x)]) [0] rfl
      have hDc := hD.sub (ws' := [kT h (b + z) (2 * c) (e - x)]) [0] (by decide) rfl
      refine cl_v (wc := [kT h (b + z) (2 * c) (e - x)]) (wr := [kF g a b c d e f, kT k x y z]) (w1 := fun uu : Unit => [kT h ((z3_reduce (b + z) (2 * c) (e - x)).1) ((z3_reduce (b + z) (2 * c) (e - x)).2.1) ((z3_reduce (b + z) (2 * c) (e - x)).2.2)]) (wn := fun uu : Unit => [kT h ((z3_reduce (b + z) (2 * c) (e - x)).1) ((z3_reduce (b + z) (2 * c) (e - x)).2.1) ((z3_reduce (b + z) (2 * c) (e - x)).2.2), kF g a b c d e f, kT k x y z]) (va_runV (As := []) (rest := []) ⟨hx, hb, hml, hown, hts⟩ (c_X3_reduce l D cI cJ h (b + z) (2 * c) (e - x) _) (cwV 0 hts gX3_setRow_X3_reduce rfl rfl rfl (by decide +kernel) ⟨Nat.le_of_ble_eq_true rfl, Nat.le_of_ble_eq_true rfl⟩) ⟨gd_blP, va_recv hK.1 hPc (ci := 3) (q0 := 0) rfl rfl, gd_prP hPc hK hDc⟩ rfl rfl hl.1 rfl (lv_room (Nat.le_of_ble_eq_true rfl)) dX3_setRow_105 ⟨Nat.zero_le _, Nat.zero_le _⟩) hP hD hS hA [0] [1, 2] rfl rfl (by decide) (by decide) [2, 0, 1] (by decide) (fun _ => rfl) (fun uG H locs hw hP hD hS => ?_)
      have hP : va_P D vwCl [kT h ((z3_reduce (b + z) (2 * c) (e - x)).1) ((z3_reduce (b + z) (2 * c) (e - x)).2.1) ((z3_reduce (b + z) (2 * c) (e - x)).2.2), kF g a b c d e f, kT k x y z] H := hP
      have hD : va_D A [kT h ((z3_reduce (b + z) (2 * c) (e - x)).1) ((z3_reduce (b + z) (2 * c) (e - x)).2.1) ((z3_reduce (b + z) (2 * c) (e - x)).2.2), kF g a b c d e f, kT k x y z] := hD
      clear hPc hDc
      have he : z3_setRow a b c d e f x y z = ((z3_reduce (b + z) (2 * c) (e - x)).1, (z3_reduce (b + z) (2 * c) (e - x)).2.1, (z3_reduce (b + z) (2 * c) (e - x)).2.2) := by unfold z3_setRow; rw [if_neg c_1, if_pos c_2]
      have he_0 : (z3_setRow a b c d e f x y z).1 = (z3_reduce (b + z) (2 * c) (e - x)).1 := by rw [he]
      have he_1 : (z3_setRow a b c d e f x y z).2.1 = (z3_reduce (b + z) (2 * c) (e - x)).2.1 := by rw [he]
      have he_2 : (z3_setRow a b c d e f x y z).2.2 = (z3_reduce (b + z) (2 * c) (e - x)).2.2 := by rw [he]
      exact rt_v (w1 := fun uu : Unit => [kT h ((z3_setRow a b c d e f x y z).1) ((z3_setRow a b c d e f x y z).2.1) ((z3_setRow a b c d e f x y z).2.2), kF g a b c d e f, kT k x y z]) hx hb hr hlk hS dX3_setRow_108 (()) trivial (by rw [he_0, he_1, he_2]; exact hP) (by rw [he_0, he_1, he_2]; exact hD)
    · skip
      refine lv_aload_n hx hb dX3_setRow_74 rfl (lv_at hl 0 rfl) ?_
      refine lv_aload_n hx hb dX3_setRow_75 rfl (lv_at hl 1 rfl) ?_
      refine va_getN (D := D) (ci := 0) (v := .long d) (C := RX0) (T := TX0) (N := 6) hx hb hts k_2 hown hK.1 hP 1 rfl rfl 3 (by decide) (nw_f hK.2 24 rfl) (fun _ h9 => h9) rfl dX3_setRow_76 ?_
      refine lv_aload_n hx hb dX3_setRow_79 rfl (lv_at hl 2 rfl) ?_
      refine va_get (D := D) (ci := 3) (v := .long y) (C := RX3) (T := TX3) (N := 3) hx hb hts k_4 hown hK.1 hP 2 rfl rfl 1 (by decide) k_5 (fun _ h9 => h9) rfl dX3_setRow_80 ?_
      refine lv_lsub hx hb dX3_setRow_83 ?_
      refine lv_aload_n hx hb dX3_setRow_84 rfl (lv_at hl 1 rfl) ?_
      refine va_getN (D := D) (ci := 0) (v := .long e) (C := RX0) (T := TX0) (N := 6) hx hb hts k_2 hown hK.1 hP 1 rfl rfl 4 (by decide) (nw_f hK.2 27 rfl) (fun _ h9 => h9) rfl dX3_setRow_85 ?_
      refine lv_aload_n hx hb dX3_setRow_88 rfl (lv_at hl 2 rfl) ?_
      refine va_get (D := D) (ci := 3) (v := .long x) (C := RX3) (T := TX3) (N := 3) hx hb hts k_4 hown hK.1 hP 2 rfl rfl 0 (by decide) k_6 (fun _ h9 => h9) rfl dX3_setRow_89 ?_
      refine lv_ladd hx hb dX3_setRow_92 ?_
      refine lv_ldc2 hx hb hown k_1 dX3_setRow_93 ?_
      refine lv_aload_n hx hb dX3_setRow_96 rfl (lv_at hl 1 rfl) ?_
      refine va_getN (D := D) (ci := 0) (v := .long f) (C := RX0) (T := TX0) (N := 6) hx hb hts k_2 hown hK.1 hP 1 rfl rfl 5 (by decide) (nw_f hK.2 30 rfl) (fun _ h9 => h9) rfl dX3_setRow_97 ?_
      refine lv_lmul hx hb dX3_setRow_100 ?_
      have hPc := hP.sub (ws' := [kT h (b + z) (2 * c) (e - x)]) [0] rfl
      have hDc := hD.sub (ws' := [kT h (b + z) (2 * c) (e - x)]) [0] (by decide) rfl
      refine cl_v (wc := [kT h (b + z) (2 * c) (e - x)]) (wr := [kF g a b c d e f, kT k x y z]) (w1 := fun uu : Unit => [kT h (d - y) (e + x) (2 * f)]) (wn := fun uu : Unit => [kT h (d - y) (e + x) (2 * f), kF g a b c d e f, kT k x y z]) (va_runV (As := [.long (d - y), .long (e + x), .long (2 * f)]) (rest := []) ⟨hx, hb, hml, hown, hts⟩ (c_X3_set l D cI cJ h (b + z) (2 * c) (e - x) (d - y) (e + x) (2 * f) _) (cwV 3 hts gX3_setRow_X3_set rfl rfl rfl (by decide +kernel) ⟨Nat.le_of_ble_eq_true rfl, Nat.le_of_ble_eq_true rfl⟩) ⟨gd_blP, va_recv hK.1 hPc (ci := 3) (q0 := 0) rfl rfl, gd_prP hPc hK hDc⟩ rfl rfl hl.1 rfl (lv_room (Nat.le_of_ble_eq_true rfl)) dX3_setRow_101 ⟨Nat.zero_le _, Nat.zero_le _⟩) hP hD hS hA [0] [1, 2] rfl rfl (by decide) (by decide) [2, 0, 1] (by decide) (fun _ => rfl) (fun uG H locs hw hP hD hS => ?_)
      have hP : va_P D vwCl [kT h (d - y) (e + x) (2 * f), kF g a b c d e f, kT k x y z] H := hP
      have hD : va_D A [kT h (d - y) (e + x) (2 * f), kF g a b c d e f, kT k x y z] := hD
      clear hPc hDc
      refine lv_aload_n hx hb dX3_setRow_104 rfl (lv_at hl 0 rfl) ?_
      have hPc := hP.sub (ws' := [kT h (d - y) (e + x) (2 * f)]) [0] rfl
      have hDc := hD.sub (ws' := [kT h (d - y) (e + x) (2 * f)]) [0] (by decide) rfl
      refine cl_v (wc := [kT h (d - y) (e + x) (2 * f)]) (wr := [kF g a b c d e f, kT k x y z]) (w1 := fun uu : Unit => [kT h ((z3_reduce (d - y) (e + x) (2 * f)).1) ((z3_reduce (d - y) (e + x) (2 * f)).2.1) ((z3_reduce (d - y) (e + x) (2 * f)).2.2)]) (wn := fun uu : Unit => [kT h ((z3_reduce (d - y) (e + x) (2 * f)).1) ((z3_reduce (d - y) (e + x) (2 * f)).2.1) ((z3_reduce (d - y) (e + x) (2 * f)).2.2), kF g a b c d e f, kT k x y z]) (va_runV (As := []) (rest := []) ⟨hx, hb, hml, hown, hts⟩ (c_X3_reduce l D cI cJ h (d - y) (e + x) (2 * f) _) (cwV 0 hts gX3_setRow_X3_reduce rfl rfl rfl (by decide +kernel) ⟨Nat.le_of_ble_eq_true rfl, Nat.le_of_ble_eq_true rfl⟩) ⟨gd_blP, va_recv hK.1 hPc (ci := 3) (q0 := 0) rfl rfl, gd_prP hPc hK hDc⟩ rfl rfl hl.1 rfl (lv_room (Nat.le_of_ble_eq_true rfl)) dX3_setRow_105 ⟨Nat.zero_le _, Nat.zero_le _⟩) hP hD hS hA [0] [1, 2] rfl rfl (by decide) (by decide) [2, 0, 1] (by decide) (fun _ => rfl) (fun uG H locs hw hP hD hS => ?_)
      have hP : va_P D vwCl [kT h ((z3_reduce (d - y) (e + x) (2 * f)).1) ((z3_reduce (d - y) (e + x) (2 * f)).2.1) ((z3_reduce (d - y) (e + x) (2 * f)).2.2), kF g a b c d e f, kT k x y z] H := hP
      have hD : va_D A [kT h ((z3_reduce (d - y) (e + x) (2 * f)).1) ((z3_reduce (d - y) (e + x) (2 * f)).2.1) ((z3_reduce (d - y) (e + x) (2 * f)).2.2), kF g a b c d e f, kT k x y z] := hD
      clear hPc hDc
      have he : z3_setRow a b c d e f x y z = ((z3_reduce (d - y) (e + x) (2 * f)).1, (z3_reduce (d - y) (e + x) (2 * f)).2.1, (z3_reduce (d - y) (e + x) (2 * f)).2.2) := by unfold z3_setRow; rw [if_neg c_1, if_neg c_2]
      have he_0 : (z3_setRow a b c d e f x y z).1 = (z3_reduce (d - y) (e + x) (2 * f)).1 := by rw [he]
      have he_1 : (z3_setRow a b c d e f x y z).2.1 = (z3_reduce (d - y) (e + x) (2 * f)).2.1 := by rw [he]
      have he_2 : (z3_setRow a b c d e f x y z).2.2 = (z3_reduce (d - y) (e + x) (2 * f)).2.2 := by rw [he]
      exact rt_v (w1 := fun uu : Unit => [kT h ((z3_setRow a b c d e f x y z).1) ((z3_setRow a b c d e f x y z).2.1) ((z3_setRow a b c d e f x y z).2.2), kF g a b c d e f, kT k x y z]) hx hb hr hlk hS dX3_setRow_108 (()) trivial (by rw [he_0, he_1, he_2]; exact hP) (by rw [he_0, he_1, he_2]; exact hD)
set_option maxHeartbeats 4000000 in
set_option maxRecDepth 100000 in
/-- X1.clear -/
theorem c_X1_clear (l : Launch) (D : va_G) (cI cJ : ClassId) (h : Nat) (q1 : Nat) (q2 : Nat) (n : Int32) : mw_C l yX1_clear wsX1_clear ({ frames := 0, cells := 0, slots := 0, locals := 0 }) D cI cJ [.ref h] [kP h q1 q2 n] (qe_v (fun _ : Unit => True) (fun uu => [kP h q1 q2 0])) := by
  refine mw_in (cc := cX1_clear) (lv := [(0, .ref h)]) (by decide) rfl (Nat.le_of_ble_eq_true rfl) rfl ?_
  intro pG eG sG mG below meth cG ls A hx hb hr hml hown hts hlk hin hP hK hD hA hS hl
  have hown : sG.vm.findClass RX1 = some mG.cls := hown
  have k_1 := hts (.fieldLink RX1 21 "ConicRows$Pair" "size" "I") (by decide +kernel)
  have k_2 : ∀ w ∈ wsX10, w ∈ wsX1_clear := by decide +kernel
  refine lv_aload_n hx hb dX1_clear_0 rfl (lv_at hl 0 rfl) ?_
  refine lv_iconst (v := 0) hx hb dX1_clear_1 (by decide) ?_
  refine va_put (D := D) (ci := 1) (v := .int 0) (ty := .int) (C := RX1) (T := TX1) (N := 3) hx hb hts k_2 tyX1 tyX1_ok nmX1 hown hK.1 hP hD hS 0 rfl rfl 2 (by decide) k_1 (fun _ h9 => h9) rfl (by decide +kernel) rfl rfl (Nat.le_of_ble_eq_true rfl) dX1_clear_2 (fun H locs hP hD hS => ?_)
  have hP : va_P D vwCl [kP h q1 q2 0] H := hP
  have hD : va_D A [kP h q1 q2 0] := hD
  exact rt_v (w1 := fun uu : Unit => [kP h q1 q2 0]) hx hb hr hlk hS dX1_clear_5 (()) trivial hP hD
def z1_order (k : Int32) (x : Int64) (y : Int64) (z : Int64) (u : Int64) (v : Int64) (w : Int64) : Int32 × Int64 × Int64 × Int64 × Int64 × Int64 × Int64 := if k = 2 then if (z3_isBefore u v w x y z) = 0 then (k, x, y, z, u, v, w) else (k, u, v, w, x, y, z) else (k, x, y, z, u, v, w)
set_option maxHeartbeats 4000000 in
set_option maxRecDepth 100000 in
/-- X1.order -/
theorem c_X1_order (l : Launch) (D : va_G) (cI cJ : ClassId) (h : Nat) (q1 : Nat) (q2 : Nat) (n : Int32) (k : Int32) (x : Int64) (y : Int64) (z : Int64) (u : Int64) (v : Int64) (w : Int64) : mw_C l yX1_order wsX1_order ({ frames := 1, cells := 0, slots := 0, locals := 21 }) D cI cJ [.ref h, .int k] [kP h q1 q2 n, kT q1 x y z, kT q2 u v w] (qe_v (fun _ : Nat × Nat => True) (fun uu => [kP h uu.1 uu.2 ((z1_order k x y z u v w).1), kT uu.1 ((z1_order k x y z u v w).2.1) ((z1_order k x y z u v w).2.2.1) ((z1_order k x y z u v w).2.2.2.1), kT uu.2 ((z1_order k x y z u v w).2.2.2.2.1) ((z1_order k x y z u v w).2.2.2.2.2.1) ((z1_order k x y z u v w).2.2.2.2.2.2)])) := by
  refine mw_in (cc := cX1_order) (lv := [(0, .ref h), (1, .int k)]) (by decide) rfl (Nat.le_of_ble_eq_true rfl) rfl ?_
  intro pG eG sG mG below meth cG ls A hx hb hr hml hown hts hlk hin hP hK hD hA hS hl
  have hown : sG.vm.findClass RX1 = some mG.cls := hown
  have k_1 := hts (.fieldLink RX1 21 "ConicRows$Pair" "size" "I") (by decide +kernel)
  have k_2 : ∀ w ∈ wsX10, w ∈ wsX1_order := by decide +kernel
  have k_3 := hts (.fieldLink RX1 18 "ConicRows$Pair" "two" "LConicRows$Triple;") (by decide +kernel)
  have k_4 := hts (.fieldLink RX1 12 "ConicRows$Pair" "one" "LConicRows$Triple;") (by decide +kernel)
  refine lv_aload_n hx hb dX1_order_0 rfl (lv_at hl 0 rfl) ?_
  refine lv_iload_n hx hb dX1_order_1 rfl (lv_at hl 1 rfl) ?_
  refine va_put (D := D) (ci := 1) (v := .int k) (ty := .int) (C := RX1) (T := TX1) (N := 3) hx hb hts k_2 tyX1 tyX1_ok nmX1 hown hK.1 hP hD hS 0 rfl rfl 2 (by decide) k_1 (fun _ h9 => h9) rfl (by decide +kernel) rfl rfl (Nat.le_of_ble_eq_true rfl) dX1_order_2 (fun H locs hP hD hS => ?_)
  have hP : va_P D vwCl [kP h q1 q2 k, kT q1 x y z, kT q2 u v w] H := hP
  have hD : va_D A [kP h q1 q2 k, kT q1 x y z, kT q2 u v w] := hD
  refine lv_aload_n hx hb dX1_order_5 rfl (lv_at hl 0 rfl) ?_
  refine va_get (D := D) (ci := 1) (v := .int k) (C := RX1) (T := TX1) (N := 3) hx hb hts k_2 hown hK.1 hP 0 rfl rfl 2 (by decide) k_1 (fun _ h9 => h9) rfl dX1_order_6 ?_
  refine lv_iconst (v := 2) hx hb dX1_order_9 (by decide) ?_
  refine lv_icmp_ne (tgt := 45) hx hb dX1_order_10 (by decide) (fun c_1 => ?_) (fun c_1 => ?_)
  · skip
    have he : z1_order k x y z u v w = (k, x, y, z, u, v, w) := by unfold z1_order; rw [if_neg c_1]
    have he_0 : (z1_order k x y z u v w).1 = k := by rw [he]
    have he_1 : (z1_order k x y z u v w).2.1 = x := by rw [he]
    have he_2 : (z1_order k x y z u v w).2.2.1 = y := by rw [he]
    have he_3 : (z1_order k x y z u v w).2.2.2.1 = z := by rw [he]
    have he_4 : (z1_order k x y z u v w).2.2.2.2.1 = u := by rw [he]
    have he_5 : (z1_order k x y z u v w).2.2.2.2.2.1 = v := by rw [he]
    have he_6 : (z1_order k x y z u v w).2.2.2.2.2.2 = w := by rw [he]
    exact rt_v (w1 := fun uu : Nat × Nat => [kP h uu.1 uu.2 ((z1_order k x y z u v w).1), kT uu.1 ((z1_order k x y z u v w).2.1) ((z1_order k x y z u v w).2.2.1) ((z1_order k x y z u v w).2.2.2.1), kT uu.2 ((z1_order k x y z u v w).2.2.2.2.1) ((z1_order k x y z u v w).2.2.2.2.2.1) ((z1_order k x y z u v w).2.2.2.2.2.2)]) hx hb hr hlk hS dX1_order_45 ((q1, q2)) trivial (by dsimp only; rw [he_0, he_1, he_2, he_3, he_4, he_5, he_6]; exact hP) (by dsimp only; rw [he_0, he_1, he_2, he_3, he_4, he_5, he_6]; exact hD)
  · skip
    refine lv_aload_n hx hb dX1_order_13 rfl (lv_at hl 0 rfl) ?_
    refine va_get (D := D) (ci := 1) (v := .ref q2) (C := RX1) (T := TX1) (N := 3) hx hb hts k_2 hown hK.1 hP 0 rfl rfl 1 (by decide) k_3 (fun _ h9 => h9) rfl dX1_order_14 ?_
    refine lv_aload_n hx hb dX1_order_17 rfl (lv_at hl 0 rfl) ?_
    refine va_get (D := D) (ci := 1) (v := .ref q1) (C := RX1) (T := TX1) (N := 3) hx hb hts k_2 hown hK.1 hP 0 rfl rfl 0 (by decide) k_4 (fun _ h9 => h9) rfl dX1_order_18 ?_
    have hPc := hP.sub (ws' := [kT q2 u v w, kT q1 x y z]) [2, 1] rfl
    refine cr_i (va_runV (As := [.ref q1]) (rest := []) ⟨hx, hb, hml, hown, hts⟩ (c_X3_isBefore l D cI cJ q2 q1 u v w x y z) (cwV 1 hts gX1_order_X3_isBefore rfl rfl rfl (by decide +kernel) ⟨Nat.le_of_ble_eq_true rfl, Nat.le_of_ble_eq_true rfl⟩) ⟨gd_blR, va_recv hK.1 hPc (ci := 3) (q0 := 0) rfl rfl, gd_prR hPc hK⟩ rfl rfl hl.1 rfl (lv_room (Nat.le_of_ble_eq_true rfl)) dX1_order_21 ⟨Nat.zero_le _, Nat.zero_le _⟩) (fun r_21 hw => ?_)
    subst hw
    clear hPc
    refine lv_if_eq (tgt := 45) hx hb dX1_order_24 (by decide) (fun c_2 => ?_) (fun c_2 => ?_)
    · skip
      have he : z1_order k x y z u v w = (k, x, y, z, u, v, w) := by unfold z1_order; rw [if_pos c_1, if_pos c_2]
      have he_0 : (z1_order k x y z u v w).1 = k := by rw [he]
      have he_1 : (z1_order k x y z u v w).2.1 = x := by rw [he]
      have he_2 : (z1_order k x y z u v w).2.2.1 = y := by rw [he]
      have he_3 : (z1_order k x y z u v w).2.2.2.1 = z := by rw [he]
      have he_4 : (z1_order k x y z u v w).2.2.2.2.1 = u := by rw [he]
      have he_5 : (z1_order k x y z u v w).2.2.2.2.2.1 = v := by rw [he]
      have he_6 : (z1_order k x y z u v w).2.2.2.2.2.2 = w := by rw [he]
      exact rt_v (w1 := fun uu : Nat × Nat => [kP h uu.1 uu.2 ((z1_order k x y z u v w).1), kT uu.1 ((z1_order k x y z u v w).2.1) ((z1_order k x y z u v w).2.2.1) ((z1_order k x y z u v w).2.2.2.1), kT uu.2 ((z1_order k x y z u v w).2.2.2.2.1) ((z1_order k x y z u v w).2.2.2.2.2.1) ((z1_order k x y z u v w).2.2.2.2.2.2)]) hx hb hr hlk hS dX1_order_45 ((q1, q2)) trivial (by dsimp only; rw [he_0, he_1, he_2, he_3, he_4, he_5, he_6]; exact hP) (by dsimp only; rw [he_0, he_1, he_2, he_3, he_4, he_5, he_6]; exact hD)
    · skip
      refine lv_aload_n hx hb dX1_order_27 rfl (lv_at hl 0 rfl) ?_
      refine va_get (D := D) (ci := 1) (v := .ref q2) (C := RX1) (T := TX1) (N := 3) hx hb hts k_2 hown hK.1 hP 0 rfl rfl 1 (by decide) k_3 (fun _ h9 => h9) rfl dX1_order_28 ?_
      refine lv_astore_n (lv' := [(2, .ref q2), (0, .ref h), (1, .int k)]) hx hb dX1_order_31 rfl hl (by decide) rfl (fun ls hl => ?_)
      refine lv_aload_n hx hb dX1_order_32 rfl (lv_at hl 1 rfl) ?_
      refine lv_aload_n hx hb dX1_order_33 rfl (lv_at hl 1 rfl) ?_
      refine va_get (D := D) (ci := 1) (v := .ref q1) (C := RX1) (T := TX1) (N := 3) hx hb hts k_2 hown hK.1 hP 0 rfl rfl 0 (by decide) k_4 (fun _ h9 => h9) rfl dX1_order_34 ?_
      refine va_put (D := D) (ci := 1) (v := .ref q1) (ty := .object "ConicRows$Triple") (C := RX1) (T := TX1) (N := 3) hx hb hts k_2 tyX1 tyX1_ok nmX1 hown hK.1 hP hD hS 0 rfl rfl 1 (by decide) k_3 (fun _ h9 => h9) rfl (by decide +kernel) rfl rfl (Nat.le_of_ble_eq_true rfl) dX1_order_37 (fun H locs hP hD hS => ?_)
      have hP : va_P D vwCl [kP h q1 q1 k, kT q1 x y z, kT q2 u v w] H := hP
      have hD : va_D A [kP h q1 q1 k, kT q1 x y z, kT q2 u v w] := hD
      refine lv_aload_n hx hb dX1_order_40 rfl (lv_at hl 1 rfl) ?_
      refine lv_aload_n hx hb dX1_order_41 rfl (lv_at hl 0 rfl) ?_
      refine va_put (D := D) (ci := 1) (v := .ref q2) (ty := .object "ConicRows$Triple") (C := RX1) (T := TX1) (N := 3) hx hb hts k_2 tyX1 tyX1_ok nmX1 hown hK.1 hP hD hS 0 rfl rfl 0 (by decide) k_4 (fun _ h9 => h9) rfl (by decide +kernel) rfl rfl (Nat.le_of_ble_eq_true rfl) dX1_order_42 (fun H locs hP hD hS => ?_)
      have hP : va_P D vwCl [kP h q2 q1 k, kT q1 x y z, kT q2 u v w] H := hP
      have hD : va_D A [kP h q2 q1 k, kT q1 x y z, kT q2 u v w] := hD
      have hP := hP.sub (ws' := [kP h q2 q1 k, kT q2 u v w, kT q1 x y z]) [0, 2, 1] rfl
      have hD := hD.sub (ws' := [kP h q2 q1 k, kT q2 u v w, kT q1 x y z]) [0, 2, 1] (by decide) rfl
      have he : z1_order k x y z u v w = (k, u, v, w, x, y, z) := by unfold z1_order; rw [if_pos c_1, if_neg c_2]
      have he_0 : (z1_order k x y z u v w).1 = k := by rw [he]
      have he_1 : (z1_order k x y z u v w).2.1 = u := by rw [he]
      have he_2 : (z1_order k x y z u v w).2.2.1 = v := by rw [he]
      have he_3 : (z1_order k x y z u v w).2.2.2.1 = w := by rw [he]
      have he_4 : (z1_order k x y z u v w).2.2.2.2.1 = x := by rw [he]
      have he_5 : (z1_order k x y z u v w).2.2.2.2.2.1 = y := by rw [he]
      have he_6 : (z1_order k x y z u v w).2.2.2.2.2.2 = z := by rw [he]
      exact rt_v (w1 := fun uu : Nat × Nat => [kP h uu.1 uu.2 ((z1_order k x y z u v w).1), kT uu.1 ((z1_order k x y z u v w).2.1) ((z1_order k x y z u v w).2.2.1) ((z1_order k x y z u v w).2.2.2.1), kT uu.2 ((z1_order k x y z u v w).2.2.2.2.1) ((z1_order k x y z u v w).2.2.2.2.2.1) ((z1_order k x y z u v w).2.2.2.2.2.2)]) hx hb hr hlk hS dX1_order_45 ((q2, q1)) trivial (by dsimp only; rw [he_0, he_1, he_2, he_3, he_4, he_5, he_6]; exact hP) (by dsimp only; rw [he_0, he_1, he_2, he_3, he_4, he_5, he_6]; exact hD)
def z1_tell (n : Int32) (i : Int32) (k : Int32) (x : Int64) (y : Int64) (z : Int64) (u : Int64) (v : Int64) (w : Int64) : Int64 := if k < 0 then (-1000003) else if k < 3 then if i < 0 then (-1000001) else if i < n then if i = 0 then z3_get x y z k else z3_get u v w k else (-1000001) else (-1000003)
set_option maxHeartbeats 4000000 in
set_option maxRecDepth 100000 in
/-- X1.tell -/
theorem c_X1_tell (l : Launch) (D : va_G) (cI cJ : ClassId) (h : Nat) (q1 : Nat) (q2 : Nat) (n : Int32) (i : Int32) (k : Int32) (x : Int64) (y : Int64) (z : Int64) (u : Int64) (v : Int64) (w : Int64) : mr_C l yX1_tell wsX1_tell ({ frames := 1, cells := 0, slots := 0, locals := 21 }) D cI cJ [.ref h, .int i, .int k] [kP h q1 q2 n, kT q1 x y z, kT q2 u v w] (vp_Sl (fun r : Int64 => r = z1_tell n i k x y z u v w)) := by
  refine mr_in (cc := cX1_tell) (lv := [(0, .ref h), (1, .int i), (2, .int k)]) (by decide) rfl (Nat.le_of_ble_eq_true rfl) rfl ?_
  intro pG eG sG mG below meth cG ls hx hb hr hml hown hts hlk hP hK hl
  have hown : sG.vm.findClass RX1 = some mG.cls := hown
  have k_1 := hts (.constantLong RX1 29 (-1000003)) (by decide +kernel)
  have k_2 := hts (.constantLong RX1 31 (-1000001)) (by decide +kernel)
  have k_3 := hts (.fieldLink RX1 21 "ConicRows$Pair" "size" "I") (by decide +kernel)
  have k_4 : ∀ w ∈ wsX10, w ∈ wsX1_tell := by decide +kernel
  have k_5 := hts (.fieldLink RX1 18 "ConicRows$Pair" "two" "LConicRows$Triple;") (by decide +kernel)
  have k_6 := hts (.fieldLink RX1 12 "ConicRows$Pair" "one" "LConicRows$Triple;") (by decide +kernel)
  refine lv_iload_n hx hb dX1_tell_0 rfl (lv_at hl 2 rfl) ?_
  refine lv_if_lt (tgt := 9) hx hb dX1_tell_1 (by decide) (fun c_1 => ?_) (fun c_1 => ?_)
  · skip
    refine lv_ldc2 hx hb hown k_1 dX1_tell_9 ?_
    have he : z1_tell n i k x y z u v w = (-1000003) := by unfold z1_tell; rw [if_pos c_1]
    exact rr_l hx hb hr hlk dX1_tell_12 he.symm
  · skip
    refine lv_iload_n hx hb dX1_tell_4 rfl (lv_at hl 2 rfl) ?_
    refine lv_iconst (v := 3) hx hb dX1_tell_5 (by decide) ?_
    refine lv_icmp_lt (tgt := 13) hx hb dX1_tell_6 (by decide) (fun c_2 => ?_) (fun c_2 => ?_)
    · skip
      refine lv_iload_n hx hb dX1_tell_13 rfl (lv_at hl 1 rfl) ?_
      refine lv_if_lt (tgt := 25) hx hb dX1_tell_14 (by decide) (fun c_3 => ?_) (fun c_3 => ?_)
      · skip
        refine lv_ldc2 hx hb hown k_2 dX1_tell_25 ?_
        have he : z1_tell n i k x y z u v w = (-1000001) := by unfold z1_tell; rw [if_neg c_1, if_pos c_2, if_pos c_3]
        exact rr_l hx hb hr hlk dX1_tell_28 he.symm
      · skip
        refine lv_iload_n hx hb dX1_tell_17 rfl (lv_at hl 1 rfl) ?_
        refine lv_aload_n hx hb dX1_tell_18 rfl (lv_at hl 0 rfl) ?_
        refine va_get (D := D) (ci := 1) (v := .int n) (C := RX1) (T := TX1) (N := 3) hx hb hts k_4 hown hK.1 hP 0 rfl rfl 2 (by decide) k_3 (fun _ h9 => h9) rfl dX1_tell_19 ?_
        refine lv_icmp_lt (tgt := 29) hx hb dX1_tell_22 (by decide) (fun c_4 => ?_) (fun c_4 => ?_)
        · skip
          refine lv_iload_n hx hb dX1_tell_29 rfl (lv_at hl 1 rfl) ?_
          refine lv_if_ne (tgt := 44) hx hb dX1_tell_30 (by decide) (fun c_5 => ?_) (fun c_5 => ?_)
          · skip
            refine lv_aload_n hx hb dX1_tell_44 rfl (lv_at hl 0 rfl) ?_
            refine va_get (D := D) (ci := 1) (v := .ref q2) (C := RX1) (T := TX1) (N := 3) hx hb hts k_4 hown hK.1 hP 0 rfl rfl 1 (by decide) k_5 (fun _ h9 => h9) rfl dX1_tell_45 ?_
            refine lv_iload_n hx hb dX1_tell_48 rfl (lv_at hl 2 rfl) ?_
            have hPc := hP.sub (ws' := [kT q2 u v w]) [2] rfl
            refine cr_l (va_runV (As := [.int k]) (rest := []) ⟨hx, hb, hml, hown, hts⟩ (c_X3_get l D cI cJ q2 u v w k) (cwV 1 hts gX1_tell_X3_get rfl rfl rfl (by decide +kernel) ⟨Nat.le_of_ble_eq_true rfl, Nat.le_of_ble_eq_true rfl⟩) ⟨gd_blR, va_recv hK.1 hPc (ci := 3) (q0 := 0) rfl rfl, gd_prR hPc hK⟩ rfl rfl hl.1 rfl (lv_room (Nat.le_of_ble_eq_true rfl)) dX1_tell_49 ⟨Nat.zero_le _, Nat.zero_le _⟩) (fun r_49 hw => ?_)
            subst hw
            clear hPc
            have he : z1_tell n i k x y z u v w = z3_get u v w k := by unfold z1_tell; rw [if_neg c_1, if_pos c_2, if_neg c_3, if_pos c_4, if_neg c_5]
            exact rr_l hx hb hr hlk dX1_tell_52 he.symm
          · skip
            refine lv_aload_n hx hb dX1_tell_33 rfl (lv_at hl 0 rfl) ?_
            refine va_get (D := D) (ci := 1) (v := .ref q1) (C := RX1) (T := TX1) (N := 3) hx hb hts k_4 hown hK.1 hP 0 rfl rfl 0 (by decide) k_6 (fun _ h9 => h9) rfl dX1_tell_34 ?_
            refine lv_iload_n hx hb dX1_tell_37 rfl (lv_at hl 2 rfl) ?_
            have hPc := hP.sub (ws' := [kT q1 x y z]) [1] rfl
            refine cr_l (va_runV (As := [.int k]) (rest := []) ⟨hx, hb, hml, hown, hts⟩ (c_X3_get l D cI cJ q1 x y z k) (cwV 1 hts gX1_tell_X3_get rfl rfl rfl (by decide +kernel) ⟨Nat.le_of_ble_eq_true rfl, Nat.le_of_ble_eq_true rfl⟩) ⟨gd_blR, va_recv hK.1 hPc (ci := 3) (q0 := 0) rfl rfl, gd_prR hPc hK⟩ rfl rfl hl.1 rfl (lv_room (Nat.le_of_ble_eq_true rfl)) dX1_tell_38 ⟨Nat.zero_le _, Nat.zero_le _⟩) (fun r_38 hw => ?_)
            subst hw
            clear hPc
            refine lv_goto (tgt := 52) hx hb dX1_tell_41 (by decide) ?_
            have he : z1_tell n i k x y z u v w = z3_get x y z k := by unfold z1_tell; rw [if_neg c_1, if_pos c_2, if_neg c_3, if_pos c_4, if_pos c_5]
            exact rr_l hx hb hr hlk dX1_tell_52 he.symm
        · skip
          refine lv_ldc2 hx hb hown k_2 dX1_tell_25 ?_
          have he : z1_tell n i k x y z u v w = (-1000001) := by unfold z1_tell; rw [if_neg c_1, if_pos c_2, if_neg c_3, if_neg c_4]
          exact rr_l hx hb hr hlk dX1_tell_28 he.symm
    · skip
      refine lv_ldc2 hx hb hown k_1 dX1_tell_9 ?_
      have he : z1_tell n i k x y z u v w = (-1000003) := by unfold z1_tell; rw [if_neg c_1, if_neg c_2]
      exact rr_l hx hb hr hlk dX1_tell_12 he.symm
