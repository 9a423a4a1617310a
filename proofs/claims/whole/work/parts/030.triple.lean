-- laid by wip/whole/gen
def z4_isWithin (x : Int64) (b : Int64) : Int32 := if x < (-b) then 0 else if b < x then 0 else 1
set_option maxHeartbeats 4000000 in
set_option maxRecDepth 100000 in
/-- X4.isWithin -/
theorem c_X4_isWithin (l : Launch) (D : va_G) (cI cJ : ClassId) (x : Int64) (b : Int64) : mr_C l yX4_isWithin wsX4_isWithin ({ frames := 0, cells := 0, slots := 0, locals := 0 }) D cI cJ [.long x, .long b] [] (vp_Si (fun r : Int32 => r = z4_isWithin x b)) := by
  refine mr_in (cc := cX4_isWithin) (lv := [(0, .long x), (2, .long b)]) (by decide) rfl (Nat.le_of_ble_eq_true rfl) rfl ?_
  intro pG eG sG mG below meth cG ls hx hb hr hml hown hts hlk hP hK hl
  have hown : sG.vm.findClass RX4 = some mG.cls := hown
  refine lv_lload_n hx hb dX4_isWithin_0 rfl (lv_at hl 0 rfl) ?_
  refine lv_lload_n hx hb dX4_isWithin_1 rfl (lv_at hl 1 rfl) ?_
  refine lv_lneg hx hb dX4_isWithin_2 ?_
  refine lb_lt (tgt := 17) hx hb dX4_isWithin_3 rfl dX4_isWithin_4 (by decide) (fun c_1 => ?_) (fun c_1 => ?_)
  · skip
    refine lv_iconst (v := 0) hx hb dX4_isWithin_17 (by decide) ?_
    have he : z4_isWithin x b = 0 := by unfold z4_isWithin; rw [if_pos c_1]
    exact rr_z hx hb hr rfl hlk dX4_isWithin_18 he.symm
  · skip
    refine lv_lload_n hx hb dX4_isWithin_7 rfl (lv_at hl 0 rfl) ?_
    refine lv_lload_n hx hb dX4_isWithin_8 rfl (lv_at hl 1 rfl) ?_
    refine lb_gt (tgt := 17) hx hb dX4_isWithin_9 rfl dX4_isWithin_10 (by decide) (fun c_2 => ?_) (fun c_2 => ?_)
    · skip
      refine lv_iconst (v := 0) hx hb dX4_isWithin_17 (by decide) ?_
      have he : z4_isWithin x b = 0 := by unfold z4_isWithin; rw [if_neg c_1, if_pos c_2]
      exact rr_z hx hb hr rfl hlk dX4_isWithin_18 he.symm
    · skip
      refine lv_iconst (v := 1) hx hb dX4_isWithin_13 (by decide) ?_
      refine lv_goto (tgt := 18) hx hb dX4_isWithin_14 (by decide) ?_
      have he : z4_isWithin x b = 1 := by unfold z4_isWithin; rw [if_neg c_1, if_neg c_2]
      exact rr_z hx hb hr rfl hlk dX4_isWithin_18 he.symm
set_option maxHeartbeats 4000000 in
set_option maxRecDepth 100000 in
/-- X3.set -/
theorem c_X3_set (l : Launch) (D : va_G) (cI cJ : ClassId) (h : Nat) (x : Int64) (y : Int64) (z : Int64) (a : Int64) (b : Int64) (c : Int64) : mw_C l yX3_set wsX3_set ({ frames := 0, cells := 0, slots := 0, locals := 0 }) D cI cJ [.ref h, .long a, .long b, .long c] [kT h x y z] (qe_v (fun _ : Unit => True) (fun uu => [kT h a b c])) := by
  refine mw_in (cc := cX3_set) (lv := [(0, .ref h), (1, .long a), (3, .long b), (5, .long c)]) (by decide) rfl (Nat.le_of_ble_eq_true rfl) rfl ?_
  intro pG eG sG mG below meth cG ls A hx hb hr hml hown hts hlk hin hP hK hD hA hS hl
  have hown : sG.vm.findClass RX3 = some mG.cls := hown
  have k_1 := hts (.fieldLink RX3 7 "ConicRows$Triple" "x" "J") (by decide +kernel)
  have k_2 : ∀ w ∈ wsX30, w ∈ wsX3_set := by decide +kernel
  have k_3 := hts (.fieldLink RX3 13 "ConicRows$Triple" "y" "J") (by decide +kernel)
  have k_4 := hts (.fieldLink RX3 16 "ConicRows$Triple" "z" "J") (by decide +kernel)
  refine lv_aload_n hx hb dX3_set_0 rfl (lv_at hl 0 rfl) ?_
  refine lv_lload_n hx hb dX3_set_1 rfl (lv_at hl 1 rfl) ?_
  refine va_put (D := D) (ci := 3) (v := .long a) (ty := .long) (C := RX3) (T := TX3) (N := 3) hx hb hts k_2 tyX3 tyX3_ok nmX3 hown hK.1 hP hD hS 0 rfl rfl 0 (by decide) k_1 (fun _ h9 => h9) rfl (by decide +kernel) rfl rfl (Nat.le_of_ble_eq_true rfl) dX3_set_2 (fun H locs hP hD hS => ?_)
  have hP : va_P D vwCl [kT h a y z] H := hP
  have hD : va_D A [kT h a y z] := hD
  refine lv_aload_n hx hb dX3_set_5 rfl (lv_at hl 0 rfl) ?_
  refine lv_lload_n hx hb dX3_set_6 rfl (lv_at hl 2 rfl) ?_
  refine va_put (D := D) (ci := 3) (v := .long b) (ty := .long) (C := RX3) (T := TX3) (N := 3) hx hb hts k_2 tyX3 tyX3_ok nmX3 hown hK.1 hP hD hS 0 rfl rfl 1 (by decide) k_3 (fun _ h9 => h9) rfl (by decide +kernel) rfl rfl (Nat.le_of_ble_eq_true rfl) dX3_set_7 (fun H locs hP hD hS => ?_)
  have hP : va_P D vwCl [kT h a b z] H := hP
  have hD : va_D A [kT h a b z] := hD
  refine lv_aload_n hx hb dX3_set_10 rfl (lv_at hl 0 rfl) ?_
  refine lv_lload hx hb dX3_set_11 (lv_at hl 3 rfl) ?_
  refine va_put (D := D) (ci := 3) (v := .long c) (ty := .long) (C := RX3) (T := TX3) (N := 3) hx hb hts k_2 tyX3 tyX3_ok nmX3 hown hK.1 hP hD hS 0 rfl rfl 2 (by decide) k_4 (fun _ h9 => h9) rfl (by decide +kernel) rfl rfl (Nat.le_of_ble_eq_true rfl) dX3_set_13 (fun H locs hP hD hS => ?_)
  have hP : va_P D vwCl [kT h a b c] H := hP
  have hD : va_D A [kT h a b c] := hD
  exact rt_v (w1 := fun uu : Unit => [kT h a b c]) hx hb hr hlk hS dX3_set_16 (()) trivial hP hD
def z3_isZero (x : Int64) (y : Int64) (z : Int64) : Int32 := if x = 0 then if y = 0 then if z = 0 then 1 else 0 else 0 else 0
set_option maxHeartbeats 4000000 in
set_option maxRecDepth 100000 in
/-- X3.isZero -/
theorem c_X3_isZero (l : Launch) (D : va_G) (cI cJ : ClassId) (h : Nat) (x : Int64) (y : Int64) (z : Int64) : mr_C l yX3_isZero wsX3_isZero ({ frames := 0, cells := 0, slots := 0, locals := 0 }) D cI cJ [.ref h] [kT h x y z] (vp_Si (fun r : Int32 => r = z3_isZero x y z)) := by
  refine mr_in (cc := cX3_isZero) (lv := [(0, .ref h)]) (by decide) rfl (Nat.le_of_ble_eq_true rfl) rfl ?_
  intro pG eG sG mG below meth cG ls hx hb hr hml hown hts hlk hP hK hl
  have hown : sG.vm.findClass RX3 = some mG.cls := hown
  have k_1 := hts (.fieldLink RX3 7 "ConicRows$Triple" "x" "J") (by decide +kernel)
  have k_2 : ∀ w ∈ wsX30, w ∈ wsX3_isZero := by decide +kernel
  have k_3 := hts (.fieldLink RX3 13 "ConicRows$Triple" "y" "J") (by decide +kernel)
  have k_4 := hts (.fieldLink RX3 16 "ConicRows$Triple" "z" "J") (by decide +kernel)
  refine lv_aload_n hx hb dX3_isZero_0 rfl (lv_at hl 0 rfl) ?_
  refine va_get (D := D) (ci := 3) (v := .long x) (C := RX3) (T := TX3) (N := 3) hx hb hts k_2 hown hK.1 hP 0 rfl rfl 0 (by decide) k_1 (fun _ h9 => h9) rfl dX3_isZero_1 ?_
  refine lv_lconst (v := 0) hx hb dX3_isZero_4 (by decide) ?_
  refine lb_ne (tgt := 31) hx hb dX3_isZero_5 rfl dX3_isZero_6 (by decide) (fun c_1 => ?_) (fun c_1 => ?_)
  · skip
    refine lv_iconst (v := 0) hx hb dX3_isZero_31 (by decide) ?_
    have he : z3_isZero x y z = 0 := by unfold z3_isZero; rw [if_neg c_1]
    exact rr_z hx hb hr rfl hlk dX3_isZero_32 he.symm
  · skip
    refine lv_aload_n hx hb dX3_isZero_9 rfl (lv_at hl 0 rfl) ?_
    refine va_get (D := D) (ci := 3) (v := .long y) (C := RX3) (T := TX3) (N := 3) hx hb hts k_2 hown hK.1 hP 0 rfl rfl 1 (by decide) k_3 (fun _ h9 => h9) rfl dX3_isZero_10 ?_
    refine lv_lconst (v := 0) hx hb dX3_isZero_13 (by decide) ?_
    refine lb_ne (tgt := 31) hx hb dX3_isZero_14 rfl dX3_isZero_15 (by decide) (fun c_2 => ?_) (fun c_2 => ?_)
    · skip
      refine lv_iconst (v := 0) hx hb dX3_isZero_31 (by decide) ?_
      have he : z3_isZero x y z = 0 := by unfold z3_isZero; rw [if_pos c_1, if_neg c_2]
      exact rr_z hx hb hr rfl hlk dX3_isZero_32 he.symm
    · skip
      refine lv_aload_n hx hb dX3_isZero_18 rfl (lv_at hl 0 rfl) ?_
      refine va_get (D := D) (ci := 3) (v := .long z) (C := RX3) (T := TX3) (N := 3) hx hb hts k_2 hown hK.1 hP 0 rfl rfl 2 (by decide) k_4 (fun _ h9 => h9) rfl dX3_isZero_19 ?_
      refine lv_lconst (v := 0) hx hb dX3_isZero_22 (by decide) ?_
      refine lb_ne (tgt := 31) hx hb dX3_isZero_23 rfl dX3_isZero_24 (by decide) (fun c_3 => ?_) (fun c_3 => ?_)
      · skip
        refine lv_iconst (v := 0) hx hb dX3_isZero_31 (by decide) ?_
        have he : z3_isZero x y z = 0 := by unfold z3_isZero; rw [if_pos c_1, if_pos c_2, if_neg c_3]
        exact rr_z hx hb hr rfl hlk dX3_isZero_32 he.symm
      · skip
        refine lv_iconst (v := 1) hx hb dX3_isZero_27 (by decide) ?_
        refine lv_goto (tgt := 32) hx hb dX3_isZero_28 (by decide) ?_
        have he : z3_isZero x y z = 1 := by unfold z3_isZero; rw [if_pos c_1, if_pos c_2, if_pos c_3]
        exact rr_z hx hb hr rfl hlk dX3_isZero_32 he.symm
def z3_get (x : Int64) (y : Int64) (z : Int64) (k : Int32) : Int64 := if k = 0 then x else if k = 1 then y else z
set_option maxHeartbeats 4000000 in
set_option maxRecDepth 100000 in
/-- X3.get -/
theorem c_X3_get (l : Launch) (D : va_G) (cI cJ : ClassId) (h : Nat) (x : Int64) (y : Int64) (z : Int64) (k : Int32) : mr_C l yX3_get wsX3_get ({ frames := 0, cells := 0, slots := 0, locals := 0 }) D cI cJ [.ref h, .int k] [kT h x y z] (vp_Sl (fun r : Int64 => r = z3_get x y z k)) := by
  refine mr_in (cc := cX3_get) (lv := [(0, .ref h), (1, .int k)]) (by decide) rfl (Nat.le_of_ble_eq_true rfl) rfl ?_
  intro pG eG sG mG below meth cG ls hx hb hr hml hown hts hlk hP hK hl
  have hown : sG.vm.findClass RX3 = some mG.cls := hown
  have k_1 := hts (.fieldLink RX3 16 "ConicRows$Triple" "z" "J") (by decide +kernel)
  have k_2 : ∀ w ∈ wsX30, w ∈ wsX3_get := by decide +kernel
  have k_3 := hts (.fieldLink RX3 13 "ConicRows$Triple" "y" "J") (by decide +kernel)
  have k_4 := hts (.fieldLink RX3 7 "ConicRows$Triple" "x" "J") (by decide +kernel)
  refine lv_iload_n hx hb dX3_get_0 rfl (lv_at hl 1 rfl) ?_
  refine lv_if_ne (tgt := 9) hx hb dX3_get_1 (by decide) (fun c_1 => ?_) (fun c_1 => ?_)
  · skip
    refine lv_iload_n hx hb dX3_get_9 rfl (lv_at hl 1 rfl) ?_
    refine lv_iconst (v := 1) hx hb dX3_get_10 (by decide) ?_
    refine lv_icmp_ne (tgt := 21) hx hb dX3_get_11 (by decide) (fun c_2 => ?_) (fun c_2 => ?_)
    · skip
      refine lv_aload_n hx hb dX3_get_21 rfl (lv_at hl 0 rfl) ?_
      refine va_get (D := D) (ci := 3) (v := .long z) (C := RX3) (T := TX3) (N := 3) hx hb hts k_2 hown hK.1 hP 0 rfl rfl 2 (by decide) k_1 (fun _ h9 => h9) rfl dX3_get_22 ?_
      have he : z3_get x y z k = z := by unfold z3_get; rw [if_neg c_1, if_neg c_2]
      exact rr_l hx hb hr hlk dX3_get_25 he.symm
    · skip
      refine lv_aload_n hx hb dX3_get_14 rfl (lv_at hl 0 rfl) ?_
      refine va_get (D := D) (ci := 3) (v := .long y) (C := RX3) (T := TX3) (N := 3) hx hb hts k_2 hown hK.1 hP 0 rfl rfl 1 (by decide) k_3 (fun _ h9 => h9) rfl dX3_get_15 ?_
      refine lv_goto (tgt := 25) hx hb dX3_get_18 (by decide) ?_
      have he : z3_get x y z k = y := by unfold z3_get; rw [if_neg c_1, if_pos c_2]
      exact rr_l hx hb hr hlk dX3_get_25 he.symm
  · skip
    refine lv_aload_n hx hb dX3_get_4 rfl (lv_at hl 0 rfl) ?_
    refine va_get (D := D) (ci := 3) (v := .long x) (C := RX3) (T := TX3) (N := 3) hx hb hts k_2 hown hK.1 hP 0 rfl rfl 0 (by decide) k_4 (fun _ h9 => h9) rfl dX3_get_5 ?_
    have he : z3_get x y z k = x := by unfold z3_get; rw [if_pos c_1]
    exact rr_l hx hb hr hlk dX3_get_8 he.symm
def z3_isWithin (x : Int64) (y : Int64) (z : Int64) (b : Int64) : Int32 := if (z4_isWithin x b) = 0 then 0 else if (z4_isWithin y b) = 0 then 0 else if (z4_isWithin z b) = 0 then 0 else 1
set_option maxHeartbeats 4000000 in
set_option maxRecDepth 100000 in
/-- X3.isWithin -/
theorem c_X3_isWithin (l : Launch) (D : va_G) (cI cJ : ClassId) (h : Nat) (x : Int64) (y : Int64) (z : Int64) (b : Int64) : mr_C l yX3_isWithin wsX3_isWithin ({ frames := 1, cells := 0, slots := 0, locals := 23 }) D cI cJ [.ref h, .long b] [kT h x y z] (vp_Si (fun r : Int32 => r = z3_isWithin x y z b)) := by
  refine mr_in (cc := cX3_isWithin) (lv := [(0, .ref h), (1, .long b)]) (by decide) rfl (Nat.le_of_ble_eq_true rfl) rfl ?_
  intro pG eG sG mG below meth cG ls hx hb hr hml hown hts hlk hP hK hl
  have hown : sG.vm.findClass RX3 = some mG.cls := hown
  have k_1 := hts (.fieldLink RX3 7 "ConicRows$Triple" "x" "J") (by decide +kernel)
  have k_2 : ∀ w ∈ wsX30, w ∈ wsX3_isWithin := by decide +kernel
  have k_3 := hts (.initialized RX4) (by decide +kernel)
  have k_4 := hts (.static yX4_isWithin) (by decide +kernel)
  have k_5 := hts (.fieldLink RX3 13 "ConicRows$Triple" "y" "J") (by decide +kernel)
  have k_6 := hts (.fieldLink RX3 16 "ConicRows$Triple" "z" "J") (by decide +kernel)
  refine lv_aload_n hx hb dX3_isWithin_0 rfl (lv_at hl 0 rfl) ?_
  refine va_get (D := D) (ci := 3) (v := .long x) (C := RX3) (T := TX3) (N := 3) hx hb hts k_2 hown hK.1 hP 0 rfl rfl 0 (by decide) k_1 (fun _ h9 => h9) rfl dX3_isWithin_1 ?_
  refine lv_lload_n hx hb dX3_isWithin_4 rfl (lv_at hl 1 rfl) ?_
  have hPc := hP.sub (ws' := []) [] rfl
  refine cr_i (va_runSN (As := [.long x, .long b]) (rest := []) ⟨hx, hb, hml, hown, hts⟩ (c_X4_isWithin l D cI cJ x b) ⟨va_cnB 2 hts gX3_isWithin_X4_isWithin_n29 rfl rfl rfl (nw_m hK.2 3 rfl) k_3 (by decide +kernel) ⟨Nat.le_of_ble_eq_true rfl, Nat.le_of_ble_eq_true rfl⟩, k_4, trivial⟩ ⟨gd_blR, gd_prR hPc hK⟩ rfl rfl hl.1 rfl (lv_room (Nat.le_of_ble_eq_true rfl)) dX3_isWithin_5 ⟨Nat.zero_le _, Nat.zero_le _⟩) (fun r_5 hw => ?_)
  subst hw
  clear hPc
  refine lv_if_eq (tgt := 37) hx hb dX3_isWithin_8 (by decide) (fun c_1 => ?_) (fun c_1 => ?_)
  · skip
    refine lv_iconst (v := 0) hx hb dX3_isWithin_37 (by decide) ?_
    have he : z3_isWithin x y z b = 0 := by unfold z3_isWithin; rw [if_pos c_1]
    exact rr_z hx hb hr rfl hlk dX3_isWithin_38 he.symm
  · skip
    refine lv_aload_n hx hb dX3_isWithin_11 rfl (lv_at hl 0 rfl) ?_
    refine va_get (D := D) (ci := 3) (v := .long y) (C := RX3) (T := TX3) (N := 3) hx hb hts k_2 hown hK.1 hP 0 rfl rfl 1 (by decide) k_5 (fun _ h9 => h9) rfl dX3_isWithin_12 ?_
    refine lv_lload_n hx hb dX3_isWithin_15 rfl (lv_at hl 1 rfl) ?_
    have hPc := hP.sub (ws' := []) [] rfl
    refine cr_i (va_runSN (As := [.long y, .long b]) (rest := []) ⟨hx, hb, hml, hown, hts⟩ (c_X4_isWithin l D cI cJ y b) ⟨va_cnB 2 hts gX3_isWithin_X4_isWithin_n29 rfl rfl rfl (nw_m hK.2 3 rfl) k_3 (by decide +kernel) ⟨Nat.le_of_ble_eq_true rfl, Nat.le_of_ble_eq_true rfl⟩, k_4, trivial⟩ ⟨gd_blR, gd_prR hPc hK⟩ rfl rfl hl.1 rfl (lv_room (Nat.le_of_ble_eq_true rfl)) dX3_isWithin_16 ⟨Nat.zero_le _, Nat.zero_le _⟩) (fun r_16 hw => ?_)
    subst hw
    clear hPc
    refine lv_if_eq (tgt := 37) hx hb dX3_isWithin_19 (by decide) (fun c_2 => ?_) (fun c_2 => ?_)
    · skip
      refine lv_iconst (v := 0) hx hb dX3_isWithin_37 (by decide) ?_
      have he : z3_isWithin x y z b = 0 := by unfold z3_isWithin; rw [if_neg c_1, if_pos c_2]
      exact rr_z hx hb hr rfl hlk dX3_isWithin_38 he.symm
    · skip
      refine lv_aload_n hx hb dX3_isWithin_22 rfl (lv_at hl 0 rfl) ?_
      refine va_get (D := D) (ci := 3) (v := .long z) (C := RX3) (T := TX3) (N := 3) hx hb hts k_2 hown hK.1 hP 0 rfl rfl 2 (by decide) k_6 (fun _ h9 => h9) rfl dX3_isWithin_23 ?_
      refine lv_lload_n hx hb dX3_isWithin_26 rfl (lv_at hl 1 rfl) ?_
      have hPc := hP.sub (ws' := []) [] rfl
      refine cr_i (va_runSN (As := [.long z, .long b]) (rest := []) ⟨hx, hb, hml, hown, hts⟩ (c_X4_isWithin l D cI cJ z b) ⟨va_cnB 2 hts gX3_isWithin_X4_isWithin_n29 rfl rfl rfl (nw_m hK.2 3 rfl) k_3 (by decide +kernel) ⟨Nat.le_of_ble_eq_true rfl, Nat.le_of_ble_eq_true rfl⟩, k_4, trivial⟩ ⟨gd_blR, gd_prR hPc hK⟩ rfl rfl hl.1 rfl (lv_room (Nat.le_of_ble_eq_true rfl)) dX3_isWithin_27 ⟨Nat.zero_le _, Nat.zero_le _⟩) (fun r_27 hw => ?_)
      subst hw
      clear hPc
      refine lv_if_eq (tgt := 37) hx hb dX3_isWithin_30 (by decide) (fun c_3 => ?_) (fun c_3 => ?_)
      · skip
        refine lv_iconst (v := 0) hx hb dX3_isWithin_37 (by decide) ?_
        have he : z3_isWithin x y z b = 0 := by unfold z3_isWithin; rw [if_neg c_1, if_neg c_2, if_pos c_3]
        exact rr_z hx hb hr rfl hlk dX3_isWithin_38 he.symm
      · skip
        refine lv_iconst (v := 1) hx hb dX3_isWithin_33 (by decide) ?_
        refine lv_goto (tgt := 38) hx hb dX3_isWithin_34 (by decide) ?_
        have he : z3_isWithin x y z b = 1 := by unfold z3_isWithin; rw [if_neg c_1, if_neg c_2, if_neg c_3]
        exact rr_z hx hb hr rfl hlk dX3_isWithin_38 he.symm
def z3_times (x : Int64) (y : Int64) (z : Int64) (u : Int64) (v : Int64) (w : Int64) : Int64 := ((x * u) + (y * v)) + (z * w)
set_option maxHeartbeats 4000000 in
set_option maxRecDepth 100000 in
/-- X3.times -/
theorem c_X3_times (l : Launch) (D : va_G) (cI cJ : ClassId) (h : Nat) (g : Nat) (x : Int64) (y : Int64) (z : Int64) (u : Int64) (v : Int64) (w : Int64) : mr_C l yX3_times wsX3_times ({ frames := 0, cells := 0, slots := 0, locals := 0 }) D cI cJ [.ref h, .ref g] [kT h x y z, kT g u v w] (vp_Sl (fun r : Int64 => r = z3_times x y z u v w)) := by
  refine mr_in (cc := cX3_times) (lv := [(0, .ref h), (1, .ref g)]) (by decide) rfl (Nat.le_of_ble_eq_true rfl) rfl ?_
  intro pG eG sG mG below meth cG ls hx hb hr hml hown hts hlk hP hK hl
  have hown : sG.vm.findClass RX3 = some mG.cls := hown
  have k_1 := hts (.fieldLink RX3 7 "ConicRows$Triple" "x" "J") (by decide +kernel)
  have k_2 : ∀ w ∈ wsX30, w ∈ wsX3_times := by decide +kernel
  have k_3 := hts (.fieldLink RX3 13 "ConicRows$Triple" "y" "J") (by decide +kernel)
  have k_4 := hts (.fieldLink RX3 16 "ConicRows$Triple" "z" "J") (by decide +kernel)
  refine lv_aload_n hx hb dX3_times_0 rfl (lv_at hl 0 rfl) ?_
  refine va_get (D := D) (ci := 3) (v := .long x) (C := RX3) (T := TX3) (N := 3) hx hb hts k_2 hown hK.1 hP 0 rfl rfl 0 (by decide) k_1 (fun _ h9 => h9) rfl dX3_times_1 ?_
  refine lv_aload_n hx hb dX3_times_4 rfl (lv_at hl 1 rfl) ?_
  refine va_get (D := D) (ci := 3) (v := .long u) (C := RX3) (T := TX3) (N := 3) hx hb hts k_2 hown hK.1 hP 1 rfl rfl 0 (by decide) k_1 (fun _ h9 => h9) rfl dX3_times_5 ?_
  refine lv_lmul hx hb dX3_times_8 ?_
  refine lv_aload_n hx hb dX3_times_9 rfl (lv_at hl 0 rfl) ?_
  refine va_get (D := D) (ci := 3) (v := .long y) (C := RX3) (T := TX3) (N := 3) hx hb hts k_2 hown hK.1 hP 0 rfl rfl 1 (by decide) k_3 (fun _ h9 => h9) rfl dX3_times_10 ?_
  refine lv_aload_n hx hb dX3_times_13 rfl (lv_at hl 1 rfl) ?_
  refine va_get (D := D) (ci := 3) (v := .long v) (C := RX3) (T := TX3) (N := 3) hx hb hts k_2 hown hK.1 hP 1 rfl rfl 1 (by decide) k_3 (fun _ h9 => h9) rfl dX3_times_14 ?_
  refine lv_lmul hx hb dX3_times_17 ?_
  refine lv_ladd hx hb dX3_times_18 ?_
  refine lv_aload_n hx hb dX3_times_19 rfl (lv_at hl 0 rfl) ?_
  refine va_get (D := D) (ci := 3) (v := .long z) (C := RX3) (T := TX3) (N := 3) hx hb hts k_2 hown hK.1 hP 0 rfl rfl 2 (by decide) k_4 (fun _ h9 => h9) rfl dX3_times_20 ?_
  refine lv_aload_n hx hb dX3_times_23 rfl (lv_at hl 1 rfl) ?_
  refine va_get (D := D) (ci := 3) (v := .long w) (C := RX3) (T := TX3) (N := 3) hx hb hts k_2 hown hK.1 hP 1 rfl rfl 2 (by decide) k_4 (fun _ h9 => h9) rfl dX3_times_24 ?_
  refine lv_lmul hx hb dX3_times_27 ?_
  refine lv_ladd hx hb dX3_times_28 ?_
  exact rr_l hx hb hr hlk dX3_times_29 rfl
def z3_isBefore (x : Int64) (y : Int64) (z : Int64) (u : Int64) (v : Int64) (w : Int64) : Int32 := if x = u then if y = v then if w ≤ z then 0 else 1 else if v ≤ y then 0 else 1 else if u ≤ x then 0 else 1
set_option maxHeartbeats 4000000 in
set_option maxRecDepth 100000 in
/-- X3.isBefore -/
theorem c_X3_isBefore (l : Launch) (D : va_G) (cI cJ : ClassId) (h : Nat) (g : Nat) (x : Int64) (y : Int64) (z : Int64) (u : Int64) (v : Int64) (w : Int64) : mr_C l yX3_isBefore wsX3_isBefore ({ frames := 0, cells := 0, slots := 0, locals := 0 }) D cI cJ [.ref h, .ref g] [kT h x y z, kT g u v w] (vp_Si (fun r : Int32 => r = z3_isBefore x y z u v w)) := by
  refine mr_in (cc := cX3_isBefore) (lv := [(0, .ref h), (1, .ref g)]) (by decide) rfl (Nat.le_of_ble_eq_true rfl) rfl ?_
  intro pG eG sG mG below meth cG ls hx hb hr hml hown hts hlk hP hK hl
  have hown : sG.vm.findClass RX3 = some mG.cls := hown
  have k_1 := hts (.fieldLink RX3 7 "ConicRows$Triple" "x" "J") (by decide +kernel)
  have k_2 : ∀ w ∈ wsX30, w ∈ wsX3_isBefore := by decide +kernel
  have k_3 := hts (.fieldLink RX3 13 "ConicRows$Triple" "y" "J") (by decide +kernel)
  have k_4 := hts (.fieldLink RX3 16 "ConicRows$Triple" "z" "J") (by decide +kernel)
  refine lv_aload_n hx hb dX3_isBefore_0 rfl (lv_at hl 0 rfl) ?_
  refine va_get (D := D) (ci := 3) (v := .long x) (C := RX3) (T := TX3) (N := 3) hx hb hts k_2 hown hK.1 hP 0 rfl rfl 0 (by decide) k_1 (fun _ h9 => h9) rfl dX3_isBefore_1 ?_
  refine lv_aload_n hx hb dX3_isBefore_4 rfl (lv_at hl 1 rfl) ?_
  refine va_get (D := D) (ci := 3) (v := .long u) (C := RX3) (T := TX3) (N := 3) hx hb hts k_2 hown hK.1 hP 1 rfl rfl 0 (by decide) k_1 (fun _ h9 => h9) rfl dX3_isBefore_5 ?_
  refine lb_eq (tgt := 30) hx hb dX3_isBefore_8 rfl dX3_isBefore_9 (by decide) (fun c_1 => ?_) (fun c_1 => ?_)
  · skip
    refine lv_aload_n hx hb dX3_isBefore_30 rfl (lv_at hl 0 rfl) ?_
    refine va_get (D := D) (ci := 3) (v := .long y) (C := RX3) (T := TX3) (N := 3) hx hb hts k_2 hown hK.1 hP 0 rfl rfl 1 (by decide) k_3 (fun _ h9 => h9) rfl dX3_isBefore_31 ?_
    refine lv_aload_n hx hb dX3_isBefore_34 rfl (lv_at hl 1 rfl) ?_
    refine va_get (D := D) (ci := 3) (v := .long v) (C := RX3) (T := TX3) (N := 3) hx hb hts k_2 hown hK.1 hP 1 rfl rfl 1 (by decide) k_3 (fun _ h9 => h9) rfl dX3_isBefore_35 ?_
    refine lb_eq (tgt := 62) hx hb dX3_isBefore_38 rfl dX3_isBefore_39 (by decide) (fun c_2 => ?_) (fun c_2 => ?_)
    · skip
      refine lv_aload_n hx hb dX3_isBefore_62 rfl (lv_at hl 0 rfl) ?_
      refine va_get (D := D) (ci := 3) (v := .long z) (C := RX3) (T := TX3) (N := 3) hx hb hts k_2 hown hK.1 hP 0 rfl rfl 2 (by decide) k_4 (fun _ h9 => h9) rfl dX3_isBefore_63 ?_
      refine lv_aload_n hx hb dX3_isBefore_66 rfl (lv_at hl 1 rfl) ?_
      refine va_get (D := D) (ci := 3) (v := .long w) (C := RX3) (T := TX3) (N := 3) hx hb hts k_2 hown hK.1 hP 1 rfl rfl 2 (by decide) k_4 (fun _ h9 => h9) rfl dX3_isBefore_67 ?_
      refine lb_ge (tgt := 78) hx hb dX3_isBefore_70 rfl dX3_isBefore_71 (by decide) (fun c_3 => ?_) (fun c_3 => ?_)
      · skip
        refine lv_iconst (v := 0) hx hb dX3_isBefore_78 (by decide) ?_
        have he : z3_isBefore x y z u v w = 0 := by unfold z3_isBefore; rw [if_pos c_1, if_pos c_2, if_pos c_3]
        exact rr_z hx hb hr rfl hlk dX3_isBefore_79 he.symm
      · skip
        refine lv_iconst (v := 1) hx hb dX3_isBefore_74 (by decide) ?_
        refine lv_goto (tgt := 79) hx hb dX3_isBefore_75 (by decide) ?_
        have he : z3_isBefore x y z u v w = 1 := by unfold z3_isBefore; rw [if_pos c_1, if_pos c_2, if_neg c_3]
        exact rr_z hx hb hr rfl hlk dX3_isBefore_79 he.symm
    · skip
      refine lv_aload_n hx hb dX3_isBefore_42 rfl (lv_at hl 0 rfl) ?_
      refine va_get (D := D) (ci := 3) (v := .long y) (C := RX3) (T := TX3) (N := 3) hx hb hts k_2 hown hK.1 hP 0 rfl rfl 1 (by decide) k_3 (fun _ h9 => h9) rfl dX3_isBefore_43 ?_
      refine lv_aload_n hx hb dX3_isBefore_46 rfl (lv_at hl 1 rfl) ?_
      refine va_get (D := D) (ci := 3) (v := .long v) (C := RX3) (T := TX3) (N := 3) hx hb hts k_2 hown hK.1 hP 1 rfl rfl 1 (by decide) k_3 (fun _ h9 => h9) rfl dX3_isBefore_47 ?_
      refine lb_ge (tgt := 58) hx hb dX3_isBefore_50 rfl dX3_isBefore_51 (by decide) (fun c_4 => ?_) (fun c_4 => ?_)
      · skip
        refine lv_iconst (v := 0) hx hb dX3_isBefore_58 (by decide) ?_
        refine lv_goto (tgt := 79) hx hb dX3_isBefore_59 (by decide) ?_
        have he : z3_isBefore x y z u v w = 0 := by unfold z3_isBefore; rw [if_pos c_1, if_neg c_2, if_pos c_4]
        exact rr_z hx hb hr rfl hlk dX3_isBefore_79 he.symm
      · skip
        refine lv_iconst (v := 1) hx hb dX3_isBefore_54 (by decide) ?_
        refine lv_goto (tgt := 79) hx hb dX3_isBefore_55 (by decide) ?_
        have he : z3_isBefore x y z u v w = 1 := by unfold z3_isBefore; rw [if_pos c_1, if_neg c_2, if_neg c_4]
        exact rr_z hx hb hr rfl hlk dX3_isBefore_79 he.symm
  · skip
    refine lv_aload_n hx hb dX3_isBefore_12 rfl (lv_at hl 0 rfl) ?_
    refine va_get (D := D) (ci := 3) (v := .long x) (C := RX3) (T := TX3) (N := 3) hx hb hts k_2 hown hK.1 hP 0 rfl rfl 0 (by decide) k_1 (fun _ h9 => h9) rfl dX3_isBefore_13 ?_
    refine lv_aload_n hx hb dX3_isBefore_16 rfl (lv_at hl 1 rfl) ?_
    refine va_get (D := D) (ci := 3) (v := .long u) (C := RX3) (T := TX3) (N := 3) hx hb hts k_2 hown hK.1 hP 1 rfl rfl 0 (by decide) k_1 (fun _ h9 => h9) rfl dX3_isBefore_17 ?_
    refine lb_ge (tgt := 28) hx hb dX3_isBefore_20 rfl dX3_isBefore_21 (by decide) (fun c_5 => ?_) (fun c_5 => ?_)
    · skip
      refine lv_iconst (v := 0) hx hb dX3_isBefore_28 (by decide) ?_
      have he : z3_isBefore x y z u v w = 0 := by unfold z3_isBefore; rw [if_neg c_1, if_pos c_5]
      exact rr_z hx hb hr rfl hlk dX3_isBefore_29 he.symm
    · skip
      refine lv_iconst (v := 1) hx hb dX3_isBefore_24 (by decide) ?_
      refine lv_goto (tgt := 29) hx hb dX3_isBefore_25 (by decide) ?_
      have he : z3_isBefore x y z u v w = 1 := by unfold z3_isBefore; rw [if_neg c_1, if_neg c_5]
      exact rr_z hx hb hr rfl hlk dX3_isBefore_29 he.symm
def z3_setAcross_x (y : Int64) (z : Int64) (v : Int64) (w : Int64) : Int64 := ((y * w) - (z * v))
def z3_setAcross_y (x : Int64) (z : Int64) (u : Int64) (w : Int64) : Int64 := ((z * u) - (x * w))
def z3_setAcross_z (x : Int64) (y : Int64) (u : Int64) (v : Int64) : Int64 := ((x * v) - (y * u))
set_option maxHeartbeats 4000000 in
set_option maxRecDepth 100000 in
/-- X3.setAcross -/
theorem c_X3_setAcross (l : Launch) (D : va_G) (cI cJ : ClassId) (h : Nat) (g : Nat) (k : Nat) (r : Int64) (s : Int64) (t : Int64) (x : Int64) (y : Int64) (z : Int64) (u : Int64) (v : Int64) (w : Int64) : mw_C l yX3_setAcross wsX3_setAcross ({ frames := 1, cells := 0, slots := 0, locals := 26 }) D cI cJ [.ref h, .ref g, .ref k] [kT h r s t, kT g x y z, kT k u v w] (qe_v (fun _ : Unit => True) (fun uu => [kT h (z3_setAcross_x y z v w) (z3_setAcross_y x z u w) (z3_setAcross_z x y u v), kT g x y z, kT k u v w])) := by
  refine mw_in (cc := cX3_setAcross) (lv := [(0, .ref h), (1, .ref g), (2, .ref k)]) (by decide) rfl (Nat.le_of_ble_eq_true rfl) rfl ?_
  intro pG eG sG mG below meth cG ls A hx hb hr hml hown hts hlk hin hP hK hD hA hS hl
  have hown : sG.vm.findClass RX3 = some mG.cls := hown
  have k_1 := hts (.fieldLink RX3 13 "ConicRows$Triple" "y" "J") (by decide +kernel)
  have k_2 : ∀ w ∈ wsX30, w ∈ wsX3_setAcross := by decide +kernel
  have k_3 := hts (.fieldLink RX3 16 "ConicRows$Triple" "z" "J") (by decide +kernel)
  have k_4 := hts (.fieldLink RX3 7 "ConicRows$Triple" "x" "J") (by decide +kernel)
  refine lv_aload_n hx hb dX3_setAcross_0 rfl (lv_at hl 0 rfl) ?_
  refine lv_aload_n hx hb dX3_setAcross_1 rfl (lv_at hl 1 rfl) ?_
  refine va_get (D := D) (ci := 3) (v := .long y) (C := RX3) (T := TX3) (N := 3) hx hb hts k_2 hown hK.1 hP 1 rfl rfl 1 (by decide) k_1 (fun _ h9 => h9) rfl dX3_setAcross_2 ?_
  refine lv_aload_n hx hb dX3_setAcross_5 rfl (lv_at hl 2 rfl) ?_
  refine va_get (D := D) (ci := 3) (v := .long w) (C := RX3) (T := TX3) (N := 3) hx hb hts k_2 hown hK.1 hP 2 rfl rfl 2 (by decide) k_3 (fun _ h9 => h9) rfl dX3_setAcross_6 ?_
  refine lv_lmul hx hb dX3_setAcross_9 ?_
  refine lv_aload_n hx hb dX3_setAcross_10 rfl (lv_at hl 1 rfl) ?_
  refine va_get (D := D) (ci := 3) (v := .long z) (C := RX3) (T := TX3) (N := 3) hx hb hts k_2 hown hK.1 hP 1 rfl rfl 2 (by decide) k_3 (fun _ h9 => h9) rfl dX3_setAcross_11 ?_
  refine lv_aload_n hx hb dX3_setAcross_14 rfl (lv_at hl 2 rfl) ?_
  refine va_get (D := D) (ci := 3) (v := .long v) (C := RX3) (T := TX3) (N := 3) hx hb hts k_2 hown hK.1 hP 2 rfl rfl 1 (by decide) k_1 (fun _ h9 => h9) rfl dX3_setAcross_15 ?_
  refine lv_lmul hx hb dX3_setAcross_18 ?_
  refine lv_lsub hx hb dX3_setAcross_19 ?_
  refine lv_aload_n hx hb dX3_setAcross_20 rfl (lv_at hl 1 rfl) ?_
  refine va_get (D := D) (ci := 3) (v := .long z) (C := RX3) (T := TX3) (N := 3) hx hb hts k_2 hown hK.1 hP 1 rfl rfl 2 (by decide) k_3 (fun _ h9 => h9) rfl dX3_setAcross_21 ?_
  refine lv_aload_n hx hb dX3_setAcross_24 rfl (lv_at hl 2 rfl) ?_
  refine va_get (D := D) (ci := 3) (v := .long u) (C := RX3) (T := TX3) (N := 3) hx hb hts k_2 hown hK.1 hP 2 rfl rfl 0 (by decide) k_4 (fun _ h9 => h9) rfl dX3_setAcross_25 ?_
  refine lv_lmul hx hb dX3_setAcross_28 ?_
  refine lv_aload_n hx hb dX3_setAcross_29 rfl (lv_at hl 1 rfl) ?_
  refine va_get (D := D) (ci := 3) (v := .long x) (C := RX3) (T := TX3) (N := 3) hx hb hts k_2 hown hK.1 hP 1 rfl rfl 0 (by decide) k_4 (fun _ h9 => h9) rfl dX3_setAcross_30 ?_
  refine lv_aload_n hx hb dX3_setAcross_33 rfl (lv_at hl 2 rfl) ?_
  refine va_get (D := D) (ci := 3) (v := .long w) (C := RX3) (T := TX3) (N := 3) hx hb hts k_2 hown hK.1 hP 2 rfl rfl 2 (by decide) k_3 (fun _ h9 => h9) rfl dX3_setAcross_34 ?_
  refine lv_lmul hx hb dX3_setAcross_37 ?_
  refine lv_lsub hx hb dX3_setAcross_38 ?_
  refine lv_aload_n hx hb dX3_setAcross_39 rfl (lv_at hl 1 rfl) ?_
  refine va_get (D := D) (ci := 3) (v := .long x) (C := RX3) (T := TX3) (N := 3) hx hb hts k_2 hown hK.1 hP 1 rfl rfl 0 (by decide) k_4 (fun _ h9 => h9) rfl dX3_setAcross_40 ?_
  refine lv_aload_n hx hb dX3_setAcross_43 rfl (lv_at hl 2 rfl) ?_
  refine va_get (D := D) (ci := 3) (v := .long v) (C := RX3) (T := TX3) (N := 3) hx hb hts k_2 hown hK.1 hP 2 rfl rfl 1 (by decide) k_1 (fun _ h9 => h9) rfl dX3_setAcross_44 ?_
  refine lv_lmul hx hb dX3_setAcross_47 ?_
  refine lv_aload_n hx hb dX3_setAcross_48 rfl (lv_at hl 1 rfl) ?_
  refine va_get (D := D) (ci := 3) (v := .long y) (C := RX3) (T := TX3) (N := 3) hx hb hts k_2 hown hK.1 hP 1 rfl rfl 1 (by decide) k_1 (fun _ h9 => h9) rfl dX3_setAcross_49 ?_
  refine lv_aload_n hx hb dX3_setAcross_52 rfl (lv_at hl 2 rfl) ?_
  refine va_get (D := D) (ci := 3) (v := .long u) (C := RX3) (T := TX3) (N := 3) hx hb hts k_2 hown hK.1 hP 2 rfl rfl 0 (by decide) k_4 (fun _ h9 => h9) rfl dX3_setAcross_53 ?_
  refine lv_lmul hx hb dX3_setAcross_56 ?_
  refine lv_lsub hx hb dX3_setAcross_57 ?_
  have hPc := hP.sub (ws' := [kT h r s t]) [0] rfl
  have hDc := hD.sub (ws' := [kT h r s t]) [0] (by decide) rfl
  refine cl_v (wc := [kT h r s t]) (wr := [kT g x y z, kT k u v w]) (w1 := fun uu : Unit => [kT h ((y * w) - (z * v)) ((z * u) - (x * w)) ((x * v) - (y * u))]) (wn := fun uu : Unit => [kT h ((y * w) - (z * v)) ((z * u) - (x * w)) ((x * v) - (y * u)), kT g x y z, kT k u v w]) (va_runV (As := [.long ((y * w) - (z * v)), .long ((z * u) - (x * w)), .long ((x * v) - (y * u))]) (rest := []) ⟨hx, hb, hml, hown, hts⟩ (c_X3_set l D cI cJ h r s t ((y * w) - (z * v)) ((z * u) - (x * w)) ((x * v) - (y * u)) _) (cwV 3 hts gX3_setAcross_X3_set rfl rfl rfl (by decide +kernel) ⟨Nat.le_of_ble_eq_true rfl, Nat.le_of_ble_eq_true rfl⟩) ⟨gd_blP, va_recv hK.1 hPc (ci := 3) (q0 := 0) rfl rfl, gd_prP hPc hK hDc⟩ rfl rfl hl.1 rfl (lv_room (Nat.le_of_ble_eq_true rfl)) dX3_setAcross_58 ⟨Nat.zero_le _, Nat.zero_le _⟩) hP hD hS hA [0] [1, 2] rfl rfl (by decide) (by decide) [2, 0, 1] (by decide) (fun _ => rfl) (fun uG H locs hw hP hD hS => ?_)
  have hP : va_P D vwCl [kT h ((y * w) - (z * v)) ((z * u) - (x * w)) ((x * v) - (y * u)), kT g x y z, kT k u v w] H := hP
  have hD : va_D A [kT h ((y * w) - (z * v)) ((z * u) - (x * w)) ((x * v) - (y * u)), kT g x y z, kT k u v w] := hD
  clear hPc hDc
  have he_0 : z3_setAcross_x y z v w = ((y * w) - (z * v)) := by delta z3_setAcross_x; rfl
  have he_1 : z3_setAcross_y x z u w = ((z * u) - (x * w)) := by delta z3_setAcross_y; rfl
  have he_2 : z3_setAcross_z x y u v = ((x * v) - (y * u)) := by delta z3_setAcross_z; rfl
  exact rt_v (w1 := fun uu : Unit => [kT h (z3_setAcross_x y z v w) (z3_setAcross_y x z u w) (z3_setAcross_z x y u v), kT g x y z, kT k u v w]) hx hb hr hlk hS dX3_setAcross_61 (()) trivial (by rw [he_0, he_1, he_2]; exact hP) (by rw [he_0, he_1, he_2]; exact hD)
def z3_setPolar_x (a : Int64) (b : Int64) (d : Int64) (u : Int64) (v : Int64) (w : Int64) : Int64 := ((((2 * a) * u) + (b * v)) + (d * w))
def z3_setPolar_y (b : Int64) (c : Int64) (e : Int64) (u : Int64) (v : Int64) (w : Int64) : Int64 := (((b * u) + ((2 * c) * v)) + (e * w))
def z3_setPolar_z (d : Int64) (e : Int64) (f : Int64) (u : Int64) (v : Int64) (w : Int64) : Int64 := (((d * u) + (e * v)) + ((2 * f) * w))
set_option maxHeartbeats 4000000 in
set_option maxRecDepth 100000 in
/-- X3.setPolar -/
theorem c_X3_setPolar (l : Launch) (D : va_G) (cI cJ : ClassId) (h : Nat) (g : Nat) (k : Nat) (r : Int64) (s : Int64) (t : Int64) (a : Int64) (b : Int64) (c : Int64) (d : Int64) (e : Int64) (f : Int64) (u : Int64) (v : Int64) (w : Int64) : mw_C l yX3_setPolar wsX3_setPolar ({ frames := 1, cells := 0, slots := 0, locals := 26 }) D cI cJ [.ref h, .ref g, .ref k] [kT h r s t, kF g a b c d e f, kT k u v w] (qe_v (fun _ : Unit => True) (fun uu => [kT h (z3_setPolar_x a b d u v w) (z3_setPolar_y b c e u v w) (z3_setPolar_z d e f u v w), kF g a b c d e f, kT k u v w])) := by
  refine mw_in (cc := cX3_setPolar) (lv := [(0, .ref h), (1, .ref g), (2, .ref k)]) (by decide) rfl (Nat.le_of_ble_eq_true rfl) rfl ?_
  intro pG eG sG mG below meth cG ls A hx hb hr hml hown hts hlk hin hP hK hD hA hS hl
  have hown : sG.vm.findClass RX3 = some mG.cls := hown
  have k_1 := hts (.constantLong RX3 45 (2)) (by decide +kernel)
  have k_2 : ∀ w ∈ wsX00, w ∈ wsX3_setPolar := by decide +kernel
  have k_3 := hts (.fieldLink RX3 7 "ConicRows$Triple" "x" "J") (by decide +kernel)
  have k_4 : ∀ w ∈ wsX30, w ∈ wsX3_setPolar := by decide +kernel
  have k_5 := hts (.fieldLink RX3 13 "ConicRows$Triple" "y" "J") (by decide +kernel)
  have k_6 := hts (.fieldLink RX3 16 "ConicRows$Triple" "z" "J") (by decide +kernel)
  refine lv_aload_n hx hb dX3_setPolar_0 rfl (lv_at hl 0 rfl) ?_
  refine lv_ldc2 hx hb hown k_1 dX3_setPolar_1 ?_
  refine lv_aload_n hx hb dX3_setPolar_4 rfl (lv_at hl 1 rfl) ?_
  refine va_getN (D := D) (ci := 0) (v := .long a) (C := RX0) (T := TX0) (N := 6) hx hb hts k_2 hown hK.1 hP 1 rfl rfl 0 (by decide) (nw_f hK.2 15 rfl) (fun _ h9 => h9) rfl dX3_setPolar_5 ?_
  refine lv_lmul hx hb dX3_setPolar_8 ?_
  refine lv_aload_n hx hb dX3_setPolar_9 rfl (lv_at hl 2 rfl) ?_
  refine va_get (D := D) (ci := 3) (v := .long u) (C := RX3) (T := TX3) (N := 3) hx hb hts k_4 hown hK.1 hP 2 rfl rfl 0 (by decide) k_3 (fun _ h9 => h9) rfl dX3_setPolar_10 ?_
  refine lv_lmul hx hb dX3_setPolar_13 ?_
  refine lv_aload_n hx hb dX3_setPolar_14 rfl (lv_at hl 1 rfl) ?_
  refine va_getN (D := D) (ci := 0) (v := .long b) (C := RX0) (T := TX0) (N := 6) hx hb hts k_2 hown hK.1 hP 1 rfl rfl 1 (by decide) (nw_f hK.2 18 rfl) (fun _ h9 => h9) rfl dX3_setPolar_15 ?_
  refine lv_aload_n hx hb dX3_setPolar_18 rfl (lv_at hl 2 rfl) ?_
  refine va_get (D := D) (ci := 3) (v := .long v) (C := RX3) (T := TX3) (N := 3) hx hb hts k_4 hown hK.1 hP 2 rfl rfl 1 (by decide) k_5 (fun _ h9 => h9) rfl dX3_setPolar_19 ?_
  refine lv_lmul hx hb dX3_setPolar_22 ?_
  refine lv_ladd hx hb dX3_setPolar_23 ?_
  refine lv_aload_n hx hb dX3_setPolar_24 rfl (lv_at hl 1 rfl) ?_
  refine va_getN (D := D) (ci := 0) (v := .long d) (C := RX0) (T := TX0) (N := 6) hx hb hts k_2 hown hK.1 hP 1 rfl rfl 3 (by decide) (nw_f hK.2 24 rfl) (fun _ h9 => h9) rfl dX3_setPolar_25 ?_
  refine lv_aload_n hx hb dX3_setPolar_28 rfl (lv_at hl 2 rfl) ?_
  refine va_get (D := D) (ci := 3) (v := .long w) (C := RX3) (T := TX3) (N := 3) hx hb hts k_4 hown hK.1 hP 2 rfl rfl 2 (by decide) k_6 (fun _ h9 => h9) rfl dX3_setPolar_29 ?_
  refine lv_lmul hx hb dX3_setPolar_32 ?_
  refine lv_ladd hx hb dX3_setPolar_33 ?_
  refine lv_aload_n hx hb dX3_setPolar_34 rfl (lv_at hl 1 rfl) ?_
  refine va_getN (D := D) (ci := 0) (v := .long b) (C := RX0) (T := TX0) (N := 6) hx hb hts k_2 hown hK.1 hP 1 rfl rfl 1 (by decide) (nw_f hK.2 18 rfl) (fun _ h9 => h9) rfl dX3_setPolar_35 ?_
  refine lv_aload_n hx hb dX3_setPolar_38 rfl (lv_at hl 2 rfl) ?_
  refine va_get (D := D) (ci := 3) (v := .long u) (C := RX3) (T := TX3) (N := 3) hx hb hts k_4 hown hK.1 hP 2 rfl rfl 0 (by decide) k_3 (fun _ h9 => h9) rfl dX3_setPolar_39 ?_
  refine lv_lmul hx hb dX3_setPolar_42 ?_
  refine lv_ldc2 hx hb hown k_1 dX3_setPolar_43 ?_
  refine lv_aload_n hx hb dX3_setPolar_46 rfl (lv_at hl 1 rfl) ?_
  refine va_getN (D := D) (ci := 0) (v := .long c) (C := RX0) (T := TX0) (N := 6) hx hb hts k_2 hown hK.1 hP 1 rfl rfl 2 (by decide) (nw_f hK.2 21 rfl) (fun _ h9 => h9) rfl dX3_setPolar_47 ?_
  refine lv_lmul hx hb dX3_setPolar_50 ?_
  refine lv_aload_n hx hb dX3_setPolar_51 rfl (lv_at hl 2 rfl) ?_
  refine va_get (D := D) (ci := 3) (v := .long v) (C := RX3) (T := TX3) (N := 3) hx hb hts k_4 hown hK.1 hP 2 rfl rfl 1 (by decide) k_5 (fun _ h9 => h9) rfl dX3_setPolar_52 ?_
  refine lv_lmul hx hb dX3_setPolar_55 ?_
  refine lv_ladd hx hb dX3_setPolar_56 ?_
  refine lv_aload_n hx hb dX3_setPolar_57 rfl (lv_at hl 1 rfl) ?_
  refine va_getN (D := D) (ci := 0) (v := .long e) (C := RX0) (T := TX0) (N := 6) hx hb hts k_2 hown hK.1 hP 1 rfl rfl 4 (by decide) (nw_f hK.2 27 rfl) (fun _ h9 => h9) rfl dX3_setPolar_58 ?_
  refine lv_aload_n hx hb dX3_setPolar_61 rfl (lv_at hl 2 rfl) ?_
  refine va_get (D := D) (ci := 3) (v := .long w) (C := RX3) (T := TX3) (N := 3) hx hb hts k_4 hown hK.1 hP 2 rfl rfl 2 (by decide) k_6 (fun _ h9 => h9) rfl dX3_setPolar_62 ?_
  refine lv_lmul hx hb dX3_setPolar_65 ?_
  refine lv_ladd hx hb dX3_setPolar_66 ?_
  refine lv_aload_n hx hb dX3_setPolar_67 rfl (lv_at hl 1 rfl) ?_
  refine va_getN (D := D) (ci := 0) (v := .long d) (C := RX0) (T := TX0) (N := 6) hx hb hts k_2 hown hK.1 hP 1 rfl rfl 3 (by decide) (nw_f hK.2 24 rfl) (fun _ h9 => h9) rfl dX3_setPolar_68 ?_
  refine lv_aload_n hx hb dX3_setPolar_71 rfl (lv_at hl 2 rfl) ?_
  refine va_get (D := D) (ci := 3) (v := .long u) (C := RX3) (T := TX3) (N := 3) hx hb hts k_4 hown hK.1 hP 2 rfl rfl 0 (by decide) k_3 (fun _ h9 => h9) rfl dX3_setPolar_72 ?_
  refine lv_lmul hx hb dX3_setPolar_75 ?_
  refine lv_aload_n hx hb dX3_setPolar_76 rfl (lv_at hl 1 rfl) ?_
  refine va_getN (D := D) (ci := 0) (v := .long e) (C := RX0) (T := TX0) (N := 6) hx hb hts k_2 hown hK.1 hP 1 rfl rfl 4 (by decide) (nw_f hK.2 27 rfl) (fun _ h9 => h9) rfl dX3_setPolar_77 ?_
  refine lv_aload_n hx hb dX3_setPolar_80 rfl (lv_at hl 2 rfl) ?_
  refine va_get (D := D) (ci := 3) (v := .long v) (C := RX3) (T := TX3) (N := 3) hx hb hts k_4 hown hK.1 hP 2 rfl rfl 1 (by decide) k_5 (fun _ h9 => h9) rfl dX3_setPolar_81 ?_
  refine lv_lmul hx hb dX3_setPolar_84 ?_
  refine lv_ladd hx hb dX3_setPolar_85 ?_
  refine lv_ldc2 hx hb hown k_1 dX3_setPolar_86 ?_
  refine lv_aload_n hx hb dX3_setPolar_89 rfl (lv_at hl 1 rfl) ?_
  refine va_getN (D := D) (ci := 0) (v := .long f) (C := RX0) (T := TX0) (N := 6) hx hb hts k_2 hown hK.1 hP 1 rfl rfl 5 (by decide) (nw_f hK.2 30 rfl) (fun _ h9 => h9) rfl dX3_setPolar_90 ?_
  refine lv_lmul hx hb dX3_setPolar_93 ?_
  refine lv_aload_n hx hb dX3_setPolar_94 rfl (lv_at hl 2 rfl) ?_
  refine va_get (D := D) (ci := 3) (v := .long w) (C := RX3) (T := TX3) (N := 3) hx hb hts k_4 hown hK.1 hP 2 rfl rfl 2 (by decide) k_6 (fun _ h9 => h9) rfl dX3_setPolar_95 ?_
  refine lv_lmul hx hb dX3_setPolar_98 ?_
  refine lv_ladd hx hb dX3_setPolar_99 ?_
  have hPc := hP.sub (ws' := [kT h r s t]) [0] rfl
  have hDc := hD.sub (ws' := [kT h r s t]) [0] (by decide) rfl
  refine cl_v (wc := [kT h r s t]) (wr := [kF g a b c d e f, kT k u v w]) (w1 := fun uu : Unit => [kT h ((((2 * a) * u) + (b * v)) + (d * w)) (((b * u) + ((2 * c) * v)) + (e * w)) (((d * u) + (e * v)) + ((2 * f) * w))]) (wn := fun uu : Unit => [kT h ((((2 * a) * u) + (b * v)) + (d * w)) (((b * u) + ((2 * c) * v)) + (e * w)) (((d * u) + (e * v)) + ((2 * f) * w)), kF g a b c d e f, kT k u v w]) (va_runV (As := [.long ((((2 * a) * u) + (b * v)) + (d * w)), .long (((b * u) + ((2 * c) * v)) + (e * w)), .long (((d * u) + (e * v)) + ((2 * f) * w))]) (rest := []) ⟨hx, hb, hml, hown, hts⟩ (c_X3_set l D cI cJ h r s t ((((2 * a) * u) + (b * v)) + (d * w)) (((b * u) + ((2 * c) * v)) + (e * w)) (((d * u) + (e * v)) + ((2 * f) * w)) _) (cwV 3 hts gX3_setPolar_X3_set rfl rfl rfl (by decide +kernel) ⟨Nat.le_of_ble_eq_true rfl, Nat.le_of_ble_eq_true rfl⟩) ⟨gd_blP, va_recv hK.1 hPc (ci := 3) (q0 := 0) rfl rfl, gd_prP hPc hK hDc⟩ rfl rfl hl.1 rfl (lv_room (Nat.le_of_ble_eq_true rfl)) dX3_setPolar_100 ⟨Nat.zero_le _, Nat.zero_le _⟩) hP hD hS hA [0] [1, 2] rfl rfl (by decide) (by decide) [2, 0, 1] (by decide) (fun _ => rfl) (fun uG H locs hw hP hD hS => ?_)
  have hP : va_P D vwCl [kT h ((((2 * a) * u) + (b * v)) + (d * w)) (((b * u) + ((2 * c) * v)) + (e * w)) (((d * u) + (e * v)) + ((2 * f) * w)), kF g a b c d e f, kT k u v w] H := hP
  have hD : va_D A [kT h ((((2 * a) * u) + (b * v)) + (d * w)) (((b * u) + ((2 * c) * v)) + (e * w)) (((d * u) + (e * v)) + ((2 * f) * w)), kF g a b c d e f, kT k u v w] := hD
  clear hPc hDc
  have he_0 : z3_setPolar_x a b d u v w = ((((2 * a) * u) + (b * v)) + (d * w)) := by delta z3_setPolar_x; rfl
  have he_1 : z3_setPolar_y b c e u v w = (((b * u) + ((2 * c) * v)) + (e * w)) := by delta z3_setPolar_y; rfl
  have he_2 : z3_setPolar_z d e f u v w = (((d * u) + (e * v)) + ((2 * f) * w)) := by delta z3_setPolar_z; rfl
  exact rt_v (w1 := fun uu : Unit => [kT h (z3_setPolar_x a b d u v w) (z3_setPolar_y b c e u v w) (z3_setPolar_z d e f u v w), kF g a b c d e f, kT k u v w]) hx hb hr hlk hS dX3_setPolar_103 (()) trivial (by rw [he_0, he_1, he_2]; exact hP) (by rw [he_0, he_1, he_2]; exact hD)
def z3_setProduct_x (a : Int64) (b : Int64) (d : Int64) (u : Int64) (v : Int64) (w : Int64) : Int64 := (((a * u) + (b * v)) + (d * w))
def z3_setProduct_y (b : Int64) (c : Int64) (e : Int64) (u : Int64) (v : Int64) (w : Int64) : Int64 := (((b * u) + (c * v)) + (e * w))
def z3_setProduct_z (d : Int64) (e : Int64) (f : Int64) (u : Int64) (v : Int64) (w : Int64) : Int64 := (((d * u) + (e * v)) + (f * w))
set_option maxHeartbeats 4000000 in
set_option maxRecDepth 100000 in
/-- X3.setProduct -/
theorem c_X3_setProduct (l : Launch) (D : va_G) (cI cJ : ClassId) (h : Nat) (g : Nat) (k : Nat) (r : Int64) (s : Int64) (t : Int64) (a : Int64) (b : Int64) (c : Int64) (d : Int64) (e : Int64) (f : Int64) (u : Int64) (v : Int64) (w : Int64) : mw_C l yX3_setProduct wsX3_setProduct ({ frames := 1, cells := 0, slots := 0, locals := 26 }) D cI cJ [.ref h, .ref g, .ref k] [kT h r s t, kF g a b c d e f, kT k u v w] (qe_v (fun _ : Unit => True) (fun uu => [kT h (z3_setProduct_x a b d u v w) (z3_setProduct_y b c e u v w) (z3_setProduct_z d e f u v w), kF g a b c d e f, kT k u v w])) := by
  refine mw_in (cc := cX3_setProduct) (lv := [(0, .ref h), (1, .ref g), (2, .ref k)]) (by decide) rfl (Nat.le_of_ble_eq_true rfl) rfl ?_
  intro pG eG sG mG below meth cG ls A hx hb hr hml hown hts hlk hin hP hK hD hA hS hl
  have hown : sG.vm.findClass RX3 = some mG.cls := hown
  have k_1 : ∀ w ∈ wsX00, w ∈ wsX3_setProduct := by decide +kernel
  have k_2 := hts (.fieldLink RX3 7 "ConicRows$Triple" "x" "J") (by decide +kernel)
  have k_3 : ∀ w ∈ wsX30, w ∈ wsX3_setProduct := by decide +kernel
  have k_4 := hts (.fieldLink RX3 13 "ConicRows$Triple" "y" "J") (by decide +kernel)
  have k_5 := hts (.fieldLink RX3 16 "ConicRows$Triple" "z" "J") (by decide +kernel)
  refine lv_aload_n hx hb dX3_setProduct_0 rfl (lv_at hl 0 rfl) ?_
  refine lv_aload_n hx hb dX3_setProduct_1 rfl (lv_at hl 1 rfl) ?_
  refine va_getN (D := D) (ci := 0) (v := .long a) (C := RX0) (T := TX0) (N := 6) hx hb hts k_1 hown hK.1 hP 1 rfl rfl 0 (by decide) (nw_f hK.2 15 rfl) (fun _ h9 => h9) rfl dX3_setProduct_2 ?_
  refine lv_aload_n hx hb dX3_setProduct_5 rfl (lv_at hl 2 rfl) ?_
  refine va_get (D := D) (ci := 3) (v := .long u) (C := RX3) (T := TX3) (N := 3) hx hb hts k_3 hown hK.1 hP 2 rfl rfl 0 (by decide) k_2 (fun _ h9 => h9) rfl dX3_setProduct_6 ?_
  refine lv_lmul hx hb dX3_setProduct_9 ?_
  refine lv_aload_n hx hb dX3_setProduct_10 rfl (lv_at hl 1 rfl) ?_
  refine va_getN (D := D) (ci := 0) (v := .long b) (C := RX0) (T := TX0) (N := 6) hx hb hts k_1 hown hK.1 hP 1 rfl rfl 1 (by decide) (nw_f hK.2 18 rfl) (fun _ h9 => h9) rfl dX3_setProduct_11 ?_
  refine lv_aload_n hx hb dX3_setProduct_14 rfl (lv_at hl 2 rfl) ?_
  refine va_get (D := D) (ci := 3) (v := .long v) (C := RX3) (T := TX3) (N := 3) hx hb hts k_3 hown hK.1 hP 2 rfl rfl 1 (by decide) k_4 (fun _ h9 => h9) rfl dX3_setProduct_15 ?_
  refine lv_lmul hx hb dX3_setProduct_18 ?_
  refine lv_ladd hx hb dX3_setProduct_19 ?_
  refine lv_aload_n hx hb dX3_setProduct_20 rfl (lv_at hl 1 rfl) ?_
  refine va_getN (D := D) (ci := 0) (v := .long d) (C := RX0) (T := TX0) (N := 6) hx hb hts k_1 hown hK.1 hP 1 rfl rfl 3 (by decide) (nw_f hK.2 24 rfl) (fun _ h9 => h9) rfl dX3_setProduct_21 ?_
  refine lv_aload_n hx hb dX3_setProduct_24 rfl (lv_at hl 2 rfl) ?_
  refine va_get (D := D) (ci := 3) (v := .long w) (C := RX3) (T := TX3) (N := 3) hx hb hts k_3 hown hK.1 hP 2 rfl rfl 2 (by decide) k_5 (fun _ h9 => h9) rfl dX3_setProduct_25 ?_
  refine lv_lmul hx hb dX3_setProduct_28 ?_
  refine lv_ladd hx hb dX3_setProduct_29 ?_
  refine lv_aload_n hx hb dX3_setProduct_30 rfl (lv_at hl 1 rfl) ?_
  refine va_getN (D := D) (ci := 0) (v := .long b) (C := RX0) (T := TX0) (N := 6) hx hb hts k_1 hown hK.1 hP 1 rfl rfl 1 (by decide) (nw_f hK.2 18 rfl) (fun _ h9 => h9) rfl dX3_setProduct_31 ?_
  refine lv_aload_n hx hb dX3_setProduct_34 rfl (lv_at hl 2 rfl) ?_
  refine va_get (D := D) (ci := 3) (v := .long u) (C := RX3) (T := TX3) (N := 3) hx hb hts k_3 hown hK.1 hP 2 rfl rfl 0 (by decide) k_2 (fun _ h9 => h9) rfl dX3_setProduct_35 ?_
  refine lv_lmul hx hb dX3_setProduct_38 ?_
  refine lv_aload_n hx hb dX3_setProduct_39 rfl (lv_at hl 1 rfl) ?_
  refine va_getN (D := D) (ci := 0) (v := .long c) (C := RX0) (T := TX0) (N := 6) hx hb hts k_1 hown hK.1 hP 1 rfl rfl 2 (by decide) (nw_f hK.2 21 rfl) (fun _ h9 => h9) rfl dX3_setProduct_40 ?_
  refine lv_aload_n hx hb dX3_setProduct_43 rfl (lv_at hl 2 rfl) ?_
  refine va_get (D := D) (ci := 3) (v := .long v) (C := RX3) (T := TX3) (N := 3) hx hb hts k_3 hown hK.1 hP 2 rfl rfl 1 (by decide) k_4 (fun _ h9 => h9) rfl dX3_setProduct_44 ?_
  refine lv_lmul hx hb dX3_setProduct_47 ?_
  refine lv_ladd hx hb dX3_setProduct_48 ?_
  refine lv_aload_n hx hb dX3_setProduct_49 rfl (lv_at hl 1 rfl) ?_
  refine va_getN (D := D) (ci := 0) (v := .long e) (C := RX0) (T := TX0) (N := 6) hx hb hts k_1 hown hK.1 hP 1 rfl rfl 4 (by decide) (nw_f hK.2 27 rfl) (fun _ h9 => h9) rfl dX3_setProduct_50 ?_
  refine lv_aload_n hx hb dX3_setProduct_53 rfl (lv_at hl 2 rfl) ?_
  refine va_get (D := D) (ci := 3) (v := .long w) (C := RX3) (T := TX3) (N := 3) hx hb hts k_3 hown hK.1 hP 2 rfl rfl 2 (by decide) k_5 (fun _ h9 => h9) rfl dX3_setProduct_54 ?_
  refine lv_lmul hx hb dX3_setProduct_57 ?_
  refine lv_ladd hx hb dX3_setProduct_58 ?_
  refine lv_aload_n hx hb dX3_setProduct_59 rfl (lv_at hl 1 rfl) ?_
  refine va_getN (D := D) (ci := 0) (v := .long d) (C := RX0) (T := TX0) (N := 6) hx hb hts k_1 hown hK.1 hP 1 rfl rfl 3 (by decide) (nw_f hK.2 24 rfl) (fun _ h9 => h9) rfl dX3_setProduct_60 ?_
  refine lv_aload_n hx hb dX3_setProduct_63 rfl (lv_at hl 2 rfl) ?_
  refine va_get (D := D) (ci := 3) (v := .long u) (C := RX3) (T := TX3) (N := 3) hx hb hts k_3 hown hK.1 hP 2 rfl rfl 0 (by decide) k_2 (fun _ h9 => h9) rfl dX3_setProduct_64 ?_
  refine lv_lmul hx hb dX3_setProduct_67 ?_
  refine lv_aload_n hx hb dX3_setProduct_68 rfl (lv_at hl 1 rfl) ?_
  refine va_getN (D := D) (ci := 0) (v := .long e) (C := RX0) (T := TX0) (N := 6) hx hb hts k_1 hown hK.1 hP 1 rfl rfl 4 (by decide) (nw_f hK.2 27 rfl) (fun _ h9 => h9) rfl dX3_setProduct_69 ?_
  refine lv_aload_n hx hb dX3_setProduct_72 rfl (lv_at hl 2 rfl) ?_
  refine va_get (D := D) (ci := 3) (v := .long v) (C := RX3) (T := TX3) (N := 3) hx hb hts k_3 hown hK.1 hP 2 rfl rfl 1 (by decide) k_4 (fun _ h9 => h9) rfl dX3_setProduct_73 ?_
  refine lv_lmul hx hb dX3_setProduct_76 ?_
  refine lv_ladd hx hb dX3_setProduct_77 ?_
  refine lv_aload_n hx hb dX3_setProduct_78 rfl (lv_at hl 1 rfl) ?_
  refine va_getN (D := D) (ci := 0) (v := .long f) (C := RX0) (T := TX0) (N := 6) hx hb hts k_1 hown hK.1 hP 1 rfl rfl 5 (by decide) (nw_f hK.2 30 rfl) (fun _ h9 => h9) rfl dX3_setProduct_79 ?_
  refine lv_aload_n hx hb dX3_setProduct_82 rfl (lv_at hl 2 rfl) ?_
  refine va_get (D := D) (ci := 3) (v := .long w) (C := RX3) (T := TX3) (N := 3) hx hb hts k_3 hown hK.1 hP 2 rfl rfl 2 (by decide) k_5 (fun _ h9 => h9) rfl dX3_setProduct_83 ?_
  refine lv_lmul hx hb dX3_setProduct_86 ?_
  refine lv_ladd hx hb dX3_setProduct_87 ?_
  have hPc := hP.sub (ws' := [kT h r s t]) [0] rfl
  have hDc := hD.sub (ws' := [kT h r s t]) [0] (by decide) rfl
  refine cl_v (wc := [kT h r s t]) (wr := [kF g a b c d e f, kT k u v w]) (w1 := fun uu : Unit => [kT h (((a * u) + (b * v)) + (d * w)) (((b * u) + (c * v)) + (e * w)) (((d * u) + (e * v)) + (f * w))]) (wn := fun uu : Unit => [kT h (((a * u) + (b * v)) + (d * w)) (((b * u) + (c * v)) + (e * w)) (((d * u) + (e * v)) + (f * w)), kF g a b c d e f, kT k u v w]) (va_runV (As := [.long (((a * u) + (b * v)) + (d * w)), .long (((b * u) + (c * v)) + (e * w)), .long (((d * u) + (e * v)) + (f * w))]) (rest := []) ⟨hx, hb, hml, hown, hts⟩ (c_X3_set l D cI cJ h r s t (((a * u) + (b * v)) + (d * w)) (((b * u) + (c * v)) + (e * w)) (((d * u) + (e * v)) + (f * w)) _) (cwV 3 hts gX3_setProduct_X3_set rfl rfl rfl (by decide +kernel) ⟨Nat.le_of_ble_eq_true rfl, Nat.le_of_ble_eq_true rfl⟩) ⟨gd_blP, va_recv hK.1 hPc (ci := 3) (q0 := 0) rfl rfl, gd_prP hPc hK hDc⟩ rfl rfl hl.1 rfl (lv_room (Nat.le_of_ble_eq_true rfl)) dX3_setProduct_88 ⟨Nat.zero_le _, Nat.zero_le _⟩) hP hD hS hA [0] [1, 2] rfl rfl (by decide) (by decide) [2, 0, 1] (by decide) (fun _ => rfl) (fun uG H locs hw hP hD hS => ?_)
  have hP : va_P D vwCl [kT h (((a * u) + (b * v)) + (d * w)) (((b * u) + (c * v)) + (e * w)) (((d * u) + (e * v)) + (f * w)), kF g a b c d e f, kT k u v w] H := hP
  have hD : va_D A [kT h (((a * u) + (b * v)) + (d * w)) (((b * u) + (c * v)) + (e * w)) (((d * u) + (e * v)) + (f * w)), kF g a b c d e f, kT k u v w] := hD
  clear hPc hDc
  have he_0 : z3_setProduct_x a b d u v w = (((a * u) + (b * v)) + (d * w)) := by delta z3_setProduct_x; rfl
  have he_1 : z3_setProduct_y b c e u v w = (((b * u) + (c * v)) + (e * w)) := by delta z3_setProduct_y; rfl
  have he_2 : z3_setProduct_z d e f u v w = (((d * u) + (e * v)) + (f * w)) := by delta z3_setProduct_z; rfl
  exact rt_v (w1 := fun uu : Unit => [kT h (z3_setProduct_x a b d u v w) (z3_setProduct_y b c e u v w) (z3_setProduct_z d e f u v w), kF g a b c d e f, kT k u v w]) hx hb hr hlk hS dX3_setProduct_91 (()) trivial (by rw [he_0, he_1, he_2]; exact hP) (by rw [he_0, he_1, he_2]; exact hD)
