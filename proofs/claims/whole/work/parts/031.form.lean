-- laid by wip/whole/gen
set_option maxHeartbeats 4000000 in
set_option maxRecDepth 100000 in
/-- X0.setQuadratic -/
theorem c_X0_setQuadratic (l : Launch) (D : va_G) (cI cJ : ClassId) (h : Nat) (a : Int64) (b : Int64) (c : Int64) (d : Int64) (e : Int64) (f : Int64) (x : Int64) (y : Int64) (z : Int64) : mw_C l yX0_setQuadratic wsX0_setQuadratic ({ frames := 0, cells := 0, slots := 0, locals := 0 }) D cI cJ [.ref h, .long x, .long y, .long z] [kF h a b c d e f] (qe_v (fun _ : Unit => True) (fun uu => [kF h x y z d e f])) := by
  refine mw_in (cc := cX0_setQuadratic) (lv := [(0, .ref h), (1, .long x), (3, .long y), (5, .long z)]) (by decide) rfl (Nat.le_of_ble_eq_true rfl) rfl ?_
  intro pG eG sG mG below meth cG ls A hx hb hr hml hown hts hlk hin hP hK hD hA hS hl
  have hown : sG.vm.findClass RX0 = some mG.cls := hown
  have k_1 := hts (.fieldLink RX0 7 "ConicRows$Form" "a" "J") (by decide +kernel)
  have k_2 : ∀ w ∈ wsX00, w ∈ wsX0_setQuadratic := by decide +kernel
  have k_3 := hts (.fieldLink RX0 13 "ConicRows$Form" "b" "J") (by decide +kernel)
  have k_4 := hts (.fieldLink RX0 16 "ConicRows$Form" "c" "J") (by decide +kernel)
  refine lv_aload_n hx hb dX0_setQuadratic_0 rfl (lv_at hl 0 rfl) ?_
  refine lv_lload_n hx hb dX0_setQuadratic_1 rfl (lv_at hl 1 rfl) ?_
  refine va_put (D := D) (ci := 0) (v := .long x) (ty := .long) (C := RX0) (T := TX0) (N := 6) hx hb hts k_2 tyX0 tyX0_ok nmX0 hown hK.1 hP hD hS 0 rfl rfl 0 (by decide) k_1 (fun _ h9 => h9) rfl (by decide +kernel) rfl rfl (Nat.le_of_ble_eq_true rfl) dX0_setQuadratic_2 (fun H locs hP hD hS => ?_)
  have hP : va_P D vwCl [kF h x b c d e f] H := hP
  have hD : va_D A [kF h x b c d e f] := hD
  refine lv_aload_n hx hb dX0_setQuadratic_5 rfl (lv_at hl 0 rfl) ?_
  refine lv_lload_n hx hb dX0_setQuadratic_6 rfl (lv_at hl 2 rfl) ?_
  refine va_put (D := D) (ci := 0) (v := .long y) (ty := .long) (C := RX0) (T := TX0) (N := 6) hx hb hts k_2 tyX0 tyX0_ok nmX0 hown hK.1 hP hD hS 0 rfl rfl 1 (by decide) k_3 (fun _ h9 => h9) rfl (by decide +kernel) rfl rfl (Nat.le_of_ble_eq_true rfl) dX0_setQuadratic_7 (fun H locs hP hD hS => ?_)
  have hP : va_P D vwCl [kF h x y c d e f] H := hP
  have hD : va_D A [kF h x y c d e f] := hD
  refine lv_aload_n hx hb dX0_setQuadratic_10 rfl (lv_at hl 0 rfl) ?_
  refine lv_lload hx hb dX0_setQuadratic_11 (lv_at hl 3 rfl) ?_
  refine va_put (D := D) (ci := 0) (v := .long z) (ty := .long) (C := RX0) (T := TX0) (N := 6) hx hb hts k_2 tyX0 tyX0_ok nmX0 hown hK.1 hP hD hS 0 rfl rfl 2 (by decide) k_4 (fun _ h9 => h9) rfl (by decide +kernel) rfl rfl (Nat.le_of_ble_eq_true rfl) dX0_setQuadratic_13 (fun H locs hP hD hS => ?_)
  have hP : va_P D vwCl [kF h x y z d e f] H := hP
  have hD : va_D A [kF h x y z d e f] := hD
  exact rt_v (w1 := fun uu : Unit => [kF h x y z d e f]) hx hb hr hlk hS dX0_setQuadratic_16 (()) trivial hP hD
set_option maxHeartbeats 4000000 in
set_option maxRecDepth 100000 in
/-- X0.setRest -/
theorem c_X0_setRest (l : Launch) (D : va_G) (cI cJ : ClassId) (h : Nat) (a : Int64) (b : Int64) (c : Int64) (d : Int64) (e : Int64) (f : Int64) (x : Int64) (y : Int64) (z : Int64) : mw_C l yX0_setRest wsX0_setRest ({ frames := 0, cells := 0, slots := 0, locals := 0 }) D cI cJ [.ref h, .long x, .long y, .long z] [kF h a b c d e f] (qe_v (fun _ : Unit => True) (fun uu => [kF h a b c x y z])) := by
  refine mw_in (cc := cX0_setRest) (lv := [(0, .ref h), (1, .long x), (3, .long y), (5, .long z)]) (by decide) rfl (Nat.le_of_ble_eq_true rfl) rfl ?_
  intro pG eG sG mG below meth cG ls A hx hb hr hml hown hts hlk hin hP hK hD hA hS hl
  have hown : sG.vm.findClass RX0 = some mG.cls := hown
  have k_1 := hts (.fieldLink RX0 19 "ConicRows$Form" "d" "J") (by decide +kernel)
  have k_2 : ∀ w ∈ wsX00, w ∈ wsX0_setRest := by decide +kernel
  have k_3 := hts (.fieldLink RX0 22 "ConicRows$Form" "e" "J") (by decide +kernel)
  have k_4 := hts (.fieldLink RX0 25 "ConicRows$Form" "f" "J") (by decide +kernel)
  refine lv_aload_n hx hb dX0_setRest_0 rfl (lv_at hl 0 rfl) ?_
  refine lv_lload_n hx hb dX0_setRest_1 rfl (lv_at hl 1 rfl) ?_
  refine va_put (D := D) (ci := 0) (v := .long x) (ty := .long) (C := RX0) (T := TX0) (N := 6) hx hb hts k_2 tyX0 tyX0_ok nmX0 hown hK.1 hP hD hS 0 rfl rfl 3 (by decide) k_1 (fun _ h9 => h9) rfl (by decide +kernel) rfl rfl (Nat.le_of_ble_eq_true rfl) dX0_setRest_2 (fun H locs hP hD hS => ?_)
  have hP : va_P D vwCl [kF h a b c x e f] H := hP
  have hD : va_D A [kF h a b c x e f] := hD
  refine lv_aload_n hx hb dX0_setRest_5 rfl (lv_at hl 0 rfl) ?_
  refine lv_lload_n hx hb dX0_setRest_6 rfl (lv_at hl 2 rfl) ?_
  refine va_put (D := D) (ci := 0) (v := .long y) (ty := .long) (C := RX0) (T := TX0) (N := 6) hx hb hts k_2 tyX0 tyX0_ok nmX0 hown hK.1 hP hD hS 0 rfl rfl 4 (by decide) k_3 (fun _ h9 => h9) rfl (by decide +kernel) rfl rfl (Nat.le_of_ble_eq_true rfl) dX0_setRest_7 (fun H locs hP hD hS => ?_)
  have hP : va_P D vwCl [kF h a b c x y f] H := hP
  have hD : va_D A [kF h a b c x y f] := hD
  refine lv_aload_n hx hb dX0_setRest_10 rfl (lv_at hl 0 rfl) ?_
  refine lv_lload hx hb dX0_setRest_11 (lv_at hl 3 rfl) ?_
  refine va_put (D := D) (ci := 0) (v := .long z) (ty := .long) (C := RX0) (T := TX0) (N := 6) hx hb hts k_2 tyX0 tyX0_ok nmX0 hown hK.1 hP hD hS 0 rfl rfl 5 (by decide) k_4 (fun _ h9 => h9) rfl (by decide +kernel) rfl rfl (Nat.le_of_ble_eq_true rfl) dX0_setRest_13 (fun H locs hP hD hS => ?_)
  have hP : va_P D vwCl [kF h a b c x y z] H := hP
  have hD : va_D A [kF h a b c x y z] := hD
  exact rt_v (w1 := fun uu : Unit => [kF h a b c x y z]) hx hb hr hlk hS dX0_setRest_16 (()) trivial hP hD
def z0_isZero (a : Int64) (b : Int64) (c : Int64) (d : Int64) (e : Int64) (f : Int64) : Int32 := if a = 0 then if b = 0 then if c = 0 then if d = 0 then if e = 0 then if f = 0 then 1 else 0 else 0 else 0 else 0 else 0 else 0
set_option maxHeartbeats 4000000 in
set_option maxRecDepth 100000 in
/-- X0.isZero -/
theorem c_X0_isZero (l : Launch) (D : va_G) (cI cJ : ClassId) (h : Nat) (a : Int64) (b : Int64) (c : Int64) (d : Int64) (e : Int64) (f : Int64) : mr_C l yX0_isZero wsX0_isZero ({ frames := 0, cells := 0, slots := 0, locals := 0 }) D cI cJ [.ref h] [kF h a b c d e f] (vp_Si (fun r : Int32 => r = z0_isZero a b c d e f)) := by
  refine mr_in (cc := cX0_isZero) (lv := [(0, .ref h)]) (by decide) rfl (Nat.le_of_ble_eq_true rfl) rfl ?_
  intro pG eG sG mG below meth cG ls hx hb hr hml hown hts hlk hP hK hl
  have hown : sG.vm.findClass RX0 = some mG.cls := hown
  have k_1 := hts (.fieldLink RX0 7 "ConicRows$Form" "a" "J") (by decide +kernel)
  have k_2 : ∀ w ∈ wsX00, w ∈ wsX0_isZero := by decide +kernel
  have k_3 := hts (.fieldLink RX0 13 "ConicRows$Form" "b" "J") (by decide +kernel)
  have k_4 := hts (.fieldLink RX0 16 "ConicRows$Form" "c" "J") (by decide +kernel)
  have k_5 := hts (.fieldLink RX0 19 "ConicRows$Form" "d" "J") (by decide +kernel)
  have k_6 := hts (.fieldLink RX0 22 "ConicRows$Form" "e" "J") (by decide +kernel)
  have k_7 := hts (.fieldLink RX0 25 "ConicRows$Form" "f" "J") (by decide +kernel)
  refine lv_aload_n hx hb dX0_isZero_0 rfl (lv_at hl 0 rfl) ?_
  refine va_get (D := D) (ci := 0) (v := .long a) (C := RX0) (T := TX0) (N := 6) hx hb hts k_2 hown hK.1 hP 0 rfl rfl 0 (by decide) k_1 (fun _ h9 => h9) rfl dX0_isZero_1 ?_
  refine lv_lconst (v := 0) hx hb dX0_isZero_4 (by decide) ?_
  refine lb_ne (tgt := 58) hx hb dX0_isZero_5 rfl dX0_isZero_6 (by decide) (fun c_1 => ?_) (fun c_1 => ?_)
  · skip
    refine lv_iconst (v := 0) hx hb dX0_isZero_58 (by decide) ?_
    have he : z0_isZero a b c d e f = 0 := by unfold z0_isZero; rw [if_neg c_1]
    exact rr_z hx hb hr rfl hlk dX0_isZero_59 he.symm
  · skip
    refine lv_aload_n hx hb dX0_isZero_9 rfl (lv_at hl 0 rfl) ?_
    refine va_get (D := D) (ci := 0) (v := .long b) (C := RX0) (T := TX0) (N := 6) hx hb hts k_2 hown hK.1 hP 0 rfl rfl 1 (by decide) k_3 (fun _ h9 => h9) rfl dX0_isZero_10 ?_
    refine lv_lconst (v := 0) hx hb dX0_isZero_13 (by decide) ?_
    refine lb_ne (tgt := 58) hx hb dX0_isZero_14 rfl dX0_isZero_15 (by decide) (fun c_2 => ?_) (fun c_2 => ?_)
    · skip
      refine lv_iconst (v := 0) hx hb dX0_isZero_58 (by decide) ?_
      have he : z0_isZero a b c d e f = 0 := by unfold z0_isZero; rw [if_pos c_1, if_neg c_2]
      exact rr_z hx hb hr rfl hlk dX0_isZero_59 he.symm
    · skip
      refine lv_aload_n hx hb dX0_isZero_18 rfl (lv_at hl 0 rfl) ?_
      refine va_get (D := D) (ci := 0) (v := .long c) (C := RX0) (T := TX0) (N := 6) hx hb hts k_2 hown hK.1 hP 0 rfl rfl 2 (by decide) k_4 (fun _ h9 => h9) rfl dX0_isZero_19 ?_
      refine lv_lconst (v := 0) hx hb dX0_isZero_22 (by decide) ?_
      refine lb_ne (tgt := 58) hx hb dX0_isZero_23 rfl dX0_isZero_24 (by decide) (fun c_3 => ?_) (fun c_3 => ?_)
      · skip
        refine lv_iconst (v := 0) hx hb dX0_isZero_58 (by decide) ?_
        have he : z0_isZero a b c d e f = 0 := by unfold z0_isZero; rw [if_pos c_1, if_pos c_2, if_neg c_3]
        exact rr_z hx hb hr rfl hlk dX0_isZero_59 he.symm
      · skip
        refine lv_aload_n hx hb dX0_isZero_27 rfl (lv_at hl 0 rfl) ?_
        refine va_get (D := D) (ci := 0) (v := .long d) (C := RX0) (T := TX0) (N := 6) hx hb hts k_2 hown hK.1 hP 0 rfl rfl 3 (by decide) k_5 (fun _ h9 => h9) rfl dX0_isZero_28 ?_
        refine lv_lconst (v := 0) hx hb dX0_isZero_31 (by decide) ?_
        refine lb_ne (tgt := 58) hx hb dX0_isZero_32 rfl dX0_isZero_33 (by decide) (fun c_4 => ?_) (fun c_4 => ?_)
        · skip
          refine lv_iconst (v := 0) hx hb dX0_isZero_58 (by decide) ?_
          have he : z0_isZero a b c d e f = 0 := by unfold z0_isZero; rw [if_pos c_1, if_pos c_2, if_pos c_3, if_neg c_4]
          exact rr_z hx hb hr rfl hlk dX0_isZero_59 he.symm
        · skip
          refine lv_aload_n hx hb dX0_isZero_36 rfl (lv_at hl 0 rfl) ?_
          refine va_get (D := D) (ci := 0) (v := .long e) (C := RX0) (T := TX0) (N := 6) hx hb hts k_2 hown hK.1 hP 0 rfl rfl 4 (by decide) k_6 (fun _ h9 => h9) rfl dX0_isZero_37 ?_
          refine lv_lconst (v := 0) hx hb dX0_isZero_40 (by decide) ?_
          refine lb_ne (tgt := 58) hx hb dX0_isZero_41 rfl dX0_isZero_42 (by decide) (fun c_5 => ?_) (fun c_5 => ?_)
          · skip
            refine lv_iconst (v := 0) hx hb dX0_isZero_58 (by decide) ?_
            have he : z0_isZero a b c d e f = 0 := by unfold z0_isZero; rw [if_pos c_1, if_pos c_2, if_pos c_3, if_pos c_4, if_neg c_5]
            exact rr_z hx hb hr rfl hlk dX0_isZero_59 he.symm
          · skip
            refine lv_aload_n hx hb dX0_isZero_45 rfl (lv_at hl 0 rfl) ?_
            refine va_get (D := D) (ci := 0) (v := .long f) (C := RX0) (T := TX0) (N := 6) hx hb hts k_2 hown hK.1 hP 0 rfl rfl 5 (by decide) k_7 (fun _ h9 => h9) rfl dX0_isZero_46 ?_
            refine lv_lconst (v := 0) hx hb dX0_isZero_49 (by decide) ?_
            refine lb_ne (tgt := 58) hx hb dX0_isZero_50 rfl dX0_isZero_51 (by decide) (fun c_6 => ?_) (fun c_6 => ?_)
            · skip
              refine lv_iconst (v := 0) hx hb dX0_isZero_58 (by decide) ?_
              have he : z0_isZero a b c d e f = 0 := by unfold z0_isZero; rw [if_pos c_1, if_pos c_2, if_pos c_3, if_pos c_4, if_pos c_5, if_neg c_6]
              exact rr_z hx hb hr rfl hlk dX0_isZero_59 he.symm
            · skip
              refine lv_iconst (v := 1) hx hb dX0_isZero_54 (by decide) ?_
              refine lv_goto (tgt := 59) hx hb dX0_isZero_55 (by decide) ?_
              have he : z0_isZero a b c d e f = 1 := by unfold z0_isZero; rw [if_pos c_1, if_pos c_2, if_pos c_3, if_pos c_4, if_pos c_5, if_pos c_6]
              exact rr_z hx hb hr rfl hlk dX0_isZero_59 he.symm
def z0_isWithin (a : Int64) (b : Int64) (c : Int64) (d : Int64) (e : Int64) (f : Int64) (x : Int64) : Int32 := if (z4_isWithin a x) = 0 then 0 else if (z4_isWithin b x) = 0 then 0 else if (z4_isWithin c x) = 0 then 0 else if (z4_isWithin d x) = 0 then 0 else if (z4_isWithin e x) = 0 then 0 else if (z4_isWithin f x) = 0 then 0 else 1
set_option maxHeartbeats 4000000 in
set_option maxRecDepth 100000 in
/-- X0.isWithin -/
theorem c_X0_isWithin (l : Launch) (D : va_G) (cI cJ : ClassId) (h : Nat) (a : Int64) (b : Int64) (c : Int64) (d : Int64) (e : Int64) (f : Int64) (x : Int64) : mr_C l yX0_isWithin wsX0_isWithin ({ frames := 1, cells := 0, slots := 0, locals := 23 }) D cI cJ [.ref h, .long x] [kF h a b c d e f] (vp_Si (fun r : Int32 => r = z0_isWithin a b c d e f x)) := by
  refine mr_in (cc := cX0_isWithin) (lv := [(0, .ref h), (1, .long x)]) (by decide) rfl (Nat.le_of_ble_eq_true rfl) rfl ?_
  intro pG eG sG mG below meth cG ls hx hb hr hml hown hts hlk hP hK hl
  have hown : sG.vm.findClass RX0 = some mG.cls := hown
  have k_1 := hts (.fieldLink RX0 7 "ConicRows$Form" "a" "J") (by decide +kernel)
  have k_2 : ∀ w ∈ wsX00, w ∈ wsX0_isWithin := by decide +kernel
  have k_3 := hts (.initialized RX4) (by decide +kernel)
  have k_4 := hts (.static yX4_isWithin) (by decide +kernel)
  have k_5 := hts (.fieldLink RX0 13 "ConicRows$Form" "b" "J") (by decide +kernel)
  have k_6 := hts (.fieldLink RX0 16 "ConicRows$Form" "c" "J") (by decide +kernel)
  have k_7 := hts (.fieldLink RX0 19 "ConicRows$Form" "d" "J") (by decide +kernel)
  have k_8 := hts (.fieldLink RX0 22 "ConicRows$Form" "e" "J") (by decide +kernel)
  have k_9 := hts (.fieldLink RX0 25 "ConicRows$Form" "f" "J") (by decide +kernel)
  refine lv_aload_n hx hb dX0_isWithin_0 rfl (lv_at hl 0 rfl) ?_
  refine va_get (D := D) (ci := 0) (v := .long a) (C := RX0) (T := TX0) (N := 6) hx hb hts k_2 hown hK.1 hP 0 rfl rfl 0 (by decide) k_1 (fun _ h9 => h9) rfl dX0_isWithin_1 ?_
  refine lv_lload_n hx hb dX0_isWithin_4 rfl (lv_at hl 1 rfl) ?_
  have hPc := hP.sub (ws' := []) [] rfl
  refine cr_i (va_runSN (As := [.long a, .long x]) (rest := []) ⟨hx, hb, hml, hown, hts⟩ (c_X4_isWithin l D cI cJ a x) ⟨va_cnB 2 hts gX0_isWithin_X4_isWithin_n41 rfl rfl rfl (nw_m hK.2 5 rfl) k_3 (by decide +kernel) ⟨Nat.le_of_ble_eq_true rfl, Nat.le_of_ble_eq_true rfl⟩, k_4, trivial⟩ ⟨gd_blR, gd_prR hPc hK⟩ rfl rfl hl.1 rfl (lv_room (Nat.le_of_ble_eq_true rfl)) dX0_isWithin_5 ⟨Nat.zero_le _, Nat.zero_le _⟩) (fun r_5 hw => ?_)
  subst hw
  clear hPc
  refine lv_if_eq (tgt := 70) hx hb dX0_isWithin_8 (by decide) (fun c_1 => ?_) (fun c_1 => ?_)
  · skip
    refine lv_iconst (v := 0) hx hb dX0_isWithin_70 (by decide) ?_
    have he : z0_isWithin a b c d e f x = 0 := by unfold z0_isWithin; rw [if_pos c_1]
    exact rr_z hx hb hr rfl hlk dX0_isWithin_71 he.symm
  · skip
    refine lv_aload_n hx hb dX0_isWithin_11 rfl (lv_at hl 0 rfl) ?_
    refine va_get (D := D) (ci := 0) (v := .long b) (C := RX0) (T := TX0) (N := 6) hx hb hts k_2 hown hK.1 hP 0 rfl rfl 1 (by decide) k_5 (fun _ h9 => h9) rfl dX0_isWithin_12 ?_
    refine lv_lload_n hx hb dX0_isWithin_15 rfl (lv_at hl 1 rfl) ?_
    have hPc := hP.sub (ws' := []) [] rfl
    refine cr_i (va_runSN (As := [.long b, .long x]) (rest := []) ⟨hx, hb, hml, hown, hts⟩ (c_X4_isWithin l D cI cJ b x) ⟨va_cnB 2 hts gX0_isWithin_X4_isWithin_n41 rfl rfl rfl (nw_m hK.2 5 rfl) k_3 (by decide +kernel) ⟨Nat.le_of_ble_eq_true rfl, Nat.le_of_ble_eq_true rfl⟩, k_4, trivial⟩ ⟨gd_blR, gd_prR hPc hK⟩ rfl rfl hl.1 rfl (lv_room (Nat.le_of_ble_eq_true rfl)) dX0_isWithin_16 ⟨Nat.zero_le _, Nat.zero_le _⟩) (fun r_16 hw => ?_)
    subst hw
    clear hPc
    refine lv_if_eq (tgt := 70) hx hb dX0_isWithin_19 (by decide) (fun c_2 => ?_) (fun c_2 => ?_)
    · skip
      refine lv_iconst (v := 0) hx hb dX0_isWithin_70 (by decide) ?_
      have he : z0_isWithin a b c d e f x = 0 := by unfold z0_isWithin; rw [if_neg c_1, if_pos c_2]
      exact rr_z hx hb hr rfl hlk dX0_isWithin_71 he.symm
    · skip
      refine lv_aload_n hx hb dX0_isWithin_22 rfl (lv_at hl 0 rfl) ?_
      refine va_get (D := D) (ci := 0) (v := .long c) (C := RX0) (T := TX0) (N := 6) hx hb hts k_2 hown hK.1 hP 0 rfl rfl 2 (by decide) k_6 (fun _ h9 => h9) rfl dX0_isWithin_23 ?_
      refine lv_lload_n hx hb dX0_isWithin_26 rfl (lv_at hl 1 rfl) ?_
      have hPc := hP.sub (ws' := []) [] rfl
      refine cr_i (va_runSN (As := [.long c, .long x]) (rest := []) ⟨hx, hb, hml, hown, hts⟩ (c_X4_isWithin l D cI cJ c x) ⟨va_cnB 2 hts gX0_isWithin_X4_isWithin_n41 rfl rfl rfl (nw_m hK.2 5 rfl) k_3 (by decide +kernel) ⟨Nat.le_of_ble_eq_true rfl, Nat.le_of_ble_eq_true rfl⟩, k_4, trivial⟩ ⟨gd_blR, gd_prR hPc hK⟩ rfl rfl hl.1 rfl (lv_room (Nat.le_of_ble_eq_true rfl)) dX0_isWithin_27 ⟨Nat.zero_le _, Nat.zero_le _⟩) (fun r_27 hw => ?_)
      subst hw
      clear hPc
      refine lv_if_eq (tgt := 70) hx hb dX0_isWithin_30 (by decide) (fun c_3 => ?_) (fun c_3 => ?_)
      · skip
        refine lv_iconst (v := 0) hx hb dX0_isWithin_70 (by decide) ?_
        have he : z0_isWithin a b c d e f x = 0 := by unfold z0_isWithin; rw [if_neg c_1, if_neg c_2, if_pos c_3]
        exact rr_z hx hb hr rfl hlk dX0_isWithin_71 he.symm
      · skip
        refine lv_aload_n hx hb dX0_isWithin_33 rfl (lv_at hl 0 rfl) ?_
        refine va_get (D := D) (ci := 0) (v := .long d) (C := RX0) (T := TX0) (N := 6) hx hb hts k_2 hown hK.1 hP 0 rfl rfl 3 (by decide) k_7 (fun _ h9 => h9) rfl dX0_isWithin_34 ?_
        refine lv_lload_n hx hb dX0_isWithin_37 rfl (lv_at hl 1 rfl) ?_
        have hPc := hP.sub (ws' := []) [] rfl
        refine cr_i (va_runSN (As := [.long d, .long x]) (rest := []) ⟨hx, hb, hml, hown, hts⟩ (c_X4_isWithin l D cI cJ d x) ⟨va_cnB 2 hts gX0_isWithin_X4_isWithin_n41 rfl rfl rfl (nw_m hK.2 5 rfl) k_3 (by decide +kernel) ⟨Nat.le_of_ble_eq_true rfl, Nat.le_of_ble_eq_true rfl⟩, k_4, trivial⟩ ⟨gd_blR, gd_prR hPc hK⟩ rfl rfl hl.1 rfl (lv_room (Nat.le_of_ble_eq_true rfl)) dX0_isWithin_38 ⟨Nat.zero_le _, Nat.zero_le _⟩) (fun r_38 hw => ?_)
        subst hw
        clear hPc
        refine lv_if_eq (tgt := 70) hx hb dX0_isWithin_41 (by decide) (fun c_4 => ?_) (fun c_4 => ?_)
        · skip
          refine lv_iconst (v := 0) hx hb dX0_isWithin_70 (by decide) ?_
          have he : z0_isWithin a b c d e f x = 0 := by unfold z0_isWithin; rw [if_neg c_1, if_neg c_2, if_neg c_3, if_pos c_4]
          exact rr_z hx hb hr rfl hlk dX0_isWithin_71 he.symm
        · skip
          refine lv_aload_n hx hb dX0_isWithin_44 rfl (lv_at hl 0 rfl) ?_
          refine va_get (D := D) (ci := 0) (v := .long e) (C := RX0) (T := TX0) (N := 6) hx hb hts k_2 hown hK.1 hP 0 rfl rfl 4 (by decide) k_8 (fun _ h9 => h9) rfl dX0_isWithin_45 ?_
          refine lv_lload_n hx hb dX0_isWithin_48 rfl (lv_at hl 1 rfl) ?_
          have hPc := hP.sub (ws' := []) [] rfl
          refine cr_i (va_runSN (As := [.long e, .long x]) (rest := []) ⟨hx, hb, hml, hown, hts⟩ (c_X4_isWithin l D cI cJ e x) ⟨va_cnB 2 hts gX0_isWithin_X4_isWithin_n41 rfl rfl rfl (nw_m hK.2 5 rfl) k_3 (by decide +kernel) ⟨Nat.le_of_ble_eq_true rfl, Nat.le_of_ble_eq_true rfl⟩, k_4, trivial⟩ ⟨gd_blR, gd_prR hPc hK⟩ rfl rfl hl.1 rfl (lv_room (Nat.le_of_ble_eq_true rfl)) dX0_isWithin_49 ⟨Nat.zero_le _, Nat.zero_le _⟩) (fun r_49 hw => ?_)
          subst hw
          clear hPc
          refine lv_if_eq (tgt := 70) hx hb dX0_isWithin_52 (by decide) (fun c_5 => ?_) (fun c_5 => ?_)
          · skip
            refine lv_iconst (v := 0) hx hb dX0_isWithin_70 (by decide) ?_
            have he : z0_isWithin a b c d e f x = 0 := by unfold z0_isWithin; rw [if_neg c_1, if_neg c_2, if_neg c_3, if_neg c_4, if_pos c_5]
            exact rr_z hx hb hr rfl hlk dX0_isWithin_71 he.symm
          · skip
            refine lv_aload_n hx hb dX0_isWithin_55 rfl (lv_at hl 0 rfl) ?_
            refine va_get (D := D) (ci := 0) (v := .long f) (C := RX0) (T := TX0) (N := 6) hx hb hts k_2 hown hK.1 hP 0 rfl rfl 5 (by decide) k_9 (fun _ h9 => h9) rfl dX0_isWithin_56 ?_
            refine lv_lload_n hx hb dX0_isWithin_59 rfl (lv_at hl 1 rfl) ?_
            have hPc := hP.sub (ws' := []) [] rfl
            refine cr_i (va_runSN (As := [.long f, .long x]) (rest := []) ⟨hx, hb, hml, hown, hts⟩ (c_X4_isWithin l D cI cJ f x) ⟨va_cnB 2 hts gX0_isWithin_X4_isWithin_n41 rfl rfl rfl (nw_m hK.2 5 rfl) k_3 (by decide +kernel) ⟨Nat.le_of_ble_eq_true rfl, Nat.le_of_ble_eq_true rfl⟩, k_4, trivial⟩ ⟨gd_blR, gd_prR hPc hK⟩ rfl rfl hl.1 rfl (lv_room (Nat.le_of_ble_eq_true rfl)) dX0_isWithin_60 ⟨Nat.zero_le _, Nat.zero_le _⟩) (fun r_60 hw => ?_)
            subst hw
            clear hPc
            refine lv_if_eq (tgt := 70) hx hb dX0_isWithin_63 (by decide) (fun c_6 => ?_) (fun c_6 => ?_)
            · skip
              refine lv_iconst (v := 0) hx hb dX0_isWithin_70 (by decide) ?_
              have he : z0_isWithin a b c d e f x = 0 := by unfold z0_isWithin; rw [if_neg c_1, if_neg c_2, if_neg c_3, if_neg c_4, if_neg c_5, if_pos c_6]
              exact rr_z hx hb hr rfl hlk dX0_isWithin_71 he.symm
            · skip
              refine lv_iconst (v := 1) hx hb dX0_isWithin_66 (by decide) ?_
              refine lv_goto (tgt := 71) hx hb dX0_isWithin_67 (by decide) ?_
              have he : z0_isWithin a b c d e f x = 1 := by unfold z0_isWithin; rw [if_neg c_1, if_neg c_2, if_neg c_3, if_neg c_4, if_neg c_5, if_neg c_6]
              exact rr_z hx hb hr rfl hlk dX0_isWithin_71 he.symm
def z0_det (a : Int64) (b : Int64) (c : Int64) (d : Int64) (e : Int64) (f : Int64) : Int64 := ((((((4 * a) * c) * f) + ((b * d) * e)) - ((a * e) * e)) - ((c * d) * d)) - ((f * b) * b)
set_option maxHeartbeats 4000000 in
set_option maxRecDepth 100000 in
/-- X0.det -/
theorem c_X0_det (l : Launch) (D : va_G) (cI cJ : ClassId) (h : Nat) (a : Int64) (b : Int64) (c : Int64) (d : Int64) (e : Int64) (f : Int64) : mr_C l yX0_det wsX0_det ({ frames := 0, cells := 0, slots := 0, locals := 0 }) D cI cJ [.ref h] [kF h a b c d e f] (vp_Sl (fun r : Int64 => r = z0_det a b c d e f)) := by
  refine mr_in (cc := cX0_det) (lv := [(0, .ref h)]) (by decide) rfl (Nat.le_of_ble_eq_true rfl) rfl ?_
  intro pG eG sG mG below meth cG ls hx hb hr hml hown hts hlk hP hK hl
  have hown : sG.vm.findClass RX0 = some mG.cls := hown
  have k_1 := hts (.constantLong RX0 47 (4)) (by decide +kernel)
  have k_2 := hts (.fieldLink RX0 7 "ConicRows$Form" "a" "J") (by decide +kernel)
  have k_3 : ∀ w ∈ wsX00, w ∈ wsX0_det := by decide +kernel
  have k_4 := hts (.fieldLink RX0 16 "ConicRows$Form" "c" "J") (by decide +kernel)
  have k_5 := hts (.fieldLink RX0 25 "ConicRows$Form" "f" "J") (by decide +kernel)
  have k_6 := hts (.fieldLink RX0 13 "ConicRows$Form" "b" "J") (by decide +kernel)
  have k_7 := hts (.fieldLink RX0 19 "ConicRows$Form" "d" "J") (by decide +kernel)
  have k_8 := hts (.fieldLink RX0 22 "ConicRows$Form" "e" "J") (by decide +kernel)
  refine lv_ldc2 hx hb hown k_1 dX0_det_0 ?_
  refine lv_aload_n hx hb dX0_det_3 rfl (lv_at hl 0 rfl) ?_
  refine va_get (D := D) (ci := 0) (v := .long a) (C := RX0) (T := TX0) (N := 6) hx hb hts k_3 hown hK.1 hP 0 rfl rfl 0 (by decide) k_2 (fun _ h9 => h9) rfl dX0_det_4 ?_
  refine lv_lmul hx hb dX0_det_7 ?_
  refine lv_aload_n hx hb dX0_det_8 rfl (lv_at hl 0 rfl) ?_
  refine va_get (D := D) (ci := 0) (v := .long c) (C := RX0) (T := TX0) (N := 6) hx hb hts k_3 hown hK.1 hP 0 rfl rfl 2 (by decide) k_4 (fun _ h9 => h9) rfl dX0_det_9 ?_
  refine lv_lmul hx hb dX0_det_12 ?_
  refine lv_aload_n hx hb dX0_det_13 rfl (lv_at hl 0 rfl) ?_
  refine va_get (D := D) (ci := 0) (v := .long f) (C := RX0) (T := TX0) (N := 6) hx hb hts k_3 hown hK.1 hP 0 rfl rfl 5 (by decide) k_5 (fun _ h9 => h9) rfl dX0_det_14 ?_
  refine lv_lmul hx hb dX0_det_17 ?_
  refine lv_aload_n hx hb dX0_det_18 rfl (lv_at hl 0 rfl) ?_
  refine va_get (D := D) (ci := 0) (v := .long b) (C := RX0) (T := TX0) (N := 6) hx hb hts k_3 hown hK.1 hP 0 rfl rfl 1 (by decide) k_6 (fun _ h9 => h9) rfl dX0_det_19 ?_
  refine lv_aload_n hx hb dX0_det_22 rfl (lv_at hl 0 rfl) ?_
  refine va_get (D := D) (ci := 0) (v := .long d) (C := RX0) (T := TX0) (N := 6) hx hb hts k_3 hown hK.1 hP 0 rfl rfl 3 (by decide) k_7 (fun _ h9 => h9) rfl dX0_det_23 ?_
  refine lv_lmul hx hb dX0_det_26 ?_
  refine lv_aload_n hx hb dX0_det_27 rfl (lv_at hl 0 rfl) ?_
  refine va_get (D := D) (ci := 0) (v := .long e) (C := RX0) (T := TX0) (N := 6) hx hb hts k_3 hown hK.1 hP 0 rfl rfl 4 (by decide) k_8 (fun _ h9 => h9) rfl dX0_det_28 ?_
  refine lv_lmul hx hb dX0_det_31 ?_
  refine lv_ladd hx hb dX0_det_32 ?_
  refine lv_aload_n hx hb dX0_det_33 rfl (lv_at hl 0 rfl) ?_
  refine va_get (D := D) (ci := 0) (v := .long a) (C := RX0) (T := TX0) (N := 6) hx hb hts k_3 hown hK.1 hP 0 rfl rfl 0 (by decide) k_2 (fun _ h9 => h9) rfl dX0_det_34 ?_
  refine lv_aload_n hx hb dX0_det_37 rfl (lv_at hl 0 rfl) ?_
  refine va_get (D := D) (ci := 0) (v := .long e) (C := RX0) (T := TX0) (N := 6) hx hb hts k_3 hown hK.1 hP 0 rfl rfl 4 (by decide) k_8 (fun _ h9 => h9) rfl dX0_det_38 ?_
  refine lv_lmul hx hb dX0_det_41 ?_
  refine lv_aload_n hx hb dX0_det_42 rfl (lv_at hl 0 rfl) ?_
  refine va_get (D := D) (ci := 0) (v := .long e) (C := RX0) (T := TX0) (N := 6) hx hb hts k_3 hown hK.1 hP 0 rfl rfl 4 (by decide) k_8 (fun _ h9 => h9) rfl dX0_det_43 ?_
  refine lv_lmul hx hb dX0_det_46 ?_
  refine lv_lsub hx hb dX0_det_47 ?_
  refine lv_aload_n hx hb dX0_det_48 rfl (lv_at hl 0 rfl) ?_
  refine va_get (D := D) (ci := 0) (v := .long c) (C := RX0) (T := TX0) (N := 6) hx hb hts k_3 hown hK.1 hP 0 rfl rfl 2 (by decide) k_4 (fun _ h9 => h9) rfl dX0_det_49 ?_
  refine lv_aload_n hx hb dX0_det_52 rfl (lv_at hl 0 rfl) ?_
  refine va_get (D := D) (ci := 0) (v := .long d) (C := RX0) (T := TX0) (N := 6) hx hb hts k_3 hown hK.1 hP 0 rfl rfl 3 (by decide) k_7 (fun _ h9 => h9) rfl dX0_det_53 ?_
  refine lv_lmul hx hb dX0_det_56 ?_
  refine lv_aload_n hx hb dX0_det_57 rfl (lv_at hl 0 rfl) ?_
  refine va_get (D := D) (ci := 0) (v := .long d) (C := RX0) (T := TX0) (N := 6) hx hb hts k_3 hown hK.1 hP 0 rfl rfl 3 (by decide) k_7 (fun _ h9 => h9) rfl dX0_det_58 ?_
  refine lv_lmul hx hb dX0_det_61 ?_
  refine lv_lsub hx hb dX0_det_62 ?_
  refine lv_aload_n hx hb dX0_det_63 rfl (lv_at hl 0 rfl) ?_
  refine va_get (D := D) (ci := 0) (v := .long f) (C := RX0) (T := TX0) (N := 6) hx hb hts k_3 hown hK.1 hP 0 rfl rfl 5 (by decide) k_5 (fun _ h9 => h9) rfl dX0_det_64 ?_
  refine lv_aload_n hx hb dX0_det_67 rfl (lv_at hl 0 rfl) ?_
  refine va_get (D := D) (ci := 0) (v := .long b) (C := RX0) (T := TX0) (N := 6) hx hb hts k_3 hown hK.1 hP 0 rfl rfl 1 (by decide) k_6 (fun _ h9 => h9) rfl dX0_det_68 ?_
  refine lv_lmul hx hb dX0_det_71 ?_
  refine lv_aload_n hx hb dX0_det_72 rfl (lv_at hl 0 rfl) ?_
  refine va_get (D := D) (ci := 0) (v := .long b) (C := RX0) (T := TX0) (N := 6) hx hb hts k_3 hown hK.1 hP 0 rfl rfl 1 (by decide) k_6 (fun _ h9 => h9) rfl dX0_det_73 ?_
  refine lv_lmul hx hb dX0_det_76 ?_
  refine lv_lsub hx hb dX0_det_77 ?_
  exact rr_l hx hb hr hlk dX0_det_78 rfl
def z0_disc (a : Int64) (b : Int64) (c : Int64) : Int64 := (b * b) - ((4 * a) * c)
set_option maxHeartbeats 4000000 in
set_option maxRecDepth 100000 in
/-- X0.disc -/
theorem c_X0_disc (l : Launch) (D : va_G) (cI cJ : ClassId) (h : Nat) (a : Int64) (b : Int64) (c : Int64) (d : Int64) (e : Int64) (f : Int64) : mr_C l yX0_disc wsX0_disc ({ frames := 0, cells := 0, slots := 0, locals := 0 }) D cI cJ [.ref h] [kF h a b c d e f] (vp_Sl (fun r : Int64 => r = z0_disc a b c)) := by
  refine mr_in (cc := cX0_disc) (lv := [(0, .ref h)]) (by decide) rfl (Nat.le_of_ble_eq_true rfl) rfl ?_
  intro pG eG sG mG below meth cG ls hx hb hr hml hown hts hlk hP hK hl
  have hown : sG.vm.findClass RX0 = some mG.cls := hown
  have k_1 := hts (.fieldLink RX0 13 "ConicRows$Form" "b" "J") (by decide +kernel)
  have k_2 : ∀ w ∈ wsX00, w ∈ wsX0_disc := by decide +kernel
  have k_3 := hts (.constantLong RX0 47 (4)) (by decide +kernel)
  have k_4 := hts (.fieldLink RX0 7 "ConicRows$Form" "a" "J") (by decide +kernel)
  have k_5 := hts (.fieldLink RX0 16 "ConicRows$Form" "c" "J") (by decide +kernel)
  refine lv_aload_n hx hb dX0_disc_0 rfl (lv_at hl 0 rfl) ?_
  refine va_get (D := D) (ci := 0) (v := .long b) (C := RX0) (T := TX0) (N := 6) hx hb hts k_2 hown hK.1 hP 0 rfl rfl 1 (by decide) k_1 (fun _ h9 => h9) rfl dX0_disc_1 ?_
  refine lv_aload_n hx hb dX0_disc_4 rfl (lv_at hl 0 rfl) ?_
  refine va_get (D := D) (ci := 0) (v := .long b) (C := RX0) (T := TX0) (N := 6) hx hb hts k_2 hown hK.1 hP 0 rfl rfl 1 (by decide) k_1 (fun _ h9 => h9) rfl dX0_disc_5 ?_
  refine lv_lmul hx hb dX0_disc_8 ?_
  refine lv_ldc2 hx hb hown k_3 dX0_disc_9 ?_
  refine lv_aload_n hx hb dX0_disc_12 rfl (lv_at hl 0 rfl) ?_
  refine va_get (D := D) (ci := 0) (v := .long a) (C := RX0) (T := TX0) (N := 6) hx hb hts k_2 hown hK.1 hP 0 rfl rfl 0 (by decide) k_4 (fun _ h9 => h9) rfl dX0_disc_13 ?_
  refine lv_lmul hx hb dX0_disc_16 ?_
  refine lv_aload_n hx hb dX0_disc_17 rfl (lv_at hl 0 rfl) ?_
  refine va_get (D := D) (ci := 0) (v := .long c) (C := RX0) (T := TX0) (N := 6) hx hb hts k_2 hown hK.1 hP 0 rfl rfl 2 (by decide) k_5 (fun _ h9 => h9) rfl dX0_disc_18 ?_
  refine lv_lmul hx hb dX0_disc_21 ?_
  refine lv_lsub hx hb dX0_disc_22 ?_
  exact rr_l hx hb hr hlk dX0_disc_23 rfl
def z0_valueAt (a : Int64) (b : Int64) (c : Int64) (d : Int64) (e : Int64) (f : Int64) (x : Int64) (y : Int64) (z : Int64) : Int64 := ((((((a * x) * x) + ((b * x) * y)) + ((c * y) * y)) + ((d * x) * z)) + ((e * y) * z)) + ((f * z) * z)
set_option maxHeartbeats 4000000 in
set_option maxRecDepth 100000 in
/-- X0.valueAt -/
theorem c_X0_valueAt (l : Launch) (D : va_G) (cI cJ : ClassId) (h : Nat) (g : Nat) (a : Int64) (b : Int64) (c : Int64) (d : Int64) (e : Int64) (f : Int64) (x : Int64) (y : Int64) (z : Int64) : mr_C l yX0_valueAt wsX0_valueAt ({ frames := 0, cells := 0, slots := 0, locals := 0 }) D cI cJ [.ref h, .ref g] [kF h a b c d e f, kT g x y z] (vp_Sl (fun r : Int64 => r = z0_valueAt a b c d e f x y z)) := by
  refine mr_in (cc := cX0_valueAt) (lv := [(0, .ref h), (1, .ref g)]) (by decide) rfl (Nat.le_of_ble_eq_true rfl) rfl ?_
  intro pG eG sG mG below meth cG ls hx hb hr hml hown hts hlk hP hK hl
  have hown : sG.vm.findClass RX0 = some mG.cls := hown
  have k_1 := hts (.fieldLink RX0 7 "ConicRows$Form" "a" "J") (by decide +kernel)
  have k_2 : ∀ w ∈ wsX00, w ∈ wsX0_valueAt := by decide +kernel
  have k_3 : ∀ w ∈ wsX30, w ∈ wsX0_valueAt := by decide +kernel
  have k_4 := hts (.fieldLink RX0 13 "ConicRows$Form" "b" "J") (by decide +kernel)
  have k_5 := hts (.fieldLink RX0 16 "ConicRows$Form" "c" "J") (by decide +kernel)
  have k_6 := hts (.fieldLink RX0 19 "ConicRows$Form" "d" "J") (by decide +kernel)
  have k_7 := hts (.fieldLink RX0 22 "ConicRows$Form" "e" "J") (by decide +kernel)
  have k_8 := hts (.fieldLink RX0 25 "ConicRows$Form" "f" "J") (by decide +kernel)
  refine lv_aload_n hx hb dX0_valueAt_0 rfl (lv_at hl 0 rfl) ?_
  refine va_get (D := D) (ci := 0) (v := .long a) (C := RX0) (T := TX0) (N := 6) hx hb hts k_2 hown hK.1 hP 0 rfl rfl 0 (by decide) k_1 (fun _ h9 => h9) rfl dX0_valueAt_1 ?_
  refine lv_aload_n hx hb dX0_valueAt_4 rfl (lv_at hl 1 rfl) ?_
  refine va_getN (D := D) (ci := 3) (v := .long x) (C := RX3) (T := TX3) (N := 3) hx hb hts k_3 hown hK.1 hP 1 rfl rfl 0 (by decide) (nw_f hK.2 3 rfl) (fun _ h9 => h9) rfl dX0_valueAt_5 ?_
  refine lv_lmul hx hb dX0_valueAt_8 ?_
  refine lv_aload_n hx hb dX0_valueAt_9 rfl (lv_at hl 1 rfl) ?_
  refine va_getN (D := D) (ci := 3) (v := .long x) (C := RX3) (T := TX3) (N := 3) hx hb hts k_3 hown hK.1 hP 1 rfl rfl 0 (by decide) (nw_f hK.2 3 rfl) (fun _ h9 => h9) rfl dX0_valueAt_10 ?_
  refine lv_lmul hx hb dX0_valueAt_13 ?_
  refine lv_aload_n hx hb dX0_valueAt_14 rfl (lv_at hl 0 rfl) ?_
  refine va_get (D := D) (ci := 0) (v := .long b) (C := RX0) (T := TX0) (N := 6) hx hb hts k_2 hown hK.1 hP 0 rfl rfl 1 (by decide) k_4 (fun _ h9 => h9) rfl dX0_valueAt_15 ?_
  refine lv_aload_n hx hb dX0_valueAt_18 rfl (lv_at hl 1 rfl) ?_
  refine va_getN (D := D) (ci := 3) (v := .long x) (C := RX3) (T := TX3) (N := 3) hx hb hts k_3 hown hK.1 hP 1 rfl rfl 0 (by decide) (nw_f hK.2 3 rfl) (fun _ h9 => h9) rfl dX0_valueAt_19 ?_
  refine lv_lmul hx hb dX0_valueAt_22 ?_
  refine lv_aload_n hx hb dX0_valueAt_23 rfl (lv_at hl 1 rfl) ?_
  refine va_getN (D := D) (ci := 3) (v := .long y) (C := RX3) (T := TX3) (N := 3) hx hb hts k_3 hown hK.1 hP 1 rfl rfl 1 (by decide) (nw_f hK.2 6 rfl) (fun _ h9 => h9) rfl dX0_valueAt_24 ?_
  refine lv_lmul hx hb dX0_valueAt_27 ?_
  refine lv_ladd hx hb dX0_valueAt_28 ?_
  refine lv_aload_n hx hb dX0_valueAt_29 rfl (lv_at hl 0 rfl) ?_
  refine va_get (D := D) (ci := 0) (v := .long c) (C := RX0) (T := TX0) (N := 6) hx hb hts k_2 hown hK.1 hP 0 rfl rfl 2 (by decide) k_5 (fun _ h9 => h9) rfl dX0_valueAt_30 ?_
  refine lv_aload_n hx hb dX0_valueAt_33 rfl (lv_at hl 1 rfl) ?_
  refine va_getN (D := D) (ci := 3) (v := .long y) (C := RX3) (T := TX3) (N := 3) hx hb hts k_3 hown hK.1 hP 1 rfl rfl 1 (by decide) (nw_f hK.2 6 rfl) (fun _ h9 => h9) rfl dX0_valueAt_34 ?_
  refine lv_lmul hx hb dX0_valueAt_37 ?_
  refine lv_aload_n hx hb dX0_valueAt_38 rfl (lv_at hl 1 rfl) ?_
  refine va_getN (D := D) (ci := 3) (v := .long y) (C := RX3) (T := TX3) (N := 3) hx hb hts k_3 hown hK.1 hP 1 rfl rfl 1 (by decide) (nw_f hK.2 6 rfl) (fun _ h9 => h9) rfl dX0_valueAt_39 ?_
  refine lv_lmul hx hb dX0_valueAt_42 ?_
  refine lv_ladd hx hb dX0_valueAt_43 ?_
  refine lv_aload_n hx hb dX0_valueAt_44 rfl (lv_at hl 0 rfl) ?_
  refine va_get (D := D) (ci := 0) (v := .long d) (C := RX0) (T := TX0) (N := 6) hx hb hts k_2 hown hK.1 hP 0 rfl rfl 3 (by decide) k_6 (fun _ h9 => h9) rfl dX0_valueAt_45 ?_
  refine lv_aload_n hx hb dX0_valueAt_48 rfl (lv_at hl 1 rfl) ?_
  refine va_getN (D := D) (ci := 3) (v := .long x) (C := RX3) (T := TX3) (N := 3) hx hb hts k_3 hown hK.1 hP 1 rfl rfl 0 (by decide) (nw_f hK.2 3 rfl) (fun _ h9 => h9) rfl dX0_valueAt_49 ?_
  refine lv_lmul hx hb dX0_valueAt_52 ?_
  refine lv_aload_n hx hb dX0_valueAt_53 rfl (lv_at hl 1 rfl) ?_
  refine va_getN (D := D) (ci := 3) (v := .long z) (C := RX3) (T := TX3) (N := 3) hx hb hts k_3 hown hK.1 hP 1 rfl rfl 2 (by decide) (nw_f hK.2 9 rfl) (fun _ h9 => h9) rfl dX0_valueAt_54 ?_
  refine lv_lmul hx hb dX0_valueAt_57 ?_
  refine lv_ladd hx hb dX0_valueAt_58 ?_
  refine lv_aload_n hx hb dX0_valueAt_59 rfl (lv_at hl 0 rfl) ?_
  refine va_get (D := D) (ci := 0) (v := .long e) (C := RX0) (T := TX0) (N := 6) hx hb hts k_2 hown hK.1 hP 0 rfl rfl 4 (by decide) k_7 (fun _ h9 => h9) rfl dX0_valueAt_60 ?_
  refine lv_aload_n hx hb dX0_valueAt_63 rfl (lv_at hl 1 rfl) ?_
  refine va_getN (D := D) (ci := 3) (v := .long y) (C := RX3) (T := TX3) (N := 3) hx hb hts k_3 hown hK.1 hP 1 rfl rfl 1 (by decide) (nw_f hK.2 6 rfl) (fun _ h9 => h9) rfl dX0_valueAt_64 ?_
  refine lv_lmul hx hb dX0_valueAt_67 ?_
  refine lv_aload_n hx hb dX0_valueAt_68 rfl (lv_at hl 1 rfl) ?_
  refine va_getN (D := D) (ci := 3) (v := .long z) (C := RX3) (T := TX3) (N := 3) hx hb hts k_3 hown hK.1 hP 1 rfl rfl 2 (by decide) (nw_f hK.2 9 rfl) (fun _ h9 => h9) rfl dX0_valueAt_69 ?_
  refine lv_lmul hx hb dX0_valueAt_72 ?_
  refine lv_ladd hx hb dX0_valueAt_73 ?_
  refine lv_aload_n hx hb dX0_valueAt_74 rfl (lv_at hl 0 rfl) ?_
  refine va_get (D := D) (ci := 0) (v := .long f) (C := RX0) (T := TX0) (N := 6) hx hb hts k_2 hown hK.1 hP 0 rfl rfl 5 (by decide) k_8 (fun _ h9 => h9) rfl dX0_valueAt_75 ?_
  refine lv_aload_n hx hb dX0_valueAt_78 rfl (lv_at hl 1 rfl) ?_
  refine va_getN (D := D) (ci := 3) (v := .long z) (C := RX3) (T := TX3) (N := 3) hx hb hts k_3 hown hK.1 hP 1 rfl rfl 2 (by decide) (nw_f hK.2 9 rfl) (fun _ h9 => h9) rfl dX0_valueAt_79 ?_
  refine lv_lmul hx hb dX0_valueAt_82 ?_
  refine lv_aload_n hx hb dX0_valueAt_83 rfl (lv_at hl 1 rfl) ?_
  refine va_getN (D := D) (ci := 3) (v := .long z) (C := RX3) (T := TX3) (N := 3) hx hb hts k_3 hown hK.1 hP 1 rfl rfl 2 (by decide) (nw_f hK.2 9 rfl) (fun _ h9 => h9) rfl dX0_valueAt_84 ?_
  refine lv_lmul hx hb dX0_valueAt_87 ?_
  refine lv_ladd hx hb dX0_valueAt_88 ?_
  exact rr_l hx hb hr hlk dX0_valueAt_89 rfl
def z0_firstSquare (a : Int64) (c : Int64) (f : Int64) : Int64 := if a = 0 then if c = 0 then f else c else a
set_option maxHeartbeats 4000000 in
set_option maxRecDepth 100000 in
/-- X0.firstSquare -/
theorem c_X0_firstSquare (l : Launch) (D : va_G) (cI cJ : ClassId) (h : Nat) (a : Int64) (b : Int64) (c : Int64) (d : Int64) (e : Int64) (f : Int64) : mr_C l yX0_firstSquare wsX0_firstSquare ({ frames := 0, cells := 0, slots := 0, locals := 0 }) D cI cJ [.ref h] [kF h a b c d e f] (vp_Sl (fun r : Int64 => r = z0_firstSquare a c f)) := by
  refine mr_in (cc := cX0_firstSquare) (lv := [(0, .ref h)]) (by decide) rfl (Nat.le_of_ble_eq_true rfl) rfl ?_
  intro pG eG sG mG below meth cG ls hx hb hr hml hown hts hlk hP hK hl
  have hown : sG.vm.findClass RX0 = some mG.cls := hown
  have k_1 := hts (.fieldLink RX0 7 "ConicRows$Form" "a" "J") (by decide +kernel)
  have k_2 : ∀ w ∈ wsX00, w ∈ wsX0_firstSquare := by decide +kernel
  have k_3 := hts (.fieldLink RX0 16 "ConicRows$Form" "c" "J") (by decide +kernel)
  have k_4 := hts (.fieldLink RX0 25 "ConicRows$Form" "f" "J") (by decide +kernel)
  refine lv_aload_n hx hb dX0_firstSquare_0 rfl (lv_at hl 0 rfl) ?_
  refine va_get (D := D) (ci := 0) (v := .long a) (C := RX0) (T := TX0) (N := 6) hx hb hts k_2 hown hK.1 hP 0 rfl rfl 0 (by decide) k_1 (fun _ h9 => h9) rfl dX0_firstSquare_1 ?_
  refine lv_lconst (v := 0) hx hb dX0_firstSquare_4 (by decide) ?_
  refine lb_eq (tgt := 14) hx hb dX0_firstSquare_5 rfl dX0_firstSquare_6 (by decide) (fun c_1 => ?_) (fun c_1 => ?_)
  · skip
    refine lv_aload_n hx hb dX0_firstSquare_14 rfl (lv_at hl 0 rfl) ?_
    refine va_get (D := D) (ci := 0) (v := .long c) (C := RX0) (T := TX0) (N := 6) hx hb hts k_2 hown hK.1 hP 0 rfl rfl 2 (by decide) k_3 (fun _ h9 => h9) rfl dX0_firstSquare_15 ?_
    refine lv_lconst (v := 0) hx hb dX0_firstSquare_18 (by decide) ?_
    refine lb_eq (tgt := 30) hx hb dX0_firstSquare_19 rfl dX0_firstSquare_20 (by decide) (fun c_2 => ?_) (fun c_2 => ?_)
    · skip
      refine lv_aload_n hx hb dX0_firstSquare_30 rfl (lv_at hl 0 rfl) ?_
      refine va_get (D := D) (ci := 0) (v := .long f) (C := RX0) (T := TX0) (N := 6) hx hb hts k_2 hown hK.1 hP 0 rfl rfl 5 (by decide) k_4 (fun _ h9 => h9) rfl dX0_firstSquare_31 ?_
      have he : z0_firstSquare a c f = f := by unfold z0_firstSquare; rw [if_pos c_1, if_pos c_2]
      exact rr_l hx hb hr hlk dX0_firstSquare_34 he.symm
    · skip
      refine lv_aload_n hx hb dX0_firstSquare_23 rfl (lv_at hl 0 rfl) ?_
      refine va_get (D := D) (ci := 0) (v := .long c) (C := RX0) (T := TX0) (N := 6) hx hb hts k_2 hown hK.1 hP 0 rfl rfl 2 (by decide) k_3 (fun _ h9 => h9) rfl dX0_firstSquare_24 ?_
      refine lv_goto (tgt := 34) hx hb dX0_firstSquare_27 (by decide) ?_
      have he : z0_firstSquare a c f = c := by unfold z0_firstSquare; rw [if_pos c_1, if_neg c_2]
      exact rr_l hx hb hr hlk dX0_firstSquare_34 he.symm
  · skip
    refine lv_aload_n hx hb dX0_firstSquare_9 rfl (lv_at hl 0 rfl) ?_
    refine va_get (D := D) (ci := 0) (v := .long a) (C := RX0) (T := TX0) (N := 6) hx hb hts k_2 hown hK.1 hP 0 rfl rfl 0 (by decide) k_1 (fun _ h9 => h9) rfl dX0_firstSquare_10 ?_
    have he : z0_firstSquare a c f = a := by unfold z0_firstSquare; rw [if_neg c_1]
    exact rr_l hx hb hr hlk dX0_firstSquare_13 he.symm
def z0_firstNumber (a : Int64) (b : Int64) (c : Int64) (d : Int64) (e : Int64) (f : Int64) : Int64 := if a = 0 then if b = 0 then if c = 0 then if d = 0 then if e = 0 then f else e else d else c else b else a
set_option maxHeartbeats 4000000 in
set_option maxRecDepth 100000 in
/-- X0.firstNumber -/
theorem c_X0_firstNumber (l : Launch) (D : va_G) (cI cJ : ClassId) (h : Nat) (a : Int64) (b : Int64) (c : Int64) (d : Int64) (e : Int64) (f : Int64) : mr_C l yX0_firstNumber wsX0_firstNumber ({ frames := 0, cells := 0, slots := 0, locals := 0 }) D cI cJ [.ref h] [kF h a b c d e f] (vp_Sl (fun r : Int64 => r = z0_firstNumber a b c d e f)) := by
  refine mr_in (cc := cX0_firstNumber) (lv := [(0, .ref h)]) (by decide) rfl (Nat.le_of_ble_eq_true rfl) rfl ?_
  intro pG eG sG mG below meth cG ls hx hb hr hml hown hts hlk hP hK hl
  have hown : sG.vm.findClass RX0 = some mG.cls := hown
  have k_1 := hts (.fieldLink RX0 7 "ConicRows$Form" "a" "J") (by decide +kernel)
  have k_2 : ∀ w ∈ wsX00, w ∈ wsX0_firstNumber := by decide +kernel
  have k_3 := hts (.fieldLink RX0 13 "ConicRows$Form" "b" "J") (by decide +kernel)
  have k_4 := hts (.fieldLink RX0 16 "ConicRows$Form" "c" "J") (by decide +kernel)
  have k_5 := hts (.fieldLink RX0 19 "ConicRows$Form" "d" "J") (by decide +kernel)
  have k_6 := hts (.fieldLink RX0 22 "ConicRows$Form" "e" "J") (by decide +kernel)
  have k_7 := hts (.fieldLink RX0 25 "ConicRows$Form" "f" "J") (by decide +kernel)
  refine lv_aload_n hx hb dX0_firstNumber_0 rfl (lv_at hl 0 rfl) ?_
  refine va_get (D := D) (ci := 0) (v := .long a) (C := RX0) (T := TX0) (N := 6) hx hb hts k_2 hown hK.1 hP 0 rfl rfl 0 (by decide) k_1 (fun _ h9 => h9) rfl dX0_firstNumber_1 ?_
  refine lv_lconst (v := 0) hx hb dX0_firstNumber_4 (by decide) ?_
  refine lb_ne (tgt := 18) hx hb dX0_firstNumber_5 rfl dX0_firstNumber_6 (by decide) (fun c_1 => ?_) (fun c_1 => ?_)
  · skip
    refine lv_aload_n hx hb dX0_firstNumber_18 rfl (lv_at hl 0 rfl) ?_
    refine va_get (D := D) (ci := 0) (v := .long a) (C := RX0) (T := TX0) (N := 6) hx hb hts k_2 hown hK.1 hP 0 rfl rfl 0 (by decide) k_1 (fun _ h9 => h9) rfl dX0_firstNumber_19 ?_
    refine lv_lconst (v := 0) hx hb dX0_firstNumber_22 (by decide) ?_
    refine lb_eq (tgt := 34) hx hb dX0_firstNumber_23 rfl dX0_firstNumber_24 (by decide) (fun h => absurd h c_1) (fun _ => ?_)
    refine lv_aload_n hx hb dX0_firstNumber_27 rfl (lv_at hl 0 rfl) ?_
    refine va_get (D := D) (ci := 0) (v := .long a) (C := RX0) (T := TX0) (N := 6) hx hb hts k_2 hown hK.1 hP 0 rfl rfl 0 (by decide) k_1 (fun _ h9 => h9) rfl dX0_firstNumber_28 ?_
    refine lv_goto (tgt := 38) hx hb dX0_firstNumber_31 (by decide) ?_
    have he : z0_firstNumber a b c d e f = a := by unfold z0_firstNumber; rw [if_neg c_1]
    exact rr_l hx hb hr hlk dX0_firstNumber_38 he.symm
  · skip
    refine lv_aload_n hx hb dX0_firstNumber_9 rfl (lv_at hl 0 rfl) ?_
    refine va_get (D := D) (ci := 0) (v := .long b) (C := RX0) (T := TX0) (N := 6) hx hb hts k_2 hown hK.1 hP 0 rfl rfl 1 (by decide) k_3 (fun _ h9 => h9) rfl dX0_firstNumber_10 ?_
    refine lv_lconst (v := 0) hx hb dX0_firstNumber_13 (by decide) ?_
    refine lb_eq (tgt := 39) hx hb dX0_firstNumber_14 rfl dX0_firstNumber_15 (by decide) (fun c_2 => ?_) (fun c_2 => ?_)
    · skip
      refine lv_aload_n hx hb dX0_firstNumber_39 rfl (lv_at hl 0 rfl) ?_
      refine va_get (D := D) (ci := 0) (v := .long c) (C := RX0) (T := TX0) (N := 6) hx hb hts k_2 hown hK.1 hP 0 rfl rfl 2 (by decide) k_4 (fun _ h9 => h9) rfl dX0_firstNumber_40 ?_
      refine lv_lconst (v := 0) hx hb dX0_firstNumber_43 (by decide) ?_
      refine lb_ne (tgt := 57) hx hb dX0_firstNumber_44 rfl dX0_firstNumber_45 (by decide) (fun c_3 => ?_) (fun c_3 => ?_)
      · skip
        refine lv_aload_n hx hb dX0_firstNumber_57 rfl (lv_at hl 0 rfl) ?_
        refine va_get (D := D) (ci := 0) (v := .long c) (C := RX0) (T := TX0) (N := 6) hx hb hts k_2 hown hK.1 hP 0 rfl rfl 2 (by decide) k_4 (fun _ h9 => h9) rfl dX0_firstNumber_58 ?_
        refine lv_lconst (v := 0) hx hb dX0_firstNumber_61 (by decide) ?_
        refine lb_eq (tgt := 73) hx hb dX0_firstNumber_62 rfl dX0_firstNumber_63 (by decide) (fun h => absurd h c_3) (fun _ => ?_)
        refine lv_aload_n hx hb dX0_firstNumber_66 rfl (lv_at hl 0 rfl) ?_
        refine va_get (D := D) (ci := 0) (v := .long c) (C := RX0) (T := TX0) (N := 6) hx hb hts k_2 hown hK.1 hP 0 rfl rfl 2 (by decide) k_4 (fun _ h9 => h9) rfl dX0_firstNumber_67 ?_
        refine lv_goto (tgt := 77) hx hb dX0_firstNumber_70 (by decide) ?_
        have he : z0_firstNumber a b c d e f = c := by unfold z0_firstNumber; rw [if_pos c_1, if_pos c_2, if_neg c_3]
        exact rr_l hx hb hr hlk dX0_firstNumber_77 he.symm
      · skip
        refine lv_aload_n hx hb dX0_firstNumber_48 rfl (lv_at hl 0 rfl) ?_
        refine va_get (D := D) (ci := 0) (v := .long d) (C := RX0) (T := TX0) (N := 6) hx hb hts k_2 hown hK.1 hP 0 rfl rfl 3 (by decide) k_5 (fun _ h9 => h9) rfl dX0_firstNumber_49 ?_
        refine lv_lconst (v := 0) hx hb dX0_firstNumber_52 (by decide) ?_
        refine lb_eq (tgt := 78) hx hb dX0_firstNumber_53 rfl dX0_firstNumber_54 (by decide) (fun c_4 => ?_) (fun c_4 => ?_)
        · skip
          refine lv_aload_n hx hb dX0_firstNumber_78 rfl (lv_at hl 0 rfl) ?_
          refine va_get (D := D) (ci := 0) (v := .long e) (C := RX0) (T := TX0) (N := 6) hx hb hts k_2 hown hK.1 hP 0 rfl rfl 4 (by decide) k_6 (fun _ h9 => h9) rfl dX0_firstNumber_79 ?_
          refine lv_lconst (v := 0) hx hb dX0_firstNumber_82 (by decide) ?_
          refine lb_eq (tgt := 94) hx hb dX0_firstNumber_83 rfl dX0_firstNumber_84 (by decide) (fun c_5 => ?_) (fun c_5 => ?_)
          · skip
            refine lv_aload_n hx hb dX0_firstNumber_94 rfl (lv_at hl 0 rfl) ?_
            refine va_get (D := D) (ci := 0) (v := .long f) (C := RX0) (T := TX0) (N := 6) hx hb hts k_2 hown hK.1 hP 0 rfl rfl 5 (by decide) k_7 (fun _ h9 => h9) rfl dX0_firstNumber_95 ?_
            have he : z0_firstNumber a b c d e f = f := by unfold z0_firstNumber; rw [if_pos c_1, if_pos c_2, if_pos c_3, if_pos c_4, if_pos c_5]
            exact rr_l hx hb hr hlk dX0_firstNumber_98 he.symm
          · skip
            refine lv_aload_n hx hb dX0_firstNumber_87 rfl (lv_at hl 0 rfl) ?_
            refine va_get (D := D) (ci := 0) (v := .long e) (C := RX0) (T := TX0) (N := 6) hx hb hts k_2 hown hK.1 hP 0 rfl rfl 4 (by decide) k_6 (fun _ h9 => h9) rfl dX0_firstNumber_88 ?_
            refine lv_goto (tgt := 98) hx hb dX0_firstNumber_91 (by decide) ?_
            have he : z0_firstNumber a b c d e f = e := by unfold z0_firstNumber; rw [if_pos c_1, if_pos c_2, if_pos c_3, if_pos c_4, if_neg c_5]
            exact rr_l hx hb hr hlk dX0_firstNumber_98 he.symm
        · skip
          refine lv_aload_n hx hb dX0_firstNumber_57 rfl (lv_at hl 0 rfl) ?_
          refine va_get (D := D) (ci := 0) (v := .long c) (C := RX0) (T := TX0) (N := 6) hx hb hts k_2 hown hK.1 hP 0 rfl rfl 2 (by decide) k_4 (fun _ h9 => h9) rfl dX0_firstNumber_58 ?_
          refine lv_lconst (v := 0) hx hb dX0_firstNumber_61 (by decide) ?_
          refine lb_eq (tgt := 73) hx hb dX0_firstNumber_62 rfl dX0_firstNumber_63 (by decide) (fun _ => ?_) (fun h => absurd c_3 h)
          refine lv_aload_n hx hb dX0_firstNumber_73 rfl (lv_at hl 0 rfl) ?_
          refine va_get (D := D) (ci := 0) (v := .long d) (C := RX0) (T := TX0) (N := 6) hx hb hts k_2 hown hK.1 hP 0 rfl rfl 3 (by decide) k_5 (fun _ h9 => h9) rfl dX0_firstNumber_74 ?_
          have he : z0_firstNumber a b c d e f = d := by unfold z0_firstNumber; rw [if_pos c_1, if_pos c_2, if_pos c_3, if_neg c_4]
          exact rr_l hx hb hr hlk dX0_firstNumber_77 he.symm
    · skip
      refine lv_aload_n hx hb dX0_firstNumber_18 rfl (lv_at hl 0 rfl) ?_
      refine va_get (D := D) (ci := 0) (v := .long a) (C := RX0) (T := TX0) (N := 6) hx hb hts k_2 hown hK.1 hP 0 rfl rfl 0 (by decide) k_1 (fun _ h9 => h9) rfl dX0_firstNumber_19 ?_
      refine lv_lconst (v := 0) hx hb dX0_firstNumber_22 (by decide) ?_
      refine lb_eq (tgt := 34) hx hb dX0_firstNumber_23 rfl dX0_firstNumber_24 (by decide) (fun _ => ?_) (fun h => absurd c_1 h)
      refine lv_aload_n hx hb dX0_firstNumber_34 rfl (lv_at hl 0 rfl) ?_
      refine va_get (D := D) (ci := 0) (v := .long b) (C := RX0) (T := TX0) (N := 6) hx hb hts k_2 hown hK.1 hP 0 rfl rfl 1 (by decide) k_3 (fun _ h9 => h9) rfl dX0_firstNumber_35 ?_
      have he : z0_firstNumber a b c d e f = b := by unfold z0_firstNumber; rw [if_pos c_1, if_neg c_2]
      exact rr_l hx hb hr hlk dX0_firstNumber_38 he.symm
def z0_setMinors_a (c : Int64) (e : Int64) (f : Int64) : Int64 := (((4 * c) * f) - (e * e))
def z0_setMinors_b (b : Int64) (d : Int64) (e : Int64) (f : Int64) : Int64 := ((d * e) - ((2 * b) * f))
def z0_setMinors_c (a : Int64) (d : Int64) (f : Int64) : Int64 := (((4 * a) * f) - (d * d))
def z0_setMinors_d (b : Int64) (c : Int64) (d : Int64) (e : Int64) : Int64 := ((b * e) - ((2 * c) * d))
def z0_setMinors_e (a : Int64) (b : Int64) (d : Int64) (e : Int64) : Int64 := ((b * d) - ((2 * a) * e))
def z0_setMinors_f (a : Int64) (b : Int64) (c : Int64) : Int64 := (((4 * a) * c) - (b * b))
set_option maxHeartbeats 4000000 in
set_option maxRecDepth 100000 in
/-- X0.setMinors -/
theorem c_X0_setMinors (l : Launch) (D : va_G) (cI cJ : ClassId) (h : Nat) (g : Nat) (r : Int64) (s : Int64) (t : Int64) (u : Int64) (v : Int64) (w : Int64) (a : Int64) (b : Int64) (c : Int64) (d : Int64) (e : Int64) (f : Int64) : mw_C l yX0_setMinors wsX0_setMinors ({ frames := 1, cells := 0, slots := 0, locals := 26 }) D cI cJ [.ref h, .ref g] [kF h r s t u v w, kF g a b c d e f] (qe_v (fun _ : Unit => True) (fun uu => [kF h (z0_setMinors_a c e f) (z0_setMinors_b b d e f) (z0_setMinors_c a d f) (z0_setMinors_d b c d e) (z0_setMinors_e a b d e) (z0_setMinors_f a b c), kF g a b c d e f])) := by
  refine mw_in (cc := cX0_setMinors) (lv := [(0, .ref h), (1, .ref g)]) (by decide) rfl (Nat.le_of_ble_eq_true rfl) rfl ?_
  intro pG eG sG mG below meth cG ls A hx hb hr hml hown hts hlk hin hP hK hD hA hS hl
  have hown : sG.vm.findClass RX0 = some mG.cls := hown
  have k_1 := hts (.constantLong RX0 47 (4)) (by decide +kernel)
  have k_2 := hts (.fieldLink RX0 16 "ConicRows$Form" "c" "J") (by decide +kernel)
  have k_3 : ∀ w ∈ wsX00, w ∈ wsX0_setMinors := by decide +kernel
  have k_4 := hts (.fieldLink RX0 25 "ConicRows$Form" "f" "J") (by decide +kernel)
  have k_5 := hts (.fieldLink RX0 22 "ConicRows$Form" "e" "J") (by decide +kernel)
  have k_6 := hts (.fieldLink RX0 19 "ConicRows$Form" "d" "J") (by decide +kernel)
  have k_7 := hts (.constantLong RX0 74 (2)) (by decide +kernel)
  have k_8 := hts (.fieldLink RX0 13 "ConicRows$Form" "b" "J") (by decide +kernel)
  have k_9 := hts (.fieldLink RX0 7 "ConicRows$Form" "a" "J") (by decide +kernel)
  refine lv_aload_n hx hb dX0_setMinors_0 rfl (lv_at hl 0 rfl) ?_
  refine lv_ldc2 hx hb hown k_1 dX0_setMinors_1 ?_
  refine lv_aload_n hx hb dX0_setMinors_4 rfl (lv_at hl 1 rfl) ?_
  refine va_get (D := D) (ci := 0) (v := .long c) (C := RX0) (T := TX0) (N := 6) hx hb hts k_3 hown hK.1 hP 1 rfl rfl 2 (by decide) k_2 (fun _ h9 => h9) rfl dX0_setMinors_5 ?_
  refine lv_lmul hx hb dX0_setMinors_8 ?_
  refine lv_aload_n hx hb dX0_setMinors_9 rfl (lv_at hl 1 rfl) ?_
  refine va_get (D := D) (ci := 0) (v := .long f) (C := RX0) (T := TX0) (N := 6) hx hb hts k_3 hown hK.1 hP 1 rfl rfl 5 (by decide) k_4 (fun _ h9 => h9) rfl dX0_setMinors_10 ?_
  refine lv_lmul hx hb dX0_setMinors_13 ?_
  refine lv_aload_n hx hb dX0_setMinors_14 rfl (lv_at hl 1 rfl) ?_
  refine va_get (D := D) (ci := 0) (v := .long e) (C := RX0) (T := TX0) (N := 6) hx hb hts k_3 hown hK.1 hP 1 rfl rfl 4 (by decide) k_5 (fun _ h9 => h9) rfl dX0_setMinors_15 ?_
  refine lv_aload_n hx hb dX0_setMinors_18 rfl (lv_at hl 1 rfl) ?_
  refine va_get (D := D) (ci := 0) (v := .long e) (C := RX0) (T := TX0) (N := 6) hx hb hts k_3 hown hK.1 hP 1 rfl rfl 4 (by decide) k_5 (fun _ h9 => h9) rfl dX0_setMinors_19 ?_
  refine lv_lmul hx hb dX0_setMinors_22 ?_
  refine lv_lsub hx hb dX0_setMinors_23 ?_
  refine lv_aload_n hx hb dX0_setMinors_24 rfl (lv_at hl 1 rfl) ?_
  refine va_get (D := D) (ci := 0) (v := .long d) (C := RX0) (T := TX0) (N := 6) hx hb hts k_3 hown hK.1 hP 1 rfl rfl 3 (by decide) k_6 (fun _ h9 => h9) rfl dX0_setMinors_25 ?_
  refine lv_aload_n hx hb dX0_setMinors_28 rfl (lv_at hl 1 rfl) ?_
  refine va_get (D := D) (ci := 0) (v := .long e) (C := RX0) (T := TX0) (N := 6) hx hb hts k_3 hown hK.1 hP 1 rfl rfl 4 (by decide) k_5 (fun _ h9 => h9) rfl dX0_setMinors_29 ?_
  refine lv_lmul hx hb dX0_setMinors_32 ?_
  refine lv_ldc2 hx hb hown k_7 dX0_setMinors_33 ?_
  refine lv_aload_n hx hb dX0_setMinors_36 rfl (lv_at hl 1 rfl) ?_
  refine va_get (D := D) (ci := 0) (v := .long b) (C := RX0) (T := TX0) (N := 6) hx hb hts k_3 hown hK.1 hP 1 rfl rfl 1 (by decide) k_8 (fun _ h9 => h9) rfl dX0_setMinors_37 ?_
  refine lv_lmul hx hb dX0_setMinors_40 ?_
  refine lv_aload_n hx hb dX0_setMinors_41 rfl (lv_at hl 1 rfl) ?_
  refine va_get (D := D) (ci := 0) (v := .long f) (C := RX0) (T := TX0) (N := 6) hx hb hts k_3 hown hK.1 hP 1 rfl rfl 5 (by decide) k_4 (fun _ h9 => h9) rfl dX0_setMinors_42 ?_
  refine lv_lmul hx hb dX0_setMinors_45 ?_
  refine lv_lsub hx hb dX0_setMinors_46 ?_
  refine lv_ldc2 hx hb hown k_1 dX0_setMinors_47 ?_
  refine lv_aload_n hx hb dX0_setMinors_50 rfl (lv_at hl 1 rfl) ?_
  refine va_get (D := D) (ci := 0) (v := .long a) (C := RX0) (T := TX0) (N := 6) hx hb hts k_3 hown hK.1 hP 1 rfl rfl 0 (by decide) k_9 (fun _ h9 => h9) rfl dX0_setMinors_51 ?_
  refine lv_lmul hx hb dX0_setMinors_54 ?_
  refine lv_aload_n hx hb dX0_setMinors_55 rfl (lv_at hl 1 rfl) ?_
  refine va_get (D := D) (ci := 0) (v := .long f) (C := RX0) (T := TX0) (N := 6) hx hb hts k_3 hown hK.1 hP 1 rfl rfl 5 (by decide) k_4 (fun _ h9 => h9) rfl dX0_setMinors_56 ?_
  refine lv_lmul hx hb dX0_setMinors_59 ?_
  refine lv_aload_n hx hb dX0_setMinors_60 rfl (lv_at hl 1 rfl) ?_
  refine va_get (D := D) (ci := 0) (v := .long d) (C := RX0) (T := TX0) (N := 6) hx hb hts k_3 hown hK.1 hP 1 rfl rfl 3 (by decide) k_6 (fun _ h9 => h9) rfl dX0_setMinors_61 ?_
  refine lv_aload_n hx hb dX0_setMinors_64 rfl (lv_at hl 1 rfl) ?_
  refine va_get (D := D) (ci := 0) (v := .long d) (C := RX0) (T := TX0) (N := 6) hx hb hts k_3 hown hK.1 hP 1 rfl rfl 3 (by decide) k_6 (fun _ h9 => h9) rfl dX0_setMinors_65 ?_
  refine lv_lmul hx hb dX0_setMinors_68 ?_
  refine lv_lsub hx hb dX0_setMinors_69 ?_
  have hPc := hP.sub (ws' := [kF h r s t u v w]) [0] rfl
  have hDc := hD.sub (ws' := [kF h r s t u v w]) [0] (by decide) rfl
  refine cl_v (wc := [kF h r s t u v w]) (wr := [kF g a b c d e f]) (w1 := fun uu : Unit => [kF h (((4 * c) * f) - (e * e)) ((d * e) - ((2 * b) * f)) (((4 * a) * f) - (d * d)) u v w]) (wn := fun uu : Unit => [kF h (((4 * c) * f) - (e * e)) ((d * e) - ((2 * b) * f)) (((4 * a) * f) - (d * d)) u v w, kF g a b c d e f]) (va_runV (As := [.long (((4 * c) * f) - (e * e)), .long ((d * e) - ((2 * b) * f)), .long (((4 * a) * f) - (d * d))]) (rest := []) ⟨hx, hb, hml, hown, hts⟩ (c_X0_setQuadratic l D cI cJ h r s t u v w (((4 * c) * f) - (e * e)) ((d * e) - ((2 * b) * f)) (((4 * a) * f) - (d * d)) _) (cwV 3 hts gX0_setMinors_X0_setQuadratic rfl rfl rfl (by decide +kernel) ⟨Nat.le_of_ble_eq_true rfl, Nat.le_of_ble_eq_true rfl⟩) ⟨gd_blP, va_recv hK.1 hPc (ci := 0) (q0 := 0) rfl rfl, gd_prP hPc hK hDc⟩ rfl rfl hl.1 rfl (lv_room (Nat.le_of_ble_eq_true rfl)) dX0_setMinors_70 ⟨Nat.zero_le _, Nat.zero_le _⟩) hP hD hS hA [0] [1] rfl rfl (by decide) (by decide) [1, 0] (by decide) (fun _ => rfl) (fun uG H locs hw hP hD hS => ?_)
  have hP : va_P D vwCl [kF h (((4 * c) * f) - (e * e)) ((d * e) - ((2 * b) * f)) (((4 * a) * f) - (d * d)) u v w, kF g a b c d e f] H := hP
  have hD : va_D A [kF h (((4 * c) * f) - (e * e)) ((d * e) - ((2 * b) * f)) (((4 * a) * f) - (d * d)) u v w, kF g a b c d e f] := hD
  clear hPc hDc
  refine lv_aload_n hx hb dX0_setMinors_73 rfl (lv_at hl 0 rfl) ?_
  refine lv_aload_n hx hb dX0_setMinors_74 rfl (lv_at hl 1 rfl) ?_
  refine va_get (D := D) (ci := 0) (v := .long b) (C := RX0) (T := TX0) (N := 6) hx hb hts k_3 hown hK.1 hP 1 rfl rfl 1 (by decide) k_8 (fun _ h9 => h9) rfl dX0_setMinors_75 ?_
  refine lv_aload_n hx hb dX0_setMinors_78 rfl (lv_at hl 1 rfl) ?_
  refine va_get (D := D) (ci := 0) (v := .long e) (C := RX0) (T := TX0) (N := 6) hx hb hts k_3 hown hK.1 hP 1 rfl rfl 4 (by decide) k_5 (fun _ h9 => h9) rfl dX0_setMinors_79 ?_
  refine lv_lmul hx hb dX0_setMinors_82 ?_
  refine lv_ldc2 hx hb hown k_7 dX0_setMinors_83 ?_
  refine lv_aload_n hx hb dX0_setMinors_86 rfl (lv_at hl 1 rfl) ?_
  refine va_get (D := D) (ci := 0) (v := .long c) (C := RX0) (T := TX0) (N := 6) hx hb hts k_3 hown hK.1 hP 1 rfl rfl 2 (by decide) k_2 (fun _ h9 => h9) rfl dX0_setMinors_87 ?_
  refine lv_lmul hx hb dX0_setMinors_90 ?_
  refine lv_aload_n hx hb dX0_setMinors_91 rfl (lv_at hl 1 rfl) ?_
  refine va_get (D := D) (ci := 0) (v := .long d) (C := RX0) (T := TX0) (N := 6) hx hb hts k_3 hown hK.1 hP 1 rfl rfl 3 (by decide) k_6 (fun _ h9 => h9) rfl dX0_setMinors_92 ?_
  refine lv_lmul hx hb dX0_setMinors_95 ?_
  refine lv_lsub hx hb dX0_setMinors_96 ?_
  refine lv_aload_n hx hb dX0_setMinors_97 rfl (lv_at hl 1 rfl) ?_
  refine va_get (D := D) (ci := 0) (v := .long b) (C := RX0) (T := TX0) (N := 6) hx hb hts k_3 hown hK.1 hP 1 rfl rfl 1 (by decide) k_8 (fun _ h9 => h9) rfl dX0_setMinors_98 ?_
  refine lv_aload_n hx hb dX0_setMinors_101 rfl (lv_at hl 1 rfl) ?_
  refine va_get (D := D) (ci := 0) (v := .long d) (C := RX0) (T := TX0) (N := 6) hx hb hts k_3 hown hK.1 hP 1 rfl rfl 3 (by decide) k_6 (fun _ h9 => h9) rfl dX0_setMinors_102 ?_
  refine lv_lmul hx hb dX0_setMinors_105 ?_
  refine lv_ldc2 hx hb hown k_7 dX0_setMinors_106 ?_
  refine lv_aload_n hx hb dX0_setMinors_109 rfl (lv_at hl 1 rfl) ?_
  refine va_get (D := D) (ci := 0) (v := .long a) (C := RX0) (T := TX0) (N := 6) hx hb hts k_3 hown hK.1 hP 1 rfl rfl 0 (by decide) k_9 (fun _ h9 => h9) rfl dX0_setMinors_110 ?_
  refine lv_lmul hx hb dX0_setMinors_113 ?_
  refine lv_aload_n hx hb dX0_setMinors_114 rfl (lv_at hl 1 rfl) ?_
  refine va_get (D := D) (ci := 0) (v := .long e) (C := RX0) (T := TX0) (N := 6) hx hb hts k_3 hown hK.1 hP 1 rfl rfl 4 (by decide) k_5 (fun _ h9 => h9) rfl dX0_setMinors_115 ?_
  refine lv_lmul hx hb dX0_setMinors_118 ?_
  refine lv_lsub hx hb dX0_setMinors_119 ?_
  refine lv_ldc2 hx hb hown k_1 dX0_setMinors_120 ?_
  refine lv_aload_n hx hb dX0_setMinors_123 rfl (lv_at hl 1 rfl) ?_
  refine va_get (D := D) (ci := 0) (v := .long a) (C := RX0) (T := TX0) (N := 6) hx hb hts k_3 hown hK.1 hP 1 rfl rfl 0 (by decide) k_9 (fun _ h9 => h9) rfl dX0_setMinors_124 ?_
  refine lv_lmul hx hb dX0_setMinors_127 ?_
  refine lv_aload_n hx hb dX0_setMinors_128 rfl (lv_at hl 1 rfl) ?_
  refine va_get (D := D) (ci := 0) (v := .long c) (C := RX0) (T := TX0) (N := 6) hx hb hts k_3 hown hK.1 hP 1 rfl rfl 2 (by decide) k_2 (fun _ h9 => h9) rfl dX0_setMinors_129 ?_
  refine lv_lmul hx hb dX0_setMinors_132 ?_
  refine lv_aload_n hx hb dX0_setMinors_133 rfl (lv_at hl 1 rfl) ?_
  refine va_get (D := D) (ci := 0) (v := .long b) (C := RX0) (T := TX0) (N := 6) hx hb hts k_3 hown hK.1 hP 1 rfl rfl 1 (by decide) k_8 (fun _ h9 => h9) rfl dX0_setMinors_134 ?_
  refine lv_aload_n hx hb dX0_setMinors_137 rfl (lv_at hl 1 rfl) ?_
  refine va_get (D := D) (ci := 0) (v := .long b) (C := RX0) (T := TX0) (N := 6) hx hb hts k_3 hown hK.1 hP 1 rfl rfl 1 (by decide) k_8 (fun _ h9 => h9) rfl dX0_setMinors_138 ?_
  refine lv_lmul hx hb dX0_setMinors_141 ?_
  refine lv_lsub hx hb dX0_setMinors_142 ?_
  have hPc := hP.sub (ws' := [kF h (((4 * c) * f) - (e * e)) ((d * e) - ((2 * b) * f)) (((4 * a) * f) - (d * d)) u v w]) [0] rfl
  have hDc := hD.sub (ws' := [kF h (((4 * c) * f) - (e * e)) ((d * e) - ((2 * b) * f)) (((4 * a) * f) - (d * d)) u v w]) [0] (by decide) rfl
  refine cl_v (wc := [kF h (((4 * c) * f) - (e * e)) ((d * e) - ((2 * b) * f)) (((4 * a) * f) - (d * d)) u v w]) (wr := [kF g a b c d e f]) (w1 := fun uu : Unit => [kF h (((4 * c) * f) - (e * e)) ((d * e) - ((2 * b) * f)) (((4 * a) * f) - (d * d)) ((b * e) - ((2 * c) * d)) ((b * d) - ((2 * a) * e)) (((4 * a) * c) - (b * b))]) (wn := fun uu : Unit => [kF h (((4 * c) * f) - (e * e)) ((d * e) - ((2 * b) * f)) (((4 * a) * f) - (d * d)) ((b * e) - ((2 * c) * d)) ((b * d) - ((2 * a) * e)) (((4 * a) * c) - (b * b)), kF g a b c d e f]) (va_runV (As := [.long ((b * e) - ((2 * c) * d)), .long ((b * d) - ((2 * a) * e)), .long (((4 * a) * c) - (b * b))]) (rest := []) ⟨hx, hb, hml, hown, hts⟩ (c_X0_setRest l D cI cJ h (((4 * c) * f) - (e * e)) ((d * e) - ((2 * b) * f)) (((4 * a) * f) - (d * d)) u v w ((b * e) - ((2 * c) * d)) ((b * d) - ((2 * a) * e)) (((4 * a) * c) - (b * b)) _) (cwV 3 hts gX0_setMinors_X0_setRest rfl rfl rfl (by decide +kernel) ⟨Nat.le_of_ble_eq_true rfl, Nat.le_of_ble_eq_true rfl⟩) ⟨gd_blP, va_recv hK.1 hPc (ci := 0) (q0 := 0) rfl rfl, gd_prP hPc hK hDc⟩ rfl rfl hl.1 rfl (lv_room (Nat.le_of_ble_eq_true rfl)) dX0_setMinors_143 ⟨Nat.zero_le _, Nat.zero_le _⟩) hP hD hS hA [0] [1] rfl rfl (by decide) (by decide) [1, 0] (by decide) (fun _ => rfl) (fun uG H locs hw hP hD hS => ?_)
  have hP : va_P D vwCl [kF h (((4 * c) * f) - (e * e)) ((d * e) - ((2 * b) * f)) (((4 * a) * f) - (d * d)) ((b * e) - ((2 * c) * d)) ((b * d) - ((2 * a) * e)) (((4 * a) * c) - (b * b)), kF g a b c d e f] H := hP
  have hD : va_D A [kF h (((4 * c) * f) - (e * e)) ((d * e) - ((2 * b) * f)) (((4 * a) * f) - (d * d)) ((b * e) - ((2 * c) * d)) ((b * d) - ((2 * a) * e)) (((4 * a) * c) - (b * b)), kF g a b c d e f] := hD
  clear hPc hDc
  have he_0 : z0_setMinors_a c e f = (((4 * c) * f) - (e * e)) := by delta z0_setMinors_a; rfl
  have he_1 : z0_setMinors_b b d e f = ((d * e) - ((2 * b) * f)) := by delta z0_setMinors_b; rfl
  have he_2 : z0_setMinors_c a d f = (((4 * a) * f) - (d * d)) := by delta z0_setMinors_c; rfl
  have he_3 : z0_setMinors_d b c d e = ((b * e) - ((2 * c) * d)) := by delta z0_setMinors_d; rfl
  have he_4 : z0_setMinors_e a b d e = ((b * d) - ((2 * a) * e)) := by delta z0_setMinors_e; rfl
  have he_5 : z0_setMinors_f a b c = (((4 * a) * c) - (b * b)) := by delta z0_setMinors_f; rfl
  exact rt_v (w1 := fun uu : Unit => [kF h (z0_setMinors_a c e f) (z0_setMinors_b b d e f) (z0_setMinors_c a d f) (z0_setMinors_d b c d e) (z0_setMinors_e a b d e) (z0_setMinors_f a b c), kF g a b c d e f]) hx hb hr hlk hS dX0_setMinors_146 (()) trivial (by rw [he_0, he_1, he_2, he_3, he_4, he_5]; exact hP) (by rw [he_0, he_1, he_2, he_3, he_4, he_5]; exact hD)
def z0_setTogether_a (a : Int64) (a1 : Int64) (x : Int64) (y : Int64) : Int64 := ((x * a) + (y * a1))
def z0_setTogether_b (b : Int64) (b1 : Int64) (x : Int64) (y : Int64) : Int64 := ((x * b) + (y * b1))
def z0_setTogether_c (c : Int64) (c1 : Int64) (x : Int64) (y : Int64) : Int64 := ((x * c) + (y * c1))
def z0_setTogether_d (d : Int64) (d1 : Int64) (x : Int64) (y : Int64) : Int64 := ((x * d) + (y * d1))
def z0_setTogether_e (e : Int64) (e1 : Int64) (x : Int64) (y : Int64) : Int64 := ((x * e) + (y * e1))
def z0_setTogether_f (f : Int64) (f1 : Int64) (x : Int64) (y : Int64) : Int64 := ((x * f) + (y * f1))
set_option maxHeartbeats 4000000 in
set_option maxRecDepth 100000 in
/-- X0.setTogether -/
theorem c_X0_setTogether (l : Launch) (D : va_G) (cI cJ : ClassId) (h : Nat) (g : Nat) (k : Nat) (r : Int64) (s : Int64) (t : Int64) (u : Int64) (v : Int64) (w : Int64) (a : Int64) (b : Int64) (c : Int64) (d : Int64) (e : Int64) (f : Int64) (a1 : Int64) (b1 : Int64) (c1 : Int64) (d1 : Int64) (e1 : Int64) (f1 : Int64) (x : Int64) (y : Int64) : mw_C l yX0_setTogether wsX0_setTogether ({ frames := 1, cells := 0, slots := 0, locals := 26 }) D cI cJ [.ref h, .ref g, .long x, .ref k, .long y] [kF h r s t u v w, kF g a b c d e f, kF k a1 b1 c1 d1 e1 f1] (qe_v (fun _ : Unit => True) (fun uu => [kF h (z0_setTogether_a a a1 x y) (z0_setTogether_b b b1 x y) (z0_setTogether_c c c1 x y) (z0_setTogether_d d d1 x y) (z0_setTogether_e e e1 x y) (z0_setTogether_f f f1 x y), kF g a b c d e f, kF k a1 b1 c1 d1 e1 f1])) := by
  refine mw_in (cc := cX0_setTogether) (lv := [(0, .ref h), (1, .ref g), (2, .long x), (4, .ref k), (5, .long y)]) (by decide) rfl (Nat.le_of_ble_eq_true rfl) rfl ?_
  intro pG eG sG mG below meth cG ls A hx hb hr hml hown hts hlk hin hP hK hD hA hS hl
  have hown : sG.vm.findClass RX0 = some mG.cls := hown
  have k_1 := hts (.fieldLink RX0 7 "ConicRows$Form" "a" "J") (by decide +kernel)
  have k_2 : ∀ w ∈ wsX00, w ∈ wsX0_setTogether := by decide +kernel
  have k_3 := hts (.fieldLink RX0 13 "ConicRows$Form" "b" "J") (by decide +kernel)
  have k_4 := hts (.fieldLink RX0 16 "ConicRows$Form" "c" "J") (by decide +kernel)
  have k_5 := hts (.fieldLink RX0 19 "ConicRows$Form" "d" "J") (by decide +kernel)
  have k_6 := hts (.fieldLink RX0 22 "ConicRows$Form" "e" "J") (by decide +kernel)
  have k_7 := hts (.fieldLink RX0 25 "ConicRows$Form" "f" "J") (by decide +kernel)
  refine lv_aload_n hx hb dX0_setTogether_0 rfl (lv_at hl 0 rfl) ?_
  refine lv_lload_n hx hb dX0_setTogether_1 rfl (lv_at hl 2 rfl) ?_
  refine lv_aload_n hx hb dX0_setTogether_2 rfl (lv_at hl 1 rfl) ?_
  refine va_get (D := D) (ci := 0) (v := .long a) (C := RX0) (T := TX0) (N := 6) hx hb hts k_2 hown hK.1 hP 1 rfl rfl 0 (by decide) k_1 (fun _ h9 => h9) rfl dX0_setTogether_3 ?_
  refine lv_lmul hx hb dX0_setTogether_6 ?_
  refine lv_lload hx hb dX0_setTogether_7 (lv_at hl 4 rfl) ?_
  refine lv_aload hx hb dX0_setTogether_9 (lv_at hl 3 rfl) ?_
  refine va_get (D := D) (ci := 0) (v := .long a1) (C := RX0) (T := TX0) (N := 6) hx hb hts k_2 hown hK.1 hP 2 rfl rfl 0 (by decide) k_1 (fun _ h9 => h9) rfl dX0_setTogether_11 ?_
  refine lv_lmul hx hb dX0_setTogether_14 ?_
  refine lv_ladd hx hb dX0_setTogether_15 ?_
  refine lv_lload_n hx hb dX0_setTogether_16 rfl (lv_at hl 2 rfl) ?_
  refine lv_aload_n hx hb dX0_setTogether_17 rfl (lv_at hl 1 rfl) ?_
  refine va_get (D := D) (ci := 0) (v := .long b) (C := RX0) (T := TX0) (N := 6) hx hb hts k_2 hown hK.1 hP 1 rfl rfl 1 (by decide) k_3 (fun _ h9 => h9) rfl dX0_setTogether_18 ?_
  refine lv_lmul hx hb dX0_setTogether_21 ?_
  refine lv_lload hx hb dX0_setTogether_22 (lv_at hl 4 rfl) ?_
  refine lv_aload hx hb dX0_setTogether_24 (lv_at hl 3 rfl) ?_
  refine va_get (D := D) (ci := 0) (v := .long b1) (C := RX0) (T := TX0) (N := 6) hx hb hts k_2 hown hK.1 hP 2 rfl rfl 1 (by decide) k_3 (fun _ h9 => h9) rfl dX0_setTogether_26 ?_
  refine lv_lmul hx hb dX0_setTogether_29 ?_
  refine lv_ladd hx hb dX0_setTogether_30 ?_
  refine lv_lload_n hx hb dX0_setTogether_31 rfl (lv_at hl 2 rfl) ?_
  refine lv_aload_n hx hb dX0_setTogether_32 rfl (lv_at hl 1 rfl) ?_
  refine va_get (D := D) (ci := 0) (v := .long c) (C := RX0) (T := TX0) (N := 6) hx hb hts k_2 hown hK.1 hP 1 rfl rfl 2 (by decide) k_4 (fun _ h9 => h9) rfl dX0_setTogether_33 ?_
  refine lv_lmul hx hb dX0_setTogether_36 ?_
  refine lv_lload hx hb dX0_setTogether_37 (lv_at hl 4 rfl) ?_
  refine lv_aload hx hb dX0_setTogether_39 (lv_at hl 3 rfl) ?_
  refine va_get (D := D) (ci := 0) (v := .long c1) (C := RX0) (T := TX0) (N := 6) hx hb hts k_2 hown hK.1 hP 2 rfl rfl 2 (by decide) k_4 (fun _ h9 => h9) rfl dX0_setTogether_41 ?_
  refine lv_lmul hx hb dX0_setTogether_44 ?_
  refine lv_ladd hx hb dX0_setTogether_45 ?_
  have hPc := hP.sub (ws' := [kF h r s t u v w]) [0] rfl
  have hDc := hD.sub (ws' := [kF h r s t u v w]) [0] (by decide) rfl
  refine cl_v (wc := [kF h r s t u v w]) (wr := [kF g a b c d e f, kF k a1 b1 c1 d1 e1 f1]) (w1 := fun uu : Unit => [kF h ((x * a) + (y * a1)) ((x * b) + (y * b1)) ((x * c) + (y * c1)) u v w]) (wn := fun uu : Unit => [kF h ((x * a) + (y * a1)) ((x * b) + (y * b1)) ((x * c) + (y * c1)) u v w, kF g a b c d e f, kF k a1 b1 c1 d1 e1 f1]) (va_runV (As := [.long ((x * a) + (y * a1)), .long ((x * b) + (y * b1)), .long ((x * c) + (y * c1))]) (rest := []) ⟨hx, hb, hml, hown, hts⟩ (c_X0_setQuadratic l D cI cJ h r s t u v w ((x * a) + (y * a1)) ((x * b) + (y * b1)) ((x * c) + (y * c1)) _) (cwV 3 hts gX0_setTogether_X0_setQuadratic rfl rfl rfl (by decide +kernel) ⟨Nat.le_of_ble_eq_true rfl, Nat.le_of_ble_eq_true rfl⟩) ⟨gd_blP, va_recv hK.1 hPc (ci := 0) (q0 := 0) rfl rfl, gd_prP hPc hK hDc⟩ rfl rfl hl.1 rfl (lv_room (Nat.le_of_ble_eq_true rfl)) dX0_setTogether_46 ⟨Nat.zero_le _, Nat.zero_le _⟩) hP hD hS hA [0] [1, 2] rfl rfl (by decide) (by decide) [2, 0, 1] (by decide) (fun _ => rfl) (fun uG H locs hw hP hD hS => ?_)
  have hP : va_P D vwCl [kF h ((x * a) + (y * a1)) ((x * b) + (y * b1)) ((x * c) + (y * c1)) u v w, kF g a b c d e f, kF k a1 b1 c1 d1 e1 f1] H := hP
  have hD : va_D A [kF h ((x * a) + (y * a1)) ((x * b) + (y * b1)) ((x * c) + (y * c1)) u v w, kF g a b c d e f, kF k a1 b1 c1 d1 e1 f1] := hD
  clear hPc hDc
  refine lv_aload_n hx hb dX0_setTogether_49 rfl (lv_at hl 0 rfl) ?_
  refine lv_lload_n hx hb dX0_setTogether_50 rfl (lv_at hl 2 rfl) ?_
  refine lv_aload_n hx hb dX0_setTogether_51 rfl (lv_at hl 1 rfl) ?_
  refine va_get (D := D) (ci := 0) (v := .long d) (C := RX0) (T := TX0) (N := 6) hx hb hts k_2 hown hK.1 hP 1 rfl rfl 3 (by decide) k_5 (fun _ h9 => h9) rfl dX0_setTogether_52 ?_
  refine lv_lmul hx hb dX0_setTogether_55 ?_
  refine lv_lload hx hb dX0_setTogether_56 (lv_at hl 4 rfl) ?_
  refine lv_aload hx hb dX0_setTogether_58 (lv_at hl 3 rfl) ?_
  refine va_get (D := D) (ci := 0) (v := .long d1) (C := RX0) (T := TX0) (N := 6) hx hb hts k_2 hown hK.1 hP 2 rfl rfl 3 (by decide) k_5 (fun _ h9 => h9) rfl dX0_setTogether_60 ?_
  refine lv_lmul hx hb dX0_setTogether_63 ?_
  refine lv_ladd hx hb dX0_setTogether_64 ?_
  refine lv_lload_n hx hb dX0_setTogether_65 rfl (lv_at hl 2 rfl) ?_
  refine lv_aload_n hx hb dX0_setTogether_66 rfl (lv_at hl 1 rfl) ?_
  refine va_get (D := D) (ci := 0) (v := .long e) (C := RX0) (T := TX0) (N := 6) hx hb hts k_2 hown hK.1 hP 1 rfl rfl 4 (by decide) k_6 (fun _ h9 => h9) rfl dX0_setTogether_67 ?_
  refine lv_lmul hx hb dX0_setTogether_70 ?_
  refine lv_lload hx hb dX0_setTogether_71 (lv_at hl 4 rfl) ?_
  refine lv_aload hx hb dX0_setTogether_73 (lv_at hl 3 rfl) ?_
  refine va_get (D := D) (ci := 0) (v := .long e1) (C := RX0) (T := TX0) (N := 6) hx hb hts k_2 hown hK.1 hP 2 rfl rfl 4 (by decide) k_6 (fun _ h9 => h9) rfl dX0_setTogether_75 ?_
  refine lv_lmul hx hb dX0_setTogether_78 ?_
  refine lv_ladd hx hb dX0_setTogether_79 ?_
  refine lv_lload_n hx hb dX0_setTogether_80 rfl (lv_at hl 2 rfl) ?_
  refine lv_aload_n hx hb dX0_setTogether_81 rfl (lv_at hl 1 rfl) ?_
  refine va_get (D := D) (ci := 0) (v := .long f) (C := RX0) (T := TX0) (N := 6) hx hb hts k_2 hown hK.1 hP 1 rfl rfl 5 (by decide) k_7 (fun _ h9 => h9) rfl dX0_setTogether_82 ?_
  refine lv_lmul hx hb dX0_setTogether_85 ?_
  refine lv_lload hx hb dX0_setTogether_86 (lv_at hl 4 rfl) ?_
  refine lv_aload hx hb dX0_setTogether_88 (lv_at hl 3 rfl) ?_
  refine va_get (D := D) (ci := 0) (v := .long f1) (C := RX0) (T := TX0) (N := 6) hx hb hts k_2 hown hK.1 hP 2 rfl rfl 5 (by decide) k_7 (fun _ h9 => h9) rfl dX0_setTogether_90 ?_
  refine lv_lmul hx hb dX0_setTogether_93 ?_
  refine lv_ladd hx hb dX0_setTogether_94 ?_
  have hPc := hP.sub (ws' := [kF h ((x * a) + (y * a1)) ((x * b) + (y * b1)) ((x * c) + (y * c1)) u v w]) [0] rfl
  have hDc := hD.sub (ws' := [kF h ((x * a) + (y * a1)) ((x * b) + (y * b1)) ((x * c) + (y * c1)) u v w]) [0] (by decide) rfl
  refine cl_v (wc := [kF h ((x * a) + (y * a1)) ((x * b) + (y * b1)) ((x * c) + (y * c1)) u v w]) (wr := [kF g a b c d e f, kF k a1 b1 c1 d1 e1 f1]) (w1 := fun uu : Unit => [kF h ((x * a) + (y * a1)) ((x * b) + (y * b1)) ((x * c) + (y * c1)) ((x * d) + (y * d1)) ((x * e) + (y * e1)) ((x * f) + (y * f1))]) (wn := fun uu : Unit => [kF h ((x * a) + (y * a1)) ((x * b) + (y * b1)) ((x * c) + (y * c1)) ((x * d) + (y * d1)) ((x * e) + (y * e1)) ((x * f) + (y * f1)), kF g a b c d e f, kF k a1 b1 c1 d1 e1 f1]) (va_runV (As := [.long ((x * d) + (y * d1)), .long ((x * e) + (y * e1)), .long ((x * f) + (y * f1))]) (rest := []) ⟨hx, hb, hml, hown, hts⟩ (c_X0_setRest l D cI cJ h ((x * a) + (y * a1)) ((x * b) + (y * b1)) ((x * c) + (y * c1)) u v w ((x * d) + (y * d1)) ((x * e) + (y * e1)) ((x * f) + (y * f1)) _) (cwV 3 hts gX0_setTogether_X0_setRest rfl rfl rfl (by decide +kernel) ⟨Nat.le_of_ble_eq_true rfl, Nat.le_of_ble_eq_true rfl⟩) ⟨gd_blP, va_recv hK.1 hPc (ci := 0) (q0 := 0) rfl rfl, gd_prP hPc hK hDc⟩ rfl rfl hl.1 rfl (lv_room (Nat.le_of_ble_eq_true rfl)) dX0_setTogether_95 ⟨Nat.zero_le _, Nat.zero_le _⟩) hP hD hS hA [0] [1, 2] rfl rfl (by decide) (by decide) [2, 0, 1] (by decide) (fun _ => rfl) (fun uG H locs hw hP hD hS => ?_)
  have hP : va_P D vwCl [kF h ((x * a) + (y * a1)) ((x * b) + (y * b1)) ((x * c) + (y * c1)) ((x * d) + (y * d1)) ((x * e) + (y * e1)) ((x * f) + (y * f1)), kF g a b c d e f, kF k a1 b1 c1 d1 e1 f1] H := hP
  have hD : va_D A [kF h ((x * a) + (y * a1)) ((x * b) + (y * b1)) ((x * c) + (y * c1)) ((x * d) + (y * d1)) ((x * e) + (y * e1)) ((x * f) + (y * f1)), kF g a b c d e f, kF k a1 b1 c1 d1 e1 f1] := hD
  clear hPc hDc
  have he_0 : z0_setTogether_a a a1 x y = ((x * a) + (y * a1)) := by delta z0_setTogether_a; rfl
  have he_1 : z0_setTogether_b b b1 x y = ((x * b) + (y * b1)) := by delta z0_setTogether_b; rfl
  have he_2 : z0_setTogether_c c c1 x y = ((x * c) + (y * c1)) := by delta z0_setTogether_c; rfl
  have he_3 : z0_setTogether_d d d1 x y = ((x * d) + (y * d1)) := by delta z0_setTogether_d; rfl
  have he_4 : z0_setTogether_e e e1 x y = ((x * e) + (y * e1)) := by delta z0_setTogether_e; rfl
  have he_5 : z0_setTogether_f f f1 x y = ((x * f) + (y * f1)) := by delta z0_setTogether_f; rfl
  exact rt_v (w1 := fun uu : Unit => [kF h (z0_setTogether_a a a1 x y) (z0_setTogether_b b b1 x y) (z0_setTogether_c c c1 x y) (z0_setTogether_d d d1 x y) (z0_setTogether_e e e1 x y) (z0_setTogether_f f f1 x y), kF g a b c d e f, kF k a1 b1 c1 d1 e1 f1]) hx hb hr hlk hS dX0_setTogether_98 (()) trivial (by rw [he_0, he_1, he_2, he_3, he_4, he_5]; exact hP) (by rw [he_0, he_1, he_2, he_3, he_4, he_5]; exact hD)
def z0_setThrough_a (a : Int64) (b : Int64) (c : Int64) (d : Int64) (e : Int64) (f : Int64) (a1 : Int64) (b1 : Int64) (c1 : Int64) (d1 : Int64) (e1 : Int64) (f1 : Int64) (x : Int64) (y : Int64) (z : Int64) : Int64 := z0_setTogether_a a a1 (z0_valueAt a1 b1 c1 d1 e1 f1 x y z) (-(z0_valueAt a b c d e f x y z))
def z0_setThrough_b (a : Int64) (b : Int64) (c : Int64) (d : Int64) (e : Int64) (f : Int64) (a1 : Int64) (b1 : Int64) (c1 : Int64) (d1 : Int64) (e1 : Int64) (f1 : Int64) (x : Int64) (y : Int64) (z : Int64) : Int64 := z0_setTogether_b b b1 (z0_valueAt a1 b1 c1 d1 e1 f1 x y z) (-(z0_valueAt a b c d e f x y z))
def z0_setThrough_c (a : Int64) (b : Int64) (c : Int64) (d : Int64) (e : Int64) (f : Int64) (a1 : Int64) (b1 : Int64) (c1 : Int64) (d1 : Int64) (e1 : Int64) (f1 : Int64) (x : Int64) (y : Int64) (z : Int64) : Int64 := z0_setTogether_c c c1 (z0_valueAt a1 b1 c1 d1 e1 f1 x y z) (-(z0_valueAt a b c d e f x y z))
def z0_setThrough_d (a : Int64) (b : Int64) (c : Int64) (d : Int64) (e : Int64) (f : Int64) (a1 : Int64) (b1 : Int64) (c1 : Int64) (d1 : Int64) (e1 : Int64) (f1 : Int64) (x : Int64) (y : Int64) (z : Int64) : Int64 := z0_setTogether_d d d1 (z0_valueAt a1 b1 c1 d1 e1 f1 x y z) (-(z0_valueAt a b c d e f x y z))
def z0_setThrough_e (a : Int64) (b : Int64) (c : Int64) (d : Int64) (e : Int64) (f : Int64) (a1 : Int64) (b1 : Int64) (c1 : Int64) (d1 : Int64) (e1 : Int64) (f1 : Int64) (x : Int64) (y : Int64) (z : Int64) : Int64 := z0_setTogether_e e e1 (z0_valueAt a1 b1 c1 d1 e1 f1 x y z) (-(z0_valueAt a b c d e f x y z))
def z0_setThrough_f (a : Int64) (b : Int64) (c : Int64) (d : Int64) (e : Int64) (f : Int64) (a1 : Int64) (b1 : Int64) (c1 : Int64) (d1 : Int64) (e1 : Int64) (f1 : Int64) (x : Int64) (y : Int64) (z : Int64) : Int64 := z0_setTogether_f f f1 (z0_valueAt a1 b1 c1 d1 e1 f1 x y z) (-(z0_valueAt a b c d e f x y z))
set_option maxHeartbeats 4000000 in
set_option maxRecDepth 100000 in
/-- X0.setThrough -/
theorem c_X0_setThrough (l : Launch) (D : va_G) (cI cJ : ClassId) (h : Nat) (g : Nat) (k : Nat) (j : Nat) (r : Int64) (s : Int64) (t : Int64) (u : Int64) (v : Int64) (w : Int64) (a : Int64) (b : Int64) (c : Int64) (d : Int64) (e : Int64) (f : Int64) (a1 : Int64) (b1 : Int64) (c1 : Int64) (d1 : Int64) (e1 : Int64) (f1 : Int64) (x : Int64) (y : Int64) (z : Int64) : mw_C l yX0_setThrough wsX0_setThrough ({ frames := 2, cells := 0, slots := 0, locals := 52 }) D cI cJ [.ref h, .ref g, .ref k, .ref j] [kF h r s t u v w, kF g a b c d e f, kF k a1 b1 c1 d1 e1 f1, kT j x y z] (qe_v (fun _ : Unit => True) (fun uu => [kF h (z0_setThrough_a a b c d e f a1 b1 c1 d1 e1 f1 x y z) (z0_setThrough_b a b c d e f a1 b1 c1 d1 e1 f1 x y z) (z0_setThrough_c a b c d e f a1 b1 c1 d1 e1 f1 x y z) (z0_setThrough_d a b c d e f a1 b1 c1 d1 e1 f1 x y z) (z0_setThrough_e a b c d e f a1 b1 c1 d1 e1 f1 x y z) (z0_setThrough_f a b c d e f a1 b1 c1 d1 e1 f1 x y z), kF g a b c d e f, kF k a1 b1 c1 d1 e1 f1, kT j x y z])) := by
  refine mw_in (cc := cX0_setThrough) (lv := [(0, .ref h), (1, .ref g), (2, .ref k), (3, .ref j)]) (by decide) rfl (Nat.le_of_ble_eq_true rfl) rfl ?_
  intro pG eG sG mG below meth cG ls A hx hb hr hml hown hts hlk hin hP hK hD hA hS hl
  have hown : sG.vm.findClass RX0 = some mG.cls := hown
  refine lv_aload_n hx hb dX0_setThrough_0 rfl (lv_at hl 0 rfl) ?_
  refine lv_aload_n hx hb dX0_setThrough_1 rfl (lv_at hl 1 rfl) ?_
  refine lv_aload_n hx hb dX0_setThrough_2 rfl (lv_at hl 2 rfl) ?_
  refine lv_aload_n hx hb dX0_setThrough_3 rfl (lv_at hl 3 rfl) ?_
  have hPc := hP.sub (ws' := [kF k a1 b1 c1 d1 e1 f1, kT j x y z]) [2, 3] rfl
  refine cr_l (va_runV (As := [.ref j]) (rest := [.ref g, .ref h]) ⟨hx, hb, hml, hown, hts⟩ (c_X0_valueAt l D cI cJ k j a1 b1 c1 d1 e1 f1 x y z) (cwV 1 hts gX0_setThrough_X0_valueAt rfl rfl rfl (by decide +kernel) ⟨Nat.le_of_ble_eq_true rfl, Nat.le_of_ble_eq_true rfl⟩) ⟨gd_blR, va_recv hK.1 hPc (ci := 0) (q0 := 0) rfl rfl, gd_prR hPc hK⟩ rfl rfl hl.1 rfl (lv_room (Nat.le_of_ble_eq_true rfl)) dX0_setThrough_4 ⟨Nat.zero_le _, Nat.zero_le _⟩) (fun r_4 hw => ?_)
  subst hw
  clear hPc
  refine lv_aload_n hx hb dX0_setThrough_7 rfl (lv_at hl 2 rfl) ?_
  refine lv_aload_n hx hb dX0_setThrough_8 rfl (lv_at hl 1 rfl) ?_
  refine lv_aload_n hx hb dX0_setThrough_9 rfl (lv_at hl 3 rfl) ?_
  have hPc := hP.sub (ws' := [kF g a b c d e f, kT j x y z]) [1, 3] rfl
  refine cr_l (va_runV (As := [.ref j]) (rest := [.ref k, .long (z0_valueAt a1 b1 c1 d1 e1 f1 x y z), .ref g, .ref h]) ⟨hx, hb, hml, hown, hts⟩ (c_X0_valueAt l D cI cJ g j a b c d e f x y z) (cwV 1 hts gX0_setThrough_X0_valueAt rfl rfl rfl (by decide +kernel) ⟨Nat.le_of_ble_eq_true rfl, Nat.le_of_ble_eq_true rfl⟩) ⟨gd_blR, va_recv hK.1 hPc (ci := 0) (q0 := 0) rfl rfl, gd_prR hPc hK⟩ rfl rfl hl.1 rfl (lv_room (Nat.le_of_ble_eq_true rfl)) dX0_setThrough_10 ⟨Nat.zero_le _, Nat.zero_le _⟩) (fun r_10 hw => ?_)
  subst hw
  clear hPc
  refine lv_lneg hx hb dX0_setThrough_13 ?_
  have hPc := hP.sub (ws' := [kF h r s t u v w, kF g a b c d e f, kF k a1 b1 c1 d1 e1 f1]) [0, 1, 2] rfl
  have hDc := hD.sub (ws' := [kF h r s t u v w, kF g a b c d e f, kF k a1 b1 c1 d1 e1 f1]) [0, 1, 2] (by decide) rfl
  refine cl_v (wc := [kF h r s t u v w, kF g a b c d e f, kF k a1 b1 c1 d1 e1 f1]) (wr := [kT j x y z]) (w1 := fun uu : Unit => [kF h (z0_setTogether_a a a1 (z0_valueAt a1 b1 c1 d1 e1 f1 x y z) (-(z0_valueAt a b c d e f x y z))) (z0_setTogether_b b b1 (z0_valueAt a1 b1 c1 d1 e1 f1 x y z) (-(z0_valueAt a b c d e f x y z))) (z0_setTogether_c c c1 (z0_valueAt a1 b1 c1 d1 e1 f1 x y z) (-(z0_valueAt a b c d e f x y z))) (z0_setTogether_d d d1 (z0_valueAt a1 b1 c1 d1 e1 f1 x y z) (-(z0_valueAt a b c d e f x y z))) (z0_setTogether_e e e1 (z0_valueAt a1 b1 c1 d1 e1 f1 x y z) (-(z0_valueAt a b c d e f x y z))) (z0_setTogether_f f f1 (z0_valueAt a1 b1 c1 d1 e1 f1 x y z) (-(z0_valueAt a b c d e f x y z))), kF g a b c d e f, kF k a1 b1 c1 d1 e1 f1]) (wn := fun uu : Unit => [kF h (z0_setTogether_a a a1 (z0_valueAt a1 b1 c1 d1 e1 f1 x y z) (-(z0_valueAt a b c d e f x y z))) (z0_setTogether_b b b1 (z0_valueAt a1 b1 c1 d1 e1 f1 x y z) (-(z0_valueAt a b c d e f x y z))) (z0_setTogether_c c c1 (z0_valueAt a1 b1 c1 d1 e1 f1 x y z) (-(z0_valueAt a b c d e f x y z))) (z0_setTogether_d d d1 (z0_valueAt a1 b1 c1 d1 e1 f1 x y z) (-(z0_valueAt a b c d e f x y z))) (z0_setTogether_e e e1 (z0_valueAt a1 b1 c1 d1 e1 f1 x y z) (-(z0_valueAt a b c d e f x y z))) (z0_setTogether_f f f1 (z0_valueAt a1 b1 c1 d1 e1 f1 x y z) (-(z0_valueAt a b c d e f x y z))), kF g a b c d e f, kF k a1 b1 c1 d1 e1 f1, kT j x y z]) (va_runV (As := [.ref g, .long (z0_valueAt a1 b1 c1 d1 e1 f1 x y z), .ref k, .long (-(z0_valueAt a b c d e f x y z))]) (rest := []) ⟨hx, hb, hml, hown, hts⟩ (c_X0_setTogether l D cI cJ h g k r s t u v w a b c d e f a1 b1 c1 d1 e1 f1 (z0_valueAt a1 b1 c1 d1 e1 f1 x y z) (-(z0_valueAt a b c d e f x y z)) _) (cwV 4 hts gX0_setThrough_X0_setTogether rfl rfl rfl (by decide +kernel) ⟨Nat.le_of_ble_eq_true rfl, Nat.le_of_ble_eq_true rfl⟩) ⟨gd_blP, va_recv hK.1 hPc (ci := 0) (q0 := 0) rfl rfl, gd_prP hPc hK hDc⟩ rfl rfl hl.1 rfl (lv_room (Nat.le_of_ble_eq_true rfl)) dX0_setThrough_14 ⟨Nat.zero_le _, Nat.zero_le _⟩) hP hD hS hA [0, 1, 2] [3] rfl rfl (by decide) (by decide) [1, 2, 3, 0] (by decide) (fun _ => rfl) (fun uG H locs hw hP hD hS => ?_)
  have hP : va_P D vwCl [kF h (z0_setTogether_a a a1 (z0_valueAt a1 b1 c1 d1 e1 f1 x y z) (-(z0_valueAt a b c d e f x y z))) (z0_setTogether_b b b1 (z0_valueAt a1 b1 c1 d1 e1 f1 x y z) (-(z0_valueAt a b c d e f x y z))) (z0_setTogether_c c c1 (z0_valueAt a1 b1 c1 d1 e1 f1 x y z) (-(z0_valueAt a b c d e f x y z))) (z0_setTogether_d d d1 (z0_valueAt a1 b1 c1 d1 e1 f1 x y z) (-(z0_valueAt a b c d e f x y z))) (z0_setTogether_e e e1 (z0_valueAt a1 b1 c1 d1 e1 f1 x y z) (-(z0_valueAt a b c d e f x y z))) (z0_setTogether_f f f1 (z0_valueAt a1 b1 c1 d1 e1 f1 x y z) (-(z0_valueAt a b c d e f x y z))), kF g a b c d e f, kF k a1 b1 c1 d1 e1 f1, kT j x y z] H := hP
  have hD : va_D A [kF h (z0_setTogether_a a a1 (z0_valueAt a1 b1 c1 d1 e1 f1 x y z) (-(z0_valueAt a b c d e f x y z))) (z0_setTogether_b b b1 (z0_valueAt a1 b1 c1 d1 e1 f1 x y z) (-(z0_valueAt a b c d e f x y z))) (z0_setTogether_c c c1 (z0_valueAt a1 b1 c1 d1 e1 f1 x y z) (-(z0_valueAt a b c d e f x y z))) (z0_setTogether_d d d1 (z0_valueAt a1 b1 c1 d1 e1 f1 x y z) (-(z0_valueAt a b c d e f x y z))) (z0_setTogether_e e e1 (z0_valueAt a1 b1 c1 d1 e1 f1 x y z) (-(z0_valueAt a b c d e f x y z))) (z0_setTogether_f f f1 (z0_valueAt a1 b1 c1 d1 e1 f1 x y z) (-(z0_valueAt a b c d e f x y z))), kF g a b c d e f, kF k a1 b1 c1 d1 e1 f1, kT j x y z] := hD
  clear hPc hDc
  have he_0 : z0_setThrough_a a b c d e f a1 b1 c1 d1 e1 f1 x y z = z0_setTogether_a a a1 (z0_valueAt a1 b1 c1 d1 e1 f1 x y z) (-(z0_valueAt a b c d e f x y z)) := by delta z0_setThrough_a; rfl
  have he_1 : z0_setThrough_b a b c d e f a1 b1 c1 d1 e1 f1 x y z = z0_setTogether_b b b1 (z0_valueAt a1 b1 c1 d1 e1 f1 x y z) (-(z0_valueAt a b c d e f x y z)) := by delta z0_setThrough_b; rfl
  have he_2 : z0_setThrough_c a b c d e f a1 b1 c1 d1 e1 f1 x y z = z0_setTogether_c c c1 (z0_valueAt a1 b1 c1 d1 e1 f1 x y z) (-(z0_valueAt a b c d e f x y z)) := by delta z0_setThrough_c; rfl
  have he_3 : z0_setThrough_d a b c d e f a1 b1 c1 d1 e1 f1 x y z = z0_setTogether_d d d1 (z0_valueAt a1 b1 c1 d1 e1 f1 x y z) (-(z0_valueAt a b c d e f x y z)) := by delta z0_setThrough_d; rfl
  have he_4 : z0_setThrough_e a b c d e f a1 b1 c1 d1 e1 f1 x y z = z0_setTogether_e e e1 (z0_valueAt a1 b1 c1 d1 e1 f1 x y z) (-(z0_valueAt a b c d e f x y z)) := by delta z0_setThrough_e; rfl
  have he_5 : z0_setThrough_f a b c d e f a1 b1 c1 d1 e1 f1 x y z = z0_setTogether_f f f1 (z0_valueAt a1 b1 c1 d1 e1 f1 x y z) (-(z0_valueAt a b c d e f x y z)) := by delta z0_setThrough_f; rfl
  exact rt_v (w1 := fun uu : Unit => [kF h (z0_setThrough_a a b c d e f a1 b1 c1 d1 e1 f1 x y z) (z0_setThrough_b a b c d e f a1 b1 c1 d1 e1 f1 x y z) (z0_setThrough_c a b c d e f a1 b1 c1 d1 e1 f1 x y z) (z0_setThrough_d a b c d e f a1 b1 c1 d1 e1 f1 x y z) (z0_setThrough_e a b c d e f a1 b1 c1 d1 e1 f1 x y z) (z0_setThrough_f a b c d e f a1 b1 c1 d1 e1 f1 x y z), kF g a b c d e f, kF k a1 b1 c1 d1 e1 f1, kT j x y z]) hx hb hr hlk hS dX0_setThrough_17 (()) trivial (by rw [he_0, he_1, he_2, he_3, he_4, he_5]; exact hP) (by rw [he_0, he_1, he_2, he_3, he_4, he_5]; exact hD)
def z0_setLines_a (x : Int64) (x1 : Int64) : Int64 := (x * x1)
def z0_setLines_b (x : Int64) (y : Int64) (x1 : Int64) (y1 : Int64) : Int64 := ((x * y1) + (y * x1))
def z0_setLines_c (y : Int64) (y1 : Int64) : Int64 := (y * y1)
def z0_setLines_d (x : Int64) (z : Int64) (x1 : Int64) (z1 : Int64) : Int64 := ((x * z1) + (z * x1))
def z0_setLines_e (y : Int64) (z : Int64) (y1 : Int64) (z1 : Int64) : Int64 := ((y * z1) + (z * y1))
def z0_setLines_f (z : Int64) (z1 : Int64) : Int64 := (z * z1)
set_option maxHeartbeats 4000000 in
set_option maxRecDepth 100000 in
/-- X0.setLines -/
theorem c_X0_setLines (l : Launch) (D : va_G) (cI cJ : ClassId) (h : Nat) (g : Nat) (k : Nat) (r : Int64) (s : Int64) (t : Int64) (u : Int64) (v : Int64) (w : Int64) (x : Int64) (y : Int64) (z : Int64) (x1 : Int64) (y1 : Int64) (z1 : Int64) : mw_C l yX0_setLines wsX0_setLines ({ frames := 1, cells := 0, slots := 0, locals := 26 }) D cI cJ [.ref h, .ref g, .ref k] [kF h r s t u v w, kT g x y z, kT k x1 y1 z1] (qe_v (fun _ : Unit => True) (fun uu => [kF h (z0_setLines_a x x1) (z0_setLines_b x y x1 y1) (z0_setLines_c y y1) (z0_setLines_d x z x1 z1) (z0_setLines_e y z y1 z1) (z0_setLines_f z z1), kT g x y z, kT k x1 y1 z1])) := by
  refine mw_in (cc := cX0_setLines) (lv := [(0, .ref h), (1, .ref g), (2, .ref k)]) (by decide) rfl (Nat.le_of_ble_eq_true rfl) rfl ?_
  intro pG eG sG mG below meth cG ls A hx hb hr hml hown hts hlk hin hP hK hD hA hS hl
  have hown : sG.vm.findClass RX0 = some mG.cls := hown
  have k_1 : ∀ w ∈ wsX30, w ∈ wsX0_setLines := by decide +kernel
  refine lv_aload_n hx hb dX0_setLines_0 rfl (lv_at hl 0 rfl) ?_
  refine lv_aload_n hx hb dX0_setLines_1 rfl (lv_at hl 1 rfl) ?_
  refine va_getN (D := D) (ci := 3) (v := .long x) (C := RX3) (T := TX3) (N := 3) hx hb hts k_1 hown hK.1 hP 1 rfl rfl 0 (by decide) (nw_f hK.2 3 rfl) (fun _ h9 => h9) rfl dX0_setLines_2 ?_
  refine lv_aload_n hx hb dX0_setLines_5 rfl (lv_at hl 2 rfl) ?_
  refine va_getN (D := D) (ci := 3) (v := .long x1) (C := RX3) (T := TX3) (N := 3) hx hb hts k_1 hown hK.1 hP 2 rfl rfl 0 (by decide) (nw_f hK.2 3 rfl) (fun _ h9 => h9) rfl dX0_setLines_6 ?_
  refine lv_lmul hx hb dX0_setLines_9 ?_
  refine lv_aload_n hx hb dX0_setLines_10 rfl (lv_at hl 1 rfl) ?_
  refine va_getN (D := D) (ci := 3) (v := .long x) (C := RX3) (T := TX3) (N := 3) hx hb hts k_1 hown hK.1 hP 1 rfl rfl 0 (by decide) (nw_f hK.2 3 rfl) (fun _ h9 => h9) rfl dX0_setLines_11 ?_
  refine lv_aload_n hx hb dX0_setLines_14 rfl (lv_at hl 2 rfl) ?_
  refine va_getN (D := D) (ci := 3) (v := .long y1) (C := RX3) (T := TX3) (N := 3) hx hb hts k_1 hown hK.1 hP 2 rfl rfl 1 (by decide) (nw_f hK.2 6 rfl) (fun _ h9 => h9) rfl dX0_setLines_15 ?_
  refine lv_lmul hx hb dX0_setLines_18 ?_
  refine lv_aload_n hx hb dX0_setLines_19 rfl (lv_at hl 1 rfl) ?_
  refine va_getN (D := D) (ci := 3) (v := .long y) (C := RX3) (T := TX3) (N := 3) hx hb hts k_1 hown hK.1 hP 1 rfl rfl 1 (by decide) (nw_f hK.2 6 rfl) (fun _ h9 => h9) rfl dX0_setLines_20 ?_
  refine lv_aload_n hx hb dX0_setLines_23 rfl (lv_at hl 2 rfl) ?_
  refine va_getN (D := D) (ci := 3) (v := .long x1) (C := RX3) (T := TX3) (N := 3) hx hb hts k_1 hown hK.1 hP 2 rfl rfl 0 (by decide) (nw_f hK.2 3 rfl) (fun _ h9 => h9) rfl dX0_setLines_24 ?_
  refine lv_lmul hx hb dX0_setLines_27 ?_
  refine lv_ladd hx hb dX0_setLines_28 ?_
  refine lv_aload_n hx hb dX0_setLines_29 rfl (lv_at hl 1 rfl) ?_
  refine va_getN (D := D) (ci := 3) (v := .long y) (C := RX3) (T := TX3) (N := 3) hx hb hts k_1 hown hK.1 hP 1 rfl rfl 1 (by decide) (nw_f hK.2 6 rfl) (fun _ h9 => h9) rfl dX0_setLines_30 ?_
  refine lv_aload_n hx hb dX0_setLines_33 rfl (lv_at hl 2 rfl) ?_
  refine va_getN (D := D) (ci := 3) (v := .long y1) (C := RX3) (T := TX3) (N := 3) hx hb hts k_1 hown hK.1 hP 2 rfl rfl 1 (by decide) (nw_f hK.2 6 rfl) (fun _ h9 => h9) rfl dX0_setLines_34 ?_
  refine lv_lmul hx hb dX0_setLines_37 ?_
  have hPc := hP.sub (ws' := [kF h r s t u v w]) [0] rfl
  have hDc := hD.sub (ws' := [kF h r s t u v w]) [0] (by decide) rfl
  refine cl_v (wc := [kF h r s t u v w]) (wr := [kT g x y z, kT k x1 y1 z1]) (w1 := fun uu : Unit => [kF h (x * x1) ((x * y1) + (y * x1)) (y * y1) u v w]) (wn := fun uu : Unit => [kF h (x * x1) ((x * y1) + (y * x1)) (y * y1) u v w, kT g x y z, kT k x1 y1 z1]) (va_runV (As := [.long (x * x1), .long ((x * y1) + (y * x1)), .long (y * y1)]) (rest := []) ⟨hx, hb, hml, hown, hts⟩ (c_X0_setQuadratic l D cI cJ h r s t u v w (x * x1) ((x * y1) + (y * x1)) (y * y1) _) (cwV 3 hts gX0_setLines_X0_setQuadratic rfl rfl rfl (by decide +kernel) ⟨Nat.le_of_ble_eq_true rfl, Nat.le_of_ble_eq_true rfl⟩) ⟨gd_blP, va_recv hK.1 hPc (ci := 0) (q0 := 0) rfl rfl, gd_prP hPc hK hDc⟩ rfl rfl hl.1 rfl (lv_room (Nat.le_of_ble_eq_true rfl)) dX0_setLines_38 ⟨Nat.zero_le _, Nat.zero_le _⟩) hP hD hS hA [0] [1, 2] rfl rfl (by decide) (by decide) [2, 0, 1] (by decide) (fun _ => rfl) (fun uG H locs hw hP hD hS => ?_)
  have hP : va_P D vwCl [kF h (x * x1) ((x * y1) + (y * x1)) (y * y1) u v w, kT g x y z, kT k x1 y1 z1] H := hP
  have hD : va_D A [kF h (x * x1) ((x * y1) + (y * x1)) (y * y1) u v w, kT g x y z, kT k x1 y1 z1] := hD
  clear hPc hDc
  refine lv_aload_n hx hb dX0_setLines_41 rfl (lv_at hl 0 rfl) ?_
  refine lv_aload_n hx hb dX0_setLines_42 rfl (lv_at hl 1 rfl) ?_
  refine va_getN (D := D) (ci := 3) (v := .long x) (C := RX3) (T := TX3) (N := 3) hx hb hts k_1 hown hK.1 hP 1 rfl rfl 0 (by decide) (nw_f hK.2 3 rfl) (fun _ h9 => h9) rfl dX0_setLines_43 ?_
  refine lv_aload_n hx hb dX0_setLines_46 rfl (lv_at hl 2 rfl) ?_
  refine va_getN (D := D) (ci := 3) (v := .long z1) (C := RX3) (T := TX3) (N := 3) hx hb hts k_1 hown hK.1 hP 2 rfl rfl 2 (by decide) (nw_f hK.2 9 rfl) (fun _ h9 => h9) rfl dX0_setLines_47 ?_
  refine lv_lmul hx hb dX0_setLines_50 ?_
  refine lv_aload_n hx hb dX0_setLines_51 rfl (lv_at hl 1 rfl) ?_
  refine va_getN (D := D) (ci := 3) (v := .long z) (C := RX3) (T := TX3) (N := 3) hx hb hts k_1 hown hK.1 hP 1 rfl rfl 2 (by decide) (nw_f hK.2 9 rfl) (fun _ h9 => h9) rfl dX0_setLines_52 ?_
  refine lv_aload_n hx hb dX0_setLines_55 rfl (lv_at hl 2 rfl) ?_
  refine va_getN (D := D) (ci := 3) (v := .long x1) (C := RX3) (T := TX3) (N := 3) hx hb hts k_1 hown hK.1 hP 2 rfl rfl 0 (by decide) (nw_f hK.2 3 rfl) (fun _ h9 => h9) rfl dX0_setLines_56 ?_
  refine lv_lmul hx hb dX0_setLines_59 ?_
  refine lv_ladd hx hb dX0_setLines_60 ?_
  refine lv_aload_n hx hb dX0_setLines_61 rfl (lv_at hl 1 rfl) ?_
  refine va_getN (D := D) (ci := 3) (v := .long y) (C := RX3) (T := TX3) (N := 3) hx hb hts k_1 hown hK.1 hP 1 rfl rfl 1 (by decide) (nw_f hK.2 6 rfl) (fun _ h9 => h9) rfl dX0_setLines_62 ?_
  refine lv_aload_n hx hb dX0_setLines_65 rfl (lv_at hl 2 rfl) ?_
  refine va_getN (D := D) (ci := 3) (v := .long z1) (C := RX3) (T := TX3) (N := 3) hx hb hts k_1 hown hK.1 hP 2 rfl rfl 2 (by decide) (nw_f hK.2 9 rfl) (fun _ h9 => h9) rfl dX0_setLines_66 ?_
  refine lv_lmul hx hb dX0_setLines_69 ?_
  refine lv_aload_n hx hb dX0_setLines_70 rfl (lv_at hl 1 rfl) ?_
  refine va_getN (D := D) (ci := 3) (v := .long z) (C := RX3) (T := TX3) (N := 3) hx hb hts k_1 hown hK.1 hP 1 rfl rfl 2 (by decide) (nw_f hK.2 9 rfl) (fun _ h9 => h9) rfl dX0_setLines_71 ?_
  refine lv_aload_n hx hb dX0_setLines_74 rfl (lv_at hl 2 rfl) ?_
  refine va_getN (D := D) (ci := 3) (v := .long y1) (C := RX3) (T := TX3) (N := 3) hx hb hts k_1 hown hK.1 hP 2 rfl rfl 1 (by decide) (nw_f hK.2 6 rfl) (fun _ h9 => h9) rfl dX0_setLines_75 ?_
  refine lv_lmul hx hb dX0_setLines_78 ?_
  refine lv_ladd hx hb dX0_setLines_79 ?_
  refine lv_aload_n hx hb dX0_setLines_80 rfl (lv_at hl 1 rfl) ?_
  refine va_getN (D := D) (ci := 3) (v := .long z) (C := RX3) (T := TX3) (N := 3) hx hb hts k_1 hown hK.1 hP 1 rfl rfl 2 (by decide) (nw_f hK.2 9 rfl) (fun _ h9 => h9) rfl dX0_setLines_81 ?_
  refine lv_aload_n hx hb dX0_setLines_84 rfl (lv_at hl 2 rfl) ?_
  refine va_getN (D := D) (ci := 3) (v := .long z1) (C := RX3) (T := TX3) (N := 3) hx hb hts k_1 hown hK.1 hP 2 rfl rfl 2 (by decide) (nw_f hK.2 9 rfl) (fun _ h9 => h9) rfl dX0_setLines_85 ?_
  refine lv_lmul hx hb dX0_setLines_88 ?_
  have hPc := hP.sub (ws' := [kF h (x * x1) ((x * y1) + (y * x1)) (y * y1) u v w]) [0] rfl
  have hDc := hD.sub (ws' := [kF h (x * x1) ((x * y1) + (y * x1)) (y * y1) u v w]) [0] (by decide) rfl
  refine cl_v (wc := [kF h (x * x1) ((x * y1) + (y * x1)) (y * y1) u v w]) (wr := [kT g x y z, kT k x1 y1 z1]) (w1 := fun uu : Unit => [kF h (x * x1) ((x * y1) + (y * x1)) (y * y1) ((x * z1) + (z * x1)) ((y * z1) + (z * y1)) (z * z1)]) (wn := fun uu : Unit => [kF h (x * x1) ((x * y1) + (y * x1)) (y * y1) ((x * z1) + (z * x1)) ((y * z1) + (z * y1)) (z * z1), kT g x y z, kT k x1 y1 z1]) (va_runV (As := [.long ((x * z1) + (z * x1)), .long ((y * z1) + (z * y1)), .long (z * z1)]) (rest := []) ⟨hx, hb, hml, hown, hts⟩ (c_X0_setRest l D cI cJ h (x * x1) ((x * y1) + (y * x1)) (y * y1) u v w ((x * z1) + (z * x1)) ((y * z1) + (z * y1)) (z * z1) _) (cwV 3 hts gX0_setLines_X0_setRest rfl rfl rfl (by decide +kernel) ⟨Nat.le_of_ble_eq_true rfl, Nat.le_of_ble_eq_true rfl⟩) ⟨gd_blP, va_recv hK.1 hPc (ci := 0) (q0 := 0) rfl rfl, gd_prP hPc hK hDc⟩ rfl rfl hl.1 rfl (lv_room (Nat.le_of_ble_eq_true rfl)) dX0_setLines_89 ⟨Nat.zero_le _, Nat.zero_le _⟩) hP hD hS hA [0] [1, 2] rfl rfl (by decide) (by decide) [2, 0, 1] (by decide) (fun _ => rfl) (fun uG H locs hw hP hD hS => ?_)
  have hP : va_P D vwCl [kF h (x * x1) ((x * y1) + (y * x1)) (y * y1) ((x * z1) + (z * x1)) ((y * z1) + (z * y1)) (z * z1), kT g x y z, kT k x1 y1 z1] H := hP
  have hD : va_D A [kF h (x * x1) ((x * y1) + (y * x1)) (y * y1) ((x * z1) + (z * x1)) ((y * z1) + (z * y1)) (z * z1), kT g x y z, kT k x1 y1 z1] := hD
  clear hPc hDc
  have he_0 : z0_setLines_a x x1 = (x * x1) := by delta z0_setLines_a; rfl
  have he_1 : z0_setLines_b x y x1 y1 = ((x * y1) + (y * x1)) := by delta z0_setLines_b; rfl
  have he_2 : z0_setLines_c y y1 = (y * y1) := by delta z0_setLines_c; rfl
  have he_3 : z0_setLines_d x z x1 z1 = ((x * z1) + (z * x1)) := by delta z0_setLines_d; rfl
  have he_4 : z0_setLines_e y z y1 z1 = ((y * z1) + (z * y1)) := by delta z0_setLines_e; rfl
  have he_5 : z0_setLines_f z z1 = (z * z1) := by delta z0_setLines_f; rfl
  exact rt_v (w1 := fun uu : Unit => [kF h (z0_setLines_a x x1) (z0_setLines_b x y x1 y1) (z0_setLines_c y y1) (z0_setLines_d x z x1 z1) (z0_setLines_e y z y1 z1) (z0_setLines_f z z1), kT g x y z, kT k x1 y1 z1]) hx hb hr hlk hS dX0_setLines_92 (()) trivial (by rw [he_0, he_1, he_2, he_3, he_4, he_5]; exact hP) (by rw [he_0, he_1, he_2, he_3, he_4, he_5]; exact hD)
