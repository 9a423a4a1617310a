-- laid by wip/whole/gen
def ok_i (i : Int32) : Prop := 0 ≤ i.toInt ∧ i.toInt < 60
def n_ok (n : Int32) : Prop := 0 ≤ n.toInt ∧ n.toInt ≤ 60
theorem ix3k {i k : Int32} (h : ok_i i) (hk : 0 ≤ k.toInt ∧ k.toInt < 3) : vp_in (3 * i + k) 180 := by
  obtain ⟨h0, h1⟩ := h
  have z3 : (3 : Int32).toInt = 3 := by decide
  have hm := i32_mul (a := 3) (b := i) z3 rfl (by omega) (by omega)
  have ha := i32_add (a := 3 * i) (b := k) hm rfl (by omega) (by omega)
  rw [vp_in_iff, ha]
  omega
theorem ix6k {i k : Int32} (h : ok_i i) (hk : 0 ≤ k.toInt ∧ k.toInt < 6) : vp_in (6 * i + k) 360 := by
  obtain ⟨h0, h1⟩ := h
  have z3 : (6 : Int32).toInt = 6 := by decide
  have hm := i32_mul (a := 6) (b := i) z3 rfl (by omega) (by omega)
  have ha := i32_add (a := 6 * i) (b := k) hm rfl (by omega) (by omega)
  rw [vp_in_iff, ha]
  omega
theorem ix3l {i : Int32} (h : ok_i i) (k : Int32) (hk : 0 ≤ k.toInt ∧ k.toInt < 3) : vp_in (3 * i + k) 180 := ix3k h hk
theorem ix6l {i : Int32} (h : ok_i i) (k : Int32) (hk : 0 ≤ k.toInt ∧ k.toInt < 6) : vp_in (6 * i + k) 360 := ix6k h hk
theorem ix3z {i : Int32} (h : ok_i i) : vp_in (3 * i) 180 := by
  have := ix3l h 0 (by decide)
  rwa [Int32.add_zero] at this
theorem ix6z {i : Int32} (h : ok_i i) : vp_in (6 * i) 360 := by
  have := ix6l h 0 (by decide)
  rwa [Int32.add_zero] at this
theorem in5 {j : Int32} (h : vp_in j 5) : j.toNatClampNeg < 5 := Nat.not_le.mp fun q => h (Or.inr q)
theorem z5_in_iff {x a b : Int64} (h : ¬ z5_in x a b = 0) : a.toInt ≤ x.toInt ∧ x.toInt ≤ b.toInt := by
  unfold z5_in at h
  by_cases c1 : x < a
  · rw [if_pos c1] at h; exact absurd rfl h
  · rw [if_neg c1] at h
    by_cases c2 : b < x
    · rw [if_pos c2] at h; exact absurd rfl h
    · rw [Int64.lt_iff_toInt_lt] at c1 c2
      omega
theorem i32_64 (x : Int32) : x.toInt64.toInt = x.toInt := Int32.toInt_toInt64 x
theorem ok_of {n i : Int32} (hn : n_ok n) (h : ¬ z5_in i.toInt64 0 ((n - 1).toInt64) = 0) : ok_i i := by
  obtain ⟨h0, h1⟩ := z5_in_iff h
  rw [i32_64] at h0
  rw [i32_64, i32_64] at h1
  have z0 : (0 : Int64).toInt = 0 := by decide
  have z1 : (1 : Int32).toInt = 1 := by decide
  obtain ⟨a, b⟩ := hn
  have e : (n - 1).toInt = n.toInt - 1 := by
    rw [Int32.toInt_sub, z1]
    exact Int.bmod_eq_of_le (by omega) (by omega)
  rw [z0] at h0
  rw [e] at h1
  exact ⟨h0, by omega⟩
theorem ok_n {n : Int32} (hn : n_ok n) (h : ¬ n = 60) : ok_i n := by
  obtain ⟨a, b⟩ := hn
  have z : (60 : Int32).toInt = 60 := by decide
  have : n.toInt ≠ 60 := fun q => h (Int32.toInt_inj.mp (q.trans z.symm))
  exact ⟨a, by omega⟩
theorem k_of3 {k : Int32} (h : ¬ z5_in k.toInt64 0 2 = 0) : 0 ≤ k.toInt ∧ k.toInt < 3 := by
  have h := z5_in_iff h
  rw [i32_64, show (0 : Int64).toInt = 0 by decide, show (2 : Int64).toInt = 2 by decide] at h
  omega
theorem k_of6 {k : Int32} (h : ¬ z5_in k.toInt64 0 5 = 0) : 0 ≤ k.toInt ∧ k.toInt < 6 := by
  have h := z5_in_iff h
  rw [i32_64, show (0 : Int64).toInt = 0 by decide, show (5 : Int64).toInt = 5 by decide] at h
  omega
theorem in_out {k : Int32} (h0 : ¬ k = 0) (h1 : ¬ k = 1) (h2 : ¬ k = 2) : z5_in k.toInt64 0 2 = 0 := by
  by_cases h : z5_in k.toInt64 0 2 = 0
  · exact h
  · have := k_of3 h
    rcases sw_out h0 h1 h2 with q | q <;> omega
theorem in_out2 {k : Int32} (h1 : ¬ k = 1) (h2 : ¬ k = 2) : z5_in k.toInt64 1 2 = 0 := by
  by_cases h : z5_in k.toInt64 1 2 = 0
  · exact h
  · have h := z5_in_iff h
    rw [i32_64, show (1 : Int64).toInt = 1 by decide, show (2 : Int64).toInt = 2 by decide] at h
    have z1 : (1 : Int32).toInt = 1 := by decide
    have z2 : (2 : Int32).toInt = 2 := by decide
    have a1 : k.toInt ≠ 1 := fun q => h1 (Int32.toInt_inj.mp (q.trans z1.symm))
    have a2 : k.toInt ≠ 2 := fun q => h2 (Int32.toInt_inj.mp (q.trans z2.symm))
    omega
def z5_isOf_0 (gm : Nat → Int32) (i : Int32) : Int32 := z5_in i.toInt64 0 (((gm 0) - 1).toInt64)
set_option maxHeartbeats 4000000 in
set_option maxRecDepth 100000 in
/-- X5.isOf -/
theorem c_X5_isOf_0 (l : Launch) (D : va_G) (cI cJ : ClassId) (o : Nat) (mP : Nat) (mL : Nat) (mC : Nat) (mN : Nat) (mF : Nat) (mR : Nat) (mD : Nat) (mV : Nat) (mX : Nat) (mA : Nat) (mK : Nat) (mT : Nat) (mU : Nat) (mH : Nat) (mI : Nat) (cm : Int32) (pm : Int32) (gm : Nat → Int32) (i : Int32) : mr_C l yX5_isOf wsX5_isOf ({ frames := 1, cells := 0, slots := 0, locals := 25 }) D cI cJ [.ref o, .int 0, .int i] [kM o mP mL mC mN mF mR mD mV mX mA mK cm mT pm mU mH mI, kA mN cI 3 gm] (vp_Si (fun r : Int32 => r = z5_isOf_0 gm i)) := by
  refine mr_in (cc := cX5_isOf) (lv := [(0, .ref o), (1, .int 0), (2, .int i)]) (by decide) rfl (Nat.le_of_ble_eq_true rfl) rfl ?_
  intro pG eG sG mG below meth cG ls hx hb hr hml hown hts hlk hP hK hl
  have hown : sG.vm.findClass RX5 = some mG.cls := hown
  have k_1 := hts (.fieldLink RX5 19 "ConicRowsModel" "many" "[I") (by decide +kernel)
  have k_2 : ∀ w ∈ wsX50, w ∈ wsX5_isOf := by decide +kernel
  refine lv_iload_n hx hb dX5_isOf_0 rfl (lv_at hl 2 rfl) ?_
  refine lv_i2l hx hb dX5_isOf_1 rfl ?_
  refine lv_lconst (v := 0) hx hb dX5_isOf_2 (by decide) ?_
  refine lv_aload_n hx hb dX5_isOf_3 rfl (lv_at hl 0 rfl) ?_
  refine va_get (D := D) (ci := 5) (v := .ref mN) (C := RX5) (T := TX5) (N := 17) hx hb hts k_2 hown hK.1 hP 0 rfl rfl 3 (by decide) k_1 (fun _ h9 => h9) rfl dX5_isOf_4 ?_
  refine lv_iload_n hx hb dX5_isOf_7 rfl (lv_at hl 1 rfl) ?_
  refine ld_i hx hb hK.1 hP 1 0 rfl rfl (ix_lit (by decide)) 0 (by decide) (v := gm 0) rfl dX5_isOf_8 ?_
  refine lv_iconst (v := 1) hx hb dX5_isOf_9 (by decide) ?_
  refine lv_isub hx hb dX5_isOf_10 ?_
  refine lv_i2l hx hb dX5_isOf_11 rfl ?_
  have hPc := hP.sub (ws' := []) [] rfl
  refine cr_i (va_runS (As := [.long i.toInt64, .long 0, .long (((gm 0) - 1).toInt64)]) (rest := []) ⟨hx, hb, hml, hown, hts⟩ (c_X5_in l D cI cJ i.toInt64 0 (((gm 0) - 1).toInt64)) (va_cwS 3 hts gX5_isOf_X5_in rfl rfl rfl (by decide +kernel) ⟨Nat.le_of_ble_eq_true rfl, Nat.le_of_ble_eq_true rfl⟩) ⟨gd_blR, gd_prR hPc hK⟩ rfl rfl hl.1 rfl (lv_room (Nat.le_of_ble_eq_true rfl)) dX5_isOf_12 ⟨Nat.zero_le _, Nat.zero_le _⟩) (fun r_12 hw => ?_)
  subst hw
  clear hPc
  exact rr_z hx hb hr (nb_in _ _ _) hlk dX5_isOf_15 rfl
def z5_numberOf_0 (gp : Nat → Int32) (i : Int32) (k : Int32) : Int32 := gp (((3 * i) + k).toNatClampNeg)
set_option maxHeartbeats 4000000 in
set_option maxRecDepth 100000 in
/-- X5.numberOf -/
theorem c_X5_numberOf_0 (l : Launch) (D : va_G) (cI cJ : ClassId) (o : Nat) (mP : Nat) (mL : Nat) (mC : Nat) (mN : Nat) (mF : Nat) (mR : Nat) (mD : Nat) (mV : Nat) (mX : Nat) (mA : Nat) (mK : Nat) (mT : Nat) (mU : Nat) (mH : Nat) (mI : Nat) (cm : Int32) (pm : Int32) (gp : Nat → Int32) (i : Int32) (k : Int32) (hi : ok_i i) (hk : 0 ≤ k.toInt ∧ k.toInt < 3) : mr_C l yX5_numberOf wsX5_numberOf ({ frames := 0, cells := 0, slots := 0, locals := 0 }) D cI cJ [.ref o, .int 0, .int i, .int k] [kM o mP mL mC mN mF mR mD mV mX mA mK cm mT pm mU mH mI, kA mP cI 180 gp] (vp_Si (fun r : Int32 => r = z5_numberOf_0 gp i k)) := by
  refine mr_in (cc := cX5_numberOf) (lv := [(0, .ref o), (1, .int 0), (2, .int i), (3, .int k)]) (by decide) rfl (Nat.le_of_ble_eq_true rfl) rfl ?_
  intro pG eG sG mG below meth cG ls hx hb hr hml hown hts hlk hP hK hl
  have hown : sG.vm.findClass RX5 = some mG.cls := hown
  have k_1 := hts (.fieldLink RX5 7 "ConicRowsModel" "points" "[I") (by decide +kernel)
  have k_2 : ∀ w ∈ wsX50, w ∈ wsX5_numberOf := by decide +kernel
  refine lv_iload_n hx hb dX5_numberOf_0 rfl (lv_at hl 1 rfl) ?_
  refine lv_if_ne (tgt := 17) hx hb dX5_numberOf_1 (by decide) (fun h => absurd (by decide) h) (fun _ => ?_)
  refine lv_aload_n hx hb dX5_numberOf_4 rfl (lv_at hl 0 rfl) ?_
  refine va_get (D := D) (ci := 5) (v := .ref mP) (C := RX5) (T := TX5) (N := 17) hx hb hts k_2 hown hK.1 hP 0 rfl rfl 0 (by decide) k_1 (fun _ h9 => h9) rfl dX5_numberOf_5 ?_
  refine lv_iconst (v := 3) hx hb dX5_numberOf_8 (by decide) ?_
  refine lv_iload_n hx hb dX5_numberOf_9 rfl (lv_at hl 2 rfl) ?_
  refine lv_imul hx hb dX5_numberOf_10 ?_
  refine lv_iload_n hx hb dX5_numberOf_11 rfl (lv_at hl 3 rfl) ?_
  refine lv_iadd hx hb dX5_numberOf_12 ?_
  refine ld_i hx hb hK.1 hP 1 0 rfl rfl (ix3k hi hk) (((3 * i) + k).toNatClampNeg) rfl (v := gp (((3 * i) + k).toNatClampNeg)) rfl dX5_numberOf_13 ?_
  refine lv_goto (tgt := 46) hx hb dX5_numberOf_14 (by decide) ?_
  exact rr_i hx hb hr hlk dX5_numberOf_46 rfl
def z5_isOf_1 (gm : Nat → Int32) (i : Int32) : Int32 := z5_in i.toInt64 0 (((gm 1) - 1).toInt64)
set_option maxHeartbeats 4000000 in
set_option maxRecDepth 100000 in
/-- X5.isOf -/
theorem c_X5_isOf_1 (l : Launch) (D : va_G) (cI cJ : ClassId) (o : Nat) (mP : Nat) (mL : Nat) (mC : Nat) (mN : Nat) (mF : Nat) (mR : Nat) (mD : Nat) (mV : Nat) (mX : Nat) (mA : Nat) (mK : Nat) (mT : Nat) (mU : Nat) (mH : Nat) (mI : Nat) (cm : Int32) (pm : Int32) (gm : Nat → Int32) (i : Int32) : mr_C l yX5_isOf wsX5_isOf ({ frames := 1, cells := 0, slots := 0, locals := 25 }) D cI cJ [.ref o, .int 1, .int i] [kM o mP mL mC mN mF mR mD mV mX mA mK cm mT pm mU mH mI, kA mN cI 3 gm] (vp_Si (fun r : Int32 => r = z5_isOf_1 gm i)) := by
  refine mr_in (cc := cX5_isOf) (lv := [(0, .ref o), (1, .int 1), (2, .int i)]) (by decide) rfl (Nat.le_of_ble_eq_true rfl) rfl ?_
  intro pG eG sG mG below meth cG ls hx hb hr hml hown hts hlk hP hK hl
  have hown : sG.vm.findClass RX5 = some mG.cls := hown
  have k_1 := hts (.fieldLink RX5 19 "ConicRowsModel" "many" "[I") (by decide +kernel)
  have k_2 : ∀ w ∈ wsX50, w ∈ wsX5_isOf := by decide +kernel
  refine lv_iload_n hx hb dX5_isOf_0 rfl (lv_at hl 2 rfl) ?_
  refine lv_i2l hx hb dX5_isOf_1 rfl ?_
  refine lv_lconst (v := 0) hx hb dX5_isOf_2 (by decide) ?_
  refine lv_aload_n hx hb dX5_isOf_3 rfl (lv_at hl 0 rfl) ?_
  refine va_get (D := D) (ci := 5) (v := .ref mN) (C := RX5) (T := TX5) (N := 17) hx hb hts k_2 hown hK.1 hP 0 rfl rfl 3 (by decide) k_1 (fun _ h9 => h9) rfl dX5_isOf_4 ?_
  refine lv_iload_n hx hb dX5_isOf_7 rfl (lv_at hl 1 rfl) ?_
  refine ld_i hx hb hK.1 hP 1 0 rfl rfl (ix_lit (by decide)) 1 (by decide) (v := gm 1) rfl dX5_isOf_8 ?_
  refine lv_iconst (v := 1) hx hb dX5_isOf_9 (by decide) ?_
  refine lv_isub hx hb dX5_isOf_10 ?_
  refine lv_i2l hx hb dX5_isOf_11 rfl ?_
  have hPc := hP.sub (ws' := []) [] rfl
  refine cr_i (va_runS (As := [.long i.toInt64, .long 0, .long (((gm 1) - 1).toInt64)]) (rest := []) ⟨hx, hb, hml, hown, hts⟩ (c_X5_in l D cI cJ i.toInt64 0 (((gm 1) - 1).toInt64)) (va_cwS 3 hts gX5_isOf_X5_in rfl rfl rfl (by decide +kernel) ⟨Nat.le_of_ble_eq_true rfl, Nat.le_of_ble_eq_true rfl⟩) ⟨gd_blR, gd_prR hPc hK⟩ rfl rfl hl.1 rfl (lv_room (Nat.le_of_ble_eq_true rfl)) dX5_isOf_12 ⟨Nat.zero_le _, Nat.zero_le _⟩) (fun r_12 hw => ?_)
  subst hw
  clear hPc
  exact rr_z hx hb hr (nb_in _ _ _) hlk dX5_isOf_15 rfl
def z5_numberOf_1 (gl : Nat → Int32) (i : Int32) (k : Int32) : Int32 := gl (((3 * i) + k).toNatClampNeg)
set_option maxHeartbeats 4000000 in
set_option maxRecDepth 100000 in
/-- X5.numberOf -/
theorem c_X5_numberOf_1 (l : Launch) (D : va_G) (cI cJ : ClassId) (o : Nat) (mP : Nat) (mL : Nat) (mC : Nat) (mN : Nat) (mF : Nat) (mR : Nat) (mD : Nat) (mV : Nat) (mX : Nat) (mA : Nat) (mK : Nat) (mT : Nat) (mU : Nat) (mH : Nat) (mI : Nat) (cm : Int32) (pm : Int32) (gl : Nat → Int32) (i : Int32) (k : Int32) (hi : ok_i i) (hk : 0 ≤ k.toInt ∧ k.toInt < 3) : mr_C l yX5_numberOf wsX5_numberOf ({ frames := 0, cells := 0, slots := 0, locals := 0 }) D cI cJ [.ref o, .int 1, .int i, .int k] [kM o mP mL mC mN mF mR mD mV mX mA mK cm mT pm mU mH mI, kA mL cI 180 gl] (vp_Si (fun r : Int32 => r = z5_numberOf_1 gl i k)) := by
  refine mr_in (cc := cX5_numberOf) (lv := [(0, .ref o), (1, .int 1), (2, .int i), (3, .int k)]) (by decide) rfl (Nat.le_of_ble_eq_true rfl) rfl ?_
  intro pG eG sG mG below meth cG ls hx hb hr hml hown hts hlk hP hK hl
  have hown : sG.vm.findClass RX5 = some mG.cls := hown
  have k_1 := hts (.fieldLink RX5 13 "ConicRowsModel" "lines" "[I") (by decide +kernel)
  have k_2 : ∀ w ∈ wsX50, w ∈ wsX5_numberOf := by decide +kernel
  refine lv_iload_n hx hb dX5_numberOf_0 rfl (lv_at hl 1 rfl) ?_
  refine lv_if_ne (tgt := 17) hx hb dX5_numberOf_1 (by decide) (fun _ => ?_) (fun h => absurd h (by decide))
  refine lv_iload_n hx hb dX5_numberOf_17 rfl (lv_at hl 1 rfl) ?_
  refine lv_iconst (v := 1) hx hb dX5_numberOf_18 (by decide) ?_
  refine lv_icmp_ne (tgt := 35) hx hb dX5_numberOf_19 (by decide) (fun h => absurd (by decide) h) (fun _ => ?_)
  refine lv_aload_n hx hb dX5_numberOf_22 rfl (lv_at hl 0 rfl) ?_
  refine va_get (D := D) (ci := 5) (v := .ref mL) (C := RX5) (T := TX5) (N := 17) hx hb hts k_2 hown hK.1 hP 0 rfl rfl 1 (by decide) k_1 (fun _ h9 => h9) rfl dX5_numberOf_23 ?_
  refine lv_iconst (v := 3) hx hb dX5_numberOf_26 (by decide) ?_
  refine lv_iload_n hx hb dX5_numberOf_27 rfl (lv_at hl 2 rfl) ?_
  refine lv_imul hx hb dX5_numberOf_28 ?_
  refine lv_iload_n hx hb dX5_numberOf_29 rfl (lv_at hl 3 rfl) ?_
  refine lv_iadd hx hb dX5_numberOf_30 ?_
  refine ld_i hx hb hK.1 hP 1 0 rfl rfl (ix3k hi hk) (((3 * i) + k).toNatClampNeg) rfl (v := gl (((3 * i) + k).toNatClampNeg)) rfl dX5_numberOf_31 ?_
  refine lv_goto (tgt := 46) hx hb dX5_numberOf_32 (by decide) ?_
  exact rr_i hx hb hr hlk dX5_numberOf_46 rfl
def z5_isOf_2 (gm : Nat → Int32) (i : Int32) : Int32 := z5_in i.toInt64 0 (((gm 2) - 1).toInt64)
set_option maxHeartbeats 4000000 in
set_option maxRecDepth 100000 in
/-- X5.isOf -/
theorem c_X5_isOf_2 (l : Launch) (D : va_G) (cI cJ : ClassId) (o : Nat) (mP : Nat) (mL : Nat) (mC : Nat) (mN : Nat) (mF : Nat) (mR : Nat) (mD : Nat) (mV : Nat) (mX : Nat) (mA : Nat) (mK : Nat) (mT : Nat) (mU : Nat) (mH : Nat) (mI : Nat) (cm : Int32) (pm : Int32) (gm : Nat → Int32) (i : Int32) : mr_C l yX5_isOf wsX5_isOf ({ frames := 1, cells := 0, slots := 0, locals := 25 }) D cI cJ [.ref o, .int 2, .int i] [kM o mP mL mC mN mF mR mD mV mX mA mK cm mT pm mU mH mI, kA mN cI 3 gm] (vp_Si (fun r : Int32 => r = z5_isOf_2 gm i)) := by
  refine mr_in (cc := cX5_isOf) (lv := [(0, .ref o), (1, .int 2), (2, .int i)]) (by decide) rfl (Nat.le_of_ble_eq_true rfl) rfl ?_
  intro pG eG sG mG below meth cG ls hx hb hr hml hown hts hlk hP hK hl
  have hown : sG.vm.findClass RX5 = some mG.cls := hown
  have k_1 := hts (.fieldLink RX5 19 "ConicRowsModel" "many" "[I") (by decide +kernel)
  have k_2 : ∀ w ∈ wsX50, w ∈ wsX5_isOf := by decide +kernel
  refine lv_iload_n hx hb dX5_isOf_0 rfl (lv_at hl 2 rfl) ?_
  refine lv_i2l hx hb dX5_isOf_1 rfl ?_
  refine lv_lconst (v := 0) hx hb dX5_isOf_2 (by decide) ?_
  refine lv_aload_n hx hb dX5_isOf_3 rfl (lv_at hl 0 rfl) ?_
  refine va_get (D := D) (ci := 5) (v := .ref mN) (C := RX5) (T := TX5) (N := 17) hx hb hts k_2 hown hK.1 hP 0 rfl rfl 3 (by decide) k_1 (fun _ h9 => h9) rfl dX5_isOf_4 ?_
  refine lv_iload_n hx hb dX5_isOf_7 rfl (lv_at hl 1 rfl) ?_
  refine ld_i hx hb hK.1 hP 1 0 rfl rfl (ix_lit (by decide)) 2 (by decide) (v := gm 2) rfl dX5_isOf_8 ?_
  refine lv_iconst (v := 1) hx hb dX5_isOf_9 (by decide) ?_
  refine lv_isub hx hb dX5_isOf_10 ?_
  refine lv_i2l hx hb dX5_isOf_11 rfl ?_
  have hPc := hP.sub (ws' := []) [] rfl
  refine cr_i (va_runS (As := [.long i.toInt64, .long 0, .long (((gm 2) - 1).toInt64)]) (rest := []) ⟨hx, hb, hml, hown, hts⟩ (c_X5_in l D cI cJ i.toInt64 0 (((gm 2) - 1).toInt64)) (va_cwS 3 hts gX5_isOf_X5_in rfl rfl rfl (by decide +kernel) ⟨Nat.le_of_ble_eq_true rfl, Nat.le_of_ble_eq_true rfl⟩) ⟨gd_blR, gd_prR hPc hK⟩ rfl rfl hl.1 rfl (lv_room (Nat.le_of_ble_eq_true rfl)) dX5_isOf_12 ⟨Nat.zero_le _, Nat.zero_le _⟩) (fun r_12 hw => ?_)
  subst hw
  clear hPc
  exact rr_z hx hb hr (nb_in _ _ _) hlk dX5_isOf_15 rfl
def z5_numberOf_2 (gc : Nat → Int32) (i : Int32) (k : Int32) : Int32 := gc (((6 * i) + k).toNatClampNeg)
set_option maxHeartbeats 4000000 in
set_option maxRecDepth 100000 in
/-- X5.numberOf -/
theorem c_X5_numberOf_2 (l : Launch) (D : va_G) (cI cJ : ClassId) (o : Nat) (mP : Nat) (mL : Nat) (mC : Nat) (mN : Nat) (mF : Nat) (mR : Nat) (mD : Nat) (mV : Nat) (mX : Nat) (mA : Nat) (mK : Nat) (mT : Nat) (mU : Nat) (mH : Nat) (mI : Nat) (cm : Int32) (pm : Int32) (gc : Nat → Int32) (i : Int32) (k : Int32) (hi : ok_i i) (hk : 0 ≤ k.toInt ∧ k.toInt < 6) : mr_C l yX5_numberOf wsX5_numberOf ({ frames := 0, cells := 0, slots := 0, locals := 0 }) D cI cJ [.ref o, .int 2, .int i, .int k] [kM o mP mL mC mN mF mR mD mV mX mA mK cm mT pm mU mH mI, kA mC cI 360 gc] (vp_Si (fun r : Int32 => r = z5_numberOf_2 gc i k)) := by
  refine mr_in (cc := cX5_numberOf) (lv := [(0, .ref o), (1, .int 2), (2, .int i), (3, .int k)]) (by decide) rfl (Nat.le_of_ble_eq_true rfl) rfl ?_
  intro pG eG sG mG below meth cG ls hx hb hr hml hown hts hlk hP hK hl
  have hown : sG.vm.findClass RX5 = some mG.cls := hown
  have k_1 := hts (.fieldLink RX5 16 "ConicRowsModel" "conics" "[I") (by decide +kernel)
  have k_2 : ∀ w ∈ wsX50, w ∈ wsX5_numberOf := by decide +kernel
  refine lv_iload_n hx hb dX5_numberOf_0 rfl (lv_at hl 1 rfl) ?_
  refine lv_if_ne (tgt := 17) hx hb dX5_numberOf_1 (by decide) (fun _ => ?_) (fun h => absurd h (by decide))
  refine lv_iload_n hx hb dX5_numberOf_17 rfl (lv_at hl 1 rfl) ?_
  refine lv_iconst (v := 1) hx hb dX5_numberOf_18 (by decide) ?_
  refine lv_icmp_ne (tgt := 35) hx hb dX5_numberOf_19 (by decide) (fun _ => ?_) (fun h => absurd h (by decide))
  refine lv_aload_n hx hb dX5_numberOf_35 rfl (lv_at hl 0 rfl) ?_
  refine va_get (D := D) (ci := 5) (v := .ref mC) (C := RX5) (T := TX5) (N := 17) hx hb hts k_2 hown hK.1 hP 0 rfl rfl 2 (by decide) k_1 (fun _ h9 => h9) rfl dX5_numberOf_36 ?_
  refine lv_bipush (v := 6) hx hb dX5_numberOf_39 (by decide) ?_
  refine lv_iload_n hx hb dX5_numberOf_41 rfl (lv_at hl 2 rfl) ?_
  refine lv_imul hx hb dX5_numberOf_42 ?_
  refine lv_iload_n hx hb dX5_numberOf_43 rfl (lv_at hl 3 rfl) ?_
  refine lv_iadd hx hb dX5_numberOf_44 ?_
  refine ld_i hx hb hK.1 hP 1 0 rfl rfl (ix6k hi hk) (((6 * i) + k).toNatClampNeg) rfl (v := gc (((6 * i) + k).toNatClampNeg)) rfl dX5_numberOf_45 ?_
  exact rr_i hx hb hr hlk dX5_numberOf_46 rfl
def z5_keep_0 (gm : Nat → Int32) (ff : Nat → Int64) (gp : Nat → Int32) (e : Int32) : Int32 × (Nat → Int32) × (Nat → Int32) := if ((z5_norm_3_6 ff).1) = 0 then (e, gm, gp) else if (z5_in (((z5_norm_3_6 ff).2) 0) (-500) 500) = 0 then ((-1000006), gm, gp) else if (z5_in (((z5_norm_3_6 ff).2) 1) (-500) 500) = 0 then ((-1000006), gm, gp) else if (z5_in (((z5_norm_3_6 ff).2) 2) (-500) 500) = 0 then ((-1000006), gm, gp) else if (gm 0) = 60 then ((-1000005), gm, gp) else (gm 0, upd gm 0 ((gm 0) + 1), upd (upd (upd gp (((3 * (gm 0)) + 0).toNatClampNeg) ((((z5_norm_3_6 ff).2) 0).toInt32)) (((3 * (gm 0)) + 1).toNatClampNeg) ((((z5_norm_3_6 ff).2) 1).toInt32)) (((3 * (gm 0)) + 2).toNatClampNeg) ((((z5_norm_3_6 ff).2) 2).toInt32))
set_option maxHeartbeats 4000000 in
set_option maxRecDepth 100000 in
/-- X5.keep -/
theorem c_X5_keep_0 (l : Launch) (D : va_G) (cI cJ : ClassId) (o : Nat) (mP : Nat) (mL : Nat) (mC : Nat) (mN : Nat) (mF : Nat) (mR : Nat) (mD : Nat) (mV : Nat) (mX : Nat) (mA : Nat) (mK : Nat) (mT : Nat) (mU : Nat) (mH : Nat) (mI : Nat) (cm : Int32) (pm : Int32) (gm : Nat → Int32) (ff : Nat → Int64) (gp : Nat → Int32) (e : Int32) (hm0 : n_ok (gm 0)) : mw_C l yX5_keep wsX5_keep ({ frames := 2, cells := 0, slots := 0, locals := 54 }) D cI cJ [.ref o, .int 0, .int e] [kM o mP mL mC mN mF mR mD mV mX mA mK cm mT pm mU mH mI, kA mN cI 3 gm, kJ mF cJ 6 ff, kA mP cI 180 gp] (qe_i (fun (r : Int32) (_ : (Nat → Int64)) => r = (z5_keep_0 gm ff gp e).1) (fun uu => [kM o mP mL mC mN mF mR mD mV mX mA mK cm mT pm mU mH mI, kA mN cI 3 ((z5_keep_0 gm ff gp e).2.1), kJ mF cJ 6 uu, kA mP cI 180 ((z5_keep_0 gm ff gp e).2.2)])) := by
  refine mw_in (cc := cX5_keep) (lv := [(0, .ref o), (1, .int 0), (2, .int e)]) (by decide) rfl (Nat.le_of_ble_eq_true rfl) rfl ?_
  intro pG eG sG mG below meth cG ls A hx hb hr hml hown hts hlk hin hP hK hD hA hS hl
  have hown : sG.vm.findClass RX5 = some mG.cls := hown
  have k_1 := hts (.fieldLink RX5 22 "ConicRowsModel" "fresh" "[J") (by decide +kernel)
  have k_2 : ∀ w ∈ wsX50, w ∈ wsX5_keep := by decide +kernel
  have k_3 := hts (.constantLong RX5 72 (-500)) (by decide +kernel)
  have k_4 := hts (.constantLong RX5 74 (500)) (by decide +kernel)
  have k_5 := hts (.fieldLink RX5 19 "ConicRowsModel" "many" "[I") (by decide +kernel)
  have k_6 := hts (.fieldLink RX5 7 "ConicRowsModel" "points" "[I") (by decide +kernel)
  have k_7 := hts (.constant RX5 77 (-1000005)) (by decide +kernel)
  have k_8 := hts (.constant RX5 76 (-1000006)) (by decide +kernel)
  refine lv_iload_n hx hb dX5_keep_0 rfl (lv_at hl 1 rfl) ?_
  have hPc := hP.sub (ws' := []) [] rfl
  refine cr_i (va_runS (As := [.int 0]) (rest := []) ⟨hx, hb, hml, hown, hts⟩ (c_X5_wide l D cI cJ 0) (va_cwS 1 hts gX5_keep_X5_wide rfl rfl rfl (by decide +kernel) ⟨Nat.le_of_ble_eq_true rfl, Nat.le_of_ble_eq_true rfl⟩) ⟨gd_blR, gd_prR hPc hK⟩ rfl rfl hl.1 rfl (lv_room (Nat.le_of_ble_eq_true rfl)) dX5_keep_1 ⟨Nat.zero_le _, Nat.zero_le _⟩) (fun r_1 hw => ?_)
  subst hw
  clear hPc
  refine lv_eqi (v := 3) (by decide) ?_
  refine lv_istore_n (lv' := [(3, .int 3), (0, .ref o), (1, .int 0), (2, .int e)]) hx hb dX5_keep_4 rfl hl (by decide) rfl (fun ls hl => ?_)
  refine lv_aload_n hx hb dX5_keep_5 rfl (lv_at hl 1 rfl) ?_
  refine va_get (D := D) (ci := 5) (v := .ref mF) (C := RX5) (T := TX5) (N := 17) hx hb hts k_2 hown hK.1 hP 0 rfl rfl 4 (by decide) k_1 (fun _ h9 => h9) rfl dX5_keep_6 ?_
  refine lv_iload_n hx hb dX5_keep_9 rfl (lv_at hl 0 rfl) ?_
  have hPc := hP.sub (ws' := [kJ mF cJ 6 ff]) [2] rfl
  have hDc := hD.sub (ws' := [kJ mF cJ 6 ff]) [2] (by decide) rfl
  refine cl_i (wc := [kJ mF cJ 6 ff]) (wr := [kM o mP mL mC mN mF mR mD mV mX mA mK cm mT pm mU mH mI, kA mN cI 3 gm, kA mP cI 180 gp]) (w1 := fun uu : Unit => [kJ mF cJ 6 ((z5_norm_3_6 ff).2)]) (wn := fun uu : Unit => [kM o mP mL mC mN mF mR mD mV mX mA mK cm mT pm mU mH mI, kA mN cI 3 gm, kJ mF cJ 6 ((z5_norm_3_6 ff).2), kA mP cI 180 gp]) (va_runS (As := [.ref mF, .int 3]) (rest := []) ⟨hx, hb, hml, hown, hts⟩ (c_X5_norm_3_6 l D cI cJ mF ff _) (va_cwS 2 hts gX5_keep_X5_norm rfl rfl rfl (by decide +kernel) ⟨Nat.le_of_ble_eq_true rfl, Nat.le_of_ble_eq_true rfl⟩) ⟨gd_blP, gd_prP hPc hK hDc⟩ rfl rfl hl.1 rfl (lv_room (Nat.le_of_ble_eq_true rfl)) dX5_keep_10 ⟨Nat.zero_le _, Nat.zero_le _⟩) hP hD hS hA [2] [0, 1, 3] rfl rfl (by decide) (by decide) [0, 1, 3, 2] (by decide) (fun _ => rfl) (fun r_10 uG H locs hw hP hD hS => ?_)
  have hP : va_P D vwCl [kM o mP mL mC mN mF mR mD mV mX mA mK cm mT pm mU mH mI, kA mN cI 3 gm, kJ mF cJ 6 ((z5_norm_3_6 ff).2), kA mP cI 180 gp] H := hP
  have hD : va_D A [kM o mP mL mC mN mF mR mD mV mX mA mK cm mT pm mU mH mI, kA mN cI 3 gm, kJ mF cJ 6 ((z5_norm_3_6 ff).2), kA mP cI 180 gp] := hD
  subst hw
  clear hPc hDc
  refine lv_if_ne (tgt := 18) hx hb dX5_keep_13 (by decide) (fun c_1 => ?_) (fun c_1 => ?_)
  · skip
    refine lv_iconst (v := 0) hx hb dX5_keep_18 (by decide) ?_
    refine lv_istore (lv' := [(4, .int 0), (3, .int 3), (0, .ref o), (1, .int 0), (2, .int e)]) hx hb dX5_keep_19 hl (by decide) rfl (fun ls hl => ?_)
    refine lv_iconst (v := 0) hx hb dX5_keep_21 (by decide) ?_
    refine lv_istore (lv' := [(5, .int 0), (4, .int 0), (3, .int 3), (0, .ref o), (1, .int 0), (2, .int e)]) hx hb dX5_keep_22 hl (by decide) rfl (fun ls hl => ?_)
    refine lv_iload hx hb dX5_keep_24 (lv_at hl 0 rfl) ?_
    refine lv_iload_n hx hb dX5_keep_26 rfl (lv_at hl 2 rfl) ?_
    refine lv_icmp_ge (tgt := 67) hx hb dX5_keep_27 (by decide) (fun h => absurd h (by decide)) (fun _ => ?_)
    refine lv_iload hx hb dX5_keep_30 (lv_at hl 1 rfl) ?_
    refine lv_if_ne (tgt := 54) hx hb dX5_keep_32 (by decide) (fun h => absurd (by decide) h) (fun _ => ?_)
    refine lv_aload_n hx hb dX5_keep_35 rfl (lv_at hl 3 rfl) ?_
    refine va_get (D := D) (ci := 5) (v := .ref mF) (C := RX5) (T := TX5) (N := 17) hx hb hts k_2 hown hK.1 hP 0 rfl rfl 4 (by decide) k_1 (fun _ h9 => h9) rfl dX5_keep_36 ?_
    refine lv_iload hx hb dX5_keep_39 (lv_at hl 0 rfl) ?_
    refine ld_l hx hb hK.1 hP 2 1 rfl rfl (ix_lit (by decide)) 0 (by decide) (v := ((z5_norm_3_6 ff).2) 0) rfl dX5_keep_41 ?_
    refine lv_ldc2 hx hb hown k_3 dX5_keep_42 ?_
    refine lv_ldc2 hx hb hown k_4 dX5_keep_45 ?_
    have hPc := hP.sub (ws' := []) [] rfl
    refine cr_i (va_runS (As := [.long (((z5_norm_3_6 ff).2) 0), .long (-500), .long 500]) (rest := []) ⟨hx, hb, hml, hown, hts⟩ (c_X5_in l D cI cJ (((z5_norm_3_6 ff).2) 0) (-500) 500) (va_cwS 3 hts gX5_keep_X5_in rfl rfl rfl (by decide +kernel) ⟨Nat.le_of_ble_eq_true rfl, Nat.le_of_ble_eq_true rfl⟩) ⟨gd_blR, gd_prR hPc hK⟩ rfl rfl hl.1 rfl (lv_room (Nat.le_of_ble_eq_true rfl)) dX5_keep_48 ⟨Nat.zero_le _, Nat.zero_le _⟩) (fun r_48 hw => ?_)
    subst hw
    clear hPc
    refine lv_if_ne (tgt := 58) hx hb dX5_keep_51 (by decide) (fun c_2 => ?_) (fun c_2 => ?_)
    · skip
      refine lv_iconst (v := 0) hx hb dX5_keep_58 (by decide) ?_
      refine lv_istore (lv' := [(4, .int 0), (5, .int 0), (3, .int 3), (0, .ref o), (1, .int 0), (2, .int e)]) hx hb dX5_keep_59 hl (by decide) rfl (fun ls hl => ?_)
      refine lv_iinc (v := 1) (lv' := [(5, .int 1), (4, .int 0), (3, .int 3), (0, .ref o), (1, .int 0), (2, .int e)]) hx hb dX5_keep_61 hl (k := 1) rfl (by decide) (by decide) rfl (fun ls hl => ?_)
      refine lv_goto (tgt := 24) hx hb dX5_keep_64 (by decide) ?_
      refine lv_iload hx hb dX5_keep_24 (lv_at hl 0 rfl) ?_
      refine lv_iload_n hx hb dX5_keep_26 rfl (lv_at hl 2 rfl) ?_
      refine lv_icmp_ge (tgt := 67) hx hb dX5_keep_27 (by decide) (fun h => absurd h (by decide)) (fun _ => ?_)
      refine lv_iload hx hb dX5_keep_30 (lv_at hl 1 rfl) ?_
      refine lv_if_ne (tgt := 54) hx hb dX5_keep_32 (by decide) (fun h => absurd (by decide) h) (fun _ => ?_)
      refine lv_aload_n hx hb dX5_keep_35 rfl (lv_at hl 3 rfl) ?_
      refine va_get (D := D) (ci := 5) (v := .ref mF) (C := RX5) (T := TX5) (N := 17) hx hb hts k_2 hown hK.1 hP 0 rfl rfl 4 (by decide) k_1 (fun _ h9 => h9) rfl dX5_keep_36 ?_
      refine lv_iload hx hb dX5_keep_39 (lv_at hl 0 rfl) ?_
      refine ld_l hx hb hK.1 hP 2 1 rfl rfl (ix_lit (by decide)) 1 (by decide) (v := ((z5_norm_3_6 ff).2) 1) rfl dX5_keep_41 ?_
      refine lv_ldc2 hx hb hown k_3 dX5_keep_42 ?_
      refine lv_ldc2 hx hb hown k_4 dX5_keep_45 ?_
      have hPc := hP.sub (ws' := []) [] rfl
      refine cr_i (va_runS (As := [.long (((z5_norm_3_6 ff).2) 1), .long (-500), .long 500]) (rest := []) ⟨hx, hb, hml, hown, hts⟩ (c_X5_in l D cI cJ (((z5_norm_3_6 ff).2) 1) (-500) 500) (va_cwS 3 hts gX5_keep_X5_in rfl rfl rfl (by decide +kernel) ⟨Nat.le_of_ble_eq_true rfl, Nat.le_of_ble_eq_true rfl⟩) ⟨gd_blR, gd_prR hPc hK⟩ rfl rfl hl.1 rfl (lv_room (Nat.le_of_ble_eq_true rfl)) dX5_keep_48 ⟨Nat.zero_le _, Nat.zero_le _⟩) (fun r_48 hw => ?_)
      subst hw
      clear hPc
      refine lv_if_ne (tgt := 58) hx hb dX5_keep_51 (by decide) (fun c_3 => ?_) (fun c_3 => ?_)
      · skip
        refine lv_iconst (v := 0) hx hb dX5_keep_58 (by decide) ?_
        refine lv_istore (lv' := [(4, .int 0), (5, .int 1), (3, .int 3), (0, .ref o), (1, .int 0), (2, .int e)]) hx hb dX5_keep_59 hl (by decide) rfl (fun ls hl => ?_)
        refine lv_iinc (v := 2) (lv' := [(5, .int 2), (4, .int 0), (3, .int 3), (0, .ref o), (1, .int 0), (2, .int e)]) hx hb dX5_keep_61 hl (k := 1) rfl (by decide) (by decide) rfl (fun ls hl => ?_)
        refine lv_goto (tgt := 24) hx hb dX5_keep_64 (by decide) ?_
        refine lv_iload hx hb dX5_keep_24 (lv_at hl 0 rfl) ?_
        refine lv_iload_n hx hb dX5_keep_26 rfl (lv_at hl 2 rfl) ?_
        refine lv_icmp_ge (tgt := 67) hx hb dX5_keep_27 (by decide) (fun h => absurd h (by decide)) (fun _ => ?_)
        refine lv_iload hx hb dX5_keep_30 (lv_at hl 1 rfl) ?_
        refine lv_if_ne (tgt := 54) hx hb dX5_keep_32 (by decide) (fun h => absurd (by decide) h) (fun _ => ?_)
        refine lv_aload_n hx hb dX5_keep_35 rfl (lv_at hl 3 rfl) ?_
        refine va_get (D := D) (ci := 5) (v := .ref mF) (C := RX5) (T := TX5) (N := 17) hx hb hts k_2 hown hK.1 hP 0 rfl rfl 4 (by decide) k_1 (fun _ h9 => h9) rfl dX5_keep_36 ?_
        refine lv_iload hx hb dX5_keep_39 (lv_at hl 0 rfl) ?_
        refine ld_l hx hb hK.1 hP 2 1 rfl rfl (ix_lit (by decide)) 2 (by decide) (v := ((z5_norm_3_6 ff).2) 2) rfl dX5_keep_41 ?_
        refine lv_ldc2 hx hb hown k_3 dX5_keep_42 ?_
        refine lv_ldc2 hx hb hown k_4 dX5_keep_45 ?_
        have hPc := hP.sub (ws' := []) [] rfl
        refine cr_i (va_runS (As := [.long (((z5_norm_3_6 ff).2) 2), .long (-500), .long 500]) (rest := []) ⟨hx, hb, hml, hown, hts⟩ (c_X5_in l D cI cJ (((z5_norm_3_6 ff).2) 2) (-500) 500) (va_cwS 3 hts gX5_keep_X5_in rfl rfl rfl (by decide +kernel) ⟨Nat.le_of_ble_eq_true rfl, Nat.le_of_ble_eq_true rfl⟩) ⟨gd_blR, gd_prR hPc hK⟩ rfl rfl hl.1 rfl (lv_room (Nat.le_of_ble_eq_true rfl)) dX5_keep_48 ⟨Nat.zero_le _, Nat.zero_le _⟩) (fun r_48 hw => ?_)
        subst hw
        clear hPc
        refine lv_if_ne (tgt := 58) hx hb dX5_keep_51 (by decide) (fun c_4 => ?_) (fun c_4 => ?_)
        · skip
          refine lv_iconst (v := 0) hx hb dX5_keep_58 (by decide) ?_
          refine lv_istore (lv' := [(4, .int 0), (5, .int 2), (3, .int 3), (0, .ref o), (1, .int 0), (2, .int e)]) hx hb dX5_keep_59 hl (by decide) rfl (fun ls hl => ?_)
          refine lv_iinc (v := 3) (lv' := [(5, .int 3), (4, .int 0), (3, .int 3), (0, .ref o), (1, .int 0), (2, .int e)]) hx hb dX5_keep_61 hl (k := 1) rfl (by decide) (by decide) rfl (fun ls hl => ?_)
          refine lv_goto (tgt := 24) hx hb dX5_keep_64 (by decide) ?_
          refine lv_iload hx hb dX5_keep_24 (lv_at hl 0 rfl) ?_
          refine lv_iload_n hx hb dX5_keep_26 rfl (lv_at hl 2 rfl) ?_
          refine lv_icmp_ge (tgt := 67) hx hb dX5_keep_27 (by decide) (fun _ => ?_) (fun h => absurd (by decide) h)
          refine lv_iload hx hb dX5_keep_67 (lv_at hl 1 rfl) ?_
          refine lv_if_eq (tgt := 75) hx hb dX5_keep_69 (by decide) (fun _ => ?_) (fun h => absurd (by decide) h)
          refine lv_aload_n hx hb dX5_keep_75 rfl (lv_at hl 3 rfl) ?_
          refine va_get (D := D) (ci := 5) (v := .ref mN) (C := RX5) (T := TX5) (N := 17) hx hb hts k_2 hown hK.1 hP 0 rfl rfl 3 (by decide) k_5 (fun _ h9 => h9) rfl dX5_keep_76 ?_
          refine lv_iload_n hx hb dX5_keep_79 rfl (lv_at hl 4 rfl) ?_
          refine ld_i hx hb hK.1 hP 1 0 rfl rfl (ix_lit (by decide)) 0 (by decide) (v := gm 0) rfl dX5_keep_80 ?_
          refine lv_bipush (v := 60) hx hb dX5_keep_81 (by decide) ?_
          refine lv_icmp_ne (tgt := 89) hx hb dX5_keep_83 (by decide) (fun c_5 => ?_) (fun c_5 => ?_)
          · skip
            refine lv_aload_n hx hb dX5_keep_89 rfl (lv_at hl 3 rfl) ?_
            refine va_get (D := D) (ci := 5) (v := .ref mN) (C := RX5) (T := TX5) (N := 17) hx hb hts k_2 hown hK.1 hP 0 rfl rfl 3 (by decide) k_5 (fun _ h9 => h9) rfl dX5_keep_90 ?_
            refine lv_iload_n hx hb dX5_keep_93 rfl (lv_at hl 4 rfl) ?_
            refine ld_i hx hb hK.1 hP 1 0 rfl rfl (ix_lit (by decide)) 0 (by decide) (v := gm 0) rfl dX5_keep_94 ?_
            refine lv_istore (lv' := [(5, .int (gm 0)), (4, .int 0), (3, .int 3), (0, .ref o), (1, .int 0), (2, .int e)]) hx hb dX5_keep_95 hl (by decide) rfl (fun ls hl => ?_)
            refine lv_iconst (v := 0) hx hb dX5_keep_97 (by decide) ?_
            refine lv_istore (lv' := [(6, .int 0), (5, .int (gm 0)), (4, .int 0), (3, .int 3), (0, .ref o), (1, .int 0), (2, .int e)]) hx hb dX5_keep_98 hl (by decide) rfl (fun ls hl => ?_)
            refine lv_iload hx hb dX5_keep_100 (lv_at hl 0 rfl) ?_
            refine lv_iload_n hx hb dX5_keep_102 rfl (lv_at hl 3 rfl) ?_
            refine lv_icmp_ge (tgt := 188) hx hb dX5_keep_103 (by decide) (fun h => absurd h (by decide)) (fun _ => ?_)
            refine lv_iload_n hx hb dX5_keep_106 rfl (lv_at hl 5 rfl) ?_
            refine lv_if_ne (tgt := 133) hx hb dX5_keep_107 (by decide) (fun h => absurd (by decide) h) (fun _ => ?_)
            refine lv_aload_n hx hb dX5_keep_110 rfl (lv_at hl 4 rfl) ?_
            refine va_get (D := D) (ci := 5) (v := .ref mP) (C := RX5) (T := TX5) (N := 17) hx hb hts k_2 hown hK.1 hP 0 rfl rfl 0 (by decide) k_6 (fun _ h9 => h9) rfl dX5_keep_111 ?_
            refine lv_iconst (v := 3) hx hb dX5_keep_114 (by decide) ?_
            refine lv_iload hx hb dX5_keep_115 (lv_at hl 1 rfl) ?_
            refine lv_imul hx hb dX5_keep_117 ?_
            refine lv_iload hx hb dX5_keep_118 (lv_at hl 0 rfl) ?_
            refine lv_iadd hx hb dX5_keep_120 ?_
            refine lv_aload_n hx hb dX5_keep_121 rfl (lv_at hl 4 rfl) ?_
            refine va_get (D := D) (ci := 5) (v := .ref mF) (C := RX5) (T := TX5) (N := 17) hx hb hts k_2 hown hK.1 hP 0 rfl rfl 4 (by decide) k_1 (fun _ h9 => h9) rfl dX5_keep_122 ?_
            refine lv_iload hx hb dX5_keep_125 (lv_at hl 0 rfl) ?_
            refine ld_l hx hb hK.1 hP 2 1 rfl rfl (ix_lit (by decide)) 0 (by decide) (v := ((z5_norm_3_6 ff).2) 0) rfl dX5_keep_127 ?_
            refine lv_l2i hx hb dX5_keep_128 rfl ?_
            refine st_i hx hb hK.1 hP hD hS 3 0 rfl rfl (ix3l (ok_n hm0 c_5) 0 (by decide)) (((3 * (gm 0)) + 0).toNatClampNeg) rfl dX5_keep_129 (fun H locs hP hD hS => ?_)
            have hP : va_P D vwCl [kM o mP mL mC mN mF mR mD mV mX mA mK cm mT pm mU mH mI, kA mN cI 3 gm, kJ mF cJ 6 ((z5_norm_3_6 ff).2), kA mP cI 180 (upd gp (((3 * (gm 0)) + 0).toNatClampNeg) ((((z5_norm_3_6 ff).2) 0).toInt32))] H := hP
            have hD : va_D A [kM o mP mL mC mN mF mR mD mV mX mA mK cm mT pm mU mH mI, kA mN cI 3 gm, kJ mF cJ 6 ((z5_norm_3_6 ff).2), kA mP cI 180 (upd gp (((3 * (gm 0)) + 0).toNatClampNeg) ((((z5_norm_3_6 ff).2) 0).toInt32))] := hD
            refine lv_goto (tgt := 182) hx hb dX5_keep_130 (by decide) ?_
            refine lv_iinc (v := 1) (lv' := [(6, .int 1), (5, .int (gm 0)), (4, .int 0), (3, .int 3), (0, .ref o), (1, .int 0), (2, .int e)]) hx hb dX5_keep_182 hl (k := 0) rfl (by decide) (by decide) rfl (fun ls hl => ?_)
            refine lv_goto (tgt := 100) hx hb dX5_keep_185 (by decide) ?_
            refine lv_iload hx hb dX5_keep_100 (lv_at hl 0 rfl) ?_
            refine lv_iload_n hx hb dX5_keep_102 rfl (lv_at hl 3 rfl) ?_
            refine lv_icmp_ge (tgt := 188) hx hb dX5_keep_103 (by decide) (fun h => absurd h (by decide)) (fun _ => ?_)
            refine lv_iload_n hx hb dX5_keep_106 rfl (lv_at hl 5 rfl) ?_
            refine lv_if_ne (tgt := 133) hx hb dX5_keep_107 (by decide) (fun h => absurd (by decide) h) (fun _ => ?_)
            refine lv_aload_n hx hb dX5_keep_110 rfl (lv_at hl 4 rfl) ?_
            refine va_get (D := D) (ci := 5) (v := .ref mP) (C := RX5) (T := TX5) (N := 17) hx hb hts k_2 hown hK.1 hP 0 rfl rfl 0 (by decide) k_6 (fun _ h9 => h9) rfl dX5_keep_111 ?_
            refine lv_iconst (v := 3) hx hb dX5_keep_114 (by decide) ?_
            refine lv_iload hx hb dX5_keep_115 (lv_at hl 1 rfl) ?_
            refine lv_imul hx hb dX5_keep_117 ?_
            refine lv_iload hx hb dX5_keep_118 (lv_at hl 0 rfl) ?_
            refine lv_iadd hx hb dX5_keep_120 ?_
            refine lv_aload_n hx hb dX5_keep_121 rfl (lv_at hl 4 rfl) ?_
            refine va_get (D := D) (ci := 5) (v := .ref mF) (C := RX5) (T := TX5) (N := 17) hx hb hts k_2 hown hK.1 hP 0 rfl rfl 4 (by decide) k_1 (fun _ h9 => h9) rfl dX5_keep_122 ?_
            refine lv_iload hx hb dX5_keep_125 (lv_at hl 0 rfl) ?_
            refine ld_l hx hb hK.1 hP 2 1 rfl rfl (ix_lit (by decide)) 1 (by decide) (v := ((z5_norm_3_6 ff).2) 1) rfl dX5_keep_127 ?_
            refine lv_l2i hx hb dX5_keep_128 rfl ?_
            refine st_i hx hb hK.1 hP hD hS 3 0 rfl rfl (ix3l (ok_n hm0 c_5) 1 (by decide)) (((3 * (gm 0)) + 1).toNatClampNeg) rfl dX5_keep_129 (fun H locs hP hD hS => ?_)
            have hP : va_P D vwCl [kM o mP mL mC mN mF mR mD mV mX mA mK cm mT pm mU mH mI, kA mN cI 3 gm, kJ mF cJ 6 ((z5_norm_3_6 ff).2), kA mP cI 180 (upd (upd gp (((3 * (gm 0)) + 0).toNatClampNeg) ((((z5_norm_3_6 ff).2) 0).toInt32)) (((3 * (gm 0)) + 1).toNatClampNeg) ((((z5_norm_3_6 ff).2) 1).toInt32))] H := hP
            have hD : va_D A [kM o mP mL mC mN mF mR mD mV mX mA mK cm mT pm mU mH mI, kA mN cI 3 gm, kJ mF cJ 6 ((z5_norm_3_6 ff).2), kA mP cI 180 (upd (upd gp (((3 * (gm 0)) + 0).toNatClampNeg) ((((z5_norm_3_6 ff).2) 0).toInt32)) (((3 * (gm 0)) + 1).toNatClampNeg) ((((z5_norm_3_6 ff).2) 1).toInt32))] := hD
            refine lv_goto (tgt := 182) hx hb dX5_keep_130 (by decide) ?_
            refine lv_iinc (v := 2) (lv' := [(6, .int 2), (5, .int (gm 0)), (4, .int 0), (3, .int 3), (0, .ref o), (1, .int 0), (2, .int e)]) hx hb dX5_keep_182 hl (k := 0) rfl (by decide) (by decide) rfl (fun ls hl => ?_)
            refine lv_goto (tgt := 100) hx hb dX5_keep_185 (by decide) ?_
            refine lv_iload hx hb dX5_keep_100 (lv_at hl 0 rfl) ?_
            refine lv_iload_n hx hb dX5_keep_102 rfl (lv_at hl 3 rfl) ?_
            refine lv_icmp_ge (tgt := 188) hx hb dX5_keep_103 (by decide) (fun h => absurd h (by decide)) (fun _ => ?_)
            refine lv_iload_n hx hb dX5_keep_106 rfl (lv_at hl 5 rfl) ?_
            refine lv_if_ne (tgt := 133) hx hb dX5_keep_107 (by decide) (fun h => absurd (by decide) h) (fun _ => ?_)
            refine lv_aload_n hx hb dX5_keep_110 rfl (lv_at hl 4 rfl) ?_
            refine va_get (D := D) (ci := 5) (v := .ref mP) (C := RX5) (T := TX5) (N := 17) hx hb hts k_2 hown hK.1 hP 0 rfl rfl 0 (by decide) k_6 (fun _ h9 => h9) rfl dX5_keep_111 ?_
            refine lv_iconst (v := 3) hx hb dX5_keep_114 (by decide) ?_
            refine lv_iload hx hb dX5_keep_115 (lv_at hl 1 rfl) ?_
            refine lv_imul hx hb dX5_keep_117 ?_
            refine lv_iload hx hb dX5_keep_118 (lv_at hl 0 rfl) ?_
            refine lv_iadd hx hb dX5_keep_120 ?_
            refine lv_aload_n hx hb dX5_keep_121 rfl (lv_at hl 4 rfl) ?_
            refine va_get (D := D) (ci := 5) (v := .ref mF) (C := RX5) (T := TX5) (N := 17) hx hb hts k_2 hown hK.1 hP 0 rfl rfl 4 (by decide) k_1 (fun _ h9 => h9) rfl dX5_keep_122 ?_
            refine lv_iload hx hb dX5_keep_125 (lv_at hl 0 rfl) ?_
            refine ld_l hx hb hK.1 hP 2 1 rfl rfl (ix_lit (by decide)) 2 (by decide) (v := ((z5_norm_3_6 ff).2) 2) rfl dX5_keep_127 ?_
            refine lv_l2i hx hb dX5_keep_128 rfl ?_
            refine st_i hx hb hK.1 hP hD hS 3 0 rfl rfl (ix3l (ok_n hm0 c_5) 2 (by decide)) (((3 * (gm 0)) + 2).toNatClampNeg) rfl dX5_keep_129 (fun H locs hP hD hS => ?_)
            have hP : va_P D vwCl [kM o mP mL mC mN mF mR mD mV mX mA mK cm mT pm mU mH mI, kA mN cI 3 gm, kJ mF cJ 6 ((z5_norm_3_6 ff).2), kA mP cI 180 (upd (upd (upd gp (((3 * (gm 0)) + 0).toNatClampNeg) ((((z5_norm_3_6 ff).2) 0).toInt32)) (((3 * (gm 0)) + 1).toNatClampNeg) ((((z5_norm_3_6 ff).2) 1).toInt32)) (((3 * (gm 0)) + 2).toNatClampNeg) ((((z5_norm_3_6 ff).2) 2).toInt32))] H := hP
            have hD : va_D A [kM o mP mL mC mN mF mR mD mV mX mA mK cm mT pm mU mH mI, kA mN cI 3 gm, kJ mF cJ 6 ((z5_norm_3_6 ff).2), kA mP cI 180 (upd (upd (upd gp (((3 * (gm 0)) + 0).toNatClampNeg) ((((z5_norm_3_6 ff).2) 0).toInt32)) (((3 * (gm 0)) + 1).toNatClampNeg) ((((z5_norm_3_6 ff).2) 1).toInt32)) (((3 * (gm 0)) + 2).toNatClampNeg) ((((z5_norm_3_6 ff).2) 2).toInt32))] := hD
            refine lv_goto (tgt := 182) hx hb dX5_keep_130 (by decide) ?_
            refine lv_iinc (v := 3) (lv' := [(6, .int 3), (5, .int (gm 0)), (4, .int 0), (3, .int 3), (0, .ref o), (1, .int 0), (2, .int e)]) hx hb dX5_keep_182 hl (k := 0) rfl (by decide) (by decide) rfl (fun ls hl => ?_)
            refine lv_goto (tgt := 100) hx hb dX5_keep_185 (by decide) ?_
            refine lv_iload hx hb dX5_keep_100 (lv_at hl 0 rfl) ?_
            refine lv_iload_n hx hb dX5_keep_102 rfl (lv_at hl 3 rfl) ?_
            refine lv_icmp_ge (tgt := 188) hx hb dX5_keep_103 (by decide) (fun _ => ?_) (fun h => absurd (by decide) h)
            refine lv_aload_n hx hb dX5_keep_188 rfl (lv_at hl 4 rfl) ?_
            refine va_get (D := D) (ci := 5) (v := .ref mN) (C := RX5) (T := TX5) (N := 17) hx hb hts k_2 hown hK.1 hP 0 rfl rfl 3 (by decide) k_5 (fun _ h9 => h9) rfl dX5_keep_189 ?_
            refine lv_iload_n hx hb dX5_keep_192 rfl (lv_at hl 5 rfl) ?_
            refine lv_dup2_11 hx hb dX5_keep_193 rfl rfl ?_
            refine ld_i hx hb hK.1 hP 1 0 rfl rfl (ix_lit (by decide)) 0 (by decide) (v := gm 0) rfl dX5_keep_194 ?_
            refine lv_iconst (v := 1) hx hb dX5_keep_195 (by decide) ?_
            refine lv_iadd hx hb dX5_keep_196 ?_
            refine st_i hx hb hK.1 hP hD hS 1 0 rfl rfl (ix_lit (by decide)) 0 (by decide) dX5_keep_197 (fun H locs hP hD hS => ?_)
            have hP : va_P D vwCl [kM o mP mL mC mN mF mR mD mV mX mA mK cm mT pm mU mH mI, kA mN cI 3 (upd gm 0 ((gm 0) + 1)), kJ mF cJ 6 ((z5_norm_3_6 ff).2), kA mP cI 180 (upd (upd (upd gp (((3 * (gm 0)) + 0).toNatClampNeg) ((((z5_norm_3_6 ff).2) 0).toInt32)) (((3 * (gm 0)) + 1).toNatClampNeg) ((((z5_norm_3_6 ff).2) 1).toInt32)) (((3 * (gm 0)) + 2).toNatClampNeg) ((((z5_norm_3_6 ff).2) 2).toInt32))] H := hP
            have hD : va_D A [kM o mP mL mC mN mF mR mD mV mX mA mK cm mT pm mU mH mI, kA mN cI 3 (upd gm 0 ((gm 0) + 1)), kJ mF cJ 6 ((z5_norm_3_6 ff).2), kA mP cI 180 (upd (upd (upd gp (((3 * (gm 0)) + 0).toNatClampNeg) ((((z5_norm_3_6 ff).2) 0).toInt32)) (((3 * (gm 0)) + 1).toNatClampNeg) ((((z5_norm_3_6 ff).2) 1).toInt32)) (((3 * (gm 0)) + 2).toNatClampNeg) ((((z5_norm_3_6 ff).2) 2).toInt32))] := hD
            refine lv_iload hx hb dX5_keep_198 (lv_at hl 1 rfl) ?_
            have he : z5_keep_0 gm ff gp e = (gm 0, upd gm 0 ((gm 0) + 1), upd (upd (upd gp (((3 * (gm 0)) + 0).toNatClampNeg) ((((z5_norm_3_6 ff).2) 0).toInt32)) (((3 * (gm 0)) + 1).toNatClampNeg) ((((z5_norm_3_6 ff).2) 1).toInt32)) (((3 * (gm 0)) + 2).toNatClampNeg) ((((z5_norm_3_6 ff).2) 2).toInt32)) := by unfold z5_keep_0; rw [if_neg c_1, if_neg c_2, if_neg c_3, if_neg c_4, if_neg c_5]
            have he_0 : (z5_keep_0 gm ff gp e).1 = gm 0 := by rw [he]
            have he_1 : (z5_keep_0 gm ff gp e).2.1 = upd gm 0 ((gm 0) + 1) := by rw [he]
            have he_2 : (z5_keep_0 gm ff gp e).2.2 = upd (upd (upd gp (((3 * (gm 0)) + 0).toNatClampNeg) ((((z5_norm_3_6 ff).2) 0).toInt32)) (((3 * (gm 0)) + 1).toNatClampNeg) ((((z5_norm_3_6 ff).2) 1).toInt32)) (((3 * (gm 0)) + 2).toNatClampNeg) ((((z5_norm_3_6 ff).2) 2).toInt32) := by rw [he]
            exact rt_i (w1 := fun uu : (Nat → Int64) => [kM o mP mL mC mN mF mR mD mV mX mA mK cm mT pm mU mH mI, kA mN cI 3 ((z5_keep_0 gm ff gp e).2.1), kJ mF cJ 6 uu, kA mP cI 180 ((z5_keep_0 gm ff gp e).2.2)]) hx hb hr hlk hS dX5_keep_200 ((z5_norm_3_6 ff).2) he_0.symm (by (try dsimp only); rw [he_1, he_2]; exact hP) (by (try dsimp only); rw [he_1, he_2]; exact hD)
          · skip
            refine lv_ldc hx hb hown k_7 dX5_keep_86 ?_
            have he : z5_keep_0 gm ff gp e = ((-1000005), gm, gp) := by unfold z5_keep_0; rw [if_neg c_1, if_neg c_2, if_neg c_3, if_neg c_4, if_pos c_5]
            have he_0 : (z5_keep_0 gm ff gp e).1 = (-1000005) := by rw [he]
            have he_1 : (z5_keep_0 gm ff gp e).2.1 = gm := by rw [he]
            have he_2 : (z5_keep_0 gm ff gp e).2.2 = gp := by rw [he]
            exact rt_i (w1 := fun uu : (Nat → Int64) => [kM o mP mL mC mN mF mR mD mV mX mA mK cm mT pm mU mH mI, kA mN cI 3 ((z5_keep_0 gm ff gp e).2.1), kJ mF cJ 6 uu, kA mP cI 180 ((z5_keep_0 gm ff gp e).2.2)]) hx hb hr hlk hS dX5_keep_88 ((z5_norm_3_6 ff).2) he_0.symm (by (try dsimp only); rw [he_1, he_2]; exact hP) (by (try dsimp only); rw [he_1, he_2]; exact hD)
        · skip
          refine lv_iconst (v := 1) hx hb dX5_keep_54 (by decide) ?_
          refine lv_goto (tgt := 59) hx hb dX5_keep_55 (by decide) ?_
          refine lv_istore (lv' := [(4, .int 1), (5, .int 2), (3, .int 3), (0, .ref o), (1, .int 0), (2, .int e)]) hx hb dX5_keep_59 hl (by decide) rfl (fun ls hl => ?_)
          refine lv_iinc (v := 3) (lv' := [(5, .int 3), (4, .int 1), (3, .int 3), (0, .ref o), (1, .int 0), (2, .int e)]) hx hb dX5_keep_61 hl (k := 1) rfl (by decide) (by decide) rfl (fun ls hl => ?_)
          refine lv_goto (tgt := 24) hx hb dX5_keep_64 (by decide) ?_
          refine lv_iload hx hb dX5_keep_24 (lv_at hl 0 rfl) ?_
          refine lv_iload_n hx hb dX5_keep_26 rfl (lv_at hl 2 rfl) ?_
          refine lv_icmp_ge (tgt := 67) hx hb dX5_keep_27 (by decide) (fun _ => ?_) (fun h => absurd (by decide) h)
          refine lv_iload hx hb dX5_keep_67 (lv_at hl 1 rfl) ?_
          refine lv_if_eq (tgt := 75) hx hb dX5_keep_69 (by decide) (fun h => absurd h (by decide)) (fun _ => ?_)
          refine lv_ldc hx hb hown k_8 dX5_keep_72 ?_
          have he : z5_keep_0 gm ff gp e = ((-1000006), gm, gp) := by unfold z5_keep_0; rw [if_neg c_1, if_neg c_2, if_neg c_3, if_pos c_4]
          have he_0 : (z5_keep_0 gm ff gp e).1 = (-1000006) := by rw [he]
          have he_1 : (z5_keep_0 gm ff gp e).2.1 = gm := by rw [he]
          have he_2 : (z5_keep_0 gm ff gp e).2.2 = gp := by rw [he]
          exact rt_i (w1 := fun uu : (Nat → Int64) => [kM o mP mL mC mN mF mR mD mV mX mA mK cm mT pm mU mH mI, kA mN cI 3 ((z5_keep_0 gm ff gp e).2.1), kJ mF cJ 6 uu, kA mP cI 180 ((z5_keep_0 gm ff gp e).2.2)]) hx hb hr hlk hS dX5_keep_74 ((z5_norm_3_6 ff).2) he_0.symm (by (try dsimp only); rw [he_1, he_2]; exact hP) (by (try dsimp only); rw [he_1, he_2]; exact hD)
      · skip
        refine lv_iconst (v := 1) hx hb dX5_keep_54 (by decide) ?_
        refine lv_goto (tgt := 59) hx hb dX5_keep_55 (by decide) ?_
        refine lv_istore (lv' := [(4, .int 1), (5, .int 1), (3, .int 3), (0, .ref o), (1, .int 0), (2, .int e)]) hx hb dX5_keep_59 hl (by decide) rfl (fun ls hl => ?_)
        refine lv_iinc (v := 2) (lv' := [(5, .int 2), (4, .int 1), (3, .int 3), (0, .ref o), (1, .int 0), (2, .int e)]) hx hb dX5_keep_61 hl (k := 1) rfl (by decide) (by decide) rfl (fun ls hl => ?_)
        refine lv_goto (tgt := 24) hx hb dX5_keep_64 (by decide) ?_
        refine lv_iload hx hb dX5_keep_24 (lv_at hl 0 rfl) ?_
        refine lv_iload_n hx hb dX5_keep_26 rfl (lv_at hl 2 rfl) ?_
        refine lv_icmp_ge (tgt := 67) hx hb dX5_keep_27 (by decide) (fun h => absurd h (by decide)) (fun _ => ?_)
        refine lv_iload hx hb dX5_keep_30 (lv_at hl 1 rfl) ?_
        refine lv_if_ne (tgt := 54) hx hb dX5_keep_32 (by decide) (fun _ => ?_) (fun h => absurd h (by decide))
        refine lv_iconst (v := 1) hx hb dX5_keep_54 (by decide) ?_
        refine lv_goto (tgt := 59) hx hb dX5_keep_55 (by decide) ?_
        refine lv_istore (lv' := [(4, .int 1), (5, .int 2), (3, .int 3), (0, .ref o), (1, .int 0), (2, .int e)]) hx hb dX5_keep_59 hl (by decide) rfl (fun ls hl => ?_)
        refine lv_iinc (v := 3) (lv' := [(5, .int 3), (4, .int 1), (3, .int 3), (0, .ref o), (1, .int 0), (2, .int e)]) hx hb dX5_keep_61 hl (k := 1) rfl (by decide) (by decide) rfl (fun ls hl => ?_)
        refine lv_goto (tgt := 24) hx hb dX5_keep_64 (by decide) ?_
        refine lv_iload hx hb dX5_keep_24 (lv_at hl 0 rfl) ?_
        refine lv_iload_n hx hb dX5_keep_26 rfl (lv_at hl 2 rfl) ?_
        refine lv_icmp_ge (tgt := 67) hx hb dX5_keep_27 (by decide) (fun _ => ?_) (fun h => absurd (by decide) h)
        refine lv_iload hx hb dX5_keep_67 (lv_at hl 1 rfl) ?_
        refine lv_if_eq (tgt := 75) hx hb dX5_keep_69 (by decide) (fun h => absurd h (by decide)) (fun _ => ?_)
        refine lv_ldc hx hb hown k_8 dX5_keep_72 ?_
        have he : z5_keep_0 gm ff gp e = ((-1000006), gm, gp) := by unfold z5_keep_0; rw [if_neg c_1, if_neg c_2, if_pos c_3]
        have he_0 : (z5_keep_0 gm ff gp e).1 = (-1000006) := by rw [he]
        have he_1 : (z5_keep_0 gm ff gp e).2.1 = gm := by rw [he]
        have he_2 : (z5_keep_0 gm ff gp e).2.2 = gp := by rw [he]
        exact rt_i (w1 := fun uu : (Nat → Int64) => [kM o mP mL mC mN mF mR mD mV mX mA mK cm mT pm mU mH mI, kA mN cI 3 ((z5_keep_0 gm ff gp e).2.1), kJ mF cJ 6 uu, kA mP cI 180 ((z5_keep_0 gm ff gp e).2.2)]) hx hb hr hlk hS dX5_keep_74 ((z5_norm_3_6 ff).2) he_0.symm (by (try dsimp only); rw [he_1, he_2]; exact hP) (by (try dsimp only); rw [he_1, he_2]; exact hD)
    · skip
      refine lv_iconst (v := 1) hx hb dX5_keep_54 (by decide) ?_
      refine lv_goto (tgt := 59) hx hb dX5_keep_55 (by decide) ?_
      refine lv_istore (lv' := [(4, .int 1), (5, .int 0), (3, .int 3), (0, .ref o), (1, .int 0), (2, .int e)]) hx hb dX5_keep_59 hl (by decide) rfl (fun ls hl => ?_)
      refine lv_iinc (v := 1) (lv' := [(5, .int 1), (4, .int 1), (3, .int 3), (0, .ref o), (1, .int 0), (2, .int e)]) hx hb dX5_keep_61 hl (k := 1) rfl (by decide) (by decide) rfl (fun ls hl => ?_)
      refine lv_goto (tgt := 24) hx hb dX5_keep_64 (by decide) ?_
      refine lv_iload hx hb dX5_keep_24 (lv_at hl 0 rfl) ?_
      refine lv_iload_n hx hb dX5_keep_26 rfl (lv_at hl 2 rfl) ?_
      refine lv_icmp_ge (tgt := 67) hx hb dX5_keep_27 (by decide) (fun h => absurd h (by decide)) (fun _ => ?_)
      refine lv_iload hx hb dX5_keep_30 (lv_at hl 1 rfl) ?_
      refine lv_if_ne (tgt := 54) hx hb dX5_keep_32 (by decide) (fun _ => ?_) (fun h => absurd h (by decide))
      refine lv_iconst (v := 1) hx hb dX5_keep_54 (by decide) ?_
      refine lv_goto (tgt := 59) hx hb dX5_keep_55 (by decide) ?_
      refine lv_istore (lv' := [(4, .int 1), (5, .int 1), (3, .int 3), (0, .ref o), (1, .int 0), (2, .int e)]) hx hb dX5_keep_59 hl (by decide) rfl (fun ls hl => ?_)
      refine lv_iinc (v := 2) (lv' := [(5, .int 2), (4, .int 1), (3, .int 3), (0, .ref o), (1, .int 0), (2, .int e)]) hx hb dX5_keep_61 hl (k := 1) rfl (by decide) (by decide) rfl (fun ls hl => ?_)
      refine lv_goto (tgt := 24) hx hb dX5_keep_64 (by decide) ?_
      refine lv_iload hx hb dX5_keep_24 (lv_at hl 0 rfl) ?_
      refine lv_iload_n hx hb dX5_keep_26 rfl (lv_at hl 2 rfl) ?_
      refine lv_icmp_ge (tgt := 67) hx hb dX5_keep_27 (by decide) (fun h => absurd h (by decide)) (fun _ => ?_)
      refine lv_iload hx hb dX5_keep_30 (lv_at hl 1 rfl) ?_
      refine lv_if_ne (tgt := 54) hx hb dX5_keep_32 (by decide) (fun _ => ?_) (fun h => absurd h (by decide))
      refine lv_iconst (v := 1) hx hb dX5_keep_54 (by decide) ?_
      refine lv_goto (tgt := 59) hx hb dX5_keep_55 (by decide) ?_
      refine lv_istore (lv' := [(4, .int 1), (5, .int 2), (3, .int 3), (0, .ref o), (1, .int 0), (2, .int e)]) hx hb dX5_keep_59 hl (by decide) rfl (fun ls hl => ?_)
      refine lv_iinc (v := 3) (lv' := [(5, .int 3), (4, .int 1), (3, .int 3), (0, .ref o), (1, .int 0), (2, .int e)]) hx hb dX5_keep_61 hl (k := 1) rfl (by decide) (by decide) rfl (fun ls hl => ?_)
      refine lv_goto (tgt := 24) hx hb dX5_keep_64 (by decide) ?_
      refine lv_iload hx hb dX5_keep_24 (lv_at hl 0 rfl) ?_
      refine lv_iload_n hx hb dX5_keep_26 rfl (lv_at hl 2 rfl) ?_
      refine lv_icmp_ge (tgt := 67) hx hb dX5_keep_27 (by decide) (fun _ => ?_) (fun h => absurd (by decide) h)
      refine lv_iload hx hb dX5_keep_67 (lv_at hl 1 rfl) ?_
      refine lv_if_eq (tgt := 75) hx hb dX5_keep_69 (by decide) (fun h => absurd h (by decide)) (fun _ => ?_)
      refine lv_ldc hx hb hown k_8 dX5_keep_72 ?_
      have he : z5_keep_0 gm ff gp e = ((-1000006), gm, gp) := by unfold z5_keep_0; rw [if_neg c_1, if_pos c_2]
      have he_0 : (z5_keep_0 gm ff gp e).1 = (-1000006) := by rw [he]
      have he_1 : (z5_keep_0 gm ff gp e).2.1 = gm := by rw [he]
      have he_2 : (z5_keep_0 gm ff gp e).2.2 = gp := by rw [he]
      exact rt_i (w1 := fun uu : (Nat → Int64) => [kM o mP mL mC mN mF mR mD mV mX mA mK cm mT pm mU mH mI, kA mN cI 3 ((z5_keep_0 gm ff gp e).2.1), kJ mF cJ 6 uu, kA mP cI 180 ((z5_keep_0 gm ff gp e).2.2)]) hx hb hr hlk hS dX5_keep_74 ((z5_norm_3_6 ff).2) he_0.symm (by (try dsimp only); rw [he_1, he_2]; exact hP) (by (try dsimp only); rw [he_1, he_2]; exact hD)
  · skip
    refine lv_iload_n hx hb dX5_keep_16 rfl (lv_at hl 3 rfl) ?_
    have he : z5_keep_0 gm ff gp e = (e, gm, gp) := by unfold z5_keep_0; rw [if_pos c_1]
    have he_0 : (z5_keep_0 gm ff gp e).1 = e := by rw [he]
    have he_1 : (z5_keep_0 gm ff gp e).2.1 = gm := by rw [he]
    have he_2 : (z5_keep_0 gm ff gp e).2.2 = gp := by rw [he]
    exact rt_i (w1 := fun uu : (Nat → Int64) => [kM o mP mL mC mN mF mR mD mV mX mA mK cm mT pm mU mH mI, kA mN cI 3 ((z5_keep_0 gm ff gp e).2.1), kJ mF cJ 6 uu, kA mP cI 180 ((z5_keep_0 gm ff gp e).2.2)]) hx hb hr hlk hS dX5_keep_17 ((z5_norm_3_6 ff).2) he_0.symm (by (try dsimp only); rw [he_1, he_2]; exact hP) (by (try dsimp only); rw [he_1, he_2]; exact hD)
def z5_keep_1 (gm : Nat → Int32) (ff : Nat → Int64) (gl : Nat → Int32) (e : Int32) : Int32 × (Nat → Int32) × (Nat → Int32) := if ((z5_norm_3_6 ff).1) = 0 then (e, gm, gl) else if (z5_in (((z5_norm_3_6 ff).2) 0) (-500) 500) = 0 then ((-1000006), gm, gl) else if (z5_in (((z5_norm_3_6 ff).2) 1) (-500) 500) = 0 then ((-1000006), gm, gl) else if (z5_in (((z5_norm_3_6 ff).2) 2) (-500) 500) = 0 then ((-1000006), gm, gl) else if (gm 1) = 60 then ((-1000005), gm, gl) else (gm 1, upd gm 1 ((gm 1) + 1), upd (upd (upd gl (((3 * (gm 1)) + 0).toNatClampNeg) ((((z5_norm_3_6 ff).2) 0).toInt32)) (((3 * (gm 1)) + 1).toNatClampNeg) ((((z5_norm_3_6 ff).2) 1).toInt32)) (((3 * (gm 1)) + 2).toNatClampNeg) ((((z5_norm_3_6 ff).2) 2).toInt32))
set_option maxHeartbeats 4000000 in
set_option maxRecDepth 100000 in
/-- X5.keep -/
theorem c_X5_keep_1 (l : Launch) (D : va_G) (cI cJ : ClassId) (o : Nat) (mP : Nat) (mL : Nat) (mC : Nat) (mN : Nat) (mF : Nat) (mR : Nat) (mD : Nat) (mV : Nat) (mX : Nat) (mA : Nat) (mK : Nat) (mT : Nat) (mU : Nat) (mH : Nat) (mI : Nat) (cm : Int32) (pm : Int32) (gm : Nat → Int32) (ff : Nat → Int64) (gl : Nat → Int32) (e : Int32) (hm1 : n_ok (gm 1)) : mw_C l yX5_keep wsX5_keep ({ frames := 2, cells := 0, slots := 0, locals := 54 }) D cI cJ [.ref o, .int 1, .int e] [kM o mP mL mC mN mF mR mD mV mX mA mK cm mT pm mU mH mI, kA mN cI 3 gm, kJ mF cJ 6 ff, kA mL cI 180 gl] (qe_i (fun (r : Int32) (_ : (Nat → Int64)) => r = (z5_keep_1 gm ff gl e).1) (fun uu => [kM o mP mL mC mN mF mR mD mV mX mA mK cm mT pm mU mH mI, kA mN cI 3 ((z5_keep_1 gm ff gl e).2.1), kJ mF cJ 6 uu, kA mL cI 180 ((z5_keep_1 gm ff gl e).2.2)])) := by
  refine mw_in (cc := cX5_keep) (lv := [(0, .ref o), (1, .int 1), (2, .int e)]) (by decide) rfl (Nat.le_of_ble_eq_true rfl) rfl ?_
  intro pG eG sG mG below meth cG ls A hx hb hr hml hown hts hlk hin hP hK hD hA hS hl
  have hown : sG.vm.findClass RX5 = some mG.cls := hown
  have k_1 := hts (.fieldLink RX5 22 "ConicRowsModel" "fresh" "[J") (by decide +kernel)
  have k_2 : ∀ w ∈ wsX50, w ∈ wsX5_keep := by decide +kernel
  have k_3 := hts (.constantLong RX5 72 (-500)) (by decide +kernel)
  have k_4 := hts (.constantLong RX5 74 (500)) (by decide +kernel)
  have k_5 := hts (.fieldLink RX5 19 "ConicRowsModel" "many" "[I") (by decide +kernel)
  have k_6 := hts (.fieldLink RX5 13 "ConicRowsModel" "lines" "[I") (by decide +kernel)
  have k_7 := hts (.constant RX5 77 (-1000005)) (by decide +kernel)
  have k_8 := hts (.constant RX5 76 (-1000006)) (by decide +kernel)
  refine lv_iload_n hx hb dX5_keep_0 rfl (lv_at hl 1 rfl) ?_
  have hPc := hP.sub (ws' := []) [] rfl
  refine cr_i (va_runS (As := [.int 1]) (rest := []) ⟨hx, hb, hml, hown, hts⟩ (c_X5_wide l D cI cJ 1) (va_cwS 1 hts gX5_keep_X5_wide rfl rfl rfl (by decide +kernel) ⟨Nat.le_of_ble_eq_true rfl, Nat.le_of_ble_eq_true rfl⟩) ⟨gd_blR, gd_prR hPc hK⟩ rfl rfl hl.1 rfl (lv_room (Nat.le_of_ble_eq_true rfl)) dX5_keep_1 ⟨Nat.zero_le _, Nat.zero_le _⟩) (fun r_1 hw => ?_)
  subst hw
  clear hPc
  refine lv_eqi (v := 3) (by decide) ?_
  refine lv_istore_n (lv' := [(3, .int 3), (0, .ref o), (1, .int 1), (2, .int e)]) hx hb dX5_keep_4 rfl hl (by decide) rfl (fun ls hl => ?_)
  refine lv_aload_n hx hb dX5_keep_5 rfl (lv_at hl 1 rfl) ?_
  refine va_get (D := D) (ci := 5) (v := .ref mF) (C := RX5) (T := TX5) (N := 17) hx hb hts k_2 hown hK.1 hP 0 rfl rfl 4 (by decide) k_1 (fun _ h9 => h9) rfl dX5_keep_6 ?_
  refine lv_iload_n hx hb dX5_keep_9 rfl (lv_at hl 0 rfl) ?_
  have hPc := hP.sub (ws' := [kJ mF cJ 6 ff]) [2] rfl
  have hDc := hD.sub (ws' := [kJ mF cJ 6 ff]) [2] (by decide) rfl
  refine cl_i (wc := [kJ mF cJ 6 ff]) (wr := [kM o mP mL mC mN mF mR mD mV mX mA mK cm mT pm mU mH mI, kA mN cI 3 gm, kA mL cI 180 gl]) (w1 := fun uu : Unit => [kJ mF cJ 6 ((z5_norm_3_6 ff).2)]) (wn := fun uu : Unit => [kM o mP mL mC mN mF mR mD mV mX mA mK cm mT pm mU mH mI, kA mN cI 3 gm, kJ mF cJ 6 ((z5_norm_3_6 ff).2), kA mL cI 180 gl]) (va_runS (As := [.ref mF, .int 3]) (rest := []) ⟨hx, hb, hml, hown, hts⟩ (c_X5_norm_3_6 l D cI cJ mF ff _) (va_cwS 2 hts gX5_keep_X5_norm rfl rfl rfl (by decide +kernel) ⟨Nat.le_of_ble_eq_true rfl, Nat.le_of_ble_eq_true rfl⟩) ⟨gd_blP, gd_prP hPc hK hDc⟩ rfl rfl hl.1 rfl (lv_room (Nat.le_of_ble_eq_true rfl)) dX5_keep_10 ⟨Nat.zero_le _, Nat.zero_le _⟩) hP hD hS hA [2] [0, 1, 3] rfl rfl (by decide) (by decide) [0, 1, 3, 2] (by decide) (fun _ => rfl) (fun r_10 uG H locs hw hP hD hS => ?_)
  have hP : va_P D vwCl [kM o mP mL mC mN mF mR mD mV mX mA mK cm mT pm mU mH mI, kA mN cI 3 gm, kJ mF cJ 6 ((z5_norm_3_6 ff).2), kA mL cI 180 gl] H := hP
  have hD : va_D A [kM o mP mL mC mN mF mR mD mV mX mA mK cm mT pm mU mH mI, kA mN cI 3 gm, kJ mF cJ 6 ((z5_norm_3_6 ff).2), kA mL cI 180 gl] := hD
  subst hw
  clear hPc hDc
  refine lv_if_ne (tgt := 18) hx hb dX5_keep_13 (by decide) (fun c_1 => ?_) (fun c_1 => ?_)
  · skip
    refine lv_iconst (v := 0) hx hb dX5_keep_18 (by decide) ?_
    refine lv_istore (lv' := [(4, .int 0), (3, .int 3), (0, .ref o), (1, .int 1), (2, .int e)]) hx hb dX5_keep_19 hl (by decide) rfl (fun ls hl => ?_)
    refine lv_iconst (v := 0) hx hb dX5_keep_21 (by decide) ?_
    refine lv_istore (lv' := [(5, .int 0), (4, .int 0), (3, .int 3), (0, .ref o), (1, .int 1), (2, .int e)]) hx hb dX5_keep_22 hl (by decide) rfl (fun ls hl => ?_)
    refine lv_iload hx hb dX5_keep_24 (lv_at hl 0 rfl) ?_
    refine lv_iload_n hx hb dX5_keep_26 rfl (lv_at hl 2 rfl) ?_
    refine lv_icmp_ge (tgt := 67) hx hb dX5_keep_27 (by decide) (fun h => absurd h (by decide)) (fun _ => ?_)
    refine lv_iload hx hb dX5_keep_30 (lv_at hl 1 rfl) ?_
    refine lv_if_ne (tgt := 54) hx hb dX5_keep_32 (by decide) (fun h => absurd (by decide) h) (fun _ => ?_)
    refine lv_aload_n hx hb dX5_keep_35 rfl (lv_at hl 3 rfl) ?_
    refine va_get (D := D) (ci := 5) (v := .ref mF) (C := RX5) (T := TX5) (N := 17) hx hb hts k_2 hown hK.1 hP 0 rfl rfl 4 (by decide) k_1 (fun _ h9 => h9) rfl dX5_keep_36 ?_
    refine lv_iload hx hb dX5_keep_39 (lv_at hl 0 rfl) ?_
    refine ld_l hx hb hK.1 hP 2 1 rfl rfl (ix_lit (by decide)) 0 (by decide) (v := ((z5_norm_3_6 ff).2) 0) rfl dX5_keep_41 ?_
    refine lv_ldc2 hx hb hown k_3 dX5_keep_42 ?_
    refine lv_ldc2 hx hb hown k_4 dX5_keep_45 ?_
    have hPc := hP.sub (ws' := []) [] rfl
    refine cr_i (va_runS (As := [.long (((z5_norm_3_6 ff).2) 0), .long (-500), .long 500]) (rest := []) ⟨hx, hb, hml, hown, hts⟩ (c_X5_in l D cI cJ (((z5_norm_3_6 ff).2) 0) (-500) 500) (va_cwS 3 hts gX5_keep_X5_in rfl rfl rfl (by decide +kernel) ⟨Nat.le_of_ble_eq_true rfl, Nat.le_of_ble_eq_true rfl⟩) ⟨gd_blR, gd_prR hPc hK⟩ rfl rfl hl.1 rfl (lv_room (Nat.le_of_ble_eq_true rfl)) dX5_keep_48 ⟨Nat.zero_le _, Nat.zero_le _⟩) (fun r_48 hw => ?_)
    subst hw
    clear hPc
    refine lv_if_ne (tgt := 58) hx hb dX5_keep_51 (by decide) (fun c_2 => ?_) (fun c_2 => ?_)
    · skip
      refine lv_iconst (v := 0) hx hb dX5_keep_58 (by decide) ?_
      refine lv_istore (lv' := [(4, .int 0), (5, .int 0), (3, .int 3), (0, .ref o), (1, .int 1), (2, .int e)]) hx hb dX5_keep_59 hl (by decide) rfl (fun ls hl => ?_)
      refine lv_iinc (v := 1) (lv' := [(5, .int 1), (4, .int 0), (3, .int 3), (0, .ref o), (1, .int 1), (2, .int e)]) hx hb dX5_keep_61 hl (k := 1) rfl (by decide) (by decide) rfl (fun ls hl => ?_)
      refine lv_goto (tgt := 24) hx hb dX5_keep_64 (by decide) ?_
      refine lv_iload hx hb dX5_keep_24 (lv_at hl 0 rfl) ?_
      refine lv_iload_n hx hb dX5_keep_26 rfl (lv_at hl 2 rfl) ?_
      refine lv_icmp_ge (tgt := 67) hx hb dX5_keep_27 (by decide) (fun h => absurd h (by decide)) (fun _ => ?_)
      refine lv_iload hx hb dX5_keep_30 (lv_at hl 1 rfl) ?_
      refine lv_if_ne (tgt := 54) hx hb dX5_keep_32 (by decide) (fun h => absurd (by decide) h) (fun _ => ?_)
      refine lv_aload_n hx hb dX5_keep_35 rfl (lv_at hl 3 rfl) ?_
      refine va_get (D := D) (ci := 5) (v := .ref mF) (C := RX5) (T := TX5) (N := 17) hx hb hts k_2 hown hK.1 hP 0 rfl rfl 4 (by decide) k_1 (fun _ h9 => h9) rfl dX5_keep_36 ?_
      refine lv_iload hx hb dX5_keep_39 (lv_at hl 0 rfl) ?_
      refine ld_l hx hb hK.1 hP 2 1 rfl rfl (ix_lit (by decide)) 1 (by decide) (v := ((z5_norm_3_6 ff).2) 1) rfl dX5_keep_41 ?_
      refine lv_ldc2 hx hb hown k_3 dX5_keep_42 ?_
      refine lv_ldc2 hx hb hown k_4 dX5_keep_45 ?_
      have hPc := hP.sub (ws' := []) [] rfl
      refine cr_i (va_runS (As := [.long (((z5_norm_3_6 ff).2) 1), .long (-500), .long 500]) (rest := []) ⟨hx, hb, hml, hown, hts⟩ (c_X5_in l D cI cJ (((z5_norm_3_6 ff).2) 1) (-500) 500) (va_cwS 3 hts gX5_keep_X5_in rfl rfl rfl (by decide +kernel) ⟨Nat.le_of_ble_eq_true rfl, Nat.le_of_ble_eq_true rfl⟩) ⟨gd_blR, gd_prR hPc hK⟩ rfl rfl hl.1 rfl (lv_room (Nat.le_of_ble_eq_true rfl)) dX5_keep_48 ⟨Nat.zero_le _, Nat.zero_le _⟩) (fun r_48 hw => ?_)
      subst hw
      clear hPc
      refine lv_if_ne (tgt := 58) hx hb dX5_keep_51 (by decide) (fun c_3 => ?_) (fun c_3 => ?_)
      · skip
        refine lv_iconst (v := 0) hx hb dX5_keep_58 (by decide) ?_
        refine lv_istore (lv' := [(4, .int 0), (5, .int 1), (3, .int 3), (0, .ref o), (1, .int 1), (2, .int e)]) hx hb dX5_keep_59 hl (by decide) rfl (fun ls hl => ?_)
        refine lv_iinc (v := 2) (lv' := [(5, .int 2), (4, .int 0), (3, .int 3), (0, .ref o), (1, .int 1), (2, .int e)]) hx hb dX5_keep_61 hl (k := 1) rfl (by decide) (by decide) rfl (fun ls hl => ?_)
        refine lv_goto (tgt := 24) hx hb dX5_keep_64 (by decide) ?_
        refine lv_iload hx hb dX5_keep_24 (lv_at hl 0 rfl) ?_
        refine lv_iload_n hx hb dX5_keep_26 rfl (lv_at hl 2 rfl) ?_
        refine lv_icmp_ge (tgt := 67) hx hb dX5_keep_27 (by decide) (fun h => absurd h (by decide)) (fun _ => ?_)
        refine lv_iload hx hb dX5_keep_30 (lv_at hl 1 rfl) ?_
        refine lv_if_ne (tgt := 54) hx hb dX5_keep_32 (by decide) (fun h => absurd (by decide) h) (fun _ => ?_)
        refine lv_aload_n hx hb dX5_keep_35 rfl (lv_at hl 3 rfl) ?_
        refine va_get (D := D) (ci := 5) (v := .ref mF) (C := RX5) (T := TX5) (N := 17) hx hb hts k_2 hown hK.1 hP 0 rfl rfl 4 (by decide) k_1 (fun _ h9 => h9) rfl dX5_keep_36 ?_
        refine lv_iload hx hb dX5_keep_39 (lv_at hl 0 rfl) ?_
        refine ld_l hx hb hK.1 hP 2 1 rfl rfl (ix_lit (by decide)) 2 (by decide) (v := ((z5_norm_3_6 ff).2) 2) rfl dX5_keep_41 ?_
        refine lv_ldc2 hx hb hown k_3 dX5_keep_42 ?_
        refine lv_ldc2 hx hb hown k_4 dX5_keep_45 ?_
        have hPc := hP.sub (ws' := []) [] rfl
        refine cr_i (va_runS (As := [.long (((z5_norm_3_6 ff).2) 2), .long (-500), .long 500]) (rest := []) ⟨hx, hb, hml, hown, hts⟩ (c_X5_in l D cI cJ (((z5_norm_3_6 ff).2) 2) (-500) 500) (va_cwS 3 hts gX5_keep_X5_in rfl rfl rfl (by decide +kernel) ⟨Nat.le_of_ble_eq_true rfl, Nat.le_of_ble_eq_true rfl⟩) ⟨gd_blR, gd_prR hPc hK⟩ rfl rfl hl.1 rfl (lv_room (Nat.le_of_ble_eq_true rfl)) dX5_keep_48 ⟨Nat.zero_le _, Nat.zero_le _⟩) (fun r_48 hw => ?_)
        subst hw
        clear hPc
        refine lv_if_ne (tgt := 58) hx hb dX5_keep_51 (by decide) (fun c_4 => ?_) (fun c_4 => ?_)
        · skip
          refine lv_iconst (v := 0) hx hb dX5_keep_58 (by decide) ?_
          refine lv_istore (lv' := [(4, .int 0), (5, .int 2), (3, .int 3), (0, .ref o), (1, .int 1), (2, .int e)]) hx hb dX5_keep_59 hl (by decide) rfl (fun ls hl => ?_)
          refine lv_iinc (v := 3) (lv' := [(5, .int 3), (4, .int 0), (3, .int 3), (0, .ref o), (1, .int 1), (2, .int e)]) hx hb dX5_keep_61 hl (k := 1) rfl (by decide) (by decide) rfl (fun ls hl => ?_)
          refine lv_goto (tgt := 24) hx hb dX5_keep_64 (by decide) ?_
          refine lv_iload hx hb dX5_keep_24 (lv_at hl 0 rfl) ?_
          refine lv_iload_n hx hb dX5_keep_26 rfl (lv_at hl 2 rfl) ?_
          refine lv_icmp_ge (tgt := 67) hx hb dX5_keep_27 (by decide) (fun _ => ?_) (fun h => absurd (by decide) h)
          refine lv_iload hx hb dX5_keep_67 (lv_at hl 1 rfl) ?_
          refine lv_if_eq (tgt := 75) hx hb dX5_keep_69 (by decide) (fun _ => ?_) (fun h => absurd (by decide) h)
          refine lv_aload_n hx hb dX5_keep_75 rfl (lv_at hl 3 rfl) ?_
          refine va_get (D := D) (ci := 5) (v := .ref mN) (C := RX5) (T := TX5) (N := 17) hx hb hts k_2 hown hK.1 hP 0 rfl rfl 3 (by decide) k_5 (fun _ h9 => h9) rfl dX5_keep_76 ?_
          refine lv_iload_n hx hb dX5_keep_79 rfl (lv_at hl 4 rfl) ?_
          refine ld_i hx hb hK.1 hP 1 0 rfl rfl (ix_lit (by decide)) 1 (by decide) (v := gm 1) rfl dX5_keep_80 ?_
          refine lv_bipush (v := 60) hx hb dX5_keep_81 (by decide) ?_
          refine lv_icmp_ne (tgt := 89) hx hb dX5_keep_83 (by decide) (fun c_5 => ?_) (fun c_5 => ?_)
          · skip
            refine lv_aload_n hx hb dX5_keep_89 rfl (lv_at hl 3 rfl) ?_
            refine va_get (D := D) (ci := 5) (v := .ref mN) (C := RX5) (T := TX5) (N := 17) hx hb hts k_2 hown hK.1 hP 0 rfl rfl 3 (by decide) k_5 (fun _ h9 => h9) rfl dX5_keep_90 ?_
            refine lv_iload_n hx hb dX5_keep_93 rfl (lv_at hl 4 rfl) ?_
            refine ld_i hx hb hK.1 hP 1 0 rfl rfl (ix_lit (by decide)) 1 (by decide) (v := gm 1) rfl dX5_keep_94 ?_
            refine lv_istore (lv' := [(5, .int (gm 1)), (4, .int 0), (3, .int 3), (0, .ref o), (1, .int 1), (2, .int e)]) hx hb dX5_keep_95 hl (by decide) rfl (fun ls hl => ?_)
            refine lv_iconst (v := 0) hx hb dX5_keep_97 (by decide) ?_
            refine lv_istore (lv' := [(6, .int 0), (5, .int (gm 1)), (4, .int 0), (3, .int 3), (0, .ref o), (1, .int 1), (2, .int e)]) hx hb dX5_keep_98 hl (by decide) rfl (fun ls hl => ?_)
            refine lv_iload hx hb dX5_keep_100 (lv_at hl 0 rfl) ?_
            refine lv_iload_n hx hb dX5_keep_102 rfl (lv_at hl 3 rfl) ?_
            refine lv_icmp_ge (tgt := 188) hx hb dX5_keep_103 (by decide) (fun h => absurd h (by decide)) (fun _ => ?_)
            refine lv_iload_n hx hb dX5_keep_106 rfl (lv_at hl 5 rfl) ?_
            refine lv_if_ne (tgt := 133) hx hb dX5_keep_107 (by decide) (fun _ => ?_) (fun h => absurd h (by decide))
            refine lv_iload_n hx hb dX5_keep_133 rfl (lv_at hl 5 rfl) ?_
            refine lv_iconst (v := 1) hx hb dX5_keep_134 (by decide) ?_
            refine lv_icmp_ne (tgt := 161) hx hb dX5_keep_135 (by decide) (fun h => absurd (by decide) h) (fun _ => ?_)
            refine lv_aload_n hx hb dX5_keep_138 rfl (lv_at hl 4 rfl) ?_
            refine va_get (D := D) (ci := 5) (v := .ref mL) (C := RX5) (T := TX5) (N := 17) hx hb hts k_2 hown hK.1 hP 0 rfl rfl 1 (by decide) k_6 (fun _ h9 => h9) rfl dX5_keep_139 ?_
            refine lv_iconst (v := 3) hx hb dX5_keep_142 (by decide) ?_
            refine lv_iload hx hb dX5_keep_143 (lv_at hl 1 rfl) ?_
            refine lv_imul hx hb dX5_keep_145 ?_
            refine lv_iload hx hb dX5_keep_146 (lv_at hl 0 rfl) ?_
            refine lv_iadd hx hb dX5_keep_148 ?_
            refine lv_aload_n hx hb dX5_keep_149 rfl (lv_at hl 4 rfl) ?_
            refine va_get (D := D) (ci := 5) (v := .ref mF) (C := RX5) (T := TX5) (N := 17) hx hb hts k_2 hown hK.1 hP 0 rfl rfl 4 (by decide) k_1 (fun _ h9 => h9) rfl dX5_keep_150 ?_
            refine lv_iload hx hb dX5_keep_153 (lv_at hl 0 rfl) ?_
            refine ld_l hx hb hK.1 hP 2 1 rfl rfl (ix_lit (by decide)) 0 (by decide) (v := ((z5_norm_3_6 ff).2) 0) rfl dX5_keep_155 ?_
            refine lv_l2i hx hb dX5_keep_156 rfl ?_
            refine st_i hx hb hK.1 hP hD hS 3 0 rfl rfl (ix3l (ok_n hm1 c_5) 0 (by decide)) (((3 * (gm 1)) + 0).toNatClampNeg) rfl dX5_keep_157 (fun H locs hP hD hS => ?_)
            have hP : va_P D vwCl [kM o mP mL mC mN mF mR mD mV mX mA mK cm mT pm mU mH mI, kA mN cI 3 gm, kJ mF cJ 6 ((z5_norm_3_6 ff).2), kA mL cI 180 (upd gl (((3 * (gm 1)) + 0).toNatClampNeg) ((((z5_norm_3_6 ff).2) 0).toInt32))] H := hP
            have hD : va_D A [kM o mP mL mC mN mF mR mD mV mX mA mK cm mT pm mU mH mI, kA mN cI 3 gm, kJ mF cJ 6 ((z5_norm_3_6 ff).2), kA mL cI 180 (upd gl (((3 * (gm 1)) + 0).toNatClampNeg) ((((z5_norm_3_6 ff).2) 0).toInt32))] := hD
            refine lv_goto (tgt := 182) hx hb dX5_keep_158 (by decide) ?_
            refine lv_iinc (v := 1) (lv' := [(6, .int 1), (5, .int (gm 1)), (4, .int 0), (3, .int 3), (0, .ref o), (1, .int 1), (2, .int e)]) hx hb dX5_keep_182 hl (k := 0) rfl (by decide) (by decide) rfl (fun ls hl => ?_)
            refine lv_goto (tgt := 100) hx hb dX5_keep_185 (by decide) ?_
            refine lv_iload hx hb dX5_keep_100 (lv_at hl 0 rfl) ?_
            refine lv_iload_n hx hb dX5_keep_102 rfl (lv_at hl 3 rfl) ?_
            refine lv_icmp_ge (tgt := 188) hx hb dX5_keep_103 (by decide) (fun h => absurd h (by decide)) (fun _ => ?_)
            refine lv_iload_n hx hb dX5_keep_106 rfl (lv_at hl 5 rfl) ?_
            refine lv_if_ne (tgt := 133) hx hb dX5_keep_107 (by decide) (fun _ => ?_) (fun h => absurd h (by decide))
            refine lv_iload_n hx hb dX5_keep_133 rfl (lv_at hl 5 rfl) ?_
            refine lv_iconst (v := 1) hx hb dX5_keep_134 (by decide) ?_
            refine lv_icmp_ne (tgt := 161) hx hb dX5_keep_135 (by decide) (fun h => absurd (by decide) h) (fun _ => ?_)
            refine lv_aload_n hx hb dX5_keep_138 rfl (lv_at hl 4 rfl) ?_
            refine va_get (D := D) (ci := 5) (v := .ref mL) (C := RX5) (T := TX5) (N := 17) hx hb hts k_2 hown hK.1 hP 0 rfl rfl 1 (by decide) k_6 (fun _ h9 => h9) rfl dX5_keep_139 ?_
            refine lv_iconst (v := 3) hx hb dX5_keep_142 (by decide) ?_
            refine lv_iload hx hb dX5_keep_143 (lv_at hl 1 rfl) ?_
            refine lv_imul hx hb dX5_keep_145 ?_
            refine lv_iload hx hb dX5_keep_146 (lv_at hl 0 rfl) ?_
            refine lv_iadd hx hb dX5_keep_148 ?_
            refine lv_aload_n hx hb dX5_keep_149 rfl (lv_at hl 4 rfl) ?_
            refine va_get (D := D) (ci := 5) (v := .ref mF) (C := RX5) (T := TX5) (N := 17) hx hb hts k_2 hown hK.1 hP 0 rfl rfl 4 (by decide) k_1 (fun _ h9 => h9) rfl dX5_keep_150 ?_
            refine lv_iload hx hb dX5_keep_153 (lv_at hl 0 rfl) ?_
            refine ld_l hx hb hK.1 hP 2 1 rfl rfl (ix_lit (by decide)) 1 (by decide) (v := ((z5_norm_3_6 ff).2) 1) rfl dX5_keep_155 ?_
            refine lv_l2i hx hb dX5_keep_156 rfl ?_
            refine st_i hx hb hK.1 hP hD hS 3 0 rfl rfl (ix3l (ok_n hm1 c_5) 1 (by decide)) (((3 * (gm 1)) + 1).toNatClampNeg) rfl dX5_keep_157 (fun H locs hP hD hS => ?_)
            have hP : va_P D vwCl [kM o mP mL mC mN mF mR mD mV mX mA mK cm mT pm mU mH mI, kA mN cI 3 gm, kJ mF cJ 6 ((z5_norm_3_6 ff).2), kA mL cI 180 (upd (upd gl (((3 * (gm 1)) + 0).toNatClampNeg) ((((z5_norm_3_6 ff).2) 0).toInt32)) (((3 * (gm 1)) + 1).toNatClampNeg) ((((z5_norm_3_6 ff).2) 1).toInt32))] H := hP
            have hD : va_D A [kM o mP mL mC mN mF mR mD mV mX mA mK cm mT pm mU mH mI, kA mN cI 3 gm, kJ mF cJ 6 ((z5_norm_3_6 ff).2), kA mL cI 180 (upd (upd gl (((3 * (gm 1)) + 0).toNatClampNeg) ((((z5_norm_3_6 ff).2) 0).toInt32)) (((3 * (gm 1)) + 1).toNatClampNeg) ((((z5_norm_3_6 ff).2) 1).toInt32))] := hD
            refine lv_goto (tgt := 182) hx hb dX5_keep_158 (by decide) ?_
            refine lv_iinc (v := 2) (lv' := [(6, .int 2), (5, .int (gm 1)), (4, .int 0), (3, .int 3), (0, .ref o), (1, .int 1), (2, .int e)]) hx hb dX5_keep_182 hl (k := 0) rfl (by decide) (by decide) rfl (fun ls hl => ?_)
            refine lv_goto (tgt := 100) hx hb dX5_keep_185 (by decide) ?_
            refine lv_iload hx hb dX5_keep_100 (lv_at hl 0 rfl) ?_
            refine lv_iload_n hx hb dX5_keep_102 rfl (lv_at hl 3 rfl) ?_
            refine lv_icmp_ge (tgt := 188) hx hb dX5_keep_103 (by decide) (fun h => absurd h (by decide)) (fun _ => ?_)
            refine lv_iload_n hx hb dX5_keep_106 rfl (lv_at hl 5 rfl) ?_
            refine lv_if_ne (tgt := 133) hx hb dX5_keep_107 (by decide) (fun _ => ?_) (fun h => absurd h (by decide))
            refine lv_iload_n hx hb dX5_keep_133 rfl (lv_at hl 5 rfl) ?_
            refine lv_iconst (v := 1) hx hb dX5_keep_134 (by decide) ?_
            refine lv_icmp_ne (tgt := 161) hx hb dX5_keep_135 (by decide) (fun h => absurd (by decide) h) (fun _ => ?_)
            refine lv_aload_n hx hb dX5_keep_138 rfl (lv_at hl 4 rfl) ?_
            refine va_get (D := D) (ci := 5) (v := .ref mL) (C := RX5) (T := TX5) (N := 17) hx hb hts k_2 hown hK.1 hP 0 rfl rfl 1 (by decide) k_6 (fun _ h9 => h9) rfl dX5_keep_139 ?_
            refine lv_iconst (v := 3) hx hb dX5_keep_142 (by decide) ?_
            refine lv_iload hx hb dX5_keep_143 (lv_at hl 1 rfl) ?_
            refine lv_imul hx hb dX5_keep_145 ?_
            refine lv_iload hx hb dX5_keep_146 (lv_at hl 0 rfl) ?_
            refine lv_iadd hx hb dX5_keep_148 ?_
            refine lv_aload_n hx hb dX5_keep_149 rfl (lv_at hl 4 rfl) ?_
            refine va_get (D := D) (ci := 5) (v := .ref mF) (C := RX5) (T := TX5) (N := 17) hx hb hts k_2 hown hK.1 hP 0 rfl rfl 4 (by decide) k_1 (fun _ h9 => h9) rfl dX5_keep_150 ?_
            refine lv_iload hx hb dX5_keep_153 (lv_at hl 0 rfl) ?_
            refine ld_l hx hb hK.1 hP 2 1 rfl rfl (ix_lit (by decide)) 2 (by decide) (v := ((z5_norm_3_6 ff).2) 2) rfl dX5_keep_155 ?_
            refine lv_l2i hx hb dX5_keep_156 rfl ?_
            refine st_i hx hb hK.1 hP hD hS 3 0 rfl rfl (ix3l (ok_n hm1 c_5) 2 (by decide)) (((3 * (gm 1)) + 2).toNatClampNeg) rfl dX5_keep_157 (fun H locs hP hD hS => ?_)
            have hP : va_P D vwCl [kM o mP mL mC mN mF mR mD mV mX mA mK cm mT pm mU mH mI, kA mN cI 3 gm, kJ mF cJ 6 ((z5_norm_3_6 ff).2), kA mL cI 180 (upd (upd (upd gl (((3 * (gm 1)) + 0).toNatClampNeg) ((((z5_norm_3_6 ff).2) 0).toInt32)) (((3 * (gm 1)) + 1).toNatClampNeg) ((((z5_norm_3_6 ff).2) 1).toInt32)) (((3 * (gm 1)) + 2).toNatClampNeg) ((((z5_norm_3_6 ff).2) 2).toInt32))] H := hP
            have hD : va_D A [kM o mP mL mC mN mF mR mD mV mX mA mK cm mT pm mU mH mI, kA mN cI 3 gm, kJ mF cJ 6 ((z5_norm_3_6 ff).2), kA mL cI 180 (upd (upd (upd gl (((3 * (gm 1)) + 0).toNatClampNeg) ((((z5_norm_3_6 ff).2) 0).toInt32)) (((3 * (gm 1)) + 1).toNatClampNeg) ((((z5_norm_3_6 ff).2) 1).toInt32)) (((3 * (gm 1)) + 2).toNatClampNeg) ((((z5_norm_3_6 ff).2) 2).toInt32))] := hD
            refine lv_goto (tgt := 182) hx hb dX5_keep_158 (by decide) ?_
            refine lv_iinc (v := 3) (lv' := [(6, .int 3), (5, .int (gm 1)), (4, .int 0), (3, .int 3), (0, .ref o), (1, .int 1), (2, .int e)]) hx hb dX5_keep_182 hl (k := 0) rfl (by decide) (by decide) rfl (fun ls hl => ?_)
            refine lv_goto (tgt := 100) hx hb dX5_keep_185 (by decide) ?_
            refine lv_iload hx hb dX5_keep_100 (lv_at hl 0 rfl) ?_
            refine lv_iload_n hx hb dX5_keep_102 rfl (lv_at hl 3 rfl) ?_
            refine lv_icmp_ge (tgt := 188) hx hb dX5_keep_103 (by decide) (fun _ => ?_) (fun h => absurd (by decide) h)
            refine lv_aload_n hx hb dX5_keep_188 rfl (lv_at hl 4 rfl) ?_
            refine va_get (D := D) (ci := 5) (v := .ref mN) (C := RX5) (T := TX5) (N := 17) hx hb hts k_2 hown hK.1 hP 0 rfl rfl 3 (by decide) k_5 (fun _ h9 => h9) rfl dX5_keep_189 ?_
            refine lv_iload_n hx hb dX5_keep_192 rfl (lv_at hl 5 rfl) ?_
            refine lv_dup2_11 hx hb dX5_keep_193 rfl rfl ?_
            refine ld_i hx hb hK.1 hP 1 0 rfl rfl (ix_lit (by decide)) 1 (by decide) (v := gm 1) rfl dX5_keep_194 ?_
            refine lv_iconst (v := 1) hx hb dX5_keep_195 (by decide) ?_
            refine lv_iadd hx hb dX5_keep_196 ?_
            refine st_i hx hb hK.1 hP hD hS 1 0 rfl rfl (ix_lit (by decide)) 1 (by decide) dX5_keep_197 (fun H locs hP hD hS => ?_)
            have hP : va_P D vwCl [kM o mP mL mC mN mF mR mD mV mX mA mK cm mT pm mU mH mI, kA mN cI 3 (upd gm 1 ((gm 1) + 1)), kJ mF cJ 6 ((z5_norm_3_6 ff).2), kA mL cI 180 (upd (upd (upd gl (((3 * (gm 1)) + 0).toNatClampNeg) ((((z5_norm_3_6 ff).2) 0).toInt32)) (((3 * (gm 1)) + 1).toNatClampNeg) ((((z5_norm_3_6 ff).2) 1).toInt32)) (((3 * (gm 1)) + 2).toNatClampNeg) ((((z5_norm_3_6 ff).2) 2).toInt32))] H := hP
            have hD : va_D A [kM o mP mL mC mN mF mR mD mV mX mA mK cm mT pm mU mH mI, kA mN cI 3 (upd gm 1 ((gm 1) + 1)), kJ mF cJ 6 ((z5_norm_3_6 ff).2), kA mL cI 180 (upd (upd (upd gl (((3 * (gm 1)) + 0).toNatClampNeg) ((((z5_norm_3_6 ff).2) 0).toInt32)) (((3 * (gm 1)) + 1).toNatClampNeg) ((((z5_norm_3_6 ff).2) 1).toInt32)) (((3 * (gm 1)) + 2).toNatClampNeg) ((((z5_norm_3_6 ff).2) 2).toInt32))] := hD
            refine lv_iload hx hb dX5_keep_198 (lv_at hl 1 rfl) ?_
            have he : z5_keep_1 gm ff gl e = (gm 1, upd gm 1 ((gm 1) + 1), upd (upd (upd gl (((3 * (gm 1)) + 0).toNatClampNeg) ((((z5_norm_3_6 ff).2) 0).toInt32)) (((3 * (gm 1)) + 1).toNatClampNeg) ((((z5_norm_3_6 ff).2) 1).toInt32)) (((3 * (gm 1)) + 2).toNatClampNeg) ((((z5_norm_3_6 ff).2) 2).toInt32)) := by unfold z5_keep_1; rw [if_neg c_1, if_neg c_2, if_neg c_3, if_neg c_4, if_neg c_5]
            have he_0 : (z5_keep_1 gm ff gl e).1 = gm 1 := by rw [he]
            have he_1 : (z5_keep_1 gm ff gl e).2.1 = upd gm 1 ((gm 1) + 1) := by rw [he]
            have he_2 : (z5_keep_1 gm ff gl e).2.2 = upd (upd (upd gl (((3 * (gm 1)) + 0).toNatClampNeg) ((((z5_norm_3_6 ff).2) 0).toInt32)) (((3 * (gm 1)) + 1).toNatClampNeg) ((((z5_norm_3_6 ff).2) 1).toInt32)) (((3 * (gm 1)) + 2).toNatClampNeg) ((((z5_norm_3_6 ff).2) 2).toInt32) := by rw [he]
            exact rt_i (w1 := fun uu : (Nat → Int64) => [kM o mP mL mC mN mF mR mD mV mX mA mK cm mT pm mU mH mI, kA mN cI 3 ((z5_keep_1 gm ff gl e).2.1), kJ mF cJ 6 uu, kA mL cI 180 ((z5_keep_1 gm ff gl e).2.2)]) hx hb hr hlk hS dX5_keep_200 ((z5_norm_3_6 ff).2) he_0.symm (by (try dsimp only); rw [he_1, he_2]; exact hP) (by (try dsimp only); rw [he_1, he_2]; exact hD)
          · skip
            refine lv_ldc hx hb hown k_7 dX5_keep_86 ?_
            have he : z5_keep_1 gm ff gl e = ((-1000005), gm, gl) := by unfold z5_keep_1; rw [if_neg c_1, if_neg c_2, if_neg c_3, if_neg c_4, if_pos c_5]
            have he_0 : (z5_keep_1 gm ff gl e).1 = (-1000005) := by rw [he]
            have he_1 : (z5_keep_1 gm ff gl e).2.1 = gm := by rw [he]
            have he_2 : (z5_keep_1 gm ff gl e).2.2 = gl := by rw [he]
            exact rt_i (w1 := fun uu : (Nat → Int64) => [kM o mP mL mC mN mF mR mD mV mX mA mK cm mT pm mU mH mI, kA mN cI 3 ((z5_keep_1 gm ff gl e).2.1), kJ mF cJ 6 uu, kA mL cI 180 ((z5_keep_1 gm ff gl e).2.2)]) hx hb hr hlk hS dX5_keep_88 ((z5_norm_3_6 ff).2) he_0.symm (by (try dsimp only); rw [he_1, he_2]; exact hP) (by (try dsimp only); rw [he_1, he_2]; exact hD)
        · skip
          refine lv_iconst (v := 1) hx hb dX5_keep_54 (by decide) ?_
          refine lv_goto (tgt := 59) hx hb dX5_keep_55 (by decide) ?_
          refine lv_istore (lv' := [(4, .int 1), (5, .int 2), (3, .int 3), (0, .ref o), (1, .int 1), (2, .int e)]) hx hb dX5_keep_59 hl (by decide) rfl (fun ls hl => ?_)
          refine lv_iinc (v := 3) (lv' := [(5, .int 3), (4, .int 1), (3, .int 3), (0, .ref o), (1, .int 1), (2, .int e)]) hx hb dX5_keep_61 hl (k := 1) rfl (by decide) (by decide) rfl (fun ls hl => ?_)
          refine lv_goto (tgt := 24) hx hb dX5_keep_64 (by decide) ?_
          refine lv_iload hx hb dX5_keep_24 (lv_at hl 0 rfl) ?_
          refine lv_iload_n hx hb dX5_keep_26 rfl (lv_at hl 2 rfl) ?_
          refine lv_icmp_ge (tgt := 67) hx hb dX5_keep_27 (by decide) (fun _ => ?_) (fun h => absurd (by decide) h)
          refine lv_iload hx hb dX5_keep_67 (lv_at hl 1 rfl) ?_
          refine lv_if_eq (tgt := 75) hx hb dX5_keep_69 (by decide) (fun h => absurd h (by decide)) (fun _ => ?_)
          refine lv_ldc hx hb hown k_8 dX5_keep_72 ?_
          have he : z5_keep_1 gm ff gl e = ((-1000006), gm, gl) := by unfold z5_keep_1; rw [if_neg c_1, if_neg c_2, if_neg c_3, if_pos c_4]
          have he_0 : (z5_keep_1 gm ff gl e).1 = (-1000006) := by rw [he]
          have he_1 : (z5_keep_1 gm ff gl e).2.1 = gm := by rw [he]
          have he_2 : (z5_keep_1 gm ff gl e).2.2 = gl := by rw [he]
          exact rt_i (w1 := fun uu : (Nat → Int64) => [kM o mP mL mC mN mF mR mD mV mX mA mK cm mT pm mU mH mI, kA mN cI 3 ((z5_keep_1 gm ff gl e).2.1), kJ mF cJ 6 uu, kA mL cI 180 ((z5_keep_1 gm ff gl e).2.2)]) hx hb hr hlk hS dX5_keep_74 ((z5_norm_3_6 ff).2) he_0.symm (by (try dsimp only); rw [he_1, he_2]; exact hP) (by (try dsimp only); rw [he_1, he_2]; exact hD)
      · skip
        refine lv_iconst (v := 1) hx hb dX5_keep_54 (by decide) ?_
        refine lv_goto (tgt := 59) hx hb dX5_keep_55 (by decide) ?_
        refine lv_istore (lv' := [(4, .int 1), (5, .int 1), (3, .int 3), (0, .ref o), (1, .int 1), (2, .int e)]) hx hb dX5_keep_59 hl (by decide) rfl (fun ls hl => ?_)
        refine lv_iinc (v := 2) (lv' := [(5, .int 2), (4, .int 1), (3, .int 3), (0, .ref o), (1, .int 1), (2, .int e)]) hx hb dX5_keep_61 hl (k := 1) rfl (by decide) (by decide) rfl (fun ls hl => ?_)
        refine lv_goto (tgt := 24) hx hb dX5_keep_64 (by decide) ?_
        refine lv_iload hx hb dX5_keep_24 (lv_at hl 0 rfl) ?_
        refine lv_iload_n hx hb dX5_keep_26 rfl (lv_at hl 2 rfl) ?_
        refine lv_icmp_ge (tgt := 67) hx hb dX5_keep_27 (by decide) (fun h => absurd h (by decide)) (fun _ => ?_)
        refine lv_iload hx hb dX5_keep_30 (lv_at hl 1 rfl) ?_
        refine lv_if_ne (tgt := 54) hx hb dX5_keep_32 (by decide) (fun _ => ?_) (fun h => absurd h (by decide))
        refine lv_iconst (v := 1) hx hb dX5_keep_54 (by decide) ?_
        refine lv_goto (tgt := 59) hx hb dX5_keep_55 (by decide) ?_
        refine lv_istore (lv' := [(4, .int 1), (5, .int 2), (3, .int 3), (0, .ref o), (1, .int 1), (2, .int e)]) hx hb dX5_keep_59 hl (by decide) rfl (fun ls hl => ?_)
        refine lv_iinc (v := 3) (lv' := [(5, .int 3), (4, .int 1), (3, .int 3), (0, .ref o), (1, .int 1), (2, .int e)]) hx hb dX5_keep_61 hl (k := 1) rfl (by decide) (by decide) rfl (fun ls hl => ?_)
        refine lv_goto (tgt := 24) hx hb dX5_keep_64 (by decide) ?_
        refine lv_iload hx hb dX5_keep_24 (lv_at hl 0 rfl) ?_
        refine lv_iload_n hx hb dX5_keep_26 rfl (lv_at hl 2 rfl) ?_
        refine lv_icmp_ge (tgt := 67) hx hb dX5_keep_27 (by decide) (fun _ => ?_) (fun h => absurd (by decide) h)
        refine lv_iload hx hb dX5_keep_67 (lv_at hl 1 rfl) ?_
        refine lv_if_eq (tgt := 75) hx hb dX5_keep_69 (by decide) (fun h => absurd h (by decide)) (fun _ => ?_)
        refine lv_ldc hx hb hown k_8 dX5_keep_72 ?_
        have he : z5_keep_1 gm ff gl e = ((-1000006), gm, gl) := by unfold z5_keep_1; rw [if_neg c_1, if_neg c_2, if_pos c_3]
        have he_0 : (z5_keep_1 gm ff gl e).1 = (-1000006) := by rw [he]
        have he_1 : (z5_keep_1 gm ff gl e).2.1 = gm := by rw [he]
        have he_2 : (z5_keep_1 gm ff gl e).2.2 = gl := by rw [he]
        exact rt_i (w1 := fun uu : (Nat → Int64) => [kM o mP mL mC mN mF mR mD mV mX mA mK cm mT pm mU mH mI, kA mN cI 3 ((z5_keep_1 gm ff gl e).2.1), kJ mF cJ 6 uu, kA mL cI 180 ((z5_keep_1 gm ff gl e).2.2)]) hx hb hr hlk hS dX5_keep_74 ((z5_norm_3_6 ff).2) he_0.symm (by (try dsimp only); rw [he_1, he_2]; exact hP) (by (try dsimp only); rw [he_1, he_2]; exact hD)
    · skip
      refine lv_iconst (v := 1) hx hb dX5_keep_54 (by decide) ?_
      refine lv_goto (tgt := 59) hx hb dX5_keep_55 (by decide) ?_
      refine lv_istore (lv' := [(4, .int 1), (5, .int 0), (3, .int 3), (0, .ref o), (1, .int 1), (2, .int e)]) hx hb dX5_keep_59 hl (by decide) rfl (fun ls hl => ?_)
      refine lv_iinc (v := 1) (lv' := [(5, .int 1), (4, .int 1), (3, .int 3), (0, .ref o), (1, .int 1), (2, .int e)]) hx hb dX5_keep_61 hl (k := 1) rfl (by decide) (by decide) rfl (fun ls hl => ?_)
      refine lv_goto (tgt := 24) hx hb dX5_keep_64 (by decide) ?_
      refine lv_iload hx hb dX5_keep_24 (lv_at hl 0 rfl) ?_
      refine lv_iload_n hx hb dX5_keep_26 rfl (lv_at hl 2 rfl) ?_
      refine lv_icmp_ge (tgt := 67) hx hb dX5_keep_27 (by decide) (fun h => absurd h (by decide)) (fun _ => ?_)
      refine lv_iload hx hb dX5_keep_30 (lv_at hl 1 rfl) ?_
      refine lv_if_ne (tgt := 54) hx hb dX5_keep_32 (by decide) (fun _ => ?_) (fun h => absurd h (by decide))
      refine lv_iconst (v := 1) hx hb dX5_keep_54 (by decide) ?_
      refine lv_goto (tgt := 59) hx hb dX5_keep_55 (by decide) ?_
      refine lv_istore (lv' := [(4, .int 1), (5, .int 1), (3, .int 3), (0, .ref o), (1, .int 1), (2, .int e)]) hx hb dX5_keep_59 hl (by decide) rfl (fun ls hl => ?_)
      refine lv_iinc (v := 2) (lv' := [(5, .int 2), (4, .int 1), (3, .int 3), (0, .ref o), (1, .int 1), (2, .int e)]) hx hb dX5_keep_61 hl (k := 1) rfl (by decide) (by decide) rfl (fun ls hl => ?_)
      refine lv_goto (tgt := 24) hx hb dX5_keep_64 (by decide) ?_
      refine lv_iload hx hb dX5_keep_24 (lv_at hl 0 rfl) ?_
      refine lv_iload_n hx hb dX5_keep_26 rfl (lv_at hl 2 rfl) ?_
      refine lv_icmp_ge (tgt := 67) hx hb dX5_keep_27 (by decide) (fun h => absurd h (by decide)) (fun _ => ?_)
      refine lv_iload hx hb dX5_keep_30 (lv_at hl 1 rfl) ?_
      refine lv_if_ne (tgt := 54) hx hb dX5_keep_32 (by decide) (fun _ => ?_) (fun h => absurd h (by decide))
      refine lv_iconst (v := 1) hx hb dX5_keep_54 (by decide) ?_
      refine lv_goto (tgt := 59) hx hb dX5_keep_55 (by decide) ?_
      refine lv_istore (lv' := [(4, .int 1), (5, .int 2), (3, .int 3), (0, .ref o), (1, .int 1), (2, .int e)]) hx hb dX5_keep_59 hl (by decide) rfl (fun ls hl => ?_)
      refine lv_iinc (v := 3) (lv' := [(5, .int 3), (4, .int 1), (3, .int 3), (0, .ref o), (1, .int 1), (2, .int e)]) hx hb dX5_keep_61 hl (k := 1) rfl (by decide) (by decide) rfl (fun ls hl => ?_)
      refine lv_goto (tgt := 24) hx hb dX5_keep_64 (by decide) ?_
      refine lv_iload hx hb dX5_keep_24 (lv_at hl 0 rfl) ?_
      refine lv_iload_n hx hb dX5_keep_26 rfl (lv_at hl 2 rfl) ?_
      refine lv_icmp_ge (tgt := 67) hx hb dX5_keep_27 (by decide) (fun _ => ?_) (fun h => absurd (by decide) h)
      refine lv_iload hx hb dX5_keep_67 (lv_at hl 1 rfl) ?_
      refine lv_if_eq (tgt := 75) hx hb dX5_keep_69 (by decide) (fun h => absurd h (by decide)) (fun _ => ?_)
      refine lv_ldc hx hb hown k_8 dX5_keep_72 ?_
      have he : z5_keep_1 gm ff gl e = ((-1000006), gm, gl) := by unfold z5_keep_1; rw [if_neg c_1, if_pos c_2]
      have he_0 : (z5_keep_1 gm ff gl e).1 = (-1000006) := by rw [he]
      have he_1 : (z5_keep_1 gm ff gl e).2.1 = gm := by rw [he]
      have he_2 : (z5_keep_1 gm ff gl e).2.2 = gl := by rw [he]
      exact rt_i (w1 := fun uu : (Nat → Int64) => [kM o mP mL mC mN mF mR mD mV mX mA mK cm mT pm mU mH mI, kA mN cI 3 ((z5_keep_1 gm ff gl e).2.1), kJ mF cJ 6 uu, kA mL cI 180 ((z5_keep_1 gm ff gl e).2.2)]) hx hb hr hlk hS dX5_keep_74 ((z5_norm_3_6 ff).2) he_0.symm (by (try dsimp only); rw [he_1, he_2]; exact hP) (by (try dsimp only); rw [he_1, he_2]; exact hD)
  · skip
    refine lv_iload_n hx hb dX5_keep_16 rfl (lv_at hl 3 rfl) ?_
    have he : z5_keep_1 gm ff gl e = (e, gm, gl) := by unfold z5_keep_1; rw [if_pos c_1]
    have he_0 : (z5_keep_1 gm ff gl e).1 = e := by rw [he]
    have he_1 : (z5_keep_1 gm ff gl e).2.1 = gm := by rw [he]
    have he_2 : (z5_keep_1 gm ff gl e).2.2 = gl := by rw [he]
    exact rt_i (w1 := fun uu : (Nat → Int64) => [kM o mP mL mC mN mF mR mD mV mX mA mK cm mT pm mU mH mI, kA mN cI 3 ((z5_keep_1 gm ff gl e).2.1), kJ mF cJ 6 uu, kA mL cI 180 ((z5_keep_1 gm ff gl e).2.2)]) hx hb hr hlk hS dX5_keep_17 ((z5_norm_3_6 ff).2) he_0.symm (by (try dsimp only); rw [he_1, he_2]; exact hP) (by (try dsimp only); rw [he_1, he_2]; exact hD)
def z5_keep_2 (gm : Nat → Int32) (ff : Nat → Int64) (gc : Nat → Int32) (e : Int32) : Int32 × (Nat → Int32) × (Nat → Int32) := if ((z5_norm_6_6 ff).1) = 0 then (e, gm, gc) else if (z5_in (((z5_norm_6_6 ff).2) 0) (-500) 500) = 0 then ((-1000006), gm, gc) else if (z5_in (((z5_norm_6_6 ff).2) 1) (-500) 500) = 0 then ((-1000006), gm, gc) else if (z5_in (((z5_norm_6_6 ff).2) 2) (-500) 500) = 0 then ((-1000006), gm, gc) else if (z5_in (((z5_norm_6_6 ff).2) 3) (-500) 500) = 0 then ((-1000006), gm, gc) else if (z5_in (((z5_norm_6_6 ff).2) 4) (-500) 500) = 0 then ((-1000006), gm, gc) else if (z5_in (((z5_norm_6_6 ff).2) 5) (-500) 500) = 0 then ((-1000006), gm, gc) else if (gm 2) = 60 then ((-1000005), gm, gc) else (gm 2, upd gm 2 ((gm 2) + 1), upd (upd (upd (upd (upd (upd gc (((6 * (gm 2)) + 0).toNatClampNeg) ((((z5_norm_6_6 ff).2) 0).toInt32)) (((6 * (gm 2)) + 1).toNatClampNeg) ((((z5_norm_6_6 ff).2) 1).toInt32)) (((6 * (gm 2)) + 2).toNatClampNeg) ((((z5_norm_6_6 ff).2) 2).toInt32)) (((6 * (gm 2)) + 3).toNatClampNeg) ((((z5_norm_6_6 ff).2) 3).toInt32)) (((6 * (gm 2)) + 4).toNatClampNeg) ((((z5_norm_6_6 ff).2) 4).toInt32)) (((6 * (gm 2)) + 5).toNatClampNeg) ((((z5_norm_6_6 ff).2) 5).toInt32))
set_option maxHeartbeats 4000000 in
set_option maxRecDepth 100000 in
/-- X5.keep -/
theorem c_X5_keep_2 (l : Launch) (D : va_G) (cI cJ : ClassId) (o : Nat) (mP : Nat) (mL : Nat) (mC : Nat) (mN : Nat) (mF : Nat) (mR : Nat) (mD : Nat) (mV : Nat) (mX : Nat) (mA : Nat) (mK : Nat) (mT : Nat) (mU : Nat) (mH : Nat) (mI : Nat) (cm : Int32) (pm : Int32) (gm : Nat → Int32) (ff : Nat → Int64) (gc : Nat → Int32) (e : Int32) (hm2 : n_ok (gm 2)) : mw_C l yX5_keep wsX5_keep ({ frames := 2, cells := 0, slots := 0, locals := 54 }) D cI cJ [.ref o, .int 2, .int e] [kM o mP mL mC mN mF mR mD mV mX mA mK cm mT pm mU mH mI, kA mN cI 3 gm, kJ mF cJ 6 ff, kA mC cI 360 gc] (qe_i (fun (r : Int32) (_ : (Nat → Int64)) => r = (z5_keep_2 gm ff gc e).1) (fun uu => [kM o mP mL mC mN mF mR mD mV mX mA mK cm mT pm mU mH mI, kA mN cI 3 ((z5_keep_2 gm ff gc e).2.1), kJ mF cJ 6 uu, kA mC cI 360 ((z5_keep_2 gm ff gc e).2.2)])) := by
  refine mw_in (cc := cX5_keep) (lv := [(0, .ref o), (1, .int 2), (2, .int e)]) (by decide) rfl (Nat.le_of_ble_eq_true rfl) rfl ?_
  intro pG eG sG mG below meth cG ls A hx hb hr hml hown hts hlk hin hP hK hD hA hS hl
  have hown : sG.vm.findClass RX5 = some mG.cls := hown
  have k_1 := hts (.fieldLink RX5 22 "ConicRowsModel" "fresh" "[J") (by decide +kernel)
  have k_2 : ∀ w ∈ wsX50, w ∈ wsX5_keep := by decide +kernel
  have k_3 := hts (.constantLong RX5 72 (-500)) (by decide +kernel)
  have k_4 := hts (.constantLong RX5 74 (500)) (by decide +kernel)
  have k_5 := hts (.fieldLink RX5 19 "ConicRowsModel" "many" "[I") (by decide +kernel)
  have k_6 := hts (.fieldLink RX5 16 "ConicRowsModel" "conics" "[I") (by decide +kernel)
  have k_7 := hts (.constant RX5 77 (-1000005)) (by decide +kernel)
  have k_8 := hts (.constant RX5 76 (-1000006)) (by decide +kernel)
  refine lv_iload_n hx hb dX5_keep_0 rfl (lv_at hl 1 rfl) ?_
  have hPc := hP.sub (ws' := []) [] rfl
  refine cr_i (va_runS (As := [.int 2]) (rest := []) ⟨hx, hb, hml, hown, hts⟩ (c_X5_wide l D cI cJ 2) (va_cwS 1 hts gX5_keep_X5_wide rfl rfl rfl (by decide +kernel) ⟨Nat.le_of_ble_eq_true rfl, Nat.le_of_ble_eq_true rfl⟩) ⟨gd_blR, gd_prR hPc hK⟩ rfl rfl hl.1 rfl (lv_room (Nat.le_of_ble_eq_true rfl)) dX5_keep_1 ⟨Nat.zero_le _, Nat.zero_le _⟩) (fun r_1 hw => ?_)
  subst hw
  clear hPc
  refine lv_eqi (v := 6) (by decide) ?_
  refine lv_istore_n (lv' := [(3, .int 6), (0, .ref o), (1, .int 2), (2, .int e)]) hx hb dX5_keep_4 rfl hl (by decide) rfl (fun ls hl => ?_)
  refine lv_aload_n hx hb dX5_keep_5 rfl (lv_at hl 1 rfl) ?_
  refine va_get (D := D) (ci := 5) (v := .ref mF) (C := RX5) (T := TX5) (N := 17) hx hb hts k_2 hown hK.1 hP 0 rfl rfl 4 (by decide) k_1 (fun _ h9 => h9) rfl dX5_keep_6 ?_
  refine lv_iload_n hx hb dX5_keep_9 rfl (lv_at hl 0 rfl) ?_
  have hPc := hP.sub (ws' := [kJ mF cJ 6 ff]) [2] rfl
  have hDc := hD.sub (ws' := [kJ mF cJ 6 ff]) [2] (by decide) rfl
  refine cl_i (wc := [kJ mF cJ 6 ff]) (wr := [kM o mP mL mC mN mF mR mD mV mX mA mK cm mT pm mU mH mI, kA mN cI 3 gm, kA mC cI 360 gc]) (w1 := fun uu : Unit => [kJ mF cJ 6 ((z5_norm_6_6 ff).2)]) (wn := fun uu : Unit => [kM o mP mL mC mN mF mR mD mV mX mA mK cm mT pm mU mH mI, kA mN cI 3 gm, kJ mF cJ 6 ((z5_norm_6_6 ff).2), kA mC cI 360 gc]) (va_runS (As := [.ref mF, .int 6]) (rest := []) ⟨hx, hb, hml, hown, hts⟩ (c_X5_norm_6_6 l D cI cJ mF ff _) (va_cwS 2 hts gX5_keep_X5_norm rfl rfl rfl (by decide +kernel) ⟨Nat.le_of_ble_eq_true rfl, Nat.le_of_ble_eq_true rfl⟩) ⟨gd_blP, gd_prP hPc hK hDc⟩ rfl rfl hl.1 rfl (lv_room (Nat.le_of_ble_eq_true rfl)) dX5_keep_10 ⟨Nat.zero_le _, Nat.zero_le _⟩) hP hD hS hA [2] [0, 1, 3] rfl rfl (by decide) (by decide) [0, 1, 3, 2] (by decide) (fun _ => rfl) (fun r_10 uG H locs hw hP hD hS => ?_)
  have hP : va_P D vwCl [kM o mP mL mC mN mF mR mD mV mX mA mK cm mT pm mU mH mI, kA mN cI 3 gm, kJ mF cJ 6 ((z5_norm_6_6 ff).2), kA mC cI 360 gc] H := hP
  have hD : va_D A [kM o mP mL mC mN mF mR mD mV mX mA mK cm mT pm mU mH mI, kA mN cI 3 gm, kJ mF cJ 6 ((z5_norm_6_6 ff).2), kA mC cI 360 gc] := hD
  subst hw
  clear hPc hDc
  refine lv_if_ne (tgt := 18) hx hb dX5_keep_13 (by decide) (fun c_1 => ?_) (fun c_1 => ?_)
  · skip
    refine lv_iconst (v := 0) hx hb dX5_keep_18 (by decide) ?_
    refine lv_istore (lv' := [(4, .int 0), (3, .int 6), (0, .ref o), (1, .int 2), (2, .int e)]) hx hb dX5_keep_19 hl (by decide) rfl (fun ls hl => ?_)
    refine lv_iconst (v := 0) hx hb dX5_keep_21 (by decide) ?_
    refine lv_istore (lv' := [(5, .int 0), (4, .int 0), (3, .int 6), (0, .ref o), (1, .int 2), (2, .int e)]) hx hb dX5_keep_22 hl (by decide) rfl (fun ls hl => ?_)
    refine lv_iload hx hb dX5_keep_24 (lv_at hl 0 rfl) ?_
    refine lv_iload_n hx hb dX5_keep_26 rfl (lv_at hl 2 rfl) ?_
    refine lv_icmp_ge (tgt := 67) hx hb dX5_keep_27 (by decide) (fun h => absurd h (by decide)) (fun _ => ?_)
    refine lv_iload hx hb dX5_keep_30 (lv_at hl 1 rfl) ?_
    refine lv_if_ne (tgt := 54) hx hb dX5_keep_32 (by decide) (fun h => absurd (by decide) h) (fun _ => ?_)
    refine lv_aload_n hx hb dX5_keep_35 rfl (lv_at hl 3 rfl) ?_
    refine va_get (D := D) (ci := 5) (v := .ref mF) (C := RX5) (T := TX5) (N := 17) hx hb hts k_2 hown hK.1 hP 0 rfl rfl 4 (by decide) k_1 (fun _ h9 => h9) rfl dX5_keep_36 ?_
    refine lv_iload hx hb dX5_keep_39 (lv_at hl 0 rfl) ?_
    refine ld_l hx hb hK.1 hP 2 1 rfl rfl (ix_lit (by decide)) 0 (by decide) (v := ((z5_norm_6_6 ff).2) 0) rfl dX5_keep_41 ?_
    refine lv_ldc2 hx hb hown k_3 dX5_keep_42 ?_
    refine lv_ldc2 hx hb hown k_4 dX5_keep_45 ?_
    have hPc := hP.sub (ws' := []) [] rfl
    refine cr_i (va_runS (As := [.long (((z5_norm_6_6 ff).2) 0), .long (-500), .long 500]) (rest := []) ⟨hx, hb, hml, hown, hts⟩ (c_X5_in l D cI cJ (((z5_norm_6_6 ff).2) 0) (-500) 500) (va_cwS 3 hts gX5_keep_X5_in rfl rfl rfl (by decide +kernel) ⟨Nat.le_of_ble_eq_true rfl, Nat.le_of_ble_eq_true rfl⟩) ⟨gd_blR, gd_prR hPc hK⟩ rfl rfl hl.1 rfl (lv_room (Nat.le_of_ble_eq_true rfl)) dX5_keep_48 ⟨Nat.zero_le _, Nat.zero_le _⟩) (fun r_48 hw => ?_)
    subst hw
    clear hPc
    refine lv_if_ne (tgt := 58) hx hb dX5_keep_51 (by decide) (fun c_2 => ?_) (fun c_2 => ?_)
    · skip
      refine lv_iconst (v := 0) hx hb dX5_keep_58 (by decide) ?_
      refine lv_istore (lv' := [(4, .int 0), (5, .int 0), (3, .int 6), (0, .ref o), (1, .int 2), (2, .int e)]) hx hb dX5_keep_59 hl (by decide) rfl (fun ls hl => ?_)
      refine lv_iinc (v := 1) (lv' := [(5, .int 1), (4, .int 0), (3, .int 6), (0, .ref o), (1, .int 2), (2, .int e)]) hx hb dX5_keep_61 hl (k := 1) rfl (by decide) (by decide) rfl (fun ls hl => ?_)
      refine lv_goto (tgt := 24) hx hb dX5_keep_64 (by decide) ?_
      refine lv_iload hx hb dX5_keep_24 (lv_at hl 0 rfl) ?_
      refine lv_iload_n hx hb dX5_keep_26 rfl (lv_at hl 2 rfl) ?_
      refine lv_icmp_ge (tgt := 67) hx hb dX5_keep_27 (by decide) (fun h => absurd h (by decide)) (fun _ => ?_)
      refine lv_iload hx hb dX5_keep_30 (lv_at hl 1 rfl) ?_
      refine lv_if_ne (tgt := 54) hx hb dX5_keep_32 (by decide) (fun h => absurd (by decide) h) (fun _ => ?_)
      refine lv_aload_n hx hb dX5_keep_35 rfl (lv_at hl 3 rfl) ?_
      refine va_get (D := D) (ci := 5) (v := .ref mF) (C := RX5) (T := TX5) (N := 17) hx hb hts k_2 hown hK.1 hP 0 rfl rfl 4 (by decide) k_1 (fun _ h9 => h9) rfl dX5_keep_36 ?_
      refine lv_iload hx hb dX5_keep_39 (lv_at hl 0 rfl) ?_
      refine ld_l hx hb hK.1 hP 2 1 rfl rfl (ix_lit (by decide)) 1 (by decide) (v := ((z5_norm_6_6 ff).2) 1) rfl dX5_keep_41 ?_
      refine lv_ldc2 hx hb hown k_3 dX5_keep_42 ?_
      refine lv_ldc2 hx hb hown k_4 dX5_keep_45 ?_
      have hPc := hP.sub (ws' := []) [] rfl
      refine cr_i (va_runS (As := [.long (((z5_norm_6_6 ff).2) 1), .long (-500), .long 500]) (rest := []) ⟨hx, hb, hml, hown, hts⟩ (c_X5_in l D cI cJ (((z5_norm_6_6 ff).2) 1) (-500) 500) (va_cwS 3 hts gX5_keep_X5_in rfl rfl rfl (by decide +kernel) ⟨Nat.le_of_ble_eq_true rfl, Nat.le_of_ble_eq_true rfl⟩) ⟨gd_blR, gd_prR hPc hK⟩ rfl rfl hl.1 rfl (lv_room (Nat.le_of_ble_eq_true rfl)) dX5_keep_48 ⟨Nat.zero_le _, Nat.zero_le _⟩) (fun r_48 hw => ?_)
      subst hw
      clear hPc
      refine lv_if_ne (tgt := 58) hx hb dX5_keep_51 (by decide) (fun c_3 => ?_) (fun c_3 => ?_)
      · skip
        refine lv_iconst (v := 0) hx hb dX5_keep_58 (by decide) ?_
        refine lv_istore (lv' := [(4, .int 0), (5, .int 1), (3, .int 6), (0, .ref o), (1, .int 2), (2, .int e)]) hx hb dX5_keep_59 hl (by decide) rfl (fun ls hl => ?_)
        refine lv_iinc (v := 2) (lv' := [(5, .int 2), (4, .int 0), (3, .int 6), (0, .ref o), (1, .int 2), (2, .int e)]) hx hb dX5_keep_61 hl (k := 1) rfl (by decide) (by decide) rfl (fun ls hl => ?_)
        refine lv_goto (tgt := 24) hx hb dX5_keep_64 (by decide) ?_
        refine lv_iload hx hb dX5_keep_24 (lv_at hl 0 rfl) ?_
        refine lv_iload_n hx hb dX5_keep_26 rfl (lv_at hl 2 rfl) ?_
        refine lv_icmp_ge (tgt := 67) hx hb dX5_keep_27 (by decide) (fun h => absurd h (by decide)) (fun _ => ?_)
        refine lv_iload hx hb dX5_keep_30 (lv_at hl 1 rfl) ?_
        refine lv_if_ne (tgt := 54) hx hb dX5_keep_32 (by decide) (fun h => absurd (by decide) h) (fun _ => ?_)
        refine lv_aload_n hx hb dX5_keep_35 rfl (lv_at hl 3 rfl) ?_
        refine va_get (D := D) (ci := 5) (v := .ref mF) (C := RX5) (T := TX5) (N := 17) hx hb hts k_2 hown hK.1 hP 0 rfl rfl 4 (by decide) k_1 (fun _ h9 => h9) rfl dX5_keep_36 ?_
        refine lv_iload hx hb dX5_keep_39 (lv_at hl 0 rfl) ?_
        refine ld_l hx hb hK.1 hP 2 1 rfl rfl (ix_lit (by decide)) 2 (by decide) (v := ((z5_norm_6_6 ff).2) 2) rfl dX5_keep_41 ?_
        refine lv_ldc2 hx hb hown k_3 dX5_keep_42 ?_
        refine lv_ldc2 hx hb hown k_4 dX5_keep_45 ?_
        have hPc := hP.sub (ws' := []) [] rfl
        refine cr_i (va_runS (As := [.long (((z5_norm_6_6 ff).2) 2), .long (-500), .long 500]) (rest := []) ⟨hx, hb, hml, hown, hts⟩ (c_X5_in l D cI cJ (((z5_norm_6_6 ff).2) 2) (-500) 500) (va_cwS 3 hts gX5_keep_X5_in rfl rfl rfl (by decide +kernel) ⟨Nat.le_of_ble_eq_true rfl, Nat.le_of_ble_eq_true rfl⟩) ⟨gd_blR, gd_prR hPc hK⟩ rfl rfl hl.1 rfl (lv_room (Nat.le_of_ble_eq_true rfl)) dX5_keep_48 ⟨Nat.zero_le _, Nat.zero_le _⟩) (fun r_48 hw => ?_)
        subst hw
        clear hPc
        refine lv_if_ne (tgt := 58) hx hb dX5_keep_51 (by decide) (fun c_4 => ?_) (fun c_4 => ?_)
        · skip
          refine lv_iconst (v := 0) hx hb dX5_keep_58 (by decide) ?_
          refine lv_istore (lv' := [(4, .int 0), (5, .int 2), (3, .int 6), (0, .ref o), (1, .int 2), (2, .int e)]) hx hb dX5_keep_59 hl (by decide) rfl (fun ls hl => ?_)
          refine lv_iinc (v := 3) (lv' := [(5, .int 3), (4, .int 0), (3, .int 6), (0, .ref o), (1, .int 2), (2, .int e)]) hx hb dX5_keep_61 hl (k := 1) rfl (by decide) (by decide) rfl (fun ls hl => ?_)
          refine lv_goto (tgt := 24) hx hb dX5_keep_64 (by decide) ?_
          refine lv_iload hx hb dX5_keep_24 (lv_at hl 0 rfl) ?_
          refine lv_iload_n hx hb dX5_keep_26 rfl (lv_at hl 2 rfl) ?_
          refine lv_icmp_ge (tgt := 67) hx hb dX5_keep_27 (by decide) (fun h => absurd h (by decide)) (fun _ => ?_)
          refine lv_iload hx hb dX5_keep_30 (lv_at hl 1 rfl) ?_
          refine lv_if_ne (tgt := 54) hx hb dX5_keep_32 (by decide) (fun h => absurd (by decide) h) (fun _ => ?_)
          refine lv_aload_n hx hb dX5_keep_35 rfl (lv_at hl 3 rfl) ?_
          refine va_get (D := D) (ci := 5) (v := .ref mF) (C := RX5) (T := TX5) (N := 17) hx hb hts k_2 hown hK.1 hP 0 rfl rfl 4 (by decide) k_1 (fun _ h9 => h9) rfl dX5_keep_36 ?_
          refine lv_iload hx hb dX5_keep_39 (lv_at hl 0 rfl) ?_
          refine ld_l hx hb hK.1 hP 2 1 rfl rfl (ix_lit (by decide)) 3 (by decide) (v := ((z5_norm_6_6 ff).2) 3) rfl dX5_keep_41 ?_
          refine lv_ldc2 hx hb hown k_3 dX5_keep_42 ?_
          refine lv_ldc2 hx hb hown k_4 dX5_keep_45 ?_
          have hPc := hP.sub (ws' := []) [] rfl
          refine cr_i (va_runS (As := [.long (((z5_norm_6_6 ff).2) 3), .long (-500), .long 500]) (rest := []) ⟨hx, hb, hml, hown, hts⟩ (c_X5_in l D cI cJ (((z5_norm_6_6 ff).2) 3) (-500) 500) (va_cwS 3 hts gX5_keep_X5_in rfl rfl rfl (by decide +kernel) ⟨Nat.le_of_ble_eq_true rfl, Nat.le_of_ble_eq_true rfl⟩) ⟨gd_blR, gd_prR hPc hK⟩ rfl rfl hl.1 rfl (lv_room (Nat.le_of_ble_eq_true rfl)) dX5_keep_48 ⟨Nat.zero_le _, Nat.zero_le _⟩) (fun r_48 hw => ?_)
          subst hw
          clear hPc
          refine lv_if_ne (tgt := 58) hx hb dX5_keep_51 (by decide) (fun c_5 => ?_) (fun c_5 => ?_)
          · skip
            refine lv_iconst (v := 0) hx hb dX5_keep_58 (by decide) ?_
            refine lv_istore (lv' := [(4, .int 0), (5, .int 3), (3, .int 6), (0, .ref o), (1, .int 2), (2, .int e)]) hx hb dX5_keep_59 hl (by decide) rfl (fun ls hl => ?_)
            refine lv_iinc (v := 4) (lv' := [(5, .int 4), (4, .int 0), (3, .int 6), (0, .ref o), (1, .int 2), (2, .int e)]) hx hb dX5_keep_61 hl (k := 1) rfl (by decide) (by decide) rfl (fun ls hl => ?_)
            refine lv_goto (tgt := 24) hx hb dX5_keep_64 (by decide) ?_
            refine lv_iload hx hb dX5_keep_24 (lv_at hl 0 rfl) ?_
            refine lv_iload_n hx hb dX5_keep_26 rfl (lv_at hl 2 rfl) ?_
            refine lv_icmp_ge (tgt := 67) hx hb dX5_keep_27 (by decide) (fun h => absurd h (by decide)) (fun _ => ?_)
            refine lv_iload hx hb dX5_keep_30 (lv_at hl 1 rfl) ?_
            refine lv_if_ne (tgt := 54) hx hb dX5_keep_32 (by decide) (fun h => absurd (by decide) h) (fun _ => ?_)
            refine lv_aload_n hx hb dX5_keep_35 rfl (lv_at hl 3 rfl) ?_
            refine va_get (D := D) (ci := 5) (v := .ref mF) (C := RX5) (T := TX5) (N := 17) hx hb hts k_2 hown hK.1 hP 0 rfl rfl 4 (by decide) k_1 (fun _ h9 => h9) rfl dX5_keep_36 ?_
            refine lv_iload hx hb dX5_keep_39 (lv_at hl 0 rfl) ?_
            refine ld_l hx hb hK.1 hP 2 1 rfl rfl (ix_lit (by decide)) 4 (by decide) (v := ((z5_norm_6_6 ff).2) 4) rfl dX5_keep_41 ?_
            refine lv_ldc2 hx hb hown k_3 dX5_keep_42 ?_
            refine lv_ldc2 hx hb hown k_4 dX5_keep_45 ?_
            have hPc := hP.sub (ws' := []) [] rfl
            refine cr_i (va_runS (As := [.long (((z5_norm_6_6 ff).2) 4), .long (-500), .long 500]) (rest := []) ⟨hx, hb, hml, hown, hts⟩ (c_X5_in l D cI cJ (((z5_norm_6_6 ff).2) 4) (-500) 500) (va_cwS 3 hts gX5_keep_X5_in rfl rfl rfl (by decide +kernel) ⟨Nat.le_of_ble_eq_true rfl, Nat.le_of_ble_eq_true rfl⟩) ⟨gd_blR, gd_prR hPc hK⟩ rfl rfl hl.1 rfl (lv_room (Nat.le_of_ble_eq_true rfl)) dX5_keep_48 ⟨Nat.zero_le _, Nat.zero_le _⟩) (fun r_48 hw => ?_)
            subst hw
            clear hPc
            refine lv_if_ne (tgt := 58) hx hb dX5_keep_51 (by decide) (fun c_6 => ?_) (fun c_6 => ?_)
            · skip
              refine lv_iconst (v := 0) hx hb dX5_keep_58 (by decide) ?_
              refine lv_istore (lv' := [(4, .int 0), (5, .int 4), (3, .int 6), (0, .ref o), (1, .int 2), (2, .int e)]) hx hb dX5_keep_59 hl (by decide) rfl (fun ls hl => ?_)
              refine lv_iinc (v := 5) (lv' := [(5, .int 5), (4, .int 0), (3, .int 6), (0, .ref o), (1, .int 2), (2, .int e)]) hx hb dX5_keep_61 hl (k := 1) rfl (by decide) (by decide) rfl (fun ls hl => ?_)
              refine lv_goto (tgt := 24) hx hb dX5_keep_64 (by decide) ?_
              refine lv_iload hx hb dX5_keep_24 (lv_at hl 0 rfl) ?_
              refine lv_iload_n hx hb dX5_keep_26 rfl (lv_at hl 2 rfl) ?_
              refine lv_icmp_ge (tgt := 67) hx hb dX5_keep_27 (by decide) (fun h => absurd h (by decide)) (fun _ => ?_)
              refine lv_iload hx hb dX5_keep_30 (lv_at hl 1 rfl) ?_
              refine lv_if_ne (tgt := 54) hx hb dX5_keep_32 (by decide) (fun h => absurd (by decide) h) (fun _ => ?_)
              refine lv_aload_n hx hb dX5_keep_35 rfl (lv_at hl 3 rfl) ?_
              refine va_get (D := D) (ci := 5) (v := .ref mF) (C := RX5) (T := TX5) (N := 17) hx hb hts k_2 hown hK.1 hP 0 rfl rfl 4 (by decide) k_1 (fun _ h9 => h9) rfl dX5_keep_36 ?_
              refine lv_iload hx hb dX5_keep_39 (lv_at hl 0 rfl) ?_
              refine ld_l hx hb hK.1 hP 2 1 rfl rfl (ix_lit (by decide)) 5 (by decide) (v := ((z5_norm_6_6 ff).2) 5) rfl dX5_keep_41 ?_
              refine lv_ldc2 hx hb hown k_3 dX5_keep_42 ?_
              refine lv_ldc2 hx hb hown k_4 dX5_keep_45 ?_
              have hPc := hP.sub (ws' := []) [] rfl
              refine cr_i (va_runS (As := [.long (((z5_norm_6_6 ff).2) 5), .long (-500), .long 500]) (rest := []) ⟨hx, hb, hml, hown, hts⟩ (c_X5_in l D cI cJ (((z5_norm_6_6 ff).2) 5) (-500) 500) (va_cwS 3 hts gX5_keep_X5_in rfl rfl rfl (by decide +kernel) ⟨Nat.le_of_ble_eq_true rfl, Nat.le_of_ble_eq_true rfl⟩) ⟨gd_blR, gd_prR hPc hK⟩ rfl rfl hl.1 rfl (lv_room (Nat.le_of_ble_eq_true rfl)) dX5_keep_48 ⟨Nat.zero_le _, Nat.zero_le _⟩) (fun r_48 hw => ?_)
              subst hw
              clear hPc
              refine lv_if_ne (tgt := 58) hx hb dX5_keep_51 (by decide) (fun c_7 => ?_) (fun c_7 => ?_)
              · skip
                refine lv_iconst (v := 0) hx hb dX5_keep_58 (by decide) ?_
                refine lv_istore (lv' := [(4, .int 0), (5, .int 5), (3, .int 6), (0, .ref o), (1, .int 2), (2, .int e)]) hx hb dX5_keep_59 hl (by decide) rfl (fun ls hl => ?_)
                refine lv_iinc (v := 6) (lv' := [(5, .int 6), (4, .int 0), (3, .int 6), (0, .ref o), (1, .int 2), (2, .int e)]) hx hb dX5_keep_61 hl (k := 1) rfl (by decide) (by decide) rfl (fun ls hl => ?_)
                refine lv_goto (tgt := 24) hx hb dX5_keep_64 (by decide) ?_
                refine lv_iload hx hb dX5_keep_24 (lv_at hl 0 rfl) ?_
                refine lv_iload_n hx hb dX5_keep_26 rfl (lv_at hl 2 rfl) ?_
                refine lv_icmp_ge (tgt := 67) hx hb dX5_keep_27 (by decide) (fun _ => ?_) (fun h => absurd (by decide) h)
                refine lv_iload hx hb dX5_keep_67 (lv_at hl 1 rfl) ?_
                refine lv_if_eq (tgt := 75) hx hb dX5_keep_69 (by decide) (fun _ => ?_) (fun h => absurd (by decide) h)
                refine lv_aload_n hx hb dX5_keep_75 rfl (lv_at hl 3 rfl) ?_
                refine va_get (D := D) (ci := 5) (v := .ref mN) (C := RX5) (T := TX5) (N := 17) hx hb hts k_2 hown hK.1 hP 0 rfl rfl 3 (by decide) k_5 (fun _ h9 => h9) rfl dX5_keep_76 ?_
                refine lv_iload_n hx hb dX5_keep_79 rfl (lv_at hl 4 rfl) ?_
                refine ld_i hx hb hK.1 hP 1 0 rfl rfl (ix_lit (by decide)) 2 (by decide) (v := gm 2) rfl dX5_keep_80 ?_
                refine lv_bipush (v := 60) hx hb dX5_keep_81 (by decide) ?_
                refine lv_icmp_ne (tgt := 89) hx hb dX5_keep_83 (by decide) (fun c_8 => ?_) (fun c_8 => ?_)
                · skip
                  refine lv_aload_n hx hb dX5_keep_89 rfl (lv_at hl 3 rfl) ?_
                  refine va_get (D := D) (ci := 5) (v := .ref mN) (C := RX5) (T := TX5) (N := 17) hx hb hts k_2 hown hK.1 hP 0 rfl rfl 3 (by decide) k_5 (fun _ h9 => h9) rfl dX5_keep_90 ?_
                  refine lv_iload_n hx hb dX5_keep_93 rfl (lv_at hl 4 rfl) ?_
                  refine ld_i hx hb hK.1 hP 1 0 rfl rfl (ix_lit (by decide)) 2 (by decide) (v := gm 2) rfl dX5_keep_94 ?_
                  refine lv_istore (lv' := [(5, .int (gm 2)), (4, .int 0), (3, .int 6), (0, .ref o), (1, .int 2), (2, .int e)]) hx hb dX5_keep_95 hl (by decide) rfl (fun ls hl => ?_)
                  refine lv_iconst (v := 0) hx hb dX5_keep_97 (by decide) ?_
                  refine lv_istore (lv' := [(6, .int 0), (5, .int (gm 2)), (4, .int 0), (3, .int 6), (0, .ref o), (1, .int 2), (2, .int e)]) hx hb dX5_keep_98 hl (by decide) rfl (fun ls hl => ?_)
                  refine lv_iload hx hb dX5_keep_100 (lv_at hl 0 rfl) ?_
                  refine lv_iload_n hx hb dX5_keep_102 rfl (lv_at hl 3 rfl) ?_
                  refine lv_icmp_ge (tgt := 188) hx hb dX5_keep_103 (by decide) (fun h => absurd h (by decide)) (fun _ => ?_)
                  refine lv_iload_n hx hb dX5_keep_106 rfl (lv_at hl 5 rfl) ?_
                  refine lv_if_ne (tgt := 133) hx hb dX5_keep_107 (by decide) (fun _ => ?_) (fun h => absurd h (by decide))
                  refine lv_iload_n hx hb dX5_keep_133 rfl (lv_at hl 5 rfl) ?_
                  refine lv_iconst (v := 1) hx hb dX5_keep_134 (by decide) ?_
                  refine lv_icmp_ne (tgt := 161) hx hb dX5_keep_135 (by decide) (fun _ => ?_) (fun h => absurd h (by decide))
                  refine lv_aload_n hx hb dX5_keep_161 rfl (lv_at hl 4 rfl) ?_
                  refine va_get (D := D) (ci := 5) (v := .ref mC) (C := RX5) (T := TX5) (N := 17) hx hb hts k_2 hown hK.1 hP 0 rfl rfl 2 (by decide) k_6 (fun _ h9 => h9) rfl dX5_keep_162 ?_
                  refine lv_bipush (v := 6) hx hb dX5_keep_165 (by decide) ?_
                  refine lv_iload hx hb dX5_keep_167 (lv_at hl 1 rfl) ?_
                  refine lv_imul hx hb dX5_keep_169 ?_
                  refine lv_iload hx hb dX5_keep_170 (lv_at hl 0 rfl) ?_
                  refine lv_iadd hx hb dX5_keep_172 ?_
                  refine lv_aload_n hx hb dX5_keep_173 rfl (lv_at hl 4 rfl) ?_
                  refine va_get (D := D) (ci := 5) (v := .ref mF) (C := RX5) (T := TX5) (N := 17) hx hb hts k_2 hown hK.1 hP 0 rfl rfl 4 (by decide) k_1 (fun _ h9 => h9) rfl dX5_keep_174 ?_
                  refine lv_iload hx hb dX5_keep_177 (lv_at hl 0 rfl) ?_
                  refine ld_l hx hb hK.1 hP 2 1 rfl rfl (ix_lit (by decide)) 0 (by decide) (v := ((z5_norm_6_6 ff).2) 0) rfl dX5_keep_179 ?_
                  refine lv_l2i hx hb dX5_keep_180 rfl ?_
                  refine st_i hx hb hK.1 hP hD hS 3 0 rfl rfl (ix6l (ok_n hm2 c_8) 0 (by decide)) (((6 * (gm 2)) + 0).toNatClampNeg) rfl dX5_keep_181 (fun H locs hP hD hS => ?_)
                  have hP : va_P D vwCl [kM o mP mL mC mN mF mR mD mV mX mA mK cm mT pm mU mH mI, kA mN cI 3 gm, kJ mF cJ 6 ((z5_norm_6_6 ff).2), kA mC cI 360 (upd gc (((6 * (gm 2)) + 0).toNatClampNeg) ((((z5_norm_6_6 ff).2) 0).toInt32))] H := hP
                  have hD : va_D A [kM o mP mL mC mN mF mR mD mV mX mA mK cm mT pm mU mH mI, kA mN cI 3 gm, kJ mF cJ 6 ((z5_norm_6_6 ff).2), kA mC cI 360 (upd gc (((6 * (gm 2)) + 0).toNatClampNeg) ((((z5_norm_6_6 ff).2) 0).toInt32))] := hD
                  refine lv_iinc (v := 1) (lv' := [(6, .int 1), (5, .int (gm 2)), (4, .int 0), (3, .int 6), (0, .ref o), (1, .int 2), (2, .int e)]) hx hb dX5_keep_182 hl (k := 0) rfl (by decide) (by decide) rfl (fun ls hl => ?_)
                  refine lv_goto (tgt := 100) hx hb dX5_keep_185 (by decide) ?_
                  refine lv_iload hx hb dX5_keep_100 (lv_at hl 0 rfl) ?_
                  refine lv_iload_n hx hb dX5_keep_102 rfl (lv_at hl 3 rfl) ?_
                  refine lv_icmp_ge (tgt := 188) hx hb dX5_keep_103 (by decide) (fun h => absurd h (by decide)) (fun _ => ?_)
                  refine lv_iload_n hx hb dX5_keep_106 rfl (lv_at hl 5 rfl) ?_
                  refine lv_if_ne (tgt := 133) hx hb dX5_keep_107 (by decide) (fun _ => ?_) (fun h => absurd h (by decide))
                  refine lv_iload_n hx hb dX5_keep_133 rfl (lv_at hl 5 rfl) ?_
                  refine lv_iconst (v := 1) hx hb dX5_keep_134 (by decide) ?_
                  refine lv_icmp_ne (tgt := 161) hx hb dX5_keep_135 (by decide) (fun _ => ?_) (fun h => absurd h (by decide))
                  refine lv_aload_n hx hb dX5_keep_161 rfl (lv_at hl 4 rfl) ?_
                  refine va_get (D := D) (ci := 5) (v := .ref mC) (C := RX5) (T := TX5) (N := 17) hx hb hts k_2 hown hK.1 hP 0 rfl rfl 2 (by decide) k_6 (fun _ h9 => h9) rfl dX5_keep_162 ?_
                  refine lv_bipush (v := 6) hx hb dX5_keep_165 (by decide) ?_
                  refine lv_iload hx hb dX5_keep_167 (lv_at hl 1 rfl) ?_
                  refine lv_imul hx hb dX5_keep_169 ?_
                  refine lv_iload hx hb dX5_keep_170 (lv_at hl 0 rfl) ?_
                  refine lv_iadd hx hb dX5_keep_172 ?_
                  refine lv_aload_n hx hb dX5_keep_173 rfl (lv_at hl 4 rfl) ?_
                  refine va_get (D := D) (ci := 5) (v := .ref mF) (C := RX5) (T := TX5) (N := 17) hx hb hts k_2 hown hK.1 hP 0 rfl rfl 4 (by decide) k_1 (fun _ h9 => h9) rfl dX5_keep_174 ?_
                  refine lv_iload hx hb dX5_keep_177 (lv_at hl 0 rfl) ?_
                  refine ld_l hx hb hK.1 hP 2 1 rfl rfl (ix_lit (by decide)) 1 (by decide) (v := ((z5_norm_6_6 ff).2) 1) rfl dX5_keep_179 ?_
                  refine lv_l2i hx hb dX5_keep_180 rfl ?_
                  refine st_i hx hb hK.1 hP hD hS 3 0 rfl rfl (ix6l (ok_n hm2 c_8) 1 (by decide)) (((6 * (gm 2)) + 1).toNatClampNeg) rfl dX5_keep_181 (fun H locs hP hD hS => ?_)
                  have hP : va_P D vwCl [kM o mP mL mC mN mF mR mD mV mX mA mK cm mT pm mU mH mI, kA mN cI 3 gm, kJ mF cJ 6 ((z5_norm_6_6 ff).2), kA mC cI 360 (upd (upd gc (((6 * (gm 2)) + 0).toNatClampNeg) ((((z5_norm_6_6 ff).2) 0).toInt32)) (((6 * (gm 2)) + 1).toNatClampNeg) ((((z5_norm_6_6 ff).2) 1).toInt32))] H := hP
                  have hD : va_D A [kM o mP mL mC mN mF mR mD mV mX mA mK cm mT pm mU mH mI, kA mN cI 3 gm, kJ mF cJ 6 ((z5_norm_6_6 ff).2), kA mC cI 360 (upd (upd gc (((6 * (gm 2)) + 0).toNatClampNeg) ((((z5_norm_6_6 ff).2) 0).toInt32)) (((6 * (gm 2)) + 1).toNatClampNeg) ((((z5_norm_6_6 ff).2) 1).toInt32))] := hD
                  refine lv_iinc (v := 2) (lv' := [(6, .int 2), (5, .int (gm 2)), (4, .int 0), (3, .int 6), (0, .ref o), (1, .int 2), (2, .int e)]) hx hb dX5_keep_182 hl (k := 0) rfl (by decide) (by decide) rfl (fun ls hl => ?_)
                  refine lv_goto (tgt := 100) hx hb dX5_keep_185 (by decide) ?_
                  refine lv_iload hx hb dX5_keep_100 (lv_at hl 0 rfl) ?_
                  refine lv_iload_n hx hb dX5_keep_102 rfl (lv_at hl 3 rfl) ?_
                  refine lv_icmp_ge (tgt := 188) hx hb dX5_keep_103 (by decide) (fun h => absurd h (by decide)) (fun _ => ?_)
                  refine lv_iload_n hx hb dX5_keep_106 rfl (lv_at hl 5 rfl) ?_
                  refine lv_if_ne (tgt := 133) hx hb dX5_keep_107 (by decide) (fun _ => ?_) (fun h => absurd h (by decide))
                  refine lv_iload_n hx hb dX5_keep_133 rfl (lv_at hl 5 rfl) ?_
                  refine lv_iconst (v := 1) hx hb dX5_keep_134 (by decide) ?_
                  refine lv_icmp_ne (tgt := 161) hx hb dX5_keep_135 (by decide) (fun _ => ?_) (fun h => absurd h (by decide))
                  refine lv_aload_n hx hb dX5_keep_161 rfl (lv_at hl 4 rfl) ?_
                  refine va_get (D := D) (ci := 5) (v := .ref mC) (C := RX5) (T := TX5) (N := 17) hx hb hts k_2 hown hK.1 hP 0 rfl rfl 2 (by decide) k_6 (fun _ h9 => h9) rfl dX5_keep_162 ?_
                  refine lv_bipush (v := 6) hx hb dX5_keep_165 (by decide) ?_
                  refine lv_iload hx hb dX5_keep_167 (lv_at hl 1 rfl) ?_
                  refine lv_imul hx hb dX5_keep_169 ?_
                  refine lv_iload hx hb dX5_keep_170 (lv_at hl 0 rfl) ?_
                  refine lv_iadd hx hb dX5_keep_172 ?_
                  refine lv_aload_n hx hb dX5_keep_173 rfl (lv_at hl 4 rfl) ?_
                  refine va_get (D := D) (ci := 5) (v := .ref mF) (C := RX5) (T := TX5) (N := 17) hx hb hts k_2 hown hK.1 hP 0 rfl rfl 4 (by decide) k_1 (fun _ h9 => h9) rfl dX5_keep_174 ?_
                  refine lv_iload hx hb dX5_keep_177 (lv_at hl 0 rfl) ?_
                  refine ld_l hx hb hK.1 hP 2 1 rfl rfl (ix_lit (by decide)) 2 (by decide) (v := ((z5_norm_6_6 ff).2) 2) rfl dX5_keep_179 ?_
                  refine lv_l2i hx hb dX5_keep_180 rfl ?_
                  refine st_i hx hb hK.1 hP hD hS 3 0 rfl rfl (ix6l (ok_n hm2 c_8) 2 (by decide)) (((6 * (gm 2)) + 2).toNatClampNeg) rfl dX5_keep_181 (fun H locs hP hD hS => ?_)
                  have hP : va_P D vwCl [kM o mP mL mC mN mF mR mD mV mX mA mK cm mT pm mU mH mI, kA mN cI 3 gm, kJ mF cJ 6 ((z5_norm_6_6 ff).2), kA mC cI 360 (upd (upd (upd gc (((6 * (gm 2)) + 0).toNatClampNeg) ((((z5_norm_6_6 ff).2) 0).toInt32)) (((6 * (gm 2)) + 1).toNatClampNeg) ((((z5_norm_6_6 ff).2) 1).toInt32)) (((6 * (gm 2)) + 2).toNatClampNeg) ((((z5_norm_6_6 ff).2) 2).toInt32))] H := hP
                  have hD : va_D A [kM o mP mL mC mN mF mR mD mV mX mA mK cm mT pm mU mH mI, kA mN cI 3 gm, kJ mF cJ 6 ((z5_norm_6_6 ff).2), kA mC cI 360 (upd (upd (upd gc (((6 * (gm 2)) + 0).toNatClampNeg) ((((z5_norm_6_6 ff).2) 0).toInt32)) (((6 * (gm 2)) + 1).toNatClampNeg) ((((z5_norm_6_6 ff).2) 1).toInt32)) (((6 * (gm 2)) + 2).toNatClampNeg) ((((z5_norm_6_6 ff).2) 2).toInt32))] := hD
                  refine lv_iinc (v := 3) (lv' := [(6, .int 3), (5, .int (gm 2)), (4, .int 0), (3, .int 6), (0, .ref o), (1, .int 2), (2, .int e)]) hx hb dX5_keep_182 hl (k := 0) rfl (by decide) (by decide) rfl (fun ls hl => ?_)
                  refine lv_goto (tgt := 100) hx hb dX5_keep_185 (by decide) ?_
                  refine lv_iload hx hb dX5_keep_100 (lv_at hl 0 rfl) ?_
                  refine lv_iload_n hx hb dX5_keep_102 rfl (lv_at hl 3 rfl) ?_
                  refine lv_icmp_ge (tgt := 188) hx hb dX5_keep_103 (by decide) (fun h => absurd h (by decide)) (fun _ => ?_)
                  refine lv_iload_n hx hb dX5_keep_106 rfl (lv_at hl 5 rfl) ?_
                  refine lv_if_ne (tgt := 133) hx hb dX5_keep_107 (by decide) (fun _ => ?_) (fun h => absurd h (by decide))
                  refine lv_iload_n hx hb dX5_keep_133 rfl (lv_at hl 5 rfl) ?_
                  refine lv_iconst (v := 1) hx hb dX5_keep_134 (by decide) ?_
                  refine lv_icmp_ne (tgt := 161) hx hb dX5_keep_135 (by decide) (fun _ => ?_) (fun h => absurd h (by decide))
                  refine lv_aload_n hx hb dX5_keep_161 rfl (lv_at hl 4 rfl) ?_
                  refine va_get (D := D) (ci := 5) (v := .ref mC) (C := RX5) (T := TX5) (N := 17) hx hb hts k_2 hown hK.1 hP 0 rfl rfl 2 (by decide) k_6 (fun _ h9 => h9) rfl dX5_keep_162 ?_
                  refine lv_bipush (v := 6) hx hb dX5_keep_165 (by decide) ?_
                  refine lv_iload hx hb dX5_keep_167 (lv_at hl 1 rfl) ?_
                  refine lv_imul hx hb dX5_keep_169 ?_
                  refine lv_iload hx hb dX5_keep_170 (lv_at hl 0 rfl) ?_
                  refine lv_iadd hx hb dX5_keep_172 ?_
                  refine lv_aload_n hx hb dX5_keep_173 rfl (lv_at hl 4 rfl) ?_
                  refine va_get (D := D) (ci := 5) (v := .ref mF) (C := RX5) (T := TX5) (N := 17) hx hb hts k_2 hown hK.1 hP 0 rfl rfl 4 (by decide) k_1 (fun _ h9 => h9) rfl dX5_keep_174 ?_
                  refine lv_iload hx hb dX5_keep_177 (lv_at hl 0 rfl) ?_
                  refine ld_l hx hb hK.1 hP 2 1 rfl rfl (ix_lit (by decide)) 3 (by decide) (v := ((z5_norm_6_6 ff).2) 3) rfl dX5_keep_179 ?_
                  refine lv_l2i hx hb dX5_keep_180 rfl ?_
                  refine st_i hx hb hK.1 hP hD hS 3 0 rfl rfl (ix6l (ok_n hm2 c_8) 3 (by decide)) (((6 * (gm 2)) + 3).toNatClampNeg) rfl dX5_keep_181 (fun H locs hP hD hS => ?_)
                  have hP : va_P D vwCl [kM o mP mL mC mN mF mR mD mV mX mA mK cm mT pm mU mH mI, kA mN cI 3 gm, kJ mF cJ 6 ((z5_norm_6_6 ff).2), kA mC cI 360 (upd (upd (upd (upd gc (((6 * (gm 2)) + 0).toNatClampNeg) ((((z5_norm_6_6 ff).2) 0).toInt32)) (((6 * (gm 2)) + 1).toNatClampNeg) ((((z5_norm_6_6 ff).2) 1).toInt32)) (((6 * (gm 2)) + 2).toNatClampNeg) ((((z5_norm_6_6 ff).2) 2).toInt32)) (((6 * (gm 2)) + 3).toNatClampNeg) ((((z5_norm_6_6 ff).2) 3).toInt32))] H := hP
                  have hD : va_D A [kM o mP mL mC mN mF mR mD mV mX mA mK cm mT pm mU mH mI, kA mN cI 3 gm, kJ mF cJ 6 ((z5_norm_6_6 ff).2), kA mC cI 360 (upd (upd (upd (upd gc (((6 * (gm 2)) + 0).toNatClampNeg) ((((z5_norm_6_6 ff).2) 0).toInt32)) (((6 * (gm 2)) + 1).toNatClampNeg) ((((z5_norm_6_6 ff).2) 1).toInt32)) (((6 * (gm 2)) + 2).toNatClampNeg) ((((z5_norm_6_6 ff).2) 2).toInt32)) (((6 * (gm 2)) + 3).toNatClampNeg) ((((z5_norm_6_6 ff).2) 3).toInt32))] := hD
                  refine lv_iinc (v := 4) (lv' := [(6, .int 4), (5, .int (gm 2)), (4, .int 0), (3, .int 6), (0, .ref o), (1, .int 2), (2, .int e)]) hx hb dX5_keep_182 hl (k := 0) rfl (by decide) (by decide) rfl (fun ls hl => ?_)
                  refine lv_goto (tgt := 100) hx hb dX5_keep_185 (by decide) ?_
                  refine lv_iload hx hb dX5_keep_100 (lv_at hl 0 rfl) ?_
                  refine lv_iload_n hx hb dX5_keep_102 rfl (lv_at hl 3 rfl) ?_
                  refine lv_icmp_ge (tgt := 188) hx hb dX5_keep_103 (by decide) (fun h => absurd h (by decide)) (fun _ => ?_)
                  refine lv_iload_n hx hb dX5_keep_106 rfl (lv_at hl 5 rfl) ?_
                  refine lv_if_ne (tgt := 133) hx hb dX5_keep_107 (by decide) (fun _ => ?_) (fun h => absurd h (by decide))
                  refine lv_iload_n hx hb dX5_keep_133 rfl (lv_at hl 5 rfl) ?_
                  refine lv_iconst (v := 1) hx hb dX5_keep_134 (by decide) ?_
                  refine lv_icmp_ne (tgt := 161) hx hb dX5_keep_135 (by decide) (fun _ => ?_) (fun h => absurd h (by decide))
                  refine lv_aload_n hx hb dX5_keep_161 rfl (lv_at hl 4 rfl) ?_
                  refine va_get (D := D) (ci := 5) (v := .ref mC) (C := RX5) (T := TX5) (N := 17) hx hb hts k_2 hown hK.1 hP 0 rfl rfl 2 (by decide) k_6 (fun _ h9 => h9) rfl dX5_keep_162 ?_
                  refine lv_bipush (v := 6) hx hb dX5_keep_165 (by decide) ?_
                  refine lv_iload hx hb dX5_keep_167 (lv_at hl 1 rfl) ?_
                  refine lv_imul hx hb dX5_keep_169 ?_
                  refine lv_iload hx hb dX5_keep_170 (lv_at hl 0 rfl) ?_
                  refine lv_iadd hx hb dX5_keep_172 ?_
                  refine lv_aload_n hx hb dX5_keep_173 rfl (lv_at hl 4 rfl) ?_
                  refine va_get (D := D) (ci := 5) (v := .ref mF) (C := RX5) (T := TX5) (N := 17) hx hb hts k_2 hown hK.1 hP 0 rfl rfl 4 (by decide) k_1 (fun _ h9 => h9) rfl dX5_keep_174 ?_
                  refine lv_iload hx hb dX5_keep_177 (lv_at hl 0 rfl) ?_
                  refine ld_l hx hb hK.1 hP 2 1 rfl rfl (ix_lit (by decide)) 4 (by decide) (v := ((z5_norm_6_6 ff).2) 4) rfl dX5_keep_179 ?_
                  refine lv_l2i hx hb dX5_keep_180 rfl ?_
                  refine st_i hx hb hK.1 hP hD hS 3 0 rfl rfl (ix6l (ok_n hm2 c_8) 4 (by decide)) (((6 * (gm 2)) + 4).toNatClampNeg) rfl dX5_keep_181 (fun H locs hP hD hS => ?_)
                  have hP : va_P D vwCl [kM o mP mL mC mN mF mR mD mV mX mA mK cm mT pm mU mH mI, kA mN cI 3 gm, kJ mF cJ 6 ((z5_norm_6_6 ff).2), kA mC cI 360 (upd (upd (upd (upd (upd gc (((6 * (gm 2)) + 0).toNatClampNeg) ((((z5_norm_6_6 ff).2) 0).toInt32)) (((6 * (gm 2)) + 1).toNatClampNeg) ((((z5_norm_6_6 ff).2) 1).toInt32)) (((6 * (gm 2)) + 2).toNatClampNeg) ((((z5_norm_6_6 ff).2) 2).toInt32)) (((6 * (gm 2)) + 3).toNatClampNeg) ((((z5_norm_6_6 ff).2) 3).toInt32)) (((6 * (gm 2)) + 4).toNatClampNeg) ((((z5_norm_6_6 ff).2) 4).toInt32))] H := hP
                  have hD : va_D A [kM o mP mL mC mN mF mR mD mV mX mA mK cm mT pm mU mH mI, kA mN cI 3 gm, kJ mF cJ 6 ((z5_norm_6_6 ff).2), kA mC cI 360 (upd (upd (upd (upd (upd gc (((6 * (gm 2)) + 0).toNatClampNeg) ((((z5_norm_6_6 ff).2) 0).toInt32)) (((6 * (gm 2)) + 1).toNatClampNeg) ((((z5_norm_6_6 ff).2) 1).toInt32)) (((6 * (gm 2)) + 2).toNatClampNeg) ((((z5_norm_6_6 ff).2) 2).toInt32)) (((6 * (gm 2)) + 3).toNatClampNeg) ((((z5_norm_6_6 ff).2) 3).toInt32)) (((6 * (gm 2)) + 4).toNatClampNeg) ((((z5_norm_6_6 ff).2) 4).toInt32))] := hD
                  refine lv_iinc (v := 5) (lv' := [(6, .int 5), (5, .int (gm 2)), (4, .int 0), (3, .int 6), (0, .ref o), (1, .int 2), (2, .int e)]) hx hb dX5_keep_182 hl (k := 0) rfl (by decide) (by decide) rfl (fun ls hl => ?_)
                  refine lv_goto (tgt := 100) hx hb dX5_keep_185 (by decide) ?_
                  refine lv_iload hx hb dX5_keep_100 (lv_at hl 0 rfl) ?_
                  refine lv_iload_n hx hb dX5_keep_102 rfl (lv_at hl 3 rfl) ?_
                  refine lv_icmp_ge (tgt := 188) hx hb dX5_keep_103 (by decide) (fun h => absurd h (by decide)) (fun _ => ?_)
                  refine lv_iload_n hx hb dX5_keep_106 rfl (lv_at hl 5 rfl) ?_
                  refine lv_if_ne (tgt := 133) hx hb dX5_keep_107 (by decide) (fun _ => ?_) (fun h => absurd h (by decide))
                  refine lv_iload_n hx hb dX5_keep_133 rfl (lv_at hl 5 rfl) ?_
                  refine lv_iconst (v := 1) hx hb dX5_keep_134 (by decide) ?_
                  refine lv_icmp_ne (tgt := 161) hx hb dX5_keep_135 (by decide) (fun _ => ?_) (fun h => absurd h (by decide))
                  refine lv_aload_n hx hb dX5_keep_161 rfl (lv_at hl 4 rfl) ?_
                  refine va_get (D := D) (ci := 5) (v := .ref mC) (C := RX5) (T := TX5) (N := 17) hx hb hts k_2 hown hK.1 hP 0 rfl rfl 2 (by decide) k_6 (fun _ h9 => h9) rfl dX5_keep_162 ?_
                  refine lv_bipush (v := 6) hx hb dX5_keep_165 (by decide) ?_
                  refine lv_iload hx hb dX5_keep_167 (lv_at hl 1 rfl) ?_
                  refine lv_imul hx hb dX5_keep_169 ?_
                  refine lv_iload hx hb dX5_keep_170 (lv_at hl 0 rfl) ?_
                  refine lv_iadd hx hb dX5_keep_172 ?_
                  refine lv_aload_n hx hb dX5_keep_173 rfl (lv_at hl 4 rfl) ?_
                  refine va_get (D := D) (ci := 5) (v := .ref mF) (C := RX5) (T := TX5) (N := 17) hx hb hts k_2 hown hK.1 hP 0 rfl rfl 4 (by decide) k_1 (fun _ h9 => h9) rfl dX5_keep_174 ?_
                  refine lv_iload hx hb dX5_keep_177 (lv_at hl 0 rfl) ?_
                  refine ld_l hx hb hK.1 hP 2 1 rfl rfl (ix_lit (by decide)) 5 (by decide) (v := ((z5_norm_6_6 ff).2) 5) rfl dX5_keep_179 ?_
                  refine lv_l2i hx hb dX5_keep_180 rfl ?_
                  refine st_i hx hb hK.1 hP hD hS 3 0 rfl rfl (ix6l (ok_n hm2 c_8) 5 (by decide)) (((6 * (gm 2)) + 5).toNatClampNeg) rfl dX5_keep_181 (fun H locs hP hD hS => ?_)
                  have hP : va_P D vwCl [kM o mP mL mC mN mF mR mD mV mX mA mK cm mT pm mU mH mI, kA mN cI 3 gm, kJ mF cJ 6 ((z5_norm_6_6 ff).2), kA mC cI 360 (upd (upd (upd (upd (upd (upd gc (((6 * (gm 2)) + 0).toNatClampNeg) ((((z5_norm_6_6 ff).2) 0).toInt32)) (((6 * (gm 2)) + 1).toNatClampNeg) ((((z5_norm_6_6 ff).2) 1).toInt32)) (((6 * (gm 2)) + 2).toNatClampNeg) ((((z5_norm_6_6 ff).2) 2).toInt32)) (((6 * (gm 2)) + 3).toNatClampNeg) ((((z5_norm_6_6 ff).2) 3).toInt32)) (((6 * (gm 2)) + 4).toNatClampNeg) ((((z5_norm_6_6 ff).2) 4).toInt32)) (((6 * (gm 2)) + 5).toNatClampNeg) ((((z5_norm_6_6 ff).2) 5).toInt32))] H := hP
                  have hD : va_D A [kM o mP mL mC mN mF mR mD mV mX mA mK cm mT pm mU mH mI, kA mN cI 3 gm, kJ mF cJ 6 ((z5_norm_6_6 ff).2), kA mC cI 360 (upd (upd (upd (upd (upd (upd gc (((6 * (gm 2)) + 0).toNatClampNeg) ((((z5_norm_6_6 ff).2) 0).toInt32)) (((6 * (gm 2)) + 1).toNatClampNeg) ((((z5_norm_6_6 ff).2) 1).toInt32)) (((6 * (gm 2)) + 2).toNatClampNeg) ((((z5_norm_6_6 ff).2) 2).toInt32)) (((6 * (gm 2)) + 3).toNatClampNeg) ((((z5_norm_6_6 ff).2) 3).toInt32)) (((6 * (gm 2)) + 4).toNatClampNeg) ((((z5_norm_6_6 ff).2) 4).toInt32)) (((6 * (gm 2)) + 5).toNatClampNeg) ((((z5_norm_6_6 ff).2) 5).toInt32))] := hD
                  refine lv_iinc (v := 6) (lv' := [(6, .int 6), (5, .int (gm 2)), (4, .int 0), (3, .int 6), (0, .ref o), (1, .int 2), (2, .int e)]) hx hb dX5_keep_182 hl (k := 0) rfl (by decide) (by decide) rfl (fun ls hl => ?_)
                  refine lv_goto (tgt := 100) hx hb dX5_keep_185 (by decide) ?_
                  refine lv_iload hx hb dX5_keep_100 (lv_at hl 0 rfl) ?_
                  refine lv_iload_n hx hb dX5_keep_102 rfl (lv_at hl 3 rfl) ?_
                  refine lv_icmp_ge (tgt := 188) hx hb dX5_keep_103 (by decide) (fun _ => ?_) (fun h => absurd (by decide) h)
                  refine lv_aload_n hx hb dX5_keep_188 rfl (lv_at hl 4 rfl) ?_
                  refine va_get (D := D) (ci := 5) (v := .ref mN) (C := RX5) (T := TX5) (N := 17) hx hb hts k_2 hown hK.1 hP 0 rfl rfl 3 (by decide) k_5 (fun _ h9 => h9) rfl dX5_keep_189 ?_
                  refine lv_iload_n hx hb dX5_keep_192 rfl (lv_at hl 5 rfl) ?_
                  refine lv_dup2_11 hx hb dX5_keep_193 rfl rfl ?_
                  refine ld_i hx hb hK.1 hP 1 0 rfl rfl (ix_lit (by decide)) 2 (by decide) (v := gm 2) rfl dX5_keep_194 ?_
                  refine lv_iconst (v := 1) hx hb dX5_keep_195 (by decide) ?_
                  refine lv_iadd hx hb dX5_keep_196 ?_
                  refine st_i hx hb hK.1 hP hD hS 1 0 rfl rfl (ix_lit (by decide)) 2 (by decide) dX5_keep_197 (fun H locs hP hD hS => ?_)
                  have hP : va_P D vwCl [kM o mP mL mC mN mF mR mD mV mX mA mK cm mT pm mU mH mI, kA mN cI 3 (upd gm 2 ((gm 2) + 1)), kJ mF cJ 6 ((z5_norm_6_6 ff).2), kA mC cI 360 (upd (upd (upd (upd (upd (upd gc (((6 * (gm 2)) + 0).toNatClampNeg) ((((z5_norm_6_6 ff).2) 0).toInt32)) (((6 * (gm 2)) + 1).toNatClampNeg) ((((z5_norm_6_6 ff).2) 1).toInt32)) (((6 * (gm 2)) + 2).toNatClampNeg) ((((z5_norm_6_6 ff).2) 2).toInt32)) (((6 * (gm 2)) + 3).toNatClampNeg) ((((z5_norm_6_6 ff).2) 3).toInt32)) (((6 * (gm 2)) + 4).toNatClampNeg) ((((z5_norm_6_6 ff).2) 4).toInt32)) (((6 * (gm 2)) + 5).toNatClampNeg) ((((z5_norm_6_6 ff).2) 5).toInt32))] H := hP
                  have hD : va_D A [kM o mP mL mC mN mF mR mD mV mX mA mK cm mT pm mU mH mI, kA mN cI 3 (upd gm 2 ((gm 2) + 1)), kJ mF cJ 6 ((z5_norm_6_6 ff).2), kA mC cI 360 (upd (upd (upd (upd (upd (upd gc (((6 * (gm 2)) + 0).toNatClampNeg) ((((z5_norm_6_6 ff).2) 0).toInt32)) (((6 * (gm 2)) + 1).toNatClampNeg) ((((z5_norm_6_6 ff).2) 1).toInt32)) (((6 * (gm 2)) + 2).toNatClampNeg) ((((z5_norm_6_6 ff).2) 2).toInt32)) (((6 * (gm 2)) + 3).toNatClampNeg) ((((z5_norm_6_6 ff).2) 3).toInt32)) (((6 * (gm 2)) + 4).toNatClampNeg) ((((z5_norm_6_6 ff).2) 4).toInt32)) (((6 * (gm 2)) + 5).toNatClampNeg) ((((z5_norm_6_6 ff).2) 5).toInt32))] := hD
                  refine lv_iload hx hb dX5_keep_198 (lv_at hl 1 rfl) ?_
                  have he : z5_keep_2 gm ff gc e = (gm 2, upd gm 2 ((gm 2) + 1), upd (upd (upd (upd (upd (upd gc (((6 * (gm 2)) + 0).toNatClampNeg) ((((z5_norm_6_6 ff).2) 0).toInt32)) (((6 * (gm 2)) + 1).toNatClampNeg) ((((z5_norm_6_6 ff).2) 1).toInt32)) (((6 * (gm 2)) + 2).toNatClampNeg) ((((z5_norm_6_6 ff).2) 2).toInt32)) (((6 * (gm 2)) + 3).toNatClampNeg) ((((z5_norm_6_6 ff).2) 3).toInt32)) (((6 * (gm 2)) + 4).toNatClampNeg) ((((z5_norm_6_6 ff).2) 4).toInt32)) (((6 * (gm 2)) + 5).toNatClampNeg) ((((z5_norm_6_6 ff).2) 5).toInt32)) := by unfold z5_keep_2; rw [if_neg c_1, if_neg c_2, if_neg c_3, if_neg c_4, if_neg c_5, if_neg c_6, if_neg c_7, if_neg c_8]
                  have he_0 : (z5_keep_2 gm ff gc e).1 = gm 2 := by rw [he]
                  have he_1 : (z5_keep_2 gm ff gc e).2.1 = upd gm 2 ((gm 2) + 1) := by rw [he]
                  have he_2 : (z5_keep_2 gm ff gc e).2.2 = upd (upd (upd (upd (upd (upd gc (((6 * (gm 2)) + 0).toNatClampNeg) ((((z5_norm_6_6 ff).2) 0).toInt32)) (((6 * (gm 2)) + 1).toNatClampNeg) ((((z5_norm_6_6 ff).2) 1).toInt32)) (((6 * (gm 2)) + 2).toNatClampNeg) ((((z5_norm_6_6 ff).2) 2).toInt32)) (((6 * (gm 2)) + 3).toNatClampNeg) ((((z5_norm_6_6 ff).2) 3).toInt32)) (((6 * (gm 2)) + 4).toNatClampNeg) ((((z5_norm_6_6 ff).2) 4).toInt32)) (((6 * (gm 2)) + 5).toNatClampNeg) ((((z5_norm_6_6 ff).2) 5).toInt32) := by rw [he]
                  exact rt_i (w1 := fun uu : (Nat → Int64) => [kM o mP mL mC mN mF mR mD mV mX mA mK cm mT pm mU mH mI, kA mN cI 3 ((z5_keep_2 gm ff gc e).2.1), kJ mF cJ 6 uu, kA mC cI 360 ((z5_keep_2 gm ff gc e).2.2)]) hx hb hr hlk hS dX5_keep_200 ((z5_norm_6_6 ff).2) he_0.symm (by (try dsimp only); rw [he_1, he_2]; exact hP) (by (try dsimp only); rw [he_1, he_2]; exact hD)
                · skip
                  refine lv_ldc hx hb hown k_7 dX5_keep_86 ?_
                  have he : z5_keep_2 gm ff gc e = ((-1000005), gm, gc) := by unfold z5_keep_2; rw [if_neg c_1, if_neg c_2, if_neg c_3, if_neg c_4, if_neg c_5, if_neg c_6, if_neg c_7, if_pos c_8]
                  have he_0 : (z5_keep_2 gm ff gc e).1 = (-1000005) := by rw [he]
                  have he_1 : (z5_keep_2 gm ff gc e).2.1 = gm := by rw [he]
                  have he_2 : (z5_keep_2 gm ff gc e).2.2 = gc := by rw [he]
                  exact rt_i (w1 := fun uu : (Nat → Int64) => [kM o mP mL mC mN mF mR mD mV mX mA mK cm mT pm mU mH mI, kA mN cI 3 ((z5_keep_2 gm ff gc e).2.1), kJ mF cJ 6 uu, kA mC cI 360 ((z5_keep_2 gm ff gc e).2.2)]) hx hb hr hlk hS dX5_keep_88 ((z5_norm_6_6 ff).2) he_0.symm (by (try dsimp only); rw [he_1, he_2]; exact hP) (by (try dsimp only); rw [he_1, he_2]; exact hD)
              · skip
                refine lv_iconst (v := 1) hx hb dX5_keep_54 (by decide) ?_
                refine lv_goto (tgt := 59) hx hb dX5_keep_55 (by decide) ?_
                refine lv_istore (lv' := [(4, .int 1), (5, .int 5), (3, .int 6), (0, .ref o), (1, .int 2), (2, .int e)]) hx hb dX5_keep_59 hl (by decide) rfl (fun ls hl => ?_)
                refine lv_iinc (v := 6) (lv' := [(5, .int 6), (4, .int 1), (3, .int 6), (0, .ref o), (1, .int 2), (2, .int e)]) hx hb dX5_keep_61 hl (k := 1) rfl (by decide) (by decide) rfl (fun ls hl => ?_)
                refine lv_goto (tgt := 24) hx hb dX5_keep_64 (by decide) ?_
                refine lv_iload hx hb dX5_keep_24 (lv_at hl 0 rfl) ?_
                refine lv_iload_n hx hb dX5_keep_26 rfl (lv_at hl 2 rfl) ?_
                refine lv_icmp_ge (tgt := 67) hx hb dX5_keep_27 (by decide) (fun _ => ?_) (fun h => absurd (by decide) h)
                refine lv_iload hx hb dX5_keep_67 (lv_at hl 1 rfl) ?_
                refine lv_if_eq (tgt := 75) hx hb dX5_keep_69 (by decide) (fun h => absurd h (by decide)) (fun _ => ?_)
                refine lv_ldc hx hb hown k_8 dX5_keep_72 ?_
                have he : z5_keep_2 gm ff gc e = ((-1000006), gm, gc) := by unfold z5_keep_2; rw [if_neg c_1, if_neg c_2, if_neg c_3, if_neg c_4, if_neg c_5, if_neg c_6, if_pos c_7]
                have he_0 : (z5_keep_2 gm ff gc e).1 = (-1000006) := by rw [he]
                have he_1 : (z5_keep_2 gm ff gc e).2.1 = gm := by rw [he]
                have he_2 : (z5_keep_2 gm ff gc e).2.2 = gc := by rw [he]
                exact rt_i (w1 := fun uu : (Nat → Int64) => [kM o mP mL mC mN mF mR mD mV mX mA mK cm mT pm mU mH mI, kA mN cI 3 ((z5_keep_2 gm ff gc e).2.1), kJ mF cJ 6 uu, kA mC cI 360 ((z5_keep_2 gm ff gc e).2.2)]) hx hb hr hlk hS dX5_keep_74 ((z5_norm_6_6 ff).2) he_0.symm (by (try dsimp only); rw [he_1, he_2]; exact hP) (by (try dsimp only); rw [he_1, he_2]; exact hD)
            · skip
              refine lv_iconst (v := 1) hx hb dX5_keep_54 (by decide) ?_
              refine lv_goto (tgt := 59) hx hb dX5_keep_55 (by decide) ?_
              refine lv_istore (lv' := [(4, .int 1), (5, .int 4), (3, .int 6), (0, .ref o), (1, .int 2), (2, .int e)]) hx hb dX5_keep_59 hl (by decide) rfl (fun ls hl => ?_)
              refine lv_iinc (v := 5) (lv' := [(5, .int 5), (4, .int 1), (3, .int 6), (0, .ref o), (1, .int 2), (2, .int e)]) hx hb dX5_keep_61 hl (k := 1) rfl (by decide) (by decide) rfl (fun ls hl => ?_)
              refine lv_goto (tgt := 24) hx hb dX5_keep_64 (by decide) ?_
              refine lv_iload hx hb dX5_keep_24 (lv_at hl 0 rfl) ?_
              refine lv_iload_n hx hb dX5_keep_26 rfl (lv_at hl 2 rfl) ?_
              refine lv_icmp_ge (tgt := 67) hx hb dX5_keep_27 (by decide) (fun h => absurd h (by decide)) (fun _ => ?_)
              refine lv_iload hx hb dX5_keep_30 (lv_at hl 1 rfl) ?_
              refine lv_if_ne (tgt := 54) hx hb dX5_keep_32 (by decide) (fun _ => ?_) (fun h => absurd h (by decide))
              refine lv_iconst (v := 1) hx hb dX5_keep_54 (by decide) ?_
              refine lv_goto (tgt := 59) hx hb dX5_keep_55 (by decide) ?_
              refine lv_istore (lv' := [(4, .int 1), (5, .int 5), (3, .int 6), (0, .ref o), (1, .int 2), (2, .int e)]) hx hb dX5_keep_59 hl (by decide) rfl (fun ls hl => ?_)
              refine lv_iinc (v := 6) (lv' := [(5, .int 6), (4, .int 1), (3, .int 6), (0, .ref o), (1, .int 2), (2, .int e)]) hx hb dX5_keep_61 hl (k := 1) rfl (by decide) (by decide) rfl (fun ls hl => ?_)
              refine lv_goto (tgt := 24) hx hb dX5_keep_64 (by decide) ?_
              refine lv_iload hx hb dX5_keep_24 (lv_at hl 0 rfl) ?_
              refine lv_iload_n hx hb dX5_keep_26 rfl (lv_at hl 2 rfl) ?_
              refine lv_icmp_ge (tgt := 67) hx hb dX5_keep_27 (by decide) (fun _ => ?_) (fun h => absurd (by decide) h)
              refine lv_iload hx hb dX5_keep_67 (lv_at hl 1 rfl) ?_
              refine lv_if_eq (tgt := 75) hx hb dX5_keep_69 (by decide) (fun h => absurd h (by decide)) (fun _ => ?_)
              refine lv_ldc hx hb hown k_8 dX5_keep_72 ?_
              have he : z5_keep_2 gm ff gc e = ((-1000006), gm, gc) := by unfold z5_keep_2; rw [if_neg c_1, if_neg c_2, if_neg c_3, if_neg c_4, if_neg c_5, if_pos c_6]
              have he_0 : (z5_keep_2 gm ff gc e).1 = (-1000006) := by rw [he]
              have he_1 : (z5_keep_2 gm ff gc e).2.1 = gm := by rw [he]
              have he_2 : (z5_keep_2 gm ff gc e).2.2 = gc := by rw [he]
              exact rt_i (w1 := fun uu : (Nat → Int64) => [kM o mP mL mC mN mF mR mD mV mX mA mK cm mT pm mU mH mI, kA mN cI 3 ((z5_keep_2 gm ff gc e).2.1), kJ mF cJ 6 uu, kA mC cI 360 ((z5_keep_2 gm ff gc e).2.2)]) hx hb hr hlk hS dX5_keep_74 ((z5_norm_6_6 ff).2) he_0.symm (by (try dsimp only); rw [he_1, he_2]; exact hP) (by (try dsimp only); rw [he_1, he_2]; exact hD)
          · skip
            refine lv_iconst (v := 1) hx hb dX5_keep_54 (by decide) ?_
            refine lv_goto (tgt := 59) hx hb dX5_keep_55 (by decide) ?_
            refine lv_istore (lv' := [(4, .int 1), (5, .int 3), (3, .int 6), (0, .ref o), (1, .int 2), (2, .int e)]) hx hb dX5_keep_59 hl (by decide) rfl (fun ls hl => ?_)
            refine lv_iinc (v := 4) (lv' := [(5, .int 4), (4, .int 1), (3, .int 6), (0, .ref o), (1, .int 2), (2, .int e)]) hx hb dX5_keep_61 hl (k := 1) rfl (by decide) (by decide) rfl (fun ls hl => ?_)
            refine lv_goto (tgt := 24) hx hb dX5_keep_64 (by decide) ?_
            refine lv_iload hx hb dX5_keep_24 (lv_at hl 0 rfl) ?_
            refine lv_iload_n hx hb dX5_keep_26 rfl (lv_at hl 2 rfl) ?_
            refine lv_icmp_ge (tgt := 67) hx hb dX5_keep_27 (by decide) (fun h => absurd h (by decide)) (fun _ => ?_)
            refine lv_iload hx hb dX5_keep_30 (lv_at hl 1 rfl) ?_
            refine lv_if_ne (tgt := 54) hx hb dX5_keep_32 (by decide) (fun _ => ?_) (fun h => absurd h (by decide))
            refine lv_iconst (v := 1) hx hb dX5_keep_54 (by decide) ?_
            refine lv_goto (tgt := 59) hx hb dX5_keep_55 (by decide) ?_
            refine lv_istore (lv' := [(4, .int 1), (5, .int 4), (3, .int 6), (0, .ref o), (1, .int 2), (2, .int e)]) hx hb dX5_keep_59 hl (by decide) rfl (fun ls hl => ?_)
            refine lv_iinc (v := 5) (lv' := [(5, .int 5), (4, .int 1), (3, .int 6), (0, .ref o), (1, .int 2), (2, .int e)]) hx hb dX5_keep_61 hl (k := 1) rfl (by decide) (by decide) rfl (fun ls hl => ?_)
            refine lv_goto (tgt := 24) hx hb dX5_keep_64 (by decide) ?_
            refine lv_iload hx hb dX5_keep_24 (lv_at hl 0 rfl) ?_
            refine lv_iload_n hx hb dX5_keep_26 rfl (lv_at hl 2 rfl) ?_
            refine lv_icmp_ge (tgt := 67) hx hb dX5_keep_27 (by decide) (fun h => absurd h (by decide)) (fun _ => ?_)
            refine lv_iload hx hb dX5_keep_30 (lv_at hl 1 rfl) ?_
            refine lv_if_ne (tgt := 54) hx hb dX5_keep_32 (by decide) (fun _ => ?_) (fun h => absurd h (by decide))
            refine lv_iconst (v := 1) hx hb dX5_keep_54 (by decide) ?_
            refine lv_goto (tgt := 59) hx hb dX5_keep_55 (by decide) ?_
            refine lv_istore (lv' := [(4, .int 1), (5, .int 5), (3, .int 6), (0, .ref o), (1, .int 2), (2, .int e)]) hx hb dX5_keep_59 hl (by decide) rfl (fun ls hl => ?_)
            refine lv_iinc (v := 6) (lv' := [(5, .int 6), (4, .int 1), (3, .int 6), (0, .ref o), (1, .int 2), (2, .int e)]) hx hb dX5_keep_61 hl (k := 1) rfl (by decide) (by decide) rfl (fun ls hl => ?_)
            refine lv_goto (tgt := 24) hx hb dX5_keep_64 (by decide) ?_
            refine lv_iload hx hb dX5_keep_24 (lv_at hl 0 rfl) ?_
            refine lv_iload_n hx hb dX5_keep_26 rfl (lv_at hl 2 rfl) ?_
            refine lv_icmp_ge (tgt := 67) hx hb dX5_keep_27 (by decide) (fun _ => ?_) (fun h => absurd (by decide) h)
            refine lv_iload hx hb dX5_keep_67 (lv_at hl 1 rfl) ?_
            refine lv_if_eq (tgt := 75) hx hb dX5_keep_69 (by decide) (fun h => absurd h (by decide)) (fun _ => ?_)
            refine lv_ldc hx hb hown k_8 dX5_keep_72 ?_
            have he : z5_keep_2 gm ff gc e = ((-1000006), gm, gc) := by unfold z5_keep_2; rw [if_neg c_1, if_neg c_2, if_neg c_3, if_neg c_4, if_pos c_5]
            have he_0 : (z5_keep_2 gm ff gc e).1 = (-1000006) := by rw [he]
            have he_1 : (z5_keep_2 gm ff gc e).2.1 = gm := by rw [he]
            have he_2 : (z5_keep_2 gm ff gc e).2.2 = gc := by rw [he]
            exact rt_i (w1 := fun uu : (Nat → Int64) => [kM o mP mL mC mN mF mR mD mV mX mA mK cm mT pm mU mH mI, kA mN cI 3 ((z5_keep_2 gm ff gc e).2.1), kJ mF cJ 6 uu, kA mC cI 360 ((z5_keep_2 gm ff gc e).2.2)]) hx hb hr hlk hS dX5_keep_74 ((z5_norm_6_6 ff).2) he_0.symm (by (try dsimp only); rw [he_1, he_2]; exact hP) (by (try dsimp only); rw [he_1, he_2]; exact hD)
        · skip
          refine lv_iconst (v := 1) hx hb dX5_keep_54 (by decide) ?_
          refine lv_goto (tgt := 59) hx hb dX5_keep_55 (by decide) ?_
          refine lv_istore (lv' := [(4, .int 1), (5, .int 2), (3, .int 6), (0, .ref o), (1, .int 2), (2, .int e)]) hx hb dX5_keep_59 hl (by decide) rfl (fun ls hl => ?_)
          refine lv_iinc (v := 3) (lv' := [(5, .int 3), (4, .int 1), (3, .int 6), (0, .ref o), (1, .int 2), (2, .int e)]) hx hb dX5_keep_61 hl (k := 1) rfl (by decide) (by decide) rfl (fun ls hl => ?_)
          refine lv_goto (tgt := 24) hx hb dX5_keep_64 (by decide) ?_
          refine lv_iload hx hb dX5_keep_24 (lv_at hl 0 rfl) ?_
          refine lv_iload_n hx hb dX5_keep_26 rfl (lv_at hl 2 rfl) ?_
          refine lv_icmp_ge (tgt := 67) hx hb dX5_keep_27 (by decide) (fun h => absurd h (by decide)) (fun _ => ?_)
          refine lv_iload hx hb dX5_keep_30 (lv_at hl 1 rfl) ?_
          refine lv_if_ne (tgt := 54) hx hb dX5_keep_32 (by decide) (fun _ => ?_) (fun h => absurd h (by decide))
          refine lv_iconst (v := 1) hx hb dX5_keep_54 (by decide) ?_
          refine lv_goto (tgt := 59) hx hb dX5_keep_55 (by decide) ?_
          refine lv_istore (lv' := [(4, .int 1), (5, .int 3), (3, .int 6), (0, .ref o), (1, .int 2), (2, .int e)]) hx hb dX5_keep_59 hl (by decide) rfl (fun ls hl => ?_)
          refine lv_iinc (v := 4) (lv' := [(5, .int 4), (4, .int 1), (3, .int 6), (0, .ref o), (1, .int 2), (2, .int e)]) hx hb dX5_keep_61 hl (k := 1) rfl (by decide) (by decide) rfl (fun ls hl => ?_)
          refine lv_goto (tgt := 24) hx hb dX5_keep_64 (by decide) ?_
          refine lv_iload hx hb dX5_keep_24 (lv_at hl 0 rfl) ?_
          refine lv_iload_n hx hb dX5_keep_26 rfl (lv_at hl 2 rfl) ?_
          refine lv_icmp_ge (tgt := 67) hx hb dX5_keep_27 (by decide) (fun h => absurd h (by decide)) (fun _ => ?_)
          refine lv_iload hx hb dX5_keep_30 (lv_at hl 1 rfl) ?_
          refine lv_if_ne (tgt := 54) hx hb dX5_keep_32 (by decide) (fun _ => ?_) (fun h => absurd h (by decide))
          refine lv_iconst (v := 1) hx hb dX5_keep_54 (by decide) ?_
          refine lv_goto (tgt := 59) hx hb dX5_keep_55 (by decide) ?_
          refine lv_istore (lv' := [(4, .int 1), (5, .int 4), (3, .int 6), (0, .ref o), (1, .int 2), (2, .int e)]) hx hb dX5_keep_59 hl (by decide) rfl (fun ls hl => ?_)
          refine lv_iinc (v := 5) (lv' := [(5, .int 5), (4, .int 1), (3, .int 6), (0, .ref o), (1, .int 2), (2, .int e)]) hx hb dX5_keep_61 hl (k := 1) rfl (by decide) (by decide) rfl (fun ls hl => ?_)
          refine lv_goto (tgt := 24) hx hb dX5_keep_64 (by decide) ?_
          refine lv_iload hx hb dX5_keep_24 (lv_at hl 0 rfl) ?_
          refine lv_iload_n hx hb dX5_keep_26 rfl (lv_at hl 2 rfl) ?_
          refine lv_icmp_ge (tgt := 67) hx hb dX5_keep_27 (by decide) (fun h => absurd h (by decide)) (fun _ => ?_)
          refine lv_iload hx hb dX5_keep_30 (lv_at hl 1 rfl) ?_
          refine lv_if_ne (tgt := 54) hx hb dX5_keep_32 (by decide) (fun _ => ?_) (fun h => absurd h (by decide))
          refine lv_iconst (v := 1) hx hb dX5_keep_54 (by decide) ?_
          refine lv_goto (tgt := 59) hx hb dX5_keep_55 (by decide) ?_
          refine lv_istore (lv' := [(4, .int 1), (5, .int 5), (3, .int 6), (0, .ref o), (1, .int 2), (2, .int e)]) hx hb dX5_keep_59 hl (by decide) rfl (fun ls hl => ?_)
          refine lv_iinc (v := 6) (lv' := [(5, .int 6), (4, .int 1), (3, .int 6), (0, .ref o), (1, .int 2), (2, .int e)]) hx hb dX5_keep_61 hl (k := 1) rfl (by decide) (by decide) rfl (fun ls hl => ?_)
          refine lv_goto (tgt := 24) hx hb dX5_keep_64 (by decide) ?_
          refine lv_iload hx hb dX5_keep_24 (lv_at hl 0 rfl) ?_
          refine lv_iload_n hx hb dX5_keep_26 rfl (lv_at hl 2 rfl) ?_
          refine lv_icmp_ge (tgt := 67) hx hb dX5_keep_27 (by decide) (fun _ => ?_) (fun h => absurd (by decide) h)
          refine lv_iload hx hb dX5_keep_67 (lv_at hl 1 rfl) ?_
          refine lv_if_eq (tgt := 75) hx hb dX5_keep_69 (by decide) (fun h => absurd h (by decide)) (fun _ => ?_)
          refine lv_ldc hx hb hown k_8 dX5_keep_72 ?_
          have he : z5_keep_2 gm ff gc e = ((-1000006), gm, gc) := by unfold z5_keep_2; rw [if_neg c_1, if_neg c_2, if_neg c_3, if_pos c_4]
          have he_0 : (z5_keep_2 gm ff gc e).1 = (-1000006) := by rw [he]
          have he_1 : (z5_keep_2 gm ff gc e).2.1 = gm := by rw [he]
          have he_2 : (z5_keep_2 gm ff gc e).2.2 = gc := by rw [he]
          exact rt_i (w1 := fun uu : (Nat → Int64) => [kM o mP mL mC mN mF mR mD mV mX mA mK cm mT pm mU mH mI, kA mN cI 3 ((z5_keep_2 gm ff gc e).2.1), kJ mF cJ 6 uu, kA mC cI 360 ((z5_keep_2 gm ff gc e).2.2)]) hx hb hr hlk hS dX5_keep_74 ((z5_norm_6_6 ff).2) he_0.symm (by (try dsimp only); rw [he_1, he_2]; exact hP) (by (try dsimp only); rw [he_1, he_2]; exact hD)
      · skip
        refine lv_iconst (v := 1) hx hb dX5_keep_54 (by decide) ?_
        refine lv_goto (tgt := 59) hx hb dX5_keep_55 (by decide) ?_
        refine lv_istore (lv' := [(4, .int 1), (5, .int 1), (3, .int 6), (0, .ref o), (1, .int 2), (2, .int e)]) hx hb dX5_keep_59 hl (by decide) rfl (fun ls hl => ?_)
        refine lv_iinc (v := 2) (lv' := [(5, .int 2), (4, .int 1), (3, .int 6), (0, .ref o), (1, .int 2), (2, .int e)]) hx hb dX5_keep_61 hl (k := 1) rfl (by decide) (by decide) rfl (fun ls hl => ?_)
        refine lv_goto (tgt := 24) hx hb dX5_keep_64 (by decide) ?_
        refine lv_iload hx hb dX5_keep_24 (lv_at hl 0 rfl) ?_
        refine lv_iload_n hx hb dX5_keep_26 rfl (lv_at hl 2 rfl) ?_
        refine lv_icmp_ge (tgt := 67) hx hb dX5_keep_27 (by decide) (fun h => absurd h (by decide)) (fun _ => ?_)
        refine lv_iload hx hb dX5_keep_30 (lv_at hl 1 rfl) ?_
        refine lv_if_ne (tgt := 54) hx hb dX5_keep_32 (by decide) (fun _ => ?_) (fun h => absurd h (by decide))
        refine lv_iconst (v := 1) hx hb dX5_keep_54 (by decide) ?_
        refine lv_goto (tgt := 59) hx hb dX5_keep_55 (by decide) ?_
        refine lv_istore (lv' := [(4, .int 1), (5, .int 2), (3, .int 6), (0, .ref o), (1, .int 2), (2, .int e)]) hx hb dX5_keep_59 hl (by decide) rfl (fun ls hl => ?_)
        refine lv_iinc (v := 3) (lv' := [(5, .int 3), (4, .int 1), (3, .int 6), (0, .ref o), (1, .int 2), (2, .int e)]) hx hb dX5_keep_61 hl (k := 1) rfl (by decide) (by decide) rfl (fun ls hl => ?_)
        refine lv_goto (tgt := 24) hx hb dX5_keep_64 (by decide) ?_
        refine lv_iload hx hb dX5_keep_24 (lv_at hl 0 rfl) ?_
        refine lv_iload_n hx hb dX5_keep_26 rfl (lv_at hl 2 rfl) ?_
        refine lv_icmp_ge (tgt := 67) hx hb dX5_keep_27 (by decide) (fun h => absurd h (by decide)) (fun _ => ?_)
        refine lv_iload hx hb dX5_keep_30 (lv_at hl 1 rfl) ?_
        refine lv_if_ne (tgt := 54) hx hb dX5_keep_32 (by decide) (fun _ => ?_) (fun h => absurd h (by decide))
        refine lv_iconst (v := 1) hx hb dX5_keep_54 (by decide) ?_
        refine lv_goto (tgt := 59) hx hb dX5_keep_55 (by decide) ?_
        refine lv_istore (lv' := [(4, .int 1), (5, .int 3), (3, .int 6), (0, .ref o), (1, .int 2), (2, .int e)]) hx hb dX5_keep_59 hl (by decide) rfl (fun ls hl => ?_)
        refine lv_iinc (v := 4) (lv' := [(5, .int 4), (4, .int 1), (3, .int 6), (0, .ref o), (1, .int 2), (2, .int e)]) hx hb dX5_keep_61 hl (k := 1) rfl (by decide) (by decide) rfl (fun ls hl => ?_)
        refine lv_goto (tgt := 24) hx hb dX5_keep_64 (by decide) ?_
        refine lv_iload hx hb dX5_keep_24 (lv_at hl 0 rfl) ?_
        refine lv_iload_n hx hb dX5_keep_26 rfl (lv_at hl 2 rfl) ?_
        refine lv_icmp_ge (tgt := 67) hx hb dX5_keep_27 (by decide) (fun h => absurd h (by decide)) (fun _ => ?_)
        refine lv_iload hx hb dX5_keep_30 (lv_at hl 1 rfl) ?_
        refine lv_if_ne (tgt := 54) hx hb dX5_keep_32 (by decide) (fun _ => ?_) (fun h => absurd h (by decide))
        refine lv_iconst (v := 1) hx hb dX5_keep_54 (by decide) ?_
        refine lv_goto (tgt := 59) hx hb dX5_keep_55 (by decide) ?_
        refine lv_istore (lv' := [(4, .int 1), (5, .int 4), (3, .int 6), (0, .ref o), (1, .int 2), (2, .int e)]) hx hb dX5_keep_59 hl (by decide) rfl (fun ls hl => ?_)
        refine lv_iinc (v := 5) (lv' := [(5, .int 5), (4, .int 1), (3, .int 6), (0, .ref o), (1, .int 2), (2, .int e)]) hx hb dX5_keep_61 hl (k := 1) rfl (by decide) (by decide) rfl (fun ls hl => ?_)
        refine lv_goto (tgt := 24) hx hb dX5_keep_64 (by decide) ?_
        refine lv_iload hx hb dX5_keep_24 (lv_at hl 0 rfl) ?_
        refine lv_iload_n hx hb dX5_keep_26 rfl (lv_at hl 2 rfl) ?_
        refine lv_icmp_ge (tgt := 67) hx hb dX5_keep_27 (by decide) (fun h => absurd h (by decide)) (fun _ => ?_)
        refine lv_iload hx hb dX5_keep_30 (lv_at hl 1 rfl) ?_
        refine lv_if_ne (tgt := 54) hx hb dX5_keep_32 (by decide) (fun _ => ?_) (fun h => absurd h (by decide))
        refine lv_iconst (v := 1) hx hb dX5_keep_54 (by decide) ?_
        refine lv_goto (tgt := 59) hx hb dX5_keep_55 (by decide) ?_
        refine lv_istore (lv' := [(4, .int 1), (5, .int 5), (3, .int 6), (0, .ref o), (1, .int 2), (2, .int e)]) hx hb dX5_keep_59 hl (by decide) rfl (fun ls hl => ?_)
        refine lv_iinc (v := 6) (lv' := [(5, .int 6), (4, .int 1), (3, .int 6), (0, .ref o), (1, .int 2), (2, .int e)]) hx hb dX5_keep_61 hl (k := 1) rfl (by decide) (by decide) rfl (fun ls hl => ?_)
        refine lv_goto (tgt := 24) hx hb dX5_keep_64 (by decide) ?_
        refine lv_iload hx hb dX5_keep_24 (lv_at hl 0 rfl) ?_
        refine lv_iload_n hx hb dX5_keep_26 rfl (lv_at hl 2 rfl) ?_
        refine lv_icmp_ge (tgt := 67) hx hb dX5_keep_27 (by decide) (fun _ => ?_) (fun h => absurd (by decide) h)
        refine lv_iload hx hb dX5_keep_67 (lv_at hl 1 rfl) ?_
        refine lv_if_eq (tgt := 75) hx hb dX5_keep_69 (by decide) (fun h => absurd h (by decide)) (fun _ => ?_)
        refine lv_ldc hx hb hown k_8 dX5_keep_72 ?_
        have he : z5_keep_2 gm ff gc e = ((-1000006), gm, gc) := by unfold z5_keep_2; rw [if_neg c_1, if_neg c_2, if_pos c_3]
        have he_0 : (z5_keep_2 gm ff gc e).1 = (-1000006) := by rw [he]
        have he_1 : (z5_keep_2 gm ff gc e).2.1 = gm := by rw [he]
        have he_2 : (z5_keep_2 gm ff gc e).2.2 = gc := by rw [he]
        exact rt_i (w1 := fun uu : (Nat → Int64) => [kM o mP mL mC mN mF mR mD mV mX mA mK cm mT pm mU mH mI, kA mN cI 3 ((z5_keep_2 gm ff gc e).2.1), kJ mF cJ 6 uu, kA mC cI 360 ((z5_keep_2 gm ff gc e).2.2)]) hx hb hr hlk hS dX5_keep_74 ((z5_norm_6_6 ff).2) he_0.symm (by (try dsimp only); rw [he_1, he_2]; exact hP) (by (try dsimp only); rw [he_1, he_2]; exact hD)
    · skip
      refine lv_iconst (v := 1) hx hb dX5_keep_54 (by decide) ?_
      refine lv_goto (tgt := 59) hx hb dX5_keep_55 (by decide) ?_
      refine lv_istore (lv' := [(4, .int 1), (5, .int 0), (3, .int 6), (0, .ref o), (1, .int 2), (2, .int e)]) hx hb dX5_keep_59 hl (by decide) rfl (fun ls hl => ?_)
      refine lv_iinc (v := 1) (lv' := [(5, .int 1), (4, .int 1), (3, .int 6), (0, .ref o), (1, .int 2), (2, .int e)]) hx hb dX5_keep_61 hl (k := 1) rfl (by decide) (by decide) rfl (fun ls hl => ?_)
      refine lv_goto (tgt := 24) hx hb dX5_keep_64 (by decide) ?_
      refine lv_iload hx hb dX5_keep_24 (lv_at hl 0 rfl) ?_
      refine lv_iload_n hx hb dX5_keep_26 rfl (lv_at hl 2 rfl) ?_
      refine lv_icmp_ge (tgt := 67) hx hb dX5_keep_27 (by decide) (fun h => absurd h (by decide)) (fun _ => ?_)
      refine lv_iload hx hb dX5_keep_30 (lv_at hl 1 rfl) ?_
      refine lv_if_ne (tgt := 54) hx hb dX5_keep_32 (by decide) (fun _ => ?_) (fun h => absurd h (by decide))
      refine lv_iconst (v := 1) hx hb dX5_keep_54 (by decide) ?_
      refine lv_goto (tgt := 59) hx hb dX5_keep_55 (by decide) ?_
      refine lv_istore (lv' := [(4, .int 1), (5, .int 1), (3, .int 6), (0, .ref o), (1, .int 2), (2, .int e)]) hx hb dX5_keep_59 hl (by decide) rfl (fun ls hl => ?_)
      refine lv_iinc (v := 2) (lv' := [(5, .int 2), (4, .int 1), (3, .int 6), (0, .ref o), (1, .int 2), (2, .int e)]) hx hb dX5_keep_61 hl (k := 1) rfl (by decide) (by decide) rfl (fun ls hl => ?_)
      refine lv_goto (tgt := 24) hx hb dX5_keep_64 (by decide) ?_
      refine lv_iload hx hb dX5_keep_24 (lv_at hl 0 rfl) ?_
      refine lv_iload_n hx hb dX5_keep_26 rfl (lv_at hl 2 rfl) ?_
      refine lv_icmp_ge (tgt := 67) hx hb dX5_keep_27 (by decide) (fun h => absurd h (by decide)) (fun _ => ?_)
      refine lv_iload hx hb dX5_keep_30 (lv_at hl 1 rfl) ?_
      refine lv_if_ne (tgt := 54) hx hb dX5_keep_32 (by decide) (fun _ => ?_) (fun h => absurd h (by decide))
      refine lv_iconst (v := 1) hx hb dX5_keep_54 (by decide) ?_
      refine lv_goto (tgt := 59) hx hb dX5_keep_55 (by decide) ?_
      refine lv_istore (lv' := [(4, .int 1), (5, .int 2), (3, .int 6), (0, .ref o), (1, .int 2), (2, .int e)]) hx hb dX5_keep_59 hl (by decide) rfl (fun ls hl => ?_)
      refine lv_iinc (v := 3) (lv' := [(5, .int 3), (4, .int 1), (3, .int 6), (0, .ref o), (1, .int 2), (2, .int e)]) hx hb dX5_keep_61 hl (k := 1) rfl (by decide) (by decide) rfl (fun ls hl => ?_)
      refine lv_goto (tgt := 24) hx hb dX5_keep_64 (by decide) ?_
      refine lv_iload hx hb dX5_keep_24 (lv_at hl 0 rfl) ?_
      refine lv_iload_n hx hb dX5_keep_26 rfl (lv_at hl 2 rfl) ?_
      refine lv_icmp_ge (tgt := 67) hx hb dX5_keep_27 (by decide) (fun h => absurd h (by decide)) (fun _ => ?_)
      refine lv_iload hx hb dX5_keep_30 (lv_at hl 1 rfl) ?_
      refine lv_if_ne (tgt := 54) hx hb dX5_keep_32 (by decide) (fun _ => ?_) (fun h => absurd h (by decide))
      refine lv_iconst (v := 1) hx hb dX5_keep_54 (by decide) ?_
      refine lv_goto (tgt := 59) hx hb dX5_keep_55 (by decide) ?_
      refine lv_istore (lv' := [(4, .int 1), (5, .int 3), (3, .int 6), (0, .ref o), (1, .int 2), (2, .int e)]) hx hb dX5_keep_59 hl (by decide) rfl (fun ls hl => ?_)
      refine lv_iinc (v := 4) (lv' := [(5, .int 4), (4, .int 1), (3, .int 6), (0, .ref o), (1, .int 2), (2, .int e)]) hx hb dX5_keep_61 hl (k := 1) rfl (by decide) (by decide) rfl (fun ls hl => ?_)
      refine lv_goto (tgt := 24) hx hb dX5_keep_64 (by decide) ?_
      refine lv_iload hx hb dX5_keep_24 (lv_at hl 0 rfl) ?_
      refine lv_iload_n hx hb dX5_keep_26 rfl (lv_at hl 2 rfl) ?_
      refine lv_icmp_ge (tgt := 67) hx hb dX5_keep_27 (by decide) (fun h => absurd h (by decide)) (fun _ => ?_)
      refine lv_iload hx hb dX5_keep_30 (lv_at hl 1 rfl) ?_
      refine lv_if_ne (tgt := 54) hx hb dX5_keep_32 (by decide) (fun _ => ?_) (fun h => absurd h (by decide))
      refine lv_iconst (v := 1) hx hb dX5_keep_54 (by decide) ?_
      refine lv_goto (tgt := 59) hx hb dX5_keep_55 (by decide) ?_
      refine lv_istore (lv' := [(4, .int 1), (5, .int 4), (3, .int 6), (0, .ref o), (1, .int 2), (2, .int e)]) hx hb dX5_keep_59 hl (by decide) rfl (fun ls hl => ?_)
      refine lv_iinc (v := 5) (lv' := [(5, .int 5), (4, .int 1), (3, .int 6), (0, .ref o), (1, .int 2), (2, .int e)]) hx hb dX5_keep_61 hl (k := 1) rfl (by decide) (by decide) rfl (fun ls hl => ?_)
      refine lv_goto (tgt := 24) hx hb dX5_keep_64 (by decide) ?_
      refine lv_iload hx hb dX5_keep_24 (lv_at hl 0 rfl) ?_
      refine lv_iload_n hx hb dX5_keep_26 rfl (lv_at hl 2 rfl) ?_
      refine lv_icmp_ge (tgt := 67) hx hb dX5_keep_27 (by decide) (fun h => absurd h (by decide)) (fun _ => ?_)
      refine lv_iload hx hb dX5_keep_30 (lv_at hl 1 rfl) ?_
      refine lv_if_ne (tgt := 54) hx hb dX5_keep_32 (by decide) (fun _ => ?_) (fun h => absurd h (by decide))
      refine lv_iconst (v := 1) hx hb dX5_keep_54 (by decide) ?_
      refine lv_goto (tgt := 59) hx hb dX5_keep_55 (by decide) ?_
      refine lv_istore (lv' := [(4, .int 1), (5, .int 5), (3, .int 6), (0, .ref o), (1, .int 2), (2, .int e)]) hx hb dX5_keep_59 hl (by decide) rfl (fun ls hl => ?_)
      refine lv_iinc (v := 6) (lv' := [(5, .int 6), (4, .int 1), (3, .int 6), (0, .ref o), (1, .int 2), (2, .int e)]) hx hb dX5_keep_61 hl (k := 1) rfl (by decide) (by decide) rfl (fun ls hl => ?_)
      refine lv_goto (tgt := 24) hx hb dX5_keep_64 (by decide) ?_
      refine lv_iload hx hb dX5_keep_24 (lv_at hl 0 rfl) ?_
      refine lv_iload_n hx hb dX5_keep_26 rfl (lv_at hl 2 rfl) ?_
      refine lv_icmp_ge (tgt := 67) hx hb dX5_keep_27 (by decide) (fun _ => ?_) (fun h => absurd (by decide) h)
      refine lv_iload hx hb dX5_keep_67 (lv_at hl 1 rfl) ?_
      refine lv_if_eq (tgt := 75) hx hb dX5_keep_69 (by decide) (fun h => absurd h (by decide)) (fun _ => ?_)
      refine lv_ldc hx hb hown k_8 dX5_keep_72 ?_
      have he : z5_keep_2 gm ff gc e = ((-1000006), gm, gc) := by unfold z5_keep_2; rw [if_neg c_1, if_pos c_2]
      have he_0 : (z5_keep_2 gm ff gc e).1 = (-1000006) := by rw [he]
      have he_1 : (z5_keep_2 gm ff gc e).2.1 = gm := by rw [he]
      have he_2 : (z5_keep_2 gm ff gc e).2.2 = gc := by rw [he]
      exact rt_i (w1 := fun uu : (Nat → Int64) => [kM o mP mL mC mN mF mR mD mV mX mA mK cm mT pm mU mH mI, kA mN cI 3 ((z5_keep_2 gm ff gc e).2.1), kJ mF cJ 6 uu, kA mC cI 360 ((z5_keep_2 gm ff gc e).2.2)]) hx hb hr hlk hS dX5_keep_74 ((z5_norm_6_6 ff).2) he_0.symm (by (try dsimp only); rw [he_1, he_2]; exact hP) (by (try dsimp only); rw [he_1, he_2]; exact hD)
  · skip
    refine lv_iload_n hx hb dX5_keep_16 rfl (lv_at hl 3 rfl) ?_
    have he : z5_keep_2 gm ff gc e = (e, gm, gc) := by unfold z5_keep_2; rw [if_pos c_1]
    have he_0 : (z5_keep_2 gm ff gc e).1 = e := by rw [he]
    have he_1 : (z5_keep_2 gm ff gc e).2.1 = gm := by rw [he]
    have he_2 : (z5_keep_2 gm ff gc e).2.2 = gc := by rw [he]
    exact rt_i (w1 := fun uu : (Nat → Int64) => [kM o mP mL mC mN mF mR mD mV mX mA mK cm mT pm mU mH mI, kA mN cI 3 ((z5_keep_2 gm ff gc e).2.1), kJ mF cJ 6 uu, kA mC cI 360 ((z5_keep_2 gm ff gc e).2.2)]) hx hb hr hlk hS dX5_keep_17 ((z5_norm_6_6 ff).2) he_0.symm (by (try dsimp only); rw [he_1, he_2]; exact hP) (by (try dsimp only); rw [he_1, he_2]; exact hD)
def z5_told3_0 (gm : Nat → Int32) (ff : Nat → Int64) (gp : Nat → Int32) (x : Int32) (y : Int32) (z : Int32) : Int32 × (Nat → Int32) × (Nat → Int32) := if (z5_isNear x.toInt64) = 0 then ((-1000003), gm, gp) else if (z5_isNear y.toInt64) = 0 then ((-1000003), gm, gp) else if (z5_isNear z.toInt64) = 0 then ((-1000003), gm, gp) else ((z5_keep_0 gm (vp_updL (vp_updL (vp_updL ff 0 x.toInt64) 1 y.toInt64) 2 z.toInt64) gp (-1000003)).1, (z5_keep_0 gm (vp_updL (vp_updL (vp_updL ff 0 x.toInt64) 1 y.toInt64) 2 z.toInt64) gp (-1000003)).2.1, (z5_keep_0 gm (vp_updL (vp_updL (vp_updL ff 0 x.toInt64) 1 y.toInt64) 2 z.toInt64) gp (-1000003)).2.2)
set_option maxHeartbeats 4000000 in
set_option maxRecDepth 100000 in
/-- X5.told3 -/
theorem c_X5_told3_0 (l : Launch) (D : va_G) (cI cJ : ClassId) (o : Nat) (mP : Nat) (mL : Nat) (mC : Nat) (mN : Nat) (mF : Nat) (mR : Nat) (mD : Nat) (mV : Nat) (mX : Nat) (mA : Nat) (mK : Nat) (mT : Nat) (mU : Nat) (mH : Nat) (mI : Nat) (cm : Int32) (pm : Int32) (gm : Nat → Int32) (ff : Nat → Int64) (gp : Nat → Int32) (x : Int32) (y : Int32) (z : Int32) (hm0 : n_ok (gm 0)) : mw_C l yX5_told3 wsX5_told3 ({ frames := 3, cells := 0, slots := 0, locals := 80 }) D cI cJ [.ref o, .int 0, .int x, .int y, .int z] [kM o mP mL mC mN mF mR mD mV mX mA mK cm mT pm mU mH mI, kA mN cI 3 gm, kJ mF cJ 6 ff, kA mP cI 180 gp] (qe_i (fun (r : Int32) (_ : (Nat → Int64)) => r = (z5_told3_0 gm ff gp x y z).1) (fun uu => [kM o mP mL mC mN mF mR mD mV mX mA mK cm mT pm mU mH mI, kA mN cI 3 ((z5_told3_0 gm ff gp x y z).2.1), kJ mF cJ 6 uu, kA mP cI 180 ((z5_told3_0 gm ff gp x y z).2.2)])) := by
  refine mw_in (cc := cX5_told3) (lv := [(0, .ref o), (1, .int 0), (2, .int x), (3, .int y), (4, .int z)]) (by decide) rfl (Nat.le_of_ble_eq_true rfl) rfl ?_
  intro pG eG sG mG below meth cG ls A hx hb hr hml hown hts hlk hin hP hK hD hA hS hl
  have hown : sG.vm.findClass RX5 = some mG.cls := hown
  have k_1 := hts (.constant RX5 86 (-1000003)) (by decide +kernel)
  have k_2 := hts (.fieldLink RX5 22 "ConicRowsModel" "fresh" "[J") (by decide +kernel)
  have k_3 : ∀ w ∈ wsX50, w ∈ wsX5_told3 := by decide +kernel
  refine lv_iload_n hx hb dX5_told3_0 rfl (lv_at hl 2 rfl) ?_
  refine lv_i2l hx hb dX5_told3_1 rfl ?_
  have hPc := hP.sub (ws' := []) [] rfl
  refine cr_i (va_runS (As := [.long x.toInt64]) (rest := []) ⟨hx, hb, hml, hown, hts⟩ (c_X5_isNear l D cI cJ x.toInt64) (va_cwS 1 hts gX5_told3_X5_isNear rfl rfl rfl (by decide +kernel) ⟨Nat.le_of_ble_eq_true rfl, Nat.le_of_ble_eq_true rfl⟩) ⟨gd_blR, gd_prR hPc hK⟩ rfl rfl hl.1 rfl (lv_room (Nat.le_of_ble_eq_true rfl)) dX5_told3_2 ⟨Nat.zero_le _, Nat.zero_le _⟩) (fun r_2 hw => ?_)
  subst hw
  clear hPc
  refine lv_if_eq (tgt := 25) hx hb dX5_told3_5 (by decide) (fun c_1 => ?_) (fun c_1 => ?_)
  · skip
    refine lv_ldc hx hb hown k_1 dX5_told3_25 ?_
    have he : z5_told3_0 gm ff gp x y z = ((-1000003), gm, gp) := by unfold z5_told3_0; rw [if_pos c_1]
    have he_0 : (z5_told3_0 gm ff gp x y z).1 = (-1000003) := by rw [he]
    have he_1 : (z5_told3_0 gm ff gp x y z).2.1 = gm := by rw [he]
    have he_2 : (z5_told3_0 gm ff gp x y z).2.2 = gp := by rw [he]
    exact rt_i (w1 := fun uu : (Nat → Int64) => [kM o mP mL mC mN mF mR mD mV mX mA mK cm mT pm mU mH mI, kA mN cI 3 ((z5_told3_0 gm ff gp x y z).2.1), kJ mF cJ 6 uu, kA mP cI 180 ((z5_told3_0 gm ff gp x y z).2.2)]) hx hb hr hlk hS dX5_told3_27 (ff) he_0.symm (by (try dsimp only); rw [he_1, he_2]; exact hP) (by (try dsimp only); rw [he_1, he_2]; exact hD)
  · skip
    refine lv_iload_n hx hb dX5_told3_8 rfl (lv_at hl 3 rfl) ?_
    refine lv_i2l hx hb dX5_told3_9 rfl ?_
    have hPc := hP.sub (ws' := []) [] rfl
    refine cr_i (va_runS (As := [.long y.toInt64]) (rest := []) ⟨hx, hb, hml, hown, hts⟩ (c_X5_isNear l D cI cJ y.toInt64) (va_cwS 1 hts gX5_told3_X5_isNear rfl rfl rfl (by decide +kernel) ⟨Nat.le_of_ble_eq_true rfl, Nat.le_of_ble_eq_true rfl⟩) ⟨gd_blR, gd_prR hPc hK⟩ rfl rfl hl.1 rfl (lv_room (Nat.le_of_ble_eq_true rfl)) dX5_told3_10 ⟨Nat.zero_le _, Nat.zero_le _⟩) (fun r_10 hw => ?_)
    subst hw
    clear hPc
    refine lv_if_eq (tgt := 25) hx hb dX5_told3_13 (by decide) (fun c_2 => ?_) (fun c_2 => ?_)
    · skip
      refine lv_ldc hx hb hown k_1 dX5_told3_25 ?_
      have he : z5_told3_0 gm ff gp x y z = ((-1000003), gm, gp) := by unfold z5_told3_0; rw [if_neg c_1, if_pos c_2]
      have he_0 : (z5_told3_0 gm ff gp x y z).1 = (-1000003) := by rw [he]
      have he_1 : (z5_told3_0 gm ff gp x y z).2.1 = gm := by rw [he]
      have he_2 : (z5_told3_0 gm ff gp x y z).2.2 = gp := by rw [he]
      exact rt_i (w1 := fun uu : (Nat → Int64) => [kM o mP mL mC mN mF mR mD mV mX mA mK cm mT pm mU mH mI, kA mN cI 3 ((z5_told3_0 gm ff gp x y z).2.1), kJ mF cJ 6 uu, kA mP cI 180 ((z5_told3_0 gm ff gp x y z).2.2)]) hx hb hr hlk hS dX5_told3_27 (ff) he_0.symm (by (try dsimp only); rw [he_1, he_2]; exact hP) (by (try dsimp only); rw [he_1, he_2]; exact hD)
    · skip
      refine lv_iload hx hb dX5_told3_16 (lv_at hl 4 rfl) ?_
      refine lv_i2l hx hb dX5_told3_18 rfl ?_
      have hPc := hP.sub (ws' := []) [] rfl
      refine cr_i (va_runS (As := [.long z.toInt64]) (rest := []) ⟨hx, hb, hml, hown, hts⟩ (c_X5_isNear l D cI cJ z.toInt64) (va_cwS 1 hts gX5_told3_X5_isNear rfl rfl rfl (by decide +kernel) ⟨Nat.le_of_ble_eq_true rfl, Nat.le_of_ble_eq_true rfl⟩) ⟨gd_blR, gd_prR hPc hK⟩ rfl rfl hl.1 rfl (lv_room (Nat.le_of_ble_eq_true rfl)) dX5_told3_19 ⟨Nat.zero_le _, Nat.zero_le _⟩) (fun r_19 hw => ?_)
      subst hw
      clear hPc
      refine lv_if_ne (tgt := 28) hx hb dX5_told3_22 (by decide) (fun c_3 => ?_) (fun c_3 => ?_)
      · skip
        refine lv_aload_n hx hb dX5_told3_28 rfl (lv_at hl 0 rfl) ?_
        refine va_get (D := D) (ci := 5) (v := .ref mF) (C := RX5) (T := TX5) (N := 17) hx hb hts k_3 hown hK.1 hP 0 rfl rfl 4 (by decide) k_2 (fun _ h9 => h9) rfl dX5_told3_29 ?_
        refine lv_iconst (v := 0) hx hb dX5_told3_32 (by decide) ?_
        refine lv_iload_n hx hb dX5_told3_33 rfl (lv_at hl 2 rfl) ?_
        refine lv_i2l hx hb dX5_told3_34 rfl ?_
        refine st_l hx hb hK.1 hP hD hS 2 1 rfl rfl (ix_lit (by decide)) 0 (by decide) dX5_told3_35 (fun H locs hP hD hS => ?_)
        have hP : va_P D vwCl [kM o mP mL mC mN mF mR mD mV mX mA mK cm mT pm mU mH mI, kA mN cI 3 gm, kJ mF cJ 6 (vp_updL ff 0 x.toInt64), kA mP cI 180 gp] H := hP
        have hD : va_D A [kM o mP mL mC mN mF mR mD mV mX mA mK cm mT pm mU mH mI, kA mN cI 3 gm, kJ mF cJ 6 (vp_updL ff 0 x.toInt64), kA mP cI 180 gp] := hD
        refine lv_aload_n hx hb dX5_told3_36 rfl (lv_at hl 0 rfl) ?_
        refine va_get (D := D) (ci := 5) (v := .ref mF) (C := RX5) (T := TX5) (N := 17) hx hb hts k_3 hown hK.1 hP 0 rfl rfl 4 (by decide) k_2 (fun _ h9 => h9) rfl dX5_told3_37 ?_
        refine lv_iconst (v := 1) hx hb dX5_told3_40 (by decide) ?_
        refine lv_iload_n hx hb dX5_told3_41 rfl (lv_at hl 3 rfl) ?_
        refine lv_i2l hx hb dX5_told3_42 rfl ?_
        refine st_l hx hb hK.1 hP hD hS 2 1 rfl rfl (ix_lit (by decide)) 1 (by decide) dX5_told3_43 (fun H locs hP hD hS => ?_)
        have hP : va_P D vwCl [kM o mP mL mC mN mF mR mD mV mX mA mK cm mT pm mU mH mI, kA mN cI 3 gm, kJ mF cJ 6 (vp_updL (vp_updL ff 0 x.toInt64) 1 y.toInt64), kA mP cI 180 gp] H := hP
        have hD : va_D A [kM o mP mL mC mN mF mR mD mV mX mA mK cm mT pm mU mH mI, kA mN cI 3 gm, kJ mF cJ 6 (vp_updL (vp_updL ff 0 x.toInt64) 1 y.toInt64), kA mP cI 180 gp] := hD
        refine lv_aload_n hx hb dX5_told3_44 rfl (lv_at hl 0 rfl) ?_
        refine va_get (D := D) (ci := 5) (v := .ref mF) (C := RX5) (T := TX5) (N := 17) hx hb hts k_3 hown hK.1 hP 0 rfl rfl 4 (by decide) k_2 (fun _ h9 => h9) rfl dX5_told3_45 ?_
        refine lv_iconst (v := 2) hx hb dX5_told3_48 (by decide) ?_
        refine lv_iload hx hb dX5_told3_49 (lv_at hl 4 rfl) ?_
        refine lv_i2l hx hb dX5_told3_51 rfl ?_
        refine st_l hx hb hK.1 hP hD hS 2 1 rfl rfl (ix_lit (by decide)) 2 (by decide) dX5_told3_52 (fun H locs hP hD hS => ?_)
        have hP : va_P D vwCl [kM o mP mL mC mN mF mR mD mV mX mA mK cm mT pm mU mH mI, kA mN cI 3 gm, kJ mF cJ 6 (vp_updL (vp_updL (vp_updL ff 0 x.toInt64) 1 y.toInt64) 2 z.toInt64), kA mP cI 180 gp] H := hP
        have hD : va_D A [kM o mP mL mC mN mF mR mD mV mX mA mK cm mT pm mU mH mI, kA mN cI 3 gm, kJ mF cJ 6 (vp_updL (vp_updL (vp_updL ff 0 x.toInt64) 1 y.toInt64) 2 z.toInt64), kA mP cI 180 gp] := hD
        refine lv_aload_n hx hb dX5_told3_53 rfl (lv_at hl 0 rfl) ?_
        refine lv_iload_n hx hb dX5_told3_54 rfl (lv_at hl 1 rfl) ?_
        refine lv_ldc hx hb hown k_1 dX5_told3_55 ?_
        have hPc := hP.sub (ws' := [kM o mP mL mC mN mF mR mD mV mX mA mK cm mT pm mU mH mI, kA mN cI 3 gm, kJ mF cJ 6 (vp_updL (vp_updL (vp_updL ff 0 x.toInt64) 1 y.toInt64) 2 z.toInt64), kA mP cI 180 gp]) [0, 1, 2, 3] rfl
        have hDc := hD.sub (ws' := [kM o mP mL mC mN mF mR mD mV mX mA mK cm mT pm mU mH mI, kA mN cI 3 gm, kJ mF cJ 6 (vp_updL (vp_updL (vp_updL ff 0 x.toInt64) 1 y.toInt64) 2 z.toInt64), kA mP cI 180 gp]) [0, 1, 2, 3] (by decide) rfl
        refine cl_i (wc := [kM o mP mL mC mN mF mR mD mV mX mA mK cm mT pm mU mH mI, kA mN cI 3 gm, kJ mF cJ 6 (vp_updL (vp_updL (vp_updL ff 0 x.toInt64) 1 y.toInt64) 2 z.toInt64), kA mP cI 180 gp]) (wr := []) (w1 := fun uu : (Nat → Int64) => [kM o mP mL mC mN mF mR mD mV mX mA mK cm mT pm mU mH mI, kA mN cI 3 ((z5_keep_0 gm (vp_updL (vp_updL (vp_updL ff 0 x.toInt64) 1 y.toInt64) 2 z.toInt64) gp (-1000003)).2.1), kJ mF cJ 6 uu, kA mP cI 180 ((z5_keep_0 gm (vp_updL (vp_updL (vp_updL ff 0 x.toInt64) 1 y.toInt64) 2 z.toInt64) gp (-1000003)).2.2)]) (wn := fun uu : (Nat → Int64) => [kM o mP mL mC mN mF mR mD mV mX mA mK cm mT pm mU mH mI, kA mN cI 3 ((z5_keep_0 gm (vp_updL (vp_updL (vp_updL ff 0 x.toInt64) 1 y.toInt64) 2 z.toInt64) gp (-1000003)).2.1), kJ mF cJ 6 uu, kA mP cI 180 ((z5_keep_0 gm (vp_updL (vp_updL (vp_updL ff 0 x.toInt64) 1 y.toInt64) 2 z.toInt64) gp (-1000003)).2.2)]) (va_runV (As := [.int 0, .int (-1000003)]) (rest := []) ⟨hx, hb, hml, hown, hts⟩ (c_X5_keep_0 l D cI cJ o mP mL mC mN mF mR mD mV mX mA mK mT mU mH mI cm pm gm (vp_updL (vp_updL (vp_updL ff 0 x.toInt64) 1 y.toInt64) 2 z.toInt64) gp (-1000003) hm0 _) (cwV 2 hts gX5_told3_X5_keep rfl rfl rfl (by decide +kernel) ⟨Nat.le_of_ble_eq_true rfl, Nat.le_of_ble_eq_true rfl⟩) ⟨gd_blP, va_recv hK.1 hPc (ci := 5) (q0 := 0) rfl rfl, gd_prP hPc hK hDc⟩ rfl rfl hl.1 rfl (lv_room (Nat.le_of_ble_eq_true rfl)) dX5_told3_57 ⟨Nat.zero_le _, Nat.zero_le _⟩) hP hD hS hA [0, 1, 2, 3] [] rfl rfl (by decide) (by decide) [0, 1, 2, 3] (by decide) (fun _ => rfl) (fun r_57 uG H locs hw hP hD hS => ?_)
        obtain ⟨y_57_0_1, rfl⟩ : ∃ z, z = uG := ⟨_, rfl⟩
        have hP : va_P D vwCl [kM o mP mL mC mN mF mR mD mV mX mA mK cm mT pm mU mH mI, kA mN cI 3 ((z5_keep_0 gm (vp_updL (vp_updL (vp_updL ff 0 x.toInt64) 1 y.toInt64) 2 z.toInt64) gp (-1000003)).2.1), kJ mF cJ 6 y_57_0_1, kA mP cI 180 ((z5_keep_0 gm (vp_updL (vp_updL (vp_updL ff 0 x.toInt64) 1 y.toInt64) 2 z.toInt64) gp (-1000003)).2.2)] H := hP
        have hD : va_D A [kM o mP mL mC mN mF mR mD mV mX mA mK cm mT pm mU mH mI, kA mN cI 3 ((z5_keep_0 gm (vp_updL (vp_updL (vp_updL ff 0 x.toInt64) 1 y.toInt64) 2 z.toInt64) gp (-1000003)).2.1), kJ mF cJ 6 y_57_0_1, kA mP cI 180 ((z5_keep_0 gm (vp_updL (vp_updL (vp_updL ff 0 x.toInt64) 1 y.toInt64) 2 z.toInt64) gp (-1000003)).2.2)] := hD
        subst hw
        clear hPc hDc
        have he : z5_told3_0 gm ff gp x y z = ((z5_keep_0 gm (vp_updL (vp_updL (vp_updL ff 0 x.toInt64) 1 y.toInt64) 2 z.toInt64) gp (-1000003)).1, (z5_keep_0 gm (vp_updL (vp_updL (vp_updL ff 0 x.toInt64) 1 y.toInt64) 2 z.toInt64) gp (-1000003)).2.1, (z5_keep_0 gm (vp_updL (vp_updL (vp_updL ff 0 x.toInt64) 1 y.toInt64) 2 z.toInt64) gp (-1000003)).2.2) := by unfold z5_told3_0; rw [if_neg c_1, if_neg c_2, if_neg c_3]
        have he_0 : (z5_told3_0 gm ff gp x y z).1 = (z5_keep_0 gm (vp_updL (vp_updL (vp_updL ff 0 x.toInt64) 1 y.toInt64) 2 z.toInt64) gp (-1000003)).1 := by rw [he]
        have he_1 : (z5_told3_0 gm ff gp x y z).2.1 = (z5_keep_0 gm (vp_updL (vp_updL (vp_updL ff 0 x.toInt64) 1 y.toInt64) 2 z.toInt64) gp (-1000003)).2.1 := by rw [he]
        have he_2 : (z5_told3_0 gm ff gp x y z).2.2 = (z5_keep_0 gm (vp_updL (vp_updL (vp_updL ff 0 x.toInt64) 1 y.toInt64) 2 z.toInt64) gp (-1000003)).2.2 := by rw [he]
        exact rt_i (w1 := fun uu : (Nat → Int64) => [kM o mP mL mC mN mF mR mD mV mX mA mK cm mT pm mU mH mI, kA mN cI 3 ((z5_told3_0 gm ff gp x y z).2.1), kJ mF cJ 6 uu, kA mP cI 180 ((z5_told3_0 gm ff gp x y z).2.2)]) hx hb hr hlk hS dX5_told3_60 (y_57_0_1) he_0.symm (by (try dsimp only); rw [he_1, he_2]; exact hP) (by (try dsimp only); rw [he_1, he_2]; exact hD)
      · skip
        refine lv_ldc hx hb hown k_1 dX5_told3_25 ?_
        have he : z5_told3_0 gm ff gp x y z = ((-1000003), gm, gp) := by unfold z5_told3_0; rw [if_neg c_1, if_neg c_2, if_pos c_3]
        have he_0 : (z5_told3_0 gm ff gp x y z).1 = (-1000003) := by rw [he]
        have he_1 : (z5_told3_0 gm ff gp x y z).2.1 = gm := by rw [he]
        have he_2 : (z5_told3_0 gm ff gp x y z).2.2 = gp := by rw [he]
        exact rt_i (w1 := fun uu : (Nat → Int64) => [kM o mP mL mC mN mF mR mD mV mX mA mK cm mT pm mU mH mI, kA mN cI 3 ((z5_told3_0 gm ff gp x y z).2.1), kJ mF cJ 6 uu, kA mP cI 180 ((z5_told3_0 gm ff gp x y z).2.2)]) hx hb hr hlk hS dX5_told3_27 (ff) he_0.symm (by (try dsimp only); rw [he_1, he_2]; exact hP) (by (try dsimp only); rw [he_1, he_2]; exact hD)
def z5_told3_1 (gm : Nat → Int32) (ff : Nat → Int64) (gl : Nat → Int32) (x : Int32) (y : Int32) (z : Int32) : Int32 × (Nat → Int32) × (Nat → Int32) := if (z5_isNear x.toInt64) = 0 then ((-1000003), gm, gl) else if (z5_isNear y.toInt64) = 0 then ((-1000003), gm, gl) else if (z5_isNear z.toInt64) = 0 then ((-1000003), gm, gl) else ((z5_keep_1 gm (vp_updL (vp_updL (vp_updL ff 0 x.toInt64) 1 y.toInt64) 2 z.toInt64) gl (-1000003)).1, (z5_keep_1 gm (vp_updL (vp_updL (vp_updL ff 0 x.toInt64) 1 y.toInt64) 2 z.toInt64) gl (-1000003)).2.1, (z5_keep_1 gm (vp_updL (vp_updL (vp_updL ff 0 x.toInt64) 1 y.toInt64) 2 z.toInt64) gl (-1000003)).2.2)
set_option maxHeartbeats 4000000 in
set_option maxRecDepth 100000 in
/-- X5.told3 -/
theorem c_X5_told3_1 (l : Launch) (D : va_G) (cI cJ : ClassId) (o : Nat) (mP : Nat) (mL : Nat) (mC : Nat) (mN : Nat) (mF : Nat) (mR : Nat) (mD : Nat) (mV : Nat) (mX : Nat) (mA : Nat) (mK : Nat) (mT : Nat) (mU : Nat) (mH : Nat) (mI : Nat) (cm : Int32) (pm : Int32) (gm : Nat → Int32) (ff : Nat → Int64) (gl : Nat → Int32) (x : Int32) (y : Int32) (z : Int32) (hm1 : n_ok (gm 1)) : mw_C l yX5_told3 wsX5_told3 ({ frames := 3, cells := 0, slots := 0, locals := 80 }) D cI cJ [.ref o, .int 1, .int x, .int y, .int z] [kM o mP mL mC mN mF mR mD mV mX mA mK cm mT pm mU mH mI, kA mN cI 3 gm, kJ mF cJ 6 ff, kA mL cI 180 gl] (qe_i (fun (r : Int32) (_ : (Nat → Int64)) => r = (z5_told3_1 gm ff gl x y z).1) (fun uu => [kM o mP mL mC mN mF mR mD mV mX mA mK cm mT pm mU mH mI, kA mN cI 3 ((z5_told3_1 gm ff gl x y z).2.1), kJ mF cJ 6 uu, kA mL cI 180 ((z5_told3_1 gm ff gl x y z).2.2)])) := by
  refine mw_in (cc := cX5_told3) (lv := [(0, .ref o), (1, .int 1), (2, .int x), (3, .int y), (4, .int z)]) (by decide) rfl (Nat.le_of_ble_eq_true rfl) rfl ?_
  intro pG eG sG mG below meth cG ls A hx hb hr hml hown hts hlk hin hP hK hD hA hS hl
  have hown : sG.vm.findClass RX5 = some mG.cls := hown
  have k_1 := hts (.constant RX5 86 (-1000003)) (by decide +kernel)
  have k_2 := hts (.fieldLink RX5 22 "ConicRowsModel" "fresh" "[J") (by decide +kernel)
  have k_3 : ∀ w ∈ wsX50, w ∈ wsX5_told3 := by decide +kernel
  refine lv_iload_n hx hb dX5_told3_0 rfl (lv_at hl 2 rfl) ?_
  refine lv_i2l hx hb dX5_told3_1 rfl ?_
  have hPc := hP.sub (ws' := []) [] rfl
  refine cr_i (va_runS (As := [.long x.toInt64]) (rest := []) ⟨hx, hb, hml, hown, hts⟩ (c_X5_isNear l D cI cJ x.toInt64) (va_cwS 1 hts gX5_told3_X5_isNear rfl rfl rfl (by decide +kernel) ⟨Nat.le_of_ble_eq_true rfl, Nat.le_of_ble_eq_true rfl⟩) ⟨gd_blR, gd_prR hPc hK⟩ rfl rfl hl.1 rfl (lv_room (Nat.le_of_ble_eq_true rfl)) dX5_told3_2 ⟨Nat.zero_le _, Nat.zero_le _⟩) (fun r_2 hw => ?_)
  subst hw
  clear hPc
  refine lv_if_eq (tgt := 25) hx hb dX5_told3_5 (by decide) (fun c_1 => ?_) (fun c_1 => ?_)
  · skip
    refine lv_ldc hx hb hown k_1 dX5_told3_25 ?_
    have he : z5_told3_1 gm ff gl x y z = ((-1000003), gm, gl) := by unfold z5_told3_1; rw [if_pos c_1]
    have he_0 : (z5_told3_1 gm ff gl x y z).1 = (-1000003) := by rw [he]
    have he_1 : (z5_told3_1 gm ff gl x y z).2.1 = gm := by rw [he]
    have he_2 : (z5_told3_1 gm ff gl x y z).2.2 = gl := by rw [he]
    exact rt_i (w1 := fun uu : (Nat → Int64) => [kM o mP mL mC mN mF mR mD mV mX mA mK cm mT pm mU mH mI, kA mN cI 3 ((z5_told3_1 gm ff gl x y z).2.1), kJ mF cJ 6 uu, kA mL cI 180 ((z5_told3_1 gm ff gl x y z).2.2)]) hx hb hr hlk hS dX5_told3_27 (ff) he_0.symm (by (try dsimp only); rw [he_1, he_2]; exact hP) (by (try dsimp only); rw [he_1, he_2]; exact hD)
  · skip
    refine lv_iload_n hx hb dX5_told3_8 rfl (lv_at hl 3 rfl) ?_
    refine lv_i2l hx hb dX5_told3_9 rfl ?_
    have hPc := hP.sub (ws' := []) [] rfl
    refine cr_i (va_runS (As := [.long y.toInt64]) (rest := []) ⟨hx, hb, hml, hown, hts⟩ (c_X5_isNear l D cI cJ y.toInt64) (va_cwS 1 hts gX5_told3_X5_isNear rfl rfl rfl (by decide +kernel) ⟨Nat.le_of_ble_eq_true rfl, Nat.le_of_ble_eq_true rfl⟩) ⟨gd_blR, gd_prR hPc hK⟩ rfl rfl hl.1 rfl (lv_room (Nat.le_of_ble_eq_true rfl)) dX5_told3_10 ⟨Nat.zero_le _, Nat.zero_le _⟩) (fun r_10 hw => ?_)
    subst hw
    clear hPc
    refine lv_if_eq (tgt := 25) hx hb dX5_told3_13 (by decide) (fun c_2 => ?_) (fun c_2 => ?_)
    · skip
      refine lv_ldc hx hb hown k_1 dX5_told3_25 ?_
      have he : z5_told3_1 gm ff gl x y z = ((-1000003), gm, gl) := by unfold z5_told3_1; rw [if_neg c_1, if_pos c_2]
      have he_0 : (z5_told3_1 gm ff gl x y z).1 = (-1000003) := by rw [he]
      have he_1 : (z5_told3_1 gm ff gl x y z).2.1 = gm := by rw [he]
      have he_2 : (z5_told3_1 gm ff gl x y z).2.2 = gl := by rw [he]
      exact rt_i (w1 := fun uu : (Nat → Int64) => [kM o mP mL mC mN mF mR mD mV mX mA mK cm mT pm mU mH mI, kA mN cI 3 ((z5_told3_1 gm ff gl x y z).2.1), kJ mF cJ 6 uu, kA mL cI 180 ((z5_told3_1 gm ff gl x y z).2.2)]) hx hb hr hlk hS dX5_told3_27 (ff) he_0.symm (by (try dsimp only); rw [he_1, he_2]; exact hP) (by (try dsimp only); rw [he_1, he_2]; exact hD)
    · skip
      refine lv_iload hx hb dX5_told3_16 (lv_at hl 4 rfl) ?_
      refine lv_i2l hx hb dX5_told3_18 rfl ?_
      have hPc := hP.sub (ws' := []) [] rfl
      refine cr_i (va_runS (As := [.long z.toInt64]) (rest := []) ⟨hx, hb, hml, hown, hts⟩ (c_X5_isNear l D cI cJ z.toInt64) (va_cwS 1 hts gX5_told3_X5_isNear rfl rfl rfl (by decide +kernel) ⟨Nat.le_of_ble_eq_true rfl, Nat.le_of_ble_eq_true rfl⟩) ⟨gd_blR, gd_prR hPc hK⟩ rfl rfl hl.1 rfl (lv_room (Nat.le_of_ble_eq_true rfl)) dX5_told3_19 ⟨Nat.zero_le _, Nat.zero_le _⟩) (fun r_19 hw => ?_)
      subst hw
      clear hPc
      refine lv_if_ne (tgt := 28) hx hb dX5_told3_22 (by decide) (fun c_3 => ?_) (fun c_3 => ?_)
      · skip
        refine lv_aload_n hx hb dX5_told3_28 rfl (lv_at hl 0 rfl) ?_
        refine va_get (D := D) (ci := 5) (v := .ref mF) (C := RX5) (T := TX5) (N := 17) hx hb hts k_3 hown hK.1 hP 0 rfl rfl 4 (by decide) k_2 (fun _ h9 => h9) rfl dX5_told3_29 ?_
        refine lv_iconst (v := 0) hx hb dX5_told3_32 (by decide) ?_
        refine lv_iload_n hx hb dX5_told3_33 rfl (lv_at hl 2 rfl) ?_
        refine lv_i2l hx hb dX5_told3_34 rfl ?_
        refine st_l hx hb hK.1 hP hD hS 2 1 rfl rfl (ix_lit (by decide)) 0 (by decide) dX5_told3_35 (fun H locs hP hD hS => ?_)
        have hP : va_P D vwCl [kM o mP mL mC mN mF mR mD mV mX mA mK cm mT pm mU mH mI, kA mN cI 3 gm, kJ mF cJ 6 (vp_updL ff 0 x.toInt64), kA mL cI 180 gl] H := hP
        have hD : va_D A [kM o mP mL mC mN mF mR mD mV mX mA mK cm mT pm mU mH mI, kA mN cI 3 gm, kJ mF cJ 6 (vp_updL ff 0 x.toInt64), kA mL cI 180 gl] := hD
        refine lv_aload_n hx hb dX5_told3_36 rfl (lv_at hl 0 rfl) ?_
        refine va_get (D := D) (ci := 5) (v := .ref mF) (C := RX5) (T := TX5) (N := 17) hx hb hts k_3 hown hK.1 hP 0 rfl rfl 4 (by decide) k_2 (fun _ h9 => h9) rfl dX5_told3_37 ?_
        refine lv_iconst (v := 1) hx hb dX5_told3_40 (by decide) ?_
        refine lv_iload_n hx hb dX5_told3_41 rfl (lv_at hl 3 rfl) ?_
        refine lv_i2l hx hb dX5_told3_42 rfl ?_
        refine st_l hx hb hK.1 hP hD hS 2 1 rfl rfl (ix_lit (by decide)) 1 (by decide) dX5_told3_43 (fun H locs hP hD hS => ?_)
        have hP : va_P D vwCl [kM o mP mL mC mN mF mR mD mV mX mA mK cm mT pm mU mH mI, kA mN cI 3 gm, kJ mF cJ 6 (vp_updL (vp_updL ff 0 x.toInt64) 1 y.toInt64), kA mL cI 180 gl] H := hP
        have hD : va_D A [kM o mP mL mC mN mF mR mD mV mX mA mK cm mT pm mU mH mI, kA mN cI 3 gm, kJ mF cJ 6 (vp_updL (vp_updL ff 0 x.toInt64) 1 y.toInt64), kA mL cI 180 gl] := hD
        refine lv_aload_n hx hb dX5_told3_44 rfl (lv_at hl 0 rfl) ?_
        refine va_get (D := D) (ci := 5) (v := .ref mF) (C := RX5) (T := TX5) (N := 17) hx hb hts k_3 hown hK.1 hP 0 rfl rfl 4 (by decide) k_2 (fun _ h9 => h9) rfl dX5_told3_45 ?_
        refine lv_iconst (v := 2) hx hb dX5_told3_48 (by decide) ?_
        refine lv_iload hx hb dX5_told3_49 (lv_at hl 4 rfl) ?_
        refine lv_i2l hx hb dX5_told3_51 rfl ?_
        refine st_l hx hb hK.1 hP hD hS 2 1 rfl rfl (ix_lit (by decide)) 2 (by decide) dX5_told3_52 (fun H locs hP hD hS => ?_)
        have hP : va_P D vwCl [kM o mP mL mC mN mF mR mD mV mX mA mK cm mT pm mU mH mI, kA mN cI 3 gm, kJ mF cJ 6 (vp_updL (vp_updL (vp_updL ff 0 x.toInt64) 1 y.toInt64) 2 z.toInt64), kA mL cI 180 gl] H := hP
        have hD : va_D A [kM o mP mL mC mN mF mR mD mV mX mA mK cm mT pm mU mH mI, kA mN cI 3 gm, kJ mF cJ 6 (vp_updL (vp_updL (vp_updL ff 0 x.toInt64) 1 y.toInt64) 2 z.toInt64), kA mL cI 180 gl] := hD
        refine lv_aload_n hx hb dX5_told3_53 rfl (lv_at hl 0 rfl) ?_
        refine lv_iload_n hx hb dX5_told3_54 rfl (lv_at hl 1 rfl) ?_
        refine lv_ldc hx hb hown k_1 dX5_told3_55 ?_
        have hPc := hP.sub (ws' := [kM o mP mL mC mN mF mR mD mV mX mA mK cm mT pm mU mH mI, kA mN cI 3 gm, kJ mF cJ 6 (vp_updL (vp_updL (vp_updL ff 0 x.toInt64) 1 y.toInt64) 2 z.toInt64), kA mL cI 180 gl]) [0, 1, 2, 3] rfl
        have hDc := hD.sub (ws' := [kM o mP mL mC mN mF mR mD mV mX mA mK cm mT pm mU mH mI, kA mN cI 3 gm, kJ mF cJ 6 (vp_updL (vp_updL (vp_updL ff 0 x.toInt64) 1 y.toInt64) 2 z.toInt64), kA mL cI 180 gl]) [0, 1, 2, 3] (by decide) rfl
        refine cl_i (wc := [kM o mP mL mC mN mF mR mD mV mX mA mK cm mT pm mU mH mI, kA mN cI 3 gm, kJ mF cJ 6 (vp_updL (vp_updL (vp_updL ff 0 x.toInt64) 1 y.toInt64) 2 z.toInt64), kA mL cI 180 gl]) (wr := []) (w1 := fun uu : (Nat → Int64) => [kM o mP mL mC mN mF mR mD mV mX mA mK cm mT pm mU mH mI, kA mN cI 3 ((z5_keep_1 gm (vp_updL (vp_updL (vp_updL ff 0 x.toInt64) 1 y.toInt64) 2 z.toInt64) gl (-1000003)).2.1), kJ mF cJ 6 uu, kA mL cI 180 ((z5_keep_1 gm (vp_updL (vp_updL (vp_updL ff 0 x.toInt64) 1 y.toInt64) 2 z.toInt64) gl (-1000003)).2.2)]) (wn := fun uu : (Nat → Int64) => [kM o mP mL mC mN mF mR mD mV mX mA mK cm mT pm mU mH mI, kA mN cI 3 ((z5_keep_1 gm (vp_updL (vp_updL (vp_updL ff 0 x.toInt64) 1 y.toInt64) 2 z.toInt64) gl (-1000003)).2.1), kJ mF cJ 6 uu, kA mL cI 180 ((z5_keep_1 gm (vp_updL (vp_updL (vp_updL ff 0 x.toInt64) 1 y.toInt64) 2 z.toInt64) gl (-1000003)).2.2)]) (va_runV (As := [.int 1, .int (-1000003)]) (rest := []) ⟨hx, hb, hml, hown, hts⟩ (c_X5_keep_1 l D cI cJ o mP mL mC mN mF mR mD mV mX mA mK mT mU mH mI cm pm gm (vp_updL (vp_updL (vp_updL ff 0 x.toInt64) 1 y.toInt64) 2 z.toInt64) gl (-1000003) hm1 _) (cwV 2 hts gX5_told3_X5_keep rfl rfl rfl (by decide +kernel) ⟨Nat.le_of_ble_eq_true rfl, Nat.le_of_ble_eq_true rfl⟩) ⟨gd_blP, va_recv hK.1 hPc (ci := 5) (q0 := 0) rfl rfl, gd_prP hPc hK hDc⟩ rfl rfl hl.1 rfl (lv_room (Nat.le_of_ble_eq_true rfl)) dX5_told3_57 ⟨Nat.zero_le _, Nat.zero_le _⟩) hP hD hS hA [0, 1, 2, 3] [] rfl rfl (by decide) (by decide) [0, 1, 2, 3] (by decide) (fun _ => rfl) (fun r_57 uG H locs hw hP hD hS => ?_)
        obtain ⟨y_57_0_1, rfl⟩ : ∃ z, z = uG := ⟨_, rfl⟩
        have hP : va_P D vwCl [kM o mP mL mC mN mF mR mD mV mX mA mK cm mT pm mU mH mI, kA mN cI 3 ((z5_keep_1 gm (vp_updL (vp_updL (vp_updL ff 0 x.toInt64) 1 y.toInt64) 2 z.toInt64) gl (-1000003)).2.1), kJ mF cJ 6 y_57_0_1, kA mL cI 180 ((z5_keep_1 gm (vp_updL (vp_updL (vp_updL ff 0 x.toInt64) 1 y.toInt64) 2 z.toInt64) gl (-1000003)).2.2)] H := hP
        have hD : va_D A [kM o mP mL mC mN mF mR mD mV mX mA mK cm mT pm mU mH mI, kA mN cI 3 ((z5_keep_1 gm (vp_updL (vp_updL (vp_updL ff 0 x.toInt64) 1 y.toInt64) 2 z.toInt64) gl (-1000003)).2.1), kJ mF cJ 6 y_57_0_1, kA mL cI 180 ((z5_keep_1 gm (vp_updL (vp_updL (vp_updL ff 0 x.toInt64) 1 y.toInt64) 2 z.toInt64) gl (-1000003)).2.2)] := hD
        subst hw
        clear hPc hDc
        have he : z5_told3_1 gm ff gl x y z = ((z5_keep_1 gm (vp_updL (vp_updL (vp_updL ff 0 x.toInt64) 1 y.toInt64) 2 z.toInt64) gl (-1000003)).1, (z5_keep_1 gm (vp_updL (vp_updL (vp_updL ff 0 x.toInt64) 1 y.toInt64) 2 z.toInt64) gl (-1000003)).2.1, (z5_keep_1 gm (vp_updL (vp_updL (vp_updL ff 0 x.toInt64) 1 y.toInt64) 2 z.toInt64) gl (-1000003)).2.2) := by unfold z5_told3_1; rw [if_neg c_1, if_neg c_2, if_neg c_3]
        have he_0 : (z5_told3_1 gm ff gl x y z).1 = (z5_keep_1 gm (vp_updL (vp_updL (vp_updL ff 0 x.toInt64) 1 y.toInt64) 2 z.toInt64) gl (-1000003)).1 := by rw [he]
        have he_1 : (z5_told3_1 gm ff gl x y z).2.1 = (z5_keep_1 gm (vp_updL (vp_updL (vp_updL ff 0 x.toInt64) 1 y.toInt64) 2 z.toInt64) gl (-1000003)).2.1 := by rw [he]
        have he_2 : (z5_told3_1 gm ff gl x y z).2.2 = (z5_keep_1 gm (vp_updL (vp_updL (vp_updL ff 0 x.toInt64) 1 y.toInt64) 2 z.toInt64) gl (-1000003)).2.2 := by rw [he]
        exact rt_i (w1 := fun uu : (Nat → Int64) => [kM o mP mL mC mN mF mR mD mV mX mA mK cm mT pm mU mH mI, kA mN cI 3 ((z5_told3_1 gm ff gl x y z).2.1), kJ mF cJ 6 uu, kA mL cI 180 ((z5_told3_1 gm ff gl x y z).2.2)]) hx hb hr hlk hS dX5_told3_60 (y_57_0_1) he_0.symm (by (try dsimp only); rw [he_1, he_2]; exact hP) (by (try dsimp only); rw [he_1, he_2]; exact hD)
      · skip
        refine lv_ldc hx hb hown k_1 dX5_told3_25 ?_
        have he : z5_told3_1 gm ff gl x y z = ((-1000003), gm, gl) := by unfold z5_told3_1; rw [if_neg c_1, if_neg c_2, if_pos c_3]
        have he_0 : (z5_told3_1 gm ff gl x y z).1 = (-1000003) := by rw [he]
        have he_1 : (z5_told3_1 gm ff gl x y z).2.1 = gm := by rw [he]
        have he_2 : (z5_told3_1 gm ff gl x y z).2.2 = gl := by rw [he]
        exact rt_i (w1 := fun uu : (Nat → Int64) => [kM o mP mL mC mN mF mR mD mV mX mA mK cm mT pm mU mH mI, kA mN cI 3 ((z5_told3_1 gm ff gl x y z).2.1), kJ mF cJ 6 uu, kA mL cI 180 ((z5_told3_1 gm ff gl x y z).2.2)]) hx hb hr hlk hS dX5_told3_27 (ff) he_0.symm (by (try dsimp only); rw [he_1, he_2]; exact hP) (by (try dsimp only); rw [he_1, he_2]; exact hD)
