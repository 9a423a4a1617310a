-- laid by wip/whole/gen
def z5_keepTimes_1_v1 (gm : Nat → Int32) (ff : Nat → Int64) (fb : Nat → Int64) (gp : Nat → Int32) (gl : Nat → Int32) (i : Int32) : Nat → Int32 := (z5_keep_1 gm (vp_updL (vp_updL (vp_updL (vp_updL (vp_updL (vp_updL (vp_updL (vp_updL (vp_updL (vp_updL (vp_updL (vp_updL ff 0 0) 0 (0 + ((fb 0) * ((z5_numberOf_0 gp i 0).toInt64)))) 0 ((0 + ((fb 0) * ((z5_numberOf_0 gp i 0).toInt64))) + ((fb 1) * ((z5_numberOf_0 gp i 1).toInt64)))) 0 (((0 + ((fb 0) * ((z5_numberOf_0 gp i 0).toInt64))) + ((fb 1) * ((z5_numberOf_0 gp i 1).toInt64))) + ((fb 2) * ((z5_numberOf_0 gp i 2).toInt64)))) 1 0) 1 (0 + ((fb 3) * ((z5_numberOf_0 gp i 0).toInt64)))) 1 ((0 + ((fb 3) * ((z5_numberOf_0 gp i 0).toInt64))) + ((fb 4) * ((z5_numberOf_0 gp i 1).toInt64)))) 1 (((0 + ((fb 3) * ((z5_numberOf_0 gp i 0).toInt64))) + ((fb 4) * ((z5_numberOf_0 gp i 1).toInt64))) + ((fb 5) * ((z5_numberOf_0 gp i 2).toInt64)))) 2 0) 2 (0 + ((fb 6) * ((z5_numberOf_0 gp i 0).toInt64)))) 2 ((0 + ((fb 6) * ((z5_numberOf_0 gp i 0).toInt64))) + ((fb 7) * ((z5_numberOf_0 gp i 1).toInt64)))) 2 (((0 + ((fb 6) * ((z5_numberOf_0 gp i 0).toInt64))) + ((fb 7) * ((z5_numberOf_0 gp i 1).toInt64))) + ((fb 8) * ((z5_numberOf_0 gp i 2).toInt64)))) gl (-1000004)).2.1
def z5_keepTimes_1_v2 (gm : Nat → Int32) (ff : Nat → Int64) (fb : Nat → Int64) (gp : Nat → Int32) (gl : Nat → Int32) (i : Int32) : Nat → Int32 := (z5_keep_1 gm (vp_updL (vp_updL (vp_updL (vp_updL (vp_updL (vp_updL (vp_updL (vp_updL (vp_updL (vp_updL (vp_updL (vp_updL ff 0 0) 0 (0 + ((fb 0) * ((z5_numberOf_0 gp i 0).toInt64)))) 0 ((0 + ((fb 0) * ((z5_numberOf_0 gp i 0).toInt64))) + ((fb 1) * ((z5_numberOf_0 gp i 1).toInt64)))) 0 (((0 + ((fb 0) * ((z5_numberOf_0 gp i 0).toInt64))) + ((fb 1) * ((z5_numberOf_0 gp i 1).toInt64))) + ((fb 2) * ((z5_numberOf_0 gp i 2).toInt64)))) 1 0) 1 (0 + ((fb 3) * ((z5_numberOf_0 gp i 0).toInt64)))) 1 ((0 + ((fb 3) * ((z5_numberOf_0 gp i 0).toInt64))) + ((fb 4) * ((z5_numberOf_0 gp i 1).toInt64)))) 1 (((0 + ((fb 3) * ((z5_numberOf_0 gp i 0).toInt64))) + ((fb 4) * ((z5_numberOf_0 gp i 1).toInt64))) + ((fb 5) * ((z5_numberOf_0 gp i 2).toInt64)))) 2 0) 2 (0 + ((fb 6) * ((z5_numberOf_0 gp i 0).toInt64)))) 2 ((0 + ((fb 6) * ((z5_numberOf_0 gp i 0).toInt64))) + ((fb 7) * ((z5_numberOf_0 gp i 1).toInt64)))) 2 (((0 + ((fb 6) * ((z5_numberOf_0 gp i 0).toInt64))) + ((fb 7) * ((z5_numberOf_0 gp i 1).toInt64))) + ((fb 8) * ((z5_numberOf_0 gp i 2).toInt64)))) gl (-1000004)).2.2
def z5_keepTimes_1_v3 (gm : Nat → Int32) (ff : Nat → Int64) (fb : Nat → Int64) (gp : Nat → Int32) (gl : Nat → Int32) (i : Int32) : Int32 := (z5_keep_1 gm (vp_updL (vp_updL (vp_updL (vp_updL (vp_updL (vp_updL (vp_updL (vp_updL (vp_updL (vp_updL (vp_updL (vp_updL ff 0 0) 0 (0 + ((fb 0) * ((z5_numberOf_0 gp i 0).toInt64)))) 0 ((0 + ((fb 0) * ((z5_numberOf_0 gp i 0).toInt64))) + ((fb 1) * ((z5_numberOf_0 gp i 1).toInt64)))) 0 (((0 + ((fb 0) * ((z5_numberOf_0 gp i 0).toInt64))) + ((fb 1) * ((z5_numberOf_0 gp i 1).toInt64))) + ((fb 2) * ((z5_numberOf_0 gp i 2).toInt64)))) 1 0) 1 (0 + ((fb 3) * ((z5_numberOf_0 gp i 0).toInt64)))) 1 ((0 + ((fb 3) * ((z5_numberOf_0 gp i 0).toInt64))) + ((fb 4) * ((z5_numberOf_0 gp i 1).toInt64)))) 1 (((0 + ((fb 3) * ((z5_numberOf_0 gp i 0).toInt64))) + ((fb 4) * ((z5_numberOf_0 gp i 1).toInt64))) + ((fb 5) * ((z5_numberOf_0 gp i 2).toInt64)))) 2 0) 2 (0 + ((fb 6) * ((z5_numberOf_0 gp i 0).toInt64)))) 2 ((0 + ((fb 6) * ((z5_numberOf_0 gp i 0).toInt64))) + ((fb 7) * ((z5_numberOf_0 gp i 1).toInt64)))) 2 (((0 + ((fb 6) * ((z5_numberOf_0 gp i 0).toInt64))) + ((fb 7) * ((z5_numberOf_0 gp i 1).toInt64))) + ((fb 8) * ((z5_numberOf_0 gp i 2).toInt64)))) gl (-1000004)).1
def z5_keepTimes_1 (gm : Nat → Int32) (ff : Nat → Int64) (fb : Nat → Int64) (gp : Nat → Int32) (gl : Nat → Int32) (i : Int32) : Int32 := z5_keepTimes_1_v3 gm ff fb gp gl i
def z5_keepTimes_1_f1 (gm : Nat → Int32) (ff : Nat → Int64) (fb : Nat → Int64) (gp : Nat → Int32) (gl : Nat → Int32) (i : Int32) : Nat → Int32 := z5_keepTimes_1_v1 gm ff fb gp gl i
def z5_keepTimes_1_f5 (gm : Nat → Int32) (ff : Nat → Int64) (fb : Nat → Int64) (gp : Nat → Int32) (gl : Nat → Int32) (i : Int32) : Nat → Int32 := z5_keepTimes_1_v2 gm ff fb gp gl i
set_option maxHeartbeats 4000000 in
set_option maxRecDepth 100000 in
/-- X5.keepTimes -/
theorem c_X5_keepTimes_1 (l : Launch) (D : va_G) (cI cJ : ClassId) (o : Nat) (mP : Nat) (mL : Nat) (mC : Nat) (mN : Nat) (mF : Nat) (mR : Nat) (mD : Nat) (mV : Nat) (mX : Nat) (mA : Nat) (mK : Nat) (mT : Nat) (mU : Nat) (mH : Nat) (mI : Nat) (cm : Int32) (pm : Int32) (h : Nat) (gm : Nat → Int32) (ff : Nat → Int64) (fb : Nat → Int64) (gp : Nat → Int32) (gl : Nat → Int32) (i : Int32) (hm1 : n_ok (gm 1)) (hi : ok_i i) : mw_C l yX5_keepTimes wsX5_keepTimes ({ frames := 3, cells := 0, slots := 0, locals := 80 }) D cI cJ [.ref o, .int 1, .ref h, .int 0, .int i] [kM o mP mL mC mN mF mR mD mV mX mA mK cm mT pm mU mH mI, kA mN cI 3 gm, kJ mF cJ 6 ff, kJ h cJ 9 fb, kA mP cI 180 gp, kA mL cI 180 gl] (qe_i (fun (r : Int32) (_ : (Nat → Int64)) => r = z5_keepTimes_1 gm ff fb gp gl i) (fun uu => [kM o mP mL mC mN mF mR mD mV mX mA mK cm mT pm mU mH mI, kA mN cI 3 (z5_keepTimes_1_f1 gm ff fb gp gl i), kJ mF cJ 6 uu, kJ h cJ 9 fb, kA mP cI 180 gp, kA mL cI 180 (z5_keepTimes_1_f5 gm ff fb gp gl i)])) := by
  refine mw_in (cc := cX5_keepTimes) (lv := [(0, .ref o), (1, .int 1), (2, .ref h), (3, .int 0), (4, .int i)]) (by decide) rfl (Nat.le_of_ble_eq_true rfl) rfl ?_
  intro pG eG sG mG below meth cG ls A hx hb hr hml hown hts hlk hin hP hK hD hA hS hl
  have hown : sG.vm.findClass RX5 = some mG.cls := hown
  have k_1 := hts (.fieldLink RX5 22 "ConicRowsModel" "fresh" "[J") (by decide +kernel)
  have k_2 : ∀ w ∈ wsX50, w ∈ wsX5_keepTimes := by decide +kernel
  have k_3 := hts (.constant RX5 106 (-1000004)) (by decide +kernel)
  refine lv_iconst (v := 0) hx hb dX5_keepTimes_0 (by decide) ?_
  refine lv_istore (lv' := [(5, .int 0), (0, .ref o), (1, .int 1), (2, .ref h), (3, .int 0), (4, .int i)]) hx hb dX5_keepTimes_1 hl (by decide) rfl (fun ls hl => ?_)
  refine lv_iload hx hb dX5_keepTimes_3 (lv_at hl 0 rfl) ?_
  refine lv_iconst (v := 3) hx hb dX5_keepTimes_5 (by decide) ?_
  refine lv_icmp_ge (tgt := 68) hx hb dX5_keepTimes_6 (by decide) (fun h => absurd h (by decide)) (fun _ => ?_)
  refine lv_aload_n hx hb dX5_keepTimes_9 rfl (lv_at hl 1 rfl) ?_
  refine va_get (D := D) (ci := 5) (v := .ref mF) (C := RX5) (T := TX5) (N := 17) hx hb hts k_2 hown hK.1 hP 0 rfl rfl 4 (by decide) k_1 (fun _ h9 => h9) rfl dX5_keepTimes_10 ?_
  refine lv_iload hx hb dX5_keepTimes_13 (lv_at hl 0 rfl) ?_
  refine lv_lconst (v := 0) hx hb dX5_keepTimes_15 (by decide) ?_
  refine st_l hx hb hK.1 hP hD hS 2 1 rfl rfl (ix_lit (by decide)) 0 (by decide) dX5_keepTimes_16 (fun H locs hP hD hS => ?_)
  have hP : va_P D vwCl [kM o mP mL mC mN mF mR mD mV mX mA mK cm mT pm mU mH mI, kA mN cI 3 gm, kJ mF cJ 6 (vp_updL ff 0 0), kJ h cJ 9 fb, kA mP cI 180 gp, kA mL cI 180 gl] H := hP
  have hD : va_D A [kM o mP mL mC mN mF mR mD mV mX mA mK cm mT pm mU mH mI, kA mN cI 3 gm, kJ mF cJ 6 (vp_updL ff 0 0), kJ h cJ 9 fb, kA mP cI 180 gp, kA mL cI 180 gl] := hD
  refine lv_iconst (v := 0) hx hb dX5_keepTimes_17 (by decide) ?_
  refine lv_istore (lv' := [(6, .int 0), (5, .int 0), (0, .ref o), (1, .int 1), (2, .ref h), (3, .int 0), (4, .int i)]) hx hb dX5_keepTimes_18 hl (by decide) rfl (fun ls hl => ?_)
  refine lv_iload hx hb dX5_keepTimes_20 (lv_at hl 0 rfl) ?_
  refine lv_iconst (v := 3) hx hb dX5_keepTimes_22 (by decide) ?_
  refine lv_icmp_ge (tgt := 62) hx hb dX5_keepTimes_23 (by decide) (fun h => absurd h (by decide)) (fun _ => ?_)
  refine lv_aload_n hx hb dX5_keepTimes_26 rfl (lv_at hl 2 rfl) ?_
  refine va_get (D := D) (ci := 5) (v := .ref mF) (C := RX5) (T := TX5) (N := 17) hx hb hts k_2 hown hK.1 hP 0 rfl rfl 4 (by decide) k_1 (fun _ h9 => h9) rfl dX5_keepTimes_27 ?_
  refine lv_iload hx hb dX5_keepTimes_30 (lv_at hl 1 rfl) ?_
  refine lv_dup2_11 hx hb dX5_keepTimes_32 rfl rfl ?_
  refine ld_l hx hb hK.1 hP 2 1 rfl rfl (ix_lit (by decide)) 0 (by decide) (v := 0) rfl dX5_keepTimes_33 ?_
  refine lv_aload_n hx hb dX5_keepTimes_34 rfl (lv_at hl 4 rfl) ?_
  refine lv_iconst (v := 3) hx hb dX5_keepTimes_35 (by decide) ?_
  refine lv_iload hx hb dX5_keepTimes_36 (lv_at hl 1 rfl) ?_
  refine lv_imul hx hb dX5_keepTimes_38 ?_
  refine lv_eqi (v := 0) (by decide) ?_
  refine lv_iload hx hb dX5_keepTimes_39 (lv_at hl 0 rfl) ?_
  refine lv_iadd hx hb dX5_keepTimes_41 ?_
  refine lv_eqi (v := 0) (by decide) ?_
  refine ld_l hx hb hK.1 hP 3 1 rfl rfl (ix_lit (by decide)) 0 (by decide) (v := fb 0) rfl dX5_keepTimes_42 ?_
  refine lv_aload_n hx hb dX5_keepTimes_43 rfl (lv_at hl 2 rfl) ?_
  refine lv_iload_n hx hb dX5_keepTimes_44 rfl (lv_at hl 5 rfl) ?_
  refine lv_iload hx hb dX5_keepTimes_45 (lv_at hl 6 rfl) ?_
  refine lv_iload hx hb dX5_keepTimes_47 (lv_at hl 0 rfl) ?_
  have hPc := hP.sub (ws' := [kM o mP mL mC mN mF mR mD mV mX mA mK cm mT pm mU mH mI, kA mP cI 180 gp]) [0, 4] rfl
  refine cr_i (va_runV (As := [.int 0, .int i, .int 0]) (rest := [.long (fb 0), .long 0, .int 0, .ref mF]) ⟨hx, hb, hml, hown, hts⟩ (c_X5_numberOf_0 l D cI cJ o mP mL mC mN mF mR mD mV mX mA mK mT mU mH mI cm pm gp i 0 hi (by decide)) (cwV 3 hts gX5_keepTimes_X5_numberOf rfl rfl rfl (by decide +kernel) ⟨Nat.le_of_ble_eq_true rfl, Nat.le_of_ble_eq_true rfl⟩) ⟨gd_blR, va_recv hK.1 hPc (ci := 5) (q0 := 0) rfl rfl, gd_prR hPc hK⟩ rfl rfl hl.1 rfl (lv_room (Nat.le_of_ble_eq_true rfl)) dX5_keepTimes_49 ⟨Nat.zero_le _, Nat.zero_le _⟩) (fun r_49 hw => ?_)
  subst hw
  clear hPc
  refine lv_i2l hx hb dX5_keepTimes_52 rfl ?_
  refine lv_lmul hx hb dX5_keepTimes_53 ?_
  refine lv_ladd hx hb dX5_keepTimes_54 ?_
  refine st_l hx hb hK.1 hP hD hS 2 1 rfl rfl (ix_lit (by decide)) 0 (by decide) dX5_keepTimes_55 (fun H locs hP hD hS => ?_)
  have hP : va_P D vwCl [kM o mP mL mC mN mF mR mD mV mX mA mK cm mT pm mU mH mI, kA mN cI 3 gm, kJ mF cJ 6 (vp_updL (vp_updL ff 0 0) 0 (0 + ((fb 0) * ((z5_numberOf_0 gp i 0).toInt64)))), kJ h cJ 9 fb, kA mP cI 180 gp, kA mL cI 180 gl] H := hP
  have hD : va_D A [kM o mP mL mC mN mF mR mD mV mX mA mK cm mT pm mU mH mI, kA mN cI 3 gm, kJ mF cJ 6 (vp_updL (vp_updL ff 0 0) 0 (0 + ((fb 0) * ((z5_numberOf_0 gp i 0).toInt64)))), kJ h cJ 9 fb, kA mP cI 180 gp, kA mL cI 180 gl] := hD
  refine lv_iinc (v := 1) (lv' := [(6, .int 1), (5, .int 0), (0, .ref o), (1, .int 1), (2, .ref h), (3, .int 0), (4, .int i)]) hx hb dX5_keepTimes_56 hl (k := 0) rfl (by decide) (by decide) rfl (fun ls hl => ?_)
  refine lv_goto (tgt := 20) hx hb dX5_keepTimes_59 (by decide) ?_
  refine lv_iload hx hb dX5_keepTimes_20 (lv_at hl 0 rfl) ?_
  refine lv_iconst (v := 3) hx hb dX5_keepTimes_22 (by decide) ?_
  refine lv_icmp_ge (tgt := 62) hx hb dX5_keepTimes_23 (by decide) (fun h => absurd h (by decide)) (fun _ => ?_)
  refine lv_aload_n hx hb dX5_keepTimes_26 rfl (lv_at hl 2 rfl) ?_
  refine va_get (D := D) (ci := 5) (v := .ref mF) (C := RX5) (T := TX5) (N := 17) hx hb hts k_2 hown hK.1 hP 0 rfl rfl 4 (by decide) k_1 (fun _ h9 => h9) rfl dX5_keepTimes_27 ?_
  refine lv_iload hx hb dX5_keepTimes_30 (lv_at hl 1 rfl) ?_
  refine lv_dup2_11 hx hb dX5_keepTimes_32 rfl rfl ?_
  refine ld_l hx hb hK.1 hP 2 1 rfl rfl (ix_lit (by decide)) 0 (by decide) (v := 0 + ((fb 0) * ((z5_numberOf_0 gp i 0).toInt64))) rfl dX5_keepTimes_33 ?_
  refine lv_aload_n hx hb dX5_keepTimes_34 rfl (lv_at hl 4 rfl) ?_
  refine lv_iconst (v := 3) hx hb dX5_keepTimes_35 (by decide) ?_
  refine lv_iload hx hb dX5_keepTimes_36 (lv_at hl 1 rfl) ?_
  refine lv_imul hx hb dX5_keepTimes_38 ?_
  refine lv_eqi (v := 0) (by decide) ?_
  refine lv_iload hx hb dX5_keepTimes_39 (lv_at hl 0 rfl) ?_
  refine lv_iadd hx hb dX5_keepTimes_41 ?_
  refine lv_eqi (v := 1) (by decide) ?_
  refine ld_l hx hb hK.1 hP 3 1 rfl rfl (ix_lit (by decide)) 1 (by decide) (v := fb 1) rfl dX5_keepTimes_42 ?_
  refine lv_aload_n hx hb dX5_keepTimes_43 rfl (lv_at hl 2 rfl) ?_
  refine lv_iload_n hx hb dX5_keepTimes_44 rfl (lv_at hl 5 rfl) ?_
  refine lv_iload hx hb dX5_keepTimes_45 (lv_at hl 6 rfl) ?_
  refine lv_iload hx hb dX5_keepTimes_47 (lv_at hl 0 rfl) ?_
  have hPc := hP.sub (ws' := [kM o mP mL mC mN mF mR mD mV mX mA mK cm mT pm mU mH mI, kA mP cI 180 gp]) [0, 4] rfl
  refine cr_i (va_runV (As := [.int 0, .int i, .int 1]) (rest := [.long (fb 1), .long (0 + ((fb 0) * ((z5_numberOf_0 gp i 0).toInt64))), .int 0, .ref mF]) ⟨hx, hb, hml, hown, hts⟩ (c_X5_numberOf_0 l D cI cJ o mP mL mC mN mF mR mD mV mX mA mK mT mU mH mI cm pm gp i 1 hi (by decide)) (cwV 3 hts gX5_keepTimes_X5_numberOf rfl rfl rfl (by decide +kernel) ⟨Nat.le_of_ble_eq_true rfl, Nat.le_of_ble_eq_true rfl⟩) ⟨gd_blR, va_recv hK.1 hPc (ci := 5) (q0 := 0) rfl rfl, gd_prR hPc hK⟩ rfl rfl hl.1 rfl (lv_room (Nat.le_of_ble_eq_true rfl)) dX5_keepTimes_49 ⟨Nat.zero_le _, Nat.zero_le _⟩) (fun r_49 hw => ?_)
  subst hw
  clear hPc
  refine lv_i2l hx hb dX5_keepTimes_52 rfl ?_
  refine lv_lmul hx hb dX5_keepTimes_53 ?_
  refine lv_ladd hx hb dX5_keepTimes_54 ?_
  refine st_l hx hb hK.1 hP hD hS 2 1 rfl rfl (ix_lit (by decide)) 0 (by decide) dX5_keepTimes_55 (fun H locs hP hD hS => ?_)
  have hP : va_P D vwCl [kM o mP mL mC mN mF mR mD mV mX mA mK cm mT pm mU mH mI, kA mN cI 3 gm, kJ mF cJ 6 (vp_updL (vp_updL (vp_updL ff 0 0) 0 (0 + ((fb 0) * ((z5_numberOf_0 gp i 0).toInt64)))) 0 ((0 + ((fb 0) * ((z5_numberOf_0 gp i 0).toInt64))) + ((fb 1) * ((z5_numberOf_0 gp i 1).toInt64)))), kJ h cJ 9 fb, kA mP cI 180 gp, kA mL cI 180 gl] H := hP
  have hD : va_D A [kM o mP mL mC mN mF mR mD mV mX mA mK cm mT pm mU mH mI, kA mN cI 3 gm, kJ mF cJ 6 (vp_updL (vp_updL (vp_updL ff 0 0) 0 (0 + ((fb 0) * ((z5_numberOf_0 gp i 0).toInt64)))) 0 ((0 + ((fb 0) * ((z5_numberOf_0 gp i 0).toInt64))) + ((fb 1) * ((z5_numberOf_0 gp i 1).toInt64)))), kJ h cJ 9 fb, kA mP cI 180 gp, kA mL cI 180 gl] := hD
  refine lv_iinc (v := 2) (lv' := [(6, .int 2), (5, .int 0), (0, .ref o), (1, .int 1), (2, .ref h), (3, .int 0), (4, .int i)]) hx hb dX5_keepTimes_56 hl (k := 0) rfl (by decide) (by decide) rfl (fun ls hl => ?_)
  refine lv_goto (tgt := 20) hx hb dX5_keepTimes_59 (by decide) ?_
  refine lv_iload hx hb dX5_keepTimes_20 (lv_at hl 0 rfl) ?_
  refine lv_iconst (v := 3) hx hb dX5_keepTimes_22 (by decide) ?_
  refine lv_icmp_ge (tgt := 62) hx hb dX5_keepTimes_23 (by decide) (fun h => absurd h (by decide)) (fun _ => ?_)
  refine lv_aload_n hx hb dX5_keepTimes_26 rfl (lv_at hl 2 rfl) ?_
  refine va_get (D := D) (ci := 5) (v := .ref mF) (C := RX5) (T := TX5) (N := 17) hx hb hts k_2 hown hK.1 hP 0 rfl rfl 4 (by decide) k_1 (fun _ h9 => h9) rfl dX5_keepTimes_27 ?_
  refine lv_iload hx hb dX5_keepTimes_30 (lv_at hl 1 rfl) ?_
  refine lv_dup2_11 hx hb dX5_keepTimes_32 rfl rfl ?_
  refine ld_l hx hb hK.1 hP 2 1 rfl rfl (ix_lit (by decide)) 0 (by decide) (v := (0 + ((fb 0) * ((z5_numberOf_0 gp i 0).toInt64))) + ((fb 1) * ((z5_numberOf_0 gp i 1).toInt64))) rfl dX5_keepTimes_33 ?_
  refine lv_aload_n hx hb dX5_keepTimes_34 rfl (lv_at hl 4 rfl) ?_
  refine lv_iconst (v := 3) hx hb dX5_keepTimes_35 (by decide) ?_
  refine lv_iload hx hb dX5_keepTimes_36 (lv_at hl 1 rfl) ?_
  refine lv_imul hx hb dX5_keepTimes_38 ?_
  refine lv_eqi (v := 0) (by decide) ?_
  refine lv_iload hx hb dX5_keepTimes_39 (lv_at hl 0 rfl) ?_
  refine lv_iadd hx hb dX5_keepTimes_41 ?_
  refine lv_eqi (v := 2) (by decide) ?_
  refine ld_l hx hb hK.1 hP 3 1 rfl rfl (ix_lit (by decide)) 2 (by decide) (v := fb 2) rfl dX5_keepTimes_42 ?_
  refine lv_aload_n hx hb dX5_keepTimes_43 rfl (lv_at hl 2 rfl) ?_
  refine lv_iload_n hx hb dX5_keepTimes_44 rfl (lv_at hl 5 rfl) ?_
  refine lv_iload hx hb dX5_keepTimes_45 (lv_at hl 6 rfl) ?_
  refine lv_iload hx hb dX5_keepTimes_47 (lv_at hl 0 rfl) ?_
  have hPc := hP.sub (ws' := [kM o mP mL mC mN mF mR mD mV mX mA mK cm mT pm mU mH mI, kA mP cI 180 gp]) [0, 4] rfl
  refine cr_i (va_runV (As := [.int 0, .int i, .int 2]) (rest := [.long (fb 2), .long ((0 + ((fb 0) * ((z5_numberOf_0 gp i 0).toInt64))) + ((fb 1) * ((z5_numberOf_0 gp i 1).toInt64))), .int 0, .ref mF]) ⟨hx, hb, hml, hown, hts⟩ (c_X5_numberOf_0 l D cI cJ o mP mL mC mN mF mR mD mV mX mA mK mT mU mH mI cm pm gp i 2 hi (by decide)) (cwV 3 hts gX5_keepTimes_X5_numberOf rfl rfl rfl (by decide +kernel) ⟨Nat.le_of_ble_eq_true rfl, Nat.le_of_ble_eq_true rfl⟩) ⟨gd_blR, va_recv hK.1 hPc (ci := 5) (q0 := 0) rfl rfl, gd_prR hPc hK⟩ rfl rfl hl.1 rfl (lv_room (Nat.le_of_ble_eq_true rfl)) dX5_keepTimes_49 ⟨Nat.zero_le _, Nat.zero_le _⟩) (fun r_49 hw => ?_)
  subst hw
  clear hPc
  refine lv_i2l hx hb dX5_keepTimes_52 rfl ?_
  refine lv_lmul hx hb dX5_keepTimes_53 ?_
  refine lv_ladd hx hb dX5_keepTimes_54 ?_
  refine st_l hx hb hK.1 hP hD hS 2 1 rfl rfl (ix_lit (by decide)) 0 (by decide) dX5_keepTimes_55 (fun H locs hP hD hS => ?_)
  have hP : va_P D vwCl [kM o mP mL mC mN mF mR mD mV mX mA mK cm mT pm mU mH mI, kA mN cI 3 gm, kJ mF cJ 6 (vp_updL (vp_updL (vp_updL (vp_updL ff 0 0) 0 (0 + ((fb 0) * ((z5_numberOf_0 gp i 0).toInt64)))) 0 ((0 + ((fb 0) * ((z5_numberOf_0 gp i 0).toInt64))) + ((fb 1) * ((z5_numberOf_0 gp i 1).toInt64)))) 0 (((0 + ((fb 0) * ((z5_numberOf_0 gp i 0).toInt64))) + ((fb 1) * ((z5_numberOf_0 gp i 1).toInt64))) + ((fb 2) * ((z5_numberOf_0 gp i 2).toInt64)))), kJ h cJ 9 fb, kA mP cI 180 gp, kA mL cI 180 gl] H := hP
  have hD : va_D A [kM o mP mL mC mN mF mR mD mV mX mA mK cm mT pm mU mH mI, kA mN cI 3 gm, kJ mF cJ 6 (vp_updL (vp_updL (vp_updL (vp_updL ff 0 0) 0 (0 + ((fb 0) * ((z5_numberOf_0 gp i 0).toInt64)))) 0 ((0 + ((fb 0) * ((z5_numberOf_0 gp i 0).toInt64))) + ((fb 1) * ((z5_numberOf_0 gp i 1).toInt64)))) 0 (((0 + ((fb 0) * ((z5_numberOf_0 gp i 0).toInt64))) + ((fb 1) * ((z5_numberOf_0 gp i 1).toInt64))) + ((fb 2) * ((z5_numberOf_0 gp i 2).toInt64)))), kJ h cJ 9 fb, kA mP cI 180 gp, kA mL cI 180 gl] := hD
  refine lv_iinc (v := 3) (lv' := [(6, .int 3), (5, .int 0), (0, .ref o), (1, .int 1), (2, .ref h), (3, .int 0), (4, .int i)]) hx hb dX5_keepTimes_56 hl (k := 0) rfl (by decide) (by decide) rfl (fun ls hl => ?_)
  refine lv_goto (tgt := 20) hx hb dX5_keepTimes_59 (by decide) ?_
  refine lv_iload hx hb dX5_keepTimes_20 (lv_at hl 0 rfl) ?_
  refine lv_iconst (v := 3) hx hb dX5_keepTimes_22 (by decide) ?_
  refine lv_icmp_ge (tgt := 62) hx hb dX5_keepTimes_23 (by decide) (fun _ => ?_) (fun h => absurd (by decide) h)
  refine lv_iinc (v := 1) (lv' := [(5, .int 1), (6, .int 3), (0, .ref o), (1, .int 1), (2, .ref h), (3, .int 0), (4, .int i)]) hx hb dX5_keepTimes_62 hl (k := 1) rfl (by decide) (by decide) rfl (fun ls hl => ?_)
  refine lv_goto (tgt := 3) hx hb dX5_keepTimes_65 (by decide) ?_
  refine lv_iload hx hb dX5_keepTimes_3 (lv_at hl 0 rfl) ?_
  refine lv_iconst (v := 3) hx hb dX5_keepTimes_5 (by decide) ?_
  refine lv_icmp_ge (tgt := 68) hx hb dX5_keepTimes_6 (by decide) (fun h => absurd h (by decide)) (fun _ => ?_)
  refine lv_aload_n hx hb dX5_keepTimes_9 rfl (lv_at hl 2 rfl) ?_
  refine va_get (D := D) (ci := 5) (v := .ref mF) (C := RX5) (T := TX5) (N := 17) hx hb hts k_2 hown hK.1 hP 0 rfl rfl 4 (by decide) k_1 (fun _ h9 => h9) rfl dX5_keepTimes_10 ?_
  refine lv_iload hx hb dX5_keepTimes_13 (lv_at hl 0 rfl) ?_
  refine lv_lconst (v := 0) hx hb dX5_keepTimes_15 (by decide) ?_
  refine st_l hx hb hK.1 hP hD hS 2 1 rfl rfl (ix_lit (by decide)) 1 (by decide) dX5_keepTimes_16 (fun H locs hP hD hS => ?_)
  have hP : va_P D vwCl [kM o mP mL mC mN mF mR mD mV mX mA mK cm mT pm mU mH mI, kA mN cI 3 gm, kJ mF cJ 6 (vp_updL (vp_updL (vp_updL (vp_updL (vp_updL ff 0 0) 0 (0 + ((fb 0) * ((z5_numberOf_0 gp i 0).toInt64)))) 0 ((0 + ((fb 0) * ((z5_numberOf_0 gp i 0).toInt64))) + ((fb 1) * ((z5_numberOf_0 gp i 1).toInt64)))) 0 (((0 + ((fb 0) * ((z5_numberOf_0 gp i 0).toInt64))) + ((fb 1) * ((z5_numberOf_0 gp i 1).toInt64))) + ((fb 2) * ((z5_numberOf_0 gp i 2).toInt64)))) 1 0), kJ h cJ 9 fb, kA mP cI 180 gp, kA mL cI 180 gl] H := hP
  have hD : va_D A [kM o mP mL mC mN mF mR mD mV mX mA mK cm mT pm mU mH mI, kA mN cI 3 gm, kJ mF cJ 6 (vp_updL (vp_updL (vp_updL (vp_updL (vp_updL ff 0 0) 0 (0 + ((fb 0) * ((z5_numberOf_0 gp i 0).toInt64)))) 0 ((0 + ((fb 0) * ((z5_numberOf_0 gp i 0).toInt64))) + ((fb 1) * ((z5_numberOf_0 gp i 1).toInt64)))) 0 (((0 + ((fb 0) * ((z5_numberOf_0 gp i 0).toInt64))) + ((fb 1) * ((z5_numberOf_0 gp i 1).toInt64))) + ((fb 2) * ((z5_numberOf_0 gp i 2).toInt64)))) 1 0), kJ h cJ 9 fb, kA mP cI 180 gp, kA mL cI 180 gl] := hD
  refine lv_iconst (v := 0) hx hb dX5_keepTimes_17 (by decide) ?_
  refine lv_istore (lv' := [(6, .int 0), (5, .int 1), (0, .ref o), (1, .int 1), (2, .ref h), (3, .int 0), (4, .int i)]) hx hb dX5_keepTimes_18 hl (by decide) rfl (fun ls hl => ?_)
  refine lv_iload hx hb dX5_keepTimes_20 (lv_at hl 0 rfl) ?_
  refine lv_iconst (v := 3) hx hb dX5_keepTimes_22 (by decide) ?_
  refine lv_icmp_ge (tgt := 62) hx hb dX5_keepTimes_23 (by decide) (fun h => absurd h (by decide)) (fun _ => ?_)
  refine lv_aload_n hx hb dX5_keepTimes_26 rfl (lv_at hl 2 rfl) ?_
  refine va_get (D := D) (ci := 5) (v := .ref mF) (C := RX5) (T := TX5) (N := 17) hx hb hts k_2 hown hK.1 hP 0 rfl rfl 4 (by decide) k_1 (fun _ h9 => h9) rfl dX5_keepTimes_27 ?_
  refine lv_iload hx hb dX5_keepTimes_30 (lv_at hl 1 rfl) ?_
  refine lv_dup2_11 hx hb dX5_keepTimes_32 rfl rfl ?_
  refine ld_l hx hb hK.1 hP 2 1 rfl rfl (ix_lit (by decide)) 1 (by decide) (v := 0) rfl dX5_keepTimes_33 ?_
  refine lv_aload_n hx hb dX5_keepTimes_34 rfl (lv_at hl 4 rfl) ?_
  refine lv_iconst (v := 3) hx hb dX5_keepTimes_35 (by decide) ?_
  refine lv_iload hx hb dX5_keepTimes_36 (lv_at hl 1 rfl) ?_
  refine lv_imul hx hb dX5_keepTimes_38 ?_
  refine lv_eqi (v := 3) (by decide) ?_
  refine lv_iload hx hb dX5_keepTimes_39 (lv_at hl 0 rfl) ?_
  refine lv_iadd hx hb dX5_keepTimes_41 ?_
  refine lv_eqi (v := 3) (by decide) ?_
  refine ld_l hx hb hK.1 hP 3 1 rfl rfl (ix_lit (by decide)) 3 (by decide) (v := fb 3) rfl dX5_keepTimes_42 ?_
  refine lv_aload_n hx hb dX5_keepTimes_43 rfl (lv_at hl 2 rfl) ?_
  refine lv_iload_n hx hb dX5_keepTimes_44 rfl (lv_at hl 5 rfl) ?_
  refine lv_iload hx hb dX5_keepTimes_45 (lv_at hl 6 rfl) ?_
  refine lv_iload hx hb dX5_keepTimes_47 (lv_at hl 0 rfl) ?_
  have hPc := hP.sub (ws' := [kM o mP mL mC mN mF mR mD mV mX mA mK cm mT pm mU mH mI, kA mP cI 180 gp]) [0, 4] rfl
  refine cr_i (va_runV (As := [.int 0, .int i, .int 0]) (rest := [.long (fb 3), .long 0, .int 1, .ref mF]) ⟨hx, hb, hml, hown, hts⟩ (c_X5_numberOf_0 l D cI cJ o mP mL mC mN mF mR mD mV mX mA mK mT mU mH mI cm pm gp i 0 hi (by decide)) (cwV 3 hts gX5_keepTimes_X5_numberOf rfl rfl rfl (by decide +kernel) ⟨Nat.le_of_ble_eq_true rfl, Nat.le_of_ble_eq_true rfl⟩) ⟨gd_blR, va_recv hK.1 hPc (ci := 5) (q0 := 0) rfl rfl, gd_prR hPc hK⟩ rfl rfl hl.1 rfl (lv_room (Nat.le_of_ble_eq_true rfl)) dX5_keepTimes_49 ⟨Nat.zero_le _, Nat.zero_le _⟩) (fun r_49 hw => ?_)
  subst hw
  clear hPc
  refine lv_i2l hx hb dX5_keepTimes_52 rfl ?_
  refine lv_lmul hx hb dX5_keepTimes_53 ?_
  refine lv_ladd hx hb dX5_keepTimes_54 ?_
  refine st_l hx hb hK.1 hP hD hS 2 1 rfl rfl (ix_lit (by decide)) 1 (by decide) dX5_keepTimes_55 (fun H locs hP hD hS => ?_)
  have hP : va_P D vwCl [kM o mP mL mC mN mF mR mD mV mX mA mK cm mT pm mU mH mI, kA mN cI 3 gm, kJ mF cJ 6 (vp_updL (vp_updL (vp_updL (vp_updL (vp_updL (vp_updL ff 0 0) 0 (0 + ((fb 0) * ((z5_numberOf_0 gp i 0).toInt64)))) 0 ((0 + ((fb 0) * ((z5_numberOf_0 gp i 0).toInt64))) + ((fb 1) * ((z5_numberOf_0 gp i 1).toInt64)))) 0 (((0 + ((fb 0) * ((z5_numberOf_0 gp i 0).toInt64))) + ((fb 1) * ((z5_numberOf_0 gp i 1).toInt64))) + ((fb 2) * ((z5_numberOf_0 gp i 2).toInt64)))) 1 0) 1 (0 + ((fb 3) * ((z5_numberOf_0 gp i 0).toInt64)))), kJ h cJ 9 fb, kA mP cI 180 gp, kA mL cI 180 gl] H := hP
  have hD : va_D A [kM o mP mL mC mN mF mR mD mV mX mA mK cm mT pm mU mH mI, kA mN cI 3 gm, kJ mF cJ 6 (vp_updL (vp_updL (vp_updL (vp_updL (vp_updL (vp_updL ff 0 0) 0 (0 + ((fb 0) * ((z5_numberOf_0 gp i 0).toInt64)))) 0 ((0 + ((fb 0) * ((z5_numberOf_0 gp i 0).toInt64))) + ((fb 1) * ((z5_numberOf_0 gp i 1).toInt64)))) 0 (((0 + ((fb 0) * ((z5_numberOf_0 gp i 0).toInt64))) + ((fb 1) * ((z5_numberOf_0 gp i 1).toInt64))) + ((fb 2) * ((z5_numberOf_0 gp i 2).toInt64)))) 1 0) 1 (0 + ((fb 3) * ((z5_numberOf_0 gp i 0).toInt64)))), kJ h cJ 9 fb, kA mP cI 180 gp, kA mL cI 180 gl] := hD
  refine lv_iinc (v := 1) (lv' := [(6, .int 1), (5, .int 1), (0, .ref o), (1, .int 1), (2, .ref h), (3, .int 0), (4, .int i)]) hx hb dX5_keepTimes_56 hl (k := 0) rfl (by decide) (by decide) rfl (fun ls hl => ?_)
  refine lv_goto (tgt := 20) hx hb dX5_keepTimes_59 (by decide) ?_
  refine lv_iload hx hb dX5_keepTimes_20 (lv_at hl 0 rfl) ?_
  refine lv_iconst (v := 3) hx hb dX5_keepTimes_22 (by decide) ?_
  refine lv_icmp_ge (tgt := 62) hx hb dX5_keepTimes_23 (by decide) (fun h => absurd h (by decide)) (fun _ => ?_)
  refine lv_aload_n hx hb dX5_keepTimes_26 rfl (lv_at hl 2 rfl) ?_
  refine va_get (D := D) (ci := 5) (v := .ref mF) (C := RX5) (T := TX5) (N := 17) hx hb hts k_2 hown hK.1 hP 0 rfl rfl 4 (by decide) k_1 (fun _ h9 => h9) rfl dX5_keepTimes_27 ?_
  refine lv_iload hx hb dX5_keepTimes_30 (lv_at hl 1 rfl) ?_
  refine lv_dup2_11 hx hb dX5_keepTimes_32 rfl rfl ?_
  refine ld_l hx hb hK.1 hP 2 1 rfl rfl (ix_lit (by decide)) 1 (by decide) (v := 0 + ((fb 3) * ((z5_numberOf_0 gp i 0).toInt64))) rfl dX5_keepTimes_33 ?_
  refine lv_aload_n hx hb dX5_keepTimes_34 rfl (lv_at hl 4 rfl) ?_
  refine lv_iconst (v := 3) hx hb dX5_keepTimes_35 (by decide) ?_
  refine lv_iload hx hb dX5_keepTimes_36 (lv_at hl 1 rfl) ?_
  refine lv_imul hx hb dX5_keepTimes_38 ?_
  refine lv_eqi (v := 3) (by decide) ?_
  refine lv_iload hx hb dX5_keepTimes_39 (lv_at hl 0 rfl) ?_
  refine lv_iadd hx hb dX5_keepTimes_41 ?_
  refine lv_eqi (v := 4) (by decide) ?_
  refine ld_l hx hb hK.1 hP 3 1 rfl rfl (ix_lit (by decide)) 4 (by decide) (v := fb 4) rfl dX5_keepTimes_42 ?_
  refine lv_aload_n hx hb dX5_keepTimes_43 rfl (lv_at hl 2 rfl) ?_
  refine lv_iload_n hx hb dX5_keepTimes_44 rfl (lv_at hl 5 rfl) ?_
  refine lv_iload hx hb dX5_keepTimes_45 (lv_at hl 6 rfl) ?_
  refine lv_iload hx hb dX5_keepTimes_47 (lv_at hl 0 rfl) ?_
  have hPc := hP.sub (ws' := [kM o mP mL mC mN mF mR mD mV mX mA mK cm mT pm mU mH mI, kA mP cI 180 gp]) [0, 4] rfl
  refine cr_i (va_runV (As := [.int 0, .int i, .int 1]) (rest := [.long (fb 4), .long (0 + ((fb 3) * ((z5_numberOf_0 gp i 0).toInt64))), .int 1, .ref mF]) ⟨hx, hb, hml, hown, hts⟩ (c_X5_numberOf_0 l D cI cJ o mP mL mC mN mF mR mD mV mX mA mK mT mU mH mI cm pm gp i 1 hi (by decide)) (cwV 3 hts gX5_keepTimes_X5_numberOf rfl rfl rfl (by decide +kernel) ⟨Nat.le_of_ble_eq_true rfl, Nat.le_of_ble_eq_true rfl⟩) ⟨gd_blR, va_recv hK.1 hPc (ci := 5) (q0 := 0) rfl rfl, gd_prR hPc hK⟩ rfl rfl hl.1 rfl (lv_room (Nat.le_of_ble_eq_true rfl)) dX5_keepTimes_49 ⟨Nat.zero_le _, Nat.zero_le _⟩) (fun r_49 hw => ?_)
  subst hw
  clear hPc
  refine lv_i2l hx hb dX5_keepTimes_52 rfl ?_
  refine lv_lmul hx hb dX5_keepTimes_53 ?_
  refine lv_ladd hx hb dX5_keepTimes_54 ?_
  refine st_l hx hb hK.1 hP hD hS 2 1 rfl rfl (ix_lit (by decide)) 1 (by decide) dX5_keepTimes_55 (fun H locs hP hD hS => ?_)
  have hP : va_P D vwCl [kM o mP mL mC mN mF mR mD mV mX mA mK cm mT pm mU mH mI, kA mN cI 3 gm, kJ mF cJ 6 (vp_updL (vp_updL (vp_updL (vp_updL (vp_updL (vp_updL (vp_updL ff 0 0) 0 (0 + ((fb 0) * ((z5_numberOf_0 gp i 0).toInt64)))) 0 ((0 + ((fb 0) * ((z5_numberOf_0 gp i 0).toInt64))) + ((fb 1) * ((z5_numberOf_0 gp i 1).toInt64)))) 0 (((0 + ((fb 0) * ((z5_numberOf_0 gp i 0).toInt64))) + ((fb 1) * ((z5_numberOf_0 gp i 1).toInt64))) + ((fb 2) * ((z5_numberOf_0 gp i 2).toInt64)))) 1 0) 1 (0 + ((fb 3) * ((z5_numberOf_0 gp i 0).toInt64)))) 1 ((0 + ((fb 3) * ((z5_numberOf_0 gp i 0).toInt64))) + ((fb 4) * ((z5_numberOf_0 gp i 1).toInt64)))), kJ h cJ 9 fb, kA mP cI 180 gp, kA mL cI 180 gl] H := hP
  have hD : va_D A [kM o mP mL mC mN mF mR mD mV mX mA mK cm mT pm mU mH mI, kA mN cI 3 gm, kJ mF cJ 6 (vp_updL (vp_updL (vp_updL (vp_updL (vp_updL (vp_updL (vp_updL ff 0 0) 0 (0 + ((fb 0) * ((z5_numberOf_0 gp i 0).toInt64)))) 0 ((0 + ((fb 0) * ((z5_numberOf_0 gp i 0).toInt64))) + ((fb 1) * ((z5_numberOf_0 gp i 1).toInt64)))) 0 (((0 + ((fb 0) * ((z5_numberOf_0 gp i 0).toInt64))) + ((fb 1) * ((z5_numberOf_0 gp i 1).toInt64))) + ((fb 2) * ((z5_numberOf_0 gp i 2).toInt64)))) 1 0) 1 (0 + ((fb 3) * ((z5_numberOf_0 gp i 0).toInt64)))) 1 ((0 + ((fb 3) * ((z5_numberOf_0 gp i 0).toInt64))) + ((fb 4) * ((z5_numberOf_0 gp i 1).toInt64)))), kJ h cJ 9 fb, kA mP cI 180 gp, kA mL cI 180 gl] := hD
  refine lv_iinc (v := 2) (lv' := [(6, .int 2), (5, .int 1), (0, .ref o), (1, .int 1), (2, .ref h), (3, .int 0), (4, .int i)]) hx hb dX5_keepTimes_56 hl (k := 0) rfl (by decide) (by decide) rfl (fun ls hl => ?_)
  refine lv_goto (tgt := 20) hx hb dX5_keepTimes_59 (by decide) ?_
  refine lv_iload hx hb dX5_keepTimes_20 (lv_at hl 0 rfl) ?_
  refine lv_iconst (v := 3) hx hb dX5_keepTimes_22 (by decide) ?_
  refine lv_icmp_ge (tgt := 62) hx hb dX5_keepTimes_23 (by decide) (fun h => absurd h (by decide)) (fun _ => ?_)
  refine lv_aload_n hx hb dX5_keepTimes_26 rfl (lv_at hl 2 rfl) ?_
  refine va_get (D := D) (ci := 5) (v := .ref mF) (C := RX5) (T := TX5) (N := 17) hx hb hts k_2 hown hK.1 hP 0 rfl rfl 4 (by decide) k_1 (fun _ h9 => h9) rfl dX5_keepTimes_27 ?_
  refine lv_iload hx hb dX5_keepTimes_30 (lv_at hl 1 rfl) ?_
  refine lv_dup2_11 hx hb dX5_keepTimes_32 rfl rfl ?_
  refine ld_l hx hb hK.1 hP 2 1 rfl rfl (ix_lit (by decide)) 1 (by decide) (v := (0 + ((fb 3) * ((z5_numberOf_0 gp i 0).toInt64))) + ((fb 4) * ((z5_numberOf_0 gp i 1).toInt64))) rfl dX5_keepTimes_33 ?_
  refine lv_aload_n hx hb dX5_keepTimes_34 rfl (lv_at hl 4 rfl) ?_
  refine lv_iconst (v := 3) hx hb dX5_keepTimes_35 (by decide) ?_
  refine lv_iload hx hb dX5_keepTimes_36 (lv_at hl 1 rfl) ?_
  refine lv_imul hx hb dX5_keepTimes_38 ?_
  refine lv_eqi (v := 3) (by decide) ?_
  refine lv_iload hx hb dX5_keepTimes_39 (lv_at hl 0 rfl) ?_
  refine lv_iadd hx hb dX5_keepTimes_41 ?_
  refine lv_eqi (v := 5) (by decide) ?_
  refine ld_l hx hb hK.1 hP 3 1 rfl rfl (ix_lit (by decide)) 5 (by decide) (v := fb 5) rfl dX5_keepTimes_42 ?_
  refine lv_aload_n hx hb dX5_keepTimes_43 rfl (lv_at hl 2 rfl) ?_
  refine lv_iload_n hx hb dX5_keepTimes_44 rfl (lv_at hl 5 rfl) ?_
  refine lv_iload hx hb dX5_keepTimes_45 (lv_at hl 6 rfl) ?_
  refine lv_iload hx hb dX5_keepTimes_47 (lv_at hl 0 rfl) ?_
  have hPc := hP.sub (ws' := [kM o mP mL mC mN mF mR mD mV mX mA mK cm mT pm mU mH mI, kA mP cI 180 gp]) [0, 4] rfl
  refine cr_i (va_runV (As := [.int 0, .int i, .int 2]) (rest := [.long (fb 5), .long ((0 + ((fb 3) * ((z5_numberOf_0 gp i 0).toInt64))) + ((fb 4) * ((z5_numberOf_0 gp i 1).toInt64))), .int 1, .ref mF]) ⟨hx, hb, hml, hown, hts⟩ (c_X5_numberOf_0 l D cI cJ o mP mL mC mN mF mR mD mV mX mA mK mT mU mH mI cm pm gp i 2 hi (by decide)) (cwV 3 hts gX5_keepTimes_X5_numberOf rfl rfl rfl (by decide +kernel) ⟨Nat.le_of_ble_eq_true rfl, Nat.le_of_ble_eq_true rfl⟩) ⟨gd_blR, va_recv hK.1 hPc (ci := 5) (q0 := 0) rfl rfl, gd_prR hPc hK⟩ rfl rfl hl.1 rfl (lv_room (Nat.le_of_ble_eq_true rfl)) dX5_keepTimes_49 ⟨Nat.zero_le _, Nat.zero_le _⟩) (fun r_49 hw => ?_)
  subst hw
  clear hPc
  refine lv_i2l hx hb dX5_keepTimes_52 rfl ?_
  refine lv_lmul hx hb dX5_keepTimes_53 ?_
  refine lv_ladd hx hb dX5_keepTimes_54 ?_
  refine st_l hx hb hK.1 hP hD hS 2 1 rfl rfl (ix_lit (by decide)) 1 (by decide) dX5_keepTimes_55 (fun H locs hP hD hS => ?_)
  have hP : va_P D vwCl [kM o mP mL mC mN mF mR mD mV mX mA mK cm mT pm mU mH mI, kA mN cI 3 gm, kJ mF cJ 6 (vp_updL (vp_updL (vp_updL (vp_updL (vp_updL (vp_updL (vp_updL (vp_updL ff 0 0) 0 (0 + ((fb 0) * ((z5_numberOf_0 gp i 0).toInt64)))) 0 ((0 + ((fb 0) * ((z5_numberOf_0 gp i 0).toInt64))) + ((fb 1) * ((z5_numberOf_0 gp i 1).toInt64)))) 0 (((0 + ((fb 0) * ((z5_numberOf_0 gp i 0).toInt64))) + ((fb 1) * ((z5_numberOf_0 gp i 1).toInt64))) + ((fb 2) * ((z5_numberOf_0 gp i 2).toInt64)))) 1 0) 1 (0 + ((fb 3) * ((z5_numberOf_0 gp i 0).toInt64)))) 1 ((0 + ((fb 3) * ((z5_numberOf_0 gp i 0).toInt64))) + ((fb 4) * ((z5_numberOf_0 gp i 1).toInt64)))) 1 (((0 + ((fb 3) * ((z5_numberOf_0 gp i 0).toInt64))) + ((fb 4) * ((z5_numberOf_0 gp i 1).toInt64))) + ((fb 5) * ((z5_numberOf_0 gp i 2).toInt64)))), kJ h cJ 9 fb, kA mP cI 180 gp, kA mL cI 180 gl] H := hP
  have hD : va_D A [kM o mP mL mC mN mF mR mD mV mX mA mK cm mT pm mU mH mI, kA mN cI 3 gm, kJ mF cJ 6 (vp_updL (vp_updL (vp_updL (vp_updL (vp_updL (vp_updL (vp_updL (vp_updL ff 0 0) 0 (0 + ((fb 0) * ((z5_numberOf_0 gp i 0).toInt64)))) 0 ((0 + ((fb 0) * ((z5_numberOf_0 gp i 0).toInt64))) + ((fb 1) * ((z5_numberOf_0 gp i 1).toInt64)))) 0 (((0 + ((fb 0) * ((z5_numberOf_0 gp i 0).toInt64))) + ((fb 1) * ((z5_numberOf_0 gp i 1).toInt64))) + ((fb 2) * ((z5_numberOf_0 gp i 2).toInt64)))) 1 0) 1 (0 + ((fb 3) * ((z5_numberOf_0 gp i 0).toInt64)))) 1 ((0 + ((fb 3) * ((z5_numberOf_0 gp i 0).toInt64))) + ((fb 4) * ((z5_numberOf_0 gp i 1).toInt64)))) 1 (((0 + ((fb 3) * ((z5_numberOf_0 gp i 0).toInt64))) + ((fb 4) * ((z5_numberOf_0 gp i 1).toInt64))) + ((fb 5) * ((z5_numberOf_0 gp i 2).toInt64)))), kJ h cJ 9 fb, kA mP cI 180 gp, kA mL cI 180 gl] := hD
  refine lv_iinc (v := 3) (lv' := [(6, .int 3), (5, .int 1), (0, .ref o), (1, .int 1), (2, .ref h), (3, .int 0), (4, .int i)]) hx hb dX5_keepTimes_56 hl (k := 0) rfl (by decide) (by decide) rfl (fun ls hl => ?_)
  refine lv_goto (tgt := 20) hx hb dX5_keepTimes_59 (by decide) ?_
  refine lv_iload hx hb dX5_keepTimes_20 (lv_at hl 0 rfl) ?_
  refine lv_iconst (v := 3) hx hb dX5_keepTimes_22 (by decide) ?_
  refine lv_icmp_ge (tgt := 62) hx hb dX5_keepTimes_23 (by decide) (fun _ => ?_) (fun h => absurd (by decide) h)
  refine lv_iinc (v := 2) (lv' := [(5, .int 2), (6, .int 3), (0, .ref o), (1, .int 1), (2, .ref h), (3, .int 0), (4, .int i)]) hx hb dX5_keepTimes_62 hl (k := 1) rfl (by decide) (by decide) rfl (fun ls hl => ?_)
  refine lv_goto (tgt := 3) hx hb dX5_keepTimes_65 (by decide) ?_
  refine lv_iload hx hb dX5_keepTimes_3 (lv_at hl 0 rfl) ?_
  refine lv_iconst (v := 3) hx hb dX5_keepTimes_5 (by decide) ?_
  refine lv_icmp_ge (tgt := 68) hx hb dX5_keepTimes_6 (by decide) (fun h => absurd h (by decide)) (fun _ => ?_)
  refine lv_aload_n hx hb dX5_keepTimes_9 rfl (lv_at hl 2 rfl) ?_
  refine va_get (D := D) (ci := 5) (v := .ref mF) (C := RX5) (T := TX5) (N := 17) hx hb hts k_2 hown hK.1 hP 0 rfl rfl 4 (by decide) k_1 (fun _ h9 => h9) rfl dX5_keepTimes_10 ?_
  refine lv_iload hx hb dX5_keepTimes_13 (lv_at hl 0 rfl) ?_
  refine lv_lconst (v := 0) hx hb dX5_keepTimes_15 (by decide) ?_
  refine st_l hx hb hK.1 hP hD hS 2 1 rfl rfl (ix_lit (by decide)) 2 (by decide) dX5_keepTimes_16 (fun H locs hP hD hS => ?_)
  have hP : va_P D vwCl [kM o mP mL mC mN mF mR mD mV mX mA mK cm mT pm mU mH mI, kA mN cI 3 gm, kJ mF cJ 6 (vp_updL (vp_updL (vp_updL (vp_updL (vp_updL (vp_updL (vp_updL (vp_updL (vp_updL ff 0 0) 0 (0 + ((fb 0) * ((z5_numberOf_0 gp i 0).toInt64)))) 0 ((0 + ((fb 0) * ((z5_numberOf_0 gp i 0).toInt64))) + ((fb 1) * ((z5_numberOf_0 gp i 1).toInt64)))) 0 (((0 + ((fb 0) * ((z5_numberOf_0 gp i 0).toInt64))) + ((fb 1) * ((z5_numberOf_0 gp i 1).toInt64))) + ((fb 2) * ((z5_numberOf_0 gp i 2).toInt64)))) 1 0) 1 (0 + ((fb 3) * ((z5_numberOf_0 gp i 0).toInt64)))) 1 ((0 + ((fb 3) * ((z5_numberOf_0 gp i 0).toInt64))) + ((fb 4) * ((z5_numberOf_0 gp i 1).toInt64)))) 1 (((0 + ((fb 3) * ((z5_numberOf_0 gp i 0).toInt64))) + ((fb 4) * ((z5_numberOf_0 gp i 1).toInt64))) + ((fb 5) * ((z5_numberOf_0 gp i 2).toInt64)))) 2 0), kJ h cJ 9 fb, kA mP cI 180 gp, kA mL cI 180 gl] H := hP
  have hD : va_D A [kM o mP mL mC mN mF mR mD mV mX mA mK cm mT pm mU mH mI, kA mN cI 3 gm, kJ mF cJ 6 (vp_updL (vp_updL (vp_updL (vp_updL (vp_updL (vp_updL (vp_updL (vp_updL (vp_updL ff 0 0) 0 (0 + ((fb 0) * ((z5_numberOf_0 gp i 0).toInt64)))) 0 ((0 + ((fb 0) * ((z5_numberOf_0 gp i 0).toInt64))) + ((fb 1) * ((z5_numberOf_0 gp i 1).toInt64)))) 0 (((0 + ((fb 0) * ((z5_numberOf_0 gp i 0).toInt64))) + ((fb 1) * ((z5_numberOf_0 gp i 1).toInt64))) + ((fb 2) * ((z5_numberOf_0 gp i 2).toInt64)))) 1 0) 1 (0 + ((fb 3) * ((z5_numberOf_0 gp i 0).toInt64)))) 1 ((0 + ((fb 3) * ((z5_numberOf_0 gp i 0).toInt64))) + ((fb 4) * ((z5_numberOf_0 gp i 1).toInt64)))) 1 (((0 + ((fb 3) * ((z5_numberOf_0 gp i 0).toInt64))) + ((fb 4) * ((z5_numberOf_0 gp i 1).toInt64))) + ((fb 5) * ((z5_numberOf_0 gp i 2).toInt64)))) 2 0), kJ h cJ 9 fb, kA mP cI 180 gp, kA mL cI 180 gl] := hD
  refine lv_iconst (v := 0) hx hb dX5_keepTimes_17 (by decide) ?_
  refine lv_istore (lv' := [(6, .int 0), (5, .int 2), (0, .ref o), (1, .int 1), (2, .ref h), (3, .int 0), (4, .int i)]) hx hb dX5_keepTimes_18 hl (by decide) rfl (fun ls hl => ?_)
  refine lv_iload hx hb dX5_keepTimes_20 (lv_at hl 0 rfl) ?_
  refine lv_iconst (v := 3) hx hb dX5_keepTimes_22 (by decide) ?_
  refine lv_icmp_ge (tgt := 62) hx hb dX5_keepTimes_23 (by decide) (fun h => absurd h (by decide)) (fun _ => ?_)
  refine lv_aload_n hx hb dX5_keepTimes_26 rfl (lv_at hl 2 rfl) ?_
  refine va_get (D := D) (ci := 5) (v := .ref mF) (C := RX5) (T := TX5) (N := 17) hx hb hts k_2 hown hK.1 hP 0 rfl rfl 4 (by decide) k_1 (fun _ h9 => h9) rfl dX5_keepTimes_27 ?_
  refine lv_iload hx hb dX5_keepTimes_30 (lv_at hl 1 rfl) ?_
  refine lv_dup2_11 hx hb dX5_keepTimes_32 rfl rfl ?_
  refine ld_l hx hb hK.1 hP 2 1 rfl rfl (ix_lit (by decide)) 2 (by decide) (v := 0) rfl dX5_keepTimes_33 ?_
  refine lv_aload_n hx hb dX5_keepTimes_34 rfl (lv_at hl 4 rfl) ?_
  refine lv_iconst (v := 3) hx hb dX5_keepTimes_35 (by decide) ?_
  refine lv_iload hx hb dX5_keepTimes_36 (lv_at hl 1 rfl) ?_
  refine lv_imul hx hb dX5_keepTimes_38 ?_
  refine lv_eqi (v := 6) (by decide) ?_
  refine lv_iload hx hb dX5_keepTimes_39 (lv_at hl 0 rfl) ?_
  refine lv_iadd hx hb dX5_keepTimes_41 ?_
  refine lv_eqi (v := 6) (by decide) ?_
  refine ld_l hx hb hK.1 hP 3 1 rfl rfl (ix_lit (by decide)) 6 (by decide) (v := fb 6) rfl dX5_keepTimes_42 ?_
  refine lv_aload_n hx hb dX5_keepTimes_43 rfl (lv_at hl 2 rfl) ?_
  refine lv_iload_n hx hb dX5_keepTimes_44 rfl (lv_at hl 5 rfl) ?_
  refine lv_iload hx hb dX5_keepTimes_45 (lv_at hl 6 rfl) ?_
  refine lv_iload hx hb dX5_keepTimes_47 (lv_at hl 0 rfl) ?_
  have hPc := hP.sub (ws' := [kM o mP mL mC mN mF mR mD mV mX mA mK cm mT pm mU mH mI, kA mP cI 180 gp]) [0, 4] rfl
  refine cr_i (va_runV (As := [.int 0, .int i, .int 0]) (rest := [.long (fb 6), .long 0, .int 2, .ref mF]) ⟨hx, hb, hml, hown, hts⟩ (c_X5_numberOf_0 l D cI cJ o mP mL mC mN mF mR mD mV mX mA mK mT mU mH mI cm pm gp i 0 hi (by decide)) (cwV 3 hts gX5_keepTimes_X5_numberOf rfl rfl rfl (by decide +kernel) ⟨Nat.le_of_ble_eq_true rfl, Nat.le_of_ble_eq_true rfl⟩) ⟨gd_blR, va_recv hK.1 hPc (ci := 5) (q0 := 0) rfl rfl, gd_prR hPc hK⟩ rfl rfl hl.1 rfl (lv_room (Nat.le_of_ble_eq_true rfl)) dX5_keepTimes_49 ⟨Nat.zero_le _, Nat.zero_le _⟩) (fun r_49 hw => ?_)
  subst hw
  clear hPc
  refine lv_i2l hx hb dX5_keepTimes_52 rfl ?_
  refine lv_lmul hx hb dX5_keepTimes_53 ?_
  refine lv_ladd hx hb dX5_keepTimes_54 ?_
  refine st_l hx hb hK.1 hP hD hS 2 1 rfl rfl (ix_lit (by decide)) 2 (by decide) dX5_keepTimes_55 (fun H locs hP hD hS => ?_)
  have hP : va_P D vwCl [kM o mP mL mC mN mF mR mD mV mX mA mK cm mT pm mU mH mI, kA mN cI 3 gm, kJ mF cJ 6 (vp_updL (vp_updL (vp_updL (vp_updL (vp_updL (vp_updL (vp_updL (vp_updL (vp_updL (vp_updL ff 0 0) 0 (0 + ((fb 0) * ((z5_numberOf_0 gp i 0).toInt64)))) 0 ((0 + ((fb 0) * ((z5_numberOf_0 gp i 0).toInt64))) + ((fb 1) * ((z5_numberOf_0 gp i 1).toInt64)))) 0 (((0 + ((fb 0) * ((z5_numberOf_0 gp i 0).toInt64))) + ((fb 1) * ((z5_numberOf_0 gp i 1).toInt64))) + ((fb 2) * ((z5_numberOf_0 gp i 2).toInt64)))) 1 0) 1 (0 + ((fb 3) * ((z5_numberOf_0 gp i 0).toInt64)))) 1 ((0 + ((fb 3) * ((z5_numberOf_0 gp i 0).toInt64))) + ((fb 4) * ((z5_numberOf_0 gp i 1).toInt64)))) 1 (((0 + ((fb 3) * ((z5_numberOf_0 gp i 0).toInt64))) + ((fb 4) * ((z5_numberOf_0 gp i 1).toInt64))) + ((fb 5) * ((z5_numberOf_0 gp i 2).toInt64)))) 2 0) 2 (0 + ((fb 6) * ((z5_numberOf_0 gp i 0).toInt64)))), kJ h cJ 9 fb, kA mP cI 180 gp, kA mL cI 180 gl] H := hP
  have hD : va_D A [kM o mP mL mC mN mF mR mD mV mX mA mK cm mT pm mU mH mI, kA mN cI 3 gm, kJ mF cJ 6 (vp_updL (vp_updL (vp_updL (vp_updL (vp_updL (vp_updL (vp_updL (vp_updL (vp_updL (vp_updL ff 0 0) 0 (0 + ((fb 0) * ((z5_numberOf_0 gp i 0).toInt64)))) 0 ((0 + ((fb 0) * ((z5_numberOf_0 gp i 0).toInt64))) + ((fb 1) * ((z5_numberOf_0 gp i 1).toInt64)))) 0 (((0 + ((fb 0) * ((z5_numberOf_0 gp i 0).toInt64))) + ((fb 1) * ((z5_numberOf_0 gp i 1).toInt64))) + ((fb 2) * ((z5_numberOf_0 gp i 2).toInt64)))) 1 0) 1 (0 + ((fb 3) * ((z5_numberOf_0 gp i 0).toInt64)))) 1 ((0 + ((fb 3) * ((z5_numberOf_0 gp i 0).toInt64))) + ((fb 4) * ((z5_numberOf_0 gp i 1).toInt64)))) 1 (((0 + ((fb 3) * ((z5_numberOf_0 gp i 0).toInt64))) + ((fb 4) * ((z5_numberOf_0 gp i 1).toInt64))) + ((fb 5) * ((z5_numberOf_0 gp i 2).toInt64)))) 2 0) 2 (0 + ((fb 6) * ((z5_numberOf_0 gp i 0).toInt64)))), kJ h cJ 9 fb, kA mP cI 180 gp, kA mL cI 180 gl] := hD
  refine lv_iinc (v := 1) (lv' := [(6, .int 1), (5, .int 2), (0, .ref o), (1, .int 1), (2, .ref h), (3, .int 0), (4, .int i)]) hx hb dX5_keepTimes_56 hl (k := 0) rfl (by decide) (by decide) rfl (fun ls hl => ?_)
  refine lv_goto (tgt := 20) hx hb dX5_keepTimes_59 (by decide) ?_
  refine lv_iload hx hb dX5_keepTimes_20 (lv_at hl 0 rfl) ?_
  refine lv_iconst (v := 3) hx hb dX5_keepTimes_22 (by decide) ?_
  refine lv_icmp_ge (tgt := 62) hx hb dX5_keepTimes_23 (by decide) (fun h => absurd h (by decide)) (fun _ => ?_)
  refine lv_aload_n hx hb dX5_keepTimes_26 rfl (lv_at hl 2 rfl) ?_
  refine va_get (D := D) (ci := 5) (v := .ref mF) (C := RX5) (T := TX5) (N := 17) hx hb hts k_2 hown hK.1 hP 0 rfl rfl 4 (by decide) k_1 (fun _ h9 => h9) rfl dX5_keepTimes_27 ?_
  refine lv_iload hx hb dX5_keepTimes_30 (lv_at hl 1 rfl) ?_
  refine lv_dup2_11 hx hb dX5_keepTimes_32 rfl rfl ?_
  refine ld_l hx hb hK.1 hP 2 1 rfl rfl (ix_lit (by decide)) 2 (by decide) (v := 0 + ((fb 6) * ((z5_numberOf_0 gp i 0).toInt64))) rfl dX5_keepTimes_33 ?_
  refine lv_aload_n hx hb dX5_keepTimes_34 rfl (lv_at hl 4 rfl) ?_
  refine lv_iconst (v := 3) hx hb dX5_keepTimes_35 (by decide) ?_
  refine lv_iload hx hb dX5_keepTimes_36 (lv_at hl 1 rfl) ?_
  refine lv_imul hx hb dX5_keepTimes_38 ?_
  refine lv_eqi (v := 6) (by decide) ?_
  refine lv_iload hx hb dX5_keepTimes_39 (lv_at hl 0 rfl) ?_
  refine lv_iadd hx hb dX5_keepTimes_41 ?_
  refine lv_eqi (v := 7) (by decide) ?_
  refine ld_l hx hb hK.1 hP 3 1 rfl rfl (ix_lit (by decide)) 7 (by decide) (v := fb 7) rfl dX5_keepTimes_42 ?_
  refine lv_aload_n hx hb dX5_keepTimes_43 rfl (lv_at hl 2 rfl) ?_
  refine lv_iload_n hx hb dX5_keepTimes_44 rfl (lv_at hl 5 rfl) ?_
  refine lv_iload hx hb dX5_keepTimes_45 (lv_at hl 6 rfl) ?_
  refine lv_iload hx hb dX5_keepTimes_47 (lv_at hl 0 rfl) ?_
  have hPc := hP.sub (ws' := [kM o mP mL mC mN mF mR mD mV mX mA mK cm mT pm mU mH mI, kA mP cI 180 gp]) [0, 4] rfl
  refine cr_i (va_runV (As := [.int 0, .int i, .int 1]) (rest := [.long (fb 7), .long (0 + ((fb 6) * ((z5_numberOf_0 gp i 0).toInt64))), .int 2, .ref mF]) ⟨hx, hb, hml, hown, hts⟩ (c_X5_numberOf_0 l D cI cJ o mP mL mC mN mF mR mD mV mX mA mK mT mU mH mI cm pm gp i 1 hi (by decide)) (cwV 3 hts gX5_keepTimes_X5_numberOf rfl rfl rfl (by decide +kernel) ⟨Nat.le_of_ble_eq_true rfl, Nat.le_of_ble_eq_true rfl⟩) ⟨gd_blR, va_recv hK.1 hPc (ci := 5) (q0 := 0) rfl rfl, gd_prR hPc hK⟩ rfl rfl hl.1 rfl (lv_room (Nat.le_of_ble_eq_true rfl)) dX5_keepTimes_49 ⟨Nat.zero_le _, Nat.zero_le _⟩) (fun r_49 hw => ?_)
  subst hw
  clear hPc
  refine lv_i2l hx hb dX5_keepTimes_52 rfl ?_
  refine lv_lmul hx hb dX5_keepTimes_53 ?_
  refine lv_ladd hx hb dX5_keepTimes_54 ?_
  refine st_l hx hb hK.1 hP hD hS 2 1 rfl rfl (ix_lit (by decide)) 2 (by decide) dX5_keepTimes_55 (fun H locs hP hD hS => ?_)
  have hP : va_P D vwCl [kM o mP mL mC mN mF mR mD mV mX mA mK cm mT pm mU mH mI, kA mN cI 3 gm, kJ mF cJ 6 (vp_updL (vp_updL (vp_updL (vp_updL (vp_updL (vp_updL (vp_updL (vp_updL (vp_updL (vp_updL (vp_updL ff 0 0) 0 (0 + ((fb 0) * ((z5_numberOf_0 gp i 0).toInt64)))) 0 ((0 + ((fb 0) * ((z5_numberOf_0 gp i 0).toInt64))) + ((fb 1) * ((z5_numberOf_0 gp i 1).toInt64)))) 0 (((0 + ((fb 0) * ((z5_numberOf_0 gp i 0).toInt64))) + ((fb 1) * ((z5_numberOf_0 gp i 1).toInt64))) + ((fb 2) * ((z5_numberOf_0 gp i 2).toInt64)))) 1 0) 1 (0 + ((fb 3) * ((z5_numberOf_0 gp i 0).toInt64)))) 1 ((0 + ((fb 3) * ((z5_numberOf_0 gp i 0).toInt64))) + ((fb 4) * ((z5_numberOf_0 gp i 1).toInt64)))) 1 (((0 + ((fb 3) * ((z5_numberOf_0 gp i 0).toInt64))) + ((fb 4) * ((z5_numberOf_0 gp i 1).toInt64))) + ((fb 5) * ((z5_numberOf_0 gp i 2).toInt64)))) 2 0) 2 (0 + ((fb 6) * ((z5_numberOf_0 gp i 0).toInt64)))) 2 ((0 + ((fb 6) * ((z5_numberOf_0 gp i 0).toInt64))) + ((fb 7) * ((z5_numberOf_0 gp i 1).toInt64)))), kJ h cJ 9 fb, kA mP cI 180 gp, kA mL cI 180 gl] H := hP
  have hD : va_D A [kM o mP mL mC mN mF mR mD mV mX mA mK cm mT pm mU mH mI, kA mN cI 3 gm, kJ mF cJ 6 (vp_updL (vp_updL (vp_updL (vp_updL (vp_updL (vp_updL (vp_updL (vp_updL (vp_updL (vp_updL (vp_updL ff 0 0) 0 (0 + ((fb 0) * ((z5_numberOf_0 gp i 0).toInt64)))) 0 ((0 + ((fb 0) * ((z5_numberOf_0 gp i 0).toInt64))) + ((fb 1) * ((z5_numberOf_0 gp i 1).toInt64)))) 0 (((0 + ((fb 0) * ((z5_numberOf_0 gp i 0).toInt64))) + ((fb 1) * ((z5_numberOf_0 gp i 1).toInt64))) + ((fb 2) * ((z5_numberOf_0 gp i 2).toInt64)))) 1 0) 1 (0 + ((fb 3) * ((z5_numberOf_0 gp i 0).toInt64)))) 1 ((0 + ((fb 3) * ((z5_numberOf_0 gp i 0).toInt64))) + ((fb 4) * ((z5_numberOf_0 gp i 1).toInt64)))) 1 (((0 + ((fb 3) * ((z5_numberOf_0 gp i 0).toInt64))) + ((fb 4) * ((z5_numberOf_0 gp i 1).toInt64))) + ((fb 5) * ((z5_numberOf_0 gp i 2).toInt64)))) 2 0) 2 (0 + ((fb 6) * ((z5_numberOf_0 gp i 0).toInt64)))) 2 ((0 + ((fb 6) * ((z5_numberOf_0 gp i 0).toInt64))) + ((fb 7) * ((z5_numberOf_0 gp i 1).toInt64)))), kJ h cJ 9 fb, kA mP cI 180 gp, kA mL cI 180 gl] := hD
  refine lv_iinc (v := 2) (lv' := [(6, .int 2), (5, .int 2), (0, .ref o), (1, .int 1), (2, .ref h), (3, .int 0), (4, .int i)]) hx hb dX5_keepTimes_56 hl (k := 0) rfl (by decide) (by decide) rfl (fun ls hl => ?_)
  refine lv_goto (tgt := 20) hx hb dX5_keepTimes_59 (by decide) ?_
  refine lv_iload hx hb dX5_keepTimes_20 (lv_at hl 0 rfl) ?_
  refine lv_iconst (v := 3) hx hb dX5_keepTimes_22 (by decide) ?_
  refine lv_icmp_ge (tgt := 62) hx hb dX5_keepTimes_23 (by decide) (fun h => absurd h (by decide)) (fun _ => ?_)
  refine lv_aload_n hx hb dX5_keepTimes_26 rfl (lv_at hl 2 rfl) ?_
  refine va_get (D := D) (ci := 5) (v := .ref mF) (C := RX5) (T := TX5) (N := 17) hx hb hts k_2 hown hK.1 hP 0 rfl rfl 4 (by decide) k_1 (fun _ h9 => h9) rfl dX5_keepTimes_27 ?_
  refine lv_iload hx hb dX5_keepTimes_30 (lv_at hl 1 rfl) ?_
  refine lv_dup2_11 hx hb dX5_keepTimes_32 rfl rfl ?_
  refine ld_l hx hb hK.1 hP 2 1 rfl rfl (ix_lit (by decide)) 2 (by decide) (v := (0 + ((fb 6) * ((z5_numberOf_0 gp i 0).toInt64))) + ((fb 7) * ((z5_numberOf_0 gp i 1).toInt64))) rfl dX5_keepTimes_33 ?_
  refine lv_aload_n hx hb dX5_keepTimes_34 rfl (lv_at hl 4 rfl) ?_
  refine lv_iconst (v := 3) hx hb dX5_keepTimes_35 (by decide) ?_
  refine lv_iload hx hb dX5_keepTimes_36 (lv_at hl 1 rfl) ?_
  refine lv_imul hx hb dX5_keepTimes_38 ?_
  refine lv_eqi (v := 6) (by decide) ?_
  refine lv_iload hx hb dX5_keepTimes_39 (lv_at hl 0 rfl) ?_
  refine lv_iadd hx hb dX5_keepTimes_41 ?_
  refine lv_eqi (v := 8) (by decide) ?_
  refine ld_l hx hb hK.1 hP 3 1 rfl rfl (ix_lit (by decide)) 8 (by decide) (v := fb 8) rfl dX5_keepTimes_42 ?_
  refine lv_aload_n hx hb dX5_keepTimes_43 rfl (lv_at hl 2 rfl) ?_
  refine lv_iload_n hx hb dX5_keepTimes_44 rfl (lv_at hl 5 rfl) ?_
  refine lv_iload hx hb dX5_keepTimes_45 (lv_at hl 6 rfl) ?_
  refine lv_iload hx hb dX5_keepTimes_47 (lv_at hl 0 rfl) ?_
  have hPc := hP.sub (ws' := [kM o mP mL mC mN mF mR mD mV mX mA mK cm mT pm mU mH mI, kA mP cI 180 gp]) [0, 4] rfl
  refine cr_i (va_runV (As := [.int 0, .int i, .int 2]) (rest := [.long (fb 8), .long ((0 + ((fb 6) * ((z5_numberOf_0 gp i 0).toInt64))) + ((fb 7) * ((z5_numberOf_0 gp i 1).toInt64))), .int 2, .ref mF]) ⟨hx, hb, hml, hown, hts⟩ (c_X5_numberOf_0 l D cI cJ o mP mL mC mN mF mR mD mV mX mA mK mT mU mH mI cm pm gp i 2 hi (by decide)) (cwV 3 hts gX5_keepTimes_X5_numberOf rfl rfl rfl (by decide +kernel) ⟨Nat.le_of_ble_eq_true rfl, Nat.le_of_ble_eq_true rfl⟩) ⟨gd_blR, va_recv hK.1 hPc (ci := 5) (q0 := 0) rfl rfl, gd_prR hPc hK⟩ rfl rfl hl.1 rfl (lv_room (Nat.le_of_ble_eq_true rfl)) dX5_keepTimes_49 ⟨Nat.zero_le _, Nat.zero_le _⟩) (fun r_49 hw => ?_)
  subst hw
  clear hPc
  refine lv_i2l hx hb dX5_keepTimes_52 rfl ?_
  refine lv_lmul hx hb dX5_keepTimes_53 ?_
  refine lv_ladd hx hb dX5_keepTimes_54 ?_
  refine st_l hx hb hK.1 hP hD hS 2 1 rfl rfl (ix_lit (by decide)) 2 (by decide) dX5_keepTimes_55 (fun H locs hP hD hS => ?_)
  have hP : va_P D vwCl [kM o mP mL mC mN mF mR mD mV mX mA mK cm mT pm mU mH mI, kA mN cI 3 gm, kJ mF cJ 6 (vp_updL (vp_updL (vp_updL (vp_updL (vp_updL (vp_updL (vp_updL (vp_updL (vp_updL (vp_updL (vp_updL (vp_updL ff 0 0) 0 (0 + ((fb 0) * ((z5_numberOf_0 gp i 0).toInt64)))) 0 ((0 + ((fb 0) * ((z5_numberOf_0 gp i 0).toInt64))) + ((fb 1) * ((z5_numberOf_0 gp i 1).toInt64)))) 0 (((0 + ((fb 0) * ((z5_numberOf_0 gp i 0).toInt64))) + ((fb 1) * ((z5_numberOf_0 gp i 1).toInt64))) + ((fb 2) * ((z5_numberOf_0 gp i 2).toInt64)))) 1 0) 1 (0 + ((fb 3) * ((z5_numberOf_0 gp i 0).toInt64)))) 1 ((0 + ((fb 3) * ((z5_numberOf_0 gp i 0).toInt64))) + ((fb 4) * ((z5_numberOf_0 gp i 1).toInt64)))) 1 (((0 + ((fb 3) * ((z5_numberOf_0 gp i 0).toInt64))) + ((fb 4) * ((z5_numberOf_0 gp i 1).toInt64))) + ((fb 5) * ((z5_numberOf_0 gp i 2).toInt64)))) 2 0) 2 (0 + ((fb 6) * ((z5_numberOf_0 gp i 0).toInt64)))) 2 ((0 + ((fb 6) * ((z5_numberOf_0 gp i 0).toInt64))) + ((fb 7) * ((z5_numberOf_0 gp i 1).toInt64)))) 2 (((0 + ((fb 6) * ((z5_numberOf_0 gp i 0).toInt64))) + ((fb 7) * ((z5_numberOf_0 gp i 1).toInt64))) + ((fb 8) * ((z5_numberOf_0 gp i 2).toInt64)))), kJ h cJ 9 fb, kA mP cI 180 gp, kA mL cI 180 gl] H := hP
  have hD : va_D A [kM o mP mL mC mN mF mR mD mV mX mA mK cm mT pm mU mH mI, kA mN cI 3 gm, kJ mF cJ 6 (vp_updL (vp_updL (vp_updL (vp_updL (vp_updL (vp_updL (vp_updL (vp_updL (vp_updL (vp_updL (vp_updL (vp_updL ff 0 0) 0 (0 + ((fb 0) * ((z5_numberOf_0 gp i 0).toInt64)))) 0 ((0 + ((fb 0) * ((z5_numberOf_0 gp i 0).toInt64))) + ((fb 1) * ((z5_numberOf_0 gp i 1).toInt64)))) 0 (((0 + ((fb 0) * ((z5_numberOf_0 gp i 0).toInt64))) + ((fb 1) * ((z5_numberOf_0 gp i 1).toInt64))) + ((fb 2) * ((z5_numberOf_0 gp i 2).toInt64)))) 1 0) 1 (0 + ((fb 3) * ((z5_numberOf_0 gp i 0).toInt64)))) 1 ((0 + ((fb 3) * ((z5_numberOf_0 gp i 0).toInt64))) + ((fb 4) * ((z5_numberOf_0 gp i 1).toInt64)))) 1 (((0 + ((fb 3) * ((z5_numberOf_0 gp i 0).toInt64))) + ((fb 4) * ((z5_numberOf_0 gp i 1).toInt64))) + ((fb 5) * ((z5_numberOf_0 gp i 2).toInt64)))) 2 0) 2 (0 + ((fb 6) * ((z5_numberOf_0 gp i 0).toInt64)))) 2 ((0 + ((fb 6) * ((z5_numberOf_0 gp i 0).toInt64))) + ((fb 7) * ((z5_numberOf_0 gp i 1).toInt64)))) 2 (((0 + ((fb 6) * ((z5_numberOf_0 gp i 0).toInt64))) + ((fb 7) * ((z5_numberOf_0 gp i 1).toInt64))) + ((fb 8) * ((z5_numberOf_0 gp i 2).toInt64)))), kJ h cJ 9 fb, kA mP cI 180 gp, kA mL cI 180 gl] := hD
  refine lv_iinc (v := 3) (lv' := [(6, .int 3), (5, .int 2), (0, .ref o), (1, .int 1), (2, .ref h), (3, .int 0), (4, .int i)]) hx hb dX5_keepTimes_56 hl (k := 0) rfl (by decide) (by decide) rfl (fun ls hl => ?_)
  refine lv_goto (tgt := 20) hx hb dX5_keepTimes_59 (by decide) ?_
  refine lv_iload hx hb dX5_keepTimes_20 (lv_at hl 0 rfl) ?_
  refine lv_iconst (v := 3) hx hb dX5_keepTimes_22 (by decide) ?_
  refine lv_icmp_ge (tgt := 62) hx hb dX5_keepTimes_23 (by decide) (fun _ => ?_) (fun h => absurd (by decide) h)
  refine lv_iinc (v := 3) (lv' := [(5, .int 3), (6, .int 3), (0, .ref o), (1, .int 1), (2, .ref h), (3, .int 0), (4, .int i)]) hx hb dX5_keepTimes_62 hl (k := 1) rfl (by decide) (by decide) rfl (fun ls hl => ?_)
  refine lv_goto (tgt := 3) hx hb dX5_keepTimes_65 (by decide) ?_
  refine lv_iload hx hb dX5_keepTimes_3 (lv_at hl 0 rfl) ?_
  refine lv_iconst (v := 3) hx hb dX5_keepTimes_5 (by decide) ?_
  refine lv_icmp_ge (tgt := 68) hx hb dX5_keepTimes_6 (by decide) (fun _ => ?_) (fun h => absurd (by decide) h)
  refine lv_aload_n hx hb dX5_keepTimes_68 rfl (lv_at hl 2 rfl) ?_
  refine lv_iload_n hx hb dX5_keepTimes_69 rfl (lv_at hl 3 rfl) ?_
  refine lv_ldc hx hb hown k_3 dX5_keepTimes_70 ?_
  have hPc := hP.sub (ws' := [kM o mP mL mC mN mF mR mD mV mX mA mK cm mT pm mU mH mI, kA mN cI 3 gm, kJ mF cJ 6 (vp_updL (vp_updL (vp_updL (vp_updL (vp_updL (vp_updL (vp_updL (vp_updL (vp_updL (vp_updL (vp_updL (vp_updL ff 0 0) 0 (0 + ((fb 0) * ((z5_numberOf_0 gp i 0).toInt64)))) 0 ((0 + ((fb 0) * ((z5_numberOf_0 gp i 0).toInt64))) + ((fb 1) * ((z5_numberOf_0 gp i 1).toInt64)))) 0 (((0 + ((fb 0) * ((z5_numberOf_0 gp i 0).toInt64))) + ((fb 1) * ((z5_numberOf_0 gp i 1).toInt64))) + ((fb 2) * ((z5_numberOf_0 gp i 2).toInt64)))) 1 0) 1 (0 + ((fb 3) * ((z5_numberOf_0 gp i 0).toInt64)))) 1 ((0 + ((fb 3) * ((z5_numberOf_0 gp i 0).toInt64))) + ((fb 4) * ((z5_numberOf_0 gp i 1).toInt64)))) 1 (((0 + ((fb 3) * ((z5_numberOf_0 gp i 0).toInt64))) + ((fb 4) * ((z5_numberOf_0 gp i 1).toInt64))) + ((fb 5) * ((z5_numberOf_0 gp i 2).toInt64)))) 2 0) 2 (0 + ((fb 6) * ((z5_numberOf_0 gp i 0).toInt64)))) 2 ((0 + ((fb 6) * ((z5_numberOf_0 gp i 0).toInt64))) + ((fb 7) * ((z5_numberOf_0 gp i 1).toInt64)))) 2 (((0 + ((fb 6) * ((z5_numberOf_0 gp i 0).toInt64))) + ((fb 7) * ((z5_numberOf_0 gp i 1).toInt64))) + ((fb 8) * ((z5_numberOf_0 gp i 2).toInt64)))), kA mL cI 180 gl]) [0, 1, 2, 5] rfl
  have hDc := hD.sub (ws' := [kM o mP mL mC mN mF mR mD mV mX mA mK cm mT pm mU mH mI, kA mN cI 3 gm, kJ mF cJ 6 (vp_updL (vp_updL (vp_updL (vp_updL (vp_updL (vp_updL (vp_updL (vp_updL (vp_updL (vp_updL (vp_updL (vp_updL ff 0 0) 0 (0 + ((fb 0) * ((z5_numberOf_0 gp i 0).toInt64)))) 0 ((0 + ((fb 0) * ((z5_numberOf_0 gp i 0).toInt64))) + ((fb 1) * ((z5_numberOf_0 gp i 1).toInt64)))) 0 (((0 + ((fb 0) * ((z5_numberOf_0 gp i 0).toInt64))) + ((fb 1) * ((z5_numberOf_0 gp i 1).toInt64))) + ((fb 2) * ((z5_numberOf_0 gp i 2).toInt64)))) 1 0) 1 (0 + ((fb 3) * ((z5_numberOf_0 gp i 0).toInt64)))) 1 ((0 + ((fb 3) * ((z5_numberOf_0 gp i 0).toInt64))) + ((fb 4) * ((z5_numberOf_0 gp i 1).toInt64)))) 1 (((0 + ((fb 3) * ((z5_numberOf_0 gp i 0).toInt64))) + ((fb 4) * ((z5_numberOf_0 gp i 1).toInt64))) + ((fb 5) * ((z5_numberOf_0 gp i 2).toInt64)))) 2 0) 2 (0 + ((fb 6) * ((z5_numberOf_0 gp i 0).toInt64)))) 2 ((0 + ((fb 6) * ((z5_numberOf_0 gp i 0).toInt64))) + ((fb 7) * ((z5_numberOf_0 gp i 1).toInt64)))) 2 (((0 + ((fb 6) * ((z5_numberOf_0 gp i 0).toInt64))) + ((fb 7) * ((z5_numberOf_0 gp i 1).toInt64))) + ((fb 8) * ((z5_numberOf_0 gp i 2).toInt64)))), kA mL cI 180 gl]) [0, 1, 2, 5] (by decide) rfl
  refine cl_i (wc := [kM o mP mL mC mN mF mR mD mV mX mA mK cm mT pm mU mH mI, kA mN cI 3 gm, kJ mF cJ 6 (vp_updL (vp_updL (vp_updL (vp_updL (vp_updL (vp_updL (vp_updL (vp_updL (vp_updL (vp_updL (vp_updL (vp_updL ff 0 0) 0 (0 + ((fb 0) * ((z5_numberOf_0 gp i 0).toInt64)))) 0 ((0 + ((fb 0) * ((z5_numberOf_0 gp i 0).toInt64))) + ((fb 1) * ((z5_numberOf_0 gp i 1).toInt64)))) 0 (((0 + ((fb 0) * ((z5_numberOf_0 gp i 0).toInt64))) + ((fb 1) * ((z5_numberOf_0 gp i 1).toInt64))) + ((fb 2) * ((z5_numberOf_0 gp i 2).toInt64)))) 1 0) 1 (0 + ((fb 3) * ((z5_numberOf_0 gp i 0).toInt64)))) 1 ((0 + ((fb 3) * ((z5_numberOf_0 gp i 0).toInt64))) + ((fb 4) * ((z5_numberOf_0 gp i 1).toInt64)))) 1 (((0 + ((fb 3) * ((z5_numberOf_0 gp i 0).toInt64))) + ((fb 4) * ((z5_numberOf_0 gp i 1).toInt64))) + ((fb 5) * ((z5_numberOf_0 gp i 2).toInt64)))) 2 0) 2 (0 + ((fb 6) * ((z5_numberOf_0 gp i 0).toInt64)))) 2 ((0 + ((fb 6) * ((z5_numberOf_0 gp i 0).toInt64))) + ((fb 7) * ((z5_numberOf_0 gp i 1).toInt64)))) 2 (((0 + ((fb 6) * ((z5_numberOf_0 gp i 0).toInt64))) + ((fb 7) * ((z5_numberOf_0 gp i 1).toInt64))) + ((fb 8) * ((z5_numberOf_0 gp i 2).toInt64)))), kA mL cI 180 gl]) (wr := [kJ h cJ 9 fb, kA mP cI 180 gp]) (w1 := fun uu : (Nat → Int64) => [kM o mP mL mC mN mF mR mD mV mX mA mK cm mT pm mU mH mI, kA mN cI 3 ((z5_keep_1 gm (vp_updL (vp_updL (vp_updL (vp_updL (vp_updL (vp_updL (vp_updL (vp_updL (vp_updL (vp_updL (vp_updL (vp_updL ff 0 0) 0 (0 + ((fb 0) * ((z5_numberOf_0 gp i 0).toInt64)))) 0 ((0 + ((fb 0) * ((z5_numberOf_0 gp i 0).toInt64))) + ((fb 1) * ((z5_numberOf_0 gp i 1).toInt64)))) 0 (((0 + ((fb 0) * ((z5_numberOf_0 gp i 0).toInt64))) + ((fb 1) * ((z5_numberOf_0 gp i 1).toInt64))) + ((fb 2) * ((z5_numberOf_0 gp i 2).toInt64)))) 1 0) 1 (0 + ((fb 3) * ((z5_numberOf_0 gp i 0).toInt64)))) 1 ((0 + ((fb 3) * ((z5_numberOf_0 gp i 0).toInt64))) + ((fb 4) * ((z5_numberOf_0 gp i 1).toInt64)))) 1 (((0 + ((fb 3) * ((z5_numberOf_0 gp i 0).toInt64))) + ((fb 4) * ((z5_numberOf_0 gp i 1).toInt64))) + ((fb 5) * ((z5_numberOf_0 gp i 2).toInt64)))) 2 0) 2 (0 + ((fb 6) * ((z5_numberOf_0 gp i 0).toInt64)))) 2 ((0 + ((fb 6) * ((z5_numberOf_0 gp i 0).toInt64))) + ((fb 7) * ((z5_numberOf_0 gp i 1).toInt64)))) 2 (((0 + ((fb 6) * ((z5_numberOf_0 gp i 0).toInt64))) + ((fb 7) * ((z5_numberOf_0 gp i 1).toInt64))) + ((fb 8) * ((z5_numberOf_0 gp i 2).toInt64)))) gl (-1000004)).2.1), kJ mF cJ 6 uu, kA mL cI 180 ((z5_keep_1 gm (vp_updL (vp_updL (vp_updL (vp_updL (vp_updL (vp_updL (vp_updL (vp_updL (vp_updL (vp_updL (vp_updL (vp_updL ff 0 0) 0 (0 + ((fb 0) * ((z5_numberOf_0 gp i 0).toInt64)))) 0 ((0 + ((fb 0) * ((z5_numberOf_0 gp i 0).toInt64))) + ((fb 1) * ((z5_numberOf_0 gp i 1).toInt64)))) 0 (((0 + ((fb 0) * ((z5_numberOf_0 gp i 0).toInt64))) + ((fb 1) * ((z5_numberOf_0 gp i 1).toInt64))) + ((fb 2) * ((z5_numberOf_0 gp i 2).toInt64)))) 1 0) 1 (0 + ((fb 3) * ((z5_numberOf_0 gp i 0).toInt64)))) 1 ((0 + ((fb 3) * ((z5_numberOf_0 gp i 0).toInt64))) + ((fb 4) * ((z5_numberOf_0 gp i 1).toInt64)))) 1 (((0 + ((fb 3) * ((z5_numberOf_0 gp i 0).toInt64))) + ((fb 4) * ((z5_numberOf_0 gp i 1).toInt64))) + ((fb 5) * ((z5_numberOf_0 gp i 2).toInt64)))) 2 0) 2 (0 + ((fb 6) * ((z5_numberOf_0 gp i 0).toInt64)))) 2 ((0 + ((fb 6) * ((z5_numberOf_0 gp i 0).toInt64))) + ((fb 7) * ((z5_numberOf_0 gp i 1).toInt64)))) 2 (((0 + ((fb 6) * ((z5_numberOf_0 gp i 0).toInt64))) + ((fb 7) * ((z5_numberOf_0 gp i 1).toInt64))) + ((fb 8) * ((z5_numberOf_0 gp i 2).toInt64)))) gl (-1000004)).2.2)]) (wn := fun uu : (Nat → Int64) => [kM o mP mL mC mN mF mR mD mV mX mA mK cm mT pm mU mH mI, kA mN cI 3 ((z5_keep_1 gm (vp_updL (vp_updL (vp_updL (vp_updL (vp_updL (vp_updL (vp_updL (vp_updL (vp_updL (vp_updL (vp_updL (vp_updL ff 0 0) 0 (0 + ((fb 0) * ((z5_numberOf_0 gp i 0).toInt64)))) 0 ((0 + ((fb 0) * ((z5_numberOf_0 gp i 0).toInt64))) + ((fb 1) * ((z5_numberOf_0 gp i 1).toInt64)))) 0 (((0 + ((fb 0) * ((z5_numberOf_0 gp i 0).toInt64))) + ((fb 1) * ((z5_numberOf_0 gp i 1).toInt64))) + ((fb 2) * ((z5_numberOf_0 gp i 2).toInt64)))) 1 0) 1 (0 + ((fb 3) * ((z5_numberOf_0 gp i 0).toInt64)))) 1 ((0 + ((fb 3) * ((z5_numberOf_0 gp i 0).toInt64))) + ((fb 4) * ((z5_numberOf_0 gp i 1).toInt64)))) 1 (((0 + ((fb 3) * ((z5_numberOf_0 gp i 0).toInt64))) + ((fb 4) * ((z5_numberOf_0 gp i 1).toInt64))) + ((fb 5) * ((z5_numberOf_0 gp i 2).toInt64)))) 2 0) 2 (0 + ((fb 6) * ((z5_numberOf_0 gp i 0).toInt64)))) 2 ((0 + ((fb 6) * ((z5_numberOf_0 gp i 0).toInt64))) + ((fb 7) * ((z5_numberOf_0 gp i 1).toInt64)))) 2 (((0 + ((fb 6) * ((z5_numberOf_0 gp i 0).toInt64))) + ((fb 7) * ((z5_numberOf_0 gp i 1).toInt64))) + ((fb 8) * ((z5_numberOf_0 gp i 2).toInt64)))) gl (-1000004)).2.1), kJ mF cJ 6 uu, kJ h cJ 9 fb, kA mP cI 180 gp, kA mL cI 180 ((z5_keep_1 gm (vp_updL (vp_updL (vp_updL (vp_updL (vp_updL (vp_updL (vp_updL (vp_updL (vp_updL (vp_updL (vp_updL (vp_updL ff 0 0) 0 (0 + ((fb 0) * ((z5_numberOf_0 gp i 0).toInt64)))) 0 ((0 + ((fb 0) * ((z5_numberOf_0 gp i 0).toInt64))) + ((fb 1) * ((z5_numberOf_0 gp i 1).toInt64)))) 0 (((0 + ((fb 0) * ((z5_numberOf_0 gp i 0).toInt64))) + ((fb 1) * ((z5_numberOf_0 gp i 1).toInt64))) + ((fb 2) * ((z5_numberOf_0 gp i 2).toInt64)))) 1 0) 1 (0 + ((fb 3) * ((z5_numberOf_0 gp i 0).toInt64)))) 1 ((0 + ((fb 3) * ((z5_numberOf_0 gp i 0).toInt64))) + ((fb 4) * ((z5_numberOf_0 gp i 1).toInt64)))) 1 (((0 + ((fb 3) * ((z5_numberOf_0 gp i 0).toInt64))) + ((fb 4) * ((z5_numberOf_0 gp i 1).toInt64))) + ((fb 5) * ((z5_numberOf_0 gp i 2).toInt64)))) 2 0) 2 (0 + ((fb 6) * ((z5_numberOf_0 gp i 0).toInt64)))) 2 ((0 + ((fb 6) * ((z5_numberOf_0 gp i 0).toInt64))) + ((fb 7) * ((z5_numberOf_0 gp i 1).toInt64)))) 2 (((0 + ((fb 6) * ((z5_numberOf_0 gp i 0).toInt64))) + ((fb 7) * ((z5_numberOf_0 gp i 1).toInt64))) + ((fb 8) * ((z5_numberOf_0 gp i 2).toInt64)))) gl (-1000004)).2.2)]) (va_runV (As := [.int 1, .int (-1000004)]) (rest := []) ⟨hx, hb, hml, hown, hts⟩ (c_X5_keep_1 l D cI cJ o mP mL mC mN mF mR mD mV mX mA mK mT mU mH mI cm pm gm (vp_updL (vp_updL (vp_updL (vp_updL (vp_updL (vp_updL (vp_updL (vp_updL (vp_updL (vp_updL (vp_updL (vp_updL ff 0 0) 0 (0 + ((fb 0) * ((z5_numberOf_0 gp i 0).toInt64)))) 0 ((0 + ((fb 0) * ((z5_numberOf_0 gp i 0).toInt64))) + ((fb 1) * ((z5_numberOf_0 gp i 1).toInt64)))) 0 (((0 + ((fb 0) * ((z5_numberOf_0 gp i 0).toInt64))) + ((fb 1) * ((z5_numberOf_0 gp i 1).toInt64))) + ((fb 2) * ((z5_numberOf_0 gp i 2).toInt64)))) 1 0) 1 (0 + ((fb 3) * ((z5_numberOf_0 gp i 0).toInt64)))) 1 ((0 + ((fb 3) * ((z5_numberOf_0 gp i 0).toInt64))) + ((fb 4) * ((z5_numberOf_0 gp i 1).toInt64)))) 1 (((0 + ((fb 3) * ((z5_numberOf_0 gp i 0).toInt64))) + ((fb 4) * ((z5_numberOf_0 gp i 1).toInt64))) + ((fb 5) * ((z5_numberOf_0 gp i 2).toInt64)))) 2 0) 2 (0 + ((fb 6) * ((z5_numberOf_0 gp i 0).toInt64)))) 2 ((0 + ((fb 6) * ((z5_numberOf_0 gp i 0).toInt64))) + ((fb 7) * ((z5_numberOf_0 gp i 1).toInt64)))) 2 (((0 + ((fb 6) * ((z5_numberOf_0 gp i 0).toInt64))) + ((fb 7) * ((z5_numberOf_0 gp i 1).toInt64))) + ((fb 8) * ((z5_numberOf_0 gp i 2).toInt64)))) gl (-1000004) hm1 _) (cwV 2 hts gX5_keepTimes_X5_keep rfl rfl rfl (by decide +kernel) ⟨Nat.le_of_ble_eq_true rfl, Nat.le_of_ble_eq_true rfl⟩) ⟨gd_blP, va_recv hK.1 hPc (ci := 5) (q0 := 0) rfl rfl, gd_prP hPc hK hDc⟩ rfl rfl hl.1 rfl (lv_room (Nat.le_of_ble_eq_true rfl)) dX5_keepTimes_72 ⟨Nat.zero_le _, Nat.zero_le _⟩) hP hD hS hA [0, 1, 2, 5] [3, 4] rfl rfl (by decide) (by decide) [2, 3, 4, 0, 1, 5] (by decide) (fun _ => rfl) (fun r_72 uG H locs hw hP hD hS => ?_)
  obtain ⟨y_72_0_1, rfl⟩ : ∃ z, z = uG := ⟨_, rfl⟩
  have hP : va_P D vwCl [kM o mP mL mC mN mF mR mD mV mX mA mK cm mT pm mU mH mI, kA mN cI 3 ((z5_keep_1 gm (vp_updL (vp_updL (vp_updL (vp_updL (vp_updL (vp_updL (vp_updL (vp_updL (vp_updL (vp_updL (vp_updL (vp_updL ff 0 0) 0 (0 + ((fb 0) * ((z5_numberOf_0 gp i 0).toInt64)))) 0 ((0 + ((fb 0) * ((z5_numberOf_0 gp i 0).toInt64))) + ((fb 1) * ((z5_numberOf_0 gp i 1).toInt64)))) 0 (((0 + ((fb 0) * ((z5_numberOf_0 gp i 0).toInt64))) + ((fb 1) * ((z5_numberOf_0 gp i 1).toInt64))) + ((fb 2) * ((z5_numberOf_0 gp i 2).toInt64)))) 1 0) 1 (0 + ((fb 3) * ((z5_numberOf_0 gp i 0).toInt64)))) 1 ((0 + ((fb 3) * ((z5_numberOf_0 gp i 0).toInt64))) + ((fb 4) * ((z5_numberOf_0 gp i 1).toInt64)))) 1 (((0 + ((fb 3) * ((z5_numberOf_0 gp i 0).toInt64))) + ((fb 4) * ((z5_numberOf_0 gp i 1).toInt64))) + ((fb 5) * ((z5_numberOf_0 gp i 2).toInt64)))) 2 0) 2 (0 + ((fb 6) * ((z5_numberOf_0 gp i 0).toInt64)))) 2 ((0 + ((fb 6) * ((z5_numberOf_0 gp i 0).toInt64))) + ((fb 7) * ((z5_numberOf_0 gp i 1).toInt64)))) 2 (((0 + ((fb 6) * ((z5_numberOf_0 gp i 0).toInt64))) + ((fb 7) * ((z5_numberOf_0 gp i 1).toInt64))) + ((fb 8) * ((z5_numberOf_0 gp i 2).toInt64)))) gl (-1000004)).2.1), kJ mF cJ 6 y_72_0_1, kJ h cJ 9 fb, kA mP cI 180 gp, kA mL cI 180 ((z5_keep_1 gm (vp_updL (vp_updL (vp_updL (vp_updL (vp_updL (vp_updL (vp_updL (vp_updL (vp_updL (vp_updL (vp_updL (vp_updL ff 0 0) 0 (0 + ((fb 0) * ((z5_numberOf_0 gp i 0).toInt64)))) 0 ((0 + ((fb 0) * ((z5_numberOf_0 gp i 0).toInt64))) + ((fb 1) * ((z5_numberOf_0 gp i 1).toInt64)))) 0 (((0 + ((fb 0) * ((z5_numberOf_0 gp i 0).toInt64))) + ((fb 1) * ((z5_numberOf_0 gp i 1).toInt64))) + ((fb 2) * ((z5_numberOf_0 gp i 2).toInt64)))) 1 0) 1 (0 + ((fb 3) * ((z5_numberOf_0 gp i 0).toInt64)))) 1 ((0 + ((fb 3) * ((z5_numberOf_0 gp i 0).toInt64))) + ((fb 4) * ((z5_numberOf_0 gp i 1).toInt64)))) 1 (((0 + ((fb 3) * ((z5_numberOf_0 gp i 0).toInt64))) + ((fb 4) * ((z5_numberOf_0 gp i 1).toInt64))) + ((fb 5) * ((z5_numberOf_0 gp i 2).toInt64)))) 2 0) 2 (0 + ((fb 6) * ((z5_numberOf_0 gp i 0).toInt64)))) 2 ((0 + ((fb 6) * ((z5_numberOf_0 gp i 0).toInt64))) + ((fb 7) * ((z5_numberOf_0 gp i 1).toInt64)))) 2 (((0 + ((fb 6) * ((z5_numberOf_0 gp i 0).toInt64))) + ((fb 7) * ((z5_numberOf_0 gp i 1).toInt64))) + ((fb 8) * ((z5_numberOf_0 gp i 2).toInt64)))) gl (-1000004)).2.2)] H := hP
  have hD : va_D A [kM o mP mL mC mN mF mR mD mV mX mA mK cm mT pm mU mH mI, kA mN cI 3 ((z5_keep_1 gm (vp_updL (vp_updL (vp_updL (vp_updL (vp_updL (vp_updL (vp_updL (vp_updL (vp_updL (vp_updL (vp_updL (vp_updL ff 0 0) 0 (0 + ((fb 0) * ((z5_numberOf_0 gp i 0).toInt64)))) 0 ((0 + ((fb 0) * ((z5_numberOf_0 gp i 0).toInt64))) + ((fb 1) * ((z5_numberOf_0 gp i 1).toInt64)))) 0 (((0 + ((fb 0) * ((z5_numberOf_0 gp i 0).toInt64))) + ((fb 1) * ((z5_numberOf_0 gp i 1).toInt64))) + ((fb 2) * ((z5_numberOf_0 gp i 2).toInt64)))) 1 0) 1 (0 + ((fb 3) * ((z5_numberOf_0 gp i 0).toInt64)))) 1 ((0 + ((fb 3) * ((z5_numberOf_0 gp i 0).toInt64))) + ((fb 4) * ((z5_numberOf_0 gp i 1).toInt64)))) 1 (((0 + ((fb 3) * ((z5_numberOf_0 gp i 0).toInt64))) + ((fb 4) * ((z5_numberOf_0 gp i 1).toInt64))) + ((fb 5) * ((z5_numberOf_0 gp i 2).toInt64)))) 2 0) 2 (0 + ((fb 6) * ((z5_numberOf_0 gp i 0).toInt64)))) 2 ((0 + ((fb 6) * ((z5_numberOf_0 gp i 0).toInt64))) + ((fb 7) * ((z5_numberOf_0 gp i 1).toInt64)))) 2 (((0 + ((fb 6) * ((z5_numberOf_0 gp i 0).toInt64))) + ((fb 7) * ((z5_numberOf_0 gp i 1).toInt64))) + ((fb 8) * ((z5_numberOf_0 gp i 2).toInt64)))) gl (-1000004)).2.1), kJ mF cJ 6 y_72_0_1, kJ h cJ 9 fb, kA mP cI 180 gp, kA mL cI 180 ((z5_keep_1 gm (vp_updL (vp_updL (vp_updL (vp_updL (vp_updL (vp_updL (vp_updL (vp_updL (vp_updL (vp_updL (vp_updL (vp_updL ff 0 0) 0 (0 + ((fb 0) * ((z5_numberOf_0 gp i 0).toInt64)))) 0 ((0 + ((fb 0) * ((z5_numberOf_0 gp i 0).toInt64))) + ((fb 1) * ((z5_numberOf_0 gp i 1).toInt64)))) 0 (((0 + ((fb 0) * ((z5_numberOf_0 gp i 0).toInt64))) + ((fb 1) * ((z5_numberOf_0 gp i 1).toInt64))) + ((fb 2) * ((z5_numberOf_0 gp i 2).toInt64)))) 1 0) 1 (0 + ((fb 3) * ((z5_numberOf_0 gp i 0).toInt64)))) 1 ((0 + ((fb 3) * ((z5_numberOf_0 gp i 0).toInt64))) + ((fb 4) * ((z5_numberOf_0 gp i 1).toInt64)))) 1 (((0 + ((fb 3) * ((z5_numberOf_0 gp i 0).toInt64))) + ((fb 4) * ((z5_numberOf_0 gp i 1).toInt64))) + ((fb 5) * ((z5_numberOf_0 gp i 2).toInt64)))) 2 0) 2 (0 + ((fb 6) * ((z5_numberOf_0 gp i 0).toInt64)))) 2 ((0 + ((fb 6) * ((z5_numberOf_0 gp i 0).toInt64))) + ((fb 7) * ((z5_numberOf_0 gp i 1).toInt64)))) 2 (((0 + ((fb 6) * ((z5_numberOf_0 gp i 0).toInt64))) + ((fb 7) * ((z5_numberOf_0 gp i 1).toInt64))) + ((fb 8) * ((z5_numberOf_0 gp i 2).toInt64)))) gl (-1000004)).2.2)] := hD
  have ea_0 : (z5_keep_1 gm (vp_updL (vp_updL (vp_updL (vp_updL (vp_updL (vp_updL (vp_updL (vp_updL (vp_updL (vp_updL (vp_updL (vp_updL ff 0 0) 0 (0 + ((fb 0) * ((z5_numberOf_0 gp i 0).toInt64)))) 0 ((0 + ((fb 0) * ((z5_numberOf_0 gp i 0).toInt64))) + ((fb 1) * ((z5_numberOf_0 gp i 1).toInt64)))) 0 (((0 + ((fb 0) * ((z5_numberOf_0 gp i 0).toInt64))) + ((fb 1) * ((z5_numberOf_0 gp i 1).toInt64))) + ((fb 2) * ((z5_numberOf_0 gp i 2).toInt64)))) 1 0) 1 (0 + ((fb 3) * ((z5_numberOf_0 gp i 0).toInt64)))) 1 ((0 + ((fb 3) * ((z5_numberOf_0 gp i 0).toInt64))) + ((fb 4) * ((z5_numberOf_0 gp i 1).toInt64)))) 1 (((0 + ((fb 3) * ((z5_numberOf_0 gp i 0).toInt64))) + ((fb 4) * ((z5_numberOf_0 gp i 1).toInt64))) + ((fb 5) * ((z5_numberOf_0 gp i 2).toInt64)))) 2 0) 2 (0 + ((fb 6) * ((z5_numberOf_0 gp i 0).toInt64)))) 2 ((0 + ((fb 6) * ((z5_numberOf_0 gp i 0).toInt64))) + ((fb 7) * ((z5_numberOf_0 gp i 1).toInt64)))) 2 (((0 + ((fb 6) * ((z5_numberOf_0 gp i 0).toInt64))) + ((fb 7) * ((z5_numberOf_0 gp i 1).toInt64))) + ((fb 8) * ((z5_numberOf_0 gp i 2).toInt64)))) gl (-1000004)).2.1 = z5_keepTimes_1_v1 gm ff fb gp gl i := by delta z5_keepTimes_1_v1; rfl
  have ea_1 : (z5_keep_1 gm (vp_updL (vp_updL (vp_updL (vp_updL (vp_updL (vp_updL (vp_updL (vp_updL (vp_updL (vp_updL (vp_updL (vp_updL ff 0 0) 0 (0 + ((fb 0) * ((z5_numberOf_0 gp i 0).toInt64)))) 0 ((0 + ((fb 0) * ((z5_numberOf_0 gp i 0).toInt64))) + ((fb 1) * ((z5_numberOf_0 gp i 1).toInt64)))) 0 (((0 + ((fb 0) * ((z5_numberOf_0 gp i 0).toInt64))) + ((fb 1) * ((z5_numberOf_0 gp i 1).toInt64))) + ((fb 2) * ((z5_numberOf_0 gp i 2).toInt64)))) 1 0) 1 (0 + ((fb 3) * ((z5_numberOf_0 gp i 0).toInt64)))) 1 ((0 + ((fb 3) * ((z5_numberOf_0 gp i 0).toInt64))) + ((fb 4) * ((z5_numberOf_0 gp i 1).toInt64)))) 1 (((0 + ((fb 3) * ((z5_numberOf_0 gp i 0).toInt64))) + ((fb 4) * ((z5_numberOf_0 gp i 1).toInt64))) + ((fb 5) * ((z5_numberOf_0 gp i 2).toInt64)))) 2 0) 2 (0 + ((fb 6) * ((z5_numberOf_0 gp i 0).toInt64)))) 2 ((0 + ((fb 6) * ((z5_numberOf_0 gp i 0).toInt64))) + ((fb 7) * ((z5_numberOf_0 gp i 1).toInt64)))) 2 (((0 + ((fb 6) * ((z5_numberOf_0 gp i 0).toInt64))) + ((fb 7) * ((z5_numberOf_0 gp i 1).toInt64))) + ((fb 8) * ((z5_numberOf_0 gp i 2).toInt64)))) gl (-1000004)).2.2 = z5_keepTimes_1_v2 gm ff fb gp gl i := by delta z5_keepTimes_1_v2; rfl
  rw [ea_0, ea_1] at hP hD
  clear ea_0 ea_1
  subst hw
  refine lv_eqi (v := z5_keepTimes_1_v3 gm ff fb gp gl i) (by delta z5_keepTimes_1_v3; rfl) ?_
  clear hPc hDc
  have he_1 : z5_keepTimes_1_f1 gm ff fb gp gl i = z5_keepTimes_1_v1 gm ff fb gp gl i := by delta z5_keepTimes_1_f1; rfl
  have he_2 : z5_keepTimes_1_f5 gm ff fb gp gl i = z5_keepTimes_1_v2 gm ff fb gp gl i := by delta z5_keepTimes_1_f5; rfl
  exact rt_i (w1 := fun uu : (Nat → Int64) => [kM o mP mL mC mN mF mR mD mV mX mA mK cm mT pm mU mH mI, kA mN cI 3 (z5_keepTimes_1_f1 gm ff fb gp gl i), kJ mF cJ 6 uu, kJ h cJ 9 fb, kA mP cI 180 gp, kA mL cI 180 (z5_keepTimes_1_f5 gm ff fb gp gl i)]) hx hb hr hlk hS dX5_keepTimes_75 (y_72_0_1) rfl (by (try dsimp only); rw [he_1, he_2]; exact hP) (by (try dsimp only); rw [he_1, he_2]; exact hD)
def z5_keepTimes_0_v1 (gm : Nat → Int32) (ff : Nat → Int64) (fb : Nat → Int64) (gp : Nat → Int32) (gl : Nat → Int32) (i : Int32) : Nat → Int32 := (z5_keep_0 gm (vp_updL (vp_updL (vp_updL (vp_updL (vp_updL (vp_updL (vp_updL (vp_updL (vp_updL (vp_updL (vp_updL (vp_updL ff 0 0) 0 (0 + ((fb 0) * ((z5_numberOf_1 gl i 0).toInt64)))) 0 ((0 + ((fb 0) * ((z5_numberOf_1 gl i 0).toInt64))) + ((fb 1) * ((z5_numberOf_1 gl i 1).toInt64)))) 0 (((0 + ((fb 0) * ((z5_numberOf_1 gl i 0).toInt64))) + ((fb 1) * ((z5_numberOf_1 gl i 1).toInt64))) + ((fb 2) * ((z5_numberOf_1 gl i 2).toInt64)))) 1 0) 1 (0 + ((fb 3) * ((z5_numberOf_1 gl i 0).toInt64)))) 1 ((0 + ((fb 3) * ((z5_numberOf_1 gl i 0).toInt64))) + ((fb 4) * ((z5_numberOf_1 gl i 1).toInt64)))) 1 (((0 + ((fb 3) * ((z5_numberOf_1 gl i 0).toInt64))) + ((fb 4) * ((z5_numberOf_1 gl i 1).toInt64))) + ((fb 5) * ((z5_numberOf_1 gl i 2).toInt64)))) 2 0) 2 (0 + ((fb 6) * ((z5_numberOf_1 gl i 0).toInt64)))) 2 ((0 + ((fb 6) * ((z5_numberOf_1 gl i 0).toInt64))) + ((fb 7) * ((z5_numberOf_1 gl i 1).toInt64)))) 2 (((0 + ((fb 6) * ((z5_numberOf_1 gl i 0).toInt64))) + ((fb 7) * ((z5_numberOf_1 gl i 1).toInt64))) + ((fb 8) * ((z5_numberOf_1 gl i 2).toInt64)))) gp (-1000004)).2.1
def z5_keepTimes_0_v2 (gm : Nat → Int32) (ff : Nat → Int64) (fb : Nat → Int64) (gp : Nat → Int32) (gl : Nat → Int32) (i : Int32) : Nat → Int32 := (z5_keep_0 gm (vp_updL (vp_updL (vp_updL (vp_updL (vp_updL (vp_updL (vp_updL (vp_updL (vp_updL (vp_updL (vp_updL (vp_updL ff 0 0) 0 (0 + ((fb 0) * ((z5_numberOf_1 gl i 0).toInt64)))) 0 ((0 + ((fb 0) * ((z5_numberOf_1 gl i 0).toInt64))) + ((fb 1) * ((z5_numberOf_1 gl i 1).toInt64)))) 0 (((0 + ((fb 0) * ((z5_numberOf_1 gl i 0).toInt64))) + ((fb 1) * ((z5_numberOf_1 gl i 1).toInt64))) + ((fb 2) * ((z5_numberOf_1 gl i 2).toInt64)))) 1 0) 1 (0 + ((fb 3) * ((z5_numberOf_1 gl i 0).toInt64)))) 1 ((0 + ((fb 3) * ((z5_numberOf_1 gl i 0).toInt64))) + ((fb 4) * ((z5_numberOf_1 gl i 1).toInt64)))) 1 (((0 + ((fb 3) * ((z5_numberOf_1 gl i 0).toInt64))) + ((fb 4) * ((z5_numberOf_1 gl i 1).toInt64))) + ((fb 5) * ((z5_numberOf_1 gl i 2).toInt64)))) 2 0) 2 (0 + ((fb 6) * ((z5_numberOf_1 gl i 0).toInt64)))) 2 ((0 + ((fb 6) * ((z5_numberOf_1 gl i 0).toInt64))) + ((fb 7) * ((z5_numberOf_1 gl i 1).toInt64)))) 2 (((0 + ((fb 6) * ((z5_numberOf_1 gl i 0).toInt64))) + ((fb 7) * ((z5_numberOf_1 gl i 1).toInt64))) + ((fb 8) * ((z5_numberOf_1 gl i 2).toInt64)))) gp (-1000004)).2.2
def z5_keepTimes_0_v3 (gm : Nat → Int32) (ff : Nat → Int64) (fb : Nat → Int64) (gp : Nat → Int32) (gl : Nat → Int32) (i : Int32) : Int32 := (z5_keep_0 gm (vp_updL (vp_updL (vp_updL (vp_updL (vp_updL (vp_updL (vp_updL (vp_updL (vp_updL (vp_updL (vp_updL (vp_updL ff 0 0) 0 (0 + ((fb 0) * ((z5_numberOf_1 gl i 0).toInt64)))) 0 ((0 + ((fb 0) * ((z5_numberOf_1 gl i 0).toInt64))) + ((fb 1) * ((z5_numberOf_1 gl i 1).toInt64)))) 0 (((0 + ((fb 0) * ((z5_numberOf_1 gl i 0).toInt64))) + ((fb 1) * ((z5_numberOf_1 gl i 1).toInt64))) + ((fb 2) * ((z5_numberOf_1 gl i 2).toInt64)))) 1 0) 1 (0 + ((fb 3) * ((z5_numberOf_1 gl i 0).toInt64)))) 1 ((0 + ((fb 3) * ((z5_numberOf_1 gl i 0).toInt64))) + ((fb 4) * ((z5_numberOf_1 gl i 1).toInt64)))) 1 (((0 + ((fb 3) * ((z5_numberOf_1 gl i 0).toInt64))) + ((fb 4) * ((z5_numberOf_1 gl i 1).toInt64))) + ((fb 5) * ((z5_numberOf_1 gl i 2).toInt64)))) 2 0) 2 (0 + ((fb 6) * ((z5_numberOf_1 gl i 0).toInt64)))) 2 ((0 + ((fb 6) * ((z5_numberOf_1 gl i 0).toInt64))) + ((fb 7) * ((z5_numberOf_1 gl i 1).toInt64)))) 2 (((0 + ((fb 6) * ((z5_numberOf_1 gl i 0).toInt64))) + ((fb 7) * ((z5_numberOf_1 gl i 1).toInt64))) + ((fb 8) * ((z5_numberOf_1 gl i 2).toInt64)))) gp (-1000004)).1
def z5_keepTimes_0 (gm : Nat → Int32) (ff : Nat → Int64) (fb : Nat → Int64) (gp : Nat → Int32) (gl : Nat → Int32) (i : Int32) : Int32 := z5_keepTimes_0_v3 gm ff fb gp gl i
def z5_keepTimes_0_f1 (gm : Nat → Int32) (ff : Nat → Int64) (fb : Nat → Int64) (gp : Nat → Int32) (gl : Nat → Int32) (i : Int32) : Nat → Int32 := z5_keepTimes_0_v1 gm ff fb gp gl i
def z5_keepTimes_0_f4 (gm : Nat → Int32) (ff : Nat → Int64) (fb : Nat → Int64) (gp : Nat → Int32) (gl : Nat → Int32) (i : Int32) : Nat → Int32 := z5_keepTimes_0_v2 gm ff fb gp gl i
set_option maxHeartbeats 4000000 in
set_option maxRecDepth 100000 in
/-- X5.keepTimes -/
theorem c_X5_keepTimes_0 (l : Launch) (D : va_G) (cI cJ : ClassId) (o : Nat) (mP : Nat) (mL : Nat) (mC : Nat) (mN : Nat) (mF : Nat) (mR : Nat) (mD : Nat) (mV : Nat) (mX : Nat) (mA : Nat) (mK : Nat) (mT : Nat) (mU : Nat) (mH : Nat) (mI : Nat) (cm : Int32) (pm : Int32) (h : Nat) (gm : Nat → Int32) (ff : Nat → Int64) (fb : Nat → Int64) (gp : Nat → Int32) (gl : Nat → Int32) (i : Int32) (hm0 : n_ok (gm 0)) (hi : ok_i i) : mw_C l yX5_keepTimes wsX5_keepTimes ({ frames := 3, cells := 0, slots := 0, locals := 80 }) D cI cJ [.ref o, .int 0, .ref h, .int 1, .int i] [kM o mP mL mC mN mF mR mD mV mX mA mK cm mT pm mU mH mI, kA mN cI 3 gm, kJ mF cJ 6 ff, kJ h cJ 9 fb, kA mP cI 180 gp, kA mL cI 180 gl] (qe_i (fun (r : Int32) (_ : (Nat → Int64)) => r = z5_keepTimes_0 gm ff fb gp gl i) (fun uu => [kM o mP mL mC mN mF mR mD mV mX mA mK cm mT pm mU mH mI, kA mN cI 3 (z5_keepTimes_0_f1 gm ff fb gp gl i), kJ mF cJ 6 uu, kJ h cJ 9 fb, kA mP cI 180 (z5_keepTimes_0_f4 gm ff fb gp gl i), kA mL cI 180 gl])) := by
  refine mw_in (cc := cX5_keepTimes) (lv := [(0, .ref o), (1, .int 0), (2, .ref h), (3, .int 1), (4, .int i)]) (by decide) rfl (Nat.le_of_ble_eq_true rfl) rfl ?_
  intro pG eG sG mG below meth cG ls A hx hb hr hml hown hts hlk hin hP hK hD hA hS hl
  have hown : sG.vm.findClass RX5 = some mG.cls := hown
  have k_1 := hts (.fieldLink RX5 22 "ConicRowsModel" "fresh" "[J") (by decide +kernel)
  have k_2 : ∀ w ∈ wsX50, w ∈ wsX5_keepTimes := by decide +kernel
  have k_3 := hts (.constant RX5 106 (-1000004)) (by decide +kernel)
  refine lv_iconst (v := 0) hx hb dX5_keepTimes_0 (by decide) ?_
  refine lv_istore (lv' := [(5, .int 0), (0, .ref o), (1, .int 0), (2, .ref h), (3, .int 1), (4, .int i)]) hx hb dX5_keepTimes_1 hl (by decide) rfl (fun ls hl => ?_)
  refine lv_iload hx hb dX5_keepTimes_3 (lv_at hl 0 rfl) ?_
  refine lv_iconst (v := 3) hx hb dX5_keepTimes_5 (by decide) ?_
  refine lv_icmp_ge (tgt := 68) hx hb dX5_keepTimes_6 (by decide) (fun h => absurd h (by decide)) (fun _ => ?_)
  refine lv_aload_n hx hb dX5_keepTimes_9 rfl (lv_at hl 1 rfl) ?_
  refine va_get (D := D) (ci := 5) (v := .ref mF) (C := RX5) (T := TX5) (N := 17) hx hb hts k_2 hown hK.1 hP 0 rfl rfl 4 (by decide) k_1 (fun _ h9 => h9) rfl dX5_keepTimes_10 ?_
  refine lv_iload hx hb dX5_keepTimes_13 (lv_at hl 0 rfl) ?_
  refine lv_lconst (v := 0) hx hb dX5_keepTimes_15 (by decide) ?_
  refine st_l hx hb hK.1 hP hD hS 2 1 rfl rfl (ix_lit (by decide)) 0 (by decide) dX5_keepTimes_16 (fun H locs hP hD hS => ?_)
  have hP : va_P D vwCl [kM o mP mL mC mN mF mR mD mV mX mA mK cm mT pm mU mH mI, kA mN cI 3 gm, kJ mF cJ 6 (vp_updL ff 0 0), kJ h cJ 9 fb, kA mP cI 180 gp, kA mL cI 180 gl] H := hP
  have hD : va_D A [kM o mP mL mC mN mF mR mD mV mX mA mK cm mT pm mU mH mI, kA mN cI 3 gm, kJ mF cJ 6 (vp_updL ff 0 0), kJ h cJ 9 fb, kA mP cI 180 gp, kA mL cI 180 gl] := hD
  refine lv_iconst (v := 0) hx hb dX5_keepTimes_17 (by decide) ?_
  refine lv_istore (lv' := [(6, .int 0), (5, .int 0), (0, .ref o), (1, .int 0), (2, .ref h), (3, .int 1), (4, .int i)]) hx hb dX5_keepTimes_18 hl (by decide) rfl (fun ls hl => ?_)
  refine lv_iload hx hb dX5_keepTimes_20 (lv_at hl 0 rfl) ?_
  refine lv_iconst (v := 3) hx hb dX5_keepTimes_22 (by decide) ?_
  refine lv_icmp_ge (tgt := 62) hx hb dX5_keepTimes_23 (by decide) (fun h => absurd h (by decide)) (fun _ => ?_)
  refine lv_aload_n hx hb dX5_keepTimes_26 rfl (lv_at hl 2 rfl) ?_
  refine va_get (D := D) (ci := 5) (v := .ref mF) (C := RX5) (T := TX5) (N := 17) hx hb hts k_2 hown hK.1 hP 0 rfl rfl 4 (by decide) k_1 (fun _ h9 => h9) rfl dX5_keepTimes_27 ?_
  refine lv_iload hx hb dX5_keepTimes_30 (lv_at hl 1 rfl) ?_
  refine lv_dup2_11 hx hb dX5_keepTimes_32 rfl rfl ?_
  refine ld_l hx hb hK.1 hP 2 1 rfl rfl (ix_lit (by decide)) 0 (by decide) (v := 0) rfl dX5_keepTimes_33 ?_
  refine lv_aload_n hx hb dX5_keepTimes_34 rfl (lv_at hl 4 rfl) ?_
  refine lv_iconst (v := 3) hx hb dX5_keepTimes_35 (by decide) ?_
  refine lv_iload hx hb dX5_keepTimes_36 (lv_at hl 1 rfl) ?_
  refine lv_imul hx hb dX5_keepTimes_38 ?_
  refine lv_eqi (v := 0) (by decide) ?_
  refine lv_iload hx hb dX5_keepTimes_39 (lv_at hl 0 rfl) ?_
  refine lv_iadd hx hb dX5_keepTimes_41 ?_
  refine lv_eqi (v := 0) (by decide) ?_
  refine ld_l hx hb hK.1 hP 3 1 rfl rfl (ix_lit (by decide)) 0 (by decide) (v := fb 0) rfl dX5_keepTimes_42 ?_
  refine lv_aload_n hx hb dX5_keepTimes_43 rfl (lv_at hl 2 rfl) ?_
  refine lv_iload_n hx hb dX5_keepTimes_44 rfl (lv_at hl 5 rfl) ?_
  refine lv_iload hx hb dX5_keepTimes_45 (lv_at hl 6 rfl) ?_
  refine lv_iload hx hb dX5_keepTimes_47 (lv_at hl 0 rfl) ?_
  have hPc := hP.sub (ws' := [kM o mP mL mC mN mF mR mD mV mX mA mK cm mT pm mU mH mI, kA mL cI 180 gl]) [0, 5] rfl
  refine cr_i (va_runV (As := [.int 1, .int i, .int 0]) (rest := [.long (fb 0), .long 0, .int 0, .ref mF]) ⟨hx, hb, hml, hown, hts⟩ (c_X5_numberOf_1 l D cI cJ o mP mL mC mN mF mR mD mV mX mA mK mT mU mH mI cm pm gl i 0 hi (by decide)) (cwV 3 hts gX5_keepTimes_X5_numberOf rfl rfl rfl (by decide +kernel) ⟨Nat.le_of_ble_eq_true rfl, Nat.le_of_ble_eq_true rfl⟩) ⟨gd_blR, va_recv hK.1 hPc (ci := 5) (q0 := 0) rfl rfl, gd_prR hPc hK⟩ rfl rfl hl.1 rfl (lv_room (Nat.le_of_ble_eq_true rfl)) dX5_keepTimes_49 ⟨Nat.zero_le _, Nat.zero_le _⟩) (fun r_49 hw => ?_)
  subst hw
  clear hPc
  refine lv_i2l hx hb dX5_keepTimes_52 rfl ?_
  refine lv_lmul hx hb dX5_keepTimes_53 ?_
  refine lv_ladd hx hb dX5_keepTimes_54 ?_
  refine st_l hx hb hK.1 hP hD hS 2 1 rfl rfl (ix_lit (by decide)) 0 (by decide) dX5_keepTimes_55 (fun H locs hP hD hS => ?_)
  have hP : va_P D vwCl [kM o mP mL mC mN mF mR mD mV mX mA mK cm mT pm mU mH mI, kA mN cI 3 gm, kJ mF cJ 6 (vp_updL (vp_updL ff 0 0) 0 (0 + ((fb 0) * ((z5_numberOf_1 gl i 0).toInt64)))), kJ h cJ 9 fb, kA mP cI 180 gp, kA mL cI 180 gl] H := hP
  have hD : va_D A [kM o mP mL mC mN mF mR mD mV mX mA mK cm mT pm mU mH mI, kA mN cI 3 gm, kJ mF cJ 6 (vp_updL (vp_updL ff 0 0) 0 (0 + ((fb 0) * ((z5_numberOf_1 gl i 0).toInt64)))), kJ h cJ 9 fb, kA mP cI 180 gp, kA mL cI 180 gl] := hD
  refine lv_iinc (v := 1) (lv' := [(6, .int 1), (5, .int 0), (0, .ref o), (1, .int 0), (2, .ref h), (3, .int 1), (4, .int i)]) hx hb dX5_keepTimes_56 hl (k := 0) rfl (by decide) (by decide) rfl (fun ls hl => ?_)
  refine lv_goto (tgt := 20) hx hb dX5_keepTimes_59 (by decide) ?_
  refine lv_iload hx hb dX5_keepTimes_20 (lv_at hl 0 rfl) ?_
  refine lv_iconst (v := 3) hx hb dX5_keepTimes_22 (by decide) ?_
  refine lv_icmp_ge (tgt := 62) hx hb dX5_keepTimes_23 (by decide) (fun h => absurd h (by decide)) (fun _ => ?_)
  refine lv_aload_n hx hb dX5_keepTimes_26 rfl (lv_at hl 2 rfl) ?_
  refine va_get (D := D) (ci := 5) (v := .ref mF) (C := RX5) (T := TX5) (N := 17) hx hb hts k_2 hown hK.1 hP 0 rfl rfl 4 (by decide) k_1 (fun _ h9 => h9) rfl dX5_keepTimes_27 ?_
  refine lv_iload hx hb dX5_keepTimes_30 (lv_at hl 1 rfl) ?_
  refine lv_dup2_11 hx hb dX5_keepTimes_32 rfl rfl ?_
  refine ld_l hx hb hK.1 hP 2 1 rfl rfl (ix_lit (by decide)) 0 (by decide) (v := 0 + ((fb 0) * ((z5_numberOf_1 gl i 0).toInt64))) rfl dX5_keepTimes_33 ?_
  refine lv_aload_n hx hb dX5_keepTimes_34 rfl (lv_at hl 4 rfl) ?_
  refine lv_iconst (v := 3) hx hb dX5_keepTimes_35 (by decide) ?_
  refine lv_iload hx hb dX5_keepTimes_36 (lv_at hl 1 rfl) ?_
  refine lv_imul hx hb dX5_keepTimes_38 ?_
  refine lv_eqi (v := 0) (by decide) ?_
  refine lv_iload hx hb dX5_keepTimes_39 (lv_at hl 0 rfl) ?_
  refine lv_iadd hx hb dX5_keepTimes_41 ?_
  refine lv_eqi (v := 1) (by decide) ?_
  refine ld_l hx hb hK.1 hP 3 1 rfl rfl (ix_lit (by decide)) 1 (by decide) (v := fb 1) rfl dX5_keepTimes_42 ?_
  refine lv_aload_n hx hb dX5_keepTimes_43 rfl (lv_at hl 2 rfl) ?_
  refine lv_iload_n hx hb dX5_keepTimes_44 rfl (lv_at hl 5 rfl) ?_
  refine lv_iload hx hb dX5_keepTimes_45 (lv_at hl 6 rfl) ?_
  refine lv_iload hx hb dX5_keepTimes_47 (lv_at hl 0 rfl) ?_
  have hPc := hP.sub (ws' := [kM o mP mL mC mN mF mR mD mV mX mA mK cm mT pm mU mH mI, kA mL cI 180 gl]) [0, 5] rfl
  refine cr_i (va_runV (As := [.int 1, .int i, .int 1]) (rest := [.long (fb 1), .long (0 + ((fb 0) * ((z5_numberOf_1 gl i 0).toInt64))), .int 0, .ref mF]) ⟨hx, hb, hml, hown, hts⟩ (c_X5_numberOf_1 l D cI cJ o mP mL mC mN mF mR mD mV mX mA mK mT mU mH mI cm pm gl i 1 hi (by decide)) (cwV 3 hts gX5_keepTimes_X5_numberOf rfl rfl rfl (by decide +kernel) ⟨Nat.le_of_ble_eq_true rfl, Nat.le_of_ble_eq_true rfl⟩) ⟨gd_blR, va_recv hK.1 hPc (ci := 5) (q0 := 0) rfl rfl, gd_prR hPc hK⟩ rfl rfl hl.1 rfl (lv_room (Nat.le_of_ble_eq_true rfl)) dX5_keepTimes_49 ⟨Nat.zero_le _, Nat.zero_le _⟩) (fun r_49 hw => ?_)
  subst hw
  clear hPc
  refine lv_i2l hx hb dX5_keepTimes_52 rfl ?_
  refine lv_lmul hx hb dX5_keepTimes_53 ?_
  refine lv_ladd hx hb dX5_keepTimes_54 ?_
  refine st_l hx hb hK.1 hP hD hS 2 1 rfl rfl (ix_lit (by decide)) 0 (by decide) dX5_keepTimes_55 (fun H locs hP hD hS => ?_)
  have hP : va_P D vwCl [kM o mP mL mC mN mF mR mD mV mX mA mK cm mT pm mU mH mI, kA mN cI 3 gm, kJ mF cJ 6 (vp_updL (vp_updL (vp_updL ff 0 0) 0 (0 + ((fb 0) * ((z5_numberOf_1 gl i 0).toInt64)))) 0 ((0 + ((fb 0) * ((z5_numberOf_1 gl i 0).toInt64))) + ((fb 1) * ((z5_numberOf_1 gl i 1).toInt64)))), kJ h cJ 9 fb, kA mP cI 180 gp, kA mL cI 180 gl] H := hP
  have hD : va_D A [kM o mP mL mC mN mF mR mD mV mX mA mK cm mT pm mU mH mI, kA mN cI 3 gm, kJ mF cJ 6 (vp_updL (vp_updL (vp_updL ff 0 0) 0 (0 + ((fb 0) * ((z5_numberOf_1 gl i 0).toInt64)))) 0 ((0 + ((fb 0) * ((z5_numberOf_1 gl i 0).toInt64))) + ((fb 1) * ((z5_numberOf_1 gl i 1).toInt64)))), kJ h cJ 9 fb, kA mP cI 180 gp, kA mL cI 180 gl] := hD
  refine lv_iinc (v := 2) (lv' := [(6, .int 2), (5, .int 0), (0, .ref o), (1, .int 0), (2, .ref h), (3, .int 1), (4, .int i)]) hx hb dX5_keepTimes_56 hl (k := 0) rfl (by decide) (by decide) rfl (fun ls hl => ?_)
  refine lv_goto (tgt := 20) hx hb dX5_keepTimes_59 (by decide) ?_
  refine lv_iload hx hb dX5_keepTimes_20 (lv_at hl 0 rfl) ?_
  refine lv_iconst (v := 3) hx hb dX5_keepTimes_22 (by decide) ?_
  refine lv_icmp_ge (tgt := 62) hx hb dX5_keepTimes_23 (by decide) (fun h => absurd h (by decide)) (fun _ => ?_)
  refine lv_aload_n hx hb dX5_keepTimes_26 rfl (lv_at hl 2 rfl) ?_
  refine va_get (D := D) (ci := 5) (v := .ref mF) (C := RX5) (T := TX5) (N := 17) hx hb hts k_2 hown hK.1 hP 0 rfl rfl 4 (by decide) k_1 (fun _ h9 => h9) rfl dX5_keepTimes_27 ?_
  refine lv_iload hx hb dX5_keepTimes_30 (lv_at hl 1 rfl) ?_
  refine lv_dup2_11 hx hb dX5_keepTimes_32 rfl rfl ?_
  refine ld_l hx hb hK.1 hP 2 1 rfl rfl (ix_lit (by decide)) 0 (by decide) (v := (0 + ((fb 0) * ((z5_numberOf_1 gl i 0).toInt64))) + ((fb 1) * ((z5_numberOf_1 gl i 1).toInt64))) rfl dX5_keepTimes_33 ?_
  refine lv_aload_n hx hb dX5_keepTimes_34 rfl (lv_at hl 4 rfl) ?_
  refine lv_iconst (v := 3) hx hb dX5_keepTimes_35 (by decide) ?_
  refine lv_iload hx hb dX5_keepTimes_36 (lv_at hl 1 rfl) ?_
  refine lv_imul hx hb dX5_keepTimes_38 ?_
  refine lv_eqi (v := 0) (by decide) ?_
  refine lv_iload hx hb dX5_keepTimes_39 (lv_at hl 0 rfl) ?_
  refine lv_iadd hx hb dX5_keepTimes_41 ?_
  refine lv_eqi (v := 2) (by decide) ?_
  refine ld_l hx hb hK.1 hP 3 1 rfl rfl (ix_lit (by decide)) 2 (by decide) (v := fb 2) rfl dX5_keepTimes_42 ?_
  refine lv_aload_n hx hb dX5_keepTimes_43 rfl (lv_at hl 2 rfl) ?_
  refine lv_iload_n hx hb dX5_keepTimes_44 rfl (lv_at hl 5 rfl) ?_
  refine lv_iload hx hb dX5_keepTimes_45 (lv_at hl 6 rfl) ?_
  refine lv_iload hx hb dX5_keepTimes_47 (lv_at hl 0 rfl) ?_
  have hPc := hP.sub (ws' := [kM o mP mL mC mN mF mR mD mV mX mA mK cm mT pm mU mH mI, kA mL cI 180 gl]) [0, 5] rfl
  refine cr_i (va_runV (As := [.int 1, .int i, .int 2]) (rest := [.long (fb 2), .long ((0 + ((fb 0) * ((z5_numberOf_1 gl i 0).toInt64))) + ((fb 1) * ((z5_numberOf_1 gl i 1).toInt64))), .int 0, .ref mF]) ⟨hx, hb, hml, hown, hts⟩ (c_X5_numberOf_1 l D cI cJ o mP mL mC mN mF mR mD mV mX mA mK mT mU mH mI cm pm gl i 2 hi (by decide)) (cwV 3 hts gX5_keepTimes_X5_numberOf rfl rfl rfl (by decide +kernel) ⟨Nat.le_of_ble_eq_true rfl, Nat.le_of_ble_eq_true rfl⟩) ⟨gd_blR, va_recv hK.1 hPc (ci := 5) (q0 := 0) rfl rfl, gd_prR hPc hK⟩ rfl rfl hl.1 rfl (lv_room (Nat.le_of_ble_eq_true rfl)) dX5_keepTimes_49 ⟨Nat.zero_le _, Nat.zero_le _⟩) (fun r_49 hw => ?_)
  subst hw
  clear hPc
  refine lv_i2l hx hb dX5_keepTimes_52 rfl ?_
  refine lv_lmul hx hb dX5_keepTimes_53 ?_
  refine lv_ladd hx hb dX5_keepTimes_54 ?_
  refine st_l hx hb hK.1 hP hD hS 2 1 rfl rfl (ix_lit (by decide)) 0 (by decide) dX5_keepTimes_55 (fun H locs hP hD hS => ?_)
  have hP : va_P D vwCl [kM o mP mL mC mN mF mR mD mV mX mA mK cm mT pm mU mH mI, kA mN cI 3 gm, kJ mF cJ 6 (vp_updL (vp_updL (vp_updL (vp_updL ff 0 0) 0 (0 + ((fb 0) * ((z5_numberOf_1 gl i 0).toInt64)))) 0 ((0 + ((fb 0) * ((z5_numberOf_1 gl i 0).toInt64))) + ((fb 1) * ((z5_numberOf_1 gl i 1).toInt64)))) 0 (((0 + ((fb 0) * ((z5_numberOf_1 gl i 0).toInt64))) + ((fb 1) * ((z5_numberOf_1 gl i 1).toInt64))) + ((fb 2) * ((z5_numberOf_1 gl i 2).toInt64)))), kJ h cJ 9 fb, kA mP cI 180 gp, kA mL cI 180 gl] H := hP
  have hD : va_D A [kM o mP mL mC mN mF mR mD mV mX mA mK cm mT pm mU mH mI, kA mN cI 3 gm, kJ mF cJ 6 (vp_updL (vp_updL (vp_updL (vp_updL ff 0 0) 0 (0 + ((fb 0) * ((z5_numberOf_1 gl i 0).toInt64)))) 0 ((0 + ((fb 0) * ((z5_numberOf_1 gl i 0).toInt64))) + ((fb 1) * ((z5_numberOf_1 gl i 1).toInt64)))) 0 (((0 + ((fb 0) * ((z5_numberOf_1 gl i 0).toInt64))) + ((fb 1) * ((z5_numberOf_1 gl i 1).toInt64))) + ((fb 2) * ((z5_numberOf_1 gl i 2).toInt64)))), kJ h cJ 9 fb, kA mP cI 180 gp, kA mL cI 180 gl] := hD
  refine lv_iinc (v := 3) (lv' := [(6, .int 3), (5, .int 0), (0, .ref o), (1, .int 0), (2, .ref h), (3, .int 1), (4, .int i)]) hx hb dX5_keepTimes_56 hl (k := 0) rfl (by decide) (by decide) rfl (fun ls hl => ?_)
  refine lv_goto (tgt := 20) hx hb dX5_keepTimes_59 (by decide) ?_
  refine lv_iload hx hb dX5_keepTimes_20 (lv_at hl 0 rfl) ?_
  refine lv_iconst (v := 3) hx hb dX5_keepTimes_22 (by decide) ?_
  refine lv_icmp_ge (tgt := 62) hx hb dX5_keepTimes_23 (by decide) (fun _ => ?_) (fun h => absurd (by decide) h)
  refine lv_iinc (v := 1) (lv' := [(5, .int 1), (6, .int 3), (0, .ref o), (1, .int 0), (2, .ref h), (3, .int 1), (4, .int i)]) hx hb dX5_keepTimes_62 hl (k := 1) rfl (by decide) (by decide) rfl (fun ls hl => ?_)
  refine lv_goto (tgt := 3) hx hb dX5_keepTimes_65 (by decide) ?_
  refine lv_iload hx hb dX5_keepTimes_3 (lv_at hl 0 rfl) ?_
  refine lv_iconst (v := 3) hx hb dX5_keepTimes_5 (by decide) ?_
  refine lv_icmp_ge (tgt := 68) hx hb dX5_keepTimes_6 (by decide) (fun h => absurd h (by decide)) (fun _ => ?_)
  refine lv_aload_n hx hb dX5_keepTimes_9 rfl (lv_at hl 2 rfl) ?_
  refine va_get (D := D) (ci := 5) (v := .ref mF) (C := RX5) (T := TX5) (N := 17) hx hb hts k_2 hown hK.1 hP 0 rfl rfl 4 (by decide) k_1 (fun _ h9 => h9) rfl dX5_keepTimes_10 ?_
  refine lv_iload hx hb dX5_keepTimes_13 (lv_at hl 0 rfl) ?_
  refine lv_lconst (v := 0) hx hb dX5_keepTimes_15 (by decide) ?_
  refine st_l hx hb hK.1 hP hD hS 2 1 rfl rfl (ix_lit (by decide)) 1 (by decide) dX5_keepTimes_16 (fun H locs hP hD hS => ?_)
  have hP : va_P D vwCl [kM o mP mL mC mN mF mR mD mV mX mA mK cm mT pm mU mH mI, kA mN cI 3 gm, kJ mF cJ 6 (vp_updL (vp_updL (vp_updL (vp_updL (vp_updL ff 0 0) 0 (0 + ((fb 0) * ((z5_numberOf_1 gl i 0).toInt64)))) 0 ((0 + ((fb 0) * ((z5_numberOf_1 gl i 0).toInt64))) + ((fb 1) * ((z5_numberOf_1 gl i 1).toInt64)))) 0 (((0 + ((fb 0) * ((z5_numberOf_1 gl i 0).toInt64))) + ((fb 1) * ((z5_numberOf_1 gl i 1).toInt64))) + ((fb 2) * ((z5_numberOf_1 gl i 2).toInt64)))) 1 0), kJ h cJ 9 fb, kA mP cI 180 gp, kA mL cI 180 gl] H := hP
  have hD : va_D A [kM o mP mL mC mN mF mR mD mV mX mA mK cm mT pm mU mH mI, kA mN cI 3 gm, kJ mF cJ 6 (vp_updL (vp_updL (vp_updL (vp_updL (vp_updL ff 0 0) 0 (0 + ((fb 0) * ((z5_numberOf_1 gl i 0).toInt64)))) 0 ((0 + ((fb 0) * ((z5_numberOf_1 gl i 0).toInt64))) + ((fb 1) * ((z5_numberOf_1 gl i 1).toInt64)))) 0 (((0 + ((fb 0) * ((z5_numberOf_1 gl i 0).toInt64))) + ((fb 1) * ((z5_numberOf_1 gl i 1).toInt64))) + ((fb 2) * ((z5_numberOf_1 gl i 2).toInt64)))) 1 0), kJ h cJ 9 fb, kA mP cI 180 gp, kA mL cI 180 gl] := hD
  refine lv_iconst (v := 0) hx hb dX5_keepTimes_17 (by decide) ?_
  refine lv_istore (lv' := [(6, .int 0), (5, .int 1), (0, .ref o), (1, .int 0), (2, .ref h), (3, .int 1), (4, .int i)]) hx hb dX5_keepTimes_18 hl (by decide) rfl (fun ls hl => ?_)
  refine lv_iload hx hb dX5_keepTimes_20 (lv_at hl 0 rfl) ?_
  refine lv_iconst (v := 3) hx hb dX5_keepTimes_22 (by decide) ?_
  refine lv_icmp_ge (tgt := 62) hx hb dX5_keepTimes_23 (by decide) (fun h => absurd h (by decide)) (fun _ => ?_)
  refine lv_aload_n hx hb dX5_keepTimes_26 rfl (lv_at hl 2 rfl) ?_
  refine va_get (D := D) (ci := 5) (v := .ref mF) (C := RX5) (T := TX5) (N := 17) hx hb hts k_2 hown hK.1 hP 0 rfl rfl 4 (by decide) k_1 (fun _ h9 => h9) rfl dX5_keepTimes_27 ?_
  refine lv_iload hx hb dX5_keepTimes_30 (lv_at hl 1 rfl) ?_
  refine lv_dup2_11 hx hb dX5_keepTimes_32 rfl rfl ?_
  refine ld_l hx hb hK.1 hP 2 1 rfl rfl (ix_lit (by decide)) 1 (by decide) (v := 0) rfl dX5_keepTimes_33 ?_
  refine lv_aload_n hx hb dX5_keepTimes_34 rfl (lv_at hl 4 rfl) ?_
  refine lv_iconst (v := 3) hx hb dX5_keepTimes_35 (by decide) ?_
  refine lv_iload hx hb dX5_keepTimes_36 (lv_at hl 1 rfl) ?_
  refine lv_imul hx hb dX5_keepTimes_38 ?_
  refine lv_eqi (v := 3) (by decide) ?_
  refine lv_iload hx hb dX5_keepTimes_39 (lv_at hl 0 rfl) ?_
  refine lv_iadd hx hb dX5_keepTimes_41 ?_
  refine lv_eqi (v := 3) (by decide) ?_
  refine ld_l hx hb hK.1 hP 3 1 rfl rfl (ix_lit (by decide)) 3 (by decide) (v := fb 3) rfl dX5_keepTimes_42 ?_
  refine lv_aload_n hx hb dX5_keepTimes_43 rfl (lv_at hl 2 rfl) ?_
  refine lv_iload_n hx hb dX5_keepTimes_44 rfl (lv_at hl 5 rfl) ?_
  refine lv_iload hx hb dX5_keepTimes_45 (lv_at hl 6 rfl) ?_
  refine lv_iload hx hb dX5_keepTimes_47 (lv_at hl 0 rfl) ?_
  have hPc := hP.sub (ws' := [kM o mP mL mC mN mF mR mD mV mX mA mK cm mT pm mU mH mI, kA mL cI 180 gl]) [0, 5] rfl
  refine cr_i (va_runV (As := [.int 1, .int i, .int 0]) (rest := [.long (fb 3), .long 0, .int 1, .ref mF]) ⟨hx, hb, hml, hown, hts⟩ (c_X5_numberOf_1 l D cI cJ o mP mL mC mN mF mR mD mV mX mA mK mT mU mH mI cm pm gl i 0 hi (by decide)) (cwV 3 hts gX5_keepTimes_X5_numberOf rfl rfl rfl (by decide +kernel) ⟨Nat.le_of_ble_eq_true rfl, Nat.le_of_ble_eq_true rfl⟩) ⟨gd_blR, va_recv hK.1 hPc (ci := 5) (q0 := 0) rfl rfl, gd_prR hPc hK⟩ rfl rfl hl.1 rfl (lv_room (Nat.le_of_ble_eq_true rfl)) dX5_keepTimes_49 ⟨Nat.zero_le _, Nat.zero_le _⟩) (fun r_49 hw => ?_)
  subst hw
  clear hPc
  refine lv_i2l hx hb dX5_keepTimes_52 rfl ?_
  refine lv_lmul hx hb dX5_keepTimes_53 ?_
  refine lv_ladd hx hb dX5_keepTimes_54 ?_
  refine st_l hx hb hK.1 hP hD hS 2 1 rfl rfl (ix_lit (by decide)) 1 (by decide) dX5_keepTimes_55 (fun H locs hP hD hS => ?_)
  have hP : va_P D vwCl [kM o mP mL mC mN mF mR mD mV mX mA mK cm mT pm mU mH mI, kA mN cI 3 gm, kJ mF cJ 6 (vp_updL (vp_updL (vp_updL (vp_updL (vp_updL (vp_updL ff 0 0) 0 (0 + ((fb 0) * ((z5_numberOf_1 gl i 0).toInt64)))) 0 ((0 + ((fb 0) * ((z5_numberOf_1 gl i 0).toInt64))) + ((fb 1) * ((z5_numberOf_1 gl i 1).toInt64)))) 0 (((0 + ((fb 0) * ((z5_numberOf_1 gl i 0).toInt64))) + ((fb 1) * ((z5_numberOf_1 gl i 1).toInt64))) + ((fb 2) * ((z5_numberOf_1 gl i 2).toInt64)))) 1 0) 1 (0 + ((fb 3) * ((z5_numberOf_1 gl i 0).toInt64)))), kJ h cJ 9 fb, kA mP cI 180 gp, kA mL cI 180 gl] H := hP
  have hD : va_D A [kM o mP mL mC mN mF mR mD mV mX mA mK cm mT pm mU mH mI, kA mN cI 3 gm, kJ mF cJ 6 (vp_updL (vp_updL (vp_updL (vp_updL (vp_updL (vp_updL ff 0 0) 0 (0 + ((fb 0) * ((z5_numberOf_1 gl i 0).toInt64)))) 0 ((0 + ((fb 0) * ((z5_numberOf_1 gl i 0).toInt64))) + ((fb 1) * ((z5_numberOf_1 gl i 1).toInt64)))) 0 (((0 + ((fb 0) * ((z5_numberOf_1 gl i 0).toInt64))) + ((fb 1) * ((z5_numberOf_1 gl i 1).toInt64))) + ((fb 2) * ((z5_numberOf_1 gl i 2).toInt64)))) 1 0) 1 (0 + ((fb 3) * ((z5_numberOf_1 gl i 0).toInt64)))), kJ h cJ 9 fb, kA mP cI 180 gp, kA mL cI 180 gl] := hD
  refine lv_iinc (v := 1) (lv' := [(6, .int 1), (5, .int 1), (0, .ref o), (1, .int 0), (2, .ref h), (3, .int 1), (4, .int i)]) hx hb dX5_keepTimes_56 hl (k := 0) rfl (by decide) (by decide) rfl (fun ls hl => ?_)
  refine lv_goto (tgt := 20) hx hb dX5_keepTimes_59 (by decide) ?_
  refine lv_iload hx hb dX5_keepTimes_20 (lv_at hl 0 rfl) ?_
  refine lv_iconst (v := 3) hx hb dX5_keepTimes_22 (by decide) ?_
  refine lv_icmp_ge (tgt := 62) hx hb dX5_keepTimes_23 (by decide) (fun h => absurd h (by decide)) (fun _ => ?_)
  refine lv_aload_n hx hb dX5_keepTimes_26 rfl (lv_at hl 2 rfl) ?_
  refine va_get (D := D) (ci := 5) (v := .ref mF) (C := RX5) (T := TX5) (N := 17) hx hb hts k_2 hown hK.1 hP 0 rfl rfl 4 (by decide) k_1 (fun _ h9 => h9) rfl dX5_keepTimes_27 ?_
  refine lv_iload hx hb dX5_keepTimes_30 (lv_at hl 1 rfl) ?_
  refine lv_dup2_11 hx hb dX5_keepTimes_32 rfl rfl ?_
  refine ld_l hx hb hK.1 hP 2 1 rfl rfl (ix_lit (by decide)) 1 (by decide) (v := 0 + ((fb 3) * ((z5_numberOf_1 gl i 0).toInt64))) rfl dX5_keepTimes_33 ?_
  refine lv_aload_n hx hb dX5_keepTimes_34 rfl (lv_at hl 4 rfl) ?_
  refine lv_iconst (v := 3) hx hb dX5_keepTimes_35 (by decide) ?_
  refine lv_iload hx hb dX5_keepTimes_36 (lv_at hl 1 rfl) ?_
  refine lv_imul hx hb dX5_keepTimes_38 ?_
  refine lv_eqi (v := 3) (by decide) ?_
  refine lv_iload hx hb dX5_keepTimes_39 (lv_at hl 0 rfl) ?_
  refine lv_iadd hx hb dX5_keepTimes_41 ?_
  refine lv_eqi (v := 4) (by decide) ?_
  refine ld_l hx hb hK.1 hP 3 1 rfl rfl (ix_lit (by decide)) 4 (by decide) (v := fb 4) rfl dX5_keepTimes_42 ?_
  refine lv_aload_n hx hb dX5_keepTimes_43 rfl (lv_at hl 2 rfl) ?_
  refine lv_iload_n hx hb dX5_keepTimes_44 rfl (lv_at hl 5 rfl) ?_
  refine lv_iload hx hb dX5_keepTimes_45 (lv_at hl 6 rfl) ?_
  refine lv_iload hx hb dX5_keepTimes_47 (lv_at hl 0 rfl) ?_
  have hPc := hP.sub (ws' := [kM o mP mL mC mN mF mR mD mV mX mA mK cm mT pm mU mH mI, kA mL cI 180 gl]) [0, 5] rfl
  refine cr_i (va_runV (As := [.int 1, .int i, .int 1]) (rest := [.long (fb 4), .long (0 + ((fb 3) * ((z5_numberOf_1 gl i 0).toInt64))), .int 1, .ref mF]) ⟨hx, hb, hml, hown, hts⟩ (c_X5_numberOf_1 l D cI cJ o mP mL mC mN mF mR mD mV mX mA mK mT mU mH mI cm pm gl i 1 hi (by decide)) (cwV 3 hts gX5_keepTimes_X5_numberOf rfl rfl rfl (by decide +kernel) ⟨Nat.le_of_ble_eq_true rfl, Nat.le_of_ble_eq_true rfl⟩) ⟨gd_blR, va_recv hK.1 hPc (ci := 5) (q0 := 0) rfl rfl, gd_prR hPc hK⟩ rfl rfl hl.1 rfl (lv_room (Nat.le_of_ble_eq_true rfl)) dX5_keepTimes_49 ⟨Nat.zero_le _, Nat.zero_le _⟩) (fun r_49 hw => ?_)
  subst hw
  clear hPc
  refine lv_i2l hx hb dX5_keepTimes_52 rfl ?_
  refine lv_lmul hx hb dX5_keepTimes_53 ?_
  refine lv_ladd hx hb dX5_keepTimes_54 ?_
  refine st_l hx hb hK.1 hP hD hS 2 1 rfl rfl (ix_lit (by decide)) 1 (by decide) dX5_keepTimes_55 (fun H locs hP hD hS => ?_)
  have hP : va_P D vwCl [kM o mP mL mC mN mF mR mD mV mX mA mK cm mT pm mU mH mI, kA mN cI 3 gm, kJ mF cJ 6 (vp_updL (vp_updL (vp_updL (vp_updL (vp_updL (vp_updL (vp_updL ff 0 0) 0 (0 + ((fb 0) * ((z5_numberOf_1 gl i 0).toInt64)))) 0 ((0 + ((fb 0) * ((z5_numberOf_1 gl i 0).toInt64))) + ((fb 1) * ((z5_numberOf_1 gl i 1).toInt64)))) 0 (((0 + ((fb 0) * ((z5_numberOf_1 gl i 0).toInt64))) + ((fb 1) * ((z5_numberOf_1 gl i 1).toInt64))) + ((fb 2) * ((z5_numberOf_1 gl i 2).toInt64)))) 1 0) 1 (0 + ((fb 3) * ((z5_numberOf_1 gl i 0).toInt64)))) 1 ((0 + ((fb 3) * ((z5_numberOf_1 gl i 0).toInt64))) + ((fb 4) * ((z5_numberOf_1 gl i 1).toInt64)))), kJ h cJ 9 fb, kA mP cI 180 gp, kA mL cI 180 gl] H := hP
  have hD : va_D A [kM o mP mL mC mN mF mR mD mV mX mA mK cm mT pm mU mH mI, kA mN cI 3 gm, kJ mF cJ 6 (vp_updL (vp_updL (vp_updL (vp_updL (vp_updL (vp_updL (vp_updL ff 0 0) 0 (0 + ((fb 0) * ((z5_numberOf_1 gl i 0).toInt64)))) 0 ((0 + ((fb 0) * ((z5_numberOf_1 gl i 0).toInt64))) + ((fb 1) * ((z5_numberOf_1 gl i 1).toInt64)))) 0 (((0 + ((fb 0) * ((z5_numberOf_1 gl i 0).toInt64))) + ((fb 1) * ((z5_numberOf_1 gl i 1).toInt64))) + ((fb 2) * ((z5_numberOf_1 gl i 2).toInt64)))) 1 0) 1 (0 + ((fb 3) * ((z5_numberOf_1 gl i 0).toInt64)))) 1 ((0 + ((fb 3) * ((z5_numberOf_1 gl i 0).toInt64))) + ((fb 4) * ((z5_numberOf_1 gl i 1).toInt64)))), kJ h cJ 9 fb, kA mP cI 180 gp, kA mL cI 180 gl] := hD
  refine lv_iinc (v := 2) (lv' := [(6, .int 2), (5, .int 1), (0, .ref o), (1, .int 0), (2, .ref h), (3, .int 1), (4, .int i)]) hx hb dX5_keepTimes_56 hl (k := 0) rfl (by decide) (by decide) rfl (fun ls hl => ?_)
  refine lv_goto (tgt := 20) hx hb dX5_keepTimes_59 (by decide) ?_
  refine lv_iload hx hb dX5_keepTimes_20 (lv_at hl 0 rfl) ?_
  refine lv_iconst (v := 3) hx hb dX5_keepTimes_22 (by decide) ?_
  refine lv_icmp_ge (tgt := 62) hx hb dX5_keepTimes_23 (by decide) (fun h => absurd h (by decide)) (fun _ => ?_)
  refine lv_aload_n hx hb dX5_keepTimes_26 rfl (lv_at hl 2 rfl) ?_
  refine va_get (D := D) (ci := 5) (v := .ref mF) (C := RX5) (T := TX5) (N := 17) hx hb hts k_2 hown hK.1 hP 0 rfl rfl 4 (by decide) k_1 (fun _ h9 => h9) rfl dX5_keepTimes_27 ?_
  refine lv_iload hx hb dX5_keepTimes_30 (lv_at hl 1 rfl) ?_
  refine lv_dup2_11 hx hb dX5_keepTimes_32 rfl rfl ?_
  refine ld_l hx hb hK.1 hP 2 1 rfl rfl (ix_lit (by decide)) 1 (by decide) (v := (0 + ((fb 3) * ((z5_numberOf_1 gl i 0).toInt64))) + ((fb 4) * ((z5_numberOf_1 gl i 1).toInt64))) rfl dX5_keepTimes_33 ?_
  refine lv_aload_n hx hb dX5_keepTimes_34 rfl (lv_at hl 4 rfl) ?_
  refine lv_iconst (v := 3) hx hb dX5_keepTimes_35 (by decide) ?_
  refine lv_iload hx hb dX5_keepTimes_36 (lv_at hl 1 rfl) ?_
  refine lv_imul hx hb dX5_keepTimes_38 ?_
  refine lv_eqi (v := 3) (by decide) ?_
  refine lv_iload hx hb dX5_keepTimes_39 (lv_at hl 0 rfl) ?_
  refine lv_iadd hx hb dX5_keepTimes_41 ?_
  refine lv_eqi (v := 5) (by decide) ?_
  refine ld_l hx hb hK.1 hP 3 1 rfl rfl (ix_lit (by decide)) 5 (by decide) (v := fb 5) rfl dX5_keepTimes_42 ?_
  refine lv_aload_n hx hb dX5_keepTimes_43 rfl (lv_at hl 2 rfl) ?_
  refine lv_iload_n hx hb dX5_keepTimes_44 rfl (lv_at hl 5 rfl) ?_
  refine lv_iload hx hb dX5_keepTimes_45 (lv_at hl 6 rfl) ?_
  refine lv_iload hx hb dX5_keepTimes_47 (lv_at hl 0 rfl) ?_
  have hPc := hP.sub (ws' := [kM o mP mL mC mN mF mR mD mV mX mA mK cm mT pm mU mH mI, kA mL cI 180 gl]) [0, 5] rfl
  refine cr_i (va_runV (As := [.int 1, .int i, .int 2]) (rest := [.long (fb 5), .long ((0 + ((fb 3) * ((z5_numberOf_1 gl i 0).toInt64))) + ((fb 4) * ((z5_numberOf_1 gl i 1).toInt64))), .int 1, .ref mF]) ⟨hx, hb, hml, hown, hts⟩ (c_X5_numberOf_1 l D cI cJ o mP mL mC mN mF mR mD mV mX mA mK mT mU mH mI cm pm gl i 2 hi (by decide)) (cwV 3 hts gX5_keepTimes_X5_numberOf rfl rfl rfl (by decide +kernel) ⟨Nat.le_of_ble_eq_true rfl, Nat.le_of_ble_eq_true rfl⟩) ⟨gd_blR, va_recv hK.1 hPc (ci := 5) (q0 := 0) rfl rfl, gd_prR hPc hK⟩ rfl rfl hl.1 rfl (lv_room (Nat.le_of_ble_eq_true rfl)) dX5_keepTimes_49 ⟨Nat.zero_le _, Nat.zero_le _⟩) (fun r_49 hw => ?_)
  subst hw
  clear hPc
  refine lv_i2l hx hb dX5_keepTimes_52 rfl ?_
  refine lv_lmul hx hb dX5_keepTimes_53 ?_
  refine lv_ladd hx hb dX5_keepTimes_54 ?_
  refine st_l hx hb hK.1 hP hD hS 2 1 rfl rfl (ix_lit (by decide)) 1 (by decide) dX5_keepTimes_55 (fun H locs hP hD hS => ?_)
  have hP : va_P D vwCl [kM o mP mL mC mN mF mR mD mV mX mA mK cm mT pm mU mH mI, kA mN cI 3 gm, kJ mF cJ 6 (vp_updL (vp_updL (vp_updL (vp_updL (vp_updL (vp_updL (vp_updL (vp_updL ff 0 0) 0 (0 + ((fb 0) * ((z5_numberOf_1 gl i 0).toInt64)))) 0 ((0 + ((fb 0) * ((z5_numberOf_1 gl i 0).toInt64))) + ((fb 1) * ((z5_numberOf_1 gl i 1).toInt64)))) 0 (((0 + ((fb 0) * ((z5_numberOf_1 gl i 0).toInt64))) + ((fb 1) * ((z5_numberOf_1 gl i 1).toInt64))) + ((fb 2) * ((z5_numberOf_1 gl i 2).toInt64)))) 1 0) 1 (0 + ((fb 3) * ((z5_numberOf_1 gl i 0).toInt64)))) 1 ((0 + ((fb 3) * ((z5_numberOf_1 gl i 0).toInt64))) + ((fb 4) * ((z5_numberOf_1 gl i 1).toInt64)))) 1 (((0 + ((fb 3) * ((z5_numberOf_1 gl i 0).toInt64))) + ((fb 4) * ((z5_numberOf_1 gl i 1).toInt64))) + ((fb 5) * ((z5_numberOf_1 gl i 2).toInt64)))), kJ h cJ 9 fb, kA mP cI 180 gp, kA mL cI 180 gl] H := hP
  have hD : va_D A [kM o mP mL mC mN mF mR mD mV mX mA mK cm mT pm mU mH mI, kA mN cI 3 gm, kJ mF cJ 6 (vp_updL (vp_updL (vp_updL (vp_updL (vp_updL (vp_updL (vp_updL (vp_updL ff 0 0) 0 (0 + ((fb 0) * ((z5_numberOf_1 gl i 0).toInt64)))) 0 ((0 + ((fb 0) * ((z5_numberOf_1 gl i 0).toInt64))) + ((fb 1) * ((z5_numberOf_1 gl i 1).toInt64)))) 0 (((0 + ((fb 0) * ((z5_numberOf_1 gl i 0).toInt64))) + ((fb 1) * ((z5_numberOf_1 gl i 1).toInt64))) + ((fb 2) * ((z5_numberOf_1 gl i 2).toInt64)))) 1 0) 1 (0 + ((fb 3) * ((z5_numberOf_1 gl i 0).toInt64)))) 1 ((0 + ((fb 3) * ((z5_numberOf_1 gl i 0).toInt64))) + ((fb 4) * ((z5_numberOf_1 gl i 1).toInt64)))) 1 (((0 + ((fb 3) * ((z5_numberOf_1 gl i 0).toInt64))) + ((fb 4) * ((z5_numberOf_1 gl i 1).toInt64))) + ((fb 5) * ((z5_numberOf_1 gl i 2).toInt64)))), kJ h cJ 9 fb, kA mP cI 180 gp, kA mL cI 180 gl] := hD
  refine lv_iinc (v := 3) (lv' := [(6, .int 3), (5, .int 1), (0, .ref o), (1, .int 0), (2, .ref h), (3, .int 1), (4, .int i)]) hx hb dX5_keepTimes_56 hl (k := 0) rfl (by decide) (by decide) rfl (fun ls hl => ?_)
  refine lv_goto (tgt := 20) hx hb dX5_keepTimes_59 (by decide) ?_
  refine lv_iload hx hb dX5_keepTimes_20 (lv_at hl 0 rfl) ?_
  refine lv_iconst (v := 3) hx hb dX5_keepTimes_22 (by decide) ?_
  refine lv_icmp_ge (tgt := 62) hx hb dX5_keepTimes_23 (by decide) (fun _ => ?_) (fun h => absurd (by decide) h)
  refine lv_iinc (v := 2) (lv' := [(5, .int 2), (6, .int 3), (0, .ref o), (1, .int 0), (2, .ref h), (3, .int 1), (4, .int i)]) hx hb dX5_keepTimes_62 hl (k := 1) rfl (by decide) (by decide) rfl (fun ls hl => ?_)
  refine lv_goto (tgt := 3) hx hb dX5_keepTimes_65 (by decide) ?_
  refine lv_iload hx hb dX5_keepTimes_3 (lv_at hl 0 rfl) ?_
  refine lv_iconst (v := 3) hx hb dX5_keepTimes_5 (by decide) ?_
  refine lv_icmp_ge (tgt := 68) hx hb dX5_keepTimes_6 (by decide) (fun h => absurd h (by decide)) (fun _ => ?_)
  refine lv_aload_n hx hb dX5_keepTimes_9 rfl (lv_at hl 2 rfl) ?_
  refine va_get (D := D) (ci := 5) (v := .ref mF) (C := RX5) (T := TX5) (N := 17) hx hb hts k_2 hown hK.1 hP 0 rfl rfl 4 (by decide) k_1 (fun _ h9 => h9) rfl dX5_keepTimes_10 ?_
  refine lv_iload hx hb dX5_keepTimes_13 (lv_at hl 0 rfl) ?_
  refine lv_lconst (v := 0) hx hb dX5_keepTimes_15 (by decide) ?_
  refine st_l hx hb hK.1 hP hD hS 2 1 rfl rfl (ix_lit (by decide)) 2 (by decide) dX5_keepTimes_16 (fun H locs hP hD hS => ?_)
  have hP : va_P D vwCl [kM o mP mL mC mN mF mR mD mV mX mA mK cm mT pm mU mH mI, kA mN cI 3 gm, kJ mF cJ 6 (vp_updL (vp_updL (vp_updL (vp_updL (vp_updL (vp_updL (vp_updL (vp_updL (vp_updL ff 0 0) 0 (0 + ((fb 0) * ((z5_numberOf_1 gl i 0).toInt64)))) 0 ((0 + ((fb 0) * ((z5_numberOf_1 gl i 0).toInt64))) + ((fb 1) * ((z5_numberOf_1 gl i 1).toInt64)))) 0 (((0 + ((fb 0) * ((z5_numberOf_1 gl i 0).toInt64))) + ((fb 1) * ((z5_numberOf_1 gl i 1).toInt64))) + ((fb 2) * ((z5_numberOf_1 gl i 2).toInt64)))) 1 0) 1 (0 + ((fb 3) * ((z5_numberOf_1 gl i 0).toInt64)))) 1 ((0 + ((fb 3) * ((z5_numberOf_1 gl i 0).toInt64))) + ((fb 4) * ((z5_numberOf_1 gl i 1).toInt64)))) 1 (((0 + ((fb 3) * ((z5_numberOf_1 gl i 0).toInt64))) + ((fb 4) * ((z5_numberOf_1 gl i 1).toInt64))) + ((fb 5) * ((z5_numberOf_1 gl i 2).toInt64)))) 2 0), kJ h cJ 9 fb, kA mP cI 180 gp, kA mL cI 180 gl] H := hP
  have hD : va_D A [kM o mP mL mC mN mF mR mD mV mX mA mK cm mT pm mU mH mI, kA mN cI 3 gm, kJ mF cJ 6 (vp_updL (vp_updL (vp_updL (vp_updL (vp_updL (vp_updL (vp_updL (vp_updL (vp_updL ff 0 0) 0 (0 + ((fb 0) * ((z5_numberOf_1 gl i 0).toInt64)))) 0 ((0 + ((fb 0) * ((z5_numberOf_1 gl i 0).toInt64))) + ((fb 1) * ((z5_numberOf_1 gl i 1).toInt64)))) 0 (((0 + ((fb 0) * ((z5_numberOf_1 gl i 0).toInt64))) + ((fb 1) * ((z5_numberOf_1 gl i 1).toInt64))) + ((fb 2) * ((z5_numberOf_1 gl i 2).toInt64)))) 1 0) 1 (0 + ((fb 3) * ((z5_numberOf_1 gl i 0).toInt64)))) 1 ((0 + ((fb 3) * ((z5_numberOf_1 gl i 0).toInt64))) + ((fb 4) * ((z5_numberOf_1 gl i 1).toInt64)))) 1 (((0 + ((fb 3) * ((z5_numberOf_1 gl i 0).toInt64))) + ((fb 4) * ((z5_numberOf_1 gl i 1).toInt64))) + ((fb 5) * ((z5_numberOf_1 gl i 2).toInt64)))) 2 0), kJ h cJ 9 fb, kA mP cI 180 gp, kA mL cI 180 gl] := hD
  refine lv_iconst (v := 0) hx hb dX5_keepTimes_17 (by decide) ?_
  refine lv_istore (lv' := [(6, .int 0), (5, .int 2), (0, .ref o), (1, .int 0), (2, .ref h), (3, .int 1), (4, .int i)]) hx hb dX5_keepTimes_18 hl (by decide) rfl (fun ls hl => ?_)
  refine lv_iload hx hb dX5_keepTimes_20 (lv_at hl 0 rfl) ?_
  refine lv_iconst (v := 3) hx hb dX5_keepTimes_22 (by decide) ?_
  refine lv_icmp_ge (tgt := 62) hx hb dX5_keepTimes_23 (by decide) (fun h => absurd h (by decide)) (fun _ => ?_)
  refine lv_aload_n hx hb dX5_keepTimes_26 rfl (lv_at hl 2 rfl) ?_
  refine va_get (D := D) (ci := 5) (v := .ref mF) (C := RX5) (T := TX5) (N := 17) hx hb hts k_2 hown hK.1 hP 0 rfl rfl 4 (by decide) k_1 (fun _ h9 => h9) rfl dX5_keepTimes_27 ?_
  refine lv_iload hx hb dX5_keepTimes_30 (lv_at hl 1 rfl) ?_
  refine lv_dup2_11 hx hb dX5_keepTimes_32 rfl rfl ?_
  refine ld_l hx hb hK.1 hP 2 1 rfl rfl (ix_lit (by decide)) 2 (by decide) (v := 0) rfl dX5_keepTimes_33 ?_
  refine lv_aload_n hx hb dX5_keepTimes_34 rfl (lv_at hl 4 rfl) ?_
  refine lv_iconst (v := 3) hx hb dX5_keepTimes_35 (by decide) ?_
  refine lv_iload hx hb dX5_keepTimes_36 (lv_at hl 1 rfl) ?_
  refine lv_imul hx hb dX5_keepTimes_38 ?_
  refine lv_eqi (v := 6) (by decide) ?_
  refine lv_iload hx hb dX5_keepTimes_39 (lv_at hl 0 rfl) ?_
  refine lv_iadd hx hb dX5_keepTimes_41 ?_
  refine lv_eqi (v := 6) (by decide) ?_
  refine ld_l hx hb hK.1 hP 3 1 rfl rfl (ix_lit (by decide)) 6 (by decide) (v := fb 6) rfl dX5_keepTimes_42 ?_
  refine lv_aload_n hx hb dX5_keepTimes_43 rfl (lv_at hl 2 rfl) ?_
  refine lv_iload_n hx hb dX5_keepTimes_44 rfl (lv_at hl 5 rfl) ?_
  refine lv_iload hx hb dX5_keepTimes_45 (lv_at hl 6 rfl) ?_
  refine lv_iload hx hb dX5_keepTimes_47 (lv_at hl 0 rfl) ?_
  have hPc := hP.sub (ws' := [kM o mP mL mC mN mF mR mD mV mX mA mK cm mT pm mU mH mI, kA mL cI 180 gl]) [0, 5] rfl
  refine cr_i (va_runV (As := [.int 1, .int i, .int 0]) (rest := [.long (fb 6), .long 0, .int 2, .ref mF]) ⟨hx, hb, hml, hown, hts⟩ (c_X5_numberOf_1 l D cI cJ o mP mL mC mN mF mR mD mV mX mA mK mT mU mH mI cm pm gl i 0 hi (by decide)) (cwV 3 hts gX5_keepTimes_X5_numberOf rfl rfl rfl (by decide +kernel) ⟨Nat.le_of_ble_eq_true rfl, Nat.le_of_ble_eq_true rfl⟩) ⟨gd_blR, va_recv hK.1 hPc (ci := 5) (q0 := 0) rfl rfl, gd_prR hPc hK⟩ rfl rfl hl.1 rfl (lv_room (Nat.le_of_ble_eq_true rfl)) dX5_keepTimes_49 ⟨Nat.zero_le _, Nat.zero_le _⟩) (fun r_49 hw => ?_)
  subst hw
  clear hPc
  refine lv_i2l hx hb dX5_keepTimes_52 rfl ?_
  refine lv_lmul hx hb dX5_keepTimes_53 ?_
  refine lv_ladd hx hb dX5_keepTimes_54 ?_
  refine st_l hx hb hK.1 hP hD hS 2 1 rfl rfl (ix_lit (by decide)) 2 (by decide) dX5_keepTimes_55 (fun H locs hP hD hS => ?_)
  have hP : va_P D vwCl [kM o mP mL mC mN mF mR mD mV mX mA mK cm mT pm mU mH mI, kA mN cI 3 gm, kJ mF cJ 6 (vp_updL (vp_updL (vp_updL (vp_updL (vp_updL (vp_updL (vp_updL (vp_updL (vp_updL (vp_updL ff 0 0) 0 (0 + ((fb 0) * ((z5_numberOf_1 gl i 0).toInt64)))) 0 ((0 + ((fb 0) * ((z5_numberOf_1 gl i 0).toInt64))) + ((fb 1) * ((z5_numberOf_1 gl i 1).toInt64)))) 0 (((0 + ((fb 0) * ((z5_numberOf_1 gl i 0).toInt64))) + ((fb 1) * ((z5_numberOf_1 gl i 1).toInt64))) + ((fb 2) * ((z5_numberOf_1 gl i 2).toInt64)))) 1 0) 1 (0 + ((fb 3) * ((z5_numberOf_1 gl i 0).toInt64)))) 1 ((0 + ((fb 3) * ((z5_numberOf_1 gl i 0).toInt64))) + ((fb 4) * ((z5_numberOf_1 gl i 1).toInt64)))) 1 (((0 + ((fb 3) * ((z5_numberOf_1 gl i 0).toInt64))) + ((fb 4) * ((z5_numberOf_1 gl i 1).toInt64))) + ((fb 5) * ((z5_numberOf_1 gl i 2).toInt64)))) 2 0) 2 (0 + ((fb 6) * ((z5_numberOf_1 gl i 0).toInt64)))), kJ h cJ 9 fb, kA mP cI 180 gp, kA mL cI 180 gl] H := hP
  have hD : va_D A [kM o mP mL mC mN mF mR mD mV mX mA mK cm mT pm mU mH mI, kA mN cI 3 gm, kJ mF cJ 6 (vp_updL (vp_updL (vp_updL (vp_updL (vp_updL (vp_updL (vp_updL (vp_updL (vp_updL (vp_updL ff 0 0) 0 (0 + ((fb 0) * ((z5_numberOf_1 gl i 0).toInt64)))) 0 ((0 + ((fb 0) * ((z5_numberOf_1 gl i 0).toInt64))) + ((fb 1) * ((z5_numberOf_1 gl i 1).toInt64)))) 0 (((0 + ((fb 0) * ((z5_numberOf_1 gl i 0).toInt64))) + ((fb 1) * ((z5_numberOf_1 gl i 1).toInt64))) + ((fb 2) * ((z5_numberOf_1 gl i 2).toInt64)))) 1 0) 1 (0 + ((fb 3) * ((z5_numberOf_1 gl i 0).toInt64)))) 1 ((0 + ((fb 3) * ((z5_numberOf_1 gl i 0).toInt64))) + ((fb 4) * ((z5_numberOf_1 gl i 1).toInt64)))) 1 (((0 + ((fb 3) * ((z5_numberOf_1 gl i 0).toInt64))) + ((fb 4) * ((z5_numberOf_1 gl i 1).toInt64))) + ((fb 5) * ((z5_numberOf_1 gl i 2).toInt64)))) 2 0) 2 (0 + ((fb 6) * ((z5_numberOf_1 gl i 0).toInt64)))), kJ h cJ 9 fb, kA mP cI 180 gp, kA mL cI 180 gl] := hD
  refine lv_iinc (v := 1) (lv' := [(6, .int 1), (5, .int 2), (0, .ref o), (1, .int 0), (2, .ref h), (3, .int 1), (4, .int i)]) hx hb dX5_keepTimes_56 hl (k := 0) rfl (by decide) (by decide) rfl (fun ls hl => ?_)
  refine lv_goto (tgt := 20) hx hb dX5_keepTimes_59 (by decide) ?_
  refine lv_iload hx hb dX5_keepTimes_20 (lv_at hl 0 rfl) ?_
  refine lv_iconst (v := 3) hx hb dX5_keepTimes_22 (by decide) ?_
  refine lv_icmp_ge (tgt := 62) hx hb dX5_keepTimes_23 (by decide) (fun h => absurd h (by decide)) (fun _ => ?_)
  refine lv_aload_n hx hb dX5_keepTimes_26 rfl (lv_at hl 2 rfl) ?_
  refine va_get (D := D) (ci := 5) (v := .ref mF) (C := RX5) (T := TX5) (N := 17) hx hb hts k_2 hown hK.1 hP 0 rfl rfl 4 (by decide) k_1 (fun _ h9 => h9) rfl dX5_keepTimes_27 ?_
  refine lv_iload hx hb dX5_keepTimes_30 (lv_at hl 1 rfl) ?_
  refine lv_dup2_11 hx hb dX5_keepTimes_32 rfl rfl ?_
  refine ld_l hx hb hK.1 hP 2 1 rfl rfl (ix_lit (by decide)) 2 (by decide) (v := 0 + ((fb 6) * ((z5_numberOf_1 gl i 0).toInt64))) rfl dX5_keepTimes_33 ?_
  refine lv_aload_n hx hb dX5_keepTimes_34 rfl (lv_at hl 4 rfl) ?_
  refine lv_iconst (v := 3) hx hb dX5_keepTimes_35 (by decide) ?_
  refine lv_iload hx hb dX5_keepTimes_36 (lv_at hl 1 rfl) ?_
  refine lv_imul hx hb dX5_keepTimes_38 ?_
  refine lv_eqi (v := 6) (by decide) ?_
  refine lv_iload hx hb dX5_keepTimes_39 (lv_at hl 0 rfl) ?_
  refine lv_iadd hx hb dX5_keepTimes_41 ?_
  refine lv_eqi (v := 7) (by decide) ?_
  refine ld_l hx hb hK.1 hP 3 1 rfl rfl (ix_lit (by decide)) 7 (by decide) (v := fb 7) rfl dX5_keepTimes_42 ?_
  refine lv_aload_n hx hb dX5_keepTimes_43 rfl (lv_at hl 2 rfl) ?_
  refine lv_iload_n hx hb dX5_keepTimes_44 rfl (lv_at hl 5 rfl) ?_
  refine lv_iload hx hb dX5_keepTimes_45 (lv_at hl 6 rfl) ?_
  refine lv_iload hx hb dX5_keepTimes_47 (lv_at hl 0 rfl) ?_
  have hPc := hP.sub (ws' := [kM o mP mL mC mN mF mR mD mV mX mA mK cm mT pm mU mH mI, kA mL cI 180 gl]) [0, 5] rfl
  refine cr_i (va_runV (As := [.int 1, .int i, .int 1]) (rest := [.long (fb 7), .long (0 + ((fb 6) * ((z5_numberOf_1 gl i 0).toInt64))), .int 2, .ref mF]) ⟨hx, hb, hml, hown, hts⟩ (c_X5_numberOf_1 l D cI cJ o mP mL mC mN mF mR mD mV mX mA mK mT mU mH mI cm pm gl i 1 hi (by decide)) (cwV 3 hts gX5_keepTimes_X5_numberOf rfl rfl rfl (by decide +kernel) ⟨Nat.le_of_ble_eq_true rfl, Nat.le_of_ble_eq_true rfl⟩) ⟨gd_blR, va_recv hK.1 hPc (ci := 5) (q0 := 0) rfl rfl, gd_prR hPc hK⟩ rfl rfl hl.1 rfl (lv_room (Nat.le_of_ble_eq_true rfl)) dX5_keepTimes_49 ⟨Nat.zero_le _, Nat.zero_le _⟩) (fun r_49 hw => ?_)
  subst hw
  clear hPc
  refine lv_i2l hx hb dX5_keepTimes_52 rfl ?_
  refine lv_lmul hx hb dX5_keepTimes_53 ?_
  refine lv_ladd hx hb dX5_keepTimes_54 ?_
  refine st_l hx hb hK.1 hP hD hS 2 1 rfl rfl (ix_lit (by decide)) 2 (by decide) dX5_keepTimes_55 (fun H locs hP hD hS => ?_)
  have hP : va_P D vwCl [kM o mP mL mC mN mF mR mD mV mX mA mK cm mT pm mU mH mI, kA mN cI 3 gm, kJ mF cJ 6 (vp_updL (vp_updL (vp_updL (vp_updL (vp_updL (vp_updL (vp_updL (vp_updL (vp_updL (vp_updL (vp_updL ff 0 0) 0 (0 + ((fb 0) * ((z5_numberOf_1 gl i 0).toInt64)))) 0 ((0 + ((fb 0) * ((z5_numberOf_1 gl i 0).toInt64))) + ((fb 1) * ((z5_numberOf_1 gl i 1).toInt64)))) 0 (((0 + ((fb 0) * ((z5_numberOf_1 gl i 0).toInt64))) + ((fb 1) * ((z5_numberOf_1 gl i 1).toInt64))) + ((fb 2) * ((z5_numberOf_1 gl i 2).toInt64)))) 1 0) 1 (0 + ((fb 3) * ((z5_numberOf_1 gl i 0).toInt64)))) 1 ((0 + ((fb 3) * ((z5_numberOf_1 gl i 0).toInt64))) + ((fb 4) * ((z5_numberOf_1 gl i 1).toInt64)))) 1 (((0 + ((fb 3) * ((z5_numberOf_1 gl i 0).toInt64))) + ((fb 4) * ((z5_numberOf_1 gl i 1).toInt64))) + ((fb 5) * ((z5_numberOf_1 gl i 2).toInt64)))) 2 0) 2 (0 + ((fb 6) * ((z5_numberOf_1 gl i 0).toInt64)))) 2 ((0 + ((fb 6) * ((z5_numberOf_1 gl i 0).toInt64))) + ((fb 7) * ((z5_numberOf_1 gl i 1).toInt64)))), kJ h cJ 9 fb, kA mP cI 180 gp, kA mL cI 180 gl] H := hP
  have hD : va_D A [kM o mP mL mC mN mF mR mD mV mX mA mK cm mT pm mU mH mI, kA mN cI 3 gm, kJ mF cJ 6 (vp_updL (vp_updL (vp_updL (vp_updL (vp_updL (vp_updL (vp_updL (vp_updL (vp_updL (vp_updL (vp_updL ff 0 0) 0 (0 + ((fb 0) * ((z5_numberOf_1 gl i 0).toInt64)))) 0 ((0 + ((fb 0) * ((z5_numberOf_1 gl i 0).toInt64))) + ((fb 1) * ((z5_numberOf_1 gl i 1).toInt64)))) 0 (((0 + ((fb 0) * ((z5_numberOf_1 gl i 0).toInt64))) + ((fb 1) * ((z5_numberOf_1 gl i 1).toInt64))) + ((fb 2) * ((z5_numberOf_1 gl i 2).toInt64)))) 1 0) 1 (0 + ((fb 3) * ((z5_numberOf_1 gl i 0).toInt64)))) 1 ((0 + ((fb 3) * ((z5_numberOf_1 gl i 0).toInt64))) + ((fb 4) * ((z5_numberOf_1 gl i 1).toInt64)))) 1 (((0 + ((fb 3) * ((z5_numberOf_1 gl i 0).toInt64))) + ((fb 4) * ((z5_numberOf_1 gl i 1).toInt64))) + ((fb 5) * ((z5_numberOf_1 gl i 2).toInt64)))) 2 0) 2 (0 + ((fb 6) * ((z5_numberOf_1 gl i 0).toInt64)))) 2 ((0 + ((fb 6) * ((z5_numberOf_1 gl i 0).toInt64))) + ((fb 7) * ((z5_numberOf_1 gl i 1).toInt64)))), kJ h cJ 9 fb, kA mP cI 180 gp, kA mL cI 180 gl] := hD
  refine lv_iinc (v := 2) (lv' := [(6, .int 2), (5, .int 2), (0, .ref o), (1, .int 0), (2, .ref h), (3, .int 1), (4, .int i)]) hx hb dX5_keepTimes_56 hl (k := 0) rfl (by decide) (by decide) rfl (fun ls hl => ?_)
  refine lv_goto (tgt := 20) hx hb dX5_keepTimes_59 (by decide) ?_
  refine lv_iload hx hb dX5_keepTimes_20 (lv_at hl 0 rfl) ?_
  refine lv_iconst (v := 3) hx hb dX5_keepTimes_22 (by decide) ?_
  refine lv_icmp_ge (tgt := 62) hx hb dX5_keepTimes_23 (by decide) (fun h => absurd h (by decide)) (fun _ => ?_)
  refine lv_aload_n hx hb dX5_keepTimes_26 rfl (lv_at hl 2 rfl) ?_
  refine va_get (D := D) (ci := 5) (v := .ref mF) (C := RX5) (T := TX5) (N := 17) hx hb hts k_2 hown hK.1 hP 0 rfl rfl 4 (by decide) k_1 (fun _ h9 => h9) rfl dX5_keepTimes_27 ?_
  refine lv_iload hx hb dX5_keepTimes_30 (lv_at hl 1 rfl) ?_
  refine lv_dup2_11 hx hb dX5_keepTimes_32 rfl rfl ?_
  refine ld_l hx hb hK.1 hP 2 1 rfl rfl (ix_lit (by decide)) 2 (by decide) (v := (0 + ((fb 6) * ((z5_numberOf_1 gl i 0).toInt64))) + ((fb 7) * ((z5_numberOf_1 gl i 1).toInt64))) rfl dX5_keepTimes_33 ?_
  refine lv_aload_n hx hb dX5_keepTimes_34 rfl (lv_at hl 4 rfl) ?_
  refine lv_iconst (v := 3) hx hb dX5_keepTimes_35 (by decide) ?_
  refine lv_iload hx hb dX5_keepTimes_36 (lv_at hl 1 rfl) ?_
  refine lv_imul hx hb dX5_keepTimes_38 ?_
  refine lv_eqi (v := 6) (by decide) ?_
  refine lv_iload hx hb dX5_keepTimes_39 (lv_at hl 0 rfl) ?_
  refine lv_iadd hx hb dX5_keepTimes_41 ?_
  refine lv_eqi (v := 8) (by decide) ?_
  refine ld_l hx hb hK.1 hP 3 1 rfl rfl (ix_lit (by decide)) 8 (by decide) (v := fb 8) rfl dX5_keepTimes_42 ?_
  refine lv_aload_n hx hb dX5_keepTimes_43 rfl (lv_at hl 2 rfl) ?_
  refine lv_iload_n hx hb dX5_keepTimes_44 rfl (lv_at hl 5 rfl) ?_
  refine lv_iload hx hb dX5_keepTimes_45 (lv_at hl 6 rfl) ?_
  refine lv_iload hx hb dX5_keepTimes_47 (lv_at hl 0 rfl) ?_
  have hPc := hP.sub (ws' := [kM o mP mL mC mN mF mR mD mV mX mA mK cm mT pm mU mH mI, kA mL cI 180 gl]) [0, 5] rfl
  refine cr_i (va_runV (As := [.int 1, .int i, .int 2]) (rest := [.long (fb 8), .long ((0 + ((fb 6) * ((z5_numberOf_1 gl i 0).toInt64))) + ((fb 7) * ((z5_numberOf_1 gl i 1).toInt64))), .int 2, .ref mF]) ⟨hx, hb, hml, hown, hts⟩ (c_X5_numberOf_1 l D cI cJ o mP mL mC mN mF mR mD mV mX mA mK mT mU mH mI cm pm gl i 2 hi (by decide)) (cwV 3 hts gX5_keepTimes_X5_numberOf rfl rfl rfl (by decide +kernel) ⟨Nat.le_of_ble_eq_true rfl, Nat.le_of_ble_eq_true rfl⟩) ⟨gd_blR, va_recv hK.1 hPc (ci := 5) (q0 := 0) rfl rfl, gd_prR hPc hK⟩ rfl rfl hl.1 rfl (lv_room (Nat.le_of_ble_eq_true rfl)) dX5_keepTimes_49 ⟨Nat.zero_le _, Nat.zero_le _⟩) (fun r_49 hw => ?_)
  subst hw
  clear hPc
  refine lv_i2l hx hb dX5_keepTimes_52 rfl ?_
  refine lv_lmul hx hb dX5_keepTimes_53 ?_
  refine lv_ladd hx hb dX5_keepTimes_54 ?_
  refine st_l hx hb hK.1 hP hD hS 2 1 rfl rfl (ix_lit (by decide)) 2 (by decide) dX5_keepTimes_55 (fun H locs hP hD hS => ?_)
  have hP : va_P D vwCl [kM o mP mL mC mN mF mR mD mV mX mA mK cm mT pm mU mH mI, kA mN cI 3 gm, kJ mF cJ 6 (vp_updL (vp_updL (vp_updL (vp_updL (vp_updL (vp_updL (vp_updL (vp_updL (vp_updL (vp_updL (vp_updL (vp_updL ff 0 0) 0 (0 + ((fb 0) * ((z5_numberOf_1 gl i 0).toInt64)))) 0 ((0 + ((fb 0) * ((z5_numberOf_1 gl i 0).toInt64))) + ((fb 1) * ((z5_numberOf_1 gl i 1).toInt64)))) 0 (((0 + ((fb 0) * ((z5_numberOf_1 gl i 0).toInt64))) + ((fb 1) * ((z5_numberOf_1 gl i 1).toInt64))) + ((fb 2) * ((z5_numberOf_1 gl i 2).toInt64)))) 1 0) 1 (0 + ((fb 3) * ((z5_numberOf_1 gl i 0).toInt64)))) 1 ((0 + ((fb 3) * ((z5_numberOf_1 gl i 0).toInt64))) + ((fb 4) * ((z5_numberOf_1 gl i 1).toInt64)))) 1 (((0 + ((fb 3) * ((z5_numberOf_1 gl i 0).toInt64))) + ((fb 4) * ((z5_numberOf_1 gl i 1).toInt64))) + ((fb 5) * ((z5_numberOf_1 gl i 2).toInt64)))) 2 0) 2 (0 + ((fb 6) * ((z5_numberOf_1 gl i 0).toInt64)))) 2 ((0 + ((fb 6) * ((z5_numberOf_1 gl i 0).toInt64))) + ((fb 7) * ((z5_numberOf_1 gl i 1).toInt64)))) 2 (((0 + ((fb 6) * ((z5_numberOf_1 gl i 0).toInt64))) + ((fb 7) * ((z5_numberOf_1 gl i 1).toInt64))) + ((fb 8) * ((z5_numberOf_1 gl i 2).toInt64)))), kJ h cJ 9 fb, kA mP cI 180 gp, kA mL cI 180 gl] H := hP
  have hD : va_D A [kM o mP mL mC mN mF mR mD mV mX mA mK cm mT pm mU mH mI, kA mN cI 3 gm, kJ mF cJ 6 (vp_updL (vp_updL (vp_updL (vp_updL (vp_updL (vp_updL (vp_updL (vp_updL (vp_updL (vp_updL (vp_updL (vp_updL ff 0 0) 0 (0 + ((fb 0) * ((z5_numberOf_1 gl i 0).toInt64)))) 0 ((0 + ((fb 0) * ((z5_numberOf_1 gl i 0).toInt64))) + ((fb 1) * ((z5_numberOf_1 gl i 1).toInt64)))) 0 (((0 + ((fb 0) * ((z5_numberOf_1 gl i 0).toInt64))) + ((fb 1) * ((z5_numberOf_1 gl i 1).toInt64))) + ((fb 2) * ((z5_numberOf_1 gl i 2).toInt64)))) 1 0) 1 (0 + ((fb 3) * ((z5_numberOf_1 gl i 0).toInt64)))) 1 ((0 + ((fb 3) * ((z5_numberOf_1 gl i 0).toInt64))) + ((fb 4) * ((z5_numberOf_1 gl i 1).toInt64)))) 1 (((0 + ((fb 3) * ((z5_numberOf_1 gl i 0).toInt64))) + ((fb 4) * ((z5_numberOf_1 gl i 1).toInt64))) + ((fb 5) * ((z5_numberOf_1 gl i 2).toInt64)))) 2 0) 2 (0 + ((fb 6) * ((z5_numberOf_1 gl i 0).toInt64)))) 2 ((0 + ((fb 6) * ((z5_numberOf_1 gl i 0).toInt64))) + ((fb 7) * ((z5_numberOf_1 gl i 1).toInt64)))) 2 (((0 + ((fb 6) * ((z5_numberOf_1 gl i 0).toInt64))) + ((fb 7) * ((z5_numberOf_1 gl i 1).toInt64))) + ((fb 8) * ((z5_numberOf_1 gl i 2).toInt64)))), kJ h cJ 9 fb, kA mP cI 180 gp, kA mL cI 180 gl] := hD
  refine lv_iinc (v := 3) (lv' := [(6, .int 3), (5, .int 2), (0, .ref o), (1, .int 0), (2, .ref h), (3, .int 1), (4, .int i)]) hx hb dX5_keepTimes_56 hl (k := 0) rfl (by decide) (by decide) rfl (fun ls hl => ?_)
  refine lv_goto (tgt := 20) hx hb dX5_keepTimes_59 (by decide) ?_
  refine lv_iload hx hb dX5_keepTimes_20 (lv_at hl 0 rfl) ?_
  refine lv_iconst (v := 3) hx hb dX5_keepTimes_22 (by decide) ?_
  refine lv_icmp_ge (tgt := 62) hx hb dX5_keepTimes_23 (by decide) (fun _ => ?_) (fun h => absurd (by decide) h)
  refine lv_iinc (v := 3) (lv' := [(5, .int 3), (6, .int 3), (0, .ref o), (1, .int 0), (2, .ref h), (3, .int 1), (4, .int i)]) hx hb dX5_keepTimes_62 hl (k := 1) rfl (by decide) (by decide) rfl (fun ls hl => ?_)
  refine lv_goto (tgt := 3) hx hb dX5_keepTimes_65 (by decide) ?_
  refine lv_iload hx hb dX5_keepTimes_3 (lv_at hl 0 rfl) ?_
  refine lv_iconst (v := 3) hx hb dX5_keepTimes_5 (by decide) ?_
  refine lv_icmp_ge (tgt := 68) hx hb dX5_keepTimes_6 (by decide) (fun _ => ?_) (fun h => absurd (by decide) h)
  refine lv_aload_n hx hb dX5_keepTimes_68 rfl (lv_at hl 2 rfl) ?_
  refine lv_iload_n hx hb dX5_keepTimes_69 rfl (lv_at hl 3 rfl) ?_
  refine lv_ldc hx hb hown k_3 dX5_keepTimes_70 ?_
  have hPc := hP.sub (ws' := [kM o mP mL mC mN mF mR mD mV mX mA mK cm mT pm mU mH mI, kA mN cI 3 gm, kJ mF cJ 6 (vp_updL (vp_updL (vp_updL (vp_updL (vp_updL (vp_updL (vp_updL (vp_updL (vp_updL (vp_updL (vp_updL (vp_updL ff 0 0) 0 (0 + ((fb 0) * ((z5_numberOf_1 gl i 0).toInt64)))) 0 ((0 + ((fb 0) * ((z5_numberOf_1 gl i 0).toInt64))) + ((fb 1) * ((z5_numberOf_1 gl i 1).toInt64)))) 0 (((0 + ((fb 0) * ((z5_numberOf_1 gl i 0).toInt64))) + ((fb 1) * ((z5_numberOf_1 gl i 1).toInt64))) + ((fb 2) * ((z5_numberOf_1 gl i 2).toInt64)))) 1 0) 1 (0 + ((fb 3) * ((z5_numberOf_1 gl i 0).toInt64)))) 1 ((0 + ((fb 3) * ((z5_numberOf_1 gl i 0).toInt64))) + ((fb 4) * ((z5_numberOf_1 gl i 1).toInt64)))) 1 (((0 + ((fb 3) * ((z5_numberOf_1 gl i 0).toInt64))) + ((fb 4) * ((z5_numberOf_1 gl i 1).toInt64))) + ((fb 5) * ((z5_numberOf_1 gl i 2).toInt64)))) 2 0) 2 (0 + ((fb 6) * ((z5_numberOf_1 gl i 0).toInt64)))) 2 ((0 + ((fb 6) * ((z5_numberOf_1 gl i 0).toInt64))) + ((fb 7) * ((z5_numberOf_1 gl i 1).toInt64)))) 2 (((0 + ((fb 6) * ((z5_numberOf_1 gl i 0).toInt64))) + ((fb 7) * ((z5_numberOf_1 gl i 1).toInt64))) + ((fb 8) * ((z5_numberOf_1 gl i 2).toInt64)))), kA mP cI 180 gp]) [0, 1, 2, 4] rfl
  have hDc := hD.sub (ws' := [kM o mP mL mC mN mF mR mD mV mX mA mK cm mT pm mU mH mI, kA mN cI 3 gm, kJ mF cJ 6 (vp_updL (vp_updL (vp_updL (vp_updL (vp_updL (vp_updL (vp_updL (vp_updL (vp_updL (vp_updL (vp_updL (vp_updL ff 0 0) 0 (0 + ((fb 0) * ((z5_numberOf_1 gl i 0).toInt64)))) 0 ((0 + ((fb 0) * ((z5_numberOf_1 gl i 0).toInt64))) + ((fb 1) * ((z5_numberOf_1 gl i 1).toInt64)))) 0 (((0 + ((fb 0) * ((z5_numberOf_1 gl i 0).toInt64))) + ((fb 1) * ((z5_numberOf_1 gl i 1).toInt64))) + ((fb 2) * ((z5_numberOf_1 gl i 2).toInt64)))) 1 0) 1 (0 + ((fb 3) * ((z5_numberOf_1 gl i 0).toInt64)))) 1 ((0 + ((fb 3) * ((z5_numberOf_1 gl i 0).toInt64))) + ((fb 4) * ((z5_numberOf_1 gl i 1).toInt64)))) 1 (((0 + ((fb 3) * ((z5_numberOf_1 gl i 0).toInt64))) + ((fb 4) * ((z5_numberOf_1 gl i 1).toInt64))) + ((fb 5) * ((z5_numberOf_1 gl i 2).toInt64)))) 2 0) 2 (0 + ((fb 6) * ((z5_numberOf_1 gl i 0).toInt64)))) 2 ((0 + ((fb 6) * ((z5_numberOf_1 gl i 0).toInt64))) + ((fb 7) * ((z5_numberOf_1 gl i 1).toInt64)))) 2 (((0 + ((fb 6) * ((z5_numberOf_1 gl i 0).toInt64))) + ((fb 7) * ((z5_numberOf_1 gl i 1).toInt64))) + ((fb 8) * ((z5_numberOf_1 gl i 2).toInt64)))), kA mP cI 180 gp]) [0, 1, 2, 4] (by decide) rfl
  refine cl_i (wc := [kM o mP mL mC mN mF mR mD mV mX mA mK cm mT pm mU mH mI, kA mN cI 3 gm, kJ mF cJ 6 (vp_updL (vp_updL (vp_updL (vp_updL (vp_updL (vp_updL (vp_updL (vp_updL (vp_updL (vp_updL (vp_updL (vp_updL ff 0 0) 0 (0 + ((fb 0) * ((z5_numberOf_1 gl i 0).toInt64)))) 0 ((0 + ((fb 0) * ((z5_numberOf_1 gl i 0).toInt64))) + ((fb 1) * ((z5_numberOf_1 gl i 1).toInt64)))) 0 (((0 + ((fb 0) * ((z5_numberOf_1 gl i 0).toInt64))) + ((fb 1) * ((z5_numberOf_1 gl i 1).toInt64))) + ((fb 2) * ((z5_numberOf_1 gl i 2).toInt64)))) 1 0) 1 (0 + ((fb 3) * ((z5_numberOf_1 gl i 0).toInt64)))) 1 ((0 + ((fb 3) * ((z5_numberOf_1 gl i 0).toInt64))) + ((fb 4) * ((z5_numberOf_1 gl i 1).toInt64)))) 1 (((0 + ((fb 3) * ((z5_numberOf_1 gl i 0).toInt64))) + ((fb 4) * ((z5_numberOf_1 gl i 1).toInt64))) + ((fb 5) * ((z5_numberOf_1 gl i 2).toInt64)))) 2 0) 2 (0 + ((fb 6) * ((z5_numberOf_1 gl i 0).toInt64)))) 2 ((0 + ((fb 6) * ((z5_numberOf_1 gl i 0).toInt64))) + ((fb 7) * ((z5_numberOf_1 gl i 1).toInt64)))) 2 (((0 + ((fb 6) * ((z5_numberOf_1 gl i 0).toInt64))) + ((fb 7) * ((z5_numberOf_1 gl i 1).toInt64))) + ((fb 8) * ((z5_numberOf_1 gl i 2).toInt64)))), kA mP cI 180 gp]) (wr := [kJ h cJ 9 fb, kA mL cI 180 gl]) (w1 := fun uu : (Nat → Int64) => [kM o mP mL mC mN mF mR mD mV mX mA mK cm mT pm mU mH mI, kA mN cI 3 ((z5_keep_0 gm (vp_updL (vp_updL (vp_updL (vp_updL (vp_updL (vp_updL (vp_updL (vp_updL (vp_updL (vp_updL (vp_updL (vp_updL ff 0 0) 0 (0 + ((fb 0) * ((z5_numberOf_1 gl i 0).toInt64)))) 0 ((0 + ((fb 0) * ((z5_numberOf_1 gl i 0).toInt64))) + ((fb 1) * ((z5_numberOf_1 gl i 1).toInt64)))) 0 (((0 + ((fb 0) * ((z5_numberOf_1 gl i 0).toInt64))) + ((fb 1) * ((z5_numberOf_1 gl i 1).toInt64))) + ((fb 2) * ((z5_numberOf_1 gl i 2).toInt64)))) 1 0) 1 (0 + ((fb 3) * ((z5_numberOf_1 gl i 0).toInt64)))) 1 ((0 + ((fb 3) * ((z5_numberOf_1 gl i 0).toInt64))) + ((fb 4) * ((z5_numberOf_1 gl i 1).toInt64)))) 1 (((0 + ((fb 3) * ((z5_numberOf_1 gl i 0).toInt64))) + ((fb 4) * ((z5_numberOf_1 gl i 1).toInt64))) + ((fb 5) * ((z5_numberOf_1 gl i 2).toInt64)))) 2 0) 2 (0 + ((fb 6) * ((z5_numberOf_1 gl i 0).toInt64)))) 2 ((0 + ((fb 6) * ((z5_numberOf_1 gl i 0).toInt64))) + ((fb 7) * ((z5_numberOf_1 gl i 1).toInt64)))) 2 (((0 + ((fb 6) * ((z5_numberOf_1 gl i 0).toInt64))) + ((fb 7) * ((z5_numberOf_1 gl i 1).toInt64))) + ((fb 8) * ((z5_numberOf_1 gl i 2).toInt64)))) gp (-1000004)).2.1), kJ mF cJ 6 uu, kA mP cI 180 ((z5_keep_0 gm (vp_updL (vp_updL (vp_updL (vp_updL (vp_updL (vp_updL (vp_updL (vp_updL (vp_updL (vp_updL (vp_updL (vp_updL ff 0 0) 0 (0 + ((fb 0) * ((z5_numberOf_1 gl i 0).toInt64)))) 0 ((0 + ((fb 0) * ((z5_numberOf_1 gl i 0).toInt64))) + ((fb 1) * ((z5_numberOf_1 gl i 1).toInt64)))) 0 (((0 + ((fb 0) * ((z5_numberOf_1 gl i 0).toInt64))) + ((fb 1) * ((z5_numberOf_1 gl i 1).toInt64))) + ((fb 2) * ((z5_numberOf_1 gl i 2).toInt64)))) 1 0) 1 (0 + ((fb 3) * ((z5_numberOf_1 gl i 0).toInt64)))) 1 ((0 + ((fb 3) * ((z5_numberOf_1 gl i 0).toInt64))) + ((fb 4) * ((z5_numberOf_1 gl i 1).toInt64)))) 1 (((0 + ((fb 3) * ((z5_numberOf_1 gl i 0).toInt64))) + ((fb 4) * ((z5_numberOf_1 gl i 1).toInt64))) + ((fb 5) * ((z5_numberOf_1 gl i 2).toInt64)))) 2 0) 2 (0 + ((fb 6) * ((z5_numberOf_1 gl i 0).toInt64)))) 2 ((0 + ((fb 6) * ((z5_numberOf_1 gl i 0).toInt64))) + ((fb 7) * ((z5_numberOf_1 gl i 1).toInt64)))) 2 (((0 + ((fb 6) * ((z5_numberOf_1 gl i 0).toInt64))) + ((fb 7) * ((z5_numberOf_1 gl i 1).toInt64))) + ((fb 8) * ((z5_numberOf_1 gl i 2).toInt64)))) gp (-1000004)).2.2)]) (wn := fun uu : (Nat → Int64) => [kM o mP mL mC mN mF mR mD mV mX mA mK cm mT pm mU mH mI, kA mN cI 3 ((z5_keep_0 gm (vp_updL (vp_updL (vp_updL (vp_updL (vp_updL (vp_updL (vp_updL (vp_updL (vp_updL (vp_updL (vp_updL (vp_updL ff 0 0) 0 (0 + ((fb 0) * ((z5_numberOf_1 gl i 0).toInt64)))) 0 ((0 + ((fb 0) * ((z5_numberOf_1 gl i 0).toInt64))) + ((fb 1) * ((z5_numberOf_1 gl i 1).toInt64)))) 0 (((0 + ((fb 0) * ((z5_numberOf_1 gl i 0).toInt64))) + ((fb 1) * ((z5_numberOf_1 gl i 1).toInt64))) + ((fb 2) * ((z5_numberOf_1 gl i 2).toInt64)))) 1 0) 1 (0 + ((fb 3) * ((z5_numberOf_1 gl i 0).toInt64)))) 1 ((0 + ((fb 3) * ((z5_numberOf_1 gl i 0).toInt64))) + ((fb 4) * ((z5_numberOf_1 gl i 1).toInt64)))) 1 (((0 + ((fb 3) * ((z5_numberOf_1 gl i 0).toInt64))) + ((fb 4) * ((z5_numberOf_1 gl i 1).toInt64))) + ((fb 5) * ((z5_numberOf_1 gl i 2).toInt64)))) 2 0) 2 (0 + ((fb 6) * ((z5_numberOf_1 gl i 0).toInt64)))) 2 ((0 + ((fb 6) * ((z5_numberOf_1 gl i 0).toInt64))) + ((fb 7) * ((z5_numberOf_1 gl i 1).toInt64)))) 2 (((0 + ((fb 6) * ((z5_numberOf_1 gl i 0).toInt64))) + ((fb 7) * ((z5_numberOf_1 gl i 1).toInt64))) + ((fb 8) * ((z5_numberOf_1 gl i 2).toInt64)))) gp (-1000004)).2.1), kJ mF cJ 6 uu, kJ h cJ 9 fb, kA mP cI 180 ((z5_keep_0 gm (vp_updL (vp_updL (vp_updL (vp_updL (vp_updL (vp_updL (vp_updL (vp_updL (vp_updL (vp_updL (vp_updL (vp_updL ff 0 0) 0 (0 + ((fb 0) * ((z5_numberOf_1 gl i 0).toInt64)))) 0 ((0 + ((fb 0) * ((z5_numberOf_1 gl i 0).toInt64))) + ((fb 1) * ((z5_numberOf_1 gl i 1).toInt64)))) 0 (((0 + ((fb 0) * ((z5_numberOf_1 gl i 0).toInt64))) + ((fb 1) * ((z5_numberOf_1 gl i 1).toInt64))) + ((fb 2) * ((z5_numberOf_1 gl i 2).toInt64)))) 1 0) 1 (0 + ((fb 3) * ((z5_numberOf_1 gl i 0).toInt64)))) 1 ((0 + ((fb 3) * ((z5_numberOf_1 gl i 0).toInt64))) + ((fb 4) * ((z5_numberOf_1 gl i 1).toInt64)))) 1 (((0 + ((fb 3) * ((z5_numberOf_1 gl i 0).toInt64))) + ((fb 4) * ((z5_numberOf_1 gl i 1).toInt64))) + ((fb 5) * ((z5_numberOf_1 gl i 2).toInt64)))) 2 0) 2 (0 + ((fb 6) * ((z5_numberOf_1 gl i 0).toInt64)))) 2 ((0 + ((fb 6) * ((z5_numberOf_1 gl i 0).toInt64))) + ((fb 7) * ((z5_numberOf_1 gl i 1).toInt64)))) 2 (((0 + ((fb 6) * ((z5_numberOf_1 gl i 0).toInt64))) + ((fb 7) * ((z5_numberOf_1 gl i 1).toInt64))) + ((fb 8) * ((z5_numberOf_1 gl i 2).toInt64)))) gp (-1000004)).2.2), kA mL cI 180 gl]) (va_runV (As := [.int 0, .int (-1000004)]) (rest := []) ⟨hx, hb, hml, hown, hts⟩ (c_X5_keep_0 l D cI cJ o mP mL mC mN mF mR mD mV mX mA mK mT mU mH mI cm pm gm (vp_updL (vp_updL (vp_updL (vp_updL (vp_updL (vp_updL (vp_updL (vp_updL (vp_updL (vp_updL (vp_updL (vp_updL ff 0 0) 0 (0 + ((fb 0) * ((z5_numberOf_1 gl i 0).toInt64)))) 0 ((0 + ((fb 0) * ((z5_numberOf_1 gl i 0).toInt64))) + ((fb 1) * ((z5_numberOf_1 gl i 1).toInt64)))) 0 (((0 + ((fb 0) * ((z5_numberOf_1 gl i 0).toInt64))) + ((fb 1) * ((z5_numberOf_1 gl i 1).toInt64))) + ((fb 2) * ((z5_numberOf_1 gl i 2).toInt64)))) 1 0) 1 (0 + ((fb 3) * ((z5_numberOf_1 gl i 0).toInt64)))) 1 ((0 + ((fb 3) * ((z5_numberOf_1 gl i 0).toInt64))) + ((fb 4) * ((z5_numberOf_1 gl i 1).toInt64)))) 1 (((0 + ((fb 3) * ((z5_numberOf_1 gl i 0).toInt64))) + ((fb 4) * ((z5_numberOf_1 gl i 1).toInt64))) + ((fb 5) * ((z5_numberOf_1 gl i 2).toInt64)))) 2 0) 2 (0 + ((fb 6) * ((z5_numberOf_1 gl i 0).toInt64)))) 2 ((0 + ((fb 6) * ((z5_numberOf_1 gl i 0).toInt64))) + ((fb 7) * ((z5_numberOf_1 gl i 1).toInt64)))) 2 (((0 + ((fb 6) * ((z5_numberOf_1 gl i 0).toInt64))) + ((fb 7) * ((z5_numberOf_1 gl i 1).toInt64))) + ((fb 8) * ((z5_numberOf_1 gl i 2).toInt64)))) gp (-1000004) hm0 _) (cwV 2 hts gX5_keepTimes_X5_keep rfl rfl rfl (by decide +kernel) ⟨Nat.le_of_ble_eq_true rfl, Nat.le_of_ble_eq_true rfl⟩) ⟨gd_blP, va_recv hK.1 hPc (ci := 5) (q0 := 0) rfl rfl, gd_prP hPc hK hDc⟩ rfl rfl hl.1 rfl (lv_room (Nat.le_of_ble_eq_true rfl)) dX5_keepTimes_72 ⟨Nat.zero_le _, Nat.zero_le _⟩) hP hD hS hA [0, 1, 2, 4] [3, 5] rfl rfl (by decide) (by decide) [2, 3, 4, 0, 5, 1] (by decide) (fun _ => rfl) (fun r_72 uG H locs hw hP hD hS => ?_)
  obtain ⟨y_72_0_1, rfl⟩ : ∃ z, z = uG := ⟨_, rfl⟩
  have hP : va_P D vwCl [kM o mP mL mC mN mF mR mD mV mX mA mK cm mT pm mU mH mI, kA mN cI 3 ((z5_keep_0 gm (vp_updL (vp_updL (vp_updL (vp_updL (vp_updL (vp_updL (vp_updL (vp_updL (vp_updL (vp_updL (vp_updL (vp_updL ff 0 0) 0 (0 + ((fb 0) * ((z5_numberOf_1 gl i 0).toInt64)))) 0 ((0 + ((fb 0) * ((z5_numberOf_1 gl i 0).toInt64))) + ((fb 1) * ((z5_numberOf_1 gl i 1).toInt64)))) 0 (((0 + ((fb 0) * ((z5_numberOf_1 gl i 0).toInt64))) + ((fb 1) * ((z5_numberOf_1 gl i 1).toInt64))) + ((fb 2) * ((z5_numberOf_1 gl i 2).toInt64)))) 1 0) 1 (0 + ((fb 3) * ((z5_numberOf_1 gl i 0).toInt64)))) 1 ((0 + ((fb 3) * ((z5_numberOf_1 gl i 0).toInt64))) + ((fb 4) * ((z5_numberOf_1 gl i 1).toInt64)))) 1 (((0 + ((fb 3) * ((z5_numberOf_1 gl i 0).toInt64))) + ((fb 4) * ((z5_numberOf_1 gl i 1).toInt64))) + ((fb 5) * ((z5_numberOf_1 gl i 2).toInt64)))) 2 0) 2 (0 + ((fb 6) * ((z5_numberOf_1 gl i 0).toInt64)))) 2 ((0 + ((fb 6) * ((z5_numberOf_1 gl i 0).toInt64))) + ((fb 7) * ((z5_numberOf_1 gl i 1).toInt64)))) 2 (((0 + ((fb 6) * ((z5_numberOf_1 gl i 0).toInt64))) + ((fb 7) * ((z5_numberOf_1 gl i 1).toInt64))) + ((fb 8) * ((z5_numberOf_1 gl i 2).toInt64)))) gp (-1000004)).2.1), kJ mF cJ 6 y_72_0_1, kJ h cJ 9 fb, kA mP cI 180 ((z5_keep_0 gm (vp_updL (vp_updL (vp_updL (vp_updL (vp_updL (vp_updL (vp_updL (vp_updL (vp_updL (vp_updL (vp_updL (vp_updL ff 0 0) 0 (0 + ((fb 0) * ((z5_numberOf_1 gl i 0).toInt64)))) 0 ((0 + ((fb 0) * ((z5_numberOf_1 gl i 0).toInt64))) + ((fb 1) * ((z5_numberOf_1 gl i 1).toInt64)))) 0 (((0 + ((fb 0) * ((z5_numberOf_1 gl i 0).toInt64))) + ((fb 1) * ((z5_numberOf_1 gl i 1).toInt64))) + ((fb 2) * ((z5_numberOf_1 gl i 2).toInt64)))) 1 0) 1 (0 + ((fb 3) * ((z5_numberOf_1 gl i 0).toInt64)))) 1 ((0 + ((fb 3) * ((z5_numberOf_1 gl i 0).toInt64))) + ((fb 4) * ((z5_numberOf_1 gl i 1).toInt64)))) 1 (((0 + ((fb 3) * ((z5_numberOf_1 gl i 0).toInt64))) + ((fb 4) * ((z5_numberOf_1 gl i 1).toInt64))) + ((fb 5) * ((z5_numberOf_1 gl i 2).toInt64)))) 2 0) 2 (0 + ((fb 6) * ((z5_numberOf_1 gl i 0).toInt64)))) 2 ((0 + ((fb 6) * ((z5_numberOf_1 gl i 0).toInt64))) + ((fb 7) * ((z5_numberOf_1 gl i 1).toInt64)))) 2 (((0 + ((fb 6) * ((z5_numberOf_1 gl i 0).toInt64))) + ((fb 7) * ((z5_numberOf_1 gl i 1).toInt64))) + ((fb 8) * ((z5_numberOf_1 gl i 2).toInt64)))) gp (-1000004)).2.2), kA mL cI 180 gl] H := hP
  have hD : va_D A [kM o mP mL mC mN mF mR mD mV mX mA mK cm mT pm mU mH mI, kA mN cI 3 ((z5_keep_0 gm (vp_updL (vp_updL (vp_updL (vp_updL (vp_updL (vp_updL (vp_updL (vp_updL (vp_updL (vp_updL (vp_updL (vp_updL ff 0 0) 0 (0 + ((fb 0) * ((z5_numberOf_1 gl i 0).toInt64)))) 0 ((0 + ((fb 0) * ((z5_numberOf_1 gl i 0).toInt64))) + ((fb 1) * ((z5_numberOf_1 gl i 1).toInt64)))) 0 (((0 + ((fb 0) * ((z5_numberOf_1 gl i 0).toInt64))) + ((fb 1) * ((z5_numberOf_1 gl i 1).toInt64))) + ((fb 2) * ((z5_numberOf_1 gl i 2).toInt64)))) 1 0) 1 (0 + ((fb 3) * ((z5_numberOf_1 gl i 0).toInt64)))) 1 ((0 + ((fb 3) * ((z5_numberOf_1 gl i 0).toInt64))) + ((fb 4) * ((z5_numberOf_1 gl i 1).toInt64)))) 1 (((0 + ((fb 3) * ((z5_numberOf_1 gl i 0).toInt64))) + ((fb 4) * ((z5_numberOf_1 gl i 1).toInt64))) + ((fb 5) * ((z5_numberOf_1 gl i 2).toInt64)))) 2 0) 2 (0 + ((fb 6) * ((z5_numberOf_1 gl i 0).toInt64)))) 2 ((0 + ((fb 6) * ((z5_numberOf_1 gl i 0).toInt64))) + ((fb 7) * ((z5_numberOf_1 gl i 1).toInt64)))) 2 (((0 + ((fb 6) * ((z5_numberOf_1 gl i 0).toInt64))) + ((fb 7) * ((z5_numberOf_1 gl i 1).toInt64))) + ((fb 8) * ((z5_numberOf_1 gl i 2).toInt64)))) gp (-1000004)).2.1), kJ mF cJ 6 y_72_0_1, kJ h cJ 9 fb, kA mP cI 180 ((z5_keep_0 gm (vp_updL (vp_updL (vp_updL (vp_updL (vp_updL (vp_updL (vp_updL (vp_updL (vp_updL (vp_updL (vp_updL (vp_updL ff 0 0) 0 (0 + ((fb 0) * ((z5_numberOf_1 gl i 0).toInt64)))) 0 ((0 + ((fb 0) * ((z5_numberOf_1 gl i 0).toInt64))) + ((fb 1) * ((z5_numberOf_1 gl i 1).toInt64)))) 0 (((0 + ((fb 0) * ((z5_numberOf_1 gl i 0).toInt64))) + ((fb 1) * ((z5_numberOf_1 gl i 1).toInt64))) + ((fb 2) * ((z5_numberOf_1 gl i 2).toInt64)))) 1 0) 1 (0 + ((fb 3) * ((z5_numberOf_1 gl i 0).toInt64)))) 1 ((0 + ((fb 3) * ((z5_numberOf_1 gl i 0).toInt64))) + ((fb 4) * ((z5_numberOf_1 gl i 1).toInt64)))) 1 (((0 + ((fb 3) * ((z5_numberOf_1 gl i 0).toInt64))) + ((fb 4) * ((z5_numberOf_1 gl i 1).toInt64))) + ((fb 5) * ((z5_numberOf_1 gl i 2).toInt64)))) 2 0) 2 (0 + ((fb 6) * ((z5_numberOf_1 gl i 0).toInt64)))) 2 ((0 + ((fb 6) * ((z5_numberOf_1 gl i 0).toInt64))) + ((fb 7) * ((z5_numberOf_1 gl i 1).toInt64)))) 2 (((0 + ((fb 6) * ((z5_numberOf_1 gl i 0).toInt64))) + ((fb 7) * ((z5_numberOf_1 gl i 1).toInt64))) + ((fb 8) * ((z5_numberOf_1 gl i 2).toInt64)))) gp (-1000004)).2.2), kA mL cI 180 gl] := hD
  have ea_0 : (z5_keep_0 gm (vp_updL (vp_updL (vp_updL (vp_updL (vp_updL (vp_updL (vp_updL (vp_updL (vp_updL (vp_updL (vp_updL (vp_updL ff 0 0) 0 (0 + ((fb 0) * ((z5_numberOf_1 gl i 0).toInt64)))) 0 ((0 + ((fb 0) * ((z5_numberOf_1 gl i 0).toInt64))) + ((fb 1) * ((z5_numberOf_1 gl i 1).toInt64)))) 0 (((0 + ((fb 0) * ((z5_numberOf_1 gl i 0).toInt64))) + ((fb 1) * ((z5_numberOf_1 gl i 1).toInt64))) + ((fb 2) * ((z5_numberOf_1 gl i 2).toInt64)))) 1 0) 1 (0 + ((fb 3) * ((z5_numberOf_1 gl i 0).toInt64)))) 1 ((0 + ((fb 3) * ((z5_numberOf_1 gl i 0).toInt64))) + ((fb 4) * ((z5_numberOf_1 gl i 1).toInt64)))) 1 (((0 + ((fb 3) * ((z5_numberOf_1 gl i 0).toInt64))) + ((fb 4) * ((z5_numberOf_1 gl i 1).toInt64))) + ((fb 5) * ((z5_numberOf_1 gl i 2).toInt64)))) 2 0) 2 (0 + ((fb 6) * ((z5_numberOf_1 gl i 0).toInt64)))) 2 ((0 + ((fb 6) * ((z5_numberOf_1 gl i 0).toInt64))) + ((fb 7) * ((z5_numberOf_1 gl i 1).toInt64)))) 2 (((0 + ((fb 6) * ((z5_numberOf_1 gl i 0).toInt64))) + ((fb 7) * ((z5_numberOf_1 gl i 1).toInt64))) + ((fb 8) * ((z5_numberOf_1 gl i 2).toInt64)))) gp (-1000004)).2.1 = z5_keepTimes_0_v1 gm ff fb gp gl i := by delta z5_keepTimes_0_v1; rfl
  have ea_1 : (z5_keep_0 gm (vp_updL (vp_updL (vp_updL (vp_updL (vp_updL (vp_updL (vp_updL (vp_updL (vp_updL (vp_updL (vp_updL (vp_updL ff 0 0) 0 (0 + ((fb 0) * ((z5_numberOf_1 gl i 0).toInt64)))) 0 ((0 + ((fb 0) * ((z5_numberOf_1 gl i 0).toInt64))) + ((fb 1) * ((z5_numberOf_1 gl i 1).toInt64)))) 0 (((0 + ((fb 0) * ((z5_numberOf_1 gl i 0).toInt64))) + ((fb 1) * ((z5_numberOf_1 gl i 1).toInt64))) + ((fb 2) * ((z5_numberOf_1 gl i 2).toInt64)))) 1 0) 1 (0 + ((fb 3) * ((z5_numberOf_1 gl i 0).toInt64)))) 1 ((0 + ((fb 3) * ((z5_numberOf_1 gl i 0).toInt64))) + ((fb 4) * ((z5_numberOf_1 gl i 1).toInt64)))) 1 (((0 + ((fb 3) * ((z5_numberOf_1 gl i 0).toInt64))) + ((fb 4) * ((z5_numberOf_1 gl i 1).toInt64))) + ((fb 5) * ((z5_numberOf_1 gl i 2).toInt64)))) 2 0) 2 (0 + ((fb 6) * ((z5_numberOf_1 gl i 0).toInt64)))) 2 ((0 + ((fb 6) * ((z5_numberOf_1 gl i 0).toInt64))) + ((fb 7) * ((z5_numberOf_1 gl i 1).toInt64)))) 2 (((0 + ((fb 6) * ((z5_numberOf_1 gl i 0).toInt64))) + ((fb 7) * ((z5_numberOf_1 gl i 1).toInt64))) + ((fb 8) * ((z5_numberOf_1 gl i 2).toInt64)))) gp (-1000004)).2.2 = z5_keepTimes_0_v2 gm ff fb gp gl i := by delta z5_keepTimes_0_v2; rfl
  rw [ea_0, ea_1] at hP hD
  clear ea_0 ea_1
  subst hw
  refine lv_eqi (v := z5_keepTimes_0_v3 gm ff fb gp gl i) (by delta z5_keepTimes_0_v3; rfl) ?_
  clear hPc hDc
  have he_1 : z5_keepTimes_0_f1 gm ff fb gp gl i = z5_keepTimes_0_v1 gm ff fb gp gl i := by delta z5_keepTimes_0_f1; rfl
  have he_2 : z5_keepTimes_0_f4 gm ff fb gp gl i = z5_keepTimes_0_v2 gm ff fb gp gl i := by delta z5_keepTimes_0_f4; rfl
  exact rt_i (w1 := fun uu : (Nat → Int64) => [kM o mP mL mC mN mF mR mD mV mX mA mK cm mT pm mU mH mI, kA mN cI 3 (z5_keepTimes_0_f1 gm ff fb gp gl i), kJ mF cJ 6 uu, kJ h cJ 9 fb, kA mP cI 180 (z5_keepTimes_0_f4 gm ff fb gp gl i), kA mL cI 180 gl]) hx hb hr hlk hS dX5_keepTimes_75 (y_72_0_1) rfl (by (try dsimp only); rw [he_1, he_2]; exact hP) (by (try dsimp only); rw [he_1, he_2]; exact hD)
def z5_polar (gm : Nat → Int32) (ff : Nat → Int64) (fx : Nat → Int64) (gp : Nat → Int32) (gl : Nat → Int32) (gc : Nat → Int32) (c : Int32) (p : Int32) : Int32 × (Nat → Int32) × (Nat → Int32) := if (z5_isOf_2 gm c) = 0 then ((-1000002), gm, gl) else if (z5_isOf_0 gm p) = 0 then ((-1000002), gm, gl) else (z5_keepTimes_1 gm ff (z5_layConic_f2 gc fx c) gp gl p, z5_keepTimes_1_f1 gm ff (z5_layConic_f2 gc fx c) gp gl p, z5_keepTimes_1_f5 gm ff (z5_layConic_f2 gc fx c) gp gl p)
set_option maxHeartbeats 4000000 in
set_option maxRecDepth 100000 in
/-- X5.polar -/
theorem c_X5_polar (l : Launch) (D : va_G) (cI cJ : ClassId) (o : Nat) (mP : Nat) (mL : Nat) (mC : Nat) (mN : Nat) (mF : Nat) (mR : Nat) (mD : Nat) (mV : Nat) (mX : Nat) (mA : Nat) (mK : Nat) (mT : Nat) (mU : Nat) (mH : Nat) (mI : Nat) (cm : Int32) (pm : Int32) (gm : Nat → Int32) (ff : Nat → Int64) (fx : Nat → Int64) (gp : Nat → Int32) (gl : Nat → Int32) (gc : Nat → Int32) (c : Int32) (p : Int32) (hm0 : n_ok (gm 0)) (hm1 : n_ok (gm 1)) (hm2 : n_ok (gm 2)) : mw_C l yX5_polar wsX5_polar ({ frames := 4, cells := 0, slots := 0, locals := 106 }) D cI cJ [.ref o, .int c, .int p] [kM o mP mL mC mN mF mR mD mV mX mA mK cm mT pm mU mH mI, kA mN cI 3 gm, kJ mF cJ 6 ff, kJ mX cJ 9 fx, kA mP cI 180 gp, kA mL cI 180 gl, kA mC cI 360 gc] (qe_i (fun (r : Int32) (_ : (Nat → Int64) × (Nat → Int64)) => r = (z5_polar gm ff fx gp gl gc c p).1) (fun uu => [kM o mP mL mC mN mF mR mD mV mX mA mK cm mT pm mU mH mI, kA mN cI 3 ((z5_polar gm ff fx gp gl gc c p).2.1), kJ mF cJ 6 uu.1, kJ mX cJ 9 uu.2, kA mP cI 180 gp, kA mL cI 180 ((z5_polar gm ff fx gp gl gc c p).2.2), kA mC cI 360 gc])) := by
  refine mw_in (cc := cX5_polar) (lv := [(0, .ref o), (1, .int c), (2, .int p)]) (by decide) rfl (Nat.le_of_ble_eq_true rfl) rfl ?_
  intro pG eG sG mG below meth cG ls A hx hb hr hml hown hts hlk hin hP hK hD hA hS hl
  have hown : sG.vm.findClass RX5 = some mG.cls := hown
  have k_1 := hts (.constant RX5 101 (-1000002)) (by decide +kernel)
  have k_2 := hts (.fieldLink RX5 35 "ConicRowsModel" "matrix" "[J") (by decide +kernel)
  have k_3 : ∀ w ∈ wsX50, w ∈ wsX5_polar := by decide +kernel
  refine lv_aload_n hx hb dX5_polar_0 rfl (lv_at hl 0 rfl) ?_
  refine lv_iconst (v := 2) hx hb dX5_polar_1 (by decide) ?_
  refine lv_iload_n hx hb dX5_polar_2 rfl (lv_at hl 1 rfl) ?_
  have hPc := hP.sub (ws' := [kM o mP mL mC mN mF mR mD mV mX mA mK cm mT pm mU mH mI, kA mN cI 3 gm]) [0, 1] rfl
  refine cr_i (va_runV (As := [.int 2, .int c]) (rest := []) ⟨hx, hb, hml, hown, hts⟩ (c_X5_isOf_2 l D cI cJ o mP mL mC mN mF mR mD mV mX mA mK mT mU mH mI cm pm gm c) (cwV 2 hts gX5_polar_X5_isOf rfl rfl rfl (by decide +kernel) ⟨Nat.le_of_ble_eq_true rfl, Nat.le_of_ble_eq_true rfl⟩) ⟨gd_blR, va_recv hK.1 hPc (ci := 5) (q0 := 0) rfl rfl, gd_prR hPc hK⟩ rfl rfl hl.1 rfl (lv_room (Nat.le_of_ble_eq_true rfl)) dX5_polar_3 ⟨Nat.zero_le _, Nat.zero_le _⟩) (fun r_3 hw => ?_)
  subst hw
  clear hPc
  refine lv_if_eq (tgt := 18) hx hb dX5_polar_6 (by decide) (fun c_1 => ?_) (fun c_1 => ?_)
  · skip
    refine lv_ldc hx hb hown k_1 dX5_polar_18 ?_
    have he : z5_polar gm ff fx gp gl gc c p = ((-1000002), gm, gl) := by unfold z5_polar; rw [if_pos c_1]
    have he_0 : (z5_polar gm ff fx gp gl gc c p).1 = (-1000002) := by rw [he]
    have he_1 : (z5_polar gm ff fx gp gl gc c p).2.1 = gm := by rw [he]
    have he_2 : (z5_polar gm ff fx gp gl gc c p).2.2 = gl := by rw [he]
    exact rt_i (w1 := fun uu : (Nat → Int64) × (Nat → Int64) => [kM o mP mL mC mN mF mR mD mV mX mA mK cm mT pm mU mH mI, kA mN cI 3 ((z5_polar gm ff fx gp gl gc c p).2.1), kJ mF cJ 6 uu.1, kJ mX cJ 9 uu.2, kA mP cI 180 gp, kA mL cI 180 ((z5_polar gm ff fx gp gl gc c p).2.2), kA mC cI 360 gc]) hx hb hr hlk hS dX5_polar_20 ((ff, fx)) he_0.symm (by (try dsimp only); rw [he_1, he_2]; exact hP) (by (try dsimp only); rw [he_1, he_2]; exact hD)
  · skip
    refine lv_aload_n hx hb dX5_polar_9 rfl (lv_at hl 0 rfl) ?_
    refine lv_iconst (v := 0) hx hb dX5_polar_10 (by decide) ?_
    refine lv_iload_n hx hb dX5_polar_11 rfl (lv_at hl 2 rfl) ?_
    have hPc := hP.sub (ws' := [kM o mP mL mC mN mF mR mD mV mX mA mK cm mT pm mU mH mI, kA mN cI 3 gm]) [0, 1] rfl
    refine cr_i (va_runV (As := [.int 0, .int p]) (rest := []) ⟨hx, hb, hml, hown, hts⟩ (c_X5_isOf_0 l D cI cJ o mP mL mC mN mF mR mD mV mX mA mK mT mU mH mI cm pm gm p) (cwV 2 hts gX5_polar_X5_isOf rfl rfl rfl (by decide +kernel) ⟨Nat.le_of_ble_eq_true rfl, Nat.le_of_ble_eq_true rfl⟩) ⟨gd_blR, va_recv hK.1 hPc (ci := 5) (q0 := 0) rfl rfl, gd_prR hPc hK⟩ rfl rfl hl.1 rfl (lv_room (Nat.le_of_ble_eq_true rfl)) dX5_polar_12 ⟨Nat.zero_le _, Nat.zero_le _⟩) (fun r_12 hw => ?_)
    subst hw
    clear hPc
    refine lv_if_ne (tgt := 21) hx hb dX5_polar_15 (by decide) (fun c_2 => ?_) (fun c_2 => ?_)
    · skip
      refine lv_aload_n hx hb dX5_polar_21 rfl (lv_at hl 0 rfl) ?_
      refine lv_iload_n hx hb dX5_polar_22 rfl (lv_at hl 1 rfl) ?_
      have hPc := hP.sub (ws' := [kM o mP mL mC mN mF mR mD mV mX mA mK cm mT pm mU mH mI, kA mC cI 360 gc, kJ mX cJ 9 fx]) [0, 6, 3] rfl
      have hDc := hD.sub (ws' := [kM o mP mL mC mN mF mR mD mV mX mA mK cm mT pm mU mH mI, kA mC cI 360 gc, kJ mX cJ 9 fx]) [0, 6, 3] (by decide) rfl
      refine cl_v (wc := [kM o mP mL mC mN mF mR mD mV mX mA mK cm mT pm mU mH mI, kA mC cI 360 gc, kJ mX cJ 9 fx]) (wr := [kA mN cI 3 gm, kJ mF cJ 6 ff, kA mP cI 180 gp, kA mL cI 180 gl]) (w1 := fun uu : Unit => [kM o mP mL mC mN mF mR mD mV mX mA mK cm mT pm mU mH mI, kA mC cI 360 gc, kJ mX cJ 9 (z5_layConic_f2 gc fx c)]) (wn := fun uu : Unit => [kM o mP mL mC mN mF mR mD mV mX mA mK cm mT pm mU mH mI, kA mN cI 3 gm, kJ mF cJ 6 ff, kJ mX cJ 9 (z5_layConic_f2 gc fx c), kA mP cI 180 gp, kA mL cI 180 gl, kA mC cI 360 gc]) (va_runV (As := [.int c]) (rest := []) ⟨hx, hb, hml, hown, hts⟩ (c_X5_layConic l D cI cJ o mP mL mC mN mF mR mD mV mX mA mK mT mU mH mI cm pm gc fx c (ok_of hm2 c_1) _) (cwV 1 hts gX5_polar_X5_layConic rfl rfl rfl (by decide +kernel) ⟨Nat.le_of_ble_eq_true rfl, Nat.le_of_ble_eq_true rfl⟩) ⟨gd_blP, va_recv hK.1 hPc (ci := 5) (q0 := 0) rfl rfl, gd_prP hPc hK hDc⟩ rfl rfl hl.1 rfl (lv_room (Nat.le_of_ble_eq_true rfl)) dX5_polar_23 ⟨Nat.zero_le _, Nat.zero_le _⟩) hP hD hS hA [0, 6, 3] [1, 2, 4, 5] rfl rfl (by decide) (by decide) [4, 0, 1, 6, 2, 3, 5] (by decide) (fun _ => rfl) (fun uG H locs hw hP hD hS => ?_)
      have hP : va_P D vwCl [kM o mP mL mC mN mF mR mD mV mX mA mK cm mT pm mU mH mI, kA mN cI 3 gm, kJ mF cJ 6 ff, kJ mX cJ 9 (z5_layConic_f2 gc fx c), kA mP cI 180 gp, kA mL cI 180 gl, kA mC cI 360 gc] H := hP
      have hD : va_D A [kM o mP mL mC mN mF mR mD mV mX mA mK cm mT pm mU mH mI, kA mN cI 3 gm, kJ mF cJ 6 ff, kJ mX cJ 9 (z5_layConic_f2 gc fx c), kA mP cI 180 gp, kA mL cI 180 gl, kA mC cI 360 gc] := hD
      clear hPc hDc
      refine lv_aload_n hx hb dX5_polar_26 rfl (lv_at hl 0 rfl) ?_
      refine lv_iconst (v := 1) hx hb dX5_polar_27 (by decide) ?_
      refine lv_aload_n hx hb dX5_polar_28 rfl (lv_at hl 0 rfl) ?_
      refine va_get (D := D) (ci := 5) (v := .ref mX) (C := RX5) (T := TX5) (N := 17) hx hb hts k_3 hown hK.1 hP 0 rfl rfl 8 (by decide) k_2 (fun _ h9 => h9) rfl dX5_polar_29 ?_
      refine lv_iconst (v := 0) hx hb dX5_polar_32 (by decide) ?_
      refine lv_iload_n hx hb dX5_polar_33 rfl (lv_at hl 2 rfl) ?_
      have hPc := hP.sub (ws' := [kM o mP mL mC mN mF mR mD mV mX mA mK cm mT pm mU mH mI, kA mN cI 3 gm, kJ mF cJ 6 ff, kJ mX cJ 9 (z5_layConic_f2 gc fx c), kA mP cI 180 gp, kA mL cI 180 gl]) [0, 1, 2, 3, 4, 5] rfl
      have hDc := hD.sub (ws' := [kM o mP mL mC mN mF mR mD mV mX mA mK cm mT pm mU mH mI, kA mN cI 3 gm, kJ mF cJ 6 ff, kJ mX cJ 9 (z5_layConic_f2 gc fx c), kA mP cI 180 gp, kA mL cI 180 gl]) [0, 1, 2, 3, 4, 5] (by decide) rfl
      refine cl_i (wc := [kM o mP mL mC mN mF mR mD mV mX mA mK cm mT pm mU mH mI, kA mN cI 3 gm, kJ mF cJ 6 ff, kJ mX cJ 9 (z5_layConic_f2 gc fx c), kA mP cI 180 gp, kA mL cI 180 gl]) (wr := [kA mC cI 360 gc]) (w1 := fun uu : (Nat → Int64) => [kM o mP mL mC mN mF mR mD mV mX mA mK cm mT pm mU mH mI, kA mN cI 3 (z5_keepTimes_1_f1 gm ff (z5_layConic_f2 gc fx c) gp gl p), kJ mF cJ 6 uu, kJ mX cJ 9 (z5_layConic_f2 gc fx c), kA mP cI 180 gp, kA mL cI 180 (z5_keepTimes_1_f5 gm ff (z5_layConic_f2 gc fx c) gp gl p)]) (wn := fun uu : (Nat → Int64) => [kM o mP mL mC mN mF mR mD mV mX mA mK cm mT pm mU mH mI, kA mN cI 3 (z5_keepTimes_1_f1 gm ff (z5_layConic_f2 gc fx c) gp gl p), kJ mF cJ 6 uu, kJ mX cJ 9 (z5_layConic_f2 gc fx c), kA mP cI 180 gp, kA mL cI 180 (z5_keepTimes_1_f5 gm ff (z5_layConic_f2 gc fx c) gp gl p), kA mC cI 360 gc]) (va_runV (As := [.int 1, .ref mX, .int 0, .int p]) (rest := []) ⟨hx, hb, hml, hown, hts⟩ (c_X5_keepTimes_1 l D cI cJ o mP mL mC mN mF mR mD mV mX mA mK mT mU mH mI cm pm mX gm ff (z5_layConic_f2 gc fx c) gp gl p hm1 (ok_of hm0 c_2) _) (cwV 4 hts gX5_polar_X5_keepTimes rfl rfl rfl (by decide +kernel) ⟨Nat.le_of_ble_eq_true rfl, Nat.le_of_ble_eq_true rfl⟩) ⟨gd_blP, va_recv hK.1 hPc (ci := 5) (q0 := 0) rfl rfl, gd_prP hPc hK hDc⟩ rfl rfl hl.1 rfl (lv_room (Nat.le_of_ble_eq_true rfl)) dX5_polar_34 ⟨Nat.zero_le _, Nat.zero_le _⟩) hP hD hS hA [0, 1, 2, 3, 4, 5] [6] rfl rfl (by decide) (by decide) [1, 2, 3, 4, 5, 6, 0] (by decide) (fun _ => rfl) (fun r_34 uG H locs hw hP hD hS => ?_)
      obtain ⟨y_34_0_1, rfl⟩ : ∃ z, z = uG := ⟨_, rfl⟩
      have hP : va_P D vwCl [kM o mP mL mC mN mF mR mD mV mX mA mK cm mT pm mU mH mI, kA mN cI 3 (z5_keepTimes_1_f1 gm ff (z5_layConic_f2 gc fx c) gp gl p), kJ mF cJ 6 y_34_0_1, kJ mX cJ 9 (z5_layConic_f2 gc fx c), kA mP cI 180 gp, kA mL cI 180 (z5_keepTimes_1_f5 gm ff (z5_layConic_f2 gc fx c) gp gl p), kA mC cI 360 gc] H := hP
      have hD : va_D A [kM o mP mL mC mN mF mR mD mV mX mA mK cm mT pm mU mH mI, kA mN cI 3 (z5_keepTimes_1_f1 gm ff (z5_layConic_f2 gc fx c) gp gl p), kJ mF cJ 6 y_34_0_1, kJ mX cJ 9 (z5_layConic_f2 gc fx c), kA mP cI 180 gp, kA mL cI 180 (z5_keepTimes_1_f5 gm ff (z5_layConic_f2 gc fx c) gp gl p), kA mC cI 360 gc] := hD
      subst hw
      clear hPc hDc
      have he : z5_polar gm ff fx gp gl gc c p = (z5_keepTimes_1 gm ff (z5_layConic_f2 gc fx c) gp gl p, z5_keepTimes_1_f1 gm ff (z5_layConic_f2 gc fx c) gp gl p, z5_keepTimes_1_f5 gm ff (z5_layConic_f2 gc fx c) gp gl p) := by unfold z5_polar; rw [if_neg c_1, if_neg c_2]
      have he_0 : (z5_polar gm ff fx gp gl gc c p).1 = z5_keepTimes_1 gm ff (z5_layConic_f2 gc fx c) gp gl p := by rw [he]
      have he_1 : (z5_polar gm ff fx gp gl gc c p).2.1 = z5_keepTimes_1_f1 gm ff (z5_layConic_f2 gc fx c) gp gl p := by rw [he]
      have he_2 : (z5_polar gm ff fx gp gl gc c p).2.2 = z5_keepTimes_1_f5 gm ff (z5_layConic_f2 gc fx c) gp gl p := by rw [he]
      exact rt_i (w1 := fun uu : (Nat → Int64) × (Nat → Int64) => [kM o mP mL mC mN mF mR mD mV mX mA mK cm mT pm mU mH mI, kA mN cI 3 ((z5_polar gm ff fx gp gl gc c p).2.1), kJ mF cJ 6 uu.1, kJ mX cJ 9 uu.2, kA mP cI 180 gp, kA mL cI 180 ((z5_polar gm ff fx gp gl gc c p).2.2), kA mC cI 360 gc]) hx hb hr hlk hS dX5_polar_37 ((y_34_0_1, (z5_layConic_f2 gc fx c))) he_0.symm (by (try dsimp only); rw [he_1, he_2]; exact hP) (by (try dsimp only); rw [he_1, he_2]; exact hD)
    · skip
      refine lv_ldc hx hb hown k_1 dX5_polar_18 ?_
      have he : z5_polar gm ff fx gp gl gc c p = ((-1000002), gm, gl) := by unfold z5_polar; rw [if_neg c_1, if_pos c_2]
      have he_0 : (z5_polar gm ff fx gp gl gc c p).1 = (-1000002) := by rw [he]
      have he_1 : (z5_polar gm ff fx gp gl gc c p).2.1 = gm := by rw [he]
      have he_2 : (z5_polar gm ff fx gp gl gc c p).2.2 = gl := by rw [he]
      exact rt_i (w1 := fun uu : (Nat → Int64) × (Nat → Int64) => [kM o mP mL mC mN mF mR mD mV mX mA mK cm mT pm mU mH mI, kA mN cI 3 ((z5_polar gm ff fx gp gl gc c p).2.1), kJ mF cJ 6 uu.1, kJ mX cJ 9 uu.2, kA mP cI 180 gp, kA mL cI 180 ((z5_polar gm ff fx gp gl gc c p).2.2), kA mC cI 360 gc]) hx hb hr hlk hS dX5_polar_20 ((ff, fx)) he_0.symm (by (try dsimp only); rw [he_1, he_2]; exact hP) (by (try dsimp only); rw [he_1, he_2]; exact hD)
def z5_pole (gm : Nat → Int32) (ff : Nat → Int64) (fx : Nat → Int64) (fa : Nat → Int64) (gp : Nat → Int32) (gl : Nat → Int32) (gc : Nat → Int32) (c : Int32) (i : Int32) : Int32 × (Nat → Int32) × (Nat → Int32) := if (z5_isOf_2 gm c) = 0 then ((-1000002), gm, gp) else if (z5_isOf_1 gm i) = 0 then ((-1000002), gm, gp) else if (z5_detOf gc fx fa c) = 0 then ((-1000004), gm, gp) else (z5_keepTimes_0 gm ff (z5_detOf_f3 gc fx fa c) gp gl i, z5_keepTimes_0_f1 gm ff (z5_detOf_f3 gc fx fa c) gp gl i, z5_keepTimes_0_f4 gm ff (z5_detOf_f3 gc fx fa c) gp gl i)
set_option maxHeartbeats 4000000 in
set_option maxRecDepth 100000 in
/-- X5.pole -/
theorem c_X5_pole (l : Launch) (D : va_G) (cI cJ : ClassId) (o : Nat) (mP : Nat) (mL : Nat) (mC : Nat) (mN : Nat) (mF : Nat) (mR : Nat) (mD : Nat) (mV : Nat) (mX : Nat) (mA : Nat) (mK : Nat) (mT : Nat) (mU : Nat) (mH : Nat) (mI : Nat) (cm : Int32) (pm : Int32) (gm : Nat → Int32) (ff : Nat → Int64) (fx : Nat → Int64) (fa : Nat → Int64) (gp : Nat → Int32) (gl : Nat → Int32) (gc : Nat → Int32) (c : Int32) (i : Int32) (hm0 : n_ok (gm 0)) (hm1 : n_ok (gm 1)) (hm2 : n_ok (gm 2)) : mw_C l yX5_pole wsX5_pole ({ frames := 4, cells := 0, slots := 0, locals := 106 }) D cI cJ [.ref o, .int c, .int i] [kM o mP mL mC mN mF mR mD mV mX mA mK cm mT pm mU mH mI, kA mN cI 3 gm, kJ mF cJ 6 ff, kJ mX cJ 9 fx, kJ mA cJ 9 fa, kA mP cI 180 gp, kA mL cI 180 gl, kA mC cI 360 gc] (qe_i (fun (r : Int32) (_ : (Nat → Int64) × (Nat → Int64) × (Nat → Int64)) => r = (z5_pole gm ff fx fa gp gl gc c i).1) (fun uu => [kM o mP mL mC mN mF mR mD mV mX mA mK cm mT pm mU mH mI, kA mN cI 3 ((z5_pole gm ff fx fa gp gl gc c i).2.1), kJ mF cJ 6 uu.1, kJ mX cJ 9 uu.2.1, kJ mA cJ 9 uu.2.2, kA mP cI 180 ((z5_pole gm ff fx fa gp gl gc c i).2.2), kA mL cI 180 gl, kA mC cI 360 gc])) := by
  refine mw_in (cc := cX5_pole) (lv := [(0, .ref o), (1, .int c), (2, .int i)]) (by decide) rfl (Nat.le_of_ble_eq_true rfl) rfl ?_
  intro pG eG sG mG below meth cG ls A hx hb hr hml hown hts hlk hin hP hK hD hA hS hl
  have hown : sG.vm.findClass RX5 = some mG.cls := hown
  have k_1 := hts (.constant RX5 101 (-1000002)) (by decide +kernel)
  have k_2 := hts (.fieldLink RX5 38 "ConicRowsModel" "adjoint" "[J") (by decide +kernel)
  have k_3 : ∀ w ∈ wsX50, w ∈ wsX5_pole := by decide +kernel
  have k_4 := hts (.constant RX5 106 (-1000004)) (by decide +kernel)
  refine lv_aload_n hx hb dX5_pole_0 rfl (lv_at hl 0 rfl) ?_
  refine lv_iconst (v := 2) hx hb dX5_pole_1 (by decide) ?_
  refine lv_iload_n hx hb dX5_pole_2 rfl (lv_at hl 1 rfl) ?_
  have hPc := hP.sub (ws' := [kM o mP mL mC mN mF mR mD mV mX mA mK cm mT pm mU mH mI, kA mN cI 3 gm]) [0, 1] rfl
  refine cr_i (va_runV (As := [.int 2, .int c]) (rest := []) ⟨hx, hb, hml, hown, hts⟩ (c_X5_isOf_2 l D cI cJ o mP mL mC mN mF mR mD mV mX mA mK mT mU mH mI cm pm gm c) (cwV 2 hts gX5_pole_X5_isOf rfl rfl rfl (by decide +kernel) ⟨Nat.le_of_ble_eq_true rfl, Nat.le_of_ble_eq_true rfl⟩) ⟨gd_blR, va_recv hK.1 hPc (ci := 5) (q0 := 0) rfl rfl, gd_prR hPc hK⟩ rfl rfl hl.1 rfl (lv_room (Nat.le_of_ble_eq_true rfl)) dX5_pole_3 ⟨Nat.zero_le _, Nat.zero_le _⟩) (fun r_3 hw => ?_)
  subst hw
  clear hPc
  refine lv_if_eq (tgt := 18) hx hb dX5_pole_6 (by decide) (fun c_1 => ?_) (fun c_1 => ?_)
  · skip
    refine lv_ldc hx hb hown k_1 dX5_pole_18 ?_
    have he : z5_pole gm ff fx fa gp gl gc c i = ((-1000002), gm, gp) := by unfold z5_pole; rw [if_pos c_1]
    have he_0 : (z5_pole gm ff fx fa gp gl gc c i).1 = (-1000002) := by rw [he]
    have he_1 : (z5_pole gm ff fx fa gp gl gc c i).2.1 = gm := by rw [he]
    have he_2 : (z5_pole gm ff fx fa gp gl gc c i).2.2 = gp := by rw [he]
    exact rt_i (w1 := fun uu : (Nat → Int64) × (Nat → Int64) × (Nat → Int64) => [kM o mP mL mC mN mF mR mD mV mX mA mK cm mT pm mU mH mI, kA mN cI 3 ((z5_pole gm ff fx fa gp gl gc c i).2.1), kJ mF cJ 6 uu.1, kJ mX cJ 9 uu.2.1, kJ mA cJ 9 uu.2.2, kA mP cI 180 ((z5_pole gm ff fx fa gp gl gc c i).2.2), kA mL cI 180 gl, kA mC cI 360 gc]) hx hb hr hlk hS dX5_pole_20 ((ff, fx, fa)) he_0.symm (by (try dsimp only); rw [he_1, he_2]; exact hP) (by (try dsimp only); rw [he_1, he_2]; exact hD)
  · skip
    refine lv_aload_n hx hb dX5_pole_9 rfl (lv_at hl 0 rfl) ?_
    refine lv_iconst (v := 1) hx hb dX5_pole_10 (by decide) ?_
    refine lv_iload_n hx hb dX5_pole_11 rfl (lv_at hl 2 rfl) ?_
    have hPc := hP.sub (ws' := [kM o mP mL mC mN mF mR mD mV mX mA mK cm mT pm mU mH mI, kA mN cI 3 gm]) [0, 1] rfl
    refine cr_i (va_runV (As := [.int 1, .int i]) (rest := []) ⟨hx, hb, hml, hown, hts⟩ (c_X5_isOf_1 l D cI cJ o mP mL mC mN mF mR mD mV mX mA mK mT mU mH mI cm pm gm i) (cwV 2 hts gX5_pole_X5_isOf rfl rfl rfl (by decide +kernel) ⟨Nat.le_of_ble_eq_true rfl, Nat.le_of_ble_eq_true rfl⟩) ⟨gd_blR, va_recv hK.1 hPc (ci := 5) (q0 := 0) rfl rfl, gd_prR hPc hK⟩ rfl rfl hl.1 rfl (lv_room (Nat.le_of_ble_eq_true rfl)) dX5_pole_12 ⟨Nat.zero_le _, Nat.zero_le _⟩) (fun r_12 hw => ?_)
    subst hw
    clear hPc
    refine lv_if_ne (tgt := 21) hx hb dX5_pole_15 (by decide) (fun c_2 => ?_) (fun c_2 => ?_)
    · skip
      refine lv_aload_n hx hb dX5_pole_21 rfl (lv_at hl 0 rfl) ?_
      refine lv_iload_n hx hb dX5_pole_22 rfl (lv_at hl 1 rfl) ?_
      have hPc := hP.sub (ws' := [kM o mP mL mC mN mF mR mD mV mX mA mK cm mT pm mU mH mI, kA mC cI 360 gc, kJ mX cJ 9 fx, kJ mA cJ 9 fa]) [0, 7, 3, 4] rfl
      have hDc := hD.sub (ws' := [kM o mP mL mC mN mF mR mD mV mX mA mK cm mT pm mU mH mI, kA mC cI 360 gc, kJ mX cJ 9 fx, kJ mA cJ 9 fa]) [0, 7, 3, 4] (by decide) rfl
      refine cl_l (wc := [kM o mP mL mC mN mF mR mD mV mX mA mK cm mT pm mU mH mI, kA mC cI 360 gc, kJ mX cJ 9 fx, kJ mA cJ 9 fa]) (wr := [kA mN cI 3 gm, kJ mF cJ 6 ff, kA mP cI 180 gp, kA mL cI 180 gl]) (w1 := fun uu : Unit => [kM o mP mL mC mN mF mR mD mV mX mA mK cm mT pm mU mH mI, kA mC cI 360 gc, kJ mX cJ 9 (z5_detOf_f2 gc fx c), kJ mA cJ 9 (z5_detOf_f3 gc fx fa c)]) (wn := fun uu : Unit => [kM o mP mL mC mN mF mR mD mV mX mA mK cm mT pm mU mH mI, kA mN cI 3 gm, kJ mF cJ 6 ff, kJ mX cJ 9 (z5_detOf_f2 gc fx c), kJ mA cJ 9 (z5_detOf_f3 gc fx fa c), kA mP cI 180 gp, kA mL cI 180 gl, kA mC cI 360 gc]) (va_runV (As := [.int c]) (rest := []) ⟨hx, hb, hml, hown, hts⟩ (c_X5_detOf l D cI cJ o mP mL mC mN mF mR mD mV mX mA mK mT mU mH mI cm pm gc fx fa c (ok_of hm2 c_1) _) (cwV 1 hts gX5_pole_X5_detOf rfl rfl rfl (by decide +kernel) ⟨Nat.le_of_ble_eq_true rfl, Nat.le_of_ble_eq_true rfl⟩) ⟨gd_blP, va_recv hK.1 hPc (ci := 5) (q0 := 0) rfl rfl, gd_prP hPc hK hDc⟩ rfl rfl hl.1 rfl (lv_room (Nat.le_of_ble_eq_true rfl)) dX5_pole_23 ⟨Nat.zero_le _, Nat.zero_le _⟩) hP hD hS hA [0, 7, 3, 4] [1, 2, 5, 6] rfl rfl (by decide) (by decide) [4, 0, 1, 6, 7, 2, 3, 5] (by decide) (fun _ => rfl) (fun r_23 uG H locs hw hP hD hS => ?_)
      have hP : va_P D vwCl [kM o mP mL mC mN mF mR mD mV mX mA mK cm mT pm mU mH mI, kA mN cI 3 gm, kJ mF cJ 6 ff, kJ mX cJ 9 (z5_detOf_f2 gc fx c), kJ mA cJ 9 (z5_detOf_f3 gc fx fa c), kA mP cI 180 gp, kA mL cI 180 gl, kA mC cI 360 gc] H := hP
      have hD : va_D A [kM o mP mL mC mN mF mR mD mV mX mA mK cm mT pm mU mH mI, kA mN cI 3 gm, kJ mF cJ 6 ff, kJ mX cJ 9 (z5_detOf_f2 gc fx c), kJ mA cJ 9 (z5_detOf_f3 gc fx fa c), kA mP cI 180 gp, kA mL cI 180 gl, kA mC cI 360 gc] := hD
      subst hw
      clear hPc hDc
      refine lv_lconst (v := 0) hx hb dX5_pole_26 (by decide) ?_
      refine lb_ne (tgt := 36) hx hb dX5_pole_27 rfl dX5_pole_28 (by decide) (fun c_3 => ?_) (fun c_3 => ?_)
      · skip
        refine lv_aload_n hx hb dX5_pole_36 rfl (lv_at hl 0 rfl) ?_
        refine lv_iconst (v := 0) hx hb dX5_pole_37 (by decide) ?_
        refine lv_aload_n hx hb dX5_pole_38 rfl (lv_at hl 0 rfl) ?_
        refine va_get (D := D) (ci := 5) (v := .ref mA) (C := RX5) (T := TX5) (N := 17) hx hb hts k_3 hown hK.1 hP 0 rfl rfl 9 (by decide) k_2 (fun _ h9 => h9) rfl dX5_pole_39 ?_
        refine lv_iconst (v := 1) hx hb dX5_pole_42 (by decide) ?_
        refine lv_iload_n hx hb dX5_pole_43 rfl (lv_at hl 2 rfl) ?_
        have hPc := hP.sub (ws' := [kM o mP mL mC mN mF mR mD mV mX mA mK cm mT pm mU mH mI, kA mN cI 3 gm, kJ mF cJ 6 ff, kJ mA cJ 9 (z5_detOf_f3 gc fx fa c), kA mP cI 180 gp, kA mL cI 180 gl]) [0, 1, 2, 4, 5, 6] rfl
        have hDc := hD.sub (ws' := [kM o mP mL mC mN mF mR mD mV mX mA mK cm mT pm mU mH mI, kA mN cI 3 gm, kJ mF cJ 6 ff, kJ mA cJ 9 (z5_detOf_f3 gc fx fa c), kA mP cI 180 gp, kA mL cI 180 gl]) [0, 1, 2, 4, 5, 6] (by decide) rfl
        refine cl_i (wc := [kM o mP mL mC mN mF mR mD mV mX mA mK cm mT pm mU mH mI, kA mN cI 3 gm, kJ mF cJ 6 ff, kJ mA cJ 9 (z5_detOf_f3 gc fx fa c), kA mP cI 180 gp, kA mL cI 180 gl]) (wr := [kJ mX cJ 9 (z5_detOf_f2 gc fx c), kA mC cI 360 gc]) (w1 := fun uu : (Nat → Int64) => [kM o mP mL mC mN mF mR mD mV mX mA mK cm mT pm mU mH mI, kA mN cI 3 (z5_keepTimes_0_f1 gm ff (z5_detOf_f3 gc fx fa c) gp gl i), kJ mF cJ 6 uu, kJ mA cJ 9 (z5_detOf_f3 gc fx fa c), kA mP cI 180 (z5_keepTimes_0_f4 gm ff (z5_detOf_f3 gc fx fa c) gp gl i), kA mL cI 180 gl]) (wn := fun uu : (Nat → Int64) => [kM o mP mL mC mN mF mR mD mV mX mA mK cm mT pm mU mH mI, kA mN cI 3 (z5_keepTimes_0_f1 gm ff (z5_detOf_f3 gc fx fa c) gp gl i), kJ mF cJ 6 uu, kJ mX cJ 9 (z5_detOf_f2 gc fx c), kJ mA cJ 9 (z5_detOf_f3 gc fx fa c), kA mP cI 180 (z5_keepTimes_0_f4 gm ff (z5_detOf_f3 gc fx fa c) gp gl i), kA mL cI 180 gl, kA mC cI 360 gc]) (va_runV (As := [.int 0, .ref mA, .int 1, .int i]) (rest := []) ⟨hx, hb, hml, hown, hts⟩ (c_X5_keepTimes_0 l D cI cJ o mP mL mC mN mF mR mD mV mX mA mK mT mU mH mI cm pm mA gm ff (z5_detOf_f3 gc fx fa c) gp gl i hm0 (ok_of hm1 c_2) _) (cwV 4 hts gX5_pole_X5_keepTimes rfl rfl rfl (by decide +kernel) ⟨Nat.le_of_ble_eq_true rfl, Nat.le_of_ble_eq_true rfl⟩) ⟨gd_blP, va_recv hK.1 hPc (ci := 5) (q0 := 0) rfl rfl, gd_prP hPc hK hDc⟩ rfl rfl hl.1 rfl (lv_room (Nat.le_of_ble_eq_true rfl)) dX5_pole_44 ⟨Nat.zero_le _, Nat.zero_le _⟩) hP hD hS hA [0, 1, 2, 4, 5, 6] [3, 7] rfl rfl (by decide) (by decide) [2, 3, 4, 0, 5, 6, 7, 1] (by decide) (fun _ => rfl) (fun r_44 uG H locs hw hP hD hS => ?_)
        obtain ⟨y_44_0_1, rfl⟩ : ∃ z, z = uG := ⟨_, rfl⟩
        have hP : va_P D vwCl [kM o mP mL mC mN mF mR mD mV mX mA mK cm mT pm mU mH mI, kA mN cI 3 (z5_keepTimes_0_f1 gm ff (z5_detOf_f3 gc fx fa c) gp gl i), kJ mF cJ 6 y_44_0_1, kJ mX cJ 9 (z5_detOf_f2 gc fx c), kJ mA cJ 9 (z5_detOf_f3 gc fx fa c), kA mP cI 180 (z5_keepTimes_0_f4 gm ff (z5_detOf_f3 gc fx fa c) gp gl i), kA mL cI 180 gl, kA mC cI 360 gc] H := hP
        have hD : va_D A [kM o mP mL mC mN mF mR mD mV mX mA mK cm mT pm mU mH mI, kA mN cI 3 (z5_keepTimes_0_f1 gm ff (z5_detOf_f3 gc fx fa c) gp gl i), kJ mF cJ 6 y_44_0_1, kJ mX cJ 9 (z5_detOf_f2 gc fx c), kJ mA cJ 9 (z5_detOf_f3 gc fx fa c), kA mP cI 180 (z5_keepTimes_0_f4 gm ff (z5_detOf_f3 gc fx fa c) gp gl i), kA mL cI 180 gl, kA mC cI 360 gc] := hD
        subst hw
        clear hPc hDc
        have he : z5_pole gm ff fx fa gp gl gc c i = (z5_keepTimes_0 gm ff (z5_detOf_f3 gc fx fa c) gp gl i, z5_keepTimes_0_f1 gm ff (z5_detOf_f3 gc fx fa c) gp gl i, z5_keepTimes_0_f4 gm ff (z5_detOf_f3 gc fx fa c) gp gl i) := by unfold z5_pole; rw [if_neg c_1, if_neg c_2, if_neg c_3]
        have he_0 : (z5_pole gm ff fx fa gp gl gc c i).1 = z5_keepTimes_0 gm ff (z5_detOf_f3 gc fx fa c) gp gl i := by rw [he]
        have he_1 : (z5_pole gm ff fx fa gp gl gc c i).2.1 = z5_keepTimes_0_f1 gm ff (z5_detOf_f3 gc fx fa c) gp gl i := by rw [he]
        have he_2 : (z5_pole gm ff fx fa gp gl gc c i).2.2 = z5_keepTimes_0_f4 gm ff (z5_detOf_f3 gc fx fa c) gp gl i := by rw [he]
        exact rt_i (w1 := fun uu : (Nat → Int64) × (Nat → Int64) × (Nat → Int64) => [kM o mP mL mC mN mF mR mD mV mX mA mK cm mT pm mU mH mI, kA mN cI 3 ((z5_pole gm ff fx fa gp gl gc c i).2.1), kJ mF cJ 6 uu.1, kJ mX cJ 9 uu.2.1, kJ mA cJ 9 uu.2.2, kA mP cI 180 ((z5_pole gm ff fx fa gp gl gc c i).2.2), kA mL cI 180 gl, kA mC cI 360 gc]) hx hb hr hlk hS dX5_pole_47 ((y_44_0_1, z5_detOf_f2 gc fx c, (z5_detOf_f3 gc fx fa c))) he_0.symm (by (try dsimp only); rw [he_1, he_2]; exact hP) (by (try dsimp only); rw [he_1, he_2]; exact hD)
      · skip
        refine lv_ldc hx hb hown k_4 dX5_pole_31 ?_
        refine lv_goto (tgt := 47) hx hb dX5_pole_33 (by decide) ?_
        have he : z5_pole gm ff fx fa gp gl gc c i = ((-1000004), gm, gp) := by unfold z5_pole; rw [if_neg c_1, if_neg c_2, if_pos c_3]
        have he_0 : (z5_pole gm ff fx fa gp gl gc c i).1 = (-1000004) := by rw [he]
        have he_1 : (z5_pole gm ff fx fa gp gl gc c i).2.1 = gm := by rw [he]
        have he_2 : (z5_pole gm ff fx fa gp gl gc c i).2.2 = gp := by rw [he]
        exact rt_i (w1 := fun uu : (Nat → Int64) × (Nat → Int64) × (Nat → Int64) => [kM o mP mL mC mN mF mR mD mV mX mA mK cm mT pm mU mH mI, kA mN cI 3 ((z5_pole gm ff fx fa gp gl gc c i).2.1), kJ mF cJ 6 uu.1, kJ mX cJ 9 uu.2.1, kJ mA cJ 9 uu.2.2, kA mP cI 180 ((z5_pole gm ff fx fa gp gl gc c i).2.2), kA mL cI 180 gl, kA mC cI 360 gc]) hx hb hr hlk hS dX5_pole_47 ((ff, z5_detOf_f2 gc fx c, z5_detOf_f3 gc fx fa c)) he_0.symm (by (try dsimp only); rw [he_1, he_2]; exact hP) (by (try dsimp only); rw [he_1, he_2]; exact hD)
    · skip
      refine lv_ldc hx hb hown k_1 dX5_pole_18 ?_
      have he : z5_pole gm ff fx fa gp gl gc c i = ((-1000002), gm, gp) := by unfold z5_pole; rw [if_neg c_1, if_pos c_2]
      have he_0 : (z5_pole gm ff fx fa gp gl gc c i).1 = (-1000002) := by rw [he]
      have he_1 : (z5_pole gm ff fx fa gp gl gc c i).2.1 = gm := by rw [he]
      have he_2 : (z5_pole gm ff fx fa gp gl gc c i).2.2 = gp := by rw [he]
      exact rt_i (w1 := fun uu : (Nat → Int64) × (Nat → Int64) × (Nat → Int64) => [kM o mP mL mC mN mF mR mD mV mX mA mK cm mT pm mU mH mI, kA mN cI 3 ((z5_pole gm ff fx fa gp gl gc c i).2.1), kJ mF cJ 6 uu.1, kJ mX cJ 9 uu.2.1, kJ mA cJ 9 uu.2.2, kA mP cI 180 ((z5_pole gm ff fx fa gp gl gc c i).2.2), kA mL cI 180 gl, kA mC cI 360 gc]) hx hb hr hlk hS dX5_pole_20 ((ff, fx, fa)) he_0.symm (by (try dsimp only); rw [he_1, he_2]; exact hP) (by (try dsimp only); rw [he_1, he_2]; exact hD)
def z5_centre_v1 (gm : Nat → Int32) (ff : Nat → Int64) (fx : Nat → Int64) (fa : Nat → Int64) (gp : Nat → Int32) (gc : Nat → Int32) (c : Int32) : Nat → Int32 := (z5_keep_0 gm (vp_updL (vp_updL (vp_updL ff 0 ((z5_layAdjoint_f2 (z5_layConic_f2 gc fx c) fa) 2)) 1 ((z5_layAdjoint_f2 (z5_layConic_f2 gc fx c) fa) 5)) 2 ((z5_layAdjoint_f2 (z5_layConic_f2 gc fx c) fa) 8)) gp (-1000004)).2.1
def z5_centre_v2 (gm : Nat → Int32) (ff : Nat → Int64) (fx : Nat → Int64) (fa : Nat → Int64) (gp : Nat → Int32) (gc : Nat → Int32) (c : Int32) : Nat → Int32 := (z5_keep_0 gm (vp_updL (vp_updL (vp_updL ff 0 ((z5_layAdjoint_f2 (z5_layConic_f2 gc fx c) fa) 2)) 1 ((z5_layAdjoint_f2 (z5_layConic_f2 gc fx c) fa) 5)) 2 ((z5_layAdjoint_f2 (z5_layConic_f2 gc fx c) fa) 8)) gp (-1000004)).2.2
def z5_centre_v3 (gm : Nat → Int32) (ff : Nat → Int64) (fx : Nat → Int64) (fa : Nat → Int64) (gp : Nat → Int32) (gc : Nat → Int32) (c : Int32) : Int32 := (z5_keep_0 gm (vp_updL (vp_updL (vp_updL ff 0 ((z5_layAdjoint_f2 (z5_layConic_f2 gc fx c) fa) 2)) 1 ((z5_layAdjoint_f2 (z5_layConic_f2 gc fx c) fa) 5)) 2 ((z5_layAdjoint_f2 (z5_layConic_f2 gc fx c) fa) 8)) gp (-1000004)).1
def z5_centre (gm : Nat → Int32) (ff : Nat → Int64) (fx : Nat → Int64) (fa : Nat → Int64) (gp : Nat → Int32) (gc : Nat → Int32) (c : Int32) : Int32 × (Nat → Int32) × (Nat → Int32) := if (z5_isOf_2 gm c) = 0 then ((-1000002), gm, gp) else (z5_centre_v3 gm ff fx fa gp gc c, z5_centre_v1 gm ff fx fa gp gc c, z5_centre_v2 gm ff fx fa gp gc c)
set_option maxHeartbeats 4000000 in
set_option maxRecDepth 100000 in
/-- X5.centre -/
theorem c_X5_centre (l : Launch) (D : va_G) (cI cJ : ClassId) (o : Nat) (mP : Nat) (mL : Nat) (mC : Nat) (mN : Nat) (mF : Nat) (mR : Nat) (mD : Nat) (mV : Nat) (mX : Nat) (mA : Nat) (mK : Nat) (mT : Nat) (mU : Nat) (mH : Nat) (mI : Nat) (cm : Int32) (pm : Int32) (gm : Nat → Int32) (ff : Nat → Int64) (fx : Nat → Int64) (fa : Nat → Int64) (gp : Nat → Int32) (gc : Nat → Int32) (c : Int32) (hm0 : n_ok (gm 0)) (hm2 : n_ok (gm 2)) : mw_C l yX5_centre wsX5_centre ({ frames := 3, cells := 0, slots := 0, locals := 80 }) D cI cJ [.ref o, .int c] [kM o mP mL mC mN mF mR mD mV mX mA mK cm mT pm mU mH mI, kA mN cI 3 gm, kJ mF cJ 6 ff, kJ mX cJ 9 fx, kJ mA cJ 9 fa, kA mP cI 180 gp, kA mC cI 360 gc] (qe_i (fun (r : Int32) (_ : (Nat → Int64) × (Nat → Int64) × (Nat → Int64)) => r = (z5_centre gm ff fx fa gp gc c).1) (fun uu => [kM o mP mL mC mN mF mR mD mV mX mA mK cm mT pm mU mH mI, kA mN cI 3 ((z5_centre gm ff fx fa gp gc c).2.1), kJ mF cJ 6 uu.1, kJ mX cJ 9 uu.2.1, kJ mA cJ 9 uu.2.2, kA mP cI 180 ((z5_centre gm ff fx fa gp gc c).2.2), kA mC cI 360 gc])) := by
  refine mw_in (cc := cX5_centre) (lv := [(0, .ref o), (1, .int c)]) (by decide) rfl (Nat.le_of_ble_eq_true rfl) rfl ?_
  intro pG eG sG mG below meth cG ls A hx hb hr hml hown hts hlk hin hP hK hD hA hS hl
  have hown : sG.vm.findClass RX5 = some mG.cls := hown
  have k_1 := hts (.fieldLink RX5 22 "ConicRowsModel" "fresh" "[J") (by decide +kernel)
  have k_2 : ∀ w ∈ wsX50, w ∈ wsX5_centre := by decide +kernel
  have k_3 := hts (.fieldLink RX5 38 "ConicRowsModel" "adjoint" "[J") (by decide +kernel)
  have k_4 := hts (.constant RX5 106 (-1000004)) (by decide +kernel)
  have k_5 := hts (.constant RX5 101 (-1000002)) (by decide +kernel)
  refine lv_aload_n hx hb dX5_centre_0 rfl (lv_at hl 0 rfl) ?_
  refine lv_iconst (v := 2) hx hb dX5_centre_1 (by decide) ?_
  refine lv_iload_n hx hb dX5_centre_2 rfl (lv_at hl 1 rfl) ?_
  have hPc := hP.sub (ws' := [kM o mP mL mC mN mF mR mD mV mX mA mK cm mT pm mU mH mI, kA mN cI 3 gm]) [0, 1] rfl
  refine cr_i (va_runV (As := [.int 2, .int c]) (rest := []) ⟨hx, hb, hml, hown, hts⟩ (c_X5_isOf_2 l D cI cJ o mP mL mC mN mF mR mD mV mX mA mK mT mU mH mI cm pm gm c) (cwV 2 hts gX5_centre_X5_isOf rfl rfl rfl (by decide +kernel) ⟨Nat.le_of_ble_eq_true rfl, Nat.le_of_ble_eq_true rfl⟩) ⟨gd_blR, va_recv hK.1 hPc (ci := 5) (q0 := 0) rfl rfl, gd_prR hPc hK⟩ rfl rfl hl.1 rfl (lv_room (Nat.le_of_ble_eq_true rfl)) dX5_centre_3 ⟨Nat.zero_le _, Nat.zero_le _⟩) (fun r_3 hw => ?_)
  subst hw
  clear hPc
  refine lv_if_ne (tgt := 12) hx hb dX5_centre_6 (by decide) (fun c_1 => ?_) (fun c_1 => ?_)
  · skip
    refine lv_aload_n hx hb dX5_centre_12 rfl (lv_at hl 0 rfl) ?_
    refine lv_iload_n hx hb dX5_centre_13 rfl (lv_at hl 1 rfl) ?_
    have hPc := hP.sub (ws' := [kM o mP mL mC mN mF mR mD mV mX mA mK cm mT pm mU mH mI, kA mC cI 360 gc, kJ mX cJ 9 fx]) [0, 6, 3] rfl
    have hDc := hD.sub (ws' := [kM o mP mL mC mN mF mR mD mV mX mA mK cm mT pm mU mH mI, kA mC cI 360 gc, kJ mX cJ 9 fx]) [0, 6, 3] (by decide) rfl
    refine cl_v (wc := [kM o mP mL mC mN mF mR mD mV mX mA mK cm mT pm mU mH mI, kA mC cI 360 gc, kJ mX cJ 9 fx]) (wr := [kA mN cI 3 gm, kJ mF cJ 6 ff, kJ mA cJ 9 fa, kA mP cI 180 gp]) (w1 := fun uu : Unit => [kM o mP mL mC mN mF mR mD mV mX mA mK cm mT pm mU mH mI, kA mC cI 360 gc, kJ mX cJ 9 (z5_layConic_f2 gc fx c)]) (wn := fun uu : Unit => [kM o mP mL mC mN mF mR mD mV mX mA mK cm mT pm mU mH mI, kA mN cI 3 gm, kJ mF cJ 6 ff, kJ mX cJ 9 (z5_layConic_f2 gc fx c), kJ mA cJ 9 fa, kA mP cI 180 gp, kA mC cI 360 gc]) (va_runV (As := [.int c]) (rest := []) ⟨hx, hb, hml, hown, hts⟩ (c_X5_layConic l D cI cJ o mP mL mC mN mF mR mD mV mX mA mK mT mU mH mI cm pm gc fx c (ok_of hm2 c_1) _) (cwV 1 hts gX5_centre_X5_layConic rfl rfl rfl (by decide +kernel) ⟨Nat.le_of_ble_eq_true rfl, Nat.le_of_ble_eq_true rfl⟩) ⟨gd_blP, va_recv hK.1 hPc (ci := 5) (q0 := 0) rfl rfl, gd_prP hPc hK hDc⟩ rfl rfl hl.1 rfl (lv_room (Nat.le_of_ble_eq_true rfl)) dX5_centre_14 ⟨Nat.zero_le _, Nat.zero_le _⟩) hP hD hS hA [0, 6, 3] [1, 2, 4, 5] rfl rfl (by decide) (by decide) [4, 0, 1, 6, 2, 3, 5] (by decide) (fun _ => rfl) (fun uG H locs hw hP hD hS => ?_)
    have hP : va_P D vwCl [kM o mP mL mC mN mF mR mD mV mX mA mK cm mT pm mU mH mI, kA mN cI 3 gm, kJ mF cJ 6 ff, kJ mX cJ 9 (z5_layConic_f2 gc fx c), kJ mA cJ 9 fa, kA mP cI 180 gp, kA mC cI 360 gc] H := hP
    have hD : va_D A [kM o mP mL mC mN mF mR mD mV mX mA mK cm mT pm mU mH mI, kA mN cI 3 gm, kJ mF cJ 6 ff, kJ mX cJ 9 (z5_layConic_f2 gc fx c), kJ mA cJ 9 fa, kA mP cI 180 gp, kA mC cI 360 gc] := hD
    clear hPc hDc
    refine lv_aload_n hx hb dX5_centre_17 rfl (lv_at hl 0 rfl) ?_
    have hPc := hP.sub (ws' := [kM o mP mL mC mN mF mR mD mV mX mA mK cm mT pm mU mH mI, kJ mX cJ 9 (z5_layConic_f2 gc fx c), kJ mA cJ 9 fa]) [0, 3, 4] rfl
    have hDc := hD.sub (ws' := [kM o mP mL mC mN mF mR mD mV mX mA mK cm mT pm mU mH mI, kJ mX cJ 9 (z5_layConic_f2 gc fx c), kJ mA cJ 9 fa]) [0, 3, 4] (by decide) rfl
    refine cl_v (wc := [kM o mP mL mC mN mF mR mD mV mX mA mK cm mT pm mU mH mI, kJ mX cJ 9 (z5_layConic_f2 gc fx c), kJ mA cJ 9 fa]) (wr := [kA mN cI 3 gm, kJ mF cJ 6 ff, kA mP cI 180 gp, kA mC cI 360 gc]) (w1 := fun uu : Unit => [kM o mP mL mC mN mF mR mD mV mX mA mK cm mT pm mU mH mI, kJ mX cJ 9 (z5_layConic_f2 gc fx c), kJ mA cJ 9 (z5_layAdjoint_f2 (z5_layConic_f2 gc fx c) fa)]) (wn := fun uu : Unit => [kM o mP mL mC mN mF mR mD mV mX mA mK cm mT pm mU mH mI, kA mN cI 3 gm, kJ mF cJ 6 ff, kJ mX cJ 9 (z5_layConic_f2 gc fx c), kJ mA cJ 9 (z5_layAdjoint_f2 (z5_layConic_f2 gc fx c) fa), kA mP cI 180 gp, kA mC cI 360 gc]) (va_runV (As := []) (rest := []) ⟨hx, hb, hml, hown, hts⟩ (c_X5_layAdjoint l D cI cJ o mP mL mC mN mF mR mD mV mX mA mK mT mU mH mI cm pm (z5_layConic_f2 gc fx c) fa _) (cwV 0 hts gX5_centre_X5_layAdjoint rfl rfl rfl (by decide +kernel) ⟨Nat.le_of_ble_eq_true rfl, Nat.le_of_ble_eq_true rfl⟩) ⟨gd_blP, va_recv hK.1 hPc (ci := 5) (q0 := 0) rfl rfl, gd_prP hPc hK hDc⟩ rfl rfl hl.1 rfl (lv_room (Nat.le_of_ble_eq_true rfl)) dX5_centre_18 ⟨Nat.zero_le _, Nat.zero_le _⟩) hP hD hS hA [0, 3, 4] [1, 2, 5, 6] rfl rfl (by decide) (by decide) [4, 0, 1, 5, 6, 2, 3] (by decide) (fun _ => rfl) (fun uG H locs hw hP hD hS => ?_)
    have hP : va_P D vwCl [kM o mP mL mC mN mF mR mD mV mX mA mK cm mT pm mU mH mI, kA mN cI 3 gm, kJ mF cJ 6 ff, kJ mX cJ 9 (z5_layConic_f2 gc fx c), kJ mA cJ 9 (z5_layAdjoint_f2 (z5_layConic_f2 gc fx c) fa), kA mP cI 180 gp, kA mC cI 360 gc] H := hP
    have hD : va_D A [kM o mP mL mC mN mF mR mD mV mX mA mK cm mT pm mU mH mI, kA mN cI 3 gm, kJ mF cJ 6 ff, kJ mX cJ 9 (z5_layConic_f2 gc fx c), kJ mA cJ 9 (z5_layAdjoint_f2 (z5_layConic_f2 gc fx c) fa), kA mP cI 180 gp, kA mC cI 360 gc] := hD
    clear hPc hDc
    refine lv_iconst (v := 0) hx hb dX5_centre_21 (by decide) ?_
    refine lv_istore_n (lv' := [(2, .int 0), (0, .ref o), (1, .int c)]) hx hb dX5_centre_22 rfl hl (by decide) rfl (fun ls hl => ?_)
    refine lv_iload_n hx hb dX5_centre_23 rfl (lv_at hl 0 rfl) ?_
    refine lv_iconst (v := 3) hx hb dX5_centre_24 (by decide) ?_
    refine lv_icmp_ge (tgt := 50) hx hb dX5_centre_25 (by decide) (fun h => absurd h (by decide)) (fun _ => ?_)
    refine lv_aload_n hx hb dX5_centre_28 rfl (lv_at hl 1 rfl) ?_
    refine va_get (D := D) (ci := 5) (v := .ref mF) (C := RX5) (T := TX5) (N := 17) hx hb hts k_2 hown hK.1 hP 0 rfl rfl 4 (by decide) k_1 (fun _ h9 => h9) rfl dX5_centre_29 ?_
    refine lv_iload_n hx hb dX5_centre_32 rfl (lv_at hl 0 rfl) ?_
    refine lv_aload_n hx hb dX5_centre_33 rfl (lv_at hl 1 rfl) ?_
    refine va_get (D := D) (ci := 5) (v := .ref mA) (C := RX5) (T := TX5) (N := 17) hx hb hts k_2 hown hK.1 hP 0 rfl rfl 9 (by decide) k_3 (fun _ h9 => h9) rfl dX5_centre_34 ?_
    refine lv_iconst (v := 3) hx hb dX5_centre_37 (by decide) ?_
    refine lv_iload_n hx hb dX5_centre_38 rfl (lv_at hl 0 rfl) ?_
    refine lv_imul hx hb dX5_centre_39 ?_
    refine lv_eqi (v := 0) (by decide) ?_
    refine lv_iconst (v := 2) hx hb dX5_centre_40 (by decide) ?_
    refine lv_iadd hx hb dX5_centre_41 ?_
    refine lv_eqi (v := 2) (by decide) ?_
    refine ld_l hx hb hK.1 hP 4 1 rfl rfl (ix_lit (by decide)) 2 (by decide) (v := (z5_layAdjoint_f2 (z5_layConic_f2 gc fx c) fa) 2) rfl dX5_centre_42 ?_
    refine st_l hx hb hK.1 hP hD hS 2 1 rfl rfl (ix_lit (by decide)) 0 (by decide) dX5_centre_43 (fun H locs hP hD hS => ?_)
    have hP : va_P D vwCl [kM o mP mL mC mN mF mR mD mV mX mA mK cm mT pm mU mH mI, kA mN cI 3 gm, kJ mF cJ 6 (vp_updL ff 0 ((z5_layAdjoint_f2 (z5_layConic_f2 gc fx c) fa) 2)), kJ mX cJ 9 (z5_layConic_f2 gc fx c), kJ mA cJ 9 (z5_layAdjoint_f2 (z5_layConic_f2 gc fx c) fa), kA mP cI 180 gp, kA mC cI 360 gc] H := hP
    have hD : va_D A [kM o mP mL mC mN mF mR mD mV mX mA mK cm mT pm mU mH mI, kA mN cI 3 gm, kJ mF cJ 6 (vp_updL ff 0 ((z5_layAdjoint_f2 (z5_layConic_f2 gc fx c) fa) 2)), kJ mX cJ 9 (z5_layConic_f2 gc fx c), kJ mA cJ 9 (z5_layAdjoint_f2 (z5_layConic_f2 gc fx c) fa), kA mP cI 180 gp, kA mC cI 360 gc] := hD
    refine lv_iinc (v := 1) (lv' := [(2, .int 1), (0, .ref o), (1, .int c)]) hx hb dX5_centre_44 hl (k := 0) rfl (by decide) (by decide) rfl (fun ls hl => ?_)
    refine lv_goto (tgt := 23) hx hb dX5_centre_47 (by decide) ?_
    refine lv_iload_n hx hb dX5_centre_23 rfl (lv_at hl 0 rfl) ?_
    refine lv_iconst (v := 3) hx hb dX5_centre_24 (by decide) ?_
    refine lv_icmp_ge (tgt := 50) hx hb dX5_centre_25 (by decide) (fun h => absurd h (by decide)) (fun _ => ?_)
    refine lv_aload_n hx hb dX5_centre_28 rfl (lv_at hl 1 rfl) ?_
    refine va_get (D := D) (ci := 5) (v := .ref mF) (C := RX5) (T := TX5) (N := 17) hx hb hts k_2 hown hK.1 hP 0 rfl rfl 4 (by decide) k_1 (fun _ h9 => h9) rfl dX5_centre_29 ?_
    refine lv_iload_n hx hb dX5_centre_32 rfl (lv_at hl 0 rfl) ?_
    refine lv_aload_n hx hb dX5_centre_33 rfl (lv_at hl 1 rfl) ?_
    refine va_get (D := D) (ci := 5) (v := .ref mA) (C := RX5) (T := TX5) (N := 17) hx hb hts k_2 hown hK.1 hP 0 rfl rfl 9 (by decide) k_3 (fun _ h9 => h9) rfl dX5_centre_34 ?_
    refine lv_iconst (v := 3) hx hb dX5_centre_37 (by decide) ?_
    refine lv_iload_n hx hb dX5_centre_38 rfl (lv_at hl 0 rfl) ?_
    refine lv_imul hx hb dX5_centre_39 ?_
    refine lv_eqi (v := 3) (by decide) ?_
    refine lv_iconst (v := 2) hx hb dX5_centre_40 (by decide) ?_
    refine lv_iadd hx hb dX5_centre_41 ?_
    refine lv_eqi (v := 5) (by decide) ?_
    refine ld_l hx hb hK.1 hP 4 1 rfl rfl (ix_lit (by decide)) 5 (by decide) (v := (z5_layAdjoint_f2 (z5_layConic_f2 gc fx c) fa) 5) rfl dX5_centre_42 ?_
    refine st_l hx hb hK.1 hP hD hS 2 1 rfl rfl (ix_lit (by decide)) 1 (by decide) dX5_centre_43 (fun H locs hP hD hS => ?_)
    have hP : va_P D vwCl [kM o mP mL mC mN mF mR mD mV mX mA mK cm mT pm mU mH mI, kA mN cI 3 gm, kJ mF cJ 6 (vp_updL (vp_updL ff 0 ((z5_layAdjoint_f2 (z5_layConic_f2 gc fx c) fa) 2)) 1 ((z5_layAdjoint_f2 (z5_layConic_f2 gc fx c) fa) 5)), kJ mX cJ 9 (z5_layConic_f2 gc fx c), kJ mA cJ 9 (z5_layAdjoint_f2 (z5_layConic_f2 gc fx c) fa), kA mP cI 180 gp, kA mC cI 360 gc] H := hP
    have hD : va_D A [kM o mP mL mC mN mF mR mD mV mX mA mK cm mT pm mU mH mI, kA mN cI 3 gm, kJ mF cJ 6 (vp_updL (vp_updL ff 0 ((z5_layAdjoint_f2 (z5_layConic_f2 gc fx c) fa) 2)) 1 ((z5_layAdjoint_f2 (z5_layConic_f2 gc fx c) fa) 5)), kJ mX cJ 9 (z5_layConic_f2 gc fx c), kJ mA cJ 9 (z5_layAdjoint_f2 (z5_layConic_f2 gc fx c) fa), kA mP cI 180 gp, kA mC cI 360 gc] := hD
    refine lv_iinc (v := 2) (lv' := [(2, .int 2), (0, .ref o), (1, .int c)]) hx hb dX5_centre_44 hl (k := 0) rfl (by decide) (by decide) rfl (fun ls hl => ?_)
    refine lv_goto (tgt := 23) hx hb dX5_centre_47 (by decide) ?_
    refine lv_iload_n hx hb dX5_centre_23 rfl (lv_at hl 0 rfl) ?_
    refine lv_iconst (v := 3) hx hb dX5_centre_24 (by decide) ?_
    refine lv_icmp_ge (tgt := 50) hx hb dX5_centre_25 (by decide) (fun h => absurd h (by decide)) (fun _ => ?_)
    refine lv_aload_n hx hb dX5_centre_28 rfl (lv_at hl 1 rfl) ?_
    refine va_get (D := D) (ci := 5) (v := .ref mF) (C := RX5) (T := TX5) (N := 17) hx hb hts k_2 hown hK.1 hP 0 rfl rfl 4 (by decide) k_1 (fun _ h9 => h9) rfl dX5_centre_29 ?_
    refine lv_iload_n hx hb dX5_centre_32 rfl (lv_at hl 0 rfl) ?_
    refine lv_aload_n hx hb dX5_centre_33 rfl (lv_at hl 1 rfl) ?_
    refine va_get (D := D) (ci := 5) (v := .ref mA) (C := RX5) (T := TX5) (N := 17) hx hb hts k_2 hown hK.1 hP 0 rfl rfl 9 (by decide) k_3 (fun _ h9 => h9) rfl dX5_centre_34 ?_
    refine lv_iconst (v := 3) hx hb dX5_centre_37 (by decide) ?_
    refine lv_iload_n hx hb dX5_centre_38 rfl (lv_at hl 0 rfl) ?_
    refine lv_imul hx hb dX5_centre_39 ?_
    refine lv_eqi (v := 6) (by decide) ?_
    refine lv_iconst (v := 2) hx hb dX5_centre_40 (by decide) ?_
    refine lv_iadd hx hb dX5_centre_41 ?_
    refine lv_eqi (v := 8) (by decide) ?_
    refine ld_l hx hb hK.1 hP 4 1 rfl rfl (ix_lit (by decide)) 8 (by decide) (v := (z5_layAdjoint_f2 (z5_layConic_f2 gc fx c) fa) 8) rfl dX5_centre_42 ?_
    refine st_l hx hb hK.1 hP hD hS 2 1 rfl rfl (ix_lit (by decide)) 2 (by decide) dX5_centre_43 (fun H locs hP hD hS => ?_)
    have hP : va_P D vwCl [kM o mP mL mC mN mF mR mD mV mX mA mK cm mT pm mU mH mI, kA mN cI 3 gm, kJ mF cJ 6 (vp_updL (vp_updL (vp_updL ff 0 ((z5_layAdjoint_f2 (z5_layConic_f2 gc fx c) fa) 2)) 1 ((z5_layAdjoint_f2 (z5_layConic_f2 gc fx c) fa) 5)) 2 ((z5_layAdjoint_f2 (z5_layConic_f2 gc fx c) fa) 8)), kJ mX cJ 9 (z5_layConic_f2 gc fx c), kJ mA cJ 9 (z5_layAdjoint_f2 (z5_layConic_f2 gc fx c) fa), kA mP cI 180 gp, kA mC cI 360 gc] H := hP
    have hD : va_D A [kM o mP mL mC mN mF mR mD mV mX mA mK cm mT pm mU mH mI, kA mN cI 3 gm, kJ mF cJ 6 (vp_updL (vp_updL (vp_updL ff 0 ((z5_layAdjoint_f2 (z5_layConic_f2 gc fx c) fa) 2)) 1 ((z5_layAdjoint_f2 (z5_layConic_f2 gc fx c) fa) 5)) 2 ((z5_layAdjoint_f2 (z5_layConic_f2 gc fx c) fa) 8)), kJ mX cJ 9 (z5_layConic_f2 gc fx c), kJ mA cJ 9 (z5_layAdjoint_f2 (z5_layConic_f2 gc fx c) fa), kA mP cI 180 gp, kA mC cI 360 gc] := hD
    refine lv_iinc (v := 3) (lv' := [(2, .int 3), (0, .ref o), (1, .int c)]) hx hb dX5_centre_44 hl (k := 0) rfl (by decide) (by decide) rfl (fun ls hl => ?_)
    refine lv_goto (tgt := 23) hx hb dX5_centre_47 (by decide) ?_
    refine lv_iload_n hx hb dX5_centre_23 rfl (lv_at hl 0 rfl) ?_
    refine lv_iconst (v := 3) hx hb dX5_centre_24 (by decide) ?_
    refine lv_icmp_ge (tgt := 50) hx hb dX5_centre_25 (by decide) (fun _ => ?_) (fun h => absurd (by decide) h)
    refine lv_aload_n hx hb dX5_centre_50 rfl (lv_at hl 1 rfl) ?_
    refine lv_iconst (v := 0) hx hb dX5_centre_51 (by decide) ?_
    refine lv_ldc hx hb hown k_4 dX5_centre_52 ?_
    have hPc := hP.sub (ws' := [kM o mP mL mC mN mF mR mD mV mX mA mK cm mT pm mU mH mI, kA mN cI 3 gm, kJ mF cJ 6 (vp_updL (vp_updL (vp_updL ff 0 ((z5_layAdjoint_f2 (z5_layConic_f2 gc fx c) fa) 2)) 1 ((z5_layAdjoint_f2 (z5_layConic_f2 gc fx c) fa) 5)) 2 ((z5_layAdjoint_f2 (z5_layConic_f2 gc fx c) fa) 8)), kA mP cI 180 gp]) [0, 1, 2, 5] rfl
    have hDc := hD.sub (ws' := [kM o mP mL mC mN mF mR mD mV mX mA mK cm mT pm mU mH mI, kA mN cI 3 gm, kJ mF cJ 6 (vp_updL (vp_updL (vp_updL ff 0 ((z5_layAdjoint_f2 (z5_layConic_f2 gc fx c) fa) 2)) 1 ((z5_layAdjoint_f2 (z5_layConic_f2 gc fx c) fa) 5)) 2 ((z5_layAdjoint_f2 (z5_layConic_f2 gc fx c) fa) 8)), kA mP cI 180 gp]) [0, 1, 2, 5] (by decide) rfl
    refine cl_i (wc := [kM o mP mL mC mN mF mR mD mV mX mA mK cm mT pm mU mH mI, kA mN cI 3 gm, kJ mF cJ 6 (vp_updL (vp_updL (vp_updL ff 0 ((z5_layAdjoint_f2 (z5_layConic_f2 gc fx c) fa) 2)) 1 ((z5_layAdjoint_f2 (z5_layConic_f2 gc fx c) fa) 5)) 2 ((z5_layAdjoint_f2 (z5_layConic_f2 gc fx c) fa) 8)), kA mP cI 180 gp]) (wr := [kJ mX cJ 9 (z5_layConic_f2 gc fx c), kJ mA cJ 9 (z5_layAdjoint_f2 (z5_layConic_f2 gc fx c) fa), kA mC cI 360 gc]) (w1 := fun uu : (Nat → Int64) => [kM o mP mL mC mN mF mR mD mV mX mA mK cm mT pm mU mH mI, kA mN cI 3 ((z5_keep_0 gm (vp_updL (vp_updL (vp_updL ff 0 ((z5_layAdjoint_f2 (z5_layConic_f2 gc fx c) fa) 2)) 1 ((z5_layAdjoint_f2 (z5_layConic_f2 gc fx c) fa) 5)) 2 ((z5_layAdjoint_f2 (z5_layConic_f2 gc fx c) fa) 8)) gp (-1000004)).2.1), kJ mF cJ 6 uu, kA mP cI 180 ((z5_keep_0 gm (vp_updL (vp_updL (vp_updL ff 0 ((z5_layAdjoint_f2 (z5_layConic_f2 gc fx c) fa) 2)) 1 ((z5_layAdjoint_f2 (z5_layConic_f2 gc fx c) fa) 5)) 2 ((z5_layAdjoint_f2 (z5_layConic_f2 gc fx c) fa) 8)) gp (-1000004)).2.2)]) (wn := fun uu : (Nat → Int64) => [kM o mP mL mC mN mF mR mD mV mX mA mK cm mT pm mU mH mI, kA mN cI 3 ((z5_keep_0 gm (vp_updL (vp_updL (vp_updL ff 0 ((z5_layAdjoint_f2 (z5_layConic_f2 gc fx c) fa) 2)) 1 ((z5_layAdjoint_f2 (z5_layConic_f2 gc fx c) fa) 5)) 2 ((z5_layAdjoint_f2 (z5_layConic_f2 gc fx c) fa) 8)) gp (-1000004)).2.1), kJ mF cJ 6 uu, kJ mX cJ 9 (z5_layConic_f2 gc fx c), kJ mA cJ 9 (z5_layAdjoint_f2 (z5_layConic_f2 gc fx c) fa), kA mP cI 180 ((z5_keep_0 gm (vp_updL (vp_updL (vp_updL ff 0 ((z5_layAdjoint_f2 (z5_layConic_f2 gc fx c) fa) 2)) 1 ((z5_layAdjoint_f2 (z5_layConic_f2 gc fx c) fa) 5)) 2 ((z5_layAdjoint_f2 (z5_layConic_f2 gc fx c) fa) 8)) gp (-1000004)).2.2), kA mC cI 360 gc]) (va_runV (As := [.int 0, .int (-1000004)]) (rest := []) ⟨hx, hb, hml, hown, hts⟩ (c_X5_keep_0 l D cI cJ o mP mL mC mN mF mR mD mV mX mA mK mT mU mH mI cm pm gm (vp_updL (vp_updL (vp_updL ff 0 ((z5_layAdjoint_f2 (z5_layConic_f2 gc fx c) fa) 2)) 1 ((z5_layAdjoint_f2 (z5_layConic_f2 gc fx c) fa) 5)) 2 ((z5_layAdjoint_f2 (z5_layConic_f2 gc fx c) fa) 8)) gp (-1000004) hm0 _) (cwV 2 hts gX5_centre_X5_keep rfl rfl rfl (by decide +kernel) ⟨Nat.le_of_ble_eq_true rfl, Nat.le_of_ble_eq_true rfl⟩) ⟨gd_blP, va_recv hK.1 hPc (ci := 5) (q0 := 0) rfl rfl, gd_prP hPc hK hDc⟩ rfl rfl hl.1 rfl (lv_room (Nat.le_of_ble_eq_true rfl)) dX5_centre_54 ⟨Nat.zero_le _, Nat.zero_le _⟩) hP hD hS hA [0, 1, 2, 5] [3, 4, 6] rfl rfl (by decide) (by decide) [3, 4, 5, 0, 1, 6, 2] (by decide) (fun _ => rfl) (fun r_54 uG H locs hw hP hD hS => ?_)
    obtain ⟨y_54_0_1, rfl⟩ : ∃ z, z = uG := ⟨_, rfl⟩
    have hP : va_P D vwCl [kM o mP mL mC mN mF mR mD mV mX mA mK cm mT pm mU mH mI, kA mN cI 3 ((z5_keep_0 gm (vp_updL (vp_updL (vp_updL ff 0 ((z5_layAdjoint_f2 (z5_layConic_f2 gc fx c) fa) 2)) 1 ((z5_layAdjoint_f2 (z5_layConic_f2 gc fx c) fa) 5)) 2 ((z5_layAdjoint_f2 (z5_layConic_f2 gc fx c) fa) 8)) gp (-1000004)).2.1), kJ mF cJ 6 y_54_0_1, kJ mX cJ 9 (z5_layConic_f2 gc fx c), kJ mA cJ 9 (z5_layAdjoint_f2 (z5_layConic_f2 gc fx c) fa), kA mP cI 180 ((z5_keep_0 gm (vp_updL (vp_updL (vp_updL ff 0 ((z5_layAdjoint_f2 (z5_layConic_f2 gc fx c) fa) 2)) 1 ((z5_layAdjoint_f2 (z5_layConic_f2 gc fx c) fa) 5)) 2 ((z5_layAdjoint_f2 (z5_layConic_f2 gc fx c) fa) 8)) gp (-1000004)).2.2), kA mC cI 360 gc] H := hP
    have hD : va_D A [kM o mP mL mC mN mF mR mD mV mX mA mK cm mT pm mU mH mI, kA mN cI 3 ((z5_keep_0 gm (vp_updL (vp_updL (vp_updL ff 0 ((z5_layAdjoint_f2 (z5_layConic_f2 gc fx c) fa) 2)) 1 ((z5_layAdjoint_f2 (z5_layConic_f2 gc fx c) fa) 5)) 2 ((z5_layAdjoint_f2 (z5_layConic_f2 gc fx c) fa) 8)) gp (-1000004)).2.1), kJ mF cJ 6 y_54_0_1, kJ mX cJ 9 (z5_layConic_f2 gc fx c), kJ mA cJ 9 (z5_layAdjoint_f2 (z5_layConic_f2 gc fx c) fa), kA mP cI 180 ((z5_keep_0 gm (vp_updL (vp_updL (vp_updL ff 0 ((z5_layAdjoint_f2 (z5_layConic_f2 gc fx c) fa) 2)) 1 ((z5_layAdjoint_f2 (z5_layConic_f2 gc fx c) fa) 5)) 2 ((z5_layAdjoint_f2 (z5_layConic_f2 gc fx c) fa) 8)) gp (-1000004)).2.2), kA mC cI 360 gc] := hD
    have ea_0 : (z5_keep_0 gm (vp_updL (vp_updL (vp_updL ff 0 ((z5_layAdjoint_f2 (z5_layConic_f2 gc fx c) fa) 2)) 1 ((z5_layAdjoint_f2 (z5_layConic_f2 gc fx c) fa) 5)) 2 ((z5_layAdjoint_f2 (z5_layConic_f2 gc fx c) fa) 8)) gp (-1000004)).2.1 = z5_centre_v1 gm ff fx fa gp gc c := by delta z5_centre_v1; rfl
    have ea_1 : (z5_keep_0 gm (vp_updL (vp_updL (vp_updL ff 0 ((z5_layAdjoint_f2 (z5_layConic_f2 gc fx c) fa) 2)) 1 ((z5_layAdjoint_f2 (z5_layConic_f2 gc fx c) fa) 5)) 2 ((z5_layAdjoint_f2 (z5_layConic_f2 gc fx c) fa) 8)) gp (-1000004)).2.2 = z5_centre_v2 gm ff fx fa gp gc c := by delta z5_centre_v2; rfl
    rw [ea_0, ea_1] at hP hD
    clear ea_0 ea_1
    subst hw
    refine lv_eqi (v := z5_centre_v3 gm ff fx fa gp gc c) (by delta z5_centre_v3; rfl) ?_
    clear hPc hDc
    have he : z5_centre gm ff fx fa gp gc c = (z5_centre_v3 gm ff fx fa gp gc c, z5_centre_v1 gm ff fx fa gp gc c, z5_centre_v2 gm ff fx fa gp gc c) := by unfold z5_centre; rw [if_neg c_1]
    have he_0 : (z5_centre gm ff fx fa gp gc c).1 = z5_centre_v3 gm ff fx fa gp gc c := by rw [he]
    have he_1 : (z5_centre gm ff fx fa gp gc c).2.1 = z5_centre_v1 gm ff fx fa gp gc c := by rw [he]
    have he_2 : (z5_centre gm ff fx fa gp gc c).2.2 = z5_centre_v2 gm ff fx fa gp gc c := by rw [he]
    exact rt_i (w1 := fun uu : (Nat → Int64) × (Nat → Int64) × (Nat → Int64) => [kM o mP mL mC mN mF mR mD mV mX mA mK cm mT pm mU mH mI, kA mN cI 3 ((z5_centre gm ff fx fa gp gc c).2.1), kJ mF cJ 6 uu.1, kJ mX cJ 9 uu.2.1, kJ mA cJ 9 uu.2.2, kA mP cI 180 ((z5_centre gm ff fx fa gp gc c).2.2), kA mC cI 360 gc]) hx hb hr hlk hS dX5_centre_57 ((y_54_0_1, (z5_layConic_f2 gc fx c), z5_layAdjoint_f2 (z5_layConic_f2 gc fx c) fa)) he_0.symm (by (try dsimp only); rw [he_1, he_2]; exact hP) (by (try dsimp only); rw [he_1, he_2]; exact hD)
  · skip
    refine lv_ldc hx hb hown k_5 dX5_centre_9 ?_
    have he : z5_centre gm ff fx fa gp gc c = ((-1000002), gm, gp) := by unfold z5_centre; rw [if_pos c_1]
    have he_0 : (z5_centre gm ff fx fa gp gc c).1 = (-1000002) := by rw [he]
    have he_1 : (z5_centre gm ff fx fa gp gc c).2.1 = gm := by rw [he]
    have he_2 : (z5_centre gm ff fx fa gp gc c).2.2 = gp := by rw [he]
    exact rt_i (w1 := fun uu : (Nat → Int64) × (Nat → Int64) × (Nat → Int64) => [kM o mP mL mC mN mF mR mD mV mX mA mK cm mT pm mU mH mI, kA mN cI 3 ((z5_centre gm ff fx fa gp gc c).2.1), kJ mF cJ 6 uu.1, kJ mX cJ 9 uu.2.1, kJ mA cJ 9 uu.2.2, kA mP cI 180 ((z5_centre gm ff fx fa gp gc c).2.2), kA mC cI 360 gc]) hx hb hr hlk hS dX5_centre_11 ((ff, fx, fa)) he_0.symm (by (try dsimp only); rw [he_1, he_2]; exact hP) (by (try dsimp only); rw [he_1, he_2]; exact hD)
def z5_dual_v1 (gm : Nat → Int32) (ff : Nat → Int64) (fx : Nat → Int64) (fa : Nat → Int64) (gc : Nat → Int32) (c : Int32) : Nat → Int32 := (z5_keep_2 gm (vp_updL (vp_updL (vp_updL (vp_updL (vp_updL (vp_updL ff 0 ((z5_detOf_f3 gc fx fa c) 0)) 1 (2 * ((z5_detOf_f3 gc fx fa c) 1))) 2 ((z5_detOf_f3 gc fx fa c) 4)) 3 (2 * ((z5_detOf_f3 gc fx fa c) 2))) 4 (2 * ((z5_detOf_f3 gc fx fa c) 5))) 5 ((z5_detOf_f3 gc fx fa c) 8)) gc (-1000004)).2.1
def z5_dual_v2 (gm : Nat → Int32) (ff : Nat → Int64) (fx : Nat → Int64) (fa : Nat → Int64) (gc : Nat → Int32) (c : Int32) : Nat → Int32 := (z5_keep_2 gm (vp_updL (vp_updL (vp_updL (vp_updL (vp_updL (vp_updL ff 0 ((z5_detOf_f3 gc fx fa c) 0)) 1 (2 * ((z5_detOf_f3 gc fx fa c) 1))) 2 ((z5_detOf_f3 gc fx fa c) 4)) 3 (2 * ((z5_detOf_f3 gc fx fa c) 2))) 4 (2 * ((z5_detOf_f3 gc fx fa c) 5))) 5 ((z5_detOf_f3 gc fx fa c) 8)) gc (-1000004)).2.2
def z5_dual_v3 (gm : Nat → Int32) (ff : Nat → Int64) (fx : Nat → Int64) (fa : Nat → Int64) (gc : Nat → Int32) (c : Int32) : Int32 := (z5_keep_2 gm (vp_updL (vp_updL (vp_updL (vp_updL (vp_updL (vp_updL ff 0 ((z5_detOf_f3 gc fx fa c) 0)) 1 (2 * ((z5_detOf_f3 gc fx fa c) 1))) 2 ((z5_detOf_f3 gc fx fa c) 4)) 3 (2 * ((z5_detOf_f3 gc fx fa c) 2))) 4 (2 * ((z5_detOf_f3 gc fx fa c) 5))) 5 ((z5_detOf_f3 gc fx fa c) 8)) gc (-1000004)).1
def z5_dual (gm : Nat → Int32) (ff : Nat → Int64) (fx : Nat → Int64) (fa : Nat → Int64) (gc : Nat → Int32) (c : Int32) : Int32 × (Nat → Int32) × (Nat → Int32) := if (z5_isOf_2 gm c) = 0 then ((-1000002), gm, gc) else if (z5_detOf gc fx fa c) = 0 then ((-1000004), gm, gc) else (z5_dual_v3 gm ff fx fa gc c, z5_dual_v1 gm ff fx fa gc c, z5_dual_v2 gm ff fx fa gc c)
set_option maxHeartbeats 4000000 in
set_option maxRecDepth 100000 in
/-- X5.dual -/
theorem c_X5_dual (l : Launch) (D : va_G) (cI cJ : ClassId) (o : Nat) (mP : Nat) (mL : Nat) (mC : Nat) (mN : Nat) (mF : Nat) (mR : Nat) (mD : Nat) (mV : Nat) (mX : Nat) (mA : Nat) (mK : Nat) (mT : Nat) (mU : Nat) (mH : Nat) (mI : Nat) (cm : Int32) (pm : Int32) (gm : Nat → Int32) (ff : Nat → Int64) (fx : Nat → Int64) (fa : Nat → Int64) (gc : Nat → Int32) (c : Int32) (hm2 : n_ok (gm 2)) : mw_C l yX5_dual wsX5_dual ({ frames := 3, cells := 0, slots := 0, locals := 80 }) D cI cJ [.ref o, .int c] [kM o mP mL mC mN mF mR mD mV mX mA mK cm mT pm mU mH mI, kA mN cI 3 gm, kJ mF cJ 6 ff, kJ mX cJ 9 fx, kJ mA cJ 9 fa, kA mC cI 360 gc] (qe_i (fun (r : Int32) (_ : (Nat → Int64) × (Nat → Int64) × (Nat → Int64)) => r = (z5_dual gm ff fx fa gc c).1) (fun uu => [kM o mP mL mC mN mF mR mD mV mX mA mK cm mT pm mU mH mI, kA mN cI 3 ((z5_dual gm ff fx fa gc c).2.1), kJ mF cJ 6 uu.1, kJ mX cJ 9 uu.2.1, kJ mA cJ 9 uu.2.2, kA mC cI 360 ((z5_dual gm ff fx fa gc c).2.2)])) := by
  refine mw_in (cc := cX5_dual) (lv := [(0, .ref o), (1, .int c)]) (by decide) rfl (Nat.le_of_ble_eq_true rfl) rfl ?_
  intro pG eG sG mG below meth cG ls A hx hb hr hml hown hts hlk hin hP hK hD hA hS hl
  have hown : sG.vm.findClass RX5 = some mG.cls := hown
  have k_1 := hts (.fieldLink RX5 22 "ConicRowsModel" "fresh" "[J") (by decide +kernel)
  have k_2 : ∀ w ∈ wsX50, w ∈ wsX5_dual := by decide +kernel
  have k_3 := hts (.fieldLink RX5 38 "ConicRowsModel" "adjoint" "[J") (by decide +kernel)
  have k_4 := hts (.constantLong RX5 95 (2)) (by decide +kernel)
  have k_5 := hts (.constant RX5 106 (-1000004)) (by decide +kernel)
  have k_6 := hts (.constant RX5 101 (-1000002)) (by decide +kernel)
  refine lv_aload_n hx hb dX5_dual_0 rfl (lv_at hl 0 rfl) ?_
  refine lv_iconst (v := 2) hx hb dX5_dual_1 (by decide) ?_
  refine lv_iload_n hx hb dX5_dual_2 rfl (lv_at hl 1 rfl) ?_
  have hPc := hP.sub (ws' := [kM o mP mL mC mN mF mR mD mV mX mA mK cm mT pm mU mH mI, kA mN cI 3 gm]) [0, 1] rfl
  refine cr_i (va_runV (As := [.int 2, .int c]) (rest := []) ⟨hx, hb, hml, hown, hts⟩ (c_X5_isOf_2 l D cI cJ o mP mL mC mN mF mR mD mV mX mA mK mT mU mH mI cm pm gm c) (cwV 2 hts gX5_dual_X5_isOf rfl rfl rfl (by decide +kernel) ⟨Nat.le_of_ble_eq_true rfl, Nat.le_of_ble_eq_true rfl⟩) ⟨gd_blR, va_recv hK.1 hPc (ci := 5) (q0 := 0) rfl rfl, gd_prR hPc hK⟩ rfl rfl hl.1 rfl (lv_room (Nat.le_of_ble_eq_true rfl)) dX5_dual_3 ⟨Nat.zero_le _, Nat.zero_le _⟩) (fun r_3 hw => ?_)
  subst hw
  clear hPc
  refine lv_if_ne (tgt := 12) hx hb dX5_dual_6 (by decide) (fun c_1 => ?_) (fun c_1 => ?_)
  · skip
    refine lv_aload_n hx hb dX5_dual_12 rfl (lv_at hl 0 rfl) ?_
    refine lv_iload_n hx hb dX5_dual_13 rfl (lv_at hl 1 rfl) ?_
    have hPc := hP.sub (ws' := [kM o mP mL mC mN mF mR mD mV mX mA mK cm mT pm mU mH mI, kA mC cI 360 gc, kJ mX cJ 9 fx, kJ mA cJ 9 fa]) [0, 5, 3, 4] rfl
    have hDc := hD.sub (ws' := [kM o mP mL mC mN mF mR mD mV mX mA mK cm mT pm mU mH mI, kA mC cI 360 gc, kJ mX cJ 9 fx, kJ mA cJ 9 fa]) [0, 5, 3, 4] (by decide) rfl
    refine cl_l (wc := [kM o mP mL mC mN mF mR mD mV mX mA mK cm mT pm mU mH mI, kA mC cI 360 gc, kJ mX cJ 9 fx, kJ mA cJ 9 fa]) (wr := [kA mN cI 3 gm, kJ mF cJ 6 ff]) (w1 := fun uu : Unit => [kM o mP mL mC mN mF mR mD mV mX mA mK cm mT pm mU mH mI, kA mC cI 360 gc, kJ mX cJ 9 (z5_detOf_f2 gc fx c), kJ mA cJ 9 (z5_detOf_f3 gc fx fa c)]) (wn := fun uu : Unit => [kM o mP mL mC mN mF mR mD mV mX mA mK cm mT pm mU mH mI, kA mN cI 3 gm, kJ mF cJ 6 ff, kJ mX cJ 9 (z5_detOf_f2 gc fx c), kJ mA cJ 9 (z5_detOf_f3 gc fx fa c), kA mC cI 360 gc]) (va_runV (As := [.int c]) (rest := []) ⟨hx, hb, hml, hown, hts⟩ (c_X5_detOf l D cI cJ o mP mL mC mN mF mR mD mV mX mA mK mT mU mH mI cm pm gc fx fa c (ok_of hm2 c_1) _) (cwV 1 hts gX5_dual_X5_detOf rfl rfl rfl (by decide +kernel) ⟨Nat.le_of_ble_eq_true rfl, Nat.le_of_ble_eq_true rfl⟩) ⟨gd_blP, va_recv hK.1 hPc (ci := 5) (q0 := 0) rfl rfl, gd_prP hPc hK hDc⟩ rfl rfl hl.1 rfl (lv_room (Nat.le_of_ble_eq_true rfl)) dX5_dual_14 ⟨Nat.zero_le _, Nat.zero_le _⟩) hP hD hS hA [0, 5, 3, 4] [1, 2] rfl rfl (by decide) (by decide) [2, 0, 1, 4, 5, 3] (by decide) (fun _ => rfl) (fun r_14 uG H locs hw hP hD hS => ?_)
    have hP : va_P D vwCl [kM o mP mL mC mN mF mR mD mV mX mA mK cm mT pm mU mH mI, kA mN cI 3 gm, kJ mF cJ 6 ff, kJ mX cJ 9 (z5_detOf_f2 gc fx c), kJ mA cJ 9 (z5_detOf_f3 gc fx fa c), kA mC cI 360 gc] H := hP
    have hD : va_D A [kM o mP mL mC mN mF mR mD mV mX mA mK cm mT pm mU mH mI, kA mN cI 3 gm, kJ mF cJ 6 ff, kJ mX cJ 9 (z5_detOf_f2 gc fx c), kJ mA cJ 9 (z5_detOf_f3 gc fx fa c), kA mC cI 360 gc] := hD
    subst hw
    clear hPc hDc
    refine lv_lconst (v := 0) hx hb dX5_dual_17 (by decide) ?_
    refine lb_ne (tgt := 25) hx hb dX5_dual_18 rfl dX5_dual_19 (by decide) (fun c_2 => ?_) (fun c_2 => ?_)
    · skip
      refine lv_aload_n hx hb dX5_dual_25 rfl (lv_at hl 0 rfl) ?_
      refine va_get (D := D) (ci := 5) (v := .ref mF) (C := RX5) (T := TX5) (N := 17) hx hb hts k_2 hown hK.1 hP 0 rfl rfl 4 (by decide) k_1 (fun _ h9 => h9) rfl dX5_dual_26 ?_
      refine lv_iconst (v := 0) hx hb dX5_dual_29 (by decide) ?_
      refine lv_aload_n hx hb dX5_dual_30 rfl (lv_at hl 0 rfl) ?_
      refine va_get (D := D) (ci := 5) (v := .ref mA) (C := RX5) (T := TX5) (N := 17) hx hb hts k_2 hown hK.1 hP 0 rfl rfl 9 (by decide) k_3 (fun _ h9 => h9) rfl dX5_dual_31 ?_
      refine lv_iconst (v := 0) hx hb dX5_dual_34 (by decide) ?_
      refine ld_l hx hb hK.1 hP 4 1 rfl rfl (ix_lit (by decide)) 0 (by decide) (v := (z5_detOf_f3 gc fx fa c) 0) rfl dX5_dual_35 ?_
      refine st_l hx hb hK.1 hP hD hS 2 1 rfl rfl (ix_lit (by decide)) 0 (by decide) dX5_dual_36 (fun H locs hP hD hS => ?_)
      have hP : va_P D vwCl [kM o mP mL mC mN mF mR mD mV mX mA mK cm mT pm mU mH mI, kA mN cI 3 gm, kJ mF cJ 6 (vp_updL ff 0 ((z5_detOf_f3 gc fx fa c) 0)), kJ mX cJ 9 (z5_detOf_f2 gc fx c), kJ mA cJ 9 (z5_detOf_f3 gc fx fa c), kA mC cI 360 gc] H := hP
      have hD : va_D A [kM o mP mL mC mN mF mR mD mV mX mA mK cm mT pm mU mH mI, kA mN cI 3 gm, kJ mF cJ 6 (vp_updL ff 0 ((z5_detOf_f3 gc fx fa c) 0)), kJ mX cJ 9 (z5_detOf_f2 gc fx c), kJ mA cJ 9 (z5_detOf_f3 gc fx fa c), kA mC cI 360 gc] := hD
      refine lv_aload_n hx hb dX5_dual_37 rfl (lv_at hl 0 rfl) ?_
      refine va_get (D := D) (ci := 5) (v := .ref mF) (C := RX5) (T := TX5) (N := 17) hx hb hts k_2 hown hK.1 hP 0 rfl rfl 4 (by decide) k_1 (fun _ h9 => h9) rfl dX5_dual_38 ?_
      refine lv_iconst (v := 1) hx hb dX5_dual_41 (by decide) ?_
      refine lv_ldc2 hx hb hown k_4 dX5_dual_42 ?_
      refine lv_aload_n hx hb dX5_dual_45 rfl (lv_at hl 0 rfl) ?_
      refine va_get (D := D) (ci := 5) (v := .ref mA) (C := RX5) (T := TX5) (N := 17) hx hb hts k_2 hown hK.1 hP 0 rfl rfl 9 (by decide) k_3 (fun _ h9 => h9) rfl dX5_dual_46 ?_
      refine lv_iconst (v := 1) hx hb dX5_dual_49 (by decide) ?_
      refine ld_l hx hb hK.1 hP 4 1 rfl rfl (ix_lit (by decide)) 1 (by decide) (v := (z5_detOf_f3 gc fx fa c) 1) rfl dX5_dual_50 ?_
      refine lv_lmul hx hb dX5_dual_51 ?_
      refine st_l hx hb hK.1 hP hD hS 2 1 rfl rfl (ix_lit (by decide)) 1 (by decide) dX5_dual_52 (fun H locs hP hD hS => ?_)
      have hP : va_P D vwCl [kM o mP mL mC mN mF mR mD mV mX mA mK cm mT pm mU mH mI, kA mN cI 3 gm, kJ mF cJ 6 (vp_updL (vp_updL ff 0 ((z5_detOf_f3 gc fx fa c) 0)) 1 (2 * ((z5_detOf_f3 gc fx fa c) 1))), kJ mX cJ 9 (z5_detOf_f2 gc fx c), kJ mA cJ 9 (z5_detOf_f3 gc fx fa c), kA mC cI 360 gc] H := hP
      have hD : va_D A [kM o mP mL mC mN mF mR mD mV mX mA mK cm mT pm mU mH mI, kA mN cI 3 gm, kJ mF cJ 6 (vp_updL (vp_updL ff 0 ((z5_detOf_f3 gc fx fa c) 0)) 1 (2 * ((z5_detOf_f3 gc fx fa c) 1))), kJ mX cJ 9 (z5_detOf_f2 gc fx c), kJ mA cJ 9 (z5_detOf_f3 gc fx fa c), kA mC cI 360 gc] := hD
      refine lv_aload_n hx hb dX5_dual_53 rfl (lv_at hl 0 rfl) ?_
      refine va_get (D := D) (ci := 5) (v := .ref mF) (C := RX5) (T := TX5) (N := 17) hx hb hts k_2 hown hK.1 hP 0 rfl rfl 4 (by decide) k_1 (fun _ h9 => h9) rfl dX5_dual_54 ?_
      refine lv_iconst (v := 2) hx hb dX5_dual_57 (by decide) ?_
      refine lv_aload_n hx hb dX5_dual_58 rfl (lv_at hl 0 rfl) ?_
      refine va_get (D := D) (ci := 5) (v := .ref mA) (C := RX5) (T := TX5) (N := 17) hx hb hts k_2 hown hK.1 hP 0 rfl rfl 9 (by decide) k_3 (fun _ h9 => h9) rfl dX5_dual_59 ?_
      refine lv_iconst (v := 4) hx hb dX5_dual_62 (by decide) ?_
      refine ld_l hx hb hK.1 hP 4 1 rfl rfl (ix_lit (by decide)) 4 (by decide) (v := (z5_detOf_f3 gc fx fa c) 4) rfl dX5_dual_63 ?_
      refine st_l hx hb hK.1 hP hD hS 2 1 rfl rfl (ix_lit (by decide)) 2 (by decide) dX5_dual_64 (fun H locs hP hD hS => ?_)
      have hP : va_P D vwCl [kM o mP mL mC mN mF mR mD mV mX mA mK cm mT pm mU mH mI, kA mN cI 3 gm, kJ mF cJ 6 (vp_updL (vp_updL (vp_updL ff 0 ((z5_detOf_f3 gc fx fa c) 0)) 1 (2 * ((z5_detOf_f3 gc fx fa c) 1))) 2 ((z5_detOf_f3 gc fx fa c) 4)), kJ mX cJ 9 (z5_detOf_f2 gc fx c), kJ mA cJ 9 (z5_detOf_f3 gc fx fa c), kA mC cI 360 gc] H := hP
      have hD : va_D A [kM o mP mL mC mN mF mR mD mV mX mA mK cm mT pm mU mH mI, kA mN cI 3 gm, kJ mF cJ 6 (vp_updL (vp_updL (vp_updL ff 0 ((z5_detOf_f3 gc fx fa c) 0)) 1 (2 * ((z5_detOf_f3 gc fx fa c) 1))) 2 ((z5_detOf_f3 gc fx fa c) 4)), kJ mX cJ 9 (z5_detOf_f2 gc fx c), kJ mA cJ 9 (z5_detOf_f3 gc fx fa c), kA mC cI 360 gc] := hD
      refine lv_aload_n hx hb dX5_dual_65 rfl (lv_at hl 0 rfl) ?_
      refine va_get (D := D) (ci := 5) (v := .ref mF) (C := RX5) (T := TX5) (N := 17) hx hb hts k_2 hown hK.1 hP 0 rfl rfl 4 (by decide) k_1 (fun _ h9 => h9) rfl dX5_dual_66 ?_
      refine lv_iconst (v := 3) hx hb dX5_dual_69 (by decide) ?_
      refine lv_ldc2 hx hb hown k_4 dX5_dual_70 ?_
      refine lv_aload_n hx hb dX5_dual_73 rfl (lv_at hl 0 rfl) ?_
      refine va_get (D := D) (ci := 5) (v := .ref mA) (C := RX5) (T := TX5) (N := 17) hx hb hts k_2 hown hK.1 hP 0 rfl rfl 9 (by decide) k_3 (fun _ h9 => h9) rfl dX5_dual_74 ?_
      refine lv_iconst (v := 2) hx hb dX5_dual_77 (by decide) ?_
      refine ld_l hx hb hK.1 hP 4 1 rfl rfl (ix_lit (by decide)) 2 (by decide) (v := (z5_detOf_f3 gc fx fa c) 2) rfl dX5_dual_78 ?_
      refine lv_lmul hx hb dX5_dual_79 ?_
      refine st_l hx hb hK.1 hP hD hS 2 1 rfl rfl (ix_lit (by decide)) 3 (by decide) dX5_dual_80 (fun H locs hP hD hS => ?_)
      have hP : va_P D vwCl [kM o mP mL mC mN mF mR mD mV mX mA mK cm mT pm mU mH mI, kA mN cI 3 gm, kJ mF cJ 6 (vp_updL (vp_updL (vp_updL (vp_updL ff 0 ((z5_detOf_f3 gc fx fa c) 0)) 1 (2 * ((z5_detOf_f3 gc fx fa c) 1))) 2 ((z5_detOf_f3 gc fx fa c) 4)) 3 (2 * ((z5_detOf_f3 gc fx fa c) 2))), kJ mX cJ 9 (z5_detOf_f2 gc fx c), kJ mA cJ 9 (z5_detOf_f3 gc fx fa c), kA mC cI 360 gc] H := hP
      have hD : va_D A [kM o mP mL mC mN mF mR mD mV mX mA mK cm mT pm mU mH mI, kA mN cI 3 gm, kJ mF cJ 6 (vp_updL (vp_updL (vp_updL (vp_updL ff 0 ((z5_detOf_f3 gc fx fa c) 0)) 1 (2 * ((z5_detOf_f3 gc fx fa c) 1))) 2 ((z5_detOf_f3 gc fx fa c) 4)) 3 (2 * ((z5_detOf_f3 gc fx fa c) 2))), kJ mX cJ 9 (z5_detOf_f2 gc fx c), kJ mA cJ 9 (z5_detOf_f3 gc fx fa c), kA mC cI 360 gc] := hD
      refine lv_aload_n hx hb dX5_dual_81 rfl (lv_at hl 0 rfl) ?_
      refine va_get (D := D) (ci := 5) (v := .ref mF) (C := RX5) (T := TX5) (N := 17) hx hb hts k_2 hown hK.1 hP 0 rfl rfl 4 (by decide) k_1 (fun _ h9 => h9) rfl dX5_dual_82 ?_
      refine lv_iconst (v := 4) hx hb dX5_dual_85 (by decide) ?_
      refine lv_ldc2 hx hb hown k_4 dX5_dual_86 ?_
      refine lv_aload_n hx hb dX5_dual_89 rfl (lv_at hl 0 rfl) ?_
      refine va_get (D := D) (ci := 5) (v := .ref mA) (C := RX5) (T := TX5) (N := 17) hx hb hts k_2 hown hK.1 hP 0 rfl rfl 9 (by decide) k_3 (fun _ h9 => h9) rfl dX5_dual_90 ?_
      refine lv_iconst (v := 5) hx hb dX5_dual_93 (by decide) ?_
      refine ld_l hx hb hK.1 hP 4 1 rfl rfl (ix_lit (by decide)) 5 (by decide) (v := (z5_detOf_f3 gc fx fa c) 5) rfl dX5_dual_94 ?_
      refine lv_lmul hx hb dX5_dual_95 ?_
      refine st_l hx hb hK.1 hP hD hS 2 1 rfl rfl (ix_lit (by decide)) 4 (by decide) dX5_dual_96 (fun H locs hP hD hS => ?_)
      have hP : va_P D vwCl [kM o mP mL mC mN mF mR mD mV mX mA mK cm mT pm mU mH mI, kA mN cI 3 gm, kJ mF cJ 6 (vp_updL (vp_updL (vp_updL (vp_updL (vp_updL ff 0 ((z5_detOf_f3 gc fx fa c) 0)) 1 (2 * ((z5_detOf_f3 gc fx fa c) 1))) 2 ((z5_detOf_f3 gc fx fa c) 4)) 3 (2 * ((z5_detOf_f3 gc fx fa c) 2))) 4 (2 * ((z5_detOf_f3 gc fx fa c) 5))), kJ mX cJ 9 (z5_detOf_f2 gc fx c), kJ mA cJ 9 (z5_detOf_f3 gc fx fa c), kA mC cI 360 gc] H := hP
      have hD : va_D A [kM o mP mL mC mN mF mR mD mV mX mA mK cm mT pm mU mH mI, kA mN cI 3 gm, kJ mF cJ 6 (vp_updL (vp_updL (vp_updL (vp_updL (vp_updL ff 0 ((z5_detOf_f3 gc fx fa c) 0)) 1 (2 * ((z5_detOf_f3 gc fx fa c) 1))) 2 ((z5_detOf_f3 gc fx fa c) 4)) 3 (2 * ((z5_detOf_f3 gc fx fa c) 2))) 4 (2 * ((z5_detOf_f3 gc fx fa c) 5))), kJ mX cJ 9 (z5_detOf_f2 gc fx c), kJ mA cJ 9 (z5_detOf_f3 gc fx fa c), kA mC cI 360 gc] := hD
      refine lv_aload_n hx hb dX5_dual_97 rfl (lv_at hl 0 rfl) ?_
      refine va_get (D := D) (ci := 5) (v := .ref mF) (C := RX5) (T := TX5) (N := 17) hx hb hts k_2 hown hK.1 hP 0 rfl rfl 4 (by decide) k_1 (fun _ h9 => h9) rfl dX5_dual_98 ?_
      refine lv_iconst (v := 5) hx hb dX5_dual_101 (by decide) ?_
      refine lv_aload_n hx hb dX5_dual_102 rfl (lv_at hl 0 rfl) ?_
      refine va_get (D := D) (ci := 5) (v := .ref mA) (C := RX5) (T := TX5) (N := 17) hx hb hts k_2 hown hK.1 hP 0 rfl rfl 9 (by decide) k_3 (fun _ h9 => h9) rfl dX5_dual_103 ?_
      refine lv_bipush (v := 8) hx hb dX5_dual_106 (by decide) ?_
      refine ld_l hx hb hK.1 hP 4 1 rfl rfl (ix_lit (by decide)) 8 (by decide) (v := (z5_detOf_f3 gc fx fa c) 8) rfl dX5_dual_108 ?_
      refine st_l hx hb hK.1 hP hD hS 2 1 rfl rfl (ix_lit (by decide)) 5 (by decide) dX5_dual_109 (fun H locs hP hD hS => ?_)
      have hP : va_P D vwCl [kM o mP mL mC mN mF mR mD mV mX mA mK cm mT pm mU mH mI, kA mN cI 3 gm, kJ mF cJ 6 (vp_updL (vp_updL (vp_updL (vp_updL (vp_updL (vp_updL ff 0 ((z5_detOf_f3 gc fx fa c) 0)) 1 (2 * ((z5_detOf_f3 gc fx fa c) 1))) 2 ((z5_detOf_f3 gc fx fa c) 4)) 3 (2 * ((z5_detOf_f3 gc fx fa c) 2))) 4 (2 * ((z5_detOf_f3 gc fx fa c) 5))) 5 ((z5_detOf_f3 gc fx fa c) 8)), kJ mX cJ 9 (z5_detOf_f2 gc fx c), kJ mA cJ 9 (z5_detOf_f3 gc fx fa c), kA mC cI 360 gc] H := hP
      have hD : va_D A [kM o mP mL mC mN mF mR mD mV mX mA mK cm mT pm mU mH mI, kA mN cI 3 gm, kJ mF cJ 6 (vp_updL (vp_updL (vp_updL (vp_updL (vp_updL (vp_updL ff 0 ((z5_detOf_f3 gc fx fa c) 0)) 1 (2 * ((z5_detOf_f3 gc fx fa c) 1))) 2 ((z5_detOf_f3 gc fx fa c) 4)) 3 (2 * ((z5_detOf_f3 gc fx fa c) 2))) 4 (2 * ((z5_detOf_f3 gc fx fa c) 5))) 5 ((z5_detOf_f3 gc fx fa c) 8)), kJ mX cJ 9 (z5_detOf_f2 gc fx c), kJ mA cJ 9 (z5_detOf_f3 gc fx fa c), kA mC cI 360 gc] := hD
      refine lv_aload_n hx hb dX5_dual_110 rfl (lv_at hl 0 rfl) ?_
      refine lv_iconst (v := 2) hx hb dX5_dual_111 (by decide) ?_
      refine lv_ldc hx hb hown k_5 dX5_dual_112 ?_
      have hPc := hP.sub (ws' := [kM o mP mL mC mN mF mR mD mV mX mA mK cm mT pm mU mH mI, kA mN cI 3 gm, kJ mF cJ 6 (vp_updL (vp_updL (vp_updL (vp_updL (vp_updL (vp_updL ff 0 ((z5_detOf_f3 gc fx fa c) 0)) 1 (2 * ((z5_detOf_f3 gc fx fa c) 1))) 2 ((z5_detOf_f3 gc fx fa c) 4)) 3 (2 * ((z5_detOf_f3 gc fx fa c) 2))) 4 (2 * ((z5_detOf_f3 gc fx fa c) 5))) 5 ((z5_detOf_f3 gc fx fa c) 8)), kA mC cI 360 gc]) [0, 1, 2, 5] rfl
      have hDc := hD.sub (ws' := [kM o mP mL mC mN mF mR mD mV mX mA mK cm mT pm mU mH mI, kA mN cI 3 gm, kJ mF cJ 6 (vp_updL (vp_updL (vp_updL (vp_updL (vp_updL (vp_updL ff 0 ((z5_detOf_f3 gc fx fa c) 0)) 1 (2 * ((z5_detOf_f3 gc fx fa c) 1))) 2 ((z5_detOf_f3 gc fx fa c) 4)) 3 (2 * ((z5_detOf_f3 gc fx fa c) 2))) 4 (2 * ((z5_detOf_f3 gc fx fa c) 5))) 5 ((z5_detOf_f3 gc fx fa c) 8)), kA mC cI 360 gc]) [0, 1, 2, 5] (by decide) rfl
      refine cl_i (wc := [kM o mP mL mC mN mF mR mD mV mX mA mK cm mT pm mU mH mI, kA mN cI 3 gm, kJ mF cJ 6 (vp_updL (vp_updL (vp_updL (vp_updL (vp_updL (vp_updL ff 0 ((z5_detOf_f3 gc fx fa c) 0)) 1 (2 * ((z5_detOf_f3 gc fx fa c) 1))) 2 ((z5_detOf_f3 gc fx fa c) 4)) 3 (2 * ((z5_detOf_f3 gc fx fa c) 2))) 4 (2 * ((z5_detOf_f3 gc fx fa c) 5))) 5 ((z5_detOf_f3 gc fx fa c) 8)), kA mC cI 360 gc]) (wr := [kJ mX cJ 9 (z5_detOf_f2 gc fx c), kJ mA cJ 9 (z5_detOf_f3 gc fx fa c)]) (w1 := fun uu : (Nat → Int64) => [kM o mP mL mC mN mF mR mD mV mX mA mK cm mT pm mU mH mI, kA mN cI 3 ((z5_keep_2 gm (vp_updL (vp_updL (vp_updL (vp_updL (vp_updL (vp_updL ff 0 ((z5_detOf_f3 gc fx fa c) 0)) 1 (2 * ((z5_detOf_f3 gc fx fa c) 1))) 2 ((z5_detOf_f3 gc fx fa c) 4)) 3 (2 * ((z5_detOf_f3 gc fx fa c) 2))) 4 (2 * ((z5_detOf_f3 gc fx fa c) 5))) 5 ((z5_detOf_f3 gc fx fa c) 8)) gc (-1000004)).2.1), kJ mF cJ 6 uu, kA mC cI 360 ((z5_keep_2 gm (vp_updL (vp_updL (vp_updL (vp_updL (vp_updL (vp_updL ff 0 ((z5_detOf_f3 gc fx fa c) 0)) 1 (2 * ((z5_detOf_f3 gc fx fa c) 1))) 2 ((z5_detOf_f3 gc fx fa c) 4)) 3 (2 * ((z5_detOf_f3 gc fx fa c) 2))) 4 (2 * ((z5_detOf_f3 gc fx fa c) 5))) 5 ((z5_detOf_f3 gc fx fa c) 8)) gc (-1000004)).2.2)]) (wn := fun uu : (Nat → Int64) => [kM o mP mL mC mN mF mR mD mV mX mA mK cm mT pm mU mH mI, kA mN cI 3 ((z5_keep_2 gm (vp_updL (vp_updL (vp_updL (vp_updL (vp_updL (vp_updL ff 0 ((z5_detOf_f3 gc fx fa c) 0)) 1 (2 * ((z5_detOf_f3 gc fx fa c) 1))) 2 ((z5_detOf_f3 gc fx fa c) 4)) 3 (2 * ((z5_detOf_f3 gc fx fa c) 2))) 4 (2 * ((z5_detOf_f3 gc fx fa c) 5))) 5 ((z5_detOf_f3 gc fx fa c) 8)) gc (-1000004)).2.1), kJ mF cJ 6 uu, kJ mX cJ 9 (z5_detOf_f2 gc fx c), kJ mA cJ 9 (z5_detOf_f3 gc fx fa c), kA mC cI 360 ((z5_keep_2 gm (vp_updL (vp_updL (vp_updL (vp_updL (vp_updL (vp_updL ff 0 ((z5_detOf_f3 gc fx fa c) 0)) 1 (2 * ((z5_detOf_f3 gc fx fa c) 1))) 2 ((z5_detOf_f3 gc fx fa c) 4)) 3 (2 * ((z5_detOf_f3 gc fx fa c) 2))) 4 (2 * ((z5_detOf_f3 gc fx fa c) 5))) 5 ((z5_detOf_f3 gc fx fa c) 8)) gc (-1000004)).2.2)]) (va_runV (As := [.int 2, .int (-1000004)]) (rest := []) ⟨hx, hb, hml, hown, hts⟩ (c_X5_keep_2 l D cI cJ o mP mL mC mN mF mR mD mV mX mA mK mT mU mH mI cm pm gm (vp_updL (vp_updL (vp_updL (vp_updL (vp_updL (vp_updL ff 0 ((z5_detOf_f3 gc fx fa c) 0)) 1 (2 * ((z5_detOf_f3 gc fx fa c) 1))) 2 ((z5_detOf_f3 gc fx fa c) 4)) 3 (2 * ((z5_detOf_f3 gc fx fa c) 2))) 4 (2 * ((z5_detOf_f3 gc fx fa c) 5))) 5 ((z5_detOf_f3 gc fx fa c) 8)) gc (-1000004) hm2 _) (cwV 2 hts gX5_dual_X5_keep rfl rfl rfl (by decide +kernel) ⟨Nat.le_of_ble_eq_true rfl, Nat.le_of_ble_eq_true rfl⟩) ⟨gd_blP, va_recv hK.1 hPc (ci := 5) (q0 := 0) rfl rfl, gd_prP hPc hK hDc⟩ rfl rfl hl.1 rfl (lv_room (Nat.le_of_ble_eq_true rfl)) dX5_dual_114 ⟨Nat.zero_le _, Nat.zero_le _⟩) hP hD hS hA [0, 1, 2, 5] [3, 4] rfl rfl (by decide) (by decide) [2, 3, 4, 0, 1, 5] (by decide) (fun _ => rfl) (fun r_114 uG H locs hw hP hD hS => ?_)
      obtain ⟨y_114_0_1, rfl⟩ : ∃ z, z = uG := ⟨_, rfl⟩
      have hP : va_P D vwCl [kM o mP mL mC mN mF mR mD mV mX mA mK cm mT pm mU mH mI, kA mN cI 3 ((z5_keep_2 gm (vp_updL (vp_updL (vp_updL (vp_updL (vp_updL (vp_updL ff 0 ((z5_detOf_f3 gc fx fa c) 0)) 1 (2 * ((z5_detOf_f3 gc fx fa c) 1))) 2 ((z5_detOf_f3 gc fx fa c) 4)) 3 (2 * ((z5_detOf_f3 gc fx fa c) 2))) 4 (2 * ((z5_detOf_f3 gc fx fa c) 5))) 5 ((z5_detOf_f3 gc fx fa c) 8)) gc (-1000004)).2.1), kJ mF cJ 6 y_114_0_1, kJ mX cJ 9 (z5_detOf_f2 gc fx c), kJ mA cJ 9 (z5_detOf_f3 gc fx fa c), kA mC cI 360 ((z5_keep_2 gm (vp_updL (vp_updL (vp_updL (vp_updL (vp_updL (vp_updL ff 0 ((z5_detOf_f3 gc fx fa c) 0)) 1 (2 * ((z5_detOf_f3 gc fx fa c) 1))) 2 ((z5_detOf_f3 gc fx fa c) 4)) 3 (2 * ((z5_detOf_f3 gc fx fa c) 2))) 4 (2 * ((z5_detOf_f3 gc fx fa c) 5))) 5 ((z5_detOf_f3 gc fx fa c) 8)) gc (-1000004)).2.2)] H := hP
      have hD : va_D A [kM o mP mL mC mN mF mR mD mV mX mA mK cm mT pm mU mH mI, kA mN cI 3 ((z5_keep_2 gm (vp_updL (vp_updL (vp_updL (vp_updL (vp_updL (vp_updL ff 0 ((z5_detOf_f3 gc fx fa c) 0)) 1 (2 * ((z5_detOf_f3 gc fx fa c) 1))) 2 ((z5_detOf_f3 gc fx fa c) 4)) 3 (2 * ((z5_detOf_f3 gc fx fa c) 2))) 4 (2 * ((z5_detOf_f3 gc fx fa c) 5))) 5 ((z5_detOf_f3 gc fx fa c) 8)) gc (-1000004)).2.1), kJ mF cJ 6 y_114_0_1, kJ mX cJ 9 (z5_detOf_f2 gc fx c), kJ mA cJ 9 (z5_detOf_f3 gc fx fa c), kA mC cI 360 ((z5_keep_2 gm (vp_updL (vp_updL (vp_updL (vp_updL (vp_updL (vp_updL ff 0 ((z5_detOf_f3 gc fx fa c) 0)) 1 (2 * ((z5_detOf_f3 gc fx fa c) 1))) 2 ((z5_detOf_f3 gc fx fa c) 4)) 3 (2 * ((z5_detOf_f3 gc fx fa c) 2))) 4 (2 * ((z5_detOf_f3 gc fx fa c) 5))) 5 ((z5_detOf_f3 gc fx fa c) 8)) gc (-1000004)).2.2)] := hD
      have ea_0 : (z5_keep_2 gm (vp_updL (vp_updL (vp_updL (vp_updL (vp_updL (vp_updL ff 0 ((z5_detOf_f3 gc fx fa c) 0)) 1 (2 * ((z5_detOf_f3 gc fx fa c) 1))) 2 ((z5_detOf_f3 gc fx fa c) 4)) 3 (2 * ((z5_detOf_f3 gc fx fa c) 2))) 4 (2 * ((z5_detOf_f3 gc fx fa c) 5))) 5 ((z5_detOf_f3 gc fx fa c) 8)) gc (-1000004)).2.1 = z5_dual_v1 gm ff fx fa gc c := by delta z5_dual_v1; rfl
      have ea_1 : (z5_keep_2 gm (vp_updL (vp_updL (vp_updL (vp_updL (vp_updL (vp_updL ff 0 ((z5_detOf_f3 gc fx fa c) 0)) 1 (2 * ((z5_detOf_f3 gc fx fa c) 1))) 2 ((z5_detOf_f3 gc fx fa c) 4)) 3 (2 * ((z5_detOf_f3 gc fx fa c) 2))) 4 (2 * ((z5_detOf_f3 gc fx fa c) 5))) 5 ((z5_detOf_f3 gc fx fa c) 8)) gc (-1000004)).2.2 = z5_dual_v2 gm ff fx fa gc c := by delta z5_dual_v2; rfl
      rw [ea_0, ea_1] at hP hD
      clear ea_0 ea_1
      subst hw
      refine lv_eqi (v := z5_dual_v3 gm ff fx fa gc c) (by delta z5_dual_v3; rfl) ?_
      clear hPc hDc
      have he : z5_dual gm ff fx fa gc c = (z5_dual_v3 gm ff fx fa gc c, z5_dual_v1 gm ff fx fa gc c, z5_dual_v2 gm ff fx fa gc c) := by unfold z5_dual; rw [if_neg c_1, if_neg c_2]
      have he_0 : (z5_dual gm ff fx fa gc c).1 = z5_dual_v3 gm ff fx fa gc c := by rw [he]
      have he_1 : (z5_dual gm ff fx fa gc c).2.1 = z5_dual_v1 gm ff fx fa gc c := by rw [he]
      have he_2 : (z5_dual gm ff fx fa gc c).2.2 = z5_dual_v2 gm ff fx fa gc c := by rw [he]
      exact rt_i (w1 := fun uu : (Nat → Int64) × (Nat → Int64) × (Nat → Int64) => [kM o mP mL mC mN mF mR mD mV mX mA mK cm mT pm mU mH mI, kA mN cI 3 ((z5_dual gm ff fx fa gc c).2.1), kJ mF cJ 6 uu.1, kJ mX cJ 9 uu.2.1, kJ mA cJ 9 uu.2.2, kA mC cI 360 ((z5_dual gm ff fx fa gc c).2.2)]) hx hb hr hlk hS dX5_dual_117 ((y_114_0_1, z5_detOf_f2 gc fx c, z5_detOf_f3 gc fx fa c)) he_0.symm (by (try dsimp only); rw [he_1, he_2]; exact hP) (by (try dsimp only); rw [he_1, he_2]; exact hD)
    · skip
      refine lv_ldc hx hb hown k_5 dX5_dual_22 ?_
      have he : z5_dual gm ff fx fa gc c = ((-1000004), gm, gc) := by unfold z5_dual; rw [if_neg c_1, if_pos c_2]
      have he_0 : (z5_dual gm ff fx fa gc c).1 = (-1000004) := by rw [he]
      have he_1 : (z5_dual gm ff fx fa gc c).2.1 = gm := by rw [he]
      have he_2 : (z5_dual gm ff fx fa gc c).2.2 = gc := by rw [he]
      exact rt_i (w1 := fun uu : (Nat → Int64) × (Nat → Int64) × (Nat → Int64) => [kM o mP mL mC mN mF mR mD mV mX mA mK cm mT pm mU mH mI, kA mN cI 3 ((z5_dual gm ff fx fa gc c).2.1), kJ mF cJ 6 uu.1, kJ mX cJ 9 uu.2.1, kJ mA cJ 9 uu.2.2, kA mC cI 360 ((z5_dual gm ff fx fa gc c).2.2)]) hx hb hr hlk hS dX5_dual_24 ((ff, z5_detOf_f2 gc fx c, z5_detOf_f3 gc fx fa c)) he_0.symm (by (try dsimp only); rw [he_1, he_2]; exact hP) (by (try dsimp only); rw [he_1, he_2]; exact hD)
  · skip
    refine lv_ldc hx hb hown k_6 dX5_dual_9 ?_
    have he : z5_dual gm ff fx fa gc c = ((-1000002), gm, gc) := by unfold z5_dual; rw [if_pos c_1]
    have he_0 : (z5_dual gm ff fx fa gc c).1 = (-1000002) := by rw [he]
    have he_1 : (z5_dual gm ff fx fa gc c).2.1 = gm := by rw [he]
    have he_2 : (z5_dual gm ff fx fa gc c).2.2 = gc := by rw [he]
    exact rt_i (w1 := fun uu : (Nat → Int64) × (Nat → Int64) × (Nat → Int64) => [kM o mP mL mC mN mF mR mD mV mX mA mK cm mT pm mU mH mI, kA mN cI 3 ((z5_dual gm ff fx fa gc c).2.1), kJ mF cJ 6 uu.1, kJ mX cJ 9 uu.2.1, kJ mA cJ 9 uu.2.2, kA mC cI 360 ((z5_dual gm ff fx fa gc c).2.2)]) hx hb hr hlk hS dX5_dual_11 ((ff, fx, fa)) he_0.symm (by (try dsimp only); rw [he_1, he_2]; exact hP) (by (try dsimp only); rw [he_1, he_2]; exact hD)
