-- laid by wip/whole/gen
def z5_putPart_0_0_1_f2 (fx : Nat → Int64) (ft : Nat → Int64) (fi : Nat → Int64) : Nat → Int64 := vp_updL (vp_updL (vp_updL ft 0 (((z5_norm_3_3 (vp_updL (vp_updL (vp_updL fi 0 (fx 0)) 1 (fx 1)) 2 (fx 2))).2) 0)) 1 (((z5_norm_3_3 (vp_updL (vp_updL (vp_updL fi 0 (fx 0)) 1 (fx 1)) 2 (fx 2))).2) 1)) 2 (((z5_norm_3_3 (vp_updL (vp_updL (vp_updL fi 0 (fx 0)) 1 (fx 1)) 2 (fx 2))).2) 2)
def z5_putPart_0_0_1_f3 (fx : Nat → Int64) (fi : Nat → Int64) : Nat → Int64 := (z5_norm_3_3 (vp_updL (vp_updL (vp_updL fi 0 (fx 0)) 1 (fx 1)) 2 (fx 2))).2
set_option maxHeartbeats 4000000 in
set_option maxRecDepth 100000 in
/-- X5.putPart -/
theorem c_X5_putPart_0_0_1 (l : Launch) (D : va_G) (cI cJ : ClassId) (o : Nat) (mP : Nat) (mL : Nat) (mC : Nat) (mN : Nat) (mF : Nat) (mR : Nat) (mD : Nat) (mV : Nat) (mX : Nat) (mA : Nat) (mK : Nat) (mT : Nat) (mU : Nat) (mH : Nat) (mI : Nat) (cm : Int32) (pm : Int32) (fx : Nat → Int64) (ft : Nat → Int64) (fi : Nat → Int64) : mw_C l yX5_putPart wsX5_putPart ({ frames := 2, cells := 0, slots := 0, locals := 54 }) D cI cJ [.ref o, .int 0, .int 0, .int 1] [kM o mP mL mC mN mF mR mD mV mX mA mK cm mT pm mU mH mI, kJ mX cJ 9 fx, kJ mT cJ 6 ft, kJ mI cJ 3 fi] (qe_v (fun _ : Unit => True) (fun uu => [kM o mP mL mC mN mF mR mD mV mX mA mK cm mT pm mU mH mI, kJ mX cJ 9 fx, kJ mT cJ 6 (z5_putPart_0_0_1_f2 fx ft fi), kJ mI cJ 3 (z5_putPart_0_0_1_f3 fx fi)])) := by
  refine mw_in (cc := cX5_putPart) (lv := [(0, .ref o), (1, .int 0), (2, .int 0), (3, .int 1)]) (by decide) rfl (Nat.le_of_ble_eq_true rfl) rfl ?_
  intro pG eG sG mG below meth cG ls A hx hb hr hml hown hts hlk hin hP hK hD hA hS hl
  have hown : sG.vm.findClass RX5 = some mG.cls := hown
  have k_1 := hts (.fieldLink RX5 53 "ConicRowsModel" "one" "[J") (by decide +kernel)
  have k_2 : ∀ w ∈ wsX50, w ∈ wsX5_putPart := by decide +kernel
  have k_3 := hts (.fieldLink RX5 35 "ConicRowsModel" "matrix" "[J") (by decide +kernel)
  have k_4 := hts (.fieldLink RX5 44 "ConicRowsModel" "parts" "[J") (by decide +kernel)
  refine lv_iconst (v := 0) hx hb dX5_putPart_0 (by decide) ?_
  refine lv_istore (lv' := [(4, .int 0), (0, .ref o), (1, .int 0), (2, .int 0), (3, .int 1)]) hx hb dX5_putPart_1 hl (by decide) rfl (fun ls hl => ?_)
  refine lv_iload hx hb dX5_putPart_3 (lv_at hl 0 rfl) ?_
  refine lv_iconst (v := 3) hx hb dX5_putPart_5 (by decide) ?_
  refine lv_icmp_ge (tgt := 33) hx hb dX5_putPart_6 (by decide) (fun h => absurd h (by decide)) (fun _ => ?_)
  refine lv_aload_n hx hb dX5_putPart_9 rfl (lv_at hl 1 rfl) ?_
  refine va_get (D := D) (ci := 5) (v := .ref mI) (C := RX5) (T := TX5) (N := 17) hx hb hts k_2 hown hK.1 hP 0 rfl rfl 16 (by decide) k_1 (fun _ h9 => h9) rfl dX5_putPart_10 ?_
  refine lv_iload hx hb dX5_putPart_13 (lv_at hl 0 rfl) ?_
  refine lv_aload_n hx hb dX5_putPart_15 rfl (lv_at hl 1 rfl) ?_
  refine va_get (D := D) (ci := 5) (v := .ref mX) (C := RX5) (T := TX5) (N := 17) hx hb hts k_2 hown hK.1 hP 0 rfl rfl 8 (by decide) k_3 (fun _ h9 => h9) rfl dX5_putPart_16 ?_
  refine lv_iload_n hx hb dX5_putPart_19 rfl (lv_at hl 3 rfl) ?_
  refine lv_iload_n hx hb dX5_putPart_20 rfl (lv_at hl 4 rfl) ?_
  refine lv_iload hx hb dX5_putPart_21 (lv_at hl 0 rfl) ?_
  refine lv_imul hx hb dX5_putPart_23 ?_
  refine lv_eqi (v := 0) (by decide) ?_
  refine lv_iadd hx hb dX5_putPart_24 ?_
  refine lv_eqi (v := 0) (by decide) ?_
  refine ld_l hx hb hK.1 hP 1 1 rfl rfl (ix_lit (by decide)) 0 (by decide) (v := fx 0) rfl dX5_putPart_25 ?_
  refine st_l hx hb hK.1 hP hD hS 3 1 rfl rfl (ix_lit (by decide)) 0 (by decide) dX5_putPart_26 (fun H locs hP hD hS => ?_)
  have hP : va_P D vwCl [kM o mP mL mC mN mF mR mD mV mX mA mK cm mT pm mU mH mI, kJ mX cJ 9 fx, kJ mT cJ 6 ft, kJ mI cJ 3 (vp_updL fi 0 (fx 0))] H := hP
  have hD : va_D A [kM o mP mL mC mN mF mR mD mV mX mA mK cm mT pm mU mH mI, kJ mX cJ 9 fx, kJ mT cJ 6 ft, kJ mI cJ 3 (vp_updL fi 0 (fx 0))] := hD
  refine lv_iinc (v := 1) (lv' := [(4, .int 1), (0, .ref o), (1, .int 0), (2, .int 0), (3, .int 1)]) hx hb dX5_putPart_27 hl (k := 0) rfl (by decide) (by decide) rfl (fun ls hl => ?_)
  refine lv_goto (tgt := 3) hx hb dX5_putPart_30 (by decide) ?_
  refine lv_iload hx hb dX5_putPart_3 (lv_at hl 0 rfl) ?_
  refine lv_iconst (v := 3) hx hb dX5_putPart_5 (by decide) ?_
  refine lv_icmp_ge (tgt := 33) hx hb dX5_putPart_6 (by decide) (fun h => absurd h (by decide)) (fun _ => ?_)
  refine lv_aload_n hx hb dX5_putPart_9 rfl (lv_at hl 1 rfl) ?_
  refine va_get (D := D) (ci := 5) (v := .ref mI) (C := RX5) (T := TX5) (N := 17) hx hb hts k_2 hown hK.1 hP 0 rfl rfl 16 (by decide) k_1 (fun _ h9 => h9) rfl dX5_putPart_10 ?_
  refine lv_iload hx hb dX5_putPart_13 (lv_at hl 0 rfl) ?_
  refine lv_aload_n hx hb dX5_putPart_15 rfl (lv_at hl 1 rfl) ?_
  refine va_get (D := D) (ci := 5) (v := .ref mX) (C := RX5) (T := TX5) (N := 17) hx hb hts k_2 hown hK.1 hP 0 rfl rfl 8 (by decide) k_3 (fun _ h9 => h9) rfl dX5_putPart_16 ?_
  refine lv_iload_n hx hb dX5_putPart_19 rfl (lv_at hl 3 rfl) ?_
  refine lv_iload_n hx hb dX5_putPart_20 rfl (lv_at hl 4 rfl) ?_
  refine lv_iload hx hb dX5_putPart_21 (lv_at hl 0 rfl) ?_
  refine lv_imul hx hb dX5_putPart_23 ?_
  refine lv_eqi (v := 1) (by decide) ?_
  refine lv_iadd hx hb dX5_putPart_24 ?_
  refine lv_eqi (v := 1) (by decide) ?_
  refine ld_l hx hb hK.1 hP 1 1 rfl rfl (ix_lit (by decide)) 1 (by decide) (v := fx 1) rfl dX5_putPart_25 ?_
  refine st_l hx hb hK.1 hP hD hS 3 1 rfl rfl (ix_lit (by decide)) 1 (by decide) dX5_putPart_26 (fun H locs hP hD hS => ?_)
  have hP : va_P D vwCl [kM o mP mL mC mN mF mR mD mV mX mA mK cm mT pm mU mH mI, kJ mX cJ 9 fx, kJ mT cJ 6 ft, kJ mI cJ 3 (vp_updL (vp_updL fi 0 (fx 0)) 1 (fx 1))] H := hP
  have hD : va_D A [kM o mP mL mC mN mF mR mD mV mX mA mK cm mT pm mU mH mI, kJ mX cJ 9 fx, kJ mT cJ 6 ft, kJ mI cJ 3 (vp_updL (vp_updL fi 0 (fx 0)) 1 (fx 1))] := hD
  refine lv_iinc (v := 2) (lv' := [(4, .int 2), (0, .ref o), (1, .int 0), (2, .int 0), (3, .int 1)]) hx hb dX5_putPart_27 hl (k := 0) rfl (by decide) (by decide) rfl (fun ls hl => ?_)
  refine lv_goto (tgt := 3) hx hb dX5_putPart_30 (by decide) ?_
  refine lv_iload hx hb dX5_putPart_3 (lv_at hl 0 rfl) ?_
  refine lv_iconst (v := 3) hx hb dX5_putPart_5 (by decide) ?_
  refine lv_icmp_ge (tgt := 33) hx hb dX5_putPart_6 (by decide) (fun h => absurd h (by decide)) (fun _ => ?_)
  refine lv_aload_n hx hb dX5_putPart_9 rfl (lv_at hl 1 rfl) ?_
  refine va_get (D := D) (ci := 5) (v := .ref mI) (C := RX5) (T := TX5) (N := 17) hx hb hts k_2 hown hK.1 hP 0 rfl rfl 16 (by decide) k_1 (fun _ h9 => h9) rfl dX5_putPart_10 ?_
  refine lv_iload hx hb dX5_putPart_13 (lv_at hl 0 rfl) ?_
  refine lv_aload_n hx hb dX5_putPart_15 rfl (lv_at hl 1 rfl) ?_
  refine va_get (D := D) (ci := 5) (v := .ref mX) (C := RX5) (T := TX5) (N := 17) hx hb hts k_2 hown hK.1 hP 0 rfl rfl 8 (by decide) k_3 (fun _ h9 => h9) rfl dX5_putPart_16 ?_
  refine lv_iload_n hx hb dX5_putPart_19 rfl (lv_at hl 3 rfl) ?_
  refine lv_iload_n hx hb dX5_putPart_20 rfl (lv_at hl 4 rfl) ?_
  refine lv_iload hx hb dX5_putPart_21 (lv_at hl 0 rfl) ?_
  refine lv_imul hx hb dX5_putPart_23 ?_
  refine lv_eqi (v := 2) (by decide) ?_
  refine lv_iadd hx hb dX5_putPart_24 ?_
  refine lv_eqi (v := 2) (by decide) ?_
  refine ld_l hx hb hK.1 hP 1 1 rfl rfl (ix_lit (by decide)) 2 (by decide) (v := fx 2) rfl dX5_putPart_25 ?_
  refine st_l hx hb hK.1 hP hD hS 3 1 rfl rfl (ix_lit (by decide)) 2 (by decide) dX5_putPart_26 (fun H locs hP hD hS => ?_)
  have hP : va_P D vwCl [kM o mP mL mC mN mF mR mD mV mX mA mK cm mT pm mU mH mI, kJ mX cJ 9 fx, kJ mT cJ 6 ft, kJ mI cJ 3 (vp_updL (vp_updL (vp_updL fi 0 (fx 0)) 1 (fx 1)) 2 (fx 2))] H := hP
  have hD : va_D A [kM o mP mL mC mN mF mR mD mV mX mA mK cm mT pm mU mH mI, kJ mX cJ 9 fx, kJ mT cJ 6 ft, kJ mI cJ 3 (vp_updL (vp_updL (vp_updL fi 0 (fx 0)) 1 (fx 1)) 2 (fx 2))] := hD
  refine lv_iinc (v := 3) (lv' := [(4, .int 3), (0, .ref o), (1, .int 0), (2, .int 0), (3, .int 1)]) hx hb dX5_putPart_27 hl (k := 0) rfl (by decide) (by decide) rfl (fun ls hl => ?_)
  refine lv_goto (tgt := 3) hx hb dX5_putPart_30 (by decide) ?_
  refine lv_iload hx hb dX5_putPart_3 (lv_at hl 0 rfl) ?_
  refine lv_iconst (v := 3) hx hb dX5_putPart_5 (by decide) ?_
  refine lv_icmp_ge (tgt := 33) hx hb dX5_putPart_6 (by decide) (fun _ => ?_) (fun h => absurd (by decide) h)
  refine lv_aload_n hx hb dX5_putPart_33 rfl (lv_at hl 1 rfl) ?_
  refine va_get (D := D) (ci := 5) (v := .ref mI) (C := RX5) (T := TX5) (N := 17) hx hb hts k_2 hown hK.1 hP 0 rfl rfl 16 (by decide) k_1 (fun _ h9 => h9) rfl dX5_putPart_34 ?_
  refine lv_iconst (v := 3) hx hb dX5_putPart_37 (by decide) ?_
  have hPc := hP.sub (ws' := [kJ mI cJ 3 (vp_updL (vp_updL (vp_updL fi 0 (fx 0)) 1 (fx 1)) 2 (fx 2))]) [3] rfl
  have hDc := hD.sub (ws' := [kJ mI cJ 3 (vp_updL (vp_updL (vp_updL fi 0 (fx 0)) 1 (fx 1)) 2 (fx 2))]) [3] (by decide) rfl
  refine cl_i (wc := [kJ mI cJ 3 (vp_updL (vp_updL (vp_updL fi 0 (fx 0)) 1 (fx 1)) 2 (fx 2))]) (wr := [kM o mP mL mC mN mF mR mD mV mX mA mK cm mT pm mU mH mI, kJ mX cJ 9 fx, kJ mT cJ 6 ft]) (w1 := fun uu : Unit => [kJ mI cJ 3 ((z5_norm_3_3 (vp_updL (vp_updL (vp_updL fi 0 (fx 0)) 1 (fx 1)) 2 (fx 2))).2)]) (wn := fun uu : Unit => [kM o mP mL mC mN mF mR mD mV mX mA mK cm mT pm mU mH mI, kJ mX cJ 9 fx, kJ mT cJ 6 ft, kJ mI cJ 3 ((z5_norm_3_3 (vp_updL (vp_updL (vp_updL fi 0 (fx 0)) 1 (fx 1)) 2 (fx 2))).2)]) (va_runS (As := [.ref mI, .int 3]) (rest := []) ⟨hx, hb, hml, hown, hts⟩ (c_X5_norm_3_3 l D cI cJ mI (vp_updL (vp_updL (vp_updL fi 0 (fx 0)) 1 (fx 1)) 2 (fx 2)) _) (va_cwS 2 hts gX5_putPart_X5_norm rfl rfl rfl (by decide +kernel) ⟨Nat.le_of_ble_eq_true rfl, Nat.le_of_ble_eq_true rfl⟩) ⟨gd_blP, gd_prP hPc hK hDc⟩ rfl rfl hl.1 rfl (lv_room (Nat.le_of_ble_eq_true rfl)) dX5_putPart_38 ⟨Nat.zero_le _, Nat.zero_le _⟩) hP hD hS hA [3] [0, 1, 2] rfl rfl (by decide) (by decide) [0, 1, 2, 3] (by decide) (fun _ => rfl) (fun r_38 uG H locs hw hP hD hS => ?_)
  have hP : va_P D vwCl [kM o mP mL mC mN mF mR mD mV mX mA mK cm mT pm mU mH mI, kJ mX cJ 9 fx, kJ mT cJ 6 ft, kJ mI cJ 3 ((z5_norm_3_3 (vp_updL (vp_updL (vp_updL fi 0 (fx 0)) 1 (fx 1)) 2 (fx 2))).2)] H := hP
  have hD : va_D A [kM o mP mL mC mN mF mR mD mV mX mA mK cm mT pm mU mH mI, kJ mX cJ 9 fx, kJ mT cJ 6 ft, kJ mI cJ 3 ((z5_norm_3_3 (vp_updL (vp_updL (vp_updL fi 0 (fx 0)) 1 (fx 1)) 2 (fx 2))).2)] := hD
  subst hw
  clear hPc hDc
  refine lv_istore (lv' := [(4, .int ((z5_norm_3_3 (vp_updL (vp_updL (vp_updL fi 0 (fx 0)) 1 (fx 1)) 2 (fx 2))).1)), (0, .ref o), (1, .int 0), (2, .int 0), (3, .int 1)]) hx hb dX5_putPart_41 hl (by decide) rfl (fun ls hl => ?_)
  refine lv_iconst (v := 0) hx hb dX5_putPart_43 (by decide) ?_
  refine lv_istore (lv' := [(5, .int 0), (4, .int ((z5_norm_3_3 (vp_updL (vp_updL (vp_updL fi 0 (fx 0)) 1 (fx 1)) 2 (fx 2))).1)), (0, .ref o), (1, .int 0), (2, .int 0), (3, .int 1)]) hx hb dX5_putPart_44 hl (by decide) rfl (fun ls hl => ?_)
  refine lv_iload hx hb dX5_putPart_46 (lv_at hl 0 rfl) ?_
  refine lv_iconst (v := 3) hx hb dX5_putPart_48 (by decide) ?_
  refine lv_icmp_ge (tgt := 76) hx hb dX5_putPart_49 (by decide) (fun h => absurd h (by decide)) (fun _ => ?_)
  refine lv_aload_n hx hb dX5_putPart_52 rfl (lv_at hl 2 rfl) ?_
  refine va_get (D := D) (ci := 5) (v := .ref mT) (C := RX5) (T := TX5) (N := 17) hx hb hts k_2 hown hK.1 hP 0 rfl rfl 12 (by decide) k_4 (fun _ h9 => h9) rfl dX5_putPart_53 ?_
  refine lv_iconst (v := 3) hx hb dX5_putPart_56 (by decide) ?_
  refine lv_iload_n hx hb dX5_putPart_57 rfl (lv_at hl 3 rfl) ?_
  refine lv_imul hx hb dX5_putPart_58 ?_
  refine lv_eqi (v := 0) (by decide) ?_
  refine lv_iload hx hb dX5_putPart_59 (lv_at hl 0 rfl) ?_
  refine lv_iadd hx hb dX5_putPart_61 ?_
  refine lv_eqi (v := 0) (by decide) ?_
  refine lv_aload_n hx hb dX5_putPart_62 rfl (lv_at hl 2 rfl) ?_
  refine va_get (D := D) (ci := 5) (v := .ref mI) (C := RX5) (T := TX5) (N := 17) hx hb hts k_2 hown hK.1 hP 0 rfl rfl 16 (by decide) k_1 (fun _ h9 => h9) rfl dX5_putPart_63 ?_
  refine lv_iload hx hb dX5_putPart_66 (lv_at hl 0 rfl) ?_
  refine ld_l hx hb hK.1 hP 3 1 rfl rfl (ix_lit (by decide)) 0 (by decide) (v := ((z5_norm_3_3 (vp_updL (vp_updL (vp_updL fi 0 (fx 0)) 1 (fx 1)) 2 (fx 2))).2) 0) rfl dX5_putPart_68 ?_
  refine st_l hx hb hK.1 hP hD hS 2 1 rfl rfl (ix_lit (by decide)) 0 (by decide) dX5_putPart_69 (fun H locs hP hD hS => ?_)
  have hP : va_P D vwCl [kM o mP mL mC mN mF mR mD mV mX mA mK cm mT pm mU mH mI, kJ mX cJ 9 fx, kJ mT cJ 6 (vp_updL ft 0 (((z5_norm_3_3 (vp_updL (vp_updL (vp_updL fi 0 (fx 0)) 1 (fx 1)) 2 (fx 2))).2) 0)), kJ mI cJ 3 ((z5_norm_3_3 (vp_updL (vp_updL (vp_updL fi 0 (fx 0)) 1 (fx 1)) 2 (fx 2))).2)] H := hP
  have hD : va_D A [kM o mP mL mC mN mF mR mD mV mX mA mK cm mT pm mU mH mI, kJ mX cJ 9 fx, kJ mT cJ 6 (vp_updL ft 0 (((z5_norm_3_3 (vp_updL (vp_updL (vp_updL fi 0 (fx 0)) 1 (fx 1)) 2 (fx 2))).2) 0)), kJ mI cJ 3 ((z5_norm_3_3 (vp_updL (vp_updL (vp_updL fi 0 (fx 0)) 1 (fx 1)) 2 (fx 2))).2)] := hD
  refine lv_iinc (v := 1) (lv' := [(5, .int 1), (4, .int ((z5_norm_3_3 (vp_updL (vp_updL (vp_updL fi 0 (fx 0)) 1 (fx 1)) 2 (fx 2))).1)), (0, .ref o), (1, .int 0), (2, .int 0), (3, .int 1)]) hx hb dX5_putPart_70 hl (k := 0) rfl (by decide) (by decide) rfl (fun ls hl => ?_)
  refine lv_goto (tgt := 46) hx hb dX5_putPart_73 (by decide) ?_
  refine lv_iload hx hb dX5_putPart_46 (lv_at hl 0 rfl) ?_
  refine lv_iconst (v := 3) hx hb dX5_putPart_48 (by decide) ?_
  refine lv_icmp_ge (tgt := 76) hx hb dX5_putPart_49 (by decide) (fun h => absurd h (by decide)) (fun _ => ?_)
  refine lv_aload_n hx hb dX5_putPart_52 rfl (lv_at hl 2 rfl) ?_
  refine va_get (D := D) (ci := 5) (v := .ref mT) (C := RX5) (T := TX5) (N := 17) hx hb hts k_2 hown hK.1 hP 0 rfl rfl 12 (by decide) k_4 (fun _ h9 => h9) rfl dX5_putPart_53 ?_
  refine lv_iconst (v := 3) hx hb dX5_putPart_56 (by decide) ?_
  refine lv_iload_n hx hb dX5_putPart_57 rfl (lv_at hl 3 rfl) ?_
  refine lv_imul hx hb dX5_putPart_58 ?_
  refine lv_eqi (v := 0) (by decide) ?_
  refine lv_iload hx hb dX5_putPart_59 (lv_at hl 0 rfl) ?_
  refine lv_iadd hx hb dX5_putPart_61 ?_
  refine lv_eqi (v := 1) (by decide) ?_
  refine lv_aload_n hx hb dX5_putPart_62 rfl (lv_at hl 2 rfl) ?_
  refine va_get (D := D) (ci := 5) (v := .ref mI) (C := RX5) (T := TX5) (N := 17) hx hb hts k_2 hown hK.1 hP 0 rfl rfl 16 (by decide) k_1 (fun _ h9 => h9) rfl dX5_putPart_63 ?_
  refine lv_iload hx hb dX5_putPart_66 (lv_at hl 0 rfl) ?_
  refine ld_l hx hb hK.1 hP 3 1 rfl rfl (ix_lit (by decide)) 1 (by decide) (v := ((z5_norm_3_3 (vp_updL (vp_updL (vp_updL fi 0 (fx 0)) 1 (fx 1)) 2 (fx 2))).2) 1) rfl dX5_putPart_68 ?_
  refine st_l hx hb hK.1 hP hD hS 2 1 rfl rfl (ix_lit (by decide)) 1 (by decide) dX5_putPart_69 (fun H locs hP hD hS => ?_)
  have hP : va_P D vwCl [kM o mP mL mC mN mF mR mD mV mX mA mK cm mT pm mU mH mI, kJ mX cJ 9 fx, kJ mT cJ 6 (vp_updL (vp_updL ft 0 (((z5_norm_3_3 (vp_updL (vp_updL (vp_updL fi 0 (fx 0)) 1 (fx 1)) 2 (fx 2))).2) 0)) 1 (((z5_norm_3_3 (vp_updL (vp_updL (vp_updL fi 0 (fx 0)) 1 (fx 1)) 2 (fx 2))).2) 1)), kJ mI cJ 3 ((z5_norm_3_3 (vp_updL (vp_updL (vp_updL fi 0 (fx 0)) 1 (fx 1)) 2 (fx 2))).2)] H := hP
  have hD : va_D A [kM o mP mL mC mN mF mR mD mV mX mA mK cm mT pm mU mH mI, kJ mX cJ 9 fx, kJ mT cJ 6 (vp_updL (vp_updL ft 0 (((z5_norm_3_3 (vp_updL (vp_updL (vp_updL fi 0 (fx 0)) 1 (fx 1)) 2 (fx 2))).2) 0)) 1 (((z5_norm_3_3 (vp_updL (vp_updL (vp_updL fi 0 (fx 0)) 1 (fx 1)) 2 (fx 2))).2) 1)), kJ mI cJ 3 ((z5_norm_3_3 (vp_updL (vp_updL (vp_updL fi 0 (fx 0)) 1 (fx 1)) 2 (fx 2))).2)] := hD
  refine lv_iinc (v := 2) (lv' := [(5, .int 2), (4, .int ((z5_norm_3_3 (vp_updL (vp_updL (vp_updL fi 0 (fx 0)) 1 (fx 1)) 2 (fx 2))).1)), (0, .ref o), (1, .int 0), (2, .int 0), (3, .int 1)]) hx hb dX5_putPart_70 hl (k := 0) rfl (by decide) (by decide) rfl (fun ls hl => ?_)
  refine lv_goto (tgt := 46) hx hb dX5_putPart_73 (by decide) ?_
  refine lv_iload hx hb dX5_putPart_46 (lv_at hl 0 rfl) ?_
  refine lv_iconst (v := 3) hx hb dX5_putPart_48 (by decide) ?_
  refine lv_icmp_ge (tgt := 76) hx hb dX5_putPart_49 (by decide) (fun h => absurd h (by decide)) (fun _ => ?_)
  refine lv_aload_n hx hb dX5_putPart_52 rfl (lv_at hl 2 rfl) ?_
  refine va_get (D := D) (ci := 5) (v := .ref mT) (C := RX5) (T := TX5) (N := 17) hx hb hts k_2 hown hK.1 hP 0 rfl rfl 12 (by decide) k_4 (fun _ h9 => h9) rfl dX5_putPart_53 ?_
  refine lv_iconst (v := 3) hx hb dX5_putPart_56 (by decide) ?_
  refine lv_iload_n hx hb dX5_putPart_57 rfl (lv_at hl 3 rfl) ?_
  refine lv_imul hx hb dX5_putPart_58 ?_
  refine lv_eqi (v := 0) (by decide) ?_
  refine lv_iload hx hb dX5_putPart_59 (lv_at hl 0 rfl) ?_
  refine lv_iadd hx hb dX5_putPart_61 ?_
  refine lv_eqi (v := 2) (by decide) ?_
  refine lv_aload_n hx hb dX5_putPart_62 rfl (lv_at hl 2 rfl) ?_
  refine va_get (D := D) (ci := 5) (v := .ref mI) (C := RX5) (T := TX5) (N := 17) hx hb hts k_2 hown hK.1 hP 0 rfl rfl 16 (by decide) k_1 (fun _ h9 => h9) rfl dX5_putPart_63 ?_
  refine lv_iload hx hb dX5_putPart_66 (lv_at hl 0 rfl) ?_
  refine ld_l hx hb hK.1 hP 3 1 rfl rfl (ix_lit (by decide)) 2 (by decide) (v := ((z5_norm_3_3 (vp_updL (vp_updL (vp_updL fi 0 (fx 0)) 1 (fx 1)) 2 (fx 2))).2) 2) rfl dX5_putPart_68 ?_
  refine st_l hx hb hK.1 hP hD hS 2 1 rfl rfl (ix_lit (by decide)) 2 (by decide) dX5_putPart_69 (fun H locs hP hD hS => ?_)
  have hP : va_P D vwCl [kM o mP mL mC mN mF mR mD mV mX mA mK cm mT pm mU mH mI, kJ mX cJ 9 fx, kJ mT cJ 6 (vp_updL (vp_updL (vp_updL ft 0 (((z5_norm_3_3 (vp_updL (vp_updL (vp_updL fi 0 (fx 0)) 1 (fx 1)) 2 (fx 2))).2) 0)) 1 (((z5_norm_3_3 (vp_updL (vp_updL (vp_updL fi 0 (fx 0)) 1 (fx 1)) 2 (fx 2))).2) 1)) 2 (((z5_norm_3_3 (vp_updL (vp_updL (vp_updL fi 0 (fx 0)) 1 (fx 1)) 2 (fx 2))).2) 2)), kJ mI cJ 3 ((z5_norm_3_3 (vp_updL (vp_updL (vp_updL fi 0 (fx 0)) 1 (fx 1)) 2 (fx 2))).2)] H := hP
  have hD : va_D A [kM o mP mL mC mN mF mR mD mV mX mA mK cm mT pm mU mH mI, kJ mX cJ 9 fx, kJ mT cJ 6 (vp_updL (vp_updL (vp_updL ft 0 (((z5_norm_3_3 (vp_updL (vp_updL (vp_updL fi 0 (fx 0)) 1 (fx 1)) 2 (fx 2))).2) 0)) 1 (((z5_norm_3_3 (vp_updL (vp_updL (vp_updL fi 0 (fx 0)) 1 (fx 1)) 2 (fx 2))).2) 1)) 2 (((z5_norm_3_3 (vp_updL (vp_updL (vp_updL fi 0 (fx 0)) 1 (fx 1)) 2 (fx 2))).2) 2)), kJ mI cJ 3 ((z5_norm_3_3 (vp_updL (vp_updL (vp_updL fi 0 (fx 0)) 1 (fx 1)) 2 (fx 2))).2)] := hD
  refine lv_iinc (v := 3) (lv' := [(5, .int 3), (4, .int ((z5_norm_3_3 (vp_updL (vp_updL (vp_updL fi 0 (fx 0)) 1 (fx 1)) 2 (fx 2))).1)), (0, .ref o), (1, .int 0), (2, .int 0), (3, .int 1)]) hx hb dX5_putPart_70 hl (k := 0) rfl (by decide) (by decide) rfl (fun ls hl => ?_)
  refine lv_goto (tgt := 46) hx hb dX5_putPart_73 (by decide) ?_
  refine lv_iload hx hb dX5_putPart_46 (lv_at hl 0 rfl) ?_
  refine lv_iconst (v := 3) hx hb dX5_putPart_48 (by decide) ?_
  refine lv_icmp_ge (tgt := 76) hx hb dX5_putPart_49 (by decide) (fun _ => ?_) (fun h => absurd (by decide) h)
  have he_0 : z5_putPart_0_0_1_f2 fx ft fi = vp_updL (vp_updL (vp_updL ft 0 (((z5_norm_3_3 (vp_updL (vp_updL (vp_updL fi 0 (fx 0)) 1 (fx 1)) 2 (fx 2))).2) 0)) 1 (((z5_norm_3_3 (vp_updL (vp_updL (vp_updL fi 0 (fx 0)) 1 (fx 1)) 2 (fx 2))).2) 1)) 2 (((z5_norm_3_3 (vp_updL (vp_updL (vp_updL fi 0 (fx 0)) 1 (fx 1)) 2 (fx 2))).2) 2) := by delta z5_putPart_0_0_1_f2; rfl
  have he_1 : z5_putPart_0_0_1_f3 fx fi = (z5_norm_3_3 (vp_updL (vp_updL (vp_updL fi 0 (fx 0)) 1 (fx 1)) 2 (fx 2))).2 := by delta z5_putPart_0_0_1_f3; rfl
  exact rt_v (w1 := fun uu : Unit => [kM o mP mL mC mN mF mR mD mV mX mA mK cm mT pm mU mH mI, kJ mX cJ 9 fx, kJ mT cJ 6 (z5_putPart_0_0_1_f2 fx ft fi), kJ mI cJ 3 (z5_putPart_0_0_1_f3 fx fi)]) hx hb hr hlk hS dX5_putPart_76 (()) trivial (by rw [he_0, he_1]; exact hP) (by rw [he_0, he_1]; exact hD)
def z5_putPart_0_3_1_f2 (fx : Nat → Int64) (ft : Nat → Int64) (fi : Nat → Int64) : Nat → Int64 := vp_updL (vp_updL (vp_updL ft 0 (((z5_norm_3_3 (vp_updL (vp_updL (vp_updL fi 0 (fx 3)) 1 (fx 4)) 2 (fx 5))).2) 0)) 1 (((z5_norm_3_3 (vp_updL (vp_updL (vp_updL fi 0 (fx 3)) 1 (fx 4)) 2 (fx 5))).2) 1)) 2 (((z5_norm_3_3 (vp_updL (vp_updL (vp_updL fi 0 (fx 3)) 1 (fx 4)) 2 (fx 5))).2) 2)
def z5_putPart_0_3_1_f3 (fx : Nat → Int64) (fi : Nat → Int64) : Nat → Int64 := (z5_norm_3_3 (vp_updL (vp_updL (vp_updL fi 0 (fx 3)) 1 (fx 4)) 2 (fx 5))).2
set_option maxHeartbeats 4000000 in
set_option maxRecDepth 100000 in
/-- X5.putPart -/
theorem c_X5_putPart_0_3_1 (l : Launch) (D : va_G) (cI cJ : ClassId) (o : Nat) (mP : Nat) (mL : Nat) (mC : Nat) (mN : Nat) (mF : Nat) (mR : Nat) (mD : Nat) (mV : Nat) (mX : Nat) (mA : Nat) (mK : Nat) (mT : Nat) (mU : Nat) (mH : Nat) (mI : Nat) (cm : Int32) (pm : Int32) (fx : Nat → Int64) (ft : Nat → Int64) (fi : Nat → Int64) : mw_C l yX5_putPart wsX5_putPart ({ frames := 2, cells := 0, slots := 0, locals := 54 }) D cI cJ [.ref o, .int 0, .int 3, .int 1] [kM o mP mL mC mN mF mR mD mV mX mA mK cm mT pm mU mH mI, kJ mX cJ 9 fx, kJ mT cJ 6 ft, kJ mI cJ 3 fi] (qe_v (fun _ : Unit => True) (fun uu => [kM o mP mL mC mN mF mR mD mV mX mA mK cm mT pm mU mH mI, kJ mX cJ 9 fx, kJ mT cJ 6 (z5_putPart_0_3_1_f2 fx ft fi), kJ mI cJ 3 (z5_putPart_0_3_1_f3 fx fi)])) := by
  refine mw_in (cc := cX5_putPart) (lv := [(0, .ref o), (1, .int 0), (2, .int 3), (3, .int 1)]) (by decide) rfl (Nat.le_of_ble_eq_true rfl) rfl ?_
  intro pG eG sG mG below meth cG ls A hx hb hr hml hown hts hlk hin hP hK hD hA hS hl
  have hown : sG.vm.findClass RX5 = some mG.cls := hown
  have k_1 := hts (.fieldLink RX5 53 "ConicRowsModel" "one" "[J") (by decide +kernel)
  have k_2 : ∀ w ∈ wsX50, w ∈ wsX5_putPart := by decide +kernel
  have k_3 := hts (.fieldLink RX5 35 "ConicRowsModel" "matrix" "[J") (by decide +kernel)
  have k_4 := hts (.fieldLink RX5 44 "ConicRowsModel" "parts" "[J") (by decide +kernel)
  refine lv_iconst (v := 0) hx hb dX5_putPart_0 (by decide) ?_
  refine lv_istore (lv' := [(4, .int 0), (0, .ref o), (1, .int 0), (2, .int 3), (3, .int 1)]) hx hb dX5_putPart_1 hl (by decide) rfl (fun ls hl => ?_)
  refine lv_iload hx hb dX5_putPart_3 (lv_at hl 0 rfl) ?_
  refine lv_iconst (v := 3) hx hb dX5_putPart_5 (by decide) ?_
  refine lv_icmp_ge (tgt := 33) hx hb dX5_putPart_6 (by decide) (fun h => absurd h (by decide)) (fun _ => ?_)
  refine lv_aload_n hx hb dX5_putPart_9 rfl (lv_at hl 1 rfl) ?_
  refine va_get (D := D) (ci := 5) (v := .ref mI) (C := RX5) (T := TX5) (N := 17) hx hb hts k_2 hown hK.1 hP 0 rfl rfl 16 (by decide) k_1 (fun _ h9 => h9) rfl dX5_putPart_10 ?_
  refine lv_iload hx hb dX5_putPart_13 (lv_at hl 0 rfl) ?_
  refine lv_aload_n hx hb dX5_putPart_15 rfl (lv_at hl 1 rfl) ?_
  refine va_get (D := D) (ci := 5) (v := .ref mX) (C := RX5) (T := TX5) (N := 17) hx hb hts k_2 hown hK.1 hP 0 rfl rfl 8 (by decide) k_3 (fun _ h9 => h9) rfl dX5_putPart_16 ?_
  refine lv_iload_n hx hb dX5_putPart_19 rfl (lv_at hl 3 rfl) ?_
  refine lv_iload_n hx hb dX5_putPart_20 rfl (lv_at hl 4 rfl) ?_
  refine lv_iload hx hb dX5_putPart_21 (lv_at hl 0 rfl) ?_
  refine lv_imul hx hb dX5_putPart_23 ?_
  refine lv_eqi (v := 0) (by decide) ?_
  refine lv_iadd hx hb dX5_putPart_24 ?_
  refine lv_eqi (v := 3) (by decide) ?_
  refine ld_l hx hb hK.1 hP 1 1 rfl rfl (ix_lit (by decide)) 3 (by decide) (v := fx 3) rfl dX5_putPart_25 ?_
  refine st_l hx hb hK.1 hP hD hS 3 1 rfl rfl (ix_lit (by decide)) 0 (by decide) dX5_putPart_26 (fun H locs hP hD hS => ?_)
  have hP : va_P D vwCl [kM o mP mL mC mN mF mR mD mV mX mA mK cm mT pm mU mH mI, kJ mX cJ 9 fx, kJ mT cJ 6 ft, kJ mI cJ 3 (vp_updL fi 0 (fx 3))] H := hP
  have hD : va_D A [kM o mP mL mC mN mF mR mD mV mX mA mK cm mT pm mU mH mI, kJ mX cJ 9 fx, kJ mT cJ 6 ft, kJ mI cJ 3 (vp_updL fi 0 (fx 3))] := hD
  refine lv_iinc (v := 1) (lv' := [(4, .int 1), (0, .ref o), (1, .int 0), (2, .int 3), (3, .int 1)]) hx hb dX5_putPart_27 hl (k := 0) rfl (by decide) (by decide) rfl (fun ls hl => ?_)
  refine lv_goto (tgt := 3) hx hb dX5_putPart_30 (by decide) ?_
  refine lv_iload hx hb dX5_putPart_3 (lv_at hl 0 rfl) ?_
  refine lv_iconst (v := 3) hx hb dX5_putPart_5 (by decide) ?_
  refine lv_icmp_ge (tgt := 33) hx hb dX5_putPart_6 (by decide) (fun h => absurd h (by decide)) (fun _ => ?_)
  refine lv_aload_n hx hb dX5_putPart_9 rfl (lv_at hl 1 rfl) ?_
  refine va_get (D := D) (ci := 5) (v := .ref mI) (C := RX5) (T := TX5) (N := 17) hx hb hts k_2 hown hK.1 hP 0 rfl rfl 16 (by decide) k_1 (fun _ h9 => h9) rfl dX5_putPart_10 ?_
  refine lv_iload hx hb dX5_putPart_13 (lv_at hl 0 rfl) ?_
  refine lv_aload_n hx hb dX5_putPart_15 rfl (lv_at hl 1 rfl) ?_
  refine va_get (D := D) (ci := 5) (v := .ref mX) (C := RX5) (T := TX5) (N := 17) hx hb hts k_2 hown hK.1 hP 0 rfl rfl 8 (by decide) k_3 (fun _ h9 => h9) rfl dX5_putPart_16 ?_
  refine lv_iload_n hx hb dX5_putPart_19 rfl (lv_at hl 3 rfl) ?_
  refine lv_iload_n hx hb dX5_putPart_20 rfl (lv_at hl 4 rfl) ?_
  refine lv_iload hx hb dX5_putPart_21 (lv_at hl 0 rfl) ?_
  refine lv_imul hx hb dX5_putPart_23 ?_
  refine lv_eqi (v := 1) (by decide) ?_
  refine lv_iadd hx hb dX5_putPart_24 ?_
  refine lv_eqi (v := 4) (by decide) ?_
  refine ld_l hx hb hK.1 hP 1 1 rfl rfl (ix_lit (by decide)) 4 (by decide) (v := fx 4) rfl dX5_putPart_25 ?_
  refine st_l hx hb hK.1 hP hD hS 3 1 rfl rfl (ix_lit (by decide)) 1 (by decide) dX5_putPart_26 (fun H locs hP hD hS => ?_)
  have hP : va_P D vwCl [kM o mP mL mC mN mF mR mD mV mX mA mK cm mT pm mU mH mI, kJ mX cJ 9 fx, kJ mT cJ 6 ft, kJ mI cJ 3 (vp_updL (vp_updL fi 0 (fx 3)) 1 (fx 4))] H := hP
  have hD : va_D A [kM o mP mL mC mN mF mR mD mV mX mA mK cm mT pm mU mH mI, kJ mX cJ 9 fx, kJ mT cJ 6 ft, kJ mI cJ 3 (vp_updL (vp_updL fi 0 (fx 3)) 1 (fx 4))] := hD
  refine lv_iinc (v := 2) (lv' := [(4, .int 2), (0, .ref o), (1, .int 0), (2, .int 3), (3, .int 1)]) hx hb dX5_putPart_27 hl (k := 0) rfl (by decide) (by decide) rfl (fun ls hl => ?_)
  refine lv_goto (tgt := 3) hx hb dX5_putPart_30 (by decide) ?_
  refine lv_iload hx hb dX5_putPart_3 (lv_at hl 0 rfl) ?_
  refine lv_iconst (v := 3) hx hb dX5_putPart_5 (by decide) ?_
  refine lv_icmp_ge (tgt := 33) hx hb dX5_putPart_6 (by decide) (fun h => absurd h (by decide)) (fun _ => ?_)
  refine lv_aload_n hx hb dX5_putPart_9 rfl (lv_at hl 1 rfl) ?_
  refine va_get (D := D) (ci := 5) (v := .ref mI) (C := RX5) (T := TX5) (N := 17) hx hb hts k_2 hown hK.1 hP 0 rfl rfl 16 (by decide) k_1 (fun _ h9 => h9) rfl dX5_putPart_10 ?_
  refine lv_iload hx hb dX5_putPart_13 (lv_at hl 0 rfl) ?_
  refine lv_aload_n hx hb dX5_putPart_15 rfl (lv_at hl 1 rfl) ?_
  refine va_get (D := D) (ci := 5) (v := .ref mX) (C := RX5) (T := TX5) (N := 17) hx hb hts k_2 hown hK.1 hP 0 rfl rfl 8 (by decide) k_3 (fun _ h9 => h9) rfl dX5_putPart_16 ?_
  refine lv_iload_n hx hb dX5_putPart_19 rfl (lv_at hl 3 rfl) ?_
  refine lv_iload_n hx hb dX5_putPart_20 rfl (lv_at hl 4 rfl) ?_
  refine lv_iload hx hb dX5_putPart_21 (lv_at hl 0 rfl) ?_
  refine lv_imul hx hb dX5_putPart_23 ?_
  refine lv_eqi (v := 2) (by decide) ?_
  refine lv_iadd hx hb dX5_putPart_24 ?_
  refine lv_eqi (v := 5) (by decide) ?_
  refine ld_l hx hb hK.1 hP 1 1 rfl rfl (ix_lit (by decide)) 5 (by decide) (v := fx 5) rfl dX5_putPart_25 ?_
  refine st_l hx hb hK.1 hP hD hS 3 1 rfl rfl (ix_lit (by decide)) 2 (by decide) dX5_putPart_26 (fun H locs hP hD hS => ?_)
  have hP : va_P D vwCl [kM o mP mL mC mN mF mR mD mV mX mA mK cm mT pm mU mH mI, kJ mX cJ 9 fx, kJ mT cJ 6 ft, kJ mI cJ 3 (vp_updL (vp_updL (vp_updL fi 0 (fx 3)) 1 (fx 4)) 2 (fx 5))] H := hP
  have hD : va_D A [kM o mP mL mC mN mF mR mD mV mX mA mK cm mT pm mU mH mI, kJ mX cJ 9 fx, kJ mT cJ 6 ft, kJ mI cJ 3 (vp_updL (vp_updL (vp_updL fi 0 (fx 3)) 1 (fx 4)) 2 (fx 5))] := hD
  refine lv_iinc (v := 3) (lv' := [(4, .int 3), (0, .ref o), (1, .int 0), (2, .int 3), (3, .int 1)]) hx hb dX5_putPart_27 hl (k := 0) rfl (by decide) (by decide) rfl (fun ls hl => ?_)
  refine lv_goto (tgt := 3) hx hb dX5_putPart_30 (by decide) ?_
  refine lv_iload hx hb dX5_putPart_3 (lv_at hl 0 rfl) ?_
  refine lv_iconst (v := 3) hx hb dX5_putPart_5 (by decide) ?_
  refine lv_icmp_ge (tgt := 33) hx hb dX5_putPart_6 (by decide) (fun _ => ?_) (fun h => absurd (by decide) h)
  refine lv_aload_n hx hb dX5_putPart_33 rfl (lv_at hl 1 rfl) ?_
  refine va_get (D := D) (ci := 5) (v := .ref mI) (C := RX5) (T := TX5) (N := 17) hx hb hts k_2 hown hK.1 hP 0 rfl rfl 16 (by decide) k_1 (fun _ h9 => h9) rfl dX5_putPart_34 ?_
  refine lv_iconst (v := 3) hx hb dX5_putPart_37 (by decide) ?_
  have hPc := hP.sub (ws' := [kJ mI cJ 3 (vp_updL (vp_updL (vp_updL fi 0 (fx 3)) 1 (fx 4)) 2 (fx 5))]) [3] rfl
  have hDc := hD.sub (ws' := [kJ mI cJ 3 (vp_updL (vp_updL (vp_updL fi 0 (fx 3)) 1 (fx 4)) 2 (fx 5))]) [3] (by decide) rfl
  refine cl_i (wc := [kJ mI cJ 3 (vp_updL (vp_updL (vp_updL fi 0 (fx 3)) 1 (fx 4)) 2 (fx 5))]) (wr := [kM o mP mL mC mN mF mR mD mV mX mA mK cm mT pm mU mH mI, kJ mX cJ 9 fx, kJ mT cJ 6 ft]) (w1 := fun uu : Unit => [kJ mI cJ 3 ((z5_norm_3_3 (vp_updL (vp_updL (vp_updL fi 0 (fx 3)) 1 (fx 4)) 2 (fx 5))).2)]) (wn := fun uu : Unit => [kM o mP mL mC mN mF mR mD mV mX mA mK cm mT pm mU mH mI, kJ mX cJ 9 fx, kJ mT cJ 6 ft, kJ mI cJ 3 ((z5_norm_3_3 (vp_updL (vp_updL (vp_updL fi 0 (fx 3)) 1 (fx 4)) 2 (fx 5))).2)]) (va_runS (As := [.ref mI, .int 3]) (rest := []) ⟨hx, hb, hml, hown, hts⟩ (c_X5_norm_3_3 l D cI cJ mI (vp_updL (vp_updL (vp_updL fi 0 (fx 3)) 1 (fx 4)) 2 (fx 5)) _) (va_cwS 2 hts gX5_putPart_X5_norm rfl rfl rfl (by decide +kernel) ⟨Nat.le_of_ble_eq_true rfl, Nat.le_of_ble_eq_true rfl⟩) ⟨gd_blP, gd_prP hPc hK hDc⟩ rfl rfl hl.1 rfl (lv_room (Nat.le_of_ble_eq_true rfl)) dX5_putPart_38 ⟨Nat.zero_le _, Nat.zero_le _⟩) hP hD hS hA [3] [0, 1, 2] rfl rfl (by decide) (by decide) [0, 1, 2, 3] (by decide) (fun _ => rfl) (fun r_38 uG H locs hw hP hD hS => ?_)
  have hP : va_P D vwCl [kM o mP mL mC mN mF mR mD mV mX mA mK cm mT pm mU mH mI, kJ mX cJ 9 fx, kJ mT cJ 6 ft, kJ mI cJ 3 ((z5_norm_3_3 (vp_updL (vp_updL (vp_updL fi 0 (fx 3)) 1 (fx 4)) 2 (fx 5))).2)] H := hP
  have hD : va_D A [kM o mP mL mC mN mF mR mD mV mX mA mK cm mT pm mU mH mI, kJ mX cJ 9 fx, kJ mT cJ 6 ft, kJ mI cJ 3 ((z5_norm_3_3 (vp_updL (vp_updL (vp_updL fi 0 (fx 3)) 1 (fx 4)) 2 (fx 5))).2)] := hD
  subst hw
  clear hPc hDc
  refine lv_istore (lv' := [(4, .int ((z5_norm_3_3 (vp_updL (vp_updL (vp_updL fi 0 (fx 3)) 1 (fx 4)) 2 (fx 5))).1)), (0, .ref o), (1, .int 0), (2, .int 3), (3, .int 1)]) hx hb dX5_putPart_41 hl (by decide) rfl (fun ls hl => ?_)
  refine lv_iconst (v := 0) hx hb dX5_putPart_43 (by decide) ?_
  refine lv_istore (lv' := [(5, .int 0), (4, .int ((z5_norm_3_3 (vp_updL (vp_updL (vp_updL fi 0 (fx 3)) 1 (fx 4)) 2 (fx 5))).1)), (0, .ref o), (1, .int 0), (2, .int 3), (3, .int 1)]) hx hb dX5_putPart_44 hl (by decide) rfl (fun ls hl => ?_)
  refine lv_iload hx hb dX5_putPart_46 (lv_at hl 0 rfl) ?_
  refine lv_iconst (v := 3) hx hb dX5_putPart_48 (by decide) ?_
  refine lv_icmp_ge (tgt := 76) hx hb dX5_putPart_49 (by decide) (fun h => absurd h (by decide)) (fun _ => ?_)
  refine lv_aload_n hx hb dX5_putPart_52 rfl (lv_at hl 2 rfl) ?_
  refine va_get (D := D) (ci := 5) (v := .ref mT) (C := RX5) (T := TX5) (N := 17) hx hb hts k_2 hown hK.1 hP 0 rfl rfl 12 (by decide) k_4 (fun _ h9 => h9) rfl dX5_putPart_53 ?_
  refine lv_iconst (v := 3) hx hb dX5_putPart_56 (by decide) ?_
  refine lv_iload_n hx hb dX5_putPart_57 rfl (lv_at hl 3 rfl) ?_
  refine lv_imul hx hb dX5_putPart_58 ?_
  refine lv_eqi (v := 0) (by decide) ?_
  refine lv_iload hx hb dX5_putPart_59 (lv_at hl 0 rfl) ?_
  refine lv_iadd hx hb dX5_putPart_61 ?_
  refine lv_eqi (v := 0) (by decide) ?_
  refine lv_aload_n hx hb dX5_putPart_62 rfl (lv_at hl 2 rfl) ?_
  refine va_get (D := D) (ci := 5) (v := .ref mI) (C := RX5) (T := TX5) (N := 17) hx hb hts k_2 hown hK.1 hP 0 rfl rfl 16 (by decide) k_1 (fun _ h9 => h9) rfl dX5_putPart_63 ?_
  refine lv_iload hx hb dX5_putPart_66 (lv_at hl 0 rfl) ?_
  refine ld_l hx hb hK.1 hP 3 1 rfl rfl (ix_lit (by decide)) 0 (by decide) (v := ((z5_norm_3_3 (vp_updL (vp_updL (vp_updL fi 0 (fx 3)) 1 (fx 4)) 2 (fx 5))).2) 0) rfl dX5_putPart_68 ?_
  refine st_l hx hb hK.1 hP hD hS 2 1 rfl rfl (ix_lit (by decide)) 0 (by decide) dX5_putPart_69 (fun H locs hP hD hS => ?_)
  have hP : va_P D vwCl [kM o mP mL mC mN mF mR mD mV mX mA mK cm mT pm mU mH mI, kJ mX cJ 9 fx, kJ mT cJ 6 (vp_updL ft 0 (((z5_norm_3_3 (vp_updL (vp_updL (vp_updL fi 0 (fx 3)) 1 (fx 4)) 2 (fx 5))).2) 0)), kJ mI cJ 3 ((z5_norm_3_3 (vp_updL (vp_updL (vp_updL fi 0 (fx 3)) 1 (fx 4)) 2 (fx 5))).2)] H := hP
  have hD : va_D A [kM o mP mL mC mN mF mR mD mV mX mA mK cm mT pm mU mH mI, kJ mX cJ 9 fx, kJ mT cJ 6 (vp_updL ft 0 (((z5_norm_3_3 (vp_updL (vp_updL (vp_updL fi 0 (fx 3)) 1 (fx 4)) 2 (fx 5))).2) 0)), kJ mI cJ 3 ((z5_norm_3_3 (vp_updL (vp_updL (vp_updL fi 0 (fx 3)) 1 (fx 4)) 2 (fx 5))).2)] := hD
  refine lv_iinc (v := 1) (lv' := [(5, .int 1), (4, .int ((z5_norm_3_3 (vp_updL (vp_updL (vp_updL fi 0 (fx 3)) 1 (fx 4)) 2 (fx 5))).1)), (0, .ref o), (1, .int 0), (2, .int 3), (3, .int 1)]) hx hb dX5_putPart_70 hl (k := 0) rfl (by decide) (by decide) rfl (fun ls hl => ?_)
  refine lv_goto (tgt := 46) hx hb dX5_putPart_73 (by decide) ?_
  refine lv_iload hx hb dX5_putPart_46 (lv_at hl 0 rfl) ?_
  refine lv_iconst (v := 3) hx hb dX5_putPart_48 (by decide) ?_
  refine lv_icmp_ge (tgt := 76) hx hb dX5_putPart_49 (by decide) (fun h => absurd h (by decide)) (fun _ => ?_)
  refine lv_aload_n hx hb dX5_putPart_52 rfl (lv_at hl 2 rfl) ?_
  refine va_get (D := D) (ci := 5) (v := .ref mT) (C := RX5) (T := TX5) (N := 17) hx hb hts k_2 hown hK.1 hP 0 rfl rfl 12 (by decide) k_4 (fun _ h9 => h9) rfl dX5_putPart_53 ?_
  refine lv_iconst (v := 3) hx hb dX5_putPart_56 (by decide) ?_
  refine lv_iload_n hx hb dX5_putPart_57 rfl (lv_at hl 3 rfl) ?_
  refine lv_imul hx hb dX5_putPart_58 ?_
  refine lv_eqi (v := 0) (by decide) ?_
  refine lv_iload hx hb dX5_putPart_59 (lv_at hl 0 rfl) ?_
  refine lv_iadd hx hb dX5_putPart_61 ?_
  refine lv_eqi (v := 1) (by decide) ?_
  refine lv_aload_n hx hb dX5_putPart_62 rfl (lv_at hl 2 rfl) ?_
  refine va_get (D := D) (ci := 5) (v := .ref mI) (C := RX5) (T := TX5) (N := 17) hx hb hts k_2 hown hK.1 hP 0 rfl rfl 16 (by decide) k_1 (fun _ h9 => h9) rfl dX5_putPart_63 ?_
  refine lv_iload hx hb dX5_putPart_66 (lv_at hl 0 rfl) ?_
  refine ld_l hx hb hK.1 hP 3 1 rfl rfl (ix_lit (by decide)) 1 (by decide) (v := ((z5_norm_3_3 (vp_updL (vp_updL (vp_updL fi 0 (fx 3)) 1 (fx 4)) 2 (fx 5))).2) 1) rfl dX5_putPart_68 ?_
  refine st_l hx hb hK.1 hP hD hS 2 1 rfl rfl (ix_lit (by decide)) 1 (by decide) dX5_putPart_69 (fun H locs hP hD hS => ?_)
  have hP : va_P D vwCl [kM o mP mL mC mN mF mR mD mV mX mA mK cm mT pm mU mH mI, kJ mX cJ 9 fx, kJ mT cJ 6 (vp_updL (vp_updL ft 0 (((z5_norm_3_3 (vp_updL (vp_updL (vp_updL fi 0 (fx 3)) 1 (fx 4)) 2 (fx 5))).2) 0)) 1 (((z5_norm_3_3 (vp_updL (vp_updL (vp_updL fi 0 (fx 3)) 1 (fx 4)) 2 (fx 5))).2) 1)), kJ mI cJ 3 ((z5_norm_3_3 (vp_updL (vp_updL (vp_updL fi 0 (fx 3)) 1 (fx 4)) 2 (fx 5))).2)] H := hP
  have hD : va_D A [kM o mP mL mC mN mF mR mD mV mX mA mK cm mT pm mU mH mI, kJ mX cJ 9 fx, kJ mT cJ 6 (vp_updL (vp_updL ft 0 (((z5_norm_3_3 (vp_updL (vp_updL (vp_updL fi 0 (fx 3)) 1 (fx 4)) 2 (fx 5))).2) 0)) 1 (((z5_norm_3_3 (vp_updL (vp_updL (vp_updL fi 0 (fx 3)) 1 (fx 4)) 2 (fx 5))).2) 1)), kJ mI cJ 3 ((z5_norm_3_3 (vp_updL (vp_updL (vp_updL fi 0 (fx 3)) 1 (fx 4)) 2 (fx 5))).2)] := hD
  refine lv_iinc (v := 2) (lv' := [(5, .int 2), (4, .int ((z5_norm_3_3 (vp_updL (vp_updL (vp_updL fi 0 (fx 3)) 1 (fx 4)) 2 (fx 5))).1)), (0, .ref o), (1, .int 0), (2, .int 3), (3, .int 1)]) hx hb dX5_putPart_70 hl (k := 0) rfl (by decide) (by decide) rfl (fun ls hl => ?_)
  refine lv_goto (tgt := 46) hx hb dX5_putPart_73 (by decide) ?_
  refine lv_iload hx hb dX5_putPart_46 (lv_at hl 0 rfl) ?_
  refine lv_iconst (v := 3) hx hb dX5_putPart_48 (by decide) ?_
  refine lv_icmp_ge (tgt := 76) hx hb dX5_putPart_49 (by decide) (fun h => absurd h (by decide)) (fun _ => ?_)
  refine lv_aload_n hx hb dX5_putPart_52 rfl (lv_at hl 2 rfl) ?_
  refine va_get (D := D) (ci := 5) (v := .ref mT) (C := RX5) (T := TX5) (N := 17) hx hb hts k_2 hown hK.1 hP 0 rfl rfl 12 (by decide) k_4 (fun _ h9 => h9) rfl dX5_putPart_53 ?_
  refine lv_iconst (v := 3) hx hb dX5_putPart_56 (by decide) ?_
  refine lv_iload_n hx hb dX5_putPart_57 rfl (lv_at hl 3 rfl) ?_
  refine lv_imul hx hb dX5_putPart_58 ?_
  refine lv_eqi (v := 0) (by decide) ?_
  refine lv_iload hx hb dX5_putPart_59 (lv_at hl 0 rfl) ?_
  refine lv_iadd hx hb dX5_putPart_61 ?_
  refine lv_eqi (v := 2) (by decide) ?_
  refine lv_aload_n hx hb dX5_putPart_62 rfl (lv_at hl 2 rfl) ?_
  refine va_get (D := D) (ci := 5) (v := .ref mI) (C := RX5) (T := TX5) (N := 17) hx hb hts k_2 hown hK.1 hP 0 rfl rfl 16 (by decide) k_1 (fun _ h9 => h9) rfl dX5_putPart_63 ?_
  refine lv_iload hx hb dX5_putPart_66 (lv_at hl 0 rfl) ?_
  refine ld_l hx hb hK.1 hP 3 1 rfl rfl (ix_lit (by decide)) 2 (by decide) (v := ((z5_norm_3_3 (vp_updL (vp_updL (vp_updL fi 0 (fx 3)) 1 (fx 4)) 2 (fx 5))).2) 2) rfl dX5_putPart_68 ?_
  refine st_l hx hb hK.1 hP hD hS 2 1 rfl rfl (ix_lit (by decide)) 2 (by decide) dX5_putPart_69 (fun H locs hP hD hS => ?_)
  have hP : va_P D vwCl [kM o mP mL mC mN mF mR mD mV mX mA mK cm mT pm mU mH mI, kJ mX cJ 9 fx, kJ mT cJ 6 (vp_updL (vp_updL (vp_updL ft 0 (((z5_norm_3_3 (vp_updL (vp_updL (vp_updL fi 0 (fx 3)) 1 (fx 4)) 2 (fx 5))).2) 0)) 1 (((z5_norm_3_3 (vp_updL (vp_updL (vp_updL fi 0 (fx 3)) 1 (fx 4)) 2 (fx 5))).2) 1)) 2 (((z5_norm_3_3 (vp_updL (vp_updL (vp_updL fi 0 (fx 3)) 1 (fx 4)) 2 (fx 5))).2) 2)), kJ mI cJ 3 ((z5_norm_3_3 (vp_updL (vp_updL (vp_updL fi 0 (fx 3)) 1 (fx 4)) 2 (fx 5))).2)] H := hP
  have hD : va_D A [kM o mP mL mC mN mF mR mD mV mX mA mK cm mT pm mU mH mI, kJ mX cJ 9 fx, kJ mT cJ 6 (vp_updL (vp_updL (vp_updL ft 0 (((z5_norm_3_3 (vp_updL (vp_updL (vp_updL fi 0 (fx 3)) 1 (fx 4)) 2 (fx 5))).2) 0)) 1 (((z5_norm_3_3 (vp_updL (vp_updL (vp_updL fi 0 (fx 3)) 1 (fx 4)) 2 (fx 5))).2) 1)) 2 (((z5_norm_3_3 (vp_updL (vp_updL (vp_updL fi 0 (fx 3)) 1 (fx 4)) 2 (fx 5))).2) 2)), kJ mI cJ 3 ((z5_norm_3_3 (vp_updL (vp_updL (vp_updL fi 0 (fx 3)) 1 (fx 4)) 2 (fx 5))).2)] := hD
  refine lv_iinc (v := 3) (lv' := [(5, .int 3), (4, .int ((z5_norm_3_3 (vp_updL (vp_updL (vp_updL fi 0 (fx 3)) 1 (fx 4)) 2 (fx 5))).1)), (0, .ref o), (1, .int 0), (2, .int 3), (3, .int 1)]) hx hb dX5_putPart_70 hl (k := 0) rfl (by decide) (by decide) rfl (fun ls hl => ?_)
  refine lv_goto (tgt := 46) hx hb dX5_putPart_73 (by decide) ?_
  refine lv_iload hx hb dX5_putPart_46 (lv_at hl 0 rfl) ?_
  refine lv_iconst (v := 3) hx hb dX5_putPart_48 (by decide) ?_
  refine lv_icmp_ge (tgt := 76) hx hb dX5_putPart_49 (by decide) (fun _ => ?_) (fun h => absurd (by decide) h)
  have he_0 : z5_putPart_0_3_1_f2 fx ft fi = vp_updL (vp_updL (vp_updL ft 0 (((z5_norm_3_3 (vp_updL (vp_updL (vp_updL fi 0 (fx 3)) 1 (fx 4)) 2 (fx 5))).2) 0)) 1 (((z5_norm_3_3 (vp_updL (vp_updL (vp_updL fi 0 (fx 3)) 1 (fx 4)) 2 (fx 5))).2) 1)) 2 (((z5_norm_3_3 (vp_updL (vp_updL (vp_updL fi 0 (fx 3)) 1 (fx 4)) 2 (fx 5))).2) 2) := by delta z5_putPart_0_3_1_f2; rfl
  have he_1 : z5_putPart_0_3_1_f3 fx fi = (z5_norm_3_3 (vp_updL (vp_updL (vp_updL fi 0 (fx 3)) 1 (fx 4)) 2 (fx 5))).2 := by delta z5_putPart_0_3_1_f3; rfl
  exact rt_v (w1 := fun uu : Unit => [kM o mP mL mC mN mF mR mD mV mX mA mK cm mT pm mU mH mI, kJ mX cJ 9 fx, kJ mT cJ 6 (z5_putPart_0_3_1_f2 fx ft fi), kJ mI cJ 3 (z5_putPart_0_3_1_f3 fx fi)]) hx hb hr hlk hS dX5_putPart_76 (()) trivial (by rw [he_0, he_1]; exact hP) (by rw [he_0, he_1]; exact hD)
def z5_putPart_0_6_1_f2 (fx : Nat → Int64) (ft : Nat → Int64) (fi : Nat → Int64) : Nat → Int64 := vp_updL (vp_updL (vp_updL ft 0 (((z5_norm_3_3 (vp_updL (vp_updL (vp_updL fi 0 (fx 6)) 1 (fx 7)) 2 (fx 8))).2) 0)) 1 (((z5_norm_3_3 (vp_updL (vp_updL (vp_updL fi 0 (fx 6)) 1 (fx 7)) 2 (fx 8))).2) 1)) 2 (((z5_norm_3_3 (vp_updL (vp_updL (vp_updL fi 0 (fx 6)) 1 (fx 7)) 2 (fx 8))).2) 2)
def z5_putPart_0_6_1_f3 (fx : Nat → Int64) (fi : Nat → Int64) : Nat → Int64 := (z5_norm_3_3 (vp_updL (vp_updL (vp_updL fi 0 (fx 6)) 1 (fx 7)) 2 (fx 8))).2
set_option maxHeartbeats 4000000 in
set_option maxRecDepth 100000 in
/-- X5.putPart -/
theorem c_X5_putPart_0_6_1 (l : Launch) (D : va_G) (cI cJ : ClassId) (o : Nat) (mP : Nat) (mL : Nat) (mC : Nat) (mN : Nat) (mF : Nat) (mR : Nat) (mD : Nat) (mV : Nat) (mX : Nat) (mA : Nat) (mK : Nat) (mT : Nat) (mU : Nat) (mH : Nat) (mI : Nat) (cm : Int32) (pm : Int32) (fx : Nat → Int64) (ft : Nat → Int64) (fi : Nat → Int64) : mw_C l yX5_putPart wsX5_putPart ({ frames := 2, cells := 0, slots := 0, locals := 54 }) D cI cJ [.ref o, .int 0, .int 6, .int 1] [kM o mP mL mC mN mF mR mD mV mX mA mK cm mT pm mU mH mI, kJ mX cJ 9 fx, kJ mT cJ 6 ft, kJ mI cJ 3 fi] (qe_v (fun _ : Unit => True) (fun uu => [kM o mP mL mC mN mF mR mD mV mX mA mK cm mT pm mU mH mI, kJ mX cJ 9 fx, kJ mT cJ 6 (z5_putPart_0_6_1_f2 fx ft fi), kJ mI cJ 3 (z5_putPart_0_6_1_f3 fx fi)])) := by
  refine mw_in (cc := cX5_putPart) (lv := [(0, .ref o), (1, .int 0), (2, .int 6), (3, .int 1)]) (by decide) rfl (Nat.le_of_ble_eq_true rfl) rfl ?_
  intro pG eG sG mG below meth cG ls A hx hb hr hml hown hts hlk hin hP hK hD hA hS hl
  have hown : sG.vm.findClass RX5 = some mG.cls := hown
  have k_1 := hts (.fieldLink RX5 53 "ConicRowsModel" "one" "[J") (by decide +kernel)
  have k_2 : ∀ w ∈ wsX50, w ∈ wsX5_putPart := by decide +kernel
  have k_3 := hts (.fieldLink RX5 35 "ConicRowsModel" "matrix" "[J") (by decide +kernel)
  have k_4 := hts (.fieldLink RX5 44 "ConicRowsModel" "parts" "[J") (by decide +kernel)
  refine lv_iconst (v := 0) hx hb dX5_putPart_0 (by decide) ?_
  refine lv_istore (lv' := [(4, .int 0), (0, .ref o), (1, .int 0), (2, .int 6), (3, .int 1)]) hx hb dX5_putPart_1 hl (by decide) rfl (fun ls hl => ?_)
  refine lv_iload hx hb dX5_putPart_3 (lv_at hl 0 rfl) ?_
  refine lv_iconst (v := 3) hx hb dX5_putPart_5 (by decide) ?_
  refine lv_icmp_ge (tgt := 33) hx hb dX5_putPart_6 (by decide) (fun h => absurd h (by decide)) (fun _ => ?_)
  refine lv_aload_n hx hb dX5_putPart_9 rfl (lv_at hl 1 rfl) ?_
  refine va_get (D := D) (ci := 5) (v := .ref mI) (C := RX5) (T := TX5) (N := 17) hx hb hts k_2 hown hK.1 hP 0 rfl rfl 16 (by decide) k_1 (fun _ h9 => h9) rfl dX5_putPart_10 ?_
  refine lv_iload hx hb dX5_putPart_13 (lv_at hl 0 rfl) ?_
  refine lv_aload_n hx hb dX5_putPart_15 rfl (lv_at hl 1 rfl) ?_
  refine va_get (D := D) (ci := 5) (v := .ref mX) (C := RX5) (T := TX5) (N := 17) hx hb hts k_2 hown hK.1 hP 0 rfl rfl 8 (by decide) k_3 (fun _ h9 => h9) rfl dX5_putPart_16 ?_
  refine lv_iload_n hx hb dX5_putPart_19 rfl (lv_at hl 3 rfl) ?_
  refine lv_iload_n hx hb dX5_putPart_20 rfl (lv_at hl 4 rfl) ?_
  refine lv_iload hx hb dX5_putPart_21 (lv_at hl 0 rfl) ?_
  refine lv_imul hx hb dX5_putPart_23 ?_
  refine lv_eqi (v := 0) (by decide) ?_
  refine lv_iadd hx hb dX5_putPart_24 ?_
  refine lv_eqi (v := 6) (by decide) ?_
  refine ld_l hx hb hK.1 hP 1 1 rfl rfl (ix_lit (by decide)) 6 (by decide) (v := fx 6) rfl dX5_putPart_25 ?_
  refine st_l hx hb hK.1 hP hD hS 3 1 rfl rfl (ix_lit (by decide)) 0 (by decide) dX5_putPart_26 (fun H locs hP hD hS => ?_)
  have hP : va_P D vwCl [kM o mP mL mC mN mF mR mD mV mX mA mK cm mT pm mU mH mI, kJ mX cJ 9 fx, kJ mT cJ 6 ft, kJ mI cJ 3 (vp_updL fi 0 (fx 6))] H := hP
  have hD : va_D A [kM o mP mL mC mN mF mR mD mV mX mA mK cm mT pm mU mH mI, kJ mX cJ 9 fx, kJ mT cJ 6 ft, kJ mI cJ 3 (vp_updL fi 0 (fx 6))] := hD
  refine lv_iinc (v := 1) (lv' := [(4, .int 1), (0, .ref o), (1, .int 0), (2, .int 6), (3, .int 1)]) hx hb dX5_putPart_27 hl (k := 0) rfl (by decide) (by decide) rfl (fun ls hl => ?_)
  refine lv_goto (tgt := 3) hx hb dX5_putPart_30 (by decide) ?_
  refine lv_iload hx hb dX5_putPart_3 (lv_at hl 0 rfl) ?_
  refine lv_iconst (v := 3) hx hb dX5_putPart_5 (by decide) ?_
  refine lv_icmp_ge (tgt := 33) hx hb dX5_putPart_6 (by decide) (fun h => absurd h (by decide)) (fun _ => ?_)
  refine lv_aload_n hx hb dX5_putPart_9 rfl (lv_at hl 1 rfl) ?_
  refine va_get (D := D) (ci := 5) (v := .ref mI) (C := RX5) (T := TX5) (N := 17) hx hb hts k_2 hown hK.1 hP 0 rfl rfl 16 (by decide) k_1 (fun _ h9 => h9) rfl dX5_putPart_10 ?_
  refine lv_iload hx hb dX5_putPart_13 (lv_at hl 0 rfl) ?_
  refine lv_aload_n hx hb dX5_putPart_15 rfl (lv_at hl 1 rfl) ?_
  refine va_get (D := D) (ci := 5) (v := .ref mX) (C := RX5) (T := TX5) (N := 17) hx hb hts k_2 hown hK.1 hP 0 rfl rfl 8 (by decide) k_3 (fun _ h9 => h9) rfl dX5_putPart_16 ?_
  refine lv_iload_n hx hb dX5_putPart_19 rfl (lv_at hl 3 rfl) ?_
  refine lv_iload_n hx hb dX5_putPart_20 rfl (lv_at hl 4 rfl) ?_
  refine lv_iload hx hb dX5_putPart_21 (lv_at hl 0 rfl) ?_
  refine lv_imul hx hb dX5_putPart_23 ?_
  refine lv_eqi (v := 1) (by decide) ?_
  refine lv_iadd hx hb dX5_putPart_24 ?_
  refine lv_eqi (v := 7) (by decide) ?_
  refine ld_l hx hb hK.1 hP 1 1 rfl rfl (ix_lit (by decide)) 7 (by decide) (v := fx 7) rfl dX5_putPart_25 ?_
  refine st_l hx hb hK.1 hP hD hS 3 1 rfl rfl (ix_lit (by decide)) 1 (by decide) dX5_putPart_26 (fun H locs hP hD hS => ?_)
  have hP : va_P D vwCl [kM o mP mL mC mN mF mR mD mV mX mA mK cm mT pm mU mH mI, kJ mX cJ 9 fx, kJ mT cJ 6 ft, kJ mI cJ 3 (vp_updL (vp_updL fi 0 (fx 6)) 1 (fx 7))] H := hP
  have hD : va_D A [kM o mP mL mC mN mF mR mD mV mX mA mK cm mT pm mU mH mI, kJ mX cJ 9 fx, kJ mT cJ 6 ft, kJ mI cJ 3 (vp_updL (vp_updL fi 0 (fx 6)) 1 (fx 7))] := hD
  refine lv_iinc (v := 2) (lv' := [(4, .int 2), (0, .ref o), (1, .int 0), (2, .int 6), (3, .int 1)]) hx hb dX5_putPart_27 hl (k := 0) rfl (by decide) (by decide) rfl (fun ls hl => ?_)
  refine lv_goto (tgt := 3) hx hb dX5_putPart_30 (by decide) ?_
  refine lv_iload hx hb dX5_putPart_3 (lv_at hl 0 rfl) ?_
  refine lv_iconst (v := 3) hx hb dX5_putPart_5 (by decide) ?_
  refine lv_icmp_ge (tgt := 33) hx hb dX5_putPart_6 (by decide) (fun h => absurd h (by decide)) (fun _ => ?_)
  refine lv_aload_n hx hb dX5_putPart_9 rfl (lv_at hl 1 rfl) ?_
  refine va_get (D := D) (ci := 5) (v := .ref mI) (C := RX5) (T := TX5) (N := 17) hx hb hts k_2 hown hK.1 hP 0 rfl rfl 16 (by decide) k_1 (fun _ h9 => h9) rfl dX5_putPart_10 ?_
  refine lv_iload hx hb dX5_putPart_13 (lv_at hl 0 rfl) ?_
  refine lv_aload_n hx hb dX5_putPart_15 rfl (lv_at hl 1 rfl) ?_
  refine va_get (D := D) (ci := 5) (v := .ref mX) (C := RX5) (T := TX5) (N := 17) hx hb hts k_2 hown hK.1 hP 0 rfl rfl 8 (by decide) k_3 (fun _ h9 => h9) rfl dX5_putPart_16 ?_
  refine lv_iload_n hx hb dX5_putPart_19 rfl (lv_at hl 3 rfl) ?_
  refine lv_iload_n hx hb dX5_putPart_20 rfl (lv_at hl 4 rfl) ?_
  refine lv_iload hx hb dX5_putPart_21 (lv_at hl 0 rfl) ?_
  refine lv_imul hx hb dX5_putPart_23 ?_
  refine lv_eqi (v := 2) (by decide) ?_
  refine lv_iadd hx hb dX5_putPart_24 ?_
  refine lv_eqi (v := 8) (by decide) ?_
  refine ld_l hx hb hK.1 hP 1 1 rfl rfl (ix_lit (by decide)) 8 (by decide) (v := fx 8) rfl dX5_putPart_25 ?_
  refine st_l hx hb hK.1 hP hD hS 3 1 rfl rfl (ix_lit (by decide)) 2 (by decide) dX5_putPart_26 (fun H locs hP hD hS => ?_)
  have hP : va_P D vwCl [kM o mP mL mC mN mF mR mD mV mX mA mK cm mT pm mU mH mI, kJ mX cJ 9 fx, kJ mT cJ 6 ft, kJ mI cJ 3 (vp_updL (vp_updL (vp_updL fi 0 (fx 6)) 1 (fx 7)) 2 (fx 8))] H := hP
  have hD : va_D A [kM o mP mL mC mN mF mR mD mV mX mA mK cm mT pm mU mH mI, kJ mX cJ 9 fx, kJ mT cJ 6 ft, kJ mI cJ 3 (vp_updL (vp_updL (vp_updL fi 0 (fx 6)) 1 (fx 7)) 2 (fx 8))] := hD
  refine lv_iinc (v := 3) (lv' := [(4, .int 3), (0, .ref o), (1, .int 0), (2, .int 6), (3, .int 1)]) hx hb dX5_putPart_27 hl (k := 0) rfl (by decide) (by decide) rfl (fun ls hl => ?_)
  refine lv_goto (tgt := 3) hx hb dX5_putPart_30 (by decide) ?_
  refine lv_iload hx hb dX5_putPart_3 (lv_at hl 0 rfl) ?_
  refine lv_iconst (v := 3) hx hb dX5_putPart_5 (by decide) ?_
  refine lv_icmp_ge (tgt := 33) hx hb dX5_putPart_6 (by decide) (fun _ => ?_) (fun h => absurd (by decide) h)
  refine lv_aload_n hx hb dX5_putPart_33 rfl (lv_at hl 1 rfl) ?_
  refine va_get (D := D) (ci := 5) (v := .ref mI) (C := RX5) (T := TX5) (N := 17) hx hb hts k_2 hown hK.1 hP 0 rfl rfl 16 (by decide) k_1 (fun _ h9 => h9) rfl dX5_putPart_34 ?_
  refine lv_iconst (v := 3) hx hb dX5_putPart_37 (by decide) ?_
  have hPc := hP.sub (ws' := [kJ mI cJ 3 (vp_updL (vp_updL (vp_updL fi 0 (fx 6)) 1 (fx 7)) 2 (fx 8))]) [3] rfl
  have hDc := hD.sub (ws' := [kJ mI cJ 3 (vp_updL (vp_updL (vp_updL fi 0 (fx 6)) 1 (fx 7)) 2 (fx 8))]) [3] (by decide) rfl
  refine cl_i (wc := [kJ mI cJ 3 (vp_updL (vp_updL (vp_updL fi 0 (fx 6)) 1 (fx 7)) 2 (fx 8))]) (wr := [kM o mP mL mC mN mF mR mD mV mX mA mK cm mT pm mU mH mI, kJ mX cJ 9 fx, kJ mT cJ 6 ft]) (w1 := fun uu : Unit => [kJ mI cJ 3 ((z5_norm_3_3 (vp_updL (vp_updL (vp_updL fi 0 (fx 6)) 1 (fx 7)) 2 (fx 8))).2)]) (wn := fun uu : Unit => [kM o mP mL mC mN mF mR mD mV mX mA mK cm mT pm mU mH mI, kJ mX cJ 9 fx, kJ mT cJ 6 ft, kJ mI cJ 3 ((z5_norm_3_3 (vp_updL (vp_updL (vp_updL fi 0 (fx 6)) 1 (fx 7)) 2 (fx 8))).2)]) (va_runS (As := [.ref mI, .int 3]) (rest := []) ⟨hx, hb, hml, hown, hts⟩ (c_X5_norm_3_3 l D cI cJ mI (vp_updL (vp_updL (vp_updL fi 0 (fx 6)) 1 (fx 7)) 2 (fx 8)) _) (va_cwS 2 hts gX5_putPart_X5_norm rfl rfl rfl (by decide +kernel) ⟨Nat.le_of_ble_eq_true rfl, Nat.le_of_ble_eq_true rfl⟩) ⟨gd_blP, gd_prP hPc hK hDc⟩ rfl rfl hl.1 rfl (lv_room (Nat.le_of_ble_eq_true rfl)) dX5_putPart_38 ⟨Nat.zero_le _, Nat.zero_le _⟩) hP hD hS hA [3] [0, 1, 2] rfl rfl (by decide) (by decide) [0, 1, 2, 3] (by decide) (fun _ => rfl) (fun r_38 uG H locs hw hP hD hS => ?_)
  have hP : va_P D vwCl [kM o mP mL mC mN mF mR mD mV mX mA mK cm mT pm mU mH mI, kJ mX cJ 9 fx, kJ mT cJ 6 ft, kJ mI cJ 3 ((z5_norm_3_3 (vp_updL (vp_updL (vp_updL fi 0 (fx 6)) 1 (fx 7)) 2 (fx 8))).2)] H := hP
  have hD : va_D A [kM o mP mL mC mN mF mR mD mV mX mA mK cm mT pm mU mH mI, kJ mX cJ 9 fx, kJ mT cJ 6 ft, kJ mI cJ 3 ((z5_norm_3_3 (vp_updL (vp_updL (vp_updL fi 0 (fx 6)) 1 (fx 7)) 2 (fx 8))).2)] := hD
  subst hw
  clear hPc hDc
  refine lv_istore (lv' := [(4, .int ((z5_norm_3_3 (vp_updL (vp_updL (vp_updL fi 0 (fx 6)) 1 (fx 7)) 2 (fx 8))).1)), (0, .ref o), (1, .int 0), (2, .int 6), (3, .int 1)]) hx hb dX5_putPart_41 hl (by decide) rfl (fun ls hl => ?_)
  refine lv_iconst (v := 0) hx hb dX5_putPart_43 (by decide) ?_
  refine lv_istore (lv' := [(5, .int 0), (4, .int ((z5_norm_3_3 (vp_updL (vp_updL (vp_updL fi 0 (fx 6)) 1 (fx 7)) 2 (fx 8))).1)), (0, .ref o), (1, .int 0), (2, .int 6), (3, .int 1)]) hx hb dX5_putPart_44 hl (by decide) rfl (fun ls hl => ?_)
  refine lv_iload hx hb dX5_putPart_46 (lv_at hl 0 rfl) ?_
  refine lv_iconst (v := 3) hx hb dX5_putPart_48 (by decide) ?_
  refine lv_icmp_ge (tgt := 76) hx hb dX5_putPart_49 (by decide) (fun h => absurd h (by decide)) (fun _ => ?_)
  refine lv_aload_n hx hb dX5_putPart_52 rfl (lv_at hl 2 rfl) ?_
  refine va_get (D := D) (ci := 5) (v := .ref mT) (C := RX5) (T := TX5) (N := 17) hx hb hts k_2 hown hK.1 hP 0 rfl rfl 12 (by decide) k_4 (fun _ h9 => h9) rfl dX5_putPart_53 ?_
  refine lv_iconst (v := 3) hx hb dX5_putPart_56 (by decide) ?_
  refine lv_iload_n hx hb dX5_putPart_57 rfl (lv_at hl 3 rfl) ?_
  refine lv_imul hx hb dX5_putPart_58 ?_
  refine lv_eqi (v := 0) (by decide) ?_
  refine lv_iload hx hb dX5_putPart_59 (lv_at hl 0 rfl) ?_
  refine lv_iadd hx hb dX5_putPart_61 ?_
  refine lv_eqi (v := 0) (by decide) ?_
  refine lv_aload_n hx hb dX5_putPart_62 rfl (lv_at hl 2 rfl) ?_
  refine va_get (D := D) (ci := 5) (v := .ref mI) (C := RX5) (T := TX5) (N := 17) hx hb hts k_2 hown hK.1 hP 0 rfl rfl 16 (by decide) k_1 (fun _ h9 => h9) rfl dX5_putPart_63 ?_
  refine lv_iload hx hb dX5_putPart_66 (lv_at hl 0 rfl) ?_
  refine ld_l hx hb hK.1 hP 3 1 rfl rfl (ix_lit (by decide)) 0 (by decide) (v := ((z5_norm_3_3 (vp_updL (vp_updL (vp_updL fi 0 (fx 6)) 1 (fx 7)) 2 (fx 8))).2) 0) rfl dX5_putPart_68 ?_
  refine st_l hx hb hK.1 hP hD hS 2 1 rfl rfl (ix_lit (by decide)) 0 (by decide) dX5_putPart_69 (fun H locs hP hD hS => ?_)
  have hP : va_P D vwCl [kM o mP mL mC mN mF mR mD mV mX mA mK cm mT pm mU mH mI, kJ mX cJ 9 fx, kJ mT cJ 6 (vp_updL ft 0 (((z5_norm_3_3 (vp_updL (vp_updL (vp_updL fi 0 (fx 6)) 1 (fx 7)) 2 (fx 8))).2) 0)), kJ mI cJ 3 ((z5_norm_3_3 (vp_updL (vp_updL (vp_updL fi 0 (fx 6)) 1 (fx 7)) 2 (fx 8))).2)] H := hP
  have hD : va_D A [kM o mP mL mC mN mF mR mD mV mX mA mK cm mT pm mU mH mI, kJ mX cJ 9 fx, kJ mT cJ 6 (vp_updL ft 0 (((z5_norm_3_3 (vp_updL (vp_updL (vp_updL fi 0 (fx 6)) 1 (fx 7)) 2 (fx 8))).2) 0)), kJ mI cJ 3 ((z5_norm_3_3 (vp_updL (vp_updL (vp_updL fi 0 (fx 6)) 1 (fx 7)) 2 (fx 8))).2)] := hD
  refine lv_iinc (v := 1) (lv' := [(5, .int 1), (4, .int ((z5_norm_3_3 (vp_updL (vp_updL (vp_updL fi 0 (fx 6)) 1 (fx 7)) 2 (fx 8))).1)), (0, .ref o), (1, .int 0), (2, .int 6), (3, .int 1)]) hx hb dX5_putPart_70 hl (k := 0) rfl (by decide) (by decide) rfl (fun ls hl => ?_)
  refine lv_goto (tgt := 46) hx hb dX5_putPart_73 (by decide) ?_
  refine lv_iload hx hb dX5_putPart_46 (lv_at hl 0 rfl) ?_
  refine lv_iconst (v := 3) hx hb dX5_putPart_48 (by decide) ?_
  refine lv_icmp_ge (tgt := 76) hx hb dX5_putPart_49 (by decide) (fun h => absurd h (by decide)) (fun _ => ?_)
  refine lv_aload_n hx hb dX5_putPart_52 rfl (lv_at hl 2 rfl) ?_
  refine va_get (D := D) (ci := 5) (v := .ref mT) (C := RX5) (T := TX5) (N := 17) hx hb hts k_2 hown hK.1 hP 0 rfl rfl 12 (by decide) k_4 (fun _ h9 => h9) rfl dX5_putPart_53 ?_
  refine lv_iconst (v := 3) hx hb dX5_putPart_56 (by decide) ?_
  refine lv_iload_n hx hb dX5_putPart_57 rfl (lv_at hl 3 rfl) ?_
  refine lv_imul hx hb dX5_putPart_58 ?_
  refine lv_eqi (v := 0) (by decide) ?_
  refine lv_iload hx hb dX5_putPart_59 (lv_at hl 0 rfl) ?_
  refine lv_iadd hx hb dX5_putPart_61 ?_
  refine lv_eqi (v := 1) (by decide) ?_
  refine lv_aload_n hx hb dX5_putPart_62 rfl (lv_at hl 2 rfl) ?_
  refine va_get (D := D) (ci := 5) (v := .ref mI) (C := RX5) (T := TX5) (N := 17) hx hb hts k_2 hown hK.1 hP 0 rfl rfl 16 (by decide) k_1 (fun _ h9 => h9) rfl dX5_putPart_63 ?_
  refine lv_iload hx hb dX5_putPart_66 (lv_at hl 0 rfl) ?_
  refine ld_l hx hb hK.1 hP 3 1 rfl rfl (ix_lit (by decide)) 1 (by decide) (v := ((z5_norm_3_3 (vp_updL (vp_updL (vp_updL fi 0 (fx 6)) 1 (fx 7)) 2 (fx 8))).2) 1) rfl dX5_putPart_68 ?_
  refine st_l hx hb hK.1 hP hD hS 2 1 rfl rfl (ix_lit (by decide)) 1 (by decide) dX5_putPart_69 (fun H locs hP hD hS => ?_)
  have hP : va_P D vwCl [kM o mP mL mC mN mF mR mD mV mX mA mK cm mT pm mU mH mI, kJ mX cJ 9 fx, kJ mT cJ 6 (vp_updL (vp_updL ft 0 (((z5_norm_3_3 (vp_updL (vp_updL (vp_updL fi 0 (fx 6)) 1 (fx 7)) 2 (fx 8))).2) 0)) 1 (((z5_norm_3_3 (vp_updL (vp_updL (vp_updL fi 0 (fx 6)) 1 (fx 7)) 2 (fx 8))).2) 1)), kJ mI cJ 3 ((z5_norm_3_3 (vp_updL (vp_updL (vp_updL fi 0 (fx 6)) 1 (fx 7)) 2 (fx 8))).2)] H := hP
  have hD : va_D A [kM o mP mL mC mN mF mR mD mV mX mA mK cm mT pm mU mH mI, kJ mX cJ 9 fx, kJ mT cJ 6 (vp_updL (vp_updL ft 0 (((z5_norm_3_3 (vp_updL (vp_updL (vp_updL fi 0 (fx 6)) 1 (fx 7)) 2 (fx 8))).2) 0)) 1 (((z5_norm_3_3 (vp_updL (vp_updL (vp_updL fi 0 (fx 6)) 1 (fx 7)) 2 (fx 8))).2) 1)), kJ mI cJ 3 ((z5_norm_3_3 (vp_updL (vp_updL (vp_updL fi 0 (fx 6)) 1 (fx 7)) 2 (fx 8))).2)] := hD
  refine lv_iinc (v := 2) (lv' := [(5, .int 2), (4, .int ((z5_norm_3_3 (vp_updL (vp_updL (vp_updL fi 0 (fx 6)) 1 (fx 7)) 2 (fx 8))).1)), (0, .ref o), (1, .int 0), (2, .int 6), (3, .int 1)]) hx hb dX5_putPart_70 hl (k := 0) rfl (by decide) (by decide) rfl (fun ls hl => ?_)
  refine lv_goto (tgt := 46) hx hb dX5_putPart_73 (by decide) ?_
  refine lv_iload hx hb dX5_putPart_46 (lv_at hl 0 rfl) ?_
  refine lv_iconst (v := 3) hx hb dX5_putPart_48 (by decide) ?_
  refine lv_icmp_ge (tgt := 76) hx hb dX5_putPart_49 (by decide) (fun h => absurd h (by decide)) (fun _ => ?_)
  refine lv_aload_n hx hb dX5_putPart_52 rfl (lv_at hl 2 rfl) ?_
  refine va_get (D := D) (ci := 5) (v := .ref mT) (C := RX5) (T := TX5) (N := 17) hx hb hts k_2 hown hK.1 hP 0 rfl rfl 12 (by decide) k_4 (fun _ h9 => h9) rfl dX5_putPart_53 ?_
  refine lv_iconst (v := 3) hx hb dX5_putPart_56 (by decide) ?_
  refine lv_iload_n hx hb dX5_putPart_57 rfl (lv_at hl 3 rfl) ?_
  refine lv_imul hx hb dX5_putPart_58 ?_
  refine lv_eqi (v := 0) (by decide) ?_
  refine lv_iload hx hb dX5_putPart_59 (lv_at hl 0 rfl) ?_
  refine lv_iadd hx hb dX5_putPart_61 ?_
  refine lv_eqi (v := 2) (by decide) ?_
  refine lv_aload_n hx hb dX5_putPart_62 rfl (lv_at hl 2 rfl) ?_
  refine va_get (D := D) (ci := 5) (v := .ref mI) (C := RX5) (T := TX5) (N := 17) hx hb hts k_2 hown hK.1 hP 0 rfl rfl 16 (by decide) k_1 (fun _ h9 => h9) rfl dX5_putPart_63 ?_
  refine lv_iload hx hb dX5_putPart_66 (lv_at hl 0 rfl) ?_
  refine ld_l hx hb hK.1 hP 3 1 rfl rfl (ix_lit (by decide)) 2 (by decide) (v := ((z5_norm_3_3 (vp_updL (vp_updL (vp_updL fi 0 (fx 6)) 1 (fx 7)) 2 (fx 8))).2) 2) rfl dX5_putPart_68 ?_
  refine st_l hx hb hK.1 hP hD hS 2 1 rfl rfl (ix_lit (by decide)) 2 (by decide) dX5_putPart_69 (fun H locs hP hD hS => ?_)
  have hP : va_P D vwCl [kM o mP mL mC mN mF mR mD mV mX mA mK cm mT pm mU mH mI, kJ mX cJ 9 fx, kJ mT cJ 6 (vp_updL (vp_updL (vp_updL ft 0 (((z5_norm_3_3 (vp_updL (vp_updL (vp_updL fi 0 (fx 6)) 1 (fx 7)) 2 (fx 8))).2) 0)) 1 (((z5_norm_3_3 (vp_updL (vp_updL (vp_updL fi 0 (fx 6)) 1 (fx 7)) 2 (fx 8))).2) 1)) 2 (((z5_norm_3_3 (vp_updL (vp_updL (vp_updL fi 0 (fx 6)) 1 (fx 7)) 2 (fx 8))).2) 2)), kJ mI cJ 3 ((z5_norm_3_3 (vp_updL (vp_updL (vp_updL fi 0 (fx 6)) 1 (fx 7)) 2 (fx 8))).2)] H := hP
  have hD : va_D A [kM o mP mL mC mN mF mR mD mV mX mA mK cm mT pm mU mH mI, kJ mX cJ 9 fx, kJ mT cJ 6 (vp_updL (vp_updL (vp_updL ft 0 (((z5_norm_3_3 (vp_updL (vp_updL (vp_updL fi 0 (fx 6)) 1 (fx 7)) 2 (fx 8))).2) 0)) 1 (((z5_norm_3_3 (vp_updL (vp_updL (vp_updL fi 0 (fx 6)) 1 (fx 7)) 2 (fx 8))).2) 1)) 2 (((z5_norm_3_3 (vp_updL (vp_updL (vp_updL fi 0 (fx 6)) 1 (fx 7)) 2 (fx 8))).2) 2)), kJ mI cJ 3 ((z5_norm_3_3 (vp_updL (vp_updL (vp_updL fi 0 (fx 6)) 1 (fx 7)) 2 (fx 8))).2)] := hD
  refine lv_iinc (v := 3) (lv' := [(5, .int 3), (4, .int ((z5_norm_3_3 (vp_updL (vp_updL (vp_updL fi 0 (fx 6)) 1 (fx 7)) 2 (fx 8))).1)), (0, .ref o), (1, .int 0), (2, .int 6), (3, .int 1)]) hx hb dX5_putPart_70 hl (k := 0) rfl (by decide) (by decide) rfl (fun ls hl => ?_)
  refine lv_goto (tgt := 46) hx hb dX5_putPart_73 (by decide) ?_
  refine lv_iload hx hb dX5_putPart_46 (lv_at hl 0 rfl) ?_
  refine lv_iconst (v := 3) hx hb dX5_putPart_48 (by decide) ?_
  refine lv_icmp_ge (tgt := 76) hx hb dX5_putPart_49 (by decide) (fun _ => ?_) (fun h => absurd (by decide) h)
  have he_0 : z5_putPart_0_6_1_f2 fx ft fi = vp_updL (vp_updL (vp_updL ft 0 (((z5_norm_3_3 (vp_updL (vp_updL (vp_updL fi 0 (fx 6)) 1 (fx 7)) 2 (fx 8))).2) 0)) 1 (((z5_norm_3_3 (vp_updL (vp_updL (vp_updL fi 0 (fx 6)) 1 (fx 7)) 2 (fx 8))).2) 1)) 2 (((z5_norm_3_3 (vp_updL (vp_updL (vp_updL fi 0 (fx 6)) 1 (fx 7)) 2 (fx 8))).2) 2) := by delta z5_putPart_0_6_1_f2; rfl
  have he_1 : z5_putPart_0_6_1_f3 fx fi = (z5_norm_3_3 (vp_updL (vp_updL (vp_updL fi 0 (fx 6)) 1 (fx 7)) 2 (fx 8))).2 := by delta z5_putPart_0_6_1_f3; rfl
  exact rt_v (w1 := fun uu : Unit => [kM o mP mL mC mN mF mR mD mV mX mA mK cm mT pm mU mH mI, kJ mX cJ 9 fx, kJ mT cJ 6 (z5_putPart_0_6_1_f2 fx ft fi), kJ mI cJ 3 (z5_putPart_0_6_1_f3 fx fi)]) hx hb hr hlk hS dX5_putPart_76 (()) trivial (by rw [he_0, he_1]; exact hP) (by rw [he_0, he_1]; exact hD)
def z5_putPart_1_0_3_f2 (fx : Nat → Int64) (ft : Nat → Int64) (fi : Nat → Int64) : Nat → Int64 := vp_updL (vp_updL (vp_updL ft 3 (((z5_norm_3_3 (vp_updL (vp_updL (vp_updL fi 0 (fx 0)) 1 (fx 3)) 2 (fx 6))).2) 0)) 4 (((z5_norm_3_3 (vp_updL (vp_updL (vp_updL fi 0 (fx 0)) 1 (fx 3)) 2 (fx 6))).2) 1)) 5 (((z5_norm_3_3 (vp_updL (vp_updL (vp_updL fi 0 (fx 0)) 1 (fx 3)) 2 (fx 6))).2) 2)
def z5_putPart_1_0_3_f3 (fx : Nat → Int64) (fi : Nat → Int64) : Nat → Int64 := (z5_norm_3_3 (vp_updL (vp_updL (vp_updL fi 0 (fx 0)) 1 (fx 3)) 2 (fx 6))).2
set_option maxHeartbeats 4000000 in
set_option maxRecDepth 100000 in
/-- X5.putPart -/
theorem c_X5_putPart_1_0_3 (l : Launch) (D : va_G) (cI cJ : ClassId) (o : Nat) (mP : Nat) (mL : Nat) (mC : Nat) (mN : Nat) (mF : Nat) (mR : Nat) (mD : Nat) (mV : Nat) (mX : Nat) (mA : Nat) (mK : Nat) (mT : Nat) (mU : Nat) (mH : Nat) (mI : Nat) (cm : Int32) (pm : Int32) (fx : Nat → Int64) (ft : Nat → Int64) (fi : Nat → Int64) : mw_C l yX5_putPart wsX5_putPart ({ frames := 2, cells := 0, slots := 0, locals := 54 }) D cI cJ [.ref o, .int 1, .int 0, .int 3] [kM o mP mL mC mN mF mR mD mV mX mA mK cm mT pm mU mH mI, kJ mX cJ 9 fx, kJ mT cJ 6 ft, kJ mI cJ 3 fi] (qe_v (fun _ : Unit => True) (fun uu => [kM o mP mL mC mN mF mR mD mV mX mA mK cm mT pm mU mH mI, kJ mX cJ 9 fx, kJ mT cJ 6 (z5_putPart_1_0_3_f2 fx ft fi), kJ mI cJ 3 (z5_putPart_1_0_3_f3 fx fi)])) := by
  refine mw_in (cc := cX5_putPart) (lv := [(0, .ref o), (1, .int 1), (2, .int 0), (3, .int 3)]) (by decide) rfl (Nat.le_of_ble_eq_true rfl) rfl ?_
  intro pG eG sG mG below meth cG ls A hx hb hr hml hown hts hlk hin hP hK hD hA hS hl
  have hown : sG.vm.findClass RX5 = some mG.cls := hown
  have k_1 := hts (.fieldLink RX5 53 "ConicRowsModel" "one" "[J") (by decide +kernel)
  have k_2 : ∀ w ∈ wsX50, w ∈ wsX5_putPart := by decide +kernel
  have k_3 := hts (.fieldLink RX5 35 "ConicRowsModel" "matrix" "[J") (by decide +kernel)
  have k_4 := hts (.fieldLink RX5 44 "ConicRowsModel" "parts" "[J") (by decide +kernel)
  refine lv_iconst (v := 0) hx hb dX5_putPart_0 (by decide) ?_
  refine lv_istore (lv' := [(4, .int 0), (0, .ref o), (1, .int 1), (2, .int 0), (3, .int 3)]) hx hb dX5_putPart_1 hl (by decide) rfl (fun ls hl => ?_)
  refine lv_iload hx hb dX5_putPart_3 (lv_at hl 0 rfl) ?_
  refine lv_iconst (v := 3) hx hb dX5_putPart_5 (by decide) ?_
  refine lv_icmp_ge (tgt := 33) hx hb dX5_putPart_6 (by decide) (fun h => absurd h (by decide)) (fun _ => ?_)
  refine lv_aload_n hx hb dX5_putPart_9 rfl (lv_at hl 1 rfl) ?_
  refine va_get (D := D) (ci := 5) (v := .ref mI) (C := RX5) (T := TX5) (N := 17) hx hb hts k_2 hown hK.1 hP 0 rfl rfl 16 (by decide) k_1 (fun _ h9 => h9) rfl dX5_putPart_10 ?_
  refine lv_iload hx hb dX5_putPart_13 (lv_at hl 0 rfl) ?_
  refine lv_aload_n hx hb dX5_putPart_15 rfl (lv_at hl 1 rfl) ?_
  refine va_get (D := D) (ci := 5) (v := .ref mX) (C := RX5) (T := TX5) (N := 17) hx hb hts k_2 hown hK.1 hP 0 rfl rfl 8 (by decide) k_3 (fun _ h9 => h9) rfl dX5_putPart_16 ?_
  refine lv_iload_n hx hb dX5_putPart_19 rfl (lv_at hl 3 rfl) ?_
  refine lv_iload_n hx hb dX5_putPart_20 rfl (lv_at hl 4 rfl) ?_
  refine lv_iload hx hb dX5_putPart_21 (lv_at hl 0 rfl) ?_
  refine lv_imul hx hb dX5_putPart_23 ?_
  refine lv_eqi (v := 0) (by decide) ?_
  refine lv_iadd hx hb dX5_putPart_24 ?_
  refine lv_eqi (v := 0) (by decide) ?_
  refine ld_l hx hb hK.1 hP 1 1 rfl rfl (ix_lit (by decide)) 0 (by decide) (v := fx 0) rfl dX5_putPart_25 ?_
  refine st_l hx hb hK.1 hP hD hS 3 1 rfl rfl (ix_lit (by decide)) 0 (by decide) dX5_putPart_26 (fun H locs hP hD hS => ?_)
  have hP : va_P D vwCl [kM o mP mL mC mN mF mR mD mV mX mA mK cm mT pm mU mH mI, kJ mX cJ 9 fx, kJ mT cJ 6 ft, kJ mI cJ 3 (vp_updL fi 0 (fx 0))] H := hP
  have hD : va_D A [kM o mP mL mC mN mF mR mD mV mX mA mK cm mT pm mU mH mI, kJ mX cJ 9 fx, kJ mT cJ 6 ft, kJ mI cJ 3 (vp_updL fi 0 (fx 0))] := hD
  refine lv_iinc (v := 1) (lv' := [(4, .int 1), (0, .ref o), (1, .int 1), (2, .int 0), (3, .int 3)]) hx hb dX5_putPart_27 hl (k := 0) rfl (by decide) (by decide) rfl (fun ls hl => ?_)
  refine lv_goto (tgt := 3) hx hb dX5_putPart_30 (by decide) ?_
  refine lv_iload hx hb dX5_putPart_3 (lv_at hl 0 rfl) ?_
  refine lv_iconst (v := 3) hx hb dX5_putPart_5 (by decide) ?_
  refine lv_icmp_ge (tgt := 33) hx hb dX5_putPart_6 (by decide) (fun h => absurd h (by decide)) (fun _ => ?_)
  refine lv_aload_n hx hb dX5_putPart_9 rfl (lv_at hl 1 rfl) ?_
  refine va_get (D := D) (ci := 5) (v := .ref mI) (C := RX5) (T := TX5) (N := 17) hx hb hts k_2 hown hK.1 hP 0 rfl rfl 16 (by decide) k_1 (fun _ h9 => h9) rfl dX5_putPart_10 ?_
  refine lv_iload hx hb dX5_putPart_13 (lv_at hl 0 rfl) ?_
  refine lv_aload_n hx hb dX5_putPart_15 rfl (lv_at hl 1 rfl) ?_
  refine va_get (D := D) (ci := 5) (v := .ref mX) (C := RX5) (T := TX5) (N := 17) hx hb hts k_2 hown hK.1 hP 0 rfl rfl 8 (by decide) k_3 (fun _ h9 => h9) rfl dX5_putPart_16 ?_
  refine lv_iload_n hx hb dX5_putPart_19 rfl (lv_at hl 3 rfl) ?_
  refine lv_iload_n hx hb dX5_putPart_20 rfl (lv_at hl 4 rfl) ?_
  refine lv_iload hx hb dX5_putPart_21 (lv_at hl 0 rfl) ?_
  refine lv_imul hx hb dX5_putPart_23 ?_
  refine lv_eqi (v := 3) (by decide) ?_
  refine lv_iadd hx hb dX5_putPart_24 ?_
  refine lv_eqi (v := 3) (by decide) ?_
  refine ld_l hx hb hK.1 hP 1 1 rfl rfl (ix_lit (by decide)) 3 (by decide) (v := fx 3) rfl dX5_putPart_25 ?_
  refine st_l hx hb hK.1 hP hD hS 3 1 rfl rfl (ix_lit (by decide)) 1 (by decide) dX5_putPart_26 (fun H locs hP hD hS => ?_)
  have hP : va_P D vwCl [kM o mP mL mC mN mF mR mD mV mX mA mK cm mT pm mU mH mI, kJ mX cJ 9 fx, kJ mT cJ 6 ft, kJ mI cJ 3 (vp_updL (vp_updL fi 0 (fx 0)) 1 (fx 3))] H := hP
  have hD : va_D A [kM o mP mL mC mN mF mR mD mV mX mA mK cm mT pm mU mH mI, kJ mX cJ 9 fx, kJ mT cJ 6 ft, kJ mI cJ 3 (vp_updL (vp_updL fi 0 (fx 0)) 1 (fx 3))] := hD
  refine lv_iinc (v := 2) (lv' := [(4, .int 2), (0, .ref o), (1, .int 1), (2, .int 0), (3, .int 3)]) hx hb dX5_putPart_27 hl (k := 0) rfl (by decide) (by decide) rfl (fun ls hl => ?_)
  refine lv_goto (tgt := 3) hx hb dX5_putPart_30 (by decide) ?_
  refine lv_iload hx hb dX5_putPart_3 (lv_at hl 0 rfl) ?_
  refine lv_iconst (v := 3) hx hb dX5_putPart_5 (by decide) ?_
  refine lv_icmp_ge (tgt := 33) hx hb dX5_putPart_6 (by decide) (fun h => absurd h (by decide)) (fun _ => ?_)
  refine lv_aload_n hx hb dX5_putPart_9 rfl (lv_at hl 1 rfl) ?_
  refine va_get (D := D) (ci := 5) (v := .ref mI) (C := RX5) (T := TX5) (N := 17) hx hb hts k_2 hown hK.1 hP 0 rfl rfl 16 (by decide) k_1 (fun _ h9 => h9) rfl dX5_putPart_10 ?_
  refine lv_iload hx hb dX5_putPart_13 (lv_at hl 0 rfl) ?_
  refine lv_aload_n hx hb dX5_putPart_15 rfl (lv_at hl 1 rfl) ?_
  refine va_get (D := D) (ci := 5) (v := .ref mX) (C := RX5) (T := TX5) (N := 17) hx hb hts k_2 hown hK.1 hP 0 rfl rfl 8 (by decide) k_3 (fun _ h9 => h9) rfl dX5_putPart_16 ?_
  refine lv_iload_n hx hb dX5_putPart_19 rfl (lv_at hl 3 rfl) ?_
  refine lv_iload_n hx hb dX5_putPart_20 rfl (lv_at hl 4 rfl) ?_
  refine lv_iload hx hb dX5_putPart_21 (lv_at hl 0 rfl) ?_
  refine lv_imul hx hb dX5_putPart_23 ?_
  refine lv_eqi (v := 6) (by decide) ?_
  refine lv_iadd hx hb dX5_putPart_24 ?_
  refine lv_eqi (v := 6) (by decide) ?_
  refine ld_l hx hb hK.1 hP 1 1 rfl rfl (ix_lit (by decide)) 6 (by decide) (v := fx 6) rfl dX5_putPart_25 ?_
  refine st_l hx hb hK.1 hP hD hS 3 1 rfl rfl (ix_lit (by decide)) 2 (by decide) dX5_putPart_26 (fun H locs hP hD hS => ?_)
  have hP : va_P D vwCl [kM o mP mL mC mN mF mR mD mV mX mA mK cm mT pm mU mH mI, kJ mX cJ 9 fx, kJ mT cJ 6 ft, kJ mI cJ 3 (vp_updL (vp_updL (vp_updL fi 0 (fx 0)) 1 (fx 3)) 2 (fx 6))] H := hP
  have hD : va_D A [kM o mP mL mC mN mF mR mD mV mX mA mK cm mT pm mU mH mI, kJ mX cJ 9 fx, kJ mT cJ 6 ft, kJ mI cJ 3 (vp_updL (vp_updL (vp_updL fi 0 (fx 0)) 1 (fx 3)) 2 (fx 6))] := hD
  refine lv_iinc (v := 3) (lv' := [(4, .int 3), (0, .ref o), (1, .int 1), (2, .int 0), (3, .int 3)]) hx hb dX5_putPart_27 hl (k := 0) rfl (by decide) (by decide) rfl (fun ls hl => ?_)
  refine lv_goto (tgt := 3) hx hb dX5_putPart_30 (by decide) ?_
  refine lv_iload hx hb dX5_putPart_3 (lv_at hl 0 rfl) ?_
  refine lv_iconst (v := 3) hx hb dX5_putPart_5 (by decide) ?_
  refine lv_icmp_ge (tgt := 33) hx hb dX5_putPart_6 (by decide) (fun _ => ?_) (fun h => absurd (by decide) h)
  refine lv_aload_n hx hb dX5_putPart_33 rfl (lv_at hl 1 rfl) ?_
  refine va_get (D := D) (ci := 5) (v := .ref mI) (C := RX5) (T := TX5) (N := 17) hx hb hts k_2 hown hK.1 hP 0 rfl rfl 16 (by decide) k_1 (fun _ h9 => h9) rfl dX5_putPart_34 ?_
  refine lv_iconst (v := 3) hx hb dX5_putPart_37 (by decide) ?_
  have hPc := hP.sub (ws' := [kJ mI cJ 3 (vp_updL (vp_updL (vp_updL fi 0 (fx 0)) 1 (fx 3)) 2 (fx 6))]) [3] rfl
  have hDc := hD.sub (ws' := [kJ mI cJ 3 (vp_updL (vp_updL (vp_updL fi 0 (fx 0)) 1 (fx 3)) 2 (fx 6))]) [3] (by decide) rfl
  refine cl_i (wc := [kJ mI cJ 3 (vp_updL (vp_updL (vp_updL fi 0 (fx 0)) 1 (fx 3)) 2 (fx 6))]) (wr := [kM o mP mL mC mN mF mR mD mV mX mA mK cm mT pm mU mH mI, kJ mX cJ 9 fx, kJ mT cJ 6 ft]) (w1 := fun uu : Unit => [kJ mI cJ 3 ((z5_norm_3_3 (vp_updL (vp_updL (vp_updL fi 0 (fx 0)) 1 (fx 3)) 2 (fx 6))).2)]) (wn := fun uu : Unit => [kM o mP mL mC mN mF mR mD mV mX mA mK cm mT pm mU mH mI, kJ mX cJ 9 fx, kJ mT cJ 6 ft, kJ mI cJ 3 ((z5_norm_3_3 (vp_updL (vp_updL (vp_updL fi 0 (fx 0)) 1 (fx 3)) 2 (fx 6))).2)]) (va_runS (As := [.ref mI, .int 3]) (rest := []) ⟨hx, hb, hml, hown, hts⟩ (c_X5_norm_3_3 l D cI cJ mI (vp_updL (vp_updL (vp_updL fi 0 (fx 0)) 1 (fx 3)) 2 (fx 6)) _) (va_cwS 2 hts gX5_putPart_X5_norm rfl rfl rfl (by decide +kernel) ⟨Nat.le_of_ble_eq_true rfl, Nat.le_of_ble_eq_true rfl⟩) ⟨gd_blP, gd_prP hPc hK hDc⟩ rfl rfl hl.1 rfl (lv_room (Nat.le_of_ble_eq_true rfl)) dX5_putPart_38 ⟨Nat.zero_le _, Nat.zero_le _⟩) hP hD hS hA [3] [0, 1, 2] rfl rfl (by decide) (by decide) [0, 1, 2, 3] (by decide) (fun _ => rfl) (fun r_38 uG H locs hw hP hD hS => ?_)
  have hP : va_P D vwCl [kM o mP mL mC mN mF mR mD mV mX mA mK cm mT pm mU mH mI, kJ mX cJ 9 fx, kJ mT cJ 6 ft, kJ mI cJ 3 ((z5_norm_3_3 (vp_updL (vp_updL (vp_updL fi 0 (fx 0)) 1 (fx 3)) 2 (fx 6))).2)] H := hP
  have hD : va_D A [kM o mP mL mC mN mF mR mD mV mX mA mK cm mT pm mU mH mI, kJ mX cJ 9 fx, kJ mT cJ 6 ft, kJ mI cJ 3 ((z5_norm_3_3 (vp_updL (vp_updL (vp_updL fi 0 (fx 0)) 1 (fx 3)) 2 (fx 6))).2)] := hD
  subst hw
  clear hPc hDc
  refine lv_istore (lv' := [(4, .int ((z5_norm_3_3 (vp_updL (vp_updL (vp_updL fi 0 (fx 0)) 1 (fx 3)) 2 (fx 6))).1)), (0, .ref o), (1, .int 1), (2, .int 0), (3, .int 3)]) hx hb dX5_putPart_41 hl (by decide) rfl (fun ls hl => ?_)
  refine lv_iconst (v := 0) hx hb dX5_putPart_43 (by decide) ?_
  refine lv_istore (lv' := [(5, .int 0), (4, .int ((z5_norm_3_3 (vp_updL (vp_updL (vp_updL fi 0 (fx 0)) 1 (fx 3)) 2 (fx 6))).1)), (0, .ref o), (1, .int 1), (2, .int 0), (3, .int 3)]) hx hb dX5_putPart_44 hl (by decide) rfl (fun ls hl => ?_)
  refine lv_iload hx hb dX5_putPart_46 (lv_at hl 0 rfl) ?_
  refine lv_iconst (v := 3) hx hb dX5_putPart_48 (by decide) ?_
  refine lv_icmp_ge (tgt := 76) hx hb dX5_putPart_49 (by decide) (fun h => absurd h (by decide)) (fun _ => ?_)
  refine lv_aload_n hx hb dX5_putPart_52 rfl (lv_at hl 2 rfl) ?_
  refine va_get (D := D) (ci := 5) (v := .ref mT) (C := RX5) (T := TX5) (N := 17) hx hb hts k_2 hown hK.1 hP 0 rfl rfl 12 (by decide) k_4 (fun _ h9 => h9) rfl dX5_putPart_53 ?_
  refine lv_iconst (v := 3) hx hb dX5_putPart_56 (by decide) ?_
  refine lv_iload_n hx hb dX5_putPart_57 rfl (lv_at hl 3 rfl) ?_
  refine lv_imul hx hb dX5_putPart_58 ?_
  refine lv_eqi (v := 3) (by decide) ?_
  refine lv_iload hx hb dX5_putPart_59 (lv_at hl 0 rfl) ?_
  refine lv_iadd hx hb dX5_putPart_61 ?_
  refine lv_eqi (v := 3) (by decide) ?_
  refine lv_aload_n hx hb dX5_putPart_62 rfl (lv_at hl 2 rfl) ?_
  refine va_get (D := D) (ci := 5) (v := .ref mI) (C := RX5) (T := TX5) (N := 17) hx hb hts k_2 hown hK.1 hP 0 rfl rfl 16 (by decide) k_1 (fun _ h9 => h9) rfl dX5_putPart_63 ?_
  refine lv_iload hx hb dX5_putPart_66 (lv_at hl 0 rfl) ?_
  refine ld_l hx hb hK.1 hP 3 1 rfl rfl (ix_lit (by decide)) 0 (by decide) (v := ((z5_norm_3_3 (vp_updL (vp_updL (vp_updL fi 0 (fx 0)) 1 (fx 3)) 2 (fx 6))).2) 0) rfl dX5_putPart_68 ?_
  refine st_l hx hb hK.1 hP hD hS 2 1 rfl rfl (ix_lit (by decide)) 3 (by decide) dX5_putPart_69 (fun H locs hP hD hS => ?_)
  have hP : va_P D vwCl [kM o mP mL mC mN mF mR mD mV mX mA mK cm mT pm mU mH mI, kJ mX cJ 9 fx, kJ mT cJ 6 (vp_updL ft 3 (((z5_norm_3_3 (vp_updL (vp_updL (vp_updL fi 0 (fx 0)) 1 (fx 3)) 2 (fx 6))).2) 0)), kJ mI cJ 3 ((z5_norm_3_3 (vp_updL (vp_updL (vp_updL fi 0 (fx 0)) 1 (fx 3)) 2 (fx 6))).2)] H := hP
  have hD : va_D A [kM o mP mL mC mN mF mR mD mV mX mA mK cm mT pm mU mH mI, kJ mX cJ 9 fx, kJ mT cJ 6 (vp_updL ft 3 (((z5_norm_3_3 (vp_updL (vp_updL (vp_updL fi 0 (fx 0)) 1 (fx 3)) 2 (fx 6))).2) 0)), kJ mI cJ 3 ((z5_norm_3_3 (vp_updL (vp_updL (vp_updL fi 0 (fx 0)) 1 (fx 3)) 2 (fx 6))).2)] := hD
  refine lv_iinc (v := 1) (lv' := [(5, .int 1), (4, .int ((z5_norm_3_3 (vp_updL (vp_updL (vp_updL fi 0 (fx 0)) 1 (fx 3)) 2 (fx 6))).1)), (0, .ref o), (1, .int 1), (2, .int 0), (3, .int 3)]) hx hb dX5_putPart_70 hl (k := 0) rfl (by decide) (by decide) rfl (fun ls hl => ?_)
  refine lv_goto (tgt := 46) hx hb dX5_putPart_73 (by decide) ?_
  refine lv_iload hx hb dX5_putPart_46 (lv_at hl 0 rfl) ?_
  refine lv_iconst (v := 3) hx hb dX5_putPart_48 (by decide) ?_
  refine lv_icmp_ge (tgt := 76) hx hb dX5_putPart_49 (by decide) (fun h => absurd h (by decide)) (fun _ => ?_)
  refine lv_aload_n hx hb dX5_putPart_52 rfl (lv_at hl 2 rfl) ?_
  refine va_get (D := D) (ci := 5) (v := .ref mT) (C := RX5) (T := TX5) (N := 17) hx hb hts k_2 hown hK.1 hP 0 rfl rfl 12 (by decide) k_4 (fun _ h9 => h9) rfl dX5_putPart_53 ?_
  refine lv_iconst (v := 3) hx hb dX5_putPart_56 (by decide) ?_
  refine lv_iload_n hx hb dX5_putPart_57 rfl (lv_at hl 3 rfl) ?_
  refine lv_imul hx hb dX5_putPart_58 ?_
  refine lv_eqi (v := 3) (by decide) ?_
  refine lv_iload hx hb dX5_putPart_59 (lv_at hl 0 rfl) ?_
  refine lv_iadd hx hb dX5_putPart_61 ?_
  refine lv_eqi (v := 4) (by decide) ?_
  refine lv_aload_n hx hb dX5_putPart_62 rfl (lv_at hl 2 rfl) ?_
  refine va_get (D := D) (ci := 5) (v := .ref mI) (C := RX5) (T := TX5) (N := 17) hx hb hts k_2 hown hK.1 hP 0 rfl rfl 16 (by decide) k_1 (fun _ h9 => h9) rfl dX5_putPart_63 ?_
  refine lv_iload hx hb dX5_putPart_66 (lv_at hl 0 rfl) ?_
  refine ld_l hx hb hK.1 hP 3 1 rfl rfl (ix_lit (by decide)) 1 (by decide) (v := ((z5_norm_3_3 (vp_updL (vp_updL (vp_updL fi 0 (fx 0)) 1 (fx 3)) 2 (fx 6))).2) 1) rfl dX5_putPart_68 ?_
  refine st_l hx hb hK.1 hP hD hS 2 1 rfl rfl (ix_lit (by decide)) 4 (by decide) dX5_putPart_69 (fun H locs hP hD hS => ?_)
  have hP : va_P D vwCl [kM o mP mL mC mN mF mR mD mV mX mA mK cm mT pm mU mH mI, kJ mX cJ 9 fx, kJ mT cJ 6 (vp_updL (vp_updL ft 3 (((z5_norm_3_3 (vp_updL (vp_updL (vp_updL fi 0 (fx 0)) 1 (fx 3)) 2 (fx 6))).2) 0)) 4 (((z5_norm_3_3 (vp_updL (vp_updL (vp_updL fi 0 (fx 0)) 1 (fx 3)) 2 (fx 6))).2) 1)), kJ mI cJ 3 ((z5_norm_3_3 (vp_updL (vp_updL (vp_updL fi 0 (fx 0)) 1 (fx 3)) 2 (fx 6))).2)] H := hP
  have hD : va_D A [kM o mP mL mC mN mF mR mD mV mX mA mK cm mT pm mU mH mI, kJ mX cJ 9 fx, kJ mT cJ 6 (vp_updL (vp_updL ft 3 (((z5_norm_3_3 (vp_updL (vp_updL (vp_updL fi 0 (fx 0)) 1 (fx 3)) 2 (fx 6))).2) 0)) 4 (((z5_norm_3_3 (vp_updL (vp_updL (vp_updL fi 0 (fx 0)) 1 (fx 3)) 2 (fx 6))).2) 1)), kJ mI cJ 3 ((z5_norm_3_3 (vp_updL (vp_updL (vp_updL fi 0 (fx 0)) 1 (fx 3)) 2 (fx 6))).2)] := hD
  refine lv_iinc (v := 2) (lv' := [(5, .int 2), (4, .int ((z5_norm_3_3 (vp_updL (vp_updL (vp_updL fi 0 (fx 0)) 1 (fx 3)) 2 (fx 6))).1)), (0, .ref o), (1, .int 1), (2, .int 0), (3, .int 3)]) hx hb dX5_putPart_70 hl (k := 0) rfl (by decide) (by decide) rfl (fun ls hl => ?_)
  refine lv_goto (tgt := 46) hx hb dX5_putPart_73 (by decide) ?_
  refine lv_iload hx hb dX5_putPart_46 (lv_at hl 0 rfl) ?_
  refine lv_iconst (v := 3) hx hb dX5_putPart_48 (by decide) ?_
  refine lv_icmp_ge (tgt := 76) hx hb dX5_putPart_49 (by decide) (fun h => absurd h (by decide)) (fun _ => ?_)
  refine lv_aload_n hx hb dX5_putPart_52 rfl (lv_at hl 2 rfl) ?_
  refine va_get (D := D) (ci := 5) (v := .ref mT) (C := RX5) (T := TX5) (N := 17) hx hb hts k_2 hown hK.1 hP 0 rfl rfl 12 (by decide) k_4 (fun _ h9 => h9) rfl dX5_putPart_53 ?_
  refine lv_iconst (v := 3) hx hb dX5_putPart_56 (by decide) ?_
  refine lv_iload_n hx hb dX5_putPart_57 rfl (lv_at hl 3 rfl) ?_
  refine lv_imul hx hb dX5_putPart_58 ?_
  refine lv_eqi (v := 3) (by decide) ?_
  refine lv_iload hx hb dX5_putPart_59 (lv_at hl 0 rfl) ?_
  refine lv_iadd hx hb dX5_putPart_61 ?_
  refine lv_eqi (v := 5) (by decide) ?_
  refine lv_aload_n hx hb dX5_putPart_62 rfl (lv_at hl 2 rfl) ?_
  refine va_get (D := D) (ci := 5) (v := .ref mI) (C := RX5) (T := TX5) (N := 17) hx hb hts k_2 hown hK.1 hP 0 rfl rfl 16 (by decide) k_1 (fun _ h9 => h9) rfl dX5_putPart_63 ?_
  refine lv_iload hx hb dX5_putPart_66 (lv_at hl 0 rfl) ?_
  refine ld_l hx hb hK.1 hP 3 1 rfl rfl (ix_lit (by decide)) 2 (by decide) (v := ((z5_norm_3_3 (vp_updL (vp_updL (vp_updL fi 0 (fx 0)) 1 (fx 3)) 2 (fx 6))).2) 2) rfl dX5_putPart_68 ?_
  refine st_l hx hb hK.1 hP hD hS 2 1 rfl rfl (ix_lit (by decide)) 5 (by decide) dX5_putPart_69 (fun H locs hP hD hS => ?_)
  have hP : va_P D vwCl [kM o mP mL mC mN mF mR mD mV mX mA mK cm mT pm mU mH mI, kJ mX cJ 9 fx, kJ mT cJ 6 (vp_updL (vp_updL (vp_updL ft 3 (((z5_norm_3_3 (vp_updL (vp_updL (vp_updL fi 0 (fx 0)) 1 (fx 3)) 2 (fx 6))).2) 0)) 4 (((z5_norm_3_3 (vp_updL (vp_updL (vp_updL fi 0 (fx 0)) 1 (fx 3)) 2 (fx 6))).2) 1)) 5 (((z5_norm_3_3 (vp_updL (vp_updL (vp_updL fi 0 (fx 0)) 1 (fx 3)) 2 (fx 6))).2) 2)), kJ mI cJ 3 ((z5_norm_3_3 (vp_updL (vp_updL (vp_updL fi 0 (fx 0)) 1 (fx 3)) 2 (fx 6))).2)] H := hP
  have hD : va_D A [kM o mP mL mC mN mF mR mD mV mX mA mK cm mT pm mU mH mI, kJ mX cJ 9 fx, kJ mT cJ 6 (vp_updL (vp_updL (vp_updL ft 3 (((z5_norm_3_3 (vp_updL (vp_updL (vp_updL fi 0 (fx 0)) 1 (fx 3)) 2 (fx 6))).2) 0)) 4 (((z5_norm_3_3 (vp_updL (vp_updL (vp_updL fi 0 (fx 0)) 1 (fx 3)) 2 (fx 6))).2) 1)) 5 (((z5_norm_3_3 (vp_updL (vp_updL (vp_updL fi 0 (fx 0)) 1 (fx 3)) 2 (fx 6))).2) 2)), kJ mI cJ 3 ((z5_norm_3_3 (vp_updL (vp_updL (vp_updL fi 0 (fx 0)) 1 (fx 3)) 2 (fx 6))).2)] := hD
  refine lv_iinc (v := 3) (lv' := [(5, .int 3), (4, .int ((z5_norm_3_3 (vp_updL (vp_updL (vp_updL fi 0 (fx 0)) 1 (fx 3)) 2 (fx 6))).1)), (0, .ref o), (1, .int 1), (2, .int 0), (3, .int 3)]) hx hb dX5_putPart_70 hl (k := 0) rfl (by decide) (by decide) rfl (fun ls hl => ?_)
  refine lv_goto (tgt := 46) hx hb dX5_putPart_73 (by decide) ?_
  refine lv_iload hx hb dX5_putPart_46 (lv_at hl 0 rfl) ?_
  refine lv_iconst (v := 3) hx hb dX5_putPart_48 (by decide) ?_
  refine lv_icmp_ge (tgt := 76) hx hb dX5_putPart_49 (by decide) (fun _ => ?_) (fun h => absurd (by decide) h)
  have he_0 : z5_putPart_1_0_3_f2 fx ft fi = vp_updL (vp_updL (vp_updL ft 3 (((z5_norm_3_3 (vp_updL (vp_updL (vp_updL fi 0 (fx 0)) 1 (fx 3)) 2 (fx 6))).2) 0)) 4 (((z5_norm_3_3 (vp_updL (vp_updL (vp_updL fi 0 (fx 0)) 1 (fx 3)) 2 (fx 6))).2) 1)) 5 (((z5_norm_3_3 (vp_updL (vp_updL (vp_updL fi 0 (fx 0)) 1 (fx 3)) 2 (fx 6))).2) 2) := by delta z5_putPart_1_0_3_f2; rfl
  have he_1 : z5_putPart_1_0_3_f3 fx fi = (z5_norm_3_3 (vp_updL (vp_updL (vp_updL fi 0 (fx 0)) 1 (fx 3)) 2 (fx 6))).2 := by delta z5_putPart_1_0_3_f3; rfl
  exact rt_v (w1 := fun uu : Unit => [kM o mP mL mC mN mF mR mD mV mX mA mK cm mT pm mU mH mI, kJ mX cJ 9 fx, kJ mT cJ 6 (z5_putPart_1_0_3_f2 fx ft fi), kJ mI cJ 3 (z5_putPart_1_0_3_f3 fx fi)]) hx hb hr hlk hS dX5_putPart_76 (()) trivial (by rw [he_0, he_1]; exact hP) (by rw [he_0, he_1]; exact hD)
def z5_putPart_1_1_3_f2 (fx : Nat → Int64) (ft : Nat → Int64) (fi : Nat → Int64) : Nat → Int64 := vp_updL (vp_updL (vp_updL ft 3 (((z5_norm_3_3 (vp_updL (vp_updL (vp_updL fi 0 (fx 1)) 1 (fx 4)) 2 (fx 7))).2) 0)) 4 (((z5_norm_3_3 (vp_updL (vp_updL (vp_updL fi 0 (fx 1)) 1 (fx 4)) 2 (fx 7))).2) 1)) 5 (((z5_norm_3_3 (vp_updL (vp_updL (vp_updL fi 0 (fx 1)) 1 (fx 4)) 2 (fx 7))).2) 2)
def z5_putPart_1_1_3_f3 (fx : Nat → Int64) (fi : Nat → Int64) : Nat → Int64 := (z5_norm_3_3 (vp_updL (vp_updL (vp_updL fi 0 (fx 1)) 1 (fx 4)) 2 (fx 7))).2
set_option maxHeartbeats 4000000 in
set_option maxRecDepth 100000 in
/-- X5.putPart -/
theorem c_X5_putPart_1_1_3 (l : Launch) (D : va_G) (cI cJ : ClassId) (o : Nat) (mP : Nat) (mL : Nat) (mC : Nat) (mN : Nat) (mF : Nat) (mR : Nat) (mD : Nat) (mV : Nat) (mX : Nat) (mA : Nat) (mK : Nat) (mT : Nat) (mU : Nat) (mH : Nat) (mI : Nat) (cm : Int32) (pm : Int32) (fx : Nat → Int64) (ft : Nat → Int64) (fi : Nat → Int64) : mw_C l yX5_putPart wsX5_putPart ({ frames := 2, cells := 0, slots := 0, locals := 54 }) D cI cJ [.ref o, .int 1, .int 1, .int 3] [kM o mP mL mC mN mF mR mD mV mX mA mK cm mT pm mU mH mI, kJ mX cJ 9 fx, kJ mT cJ 6 ft, kJ mI cJ 3 fi] (qe_v (fun _ : Unit => True) (fun uu => [kM o mP mL mC mN mF mR mD mV mX mA mK cm mT pm mU mH mI, kJ mX cJ 9 fx, kJ mT cJ 6 (z5_putPart_1_1_3_f2 fx ft fi), kJ mI cJ 3 (z5_putPart_1_1_3_f3 fx fi)])) := by
  refine mw_in (cc := cX5_putPart) (lv := [(0, .ref o), (1, .int 1), (2, .int 1), (3, .int 3)]) (by decide) rfl (Nat.le_of_ble_eq_true rfl) rfl ?_
  intro pG eG sG mG below meth cG ls A hx hb hr hml hown hts hlk hin hP hK hD hA hS hl
  have hown : sG.vm.findClass RX5 = some mG.cls := hown
  have k_1 := hts (.fieldLink RX5 53 "ConicRowsModel" "one" "[J") (by decide +kernel)
  have k_2 : ∀ w ∈ wsX50, w ∈ wsX5_putPart := by decide +kernel
  have k_3 := hts (.fieldLink RX5 35 "ConicRowsModel" "matrix" "[J") (by decide +kernel)
  have k_4 := hts (.fieldLink RX5 44 "ConicRowsModel" "parts" "[J") (by decide +kernel)
  refine lv_iconst (v := 0) hx hb dX5_putPart_0 (by decide) ?_
  refine lv_istore (lv' := [(4, .int 0), (0, .ref o), (1, .int 1), (2, .int 1), (3, .int 3)]) hx hb dX5_putPart_1 hl (by decide) rfl (fun ls hl => ?_)
  refine lv_iload hx hb dX5_putPart_3 (lv_at hl 0 rfl) ?_
  refine lv_iconst (v := 3) hx hb dX5_putPart_5 (by decide) ?_
  refine lv_icmp_ge (tgt := 33) hx hb dX5_putPart_6 (by decide) (fun h => absurd h (by decide)) (fun _ => ?_)
  refine lv_aload_n hx hb dX5_putPart_9 rfl (lv_at hl 1 rfl) ?_
  refine va_get (D := D) (ci := 5) (v := .ref mI) (C := RX5) (T := TX5) (N := 17) hx hb hts k_2 hown hK.1 hP 0 rfl rfl 16 (by decide) k_1 (fun _ h9 => h9) rfl dX5_putPart_10 ?_
  refine lv_iload hx hb dX5_putPart_13 (lv_at hl 0 rfl) ?_
  refine lv_aload_n hx hb dX5_putPart_15 rfl (lv_at hl 1 rfl) ?_
  refine va_get (D := D) (ci := 5) (v := .ref mX) (C := RX5) (T := TX5) (N := 17) hx hb hts k_2 hown hK.1 hP 0 rfl rfl 8 (by decide) k_3 (fun _ h9 => h9) rfl dX5_putPart_16 ?_
  refine lv_iload_n hx hb dX5_putPart_19 rfl (lv_at hl 3 rfl) ?_
  refine lv_iload_n hx hb dX5_putPart_20 rfl (lv_at hl 4 rfl) ?_
  refine lv_iload hx hb dX5_putPart_21 (lv_at hl 0 rfl) ?_
  refine lv_imul hx hb dX5_putPart_23 ?_
  refine lv_eqi (v := 0) (by decide) ?_
  refine lv_iadd hx hb dX5_putPart_24 ?_
  refine lv_eqi (v := 1) (by decide) ?_
  refine ld_l hx hb hK.1 hP 1 1 rfl rfl (ix_lit (by decide)) 1 (by decide) (v := fx 1) rfl dX5_putPart_25 ?_
  refine st_l hx hb hK.1 hP hD hS 3 1 rfl rfl (ix_lit (by decide)) 0 (by decide) dX5_putPart_26 (fun H locs hP hD hS => ?_)
  have hP : va_P D vwCl [kM o mP mL mC mN mF mR mD mV mX mA mK cm mT pm mU mH mI, kJ mX cJ 9 fx, kJ mT cJ 6 ft, kJ mI cJ 3 (vp_updL fi 0 (fx 1))] H := hP
  have hD : va_D A [kM o mP mL mC mN mF mR mD mV mX mA mK cm mT pm mU mH mI, kJ mX cJ 9 fx, kJ mT cJ 6 ft, kJ mI cJ 3 (vp_updL fi 0 (fx 1))] := hD
  refine lv_iinc (v := 1) (lv' := [(4, .int 1), (0, .ref o), (1, .int 1), (2, .int 1), (3, .int 3)]) hx hb dX5_putPart_27 hl (k := 0) rfl (by decide) (by decide) rfl (fun ls hl => ?_)
  refine lv_goto (tgt := 3) hx hb dX5_putPart_30 (by decide) ?_
  refine lv_iload hx hb dX5_putPart_3 (lv_at hl 0 rfl) ?_
  refine lv_iconst (v := 3) hx hb dX5_putPart_5 (by decide) ?_
  refine lv_icmp_ge (tgt := 33) hx hb dX5_putPart_6 (by decide) (fun h => absurd h (by decide)) (fun _ => ?_)
  refine lv_aload_n hx hb dX5_putPart_9 rfl (lv_at hl 1 rfl) ?_
  refine va_get (D := D) (ci := 5) (v := .ref mI) (C := RX5) (T := TX5) (N := 17) hx hb hts k_2 hown hK.1 hP 0 rfl rfl 16 (by decide) k_1 (fun _ h9 => h9) rfl dX5_putPart_10 ?_
  refine lv_iload hx hb dX5_putPart_13 (lv_at hl 0 rfl) ?_
  refine lv_aload_n hx hb dX5_putPart_15 rfl (lv_at hl 1 rfl) ?_
  refine va_get (D := D) (ci := 5) (v := .ref mX) (C := RX5) (T := TX5) (N := 17) hx hb hts k_2 hown hK.1 hP 0 rfl rfl 8 (by decide) k_3 (fun _ h9 => h9) rfl dX5_putPart_16 ?_
  refine lv_iload_n hx hb dX5_putPart_19 rfl (lv_at hl 3 rfl) ?_
  refine lv_iload_n hx hb dX5_putPart_20 rfl (lv_at hl 4 rfl) ?_
  refine lv_iload hx hb dX5_putPart_21 (lv_at hl 0 rfl) ?_
  refine lv_imul hx hb dX5_putPart_23 ?_
  refine lv_eqi (v := 3) (by decide) ?_
  refine lv_iadd hx hb dX5_putPart_24 ?_
  refine lv_eqi (v := 4) (by decide) ?_
  refine ld_l hx hb hK.1 hP 1 1 rfl rfl (ix_lit (by decide)) 4 (by decide) (v := fx 4) rfl dX5_putPart_25 ?_
  refine st_l hx hb hK.1 hP hD hS 3 1 rfl rfl (ix_lit (by decide)) 1 (by decide) dX5_putPart_26 (fun H locs hP hD hS => ?_)
  have hP : va_P D vwCl [kM o mP mL mC mN mF mR mD mV mX mA mK cm mT pm mU mH mI, kJ mX cJ 9 fx, kJ mT cJ 6 ft, kJ mI cJ 3 (vp_updL (vp_updL fi 0 (fx 1)) 1 (fx 4))] H := hP
  have hD : va_D A [kM o mP mL mC mN mF mR mD mV mX mA mK cm mT pm mU mH mI, kJ mX cJ 9 fx, kJ mT cJ 6 ft, kJ mI cJ 3 (vp_updL (vp_updL fi 0 (fx 1)) 1 (fx 4))] := hD
  refine lv_iinc (v := 2) (lv' := [(4, .int 2), (0, .ref o), (1, .int 1), (2, .int 1), (3, .int 3)]) hx hb dX5_putPart_27 hl (k := 0) rfl (by decide) (by decide) rfl (fun ls hl => ?_)
  refine lv_goto (tgt := 3) hx hb dX5_putPart_30 (by decide) ?_
  refine lv_iload hx hb dX5_putPart_3 (lv_at hl 0 rfl) ?_
  refine lv_iconst (v := 3) hx hb dX5_putPart_5 (by decide) ?_
  refine lv_icmp_ge (tgt := 33) hx hb dX5_putPart_6 (by decide) (fun h => absurd h (by decide)) (fun _ => ?_)
  refine lv_aload_n hx hb dX5_putPart_9 rfl (lv_at hl 1 rfl) ?_
  refine va_get (D := D) (ci := 5) (v := .ref mI) (C := RX5) (T := TX5) (N := 17) hx hb hts k_2 hown hK.1 hP 0 rfl rfl 16 (by decide) k_1 (fun _ h9 => h9) rfl dX5_putPart_10 ?_
  refine lv_iload hx hb dX5_putPart_13 (lv_at hl 0 rfl) ?_
  refine lv_aload_n hx hb dX5_putPart_15 rfl (lv_at hl 1 rfl) ?_
  refine va_get (D := D) (ci := 5) (v := .ref mX) (C := RX5) (T := TX5) (N := 17) hx hb hts k_2 hown hK.1 hP 0 rfl rfl 8 (by decide) k_3 (fun _ h9 => h9) rfl dX5_putPart_16 ?_
  refine lv_iload_n hx hb dX5_putPart_19 rfl (lv_at hl 3 rfl) ?_
  refine lv_iload_n hx hb dX5_putPart_20 rfl (lv_at hl 4 rfl) ?_
  refine lv_iload hx hb dX5_putPart_21 (lv_at hl 0 rfl) ?_
  refine lv_imul hx hb dX5_putPart_23 ?_
  refine lv_eqi (v := 6) (by decide) ?_
  refine lv_iadd hx hb dX5_putPart_24 ?_
  refine lv_eqi (v := 7) (by decide) ?_
  refine ld_l hx hb hK.1 hP 1 1 rfl rfl (ix_lit (by decide)) 7 (by decide) (v := fx 7) rfl dX5_putPart_25 ?_
  refine st_l hx hb hK.1 hP hD hS 3 1 rfl rfl (ix_lit (by decide)) 2 (by decide) dX5_putPart_26 (fun H locs hP hD hS => ?_)
  have hP : va_P D vwCl [kM o mP mL mC mN mF mR mD mV mX mA mK cm mT pm mU mH mI, kJ mX cJ 9 fx, kJ mT cJ 6 ft, kJ mI cJ 3 (vp_updL (vp_updL (vp_updL fi 0 (fx 1)) 1 (fx 4)) 2 (fx 7))] H := hP
  have hD : va_D A [kM o mP mL mC mN mF mR mD mV mX mA mK cm mT pm mU mH mI, kJ mX cJ 9 fx, kJ mT cJ 6 ft, kJ mI cJ 3 (vp_updL (vp_updL (vp_updL fi 0 (fx 1)) 1 (fx 4)) 2 (fx 7))] := hD
  refine lv_iinc (v := 3) (lv' := [(4, .int 3), (0, .ref o), (1, .int 1), (2, .int 1), (3, .int 3)]) hx hb dX5_putPart_27 hl (k := 0) rfl (by decide) (by decide) rfl (fun ls hl => ?_)
  refine lv_goto (tgt := 3) hx hb dX5_putPart_30 (by decide) ?_
  refine lv_iload hx hb dX5_putPart_3 (lv_at hl 0 rfl) ?_
  refine lv_iconst (v := 3) hx hb dX5_putPart_5 (by decide) ?_
  refine lv_icmp_ge (tgt := 33) hx hb dX5_putPart_6 (by decide) (fun _ => ?_) (fun h => absurd (by decide) h)
  refine lv_aload_n hx hb dX5_putPart_33 rfl (lv_at hl 1 rfl) ?_
  refine va_get (D := D) (ci := 5) (v := .ref mI) (C := RX5) (T := TX5) (N := 17) hx hb hts k_2 hown hK.1 hP 0 rfl rfl 16 (by decide) k_1 (fun _ h9 => h9) rfl dX5_putPart_34 ?_
  refine lv_iconst (v := 3) hx hb dX5_putPart_37 (by decide) ?_
  have hPc := hP.sub (ws' := [kJ mI cJ 3 (vp_updL (vp_updL (vp_updL fi 0 (fx 1)) 1 (fx 4)) 2 (fx 7))]) [3] rfl
  have hDc := hD.sub (ws' := [kJ mI cJ 3 (vp_updL (vp_updL (vp_updL fi 0 (fx 1)) 1 (fx 4)) 2 (fx 7))]) [3] (by decide) rfl
  refine cl_i (wc := [kJ mI cJ 3 (vp_updL (vp_updL (vp_updL fi 0 (fx 1)) 1 (fx 4)) 2 (fx 7))]) (wr := [kM o mP mL mC mN mF mR mD mV mX mA mK cm mT pm mU mH mI, kJ mX cJ 9 fx, kJ mT cJ 6 ft]) (w1 := fun uu : Unit => [kJ mI cJ 3 ((z5_norm_3_3 (vp_updL (vp_updL (vp_updL fi 0 (fx 1)) 1 (fx 4)) 2 (fx 7))).2)]) (wn := fun uu : Unit => [kM o mP mL mC mN mF mR mD mV mX mA mK cm mT pm mU mH mI, kJ mX cJ 9 fx, kJ mT cJ 6 ft, kJ mI cJ 3 ((z5_norm_3_3 (vp_updL (vp_updL (vp_updL fi 0 (fx 1)) 1 (fx 4)) 2 (fx 7))).2)]) (va_runS (As := [.ref mI, .int 3]) (rest := []) ⟨hx, hb, hml, hown, hts⟩ (c_X5_norm_3_3 l D cI cJ mI (vp_updL (vp_updL (vp_updL fi 0 (fx 1)) 1 (fx 4)) 2 (fx 7)) _) (va_cwS 2 hts gX5_putPart_X5_norm rfl rfl rfl (by decide +kernel) ⟨Nat.le_of_ble_eq_true rfl, Nat.le_of_ble_eq_true rfl⟩) ⟨gd_blP, gd_prP hPc hK hDc⟩ rfl rfl hl.1 rfl (lv_room (Nat.le_of_ble_eq_true rfl)) dX5_putPart_38 ⟨Nat.zero_le _, Nat.zero_le _⟩) hP hD hS hA [3] [0, 1, 2] rfl rfl (by decide) (by decide) [0, 1, 2, 3] (by decide) (fun _ => rfl) (fun r_38 uG H locs hw hP hD hS => ?_)
  have hP : va_P D vwCl [kM o mP mL mC mN mF mR mD mV mX mA mK cm mT pm mU mH mI, kJ mX cJ 9 fx, kJ mT cJ 6 ft, kJ mI cJ 3 ((z5_norm_3_3 (vp_updL (vp_updL (vp_updL fi 0 (fx 1)) 1 (fx 4)) 2 (fx 7))).2)] H := hP
  have hD : va_D A [kM o mP mL mC mN mF mR mD mV mX mA mK cm mT pm mU mH mI, kJ mX cJ 9 fx, kJ mT cJ 6 ft, kJ mI cJ 3 ((z5_norm_3_3 (vp_updL (vp_updL (vp_updL fi 0 (fx 1)) 1 (fx 4)) 2 (fx 7))).2)] := hD
  subst hw
  clear hPc hDc
  refine lv_istore (lv' := [(4, .int ((z5_norm_3_3 (vp_updL (vp_updL (vp_updL fi 0 (fx 1)) 1 (fx 4)) 2 (fx 7))).1)), (0, .ref o), (1, .int 1), (2, .int 1), (3, .int 3)]) hx hb dX5_putPart_41 hl (by decide) rfl (fun ls hl => ?_)
  refine lv_iconst (v := 0) hx hb dX5_putPart_43 (by decide) ?_
  refine lv_istore (lv' := [(5, .int 0), (4, .int ((z5_norm_3_3 (vp_updL (vp_updL (vp_updL fi 0 (fx 1)) 1 (fx 4)) 2 (fx 7))).1)), (0, .ref o), (1, .int 1), (2, .int 1), (3, .int 3)]) hx hb dX5_putPart_44 hl (by decide) rfl (fun ls hl => ?_)
  refine lv_iload hx hb dX5_putPart_46 (lv_at hl 0 rfl) ?_
  refine lv_iconst (v := 3) hx hb dX5_putPart_48 (by decide) ?_
  refine lv_icmp_ge (tgt := 76) hx hb dX5_putPart_49 (by decide) (fun h => absurd h (by decide)) (fun _ => ?_)
  refine lv_aload_n hx hb dX5_putPart_52 rfl (lv_at hl 2 rfl) ?_
  refine va_get (D := D) (ci := 5) (v := .ref mT) (C := RX5) (T := TX5) (N := 17) hx hb hts k_2 hown hK.1 hP 0 rfl rfl 12 (by decide) k_4 (fun _ h9 => h9) rfl dX5_putPart_53 ?_
  refine lv_iconst (v := 3) hx hb dX5_putPart_56 (by decide) ?_
  refine lv_iload_n hx hb dX5_putPart_57 rfl (lv_at hl 3 rfl) ?_
  refine lv_imul hx hb dX5_putPart_58 ?_
  refine lv_eqi (v := 3) (by decide) ?_
  refine lv_iload hx hb dX5_putPart_59 (lv_at hl 0 rfl) ?_
  refine lv_iadd hx hb dX5_putPart_61 ?_
  refine lv_eqi (v := 3) (by decide) ?_
  refine lv_aload_n hx hb dX5_putPart_62 rfl (lv_at hl 2 rfl) ?_
  refine va_get (D := D) (ci := 5) (v := .ref mI) (C := RX5) (T := TX5) (N := 17) hx hb hts k_2 hown hK.1 hP 0 rfl rfl 16 (by decide) k_1 (fun _ h9 => h9) rfl dX5_putPart_63 ?_
  refine lv_iload hx hb dX5_putPart_66 (lv_at hl 0 rfl) ?_
  refine ld_l hx hb hK.1 hP 3 1 rfl rfl (ix_lit (by decide)) 0 (by decide) (v := ((z5_norm_3_3 (vp_updL (vp_updL (vp_updL fi 0 (fx 1)) 1 (fx 4)) 2 (fx 7))).2) 0) rfl dX5_putPart_68 ?_
  refine st_l hx hb hK.1 hP hD hS 2 1 rfl rfl (ix_lit (by decide)) 3 (by decide) dX5_putPart_69 (fun H locs hP hD hS => ?_)
  have hP : va_P D vwCl [kM o mP mL mC mN mF mR mD mV mX mA mK cm mT pm mU mH mI, kJ mX cJ 9 fx, kJ mT cJ 6 (vp_updL ft 3 (((z5_norm_3_3 (vp_updL (vp_updL (vp_updL fi 0 (fx 1)) 1 (fx 4)) 2 (fx 7))).2) 0)), kJ mI cJ 3 ((z5_norm_3_3 (vp_updL (vp_updL (vp_updL fi 0 (fx 1)) 1 (fx 4)) 2 (fx 7))).2)] H := hP
  have hD : va_D A [kM o mP mL mC mN mF mR mD mV mX mA mK cm mT pm mU mH mI, kJ mX cJ 9 fx, kJ mT cJ 6 (vp_updL ft 3 (((z5_norm_3_3 (vp_updL (vp_updL (vp_updL fi 0 (fx 1)) 1 (fx 4)) 2 (fx 7))).2) 0)), kJ mI cJ 3 ((z5_norm_3_3 (vp_updL (vp_updL (vp_updL fi 0 (fx 1)) 1 (fx 4)) 2 (fx 7))).2)] := hD
  refine lv_iinc (v := 1) (lv' := [(5, .int 1), (4, .int ((z5_norm_3_3 (vp_updL (vp_updL (vp_updL fi 0 (fx 1)) 1 (fx 4)) 2 (fx 7))).1)), (0, .ref o), (1, .int 1), (2, .int 1), (3, .int 3)]) hx hb dX5_putPart_70 hl (k := 0) rfl (by decide) (by decide) rfl (fun ls hl => ?_)
  refine lv_goto (tgt := 46) hx hb dX5_putPart_73 (by decide) ?_
  refine lv_iload hx hb dX5_putPart_46 (lv_at hl 0 rfl) ?_
  refine lv_iconst (v := 3) hx hb dX5_putPart_48 (by decide) ?_
  refine lv_icmp_ge (tgt := 76) hx hb dX5_putPart_49 (by decide) (fun h => absurd h (by decide)) (fun _ => ?_)
  refine lv_aload_n hx hb dX5_putPart_52 rfl (lv_at hl 2 rfl) ?_
  refine va_get (D := D) (ci := 5) (v := .ref mT) (C := RX5) (T := TX5) (N := 17) hx hb hts k_2 hown hK.1 hP 0 rfl rfl 12 (by decide) k_4 (fun _ h9 => h9) rfl dX5_putPart_53 ?_
  refine lv_iconst (v := 3) hx hb dX5_putPart_56 (by decide) ?_
  refine lv_iload_n hx hb dX5_putPart_57 rfl (lv_at hl 3 rfl) ?_
  refine lv_imul hx hb dX5_putPart_58 ?_
  refine lv_eqi (v := 3) (by decide) ?_
  refine lv_iload hx hb dX5_putPart_59 (lv_at hl 0 rfl) ?_
  refine lv_iadd hx hb dX5_putPart_61 ?_
  refine lv_eqi (v := 4) (by decide) ?_
  refine lv_aload_n hx hb dX5_putPart_62 rfl (lv_at hl 2 rfl) ?_
  refine va_get (D := D) (ci := 5) (v := .ref mI) (C := RX5) (T := TX5) (N := 17) hx hb hts k_2 hown hK.1 hP 0 rfl rfl 16 (by decide) k_1 (fun _ h9 => h9) rfl dX5_putPart_63 ?_
  refine lv_iload hx hb dX5_putPart_66 (lv_at hl 0 rfl) ?_
  refine ld_l hx hb hK.1 hP 3 1 rfl rfl (ix_lit (by decide)) 1 (by decide) (v := ((z5_norm_3_3 (vp_updL (vp_updL (vp_updL fi 0 (fx 1)) 1 (fx 4)) 2 (fx 7))).2) 1) rfl dX5_putPart_68 ?_
  refine st_l hx hb hK.1 hP hD hS 2 1 rfl rfl (ix_lit (by decide)) 4 (by decide) dX5_putPart_69 (fun H locs hP hD hS => ?_)
  have hP : va_P D vwCl [kM o mP mL mC mN mF mR mD mV mX mA mK cm mT pm mU mH mI, kJ mX cJ 9 fx, kJ mT cJ 6 (vp_updL (vp_updL ft 3 (((z5_norm_3_3 (vp_updL (vp_updL (vp_updL fi 0 (fx 1)) 1 (fx 4)) 2 (fx 7))).2) 0)) 4 (((z5_norm_3_3 (vp_updL (vp_updL (vp_updL fi 0 (fx 1)) 1 (fx 4)) 2 (fx 7))).2) 1)), kJ mI cJ 3 ((z5_norm_3_3 (vp_updL (vp_updL (vp_updL fi 0 (fx 1)) 1 (fx 4)) 2 (fx 7))).2)] H := hP
  have hD : va_D A [kM o mP mL mC mN mF mR mD mV mX mA mK cm mT pm mU mH mI, kJ mX cJ 9 fx, kJ mT cJ 6 (vp_updL (vp_updL ft 3 (((z5_norm_3_3 (vp_updL (vp_updL (vp_updL fi 0 (fx 1)) 1 (fx 4)) 2 (fx 7))).2) 0)) 4 (((z5_norm_3_3 (vp_updL (vp_updL (vp_updL fi 0 (fx 1)) 1 (fx 4)) 2 (fx 7))).2) 1)), kJ mI cJ 3 ((z5_norm_3_3 (vp_updL (vp_updL (vp_updL fi 0 (fx 1)) 1 (fx 4)) 2 (fx 7))).2)] := hD
  refine lv_iinc (v := 2) (lv' := [(5, .int 2), (4, .int ((z5_norm_3_3 (vp_updL (vp_updL (vp_updL fi 0 (fx 1)) 1 (fx 4)) 2 (fx 7))).1)), (0, .ref o), (1, .int 1), (2, .int 1), (3, .int 3)]) hx hb dX5_putPart_70 hl (k := 0) rfl (by decide) (by decide) rfl (fun ls hl => ?_)
  refine lv_goto (tgt := 46) hx hb dX5_putPart_73 (by decide) ?_
  refine lv_iload hx hb dX5_putPart_46 (lv_at hl 0 rfl) ?_
  refine lv_iconst (v := 3) hx hb dX5_putPart_48 (by decide) ?_
  refine lv_icmp_ge (tgt := 76) hx hb dX5_putPart_49 (by decide) (fun h => absurd h (by decide)) (fun _ => ?_)
  refine lv_aload_n hx hb dX5_putPart_52 rfl (lv_at hl 2 rfl) ?_
  refine va_get (D := D) (ci := 5) (v := .ref mT) (C := RX5) (T := TX5) (N := 17) hx hb hts k_2 hown hK.1 hP 0 rfl rfl 12 (by decide) k_4 (fun _ h9 => h9) rfl dX5_putPart_53 ?_
  refine lv_iconst (v := 3) hx hb dX5_putPart_56 (by decide) ?_
  refine lv_iload_n hx hb dX5_putPart_57 rfl (lv_at hl 3 rfl) ?_
  refine lv_imul hx hb dX5_putPart_58 ?_
  refine lv_eqi (v := 3) (by decide) ?_
  refine lv_iload hx hb dX5_putPart_59 (lv_at hl 0 rfl) ?_
  refine lv_iadd hx hb dX5_putPart_61 ?_
  refine lv_eqi (v := 5) (by decide) ?_
  refine lv_aload_n hx hb dX5_putPart_62 rfl (lv_at hl 2 rfl) ?_
  refine va_get (D := D) (ci := 5) (v := .ref mI) (C := RX5) (T := TX5) (N := 17) hx hb hts k_2 hown hK.1 hP 0 rfl rfl 16 (by decide) k_1 (fun _ h9 => h9) rfl dX5_putPart_63 ?_
  refine lv_iload hx hb dX5_putPart_66 (lv_at hl 0 rfl) ?_
  refine ld_l hx hb hK.1 hP 3 1 rfl rfl (ix_lit (by decide)) 2 (by decide) (v := ((z5_norm_3_3 (vp_updL (vp_updL (vp_updL fi 0 (fx 1)) 1 (fx 4)) 2 (fx 7))).2) 2) rfl dX5_putPart_68 ?_
  refine st_l hx hb hK.1 hP hD hS 2 1 rfl rfl (ix_lit (by decide)) 5 (by decide) dX5_putPart_69 (fun H locs hP hD hS => ?_)
  have hP : va_P D vwCl [kM o mP mL mC mN mF mR mD mV mX mA mK cm mT pm mU mH mI, kJ mX cJ 9 fx, kJ mT cJ 6 (vp_updL (vp_updL (vp_updL ft 3 (((z5_norm_3_3 (vp_updL (vp_updL (vp_updL fi 0 (fx 1)) 1 (fx 4)) 2 (fx 7))).2) 0)) 4 (((z5_norm_3_3 (vp_updL (vp_updL (vp_updL fi 0 (fx 1)) 1 (fx 4)) 2 (fx 7))).2) 1)) 5 (((z5_norm_3_3 (vp_updL (vp_updL (vp_updL fi 0 (fx 1)) 1 (fx 4)) 2 (fx 7))).2) 2)), kJ mI cJ 3 ((z5_norm_3_3 (vp_updL (vp_updL (vp_updL fi 0 (fx 1)) 1 (fx 4)) 2 (fx 7))).2)] H := hP
  have hD : va_D A [kM o mP mL mC mN mF mR mD mV mX mA mK cm mT pm mU mH mI, kJ mX cJ 9 fx, kJ mT cJ 6 (vp_updL (vp_updL (vp_updL ft 3 (((z5_norm_3_3 (vp_updL (vp_updL (vp_updL fi 0 (fx 1)) 1 (fx 4)) 2 (fx 7))).2) 0)) 4 (((z5_norm_3_3 (vp_updL (vp_updL (vp_updL fi 0 (fx 1)) 1 (fx 4)) 2 (fx 7))).2) 1)) 5 (((z5_norm_3_3 (vp_updL (vp_updL (vp_updL fi 0 (fx 1)) 1 (fx 4)) 2 (fx 7))).2) 2)), kJ mI cJ 3 ((z5_norm_3_3 (vp_updL (vp_updL (vp_updL fi 0 (fx 1)) 1 (fx 4)) 2 (fx 7))).2)] := hD
  refine lv_iinc (v := 3) (lv' := [(5, .int 3), (4, .int ((z5_norm_3_3 (vp_updL (vp_updL (vp_updL fi 0 (fx 1)) 1 (fx 4)) 2 (fx 7))).1)), (0, .ref o), (1, .int 1), (2, .int 1), (3, .int 3)]) hx hb dX5_putPart_70 hl (k := 0) rfl (by decide) (by decide) rfl (fun ls hl => ?_)
  refine lv_goto (tgt := 46) hx hb dX5_putPart_73 (by decide) ?_
  refine lv_iload hx hb dX5_putPart_46 (lv_at hl 0 rfl) ?_
  refine lv_iconst (v := 3) hx hb dX5_putPart_48 (by decide) ?_
  refine lv_icmp_ge (tgt := 76) hx hb dX5_putPart_49 (by decide) (fun _ => ?_) (fun h => absurd (by decide) h)
  have he_0 : z5_putPart_1_1_3_f2 fx ft fi = vp_updL (vp_updL (vp_updL ft 3 (((z5_norm_3_3 (vp_updL (vp_updL (vp_updL fi 0 (fx 1)) 1 (fx 4)) 2 (fx 7))).2) 0)) 4 (((z5_norm_3_3 (vp_updL (vp_updL (vp_updL fi 0 (fx 1)) 1 (fx 4)) 2 (fx 7))).2) 1)) 5 (((z5_norm_3_3 (vp_updL (vp_updL (vp_updL fi 0 (fx 1)) 1 (fx 4)) 2 (fx 7))).2) 2) := by delta z5_putPart_1_1_3_f2; rfl
  have he_1 : z5_putPart_1_1_3_f3 fx fi = (z5_norm_3_3 (vp_updL (vp_updL (vp_updL fi 0 (fx 1)) 1 (fx 4)) 2 (fx 7))).2 := by delta z5_putPart_1_1_3_f3; rfl
  exact rt_v (w1 := fun uu : Unit => [kM o mP mL mC mN mF mR mD mV mX mA mK cm mT pm mU mH mI, kJ mX cJ 9 fx, kJ mT cJ 6 (z5_putPart_1_1_3_f2 fx ft fi), kJ mI cJ 3 (z5_putPart_1_1_3_f3 fx fi)]) hx hb hr hlk hS dX5_putPart_76 (()) trivial (by rw [he_0, he_1]; exact hP) (by rw [he_0, he_1]; exact hD)
def z5_putPart_1_2_3_f2 (fx : Nat → Int64) (ft : Nat → Int64) (fi : Nat → Int64) : Nat → Int64 := vp_updL (vp_updL (vp_updL ft 3 (((z5_norm_3_3 (vp_updL (vp_updL (vp_updL fi 0 (fx 2)) 1 (fx 5)) 2 (fx 8))).2) 0)) 4 (((z5_norm_3_3 (vp_updL (vp_updL (vp_updL fi 0 (fx 2)) 1 (fx 5)) 2 (fx 8))).2) 1)) 5 (((z5_norm_3_3 (vp_updL (vp_updL (vp_updL fi 0 (fx 2)) 1 (fx 5)) 2 (fx 8))).2) 2)
def z5_putPart_1_2_3_f3 (fx : Nat → Int64) (fi : Nat → Int64) : Nat → Int64 := (z5_norm_3_3 (vp_updL (vp_updL (vp_updL fi 0 (fx 2)) 1 (fx 5)) 2 (fx 8))).2
set_option maxHeartbeats 4000000 in
set_option maxRecDepth 100000 in
/-- X5.putPart -/
theorem c_X5_putPart_1_2_3 (l : Launch) (D : va_G) (cI cJ : ClassId) (o : Nat) (mP : Nat) (mL : Nat) (mC : Nat) (mN : Nat) (mF : Nat) (mR : Nat) (mD : Nat) (mV : Nat) (mX : Nat) (mA : Nat) (mK : Nat) (mT : Nat) (mU : Nat) (mH : Nat) (mI : Nat) (cm : Int32) (pm : Int32) (fx : Nat → Int64) (ft : Nat → Int64) (fi : Nat → Int64) : mw_C l yX5_putPart wsX5_putPart ({ frames := 2, cells := 0, slots := 0, locals := 54 }) D cI cJ [.ref o, .int 1, .int 2, .int 3] [kM o mP mL mC mN mF mR mD mV mX mA mK cm mT pm mU mH mI, kJ mX cJ 9 fx, kJ mT cJ 6 ft, kJ mI cJ 3 fi] (qe_v (fun _ : Unit => True) (fun uu => [kM o mP mL mC mN mF mR mD mV mX mA mK cm mT pm mU mH mI, kJ mX cJ 9 fx, kJ mT cJ 6 (z5_putPart_1_2_3_f2 fx ft fi), kJ mI cJ 3 (z5_putPart_1_2_3_f3 fx fi)])) := by
  refine mw_in (cc := cX5_putPart) (lv := [(0, .ref o), (1, .int 1), (2, .int 2), (3, .int 3)]) (by decide) rfl (Nat.le_of_ble_eq_true rfl) rfl ?_
  intro pG eG sG mG below meth cG ls A hx hb hr hml hown hts hlk hin hP hK hD hA hS hl
  have hown : sG.vm.findClass RX5 = some mG.cls := hown
  have k_1 := hts (.fieldLink RX5 53 "ConicRowsModel" "one" "[J") (by decide +kernel)
  have k_2 : ∀ w ∈ wsX50, w ∈ wsX5_putPart := by decide +kernel
  have k_3 := hts (.fieldLink RX5 35 "ConicRowsModel" "matrix" "[J") (by decide +kernel)
  have k_4 := hts (.fieldLink RX5 44 "ConicRowsModel" "parts" "[J") (by decide +kernel)
  refine lv_iconst (v := 0) hx hb dX5_putPart_0 (by decide) ?_
  refine lv_istore (lv' := [(4, .int 0), (0, .ref o), (1, .int 1), (2, .int 2), (3, .int 3)]) hx hb dX5_putPart_1 hl (by decide) rfl (fun ls hl => ?_)
  refine lv_iload hx hb dX5_putPart_3 (lv_at hl 0 rfl) ?_
  refine lv_iconst (v := 3) hx hb dX5_putPart_5 (by decide) ?_
  refine lv_icmp_ge (tgt := 33) hx hb dX5_putPart_6 (by decide) (fun h => absurd h (by decide)) (fun _ => ?_)
  refine lv_aload_n hx hb dX5_putPart_9 rfl (lv_at hl 1 rfl) ?_
  refine va_get (D := D) (ci := 5) (v := .ref mI) (C := RX5) (T := TX5) (N := 17) hx hb hts k_2 hown hK.1 hP 0 rfl rfl 16 (by decide) k_1 (fun _ h9 => h9) rfl dX5_putPart_10 ?_
  refine lv_iload hx hb dX5_putPart_13 (lv_at hl 0 rfl) ?_
  refine lv_aload_n hx hb dX5_putPart_15 rfl (lv_at hl 1 rfl) ?_
  refine va_get (D := D) (ci := 5) (v := .ref mX) (C := RX5) (T := TX5) (N := 17) hx hb hts k_2 hown hK.1 hP 0 rfl rfl 8 (by decide) k_3 (fun _ h9 => h9) rfl dX5_putPart_16 ?_
  refine lv_iload_n hx hb dX5_putPart_19 rfl (lv_at hl 3 rfl) ?_
  refine lv_iload_n hx hb dX5_putPart_20 rfl (lv_at hl 4 rfl) ?_
  refine lv_iload hx hb dX5_putPart_21 (lv_at hl 0 rfl) ?_
  refine lv_imul hx hb dX5_putPart_23 ?_
  refine lv_eqi (v := 0) (by decide) ?_
  refine lv_iadd hx hb dX5_putPart_24 ?_
  refine lv_eqi (v := 2) (by decide) ?_
  refine ld_l hx hb hK.1 hP 1 1 rfl rfl (ix_lit (by decide)) 2 (by decide) (v := fx 2) rfl dX5_putPart_25 ?_
  refine st_l hx hb hK.1 hP hD hS 3 1 rfl rfl (ix_lit (by decide)) 0 (by decide) dX5_putPart_26 (fun H locs hP hD hS => ?_)
  have hP : va_P D vwCl [kM o mP mL mC mN mF mR mD mV mX mA mK cm mT pm mU mH mI, kJ mX cJ 9 fx, kJ mT cJ 6 ft, kJ mI cJ 3 (vp_updL fi 0 (fx 2))] H := hP
  have hD : va_D A [kM o mP mL mC mN mF mR mD mV mX mA mK cm mT pm mU mH mI, kJ mX cJ 9 fx, kJ mT cJ 6 ft, kJ mI cJ 3 (vp_updL fi 0 (fx 2))] := hD
  refine lv_iinc (v := 1) (lv' := [(4, .int 1), (0, .ref o), (1, .int 1), (2, .int 2), (3, .int 3)]) hx hb dX5_putPart_27 hl (k := 0) rfl (by decide) (by decide) rfl (fun ls hl => ?_)
  refine lv_goto (tgt := 3) hx hb dX5_putPart_30 (by decide) ?_
  refine lv_iload hx hb dX5_putPart_3 (lv_at hl 0 rfl) ?_
  refine lv_iconst (v := 3) hx hb dX5_putPart_5 (by decide) ?_
  refine lv_icmp_ge (tgt := 33) hx hb dX5_putPart_6 (by decide) (fun h => absurd h (by decide)) (fun _ => ?_)
  refine lv_aload_n hx hb dX5_putPart_9 rfl (lv_at hl 1 rfl) ?_
  refine va_get (D := D) (ci := 5) (v := .ref mI) (C := RX5) (T := TX5) (N := 17) hx hb hts k_2 hown hK.1 hP 0 rfl rfl 16 (by decide) k_1 (fun _ h9 => h9) rfl dX5_putPart_10 ?_
  refine lv_iload hx hb dX5_putPart_13 (lv_at hl 0 rfl) ?_
  refine lv_aload_n hx hb dX5_putPart_15 rfl (lv_at hl 1 rfl) ?_
  refine va_get (D := D) (ci := 5) (v := .ref mX) (C := RX5) (T := TX5) (N := 17) hx hb hts k_2 hown hK.1 hP 0 rfl rfl 8 (by decide) k_3 (fun _ h9 => h9) rfl dX5_putPart_16 ?_
  refine lv_iload_n hx hb dX5_putPart_19 rfl (lv_at hl 3 rfl) ?_
  refine lv_iload_n hx hb dX5_putPart_20 rfl (lv_at hl 4 rfl) ?_
  refine lv_iload hx hb dX5_putPart_21 (lv_at hl 0 rfl) ?_
  refine lv_imul hx hb dX5_putPart_23 ?_
  refine lv_eqi (v := 3) (by decide) ?_
  refine lv_iadd hx hb dX5_putPart_24 ?_
  refine lv_eqi (v := 5) (by decide) ?_
  refine ld_l hx hb hK.1 hP 1 1 rfl rfl (ix_lit (by decide)) 5 (by decide) (v := fx 5) rfl dX5_putPart_25 ?_
  refine st_l hx hb hK.1 hP hD hS 3 1 rfl rfl (ix_lit (by decide)) 1 (by decide) dX5_putPart_26 (fun H locs hP hD hS => ?_)
  have hP : va_P D vwCl [kM o mP mL mC mN mF mR mD mV mX mA mK cm mT pm mU mH mI, kJ mX cJ 9 fx, kJ mT cJ 6 ft, kJ mI cJ 3 (vp_updL (vp_updL fi 0 (fx 2)) 1 (fx 5))] H := hP
  have hD : va_D A [kM o mP mL mC mN mF mR mD mV mX mA mK cm mT pm mU mH mI, kJ mX cJ 9 fx, kJ mT cJ 6 ft, kJ mI cJ 3 (vp_updL (vp_updL fi 0 (fx 2)) 1 (fx 5))] := hD
  refine lv_iinc (v := 2) (lv' := [(4, .int 2), (0, .ref o), (1, .int 1), (2, .int 2), (3, .int 3)]) hx hb dX5_putPart_27 hl (k := 0) rfl (by decide) (by decide) rfl (fun ls hl => ?_)
  refine lv_goto (tgt := 3) hx hb dX5_putPart_30 (by decide) ?_
  refine lv_iload hx hb dX5_putPart_3 (lv_at hl 0 rfl) ?_
  refine lv_iconst (v := 3) hx hb dX5_putPart_5 (by decide) ?_
  refine lv_icmp_ge (tgt := 33) hx hb dX5_putPart_6 (by decide) (fun h => absurd h (by decide)) (fun _ => ?_)
  refine lv_aload_n hx hb dX5_putPart_9 rfl (lv_at hl 1 rfl) ?_
  refine va_get (D := D) (ci := 5) (v := .ref mI) (C := RX5) (T := TX5) (N := 17) hx hb hts k_2 hown hK.1 hP 0 rfl rfl 16 (by decide) k_1 (fun _ h9 => h9) rfl dX5_putPart_10 ?_
  refine lv_iload hx hb dX5_putPart_13 (lv_at hl 0 rfl) ?_
  refine lv_aload_n hx hb dX5_putPart_15 rfl (lv_at hl 1 rfl) ?_
  refine va_get (D := D) (ci := 5) (v := .ref mX) (C := RX5) (T := TX5) (N := 17) hx hb hts k_2 hown hK.1 hP 0 rfl rfl 8 (by decide) k_3 (fun _ h9 => h9) rfl dX5_putPart_16 ?_
  refine lv_iload_n hx hb dX5_putPart_19 rfl (lv_at hl 3 rfl) ?_
  refine lv_iload_n hx hb dX5_putPart_20 rfl (lv_at hl 4 rfl) ?_
  refine lv_iload hx hb dX5_putPart_21 (lv_at hl 0 rfl) ?_
  refine lv_imul hx hb dX5_putPart_23 ?_
  refine lv_eqi (v := 6) (by decide) ?_
  refine lv_iadd hx hb dX5_putPart_24 ?_
  refine lv_eqi (v := 8) (by decide) ?_
  refine ld_l hx hb hK.1 hP 1 1 rfl rfl (ix_lit (by decide)) 8 (by decide) (v := fx 8) rfl dX5_putPart_25 ?_
  refine st_l hx hb hK.1 hP hD hS 3 1 rfl rfl (ix_lit (by decide)) 2 (by decide) dX5_putPart_26 (fun H locs hP hD hS => ?_)
  have hP : va_P D vwCl [kM o mP mL mC mN mF mR mD mV mX mA mK cm mT pm mU mH mI, kJ mX cJ 9 fx, kJ mT cJ 6 ft, kJ mI cJ 3 (vp_updL (vp_updL (vp_updL fi 0 (fx 2)) 1 (fx 5)) 2 (fx 8))] H := hP
  have hD : va_D A [kM o mP mL mC mN mF mR mD mV mX mA mK cm mT pm mU mH mI, kJ mX cJ 9 fx, kJ mT cJ 6 ft, kJ mI cJ 3 (vp_updL (vp_updL (vp_updL fi 0 (fx 2)) 1 (fx 5)) 2 (fx 8))] := hD
  refine lv_iinc (v := 3) (lv' := [(4, .int 3), (0, .ref o), (1, .int 1), (2, .int 2), (3, .int 3)]) hx hb dX5_putPart_27 hl (k := 0) rfl (by decide) (by decide) rfl (fun ls hl => ?_)
  refine lv_goto (tgt := 3) hx hb dX5_putPart_30 (by decide) ?_
  refine lv_iload hx hb dX5_putPart_3 (lv_at hl 0 rfl) ?_
  refine lv_iconst (v := 3) hx hb dX5_putPart_5 (by decide) ?_
  refine lv_icmp_ge (tgt := 33) hx hb dX5_putPart_6 (by decide) (fun _ => ?_) (fun h => absurd (by decide) h)
  refine lv_aload_n hx hb dX5_putPart_33 rfl (lv_at hl 1 rfl) ?_
  refine va_get (D := D) (ci := 5) (v := .ref mI) (C := RX5) (T := TX5) (N := 17) hx hb hts k_2 hown hK.1 hP 0 rfl rfl 16 (by decide) k_1 (fun _ h9 => h9) rfl dX5_putPart_34 ?_
  refine lv_iconst (v := 3) hx hb dX5_putPart_37 (by decide) ?_
  have hPc := hP.sub (ws' := [kJ mI cJ 3 (vp_updL (vp_updL (vp_updL fi 0 (fx 2)) 1 (fx 5)) 2 (fx 8))]) [3] rfl
  have hDc := hD.sub (ws' := [kJ mI cJ 3 (vp_updL (vp_updL (vp_updL fi 0 (fx 2)) 1 (fx 5)) 2 (fx 8))]) [3] (by decide) rfl
  refine cl_i (wc := [kJ mI cJ 3 (vp_updL (vp_updL (vp_updL fi 0 (fx 2)) 1 (fx 5)) 2 (fx 8))]) (wr := [kM o mP mL mC mN mF mR mD mV mX mA mK cm mT pm mU mH mI, kJ mX cJ 9 fx, kJ mT cJ 6 ft]) (w1 := fun uu : Unit => [kJ mI cJ 3 ((z5_norm_3_3 (vp_updL (vp_updL (vp_updL fi 0 (fx 2)) 1 (fx 5)) 2 (fx 8))).2)]) (wn := fun uu : Unit => [kM o mP mL mC mN mF mR mD mV mX mA mK cm mT pm mU mH mI, kJ mX cJ 9 fx, kJ mT cJ 6 ft, kJ mI cJ 3 ((z5_norm_3_3 (vp_updL (vp_updL (vp_updL fi 0 (fx 2)) 1 (fx 5)) 2 (fx 8))).2)]) (va_runS (As := [.ref mI, .int 3]) (rest := []) ⟨hx, hb, hml, hown, hts⟩ (c_X5_norm_3_3 l D cI cJ mI (vp_updL (vp_updL (vp_updL fi 0 (fx 2)) 1 (fx 5)) 2 (fx 8)) _) (va_cwS 2 hts gX5_putPart_X5_norm rfl rfl rfl (by decide +kernel) ⟨Nat.le_of_ble_eq_true rfl, Nat.le_of_ble_eq_true rfl⟩) ⟨gd_blP, gd_prP hPc hK hDc⟩ rfl rfl hl.1 rfl (lv_room (Nat.le_of_ble_eq_true rfl)) dX5_putPart_38 ⟨Nat.zero_le _, Nat.zero_le _⟩) hP hD hS hA [3] [0, 1, 2] rfl rfl (by decide) (by decide) [0, 1, 2, 3] (by decide) (fun _ => rfl) (fun r_38 uG H locs hw hP hD hS => ?_)
  have hP : va_P D vwCl [kM o mP mL mC mN mF mR mD mV mX mA mK cm mT pm mU mH mI, kJ mX cJ 9 fx, kJ mT cJ 6 ft, kJ mI cJ 3 ((z5_norm_3_3 (vp_updL (vp_updL (vp_updL fi 0 (fx 2)) 1 (fx 5)) 2 (fx 8))).2)] H := hP
  have hD : va_D A [kM o mP mL mC mN mF mR mD mV mX mA mK cm mT pm mU mH mI, kJ mX cJ 9 fx, kJ mT cJ 6 ft, kJ mI cJ 3 ((z5_norm_3_3 (vp_updL (vp_updL (vp_updL fi 0 (fx 2)) 1 (fx 5)) 2 (fx 8))).2)] := hD
  subst hw
  clear hPc hDc
  refine lv_istore (lv' := [(4, .int ((z5_norm_3_3 (vp_updL (vp_updL (vp_updL fi 0 (fx 2)) 1 (fx 5)) 2 (fx 8))).1)), (0, .ref o), (1, .int 1), (2, .int 2), (3, .int 3)]) hx hb dX5_putPart_41 hl (by decide) rfl (fun ls hl => ?_)
  refine lv_iconst (v := 0) hx hb dX5_putPart_43 (by decide) ?_
  refine lv_istore (lv' := [(5, .int 0), (4, .int ((z5_norm_3_3 (vp_updL (vp_updL (vp_updL fi 0 (fx 2)) 1 (fx 5)) 2 (fx 8))).1)), (0, .ref o), (1, .int 1), (2, .int 2), (3, .int 3)]) hx hb dX5_putPart_44 hl (by decide) rfl (fun ls hl => ?_)
  refine lv_iload hx hb dX5_putPart_46 (lv_at hl 0 rfl) ?_
  refine lv_iconst (v := 3) hx hb dX5_putPart_48 (by decide) ?_
  refine lv_icmp_ge (tgt := 76) hx hb dX5_putPart_49 (by decide) (fun h => absurd h (by decide)) (fun _ => ?_)
  refine lv_aload_n hx hb dX5_putPart_52 rfl (lv_at hl 2 rfl) ?_
  refine va_get (D := D) (ci := 5) (v := .ref mT) (C := RX5) (T := TX5) (N := 17) hx hb hts k_2 hown hK.1 hP 0 rfl rfl 12 (by decide) k_4 (fun _ h9 => h9) rfl dX5_putPart_53 ?_
  refine lv_iconst (v := 3) hx hb dX5_putPart_56 (by decide) ?_
  refine lv_iload_n hx hb dX5_putPart_57 rfl (lv_at hl 3 rfl) ?_
  refine lv_imul hx hb dX5_putPart_58 ?_
  refine lv_eqi (v := 3) (by decide) ?_
  refine lv_iload hx hb dX5_putPart_59 (lv_at hl 0 rfl) ?_
  refine lv_iadd hx hb dX5_putPart_61 ?_
  refine lv_eqi (v := 3) (by decide) ?_
  refine lv_aload_n hx hb dX5_putPart_62 rfl (lv_at hl 2 rfl) ?_
  refine va_get (D := D) (ci := 5) (v := .ref mI) (C := RX5) (T := TX5) (N := 17) hx hb hts k_2 hown hK.1 hP 0 rfl rfl 16 (by decide) k_1 (fun _ h9 => h9) rfl dX5_putPart_63 ?_
  refine lv_iload hx hb dX5_putPart_66 (lv_at hl 0 rfl) ?_
  refine ld_l hx hb hK.1 hP 3 1 rfl rfl (ix_lit (by decide)) 0 (by decide) (v := ((z5_norm_3_3 (vp_updL (vp_updL (vp_updL fi 0 (fx 2)) 1 (fx 5)) 2 (fx 8))).2) 0) rfl dX5_putPart_68 ?_
  refine st_l hx hb hK.1 hP hD hS 2 1 rfl rfl (ix_lit (by decide)) 3 (by decide) dX5_putPart_69 (fun H locs hP hD hS => ?_)
  have hP : va_P D vwCl [kM o mP mL mC mN mF mR mD mV mX mA mK cm mT pm mU mH mI, kJ mX cJ 9 fx, kJ mT cJ 6 (vp_updL ft 3 (((z5_norm_3_3 (vp_updL (vp_updL (vp_updL fi 0 (fx 2)) 1 (fx 5)) 2 (fx 8))).2) 0)), kJ mI cJ 3 ((z5_norm_3_3 (vp_updL (vp_updL (vp_updL fi 0 (fx 2)) 1 (fx 5)) 2 (fx 8))).2)] H := hP
  have hD : va_D A [kM o mP mL mC mN mF mR mD mV mX mA mK cm mT pm mU mH mI, kJ mX cJ 9 fx, kJ mT cJ 6 (vp_updL ft 3 (((z5_norm_3_3 (vp_updL (vp_updL (vp_updL fi 0 (fx 2)) 1 (fx 5)) 2 (fx 8))).2) 0)), kJ mI cJ 3 ((z5_norm_3_3 (vp_updL (vp_updL (vp_updL fi 0 (fx 2)) 1 (fx 5)) 2 (fx 8))).2)] := hD
  refine lv_iinc (v := 1) (lv' := [(5, .int 1), (4, .int ((z5_norm_3_3 (vp_updL (vp_updL (vp_updL fi 0 (fx 2)) 1 (fx 5)) 2 (fx 8))).1)), (0, .ref o), (1, .int 1), (2, .int 2), (3, .int 3)]) hx hb dX5_putPart_70 hl (k := 0) rfl (by decide) (by decide) rfl (fun ls hl => ?_)
  refine lv_goto (tgt := 46) hx hb dX5_putPart_73 (by decide) ?_
  refine lv_iload hx hb dX5_putPart_46 (lv_at hl 0 rfl) ?_
  refine lv_iconst (v := 3) hx hb dX5_putPart_48 (by decide) ?_
  refine lv_icmp_ge (tgt := 76) hx hb dX5_putPart_49 (by decide) (fun h => absurd h (by decide)) (fun _ => ?_)
  refine lv_aload_n hx hb dX5_putPart_52 rfl (lv_at hl 2 rfl) ?_
  refine va_get (D := D) (ci := 5) (v := .ref mT) (C := RX5) (T := TX5) (N := 17) hx hb hts k_2 hown hK.1 hP 0 rfl rfl 12 (by decide) k_4 (fun _ h9 => h9) rfl dX5_putPart_53 ?_
  refine lv_iconst (v := 3) hx hb dX5_putPart_56 (by decide) ?_
  refine lv_iload_n hx hb dX5_putPart_57 rfl (lv_at hl 3 rfl) ?_
  refine lv_imul hx hb dX5_putPart_58 ?_
  refine lv_eqi (v := 3) (by decide) ?_
  refine lv_iload hx hb dX5_putPart_59 (lv_at hl 0 rfl) ?_
  refine lv_iadd hx hb dX5_putPart_61 ?_
  refine lv_eqi (v := 4) (by decide) ?_
  refine lv_aload_n hx hb dX5_putPart_62 rfl (lv_at hl 2 rfl) ?_
  refine va_get (D := D) (ci := 5) (v := .ref mI) (C := RX5) (T := TX5) (N := 17) hx hb hts k_2 hown hK.1 hP 0 rfl rfl 16 (by decide) k_1 (fun _ h9 => h9) rfl dX5_putPart_63 ?_
  refine lv_iload hx hb dX5_putPart_66 (lv_at hl 0 rfl) ?_
  refine ld_l hx hb hK.1 hP 3 1 rfl rfl (ix_lit (by decide)) 1 (by decide) (v := ((z5_norm_3_3 (vp_updL (vp_updL (vp_updL fi 0 (fx 2)) 1 (fx 5)) 2 (fx 8))).2) 1) rfl dX5_putPart_68 ?_
  refine st_l hx hb hK.1 hP hD hS 2 1 rfl rfl (ix_lit (by decide)) 4 (by decide) dX5_putPart_69 (fun H locs hP hD hS => ?_)
  have hP : va_P D vwCl [kM o mP mL mC mN mF mR mD mV mX mA mK cm mT pm mU mH mI, kJ mX cJ 9 fx, kJ mT cJ 6 (vp_updL (vp_updL ft 3 (((z5_norm_3_3 (vp_updL (vp_updL (vp_updL fi 0 (fx 2)) 1 (fx 5)) 2 (fx 8))).2) 0)) 4 (((z5_norm_3_3 (vp_updL (vp_updL (vp_updL fi 0 (fx 2)) 1 (fx 5)) 2 (fx 8))).2) 1)), kJ mI cJ 3 ((z5_norm_3_3 (vp_updL (vp_updL (vp_updL fi 0 (fx 2)) 1 (fx 5)) 2 (fx 8))).2)] H := hP
  have hD : va_D A [kM o mP mL mC mN mF mR mD mV mX mA mK cm mT pm mU mH mI, kJ mX cJ 9 fx, kJ mT cJ 6 (vp_updL (vp_updL ft 3 (((z5_norm_3_3 (vp_updL (vp_updL (vp_updL fi 0 (fx 2)) 1 (fx 5)) 2 (fx 8))).2) 0)) 4 (((z5_norm_3_3 (vp_updL (vp_updL (vp_updL fi 0 (fx 2)) 1 (fx 5)) 2 (fx 8))).2) 1)), kJ mI cJ 3 ((z5_norm_3_3 (vp_updL (vp_updL (vp_updL fi 0 (fx 2)) 1 (fx 5)) 2 (fx 8))).2)] := hD
  refine lv_iinc (v := 2) (lv' := [(5, .int 2), (4, .int ((z5_norm_3_3 (vp_updL (vp_updL (vp_updL fi 0 (fx 2)) 1 (fx 5)) 2 (fx 8))).1)), (0, .ref o), (1, .int 1), (2, .int 2), (3, .int 3)]) hx hb dX5_putPart_70 hl (k := 0) rfl (by decide) (by decide) rfl (fun ls hl => ?_)
  refine lv_goto (tgt := 46) hx hb dX5_putPart_73 (by decide) ?_
  refine lv_iload hx hb dX5_putPart_46 (lv_at hl 0 rfl) ?_
  refine lv_iconst (v := 3) hx hb dX5_putPart_48 (by decide) ?_
  refine lv_icmp_ge (tgt := 76) hx hb dX5_putPart_49 (by decide) (fun h => absurd h (by decide)) (fun _ => ?_)
  refine lv_aload_n hx hb dX5_putPart_52 rfl (lv_at hl 2 rfl) ?_
  refine va_get (D := D) (ci := 5) (v := .ref mT) (C := RX5) (T := TX5) (N := 17) hx hb hts k_2 hown hK.1 hP 0 rfl rfl 12 (by decide) k_4 (fun _ h9 => h9) rfl dX5_putPart_53 ?_
  refine lv_iconst (v := 3) hx hb dX5_putPart_56 (by decide) ?_
  refine lv_iload_n hx hb dX5_putPart_57 rfl (lv_at hl 3 rfl) ?_
  refine lv_imul hx hb dX5_putPart_58 ?_
  refine lv_eqi (v := 3) (by decide) ?_
  refine lv_iload hx hb dX5_putPart_59 (lv_at hl 0 rfl) ?_
  refine lv_iadd hx hb dX5_putPart_61 ?_
  refine lv_eqi (v := 5) (by decide) ?_
  refine lv_aload_n hx hb dX5_putPart_62 rfl (lv_at hl 2 rfl) ?_
  refine va_get (D := D) (ci := 5) (v := .ref mI) (C := RX5) (T := TX5) (N := 17) hx hb hts k_2 hown hK.1 hP 0 rfl rfl 16 (by decide) k_1 (fun _ h9 => h9) rfl dX5_putPart_63 ?_
  refine lv_iload hx hb dX5_putPart_66 (lv_at hl 0 rfl) ?_
  refine ld_l hx hb hK.1 hP 3 1 rfl rfl (ix_lit (by decide)) 2 (by decide) (v := ((z5_norm_3_3 (vp_updL (vp_updL (vp_updL fi 0 (fx 2)) 1 (fx 5)) 2 (fx 8))).2) 2) rfl dX5_putPart_68 ?_
  refine st_l hx hb hK.1 hP hD hS 2 1 rfl rfl (ix_lit (by decide)) 5 (by decide) dX5_putPart_69 (fun H locs hP hD hS => ?_)
  have hP : va_P D vwCl [kM o mP mL mC mN mF mR mD mV mX mA mK cm mT pm mU mH mI, kJ mX cJ 9 fx, kJ mT cJ 6 (vp_updL (vp_updL (vp_updL ft 3 (((z5_norm_3_3 (vp_updL (vp_updL (vp_updL fi 0 (fx 2)) 1 (fx 5)) 2 (fx 8))).2) 0)) 4 (((z5_norm_3_3 (vp_updL (vp_updL (vp_updL fi 0 (fx 2)) 1 (fx 5)) 2 (fx 8))).2) 1)) 5 (((z5_norm_3_3 (vp_updL (vp_updL (vp_updL fi 0 (fx 2)) 1 (fx 5)) 2 (fx 8))).2) 2)), kJ mI cJ 3 ((z5_norm_3_3 (vp_updL (vp_updL (vp_updL fi 0 (fx 2)) 1 (fx 5)) 2 (fx 8))).2)] H := hP
  have hD : va_D A [kM o mP mL mC mN mF mR mD mV mX mA mK cm mT pm mU mH mI, kJ mX cJ 9 fx, kJ mT cJ 6 (vp_updL (vp_updL (vp_updL ft 3 (((z5_norm_3_3 (vp_updL (vp_updL (vp_updL fi 0 (fx 2)) 1 (fx 5)) 2 (fx 8))).2) 0)) 4 (((z5_norm_3_3 (vp_updL (vp_updL (vp_updL fi 0 (fx 2)) 1 (fx 5)) 2 (fx 8))).2) 1)) 5 (((z5_norm_3_3 (vp_updL (vp_updL (vp_updL fi 0 (fx 2)) 1 (fx 5)) 2 (fx 8))).2) 2)), kJ mI cJ 3 ((z5_norm_3_3 (vp_updL (vp_updL (vp_updL fi 0 (fx 2)) 1 (fx 5)) 2 (fx 8))).2)] := hD
  refine lv_iinc (v := 3) (lv' := [(5, .int 3), (4, .int ((z5_norm_3_3 (vp_updL (vp_updL (vp_updL fi 0 (fx 2)) 1 (fx 5)) 2 (fx 8))).1)), (0, .ref o), (1, .int 1), (2, .int 2), (3, .int 3)]) hx hb dX5_putPart_70 hl (k := 0) rfl (by decide) (by decide) rfl (fun ls hl => ?_)
  refine lv_goto (tgt := 46) hx hb dX5_putPart_73 (by decide) ?_
  refine lv_iload hx hb dX5_putPart_46 (lv_at hl 0 rfl) ?_
  refine lv_iconst (v := 3) hx hb dX5_putPart_48 (by decide) ?_
  refine lv_icmp_ge (tgt := 76) hx hb dX5_putPart_49 (by decide) (fun _ => ?_) (fun h => absurd (by decide) h)
  have he_0 : z5_putPart_1_2_3_f2 fx ft fi = vp_updL (vp_updL (vp_updL ft 3 (((z5_norm_3_3 (vp_updL (vp_updL (vp_updL fi 0 (fx 2)) 1 (fx 5)) 2 (fx 8))).2) 0)) 4 (((z5_norm_3_3 (vp_updL (vp_updL (vp_updL fi 0 (fx 2)) 1 (fx 5)) 2 (fx 8))).2) 1)) 5 (((z5_norm_3_3 (vp_updL (vp_updL (vp_updL fi 0 (fx 2)) 1 (fx 5)) 2 (fx 8))).2) 2) := by delta z5_putPart_1_2_3_f2; rfl
  have he_1 : z5_putPart_1_2_3_f3 fx fi = (z5_norm_3_3 (vp_updL (vp_updL (vp_updL fi 0 (fx 2)) 1 (fx 5)) 2 (fx 8))).2 := by delta z5_putPart_1_2_3_f3; rfl
  exact rt_v (w1 := fun uu : Unit => [kM o mP mL mC mN mF mR mD mV mX mA mK cm mT pm mU mH mI, kJ mX cJ 9 fx, kJ mT cJ 6 (z5_putPart_1_2_3_f2 fx ft fi), kJ mI cJ 3 (z5_putPart_1_2_3_f3 fx fi)]) hx hb hr hlk hS dX5_putPart_76 (()) trivial (by rw [he_0, he_1]; exact hP) (by rw [he_0, he_1]; exact hD)
