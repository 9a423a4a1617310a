-- laid by wip/whole/gen
def z5_mix_f1 (ff : Nat → Int64) (gc : Nat → Int32) (c : Int32) (d : Int32) (u : Int64) (v : Int64) : Nat → Int64 := vp_updL (vp_updL (vp_updL (vp_updL (vp_updL (vp_updL ff 0 ((u * ((gc (((6 * c) + 0).toNatClampNeg)).toInt64)) + (v * ((gc (((6 * d) + 0).toNatClampNeg)).toInt64)))) 1 ((u * ((gc (((6 * c) + 1).toNatClampNeg)).toInt64)) + (v * ((gc (((6 * d) + 1).toNatClampNeg)).toInt64)))) 2 ((u * ((gc (((6 * c) + 2).toNatClampNeg)).toInt64)) + (v * ((gc (((6 * d) + 2).toNatClampNeg)).toInt64)))) 3 ((u * ((gc (((6 * c) + 3).toNatClampNeg)).toInt64)) + (v * ((gc (((6 * d) + 3).toNatClampNeg)).toInt64)))) 4 ((u * ((gc (((6 * c) + 4).toNatClampNeg)).toInt64)) + (v * ((gc (((6 * d) + 4).toNatClampNeg)).toInt64)))) 5 ((u * ((gc (((6 * c) + 5).toNatClampNeg)).toInt64)) + (v * ((gc (((6 * d) + 5).toNatClampNeg)).toInt64)))
set_option maxHeartbeats 4000000 in
set_option maxRecDepth 100000 in
/-- X5.mix -/
theorem c_X5_mix (l : Launch) (D : va_G) (cI cJ : ClassId) (o : Nat) (mP : Nat) (mL : Nat) (mC : Nat) (mN : Nat) (mF : Nat) (mR : Nat) (mD : Nat) (mV : Nat) (mX : Nat) (mA : Nat) (mK : Nat) (mT : Nat) (mU : Nat) (mH : Nat) (mI : Nat) (cm : Int32) (pm : Int32) (ff : Nat → Int64) (gc : Nat → Int32) (c : Int32) (d : Int32) (u : Int64) (v : Int64) (hc : ok_i c) (hd : ok_i d) : mw_C l yX5_mix wsX5_mix ({ frames := 0, cells := 0, slots := 0, locals := 0 }) D cI cJ [.ref o, .int c, .int d, .long u, .long v] [kM o mP mL mC mN mF mR mD mV mX mA mK cm mT pm mU mH mI, kJ mF cJ 6 ff, kA mC cI 360 gc] (qe_v (fun _ : Unit => True) (fun uu => [kM o mP mL mC mN mF mR mD mV mX mA mK cm mT pm mU mH mI, kJ mF cJ 6 (z5_mix_f1 ff gc c d u v), kA mC cI 360 gc])) := by
  refine mw_in (cc := cX5_mix) (lv := [(0, .ref o), (1, .int c), (2, .int d), (3, .long u), (5, .long v)]) (by decide) rfl (Nat.le_of_ble_eq_true rfl) rfl ?_
  intro pG eG sG mG below meth cG ls A hx hb hr hml hown hts hlk hin hP hK hD hA hS hl
  have hown : sG.vm.findClass RX5 = some mG.cls := hown
  have k_1 := hts (.fieldLink RX5 22 "ConicRowsModel" "fresh" "[J") (by decide +kernel)
  have k_2 : ∀ w ∈ wsX50, w ∈ wsX5_mix := by decide +kernel
  have k_3 := hts (.fieldLink RX5 16 "ConicRowsModel" "conics" "[I") (by decide +kernel)
  refine lv_iconst (v := 0) hx hb dX5_mix_0 (by decide) ?_
  refine lv_istore (lv' := [(7, .int 0), (0, .ref o), (1, .int c), (2, .int d), (3, .long u), (5, .long v)]) hx hb dX5_mix_1 hl (by decide) rfl (fun ls hl => ?_)
  refine lv_iload hx hb dX5_mix_3 (lv_at hl 0 rfl) ?_
  refine lv_bipush (v := 6) hx hb dX5_mix_5 (by decide) ?_
  refine lv_icmp_ge (tgt := 55) hx hb dX5_mix_7 (by decide) (fun h => absurd h (by decide)) (fun _ => ?_)
  refine lv_aload_n hx hb dX5_mix_10 rfl (lv_at hl 1 rfl) ?_
  refine va_get (D := D) (ci := 5) (v := .ref mF) (C := RX5) (T := TX5) (N := 17) hx hb hts k_2 hown hK.1 hP 0 rfl rfl 4 (by decide) k_1 (fun _ h9 => h9) rfl dX5_mix_11 ?_
  refine lv_iload hx hb dX5_mix_14 (lv_at hl 0 rfl) ?_
  refine lv_lload_n hx hb dX5_mix_16 rfl (lv_at hl 4 rfl) ?_
  refine lv_aload_n hx hb dX5_mix_17 rfl (lv_at hl 1 rfl) ?_
  refine va_get (D := D) (ci := 5) (v := .ref mC) (C := RX5) (T := TX5) (N := 17) hx hb hts k_2 hown hK.1 hP 0 rfl rfl 2 (by decide) k_3 (fun _ h9 => h9) rfl dX5_mix_18 ?_
  refine lv_bipush (v := 6) hx hb dX5_mix_21 (by decide) ?_
  refine lv_iload_n hx hb dX5_mix_23 rfl (lv_at hl 2 rfl) ?_
  refine lv_imul hx hb dX5_mix_24 ?_
  refine lv_iload hx hb dX5_mix_25 (lv_at hl 0 rfl) ?_
  refine lv_iadd hx hb dX5_mix_27 ?_
  refine ld_i hx hb hK.1 hP 2 0 rfl rfl (ix6l hc 0 (by decide)) (((6 * c) + 0).toNatClampNeg) rfl (v := gc (((6 * c) + 0).toNatClampNeg)) rfl dX5_mix_28 ?_
  refine lv_i2l hx hb dX5_mix_29 rfl ?_
  refine lv_lmul hx hb dX5_mix_30 ?_
  refine lv_lload hx hb dX5_mix_31 (lv_at hl 5 rfl) ?_
  refine lv_aload_n hx hb dX5_mix_33 rfl (lv_at hl 1 rfl) ?_
  refine va_get (D := D) (ci := 5) (v := .ref mC) (C := RX5) (T := TX5) (N := 17) hx hb hts k_2 hown hK.1 hP 0 rfl rfl 2 (by decide) k_3 (fun _ h9 => h9) rfl dX5_mix_34 ?_
  refine lv_bipush (v := 6) hx hb dX5_mix_37 (by decide) ?_
  refine lv_iload_n hx hb dX5_mix_39 rfl (lv_at hl 3 rfl) ?_
  refine lv_imul hx hb dX5_mix_40 ?_
  refine lv_iload hx hb dX5_mix_41 (lv_at hl 0 rfl) ?_
  refine lv_iadd hx hb dX5_mix_43 ?_
  refine ld_i hx hb hK.1 hP 2 0 rfl rfl (ix6l hd 0 (by decide)) (((6 * d) + 0).toNatClampNeg) rfl (v := gc (((6 * d) + 0).toNatClampNeg)) rfl dX5_mix_44 ?_
  refine lv_i2l hx hb dX5_mix_45 rfl ?_
  refine lv_lmul hx hb dX5_mix_46 ?_
  refine lv_ladd hx hb dX5_mix_47 ?_
  refine st_l hx hb hK.1 hP hD hS 1 1 rfl rfl (ix_lit (by decide)) 0 (by decide) dX5_mix_48 (fun H locs hP hD hS => ?_)
  have hP : va_P D vwCl [kM o mP mL mC mN mF mR mD mV mX mA mK cm mT pm mU mH mI, kJ mF cJ 6 (vp_updL ff 0 ((u * ((gc (((6 * c) + 0).toNatClampNeg)).toInt64)) + (v * ((gc (((6 * d) + 0).toNatClampNeg)).toInt64)))), kA mC cI 360 gc] H := hP
  have hD : va_D A [kM o mP mL mC mN mF mR mD mV mX mA mK cm mT pm mU mH mI, kJ mF cJ 6 (vp_updL ff 0 ((u * ((gc (((6 * c) + 0).toNatClampNeg)).toInt64)) + (v * ((gc (((6 * d) + 0).toNatClampNeg)).toInt64)))), kA mC cI 360 gc] := hD
  refine lv_iinc (v := 1) (lv' := [(7, .int 1), (0, .ref o), (1, .int c), (2, .int d), (3, .long u), (5, .long v)]) hx hb dX5_mix_49 hl (k := 0) rfl (by decide) (by decide) rfl (fun ls hl => ?_)
  refine lv_goto (tgt := 3) hx hb dX5_mix_52 (by decide) ?_
  refine lv_iload hx hb dX5_mix_3 (lv_at hl 0 rfl) ?_
  refine lv_bipush (v := 6) hx hb dX5_mix_5 (by decide) ?_
  refine lv_icmp_ge (tgt := 55) hx hb dX5_mix_7 (by decide) (fun h => absurd h (by decide)) (fun _ => ?_)
  refine lv_aload_n hx hb dX5_mix_10 rfl (lv_at hl 1 rfl) ?_
  refine va_get (D := D) (ci := 5) (v := .ref mF) (C := RX5) (T := TX5) (N := 17) hx hb hts k_2 hown hK.1 hP 0 rfl rfl 4 (by decide) k_1 (fun _ h9 => h9) rfl dX5_mix_11 ?_
  refine lv_iload hx hb dX5_mix_14 (lv_at hl 0 rfl) ?_
  refine lv_lload_n hx hb dX5_mix_16 rfl (lv_at hl 4 rfl) ?_
  refine lv_aload_n hx hb dX5_mix_17 rfl (lv_at hl 1 rfl) ?_
  refine va_get (D := D) (ci := 5) (v := .ref mC) (C := RX5) (T := TX5) (N := 17) hx hb hts k_2 hown hK.1 hP 0 rfl rfl 2 (by decide) k_3 (fun _ h9 => h9) rfl dX5_mix_18 ?_
  refine lv_bipush (v := 6) hx hb dX5_mix_21 (by decide) ?_
  refine lv_iload_n hx hb dX5_mix_23 rfl (lv_at hl 2 rfl) ?_
  refine lv_imul hx hb dX5_mix_24 ?_
  refine lv_iload hx hb dX5_mix_25 (lv_at hl 0 rfl) ?_
  refine lv_iadd hx hb dX5_mix_27 ?_
  refine ld_i hx hb hK.1 hP 2 0 rfl rfl (ix6l hc 1 (by decide)) (((6 * c) + 1).toNatClampNeg) rfl (v := gc (((6 * c) + 1).toNatClampNeg)) rfl dX5_mix_28 ?_
  refine lv_i2l hx hb dX5_mix_29 rfl ?_
  refine lv_lmul hx hb dX5_mix_30 ?_
  refine lv_lload hx hb dX5_mix_31 (lv_at hl 5 rfl) ?_
  refine lv_aload_n hx hb dX5_mix_33 rfl (lv_at hl 1 rfl) ?_
  refine va_get (D := D) (ci := 5) (v := .ref mC) (C := RX5) (T := TX5) (N := 17) hx hb hts k_2 hown hK.1 hP 0 rfl rfl 2 (by decide) k_3 (fun _ h9 => h9) rfl dX5_mix_34 ?_
  refine lv_bipush (v := 6) hx hb dX5_mix_37 (by decide) ?_
  refine lv_iload_n hx hb dX5_mix_39 rfl (lv_at hl 3 rfl) ?_
  refine lv_imul hx hb dX5_mix_40 ?_
  refine lv_iload hx hb dX5_mix_41 (lv_at hl 0 rfl) ?_
  refine lv_iadd hx hb dX5_mix_43 ?_
  refine ld_i hx hb hK.1 hP 2 0 rfl rfl (ix6l hd 1 (by decide)) (((6 * d) + 1).toNatClampNeg) rfl (v := gc (((6 * d) + 1).toNatClampNeg)) rfl dX5_mix_44 ?_
  refine lv_i2l hx hb dX5_mix_45 rfl ?_
  refine lv_lmul hx hb dX5_mix_46 ?_
  refine lv_ladd hx hb dX5_mix_47 ?_
  refine st_l hx hb hK.1 hP hD hS 1 1 rfl rfl (ix_lit (by decide)) 1 (by decide) dX5_mix_48 (fun H locs hP hD hS => ?_)
  have hP : va_P D vwCl [kM o mP mL mC mN mF mR mD mV mX mA mK cm mT pm mU mH mI, kJ mF cJ 6 (vp_updL (vp_updL ff 0 ((u * ((gc (((6 * c) + 0).toNatClampNeg)).toInt64)) + (v * ((gc (((6 * d) + 0).toNatClampNeg)).toInt64)))) 1 ((u * ((gc (((6 * c) + 1).toNatClampNeg)).toInt64)) + (v * ((gc (((6 * d) + 1).toNatClampNeg)).toInt64)))), kA mC cI 360 gc] H := hP
  have hD : va_D A [kM o mP mL mC mN mF mR mD mV mX mA mK cm mT pm mU mH mI, kJ mF cJ 6 (vp_updL (vp_updL ff 0 ((u * ((gc (((6 * c) + 0).toNatClampNeg)).toInt64)) + (v * ((gc (((6 * d) + 0).toNatClampNeg)).toInt64)))) 1 ((u * ((gc (((6 * c) + 1).toNatClampNeg)).toInt64)) + (v * ((gc (((6 * d) + 1).toNatClampNeg)).toInt64)))), kA mC cI 360 gc] := hD
  refine lv_iinc (v := 2) (lv' := [(7, .int 2), (0, .ref o), (1, .int c), (2, .int d), (3, .long u), (5, .long v)]) hx hb dX5_mix_49 hl (k := 0) rfl (by decide) (by decide) rfl (fun ls hl => ?_)
  refine lv_goto (tgt := 3) hx hb dX5_mix_52 (by decide) ?_
  refine lv_iload hx hb dX5_mix_3 (lv_at hl 0 rfl) ?_
  refine lv_bipush (v := 6) hx hb dX5_mix_5 (by decide) ?_
  refine lv_icmp_ge (tgt := 55) hx hb dX5_mix_7 (by decide) (fun h => absurd h (by decide)) (fun _ => ?_)
  refine lv_aload_n hx hb dX5_mix_10 rfl (lv_at hl 1 rfl) ?_
  refine va_get (D := D) (ci := 5) (v := .ref mF) (C := RX5) (T := TX5) (N := 17) hx hb hts k_2 hown hK.1 hP 0 rfl rfl 4 (by decide) k_1 (fun _ h9 => h9) rfl dX5_mix_11 ?_
  refine lv_iload hx hb dX5_mix_14 (lv_at hl 0 rfl) ?_
  refine lv_lload_n hx hb dX5_mix_16 rfl (lv_at hl 4 rfl) ?_
  refine lv_aload_n hx hb dX5_mix_17 rfl (lv_at hl 1 rfl) ?_
  refine va_get (D := D) (ci := 5) (v := .ref mC) (C := RX5) (T := TX5) (N := 17) hx hb hts k_2 hown hK.1 hP 0 rfl rfl 2 (by decide) k_3 (fun _ h9 => h9) rfl dX5_mix_18 ?_
  refine lv_bipush (v := 6) hx hb dX5_mix_21 (by decide) ?_
  refine lv_iload_n hx hb dX5_mix_23 rfl (lv_at hl 2 rfl) ?_
  refine lv_imul hx hb dX5_mix_24 ?_
  refine lv_iload hx hb dX5_mix_25 (lv_at hl 0 rfl) ?_
  refine lv_iadd hx hb dX5_mix_27 ?_
  refine ld_i hx hb hK.1 hP 2 0 rfl rfl (ix6l hc 2 (by decide)) (((6 * c) + 2).toNatClampNeg) rfl (v := gc (((6 * c) + 2).toNatClampNeg)) rfl dX5_mix_28 ?_
  refine lv_i2l hx hb dX5_mix_29 rfl ?_
  refine lv_lmul hx hb dX5_mix_30 ?_
  refine lv_lload hx hb dX5_mix_31 (lv_at hl 5 rfl) ?_
  refine lv_aload_n hx hb dX5_mix_33 rfl (lv_at hl 1 rfl) ?_
  refine va_get (D := D) (ci := 5) (v := .ref mC) (C := RX5) (T := TX5) (N := 17) hx hb hts k_2 hown hK.1 hP 0 rfl rfl 2 (by decide) k_3 (fun _ h9 => h9) rfl dX5_mix_34 ?_
  refine lv_bipush (v := 6) hx hb dX5_mix_37 (by decide) ?_
  refine lv_iload_n hx hb dX5_mix_39 rfl (lv_at hl 3 rfl) ?_
  refine lv_imul hx hb dX5_mix_40 ?_
  refine lv_iload hx hb dX5_mix_41 (lv_at hl 0 rfl) ?_
  refine lv_iadd hx hb dX5_mix_43 ?_
  refine ld_i hx hb hK.1 hP 2 0 rfl rfl (ix6l hd 2 (by decide)) (((6 * d) + 2).toNatClampNeg) rfl (v := gc (((6 * d) + 2).toNatClampNeg)) rfl dX5_mix_44 ?_
  refine lv_i2l hx hb dX5_mix_45 rfl ?_
  refine lv_lmul hx hb dX5_mix_46 ?_
  refine lv_ladd hx hb dX5_mix_47 ?_
  refine st_l hx hb hK.1 hP hD hS 1 1 rfl rfl (ix_lit (by decide)) 2 (by decide) dX5_mix_48 (fun H locs hP hD hS => ?_)
  have hP : va_P D vwCl [kM o mP mL mC mN mF mR mD mV mX mA mK cm mT pm mU mH mI, kJ mF cJ 6 (vp_updL (vp_updL (vp_updL ff 0 ((u * ((gc (((6 * c) + 0).toNatClampNeg)).toInt64)) + (v * ((gc (((6 * d) + 0).toNatClampNeg)).toInt64)))) 1 ((u * ((gc (((6 * c) + 1).toNatClampNeg)).toInt64)) + (v * ((gc (((6 * d) + 1).toNatClampNeg)).toInt64)))) 2 ((u * ((gc (((6 * c) + 2).toNatClampNeg)).toInt64)) + (v * ((gc (((6 * d) + 2).toNatClampNeg)).toInt64)))), kA mC cI 360 gc] H := hP
  have hD : va_D A [kM o mP mL mC mN mF mR mD mV mX mA mK cm mT pm mU mH mI, kJ mF cJ 6 (vp_updL (vp_updL (vp_updL ff 0 ((u * ((gc (((6 * c) + 0).toNatClampNeg)).toInt64)) + (v * ((gc (((6 * d) + 0).toNatClampNeg)).toInt64)))) 1 ((u * ((gc (((6 * c) + 1).toNatClampNeg)).toInt64)) + (v * ((gc (((6 * d) + 1).toNatClampNeg)).toInt64)))) 2 ((u * ((gc (((6 * c) + 2).toNatClampNeg)).toInt64)) + (v * ((gc (((6 * d) + 2).toNatClampNeg)).toInt64)))), kA mC cI 360 gc] := hD
  refine lv_iinc (v := 3) (lv' := [(7, .int 3), (0, .ref o), (1, .int c), (2, .int d), (3, .long u), (5, .long v)]) hx hb dX5_mix_49 hl (k := 0) rfl (by decide) (by decide) rfl (fun ls hl => ?_)
  refine lv_goto (tgt := 3) hx hb dX5_mix_52 (by decide) ?_
  refine lv_iload hx hb dX5_mix_3 (lv_at hl 0 rfl) ?_
  refine lv_bipush (v := 6) hx hb dX5_mix_5 (by decide) ?_
  refine lv_icmp_ge (tgt := 55) hx hb dX5_mix_7 (by decide) (fun h => absurd h (by decide)) (fun _ => ?_)
  refine lv_aload_n hx hb dX5_mix_10 rfl (lv_at hl 1 rfl) ?_
  refine va_get (D := D) (ci := 5) (v := .ref mF) (C := RX5) (T := TX5) (N := 17) hx hb hts k_2 hown hK.1 hP 0 rfl rfl 4 (by decide) k_1 (fun _ h9 => h9) rfl dX5_mix_11 ?_
  refine lv_iload hx hb dX5_mix_14 (lv_at hl 0 rfl) ?_
  refine lv_lload_n hx hb dX5_mix_16 rfl (lv_at hl 4 rfl) ?_
  refine lv_aload_n hx hb dX5_mix_17 rfl (lv_at hl 1 rfl) ?_
  refine va_get (D := D) (ci := 5) (v := .ref mC) (C := RX5) (T := TX5) (N := 17) hx hb hts k_2 hown hK.1 hP 0 rfl rfl 2 (by decide) k_3 (fun _ h9 => h9) rfl dX5_mix_18 ?_
  refine lv_bipush (v := 6) hx hb dX5_mix_21 (by decide) ?_
  refine lv_iload_n hx hb dX5_mix_23 rfl (lv_at hl 2 rfl) ?_
  refine lv_imul hx hb dX5_mix_24 ?_
  refine lv_iload hx hb dX5_mix_25 (lv_at hl 0 rfl) ?_
  refine lv_iadd hx hb dX5_mix_27 ?_
  refine ld_i hx hb hK.1 hP 2 0 rfl rfl (ix6l hc 3 (by decide)) (((6 * c) + 3).toNatClampNeg) rfl (v := gc (((6 * c) + 3).toNatClampNeg)) rfl dX5_mix_28 ?_
  refine lv_i2l hx hb dX5_mix_29 rfl ?_
  refine lv_lmul hx hb dX5_mix_30 ?_
  refine lv_lload hx hb dX5_mix_31 (lv_at hl 5 rfl) ?_
  refine lv_aload_n hx hb dX5_mix_33 rfl (lv_at hl 1 rfl) ?_
  refine va_get (D := D) (ci := 5) (v := .ref mC) (C := RX5) (T := TX5) (N := 17) hx hb hts k_2 hown hK.1 hP 0 rfl rfl 2 (by decide) k_3 (fun _ h9 => h9) rfl dX5_mix_34 ?_
  refine lv_bipush (v := 6) hx hb dX5_mix_37 (by decide) ?_
  refine lv_iload_n hx hb dX5_mix_39 rfl (lv_at hl 3 rfl) ?_
  refine lv_imul hx hb dX5_mix_40 ?_
  refine lv_iload hx hb dX5_mix_41 (lv_at hl 0 rfl) ?_
  refine lv_iadd hx hb dX5_mix_43 ?_
  refine ld_i hx hb hK.1 hP 2 0 rfl rfl (ix6l hd 3 (by decide)) (((6 * d) + 3).toNatClampNeg) rfl (v := gc (((6 * d) + 3).toNatClampNeg)) rfl dX5_mix_44 ?_
  refine lv_i2l hx hb dX5_mix_45 rfl ?_
  refine lv_lmul hx hb dX5_mix_46 ?_
  refine lv_ladd hx hb dX5_mix_47 ?_
  refine st_l hx hb hK.1 hP hD hS 1 1 rfl rfl (ix_lit (by decide)) 3 (by decide) dX5_mix_48 (fun H locs hP hD hS => ?_)
  have hP : va_P D vwCl [kM o mP mL mC mN mF mR mD mV mX mA mK cm mT pm mU mH mI, kJ mF cJ 6 (vp_updL (vp_updL (vp_updL (vp_updL ff 0 ((u * ((gc (((6 * c) + 0).toNatClampNeg)).toInt64)) + (v * ((gc (((6 * d) + 0).toNatClampNeg)).toInt64)))) 1 ((u * ((gc (((6 * c) + 1).toNatClampNeg)).toInt64)) + (v * ((gc (((6 * d) + 1).toNatClampNeg)).toInt64)))) 2 ((u * ((gc (((6 * c) + 2).toNatClampNeg)).toInt64)) + (v * ((gc (((6 * d) + 2).toNatClampNeg)).toInt64)))) 3 ((u * ((gc (((6 * c) + 3).toNatClampNeg)).toInt64)) + (v * ((gc (((6 * d) + 3).toNatClampNeg)).toInt64)))), kA mC cI 360 gc] H := hP
  have hD : va_D A [kM o mP mL mC mN mF mR mD mV mX mA mK cm mT pm mU mH mI, kJ mF cJ 6 (vp_updL (vp_updL (vp_updL (vp_updL ff 0 ((u * ((gc (((6 * c) + 0).toNatClampNeg)).toInt64)) + (v * ((gc (((6 * d) + 0).toNatClampNeg)).toInt64)))) 1 ((u * ((gc (((6 * c) + 1).toNatClampNeg)).toInt64)) + (v * ((gc (((6 * d) + 1).toNatClampNeg)).toInt64)))) 2 ((u * ((gc (((6 * c) + 2).toNatClampNeg)).toInt64)) + (v * ((gc (((6 * d) + 2).toNatClampNeg)).toInt64)))) 3 ((u * ((gc (((6 * c) + 3).toNatClampNeg)).toInt64)) + (v * ((gc (((6 * d) + 3).toNatClampNeg)).toInt64)))), kA mC cI 360 gc] := hD
  refine lv_iinc (v := 4) (lv' := [(7, .int 4), (0, .ref o), (1, .int c), (2, .int d), (3, .long u), (5, .long v)]) hx hb dX5_mix_49 hl (k := 0) rfl (by decide) (by decide) rfl (fun ls hl => ?_)
  refine lv_goto (tgt := 3) hx hb dX5_mix_52 (by decide) ?_
  refine lv_iload hx hb dX5_mix_3 (lv_at hl 0 rfl) ?_
  refine lv_bipush (v := 6) hx hb dX5_mix_5 (by decide) ?_
  refine lv_icmp_ge (tgt := 55) hx hb dX5_mix_7 (by decide) (fun h => absurd h (by decide)) (fun _ => ?_)
  refine lv_aload_n hx hb dX5_mix_10 rfl (lv_at hl 1 rfl) ?_
  refine va_get (D := D) (ci := 5) (v := .ref mF) (C := RX5) (T := TX5) (N := 17) hx hb hts k_2 hown hK.1 hP 0 rfl rfl 4 (by decide) k_1 (fun _ h9 => h9) rfl dX5_mix_11 ?_
  refine lv_iload hx hb dX5_mix_14 (lv_at hl 0 rfl) ?_
  refine lv_lload_n hx hb dX5_mix_16 rfl (lv_at hl 4 rfl) ?_
  refine lv_aload_n hx hb dX5_mix_17 rfl (lv_at hl 1 rfl) ?_
  refine va_get (D := D) (ci := 5) (v := .ref mC) (C := RX5) (T := TX5) (N := 17) hx hb hts k_2 hown hK.1 hP 0 rfl rfl 2 (by decide) k_3 (fun _ h9 => h9) rfl dX5_mix_18 ?_
  refine lv_bipush (v := 6) hx hb dX5_mix_21 (by decide) ?_
  refine lv_iload_n hx hb dX5_mix_23 rfl (lv_at hl 2 rfl) ?_
  refine lv_imul hx hb dX5_mix_24 ?_
  refine lv_iload hx hb dX5_mix_25 (lv_at hl 0 rfl) ?_
  refine lv_iadd hx hb dX5_mix_27 ?_
  refine ld_i hx hb hK.1 hP 2 0 rfl rfl (ix6l hc 4 (by decide)) (((6 * c) + 4).toNatClampNeg) rfl (v := gc (((6 * c) + 4).toNatClampNeg)) rfl dX5_mix_28 ?_
  refine lv_i2l hx hb dX5_mix_29 rfl ?_
  refine lv_lmul hx hb dX5_mix_30 ?_
  refine lv_lload hx hb dX5_mix_31 (lv_at hl 5 rfl) ?_
  refine lv_aload_n hx hb dX5_mix_33 rfl (lv_at hl 1 rfl) ?_
  refine va_get (D := D) (ci := 5) (v := .ref mC) (C := RX5) (T := TX5) (N := 17) hx hb hts k_2 hown hK.1 hP 0 rfl rfl 2 (by decide) k_3 (fun _ h9 => h9) rfl dX5_mix_34 ?_
  refine lv_bipush (v := 6) hx hb dX5_mix_37 (by decide) ?_
  refine lv_iload_n hx hb dX5_mix_39 rfl (lv_at hl 3 rfl) ?_
  refine lv_imul hx hb dX5_mix_40 ?_
  refine lv_iload hx hb dX5_mix_41 (lv_at hl 0 rfl) ?_
  refine lv_iadd hx hb dX5_mix_43 ?_
  refine ld_i hx hb hK.1 hP 2 0 rfl rfl (ix6l hd 4 (by decide)) (((6 * d) + 4).toNatClampNeg) rfl (v := gc (((6 * d) + 4).toNatClampNeg)) rfl dX5_mix_44 ?_
  refine lv_i2l hx hb dX5_mix_45 rfl ?_
  refine lv_lmul hx hb dX5_mix_46 ?_
  refine lv_ladd hx hb dX5_mix_47 ?_
  refine st_l hx hb hK.1 hP hD hS 1 1 rfl rfl (ix_lit (by decide)) 4 (by decide) dX5_mix_48 (fun H locs hP hD hS => ?_)
  have hP : va_P D vwCl [kM o mP mL mC mN mF mR mD mV mX mA mK cm mT pm mU mH mI, kJ mF cJ 6 (vp_updL (vp_updL (vp_updL (vp_updL (vp_updL ff 0 ((u * ((gc (((6 * c) + 0).toNatClampNeg)).toInt64)) + (v * ((gc (((6 * d) + 0).toNatClampNeg)).toInt64)))) 1 ((u * ((gc (((6 * c) + 1).toNatClampNeg)).toInt64)) + (v * ((gc (((6 * d) + 1).toNatClampNeg)).toInt64)))) 2 ((u * ((gc (((6 * c) + 2).toNatClampNeg)).toInt64)) + (v * ((gc (((6 * d) + 2).toNatClampNeg)).toInt64)))) 3 ((u * ((gc (((6 * c) + 3).toNatClampNeg)).toInt64)) + (v * ((gc (((6 * d) + 3).toNatClampNeg)).toInt64)))) 4 ((u * ((gc (((6 * c) + 4).toNatClampNeg)).toInt64)) + (v * ((gc (((6 * d) + 4).toNatClampNeg)).toInt64)))), kA mC cI 360 gc] H := hP
  have hD : va_D A [kM o mP mL mC mN mF mR mD mV mX mA mK cm mT pm mU mH mI, kJ mF cJ 6 (vp_updL (vp_updL (vp_updL (vp_updL (vp_updL ff 0 ((u * ((gc (((6 * c) + 0).toNatClampNeg)).toInt64)) + (v * ((gc (((6 * d) + 0).toNatClampNeg)).toInt64)))) 1 ((u * ((gc (((6 * c) + 1).toNatClampNeg)).toInt64)) + (v * ((gc (((6 * d) + 1).toNatClampNeg)).toInt64)))) 2 ((u * ((gc (((6 * c) + 2).toNatClampNeg)).toInt64)) + (v * ((gc (((6 * d) + 2).toNatClampNeg)).toInt64)))) 3 ((u * ((gc (((6 * c) + 3).toNatClampNeg)).toInt64)) + (v * ((gc (((6 * d) + 3).toNatClampNeg)).toInt64)))) 4 ((u * ((gc (((6 * c) + 4).toNatClampNeg)).toInt64)) + (v * ((gc (((6 * d) + 4).toNatClampNeg)).toInt64)))), kA mC cI 360 gc] := hD
  refine lv_iinc (v := 5) (lv' := [(7, .int 5), (0, .ref o), (1, .int c), (2, .int d), (3, .long u), (5, .long v)]) hx hb dX5_mix_49 hl (k := 0) rfl (by decide) (by decide) rfl (fun ls hl => ?_)
  refine lv_goto (tgt := 3) hx hb dX5_mix_52 (by decide) ?_
  refine lv_iload hx hb dX5_mix_3 (lv_at hl 0 rfl) ?_
  refine lv_bipush (v := 6) hx hb dX5_mix_5 (by decide) ?_
  refine lv_icmp_ge (tgt := 55) hx hb dX5_mix_7 (by decide) (fun h => absurd h (by decide)) (fun _ => ?_)
  refine lv_aload_n hx hb dX5_mix_10 rfl (lv_at hl 1 rfl) ?_
  refine va_get (D := D) (ci := 5) (v := .ref mF) (C := RX5) (T := TX5) (N := 17) hx hb hts k_2 hown hK.1 hP 0 rfl rfl 4 (by decide) k_1 (fun _ h9 => h9) rfl dX5_mix_11 ?_
  refine lv_iload hx hb dX5_mix_14 (lv_at hl 0 rfl) ?_
  refine lv_lload_n hx hb dX5_mix_16 rfl (lv_at hl 4 rfl) ?_
  refine lv_aload_n hx hb dX5_mix_17 rfl (lv_at hl 1 rfl) ?_
  refine va_get (D := D) (ci := 5) (v := .ref mC) (C := RX5) (T := TX5) (N := 17) hx hb hts k_2 hown hK.1 hP 0 rfl rfl 2 (by decide) k_3 (fun _ h9 => h9) rfl dX5_mix_18 ?_
  refine lv_bipush (v := 6) hx hb dX5_mix_21 (by decide) ?_
  refine lv_iload_n hx hb dX5_mix_23 rfl (lv_at hl 2 rfl) ?_
  refine lv_imul hx hb dX5_mix_24 ?_
  refine lv_iload hx hb dX5_mix_25 (lv_at hl 0 rfl) ?_
  refine lv_iadd hx hb dX5_mix_27 ?_
  refine ld_i hx hb hK.1 hP 2 0 rfl rfl (ix6l hc 5 (by decide)) (((6 * c) + 5).toNatClampNeg) rfl (v := gc (((6 * c) + 5).toNatClampNeg)) rfl dX5_mix_28 ?_
  refine lv_i2l hx hb dX5_mix_29 rfl ?_
  refine lv_lmul hx hb dX5_mix_30 ?_
  refine lv_lload hx hb dX5_mix_31 (lv_at hl 5 rfl) ?_
  refine lv_aload_n hx hb dX5_mix_33 rfl (lv_at hl 1 rfl) ?_
  refine va_get (D := D) (ci := 5) (v := .ref mC) (C := RX5) (T := TX5) (N := 17) hx hb hts k_2 hown hK.1 hP 0 rfl rfl 2 (by decide) k_3 (fun _ h9 => h9) rfl dX5_mix_34 ?_
  refine lv_bipush (v := 6) hx hb dX5_mix_37 (by decide) ?_
  refine lv_iload_n hx hb dX5_mix_39 rfl (lv_at hl 3 rfl) ?_
  refine lv_imul hx hb dX5_mix_40 ?_
  refine lv_iload hx hb dX5_mix_41 (lv_at hl 0 rfl) ?_
  refine lv_iadd hx hb dX5_mix_43 ?_
  refine ld_i hx hb hK.1 hP 2 0 rfl rfl (ix6l hd 5 (by decide)) (((6 * d) + 5).toNatClampNeg) rfl (v := gc (((6 * d) + 5).toNatClampNeg)) rfl dX5_mix_44 ?_
  refine lv_i2l hx hb dX5_mix_45 rfl ?_
  refine lv_lmul hx hb dX5_mix_46 ?_
  refine lv_ladd hx hb dX5_mix_47 ?_
  refine st_l hx hb hK.1 hP hD hS 1 1 rfl rfl (ix_lit (by decide)) 5 (by decide) dX5_mix_48 (fun H locs hP hD hS => ?_)
  have hP : va_P D vwCl [kM o mP mL mC mN mF mR mD mV mX mA mK cm mT pm mU mH mI, kJ mF cJ 6 (vp_updL (vp_updL (vp_updL (vp_updL (vp_updL (vp_updL ff 0 ((u * ((gc (((6 * c) + 0).toNatClampNeg)).toInt64)) + (v * ((gc (((6 * d) + 0).toNatClampNeg)).toInt64)))) 1 ((u * ((gc (((6 * c) + 1).toNatClampNeg)).toInt64)) + (v * ((gc (((6 * d) + 1).toNatClampNeg)).toInt64)))) 2 ((u * ((gc (((6 * c) + 2).toNatClampNeg)).toInt64)) + (v * ((gc (((6 * d) + 2).toNatClampNeg)).toInt64)))) 3 ((u * ((gc (((6 * c) + 3).toNatClampNeg)).toInt64)) + (v * ((gc (((6 * d) + 3).toNatClampNeg)).toInt64)))) 4 ((u * ((gc (((6 * c) + 4).toNatClampNeg)).toInt64)) + (v * ((gc (((6 * d) + 4).toNatClampNeg)).toInt64)))) 5 ((u * ((gc (((6 * c) + 5).toNatClampNeg)).toInt64)) + (v * ((gc (((6 * d) + 5).toNatClampNeg)).toInt64)))), kA mC cI 360 gc] H := hP
  have hD : va_D A [kM o mP mL mC mN mF mR mD mV mX mA mK cm mT pm mU mH mI, kJ mF cJ 6 (vp_updL (vp_updL (vp_updL (vp_updL (vp_updL (vp_updL ff 0 ((u * ((gc (((6 * c) + 0).toNatClampNeg)).toInt64)) + (v * ((gc (((6 * d) + 0).toNatClampNeg)).toInt64)))) 1 ((u * ((gc (((6 * c) + 1).toNatClampNeg)).toInt64)) + (v * ((gc (((6 * d) + 1).toNatClampNeg)).toInt64)))) 2 ((u * ((gc (((6 * c) + 2).toNatClampNeg)).toInt64)) + (v * ((gc (((6 * d) + 2).toNatClampNeg)).toInt64)))) 3 ((u * ((gc (((6 * c) + 3).toNatClampNeg)).toInt64)) + (v * ((gc (((6 * d) + 3).toNatClampNeg)).toInt64)))) 4 ((u * ((gc (((6 * c) + 4).toNatClampNeg)).toInt64)) + (v * ((gc (((6 * d) + 4).toNatClampNeg)).toInt64)))) 5 ((u * ((gc (((6 * c) + 5).toNatClampNeg)).toInt64)) + (v * ((gc (((6 * d) + 5).toNatClampNeg)).toInt64)))), kA mC cI 360 gc] := hD
  refine lv_iinc (v := 6) (lv' := [(7, .int 6), (0, .ref o), (1, .int c), (2, .int d), (3, .long u), (5, .long v)]) hx hb dX5_mix_49 hl (k := 0) rfl (by decide) (by decide) rfl (fun ls hl => ?_)
  refine lv_goto (tgt := 3) hx hb dX5_mix_52 (by decide) ?_
  refine lv_iload hx hb dX5_mix_3 (lv_at hl 0 rfl) ?_
  refine lv_bipush (v := 6) hx hb dX5_mix_5 (by decide) ?_
  refine lv_icmp_ge (tgt := 55) hx hb dX5_mix_7 (by decide) (fun _ => ?_) (fun h => absurd (by decide) h)
  have he_0 : z5_mix_f1 ff gc c d u v = vp_updL (vp_updL (vp_updL (vp_updL (vp_updL (vp_updL ff 0 ((u * ((gc (((6 * c) + 0).toNatClampNeg)).toInt64)) + (v * ((gc (((6 * d) + 0).toNatClampNeg)).toInt64)))) 1 ((u * ((gc (((6 * c) + 1).toNatClampNeg)).toInt64)) + (v * ((gc (((6 * d) + 1).toNatClampNeg)).toInt64)))) 2 ((u * ((gc (((6 * c) + 2).toNatClampNeg)).toInt64)) + (v * ((gc (((6 * d) + 2).toNatClampNeg)).toInt64)))) 3 ((u * ((gc (((6 * c) + 3).toNatClampNeg)).toInt64)) + (v * ((gc (((6 * d) + 3).toNatClampNeg)).toInt64)))) 4 ((u * ((gc (((6 * c) + 4).toNatClampNeg)).toInt64)) + (v * ((gc (((6 * d) + 4).toNatClampNeg)).toInt64)))) 5 ((u * ((gc (((6 * c) + 5).toNatClampNeg)).toInt64)) + (v * ((gc (((6 * d) + 5).toNatClampNeg)).toInt64))) := by delta z5_mix_f1; rfl
  exact rt_v (w1 := fun uu : Unit => [kM o mP mL mC mN mF mR mD mV mX mA mK cm mT pm mU mH mI, kJ mF cJ 6 (z5_mix_f1 ff gc c d u v), kA mC cI 360 gc]) hx hb hr hlk hS dX5_mix_55 (()) trivial (by rw [he_0]; exact hP) (by rw [he_0]; exact hD)
def z5_member (gm : Nat → Int32) (ff : Nat → Int64) (gc : Nat → Int32) (c : Int32) (d : Int32) (u : Int32) (v : Int32) : Int32 × (Nat → Int32) × (Nat → Int32) := if (z5_isOf_2 gm c) = 0 then ((-1000002), gm, gc) else if (z5_isOf_2 gm d) = 0 then ((-1000002), gm, gc) else if (z5_in u.toInt64 (-500) 500) = 0 then ((-1000003), gm, gc) else if (z5_in v.toInt64 (-500) 500) = 0 then ((-1000003), gm, gc) else ((z5_keep_2 gm (z5_mix_f1 ff gc c d u.toInt64 v.toInt64) gc (-1000004)).1, (z5_keep_2 gm (z5_mix_f1 ff gc c d u.toInt64 v.toInt64) gc (-1000004)).2.1, (z5_keep_2 gm (z5_mix_f1 ff gc c d u.toInt64 v.toInt64) gc (-1000004)).2.2)
set_option maxHeartbeats 4000000 in
set_option maxRecDepth 100000 in
/-- X5.member -/
theorem c_X5_member (l : Launch) (D : va_G) (cI cJ : ClassId) (o : Nat) (mP : Nat) (mL : Nat) (mC : Nat) (mN : Nat) (mF : Nat) (mR : Nat) (mD : Nat) (mV : Nat) (mX : Nat) (mA : Nat) (mK : Nat) (mT : Nat) (mU : Nat) (mH : Nat) (mI : Nat) (cm : Int32) (pm : Int32) (gm : Nat → Int32) (ff : Nat → Int64) (gc : Nat → Int32) (c : Int32) (d : Int32) (u : Int32) (v : Int32) (hm2 : n_ok (gm 2)) : mw_C l yX5_member wsX5_member ({ frames := 3, cells := 0, slots := 0, locals := 80 }) D cI cJ [.ref o, .int c, .int d, .int u, .int v] [kM o mP mL mC mN mF mR mD mV mX mA mK cm mT pm mU mH mI, kA mN cI 3 gm, kJ mF cJ 6 ff, kA mC cI 360 gc] (qe_i (fun (r : Int32) (_ : (Nat → Int64)) => r = (z5_member gm ff gc c d u v).1) (fun uu => [kM o mP mL mC mN mF mR mD mV mX mA mK cm mT pm mU mH mI, kA mN cI 3 ((z5_member gm ff gc c d u v).2.1), kJ mF cJ 6 uu, kA mC cI 360 ((z5_member gm ff gc c d u v).2.2)])) := by
  refine mw_in (cc := cX5_member) (lv := [(0, .ref o), (1, .int c), (2, .int d), (3, .int u), (4, .int v)]) (by decide) rfl (Nat.le_of_ble_eq_true rfl) rfl ?_
  intro pG eG sG mG below meth cG ls A hx hb hr hml hown hts hlk hin hP hK hD hA hS hl
  have hown : sG.vm.findClass RX5 = some mG.cls := hown
  have k_1 := hts (.constant RX5 101 (-1000002)) (by decide +kernel)
  have k_2 := hts (.constantLong RX5 72 (-500)) (by decide +kernel)
  have k_3 := hts (.constantLong RX5 74 (500)) (by decide +kernel)
  have k_4 := hts (.constant RX5 86 (-1000003)) (by decide +kernel)
  have k_5 := hts (.constant RX5 106 (-1000004)) (by decide +kernel)
  refine lv_aload_n hx hb dX5_member_0 rfl (lv_at hl 0 rfl) ?_
  refine lv_iconst (v := 2) hx hb dX5_member_1 (by decide) ?_
  refine lv_iload_n hx hb dX5_member_2 rfl (lv_at hl 1 rfl) ?_
  have hPc := hP.sub (ws' := [kM o mP mL mC mN mF mR mD mV mX mA mK cm mT pm mU mH mI, kA mN cI 3 gm]) [0, 1] rfl
  refine cr_i (va_runV (As := [.int 2, .int c]) (rest := []) ⟨hx, hb, hml, hown, hts⟩ (c_X5_isOf_2 l D cI cJ o mP mL mC mN mF mR mD mV mX mA mK mT mU mH mI cm pm gm c) (cwV 2 hts gX5_member_X5_isOf rfl rfl rfl (by decide +kernel) ⟨Nat.le_of_ble_eq_true rfl, Nat.le_of_ble_eq_true rfl⟩) ⟨gd_blR, va_recv hK.1 hPc (ci := 5) (q0 := 0) rfl rfl, gd_prR hPc hK⟩ rfl rfl hl.1 rfl (lv_room (Nat.le_of_ble_eq_true rfl)) dX5_member_3 ⟨Nat.zero_le _, Nat.zero_le _⟩) (fun r_3 hw => ?_)
  subst hw
  clear hPc
  refine lv_if_eq (tgt := 18) hx hb dX5_member_6 (by decide) (fun c_1 => ?_) (fun c_1 => ?_)
  · skip
    refine lv_ldc hx hb hown k_1 dX5_member_18 ?_
    have he : z5_member gm ff gc c d u v = ((-1000002), gm, gc) := by unfold z5_member; rw [if_pos c_1]
    have he_0 : (z5_member gm ff gc c d u v).1 = (-1000002) := by rw [he]
    have he_1 : (z5_member gm ff gc c d u v).2.1 = gm := by rw [he]
    have he_2 : (z5_member gm ff gc c d u v).2.2 = gc := by rw [he]
    exact rt_i (w1 := fun uu : (Nat → Int64) => [kM o mP mL mC mN mF mR mD mV mX mA mK cm mT pm mU mH mI, kA mN cI 3 ((z5_member gm ff gc c d u v).2.1), kJ mF cJ 6 uu, kA mC cI 360 ((z5_member gm ff gc c d u v).2.2)]) hx hb hr hlk hS dX5_member_20 (ff) he_0.symm (by (try dsimp only); rw [he_1, he_2]; exact hP) (by (try dsimp only); rw [he_1, he_2]; exact hD)
  · skip
    refine lv_aload_n hx hb dX5_member_9 rfl (lv_at hl 0 rfl) ?_
    refine lv_iconst (v := 2) hx hb dX5_member_10 (by decide) ?_
    refine lv_iload_n hx hb dX5_member_11 rfl (lv_at hl 2 rfl) ?_
    have hPc := hP.sub (ws' := [kM o mP mL mC mN mF mR mD mV mX mA mK cm mT pm mU mH mI, kA mN cI 3 gm]) [0, 1] rfl
    refine cr_i (va_runV (As := [.int 2, .int d]) (rest := []) ⟨hx, hb, hml, hown, hts⟩ (c_X5_isOf_2 l D cI cJ o mP mL mC mN mF mR mD mV mX mA mK mT mU mH mI cm pm gm d) (cwV 2 hts gX5_member_X5_isOf rfl rfl rfl (by decide +kernel) ⟨Nat.le_of_ble_eq_true rfl, Nat.le_of_ble_eq_true rfl⟩) ⟨gd_blR, va_recv hK.1 hPc (ci := 5) (q0 := 0) rfl rfl, gd_prR hPc hK⟩ rfl rfl hl.1 rfl (lv_room (Nat.le_of_ble_eq_true rfl)) dX5_member_12 ⟨Nat.zero_le _, Nat.zero_le _⟩) (fun r_12 hw => ?_)
    subst hw
    clear hPc
    refine lv_if_ne (tgt := 21) hx hb dX5_member_15 (by decide) (fun c_2 => ?_) (fun c_2 => ?_)
    · skip
      refine lv_iload_n hx hb dX5_member_21 rfl (lv_at hl 3 rfl) ?_
      refine lv_i2l hx hb dX5_member_22 rfl ?_
      refine lv_ldc2 hx hb hown k_2 dX5_member_23 ?_
      refine lv_ldc2 hx hb hown k_3 dX5_member_26 ?_
      have hPc := hP.sub (ws' := []) [] rfl
      refine cr_i (va_runS (As := [.long u.toInt64, .long (-500), .long 500]) (rest := []) ⟨hx, hb, hml, hown, hts⟩ (c_X5_in l D cI cJ u.toInt64 (-500) 500) (va_cwS 3 hts gX5_member_X5_in rfl rfl rfl (by decide +kernel) ⟨Nat.le_of_ble_eq_true rfl, Nat.le_of_ble_eq_true rfl⟩) ⟨gd_blR, gd_prR hPc hK⟩ rfl rfl hl.1 rfl (lv_room (Nat.le_of_ble_eq_true rfl)) dX5_member_29 ⟨Nat.zero_le _, Nat.zero_le _⟩) (fun r_29 hw => ?_)
      subst hw
      clear hPc
      refine lv_if_eq (tgt := 50) hx hb dX5_member_32 (by decide) (fun c_3 => ?_) (fun c_3 => ?_)
      · skip
        refine lv_ldc hx hb hown k_4 dX5_member_50 ?_
        have he : z5_member gm ff gc c d u v = ((-1000003), gm, gc) := by unfold z5_member; rw [if_neg c_1, if_neg c_2, if_pos c_3]
        have he_0 : (z5_member gm ff gc c d u v).1 = (-1000003) := by rw [he]
        have he_1 : (z5_member gm ff gc c d u v).2.1 = gm := by rw [he]
        have he_2 : (z5_member gm ff gc c d u v).2.2 = gc := by rw [he]
        exact rt_i (w1 := fun uu : (Nat → Int64) => [kM o mP mL mC mN mF mR mD mV mX mA mK cm mT pm mU mH mI, kA mN cI 3 ((z5_member gm ff gc c d u v).2.1), kJ mF cJ 6 uu, kA mC cI 360 ((z5_member gm ff gc c d u v).2.2)]) hx hb hr hlk hS dX5_member_52 (ff) he_0.symm (by (try dsimp only); rw [he_1, he_2]; exact hP) (by (try dsimp only); rw [he_1, he_2]; exact hD)
      · skip
        refine lv_iload hx hb dX5_member_35 (lv_at hl 4 rfl) ?_
        refine lv_i2l hx hb dX5_member_37 rfl ?_
        refine lv_ldc2 hx hb hown k_2 dX5_member_38 ?_
        refine lv_ldc2 hx hb hown k_3 dX5_member_41 ?_
        have hPc := hP.sub (ws' := []) [] rfl
        refine cr_i (va_runS (As := [.long v.toInt64, .long (-500), .long 500]) (rest := []) ⟨hx, hb, hml, hown, hts⟩ (c_X5_in l D cI cJ v.toInt64 (-500) 500) (va_cwS 3 hts gX5_member_X5_in rfl rfl rfl (by decide +kernel) ⟨Nat.le_of_ble_eq_true rfl, Nat.le_of_ble_eq_true rfl⟩) ⟨gd_blR, gd_prR hPc hK⟩ rfl rfl hl.1 rfl (lv_room (Nat.le_of_ble_eq_true rfl)) dX5_member_44 ⟨Nat.zero_le _, Nat.zero_le _⟩) (fun r_44 hw => ?_)
        subst hw
        clear hPc
        refine lv_if_ne (tgt := 53) hx hb dX5_member_47 (by decide) (fun c_4 => ?_) (fun c_4 => ?_)
        · skip
          refine lv_aload_n hx hb dX5_member_53 rfl (lv_at hl 0 rfl) ?_
          refine lv_iload_n hx hb dX5_member_54 rfl (lv_at hl 1 rfl) ?_
          refine lv_iload_n hx hb dX5_member_55 rfl (lv_at hl 2 rfl) ?_
          refine lv_iload_n hx hb dX5_member_56 rfl (lv_at hl 3 rfl) ?_
          refine lv_i2l hx hb dX5_member_57 rfl ?_
          refine lv_iload hx hb dX5_member_58 (lv_at hl 4 rfl) ?_
          refine lv_i2l hx hb dX5_member_60 rfl ?_
          have hPc := hP.sub (ws' := [kM o mP mL mC mN mF mR mD mV mX mA mK cm mT pm mU mH mI, kJ mF cJ 6 ff, kA mC cI 360 gc]) [0, 2, 3] rfl
          have hDc := hD.sub (ws' := [kM o mP mL mC mN mF mR mD mV mX mA mK cm mT pm mU mH mI, kJ mF cJ 6 ff, kA mC cI 360 gc]) [0, 2, 3] (by decide) rfl
          refine cl_v (wc := [kM o mP mL mC mN mF mR mD mV mX mA mK cm mT pm mU mH mI, kJ mF cJ 6 ff, kA mC cI 360 gc]) (wr := [kA mN cI 3 gm]) (w1 := fun uu : Unit => [kM o mP mL mC mN mF mR mD mV mX mA mK cm mT pm mU mH mI, kJ mF cJ 6 (z5_mix_f1 ff gc c d u.toInt64 v.toInt64), kA mC cI 360 gc]) (wn := fun uu : Unit => [kM o mP mL mC mN mF mR mD mV mX mA mK cm mT pm mU mH mI, kA mN cI 3 gm, kJ mF cJ 6 (z5_mix_f1 ff gc c d u.toInt64 v.toInt64), kA mC cI 360 gc]) (va_runV (As := [.int c, .int d, .long u.toInt64, .long v.toInt64]) (rest := []) ⟨hx, hb, hml, hown, hts⟩ (c_X5_mix l D cI cJ o mP mL mC mN mF mR mD mV mX mA mK mT mU mH mI cm pm ff gc c d u.toInt64 v.toInt64 (ok_of hm2 c_1) (ok_of hm2 c_2) _) (cwV 4 hts gX5_member_X5_mix rfl rfl rfl (by decide +kernel) ⟨Nat.le_of_ble_eq_true rfl, Nat.le_of_ble_eq_true rfl⟩) ⟨gd_blP, va_recv hK.1 hPc (ci := 5) (q0 := 0) rfl rfl, gd_prP hPc hK hDc⟩ rfl rfl hl.1 rfl (lv_room (Nat.le_of_ble_eq_true rfl)) dX5_member_61 ⟨Nat.zero_le _, Nat.zero_le _⟩) hP hD hS hA [0, 2, 3] [1] rfl rfl (by decide) (by decide) [1, 0, 2, 3] (by decide) (fun _ => rfl) (fun uG H locs hw hP hD hS => ?_)
          have hP : va_P D vwCl [kM o mP mL mC mN mF mR mD mV mX mA mK cm mT pm mU mH mI, kA mN cI 3 gm, kJ mF cJ 6 (z5_mix_f1 ff gc c d u.toInt64 v.toInt64), kA mC cI 360 gc] H := hP
          have hD : va_D A [kM o mP mL mC mN mF mR mD mV mX mA mK cm mT pm mU mH mI, kA mN cI 3 gm, kJ mF cJ 6 (z5_mix_f1 ff gc c d u.toInt64 v.toInt64), kA mC cI 360 gc] := hD
          clear hPc hDc
          refine lv_aload_n hx hb dX5_member_64 rfl (lv_at hl 0 rfl) ?_
          refine lv_iconst (v := 2) hx hb dX5_member_65 (by decide) ?_
          refine lv_ldc hx hb hown k_5 dX5_member_66 ?_
          have hPc := hP.sub (ws' := [kM o mP mL mC mN mF mR mD mV mX mA mK cm mT pm mU mH mI, kA mN cI 3 gm, kJ mF cJ 6 (z5_mix_f1 ff gc c d u.toInt64 v.toInt64), kA mC cI 360 gc]) [0, 1, 2, 3] rfl
          have hDc := hD.sub (ws' := [kM o mP mL mC mN mF mR mD mV mX mA mK cm mT pm mU mH mI, kA mN cI 3 gm, kJ mF cJ 6 (z5_mix_f1 ff gc c d u.toInt64 v.toInt64), kA mC cI 360 gc]) [0, 1, 2, 3] (by decide) rfl
          refine cl_i (wc := [kM o mP mL mC mN mF mR mD mV mX mA mK cm mT pm mU mH mI, kA mN cI 3 gm, kJ mF cJ 6 (z5_mix_f1 ff gc c d u.toInt64 v.toInt64), kA mC cI 360 gc]) (wr := []) (w1 := fun uu : (Nat → Int64) => [kM o mP mL mC mN mF mR mD mV mX mA mK cm mT pm mU mH mI, kA mN cI 3 ((z5_keep_2 gm (z5_mix_f1 ff gc c d u.toInt64 v.toInt64) gc (-1000004)).2.1), kJ mF cJ 6 uu, kA mC cI 360 ((z5_keep_2 gm (z5_mix_f1 ff gc c d u.toInt64 v.toInt64) gc (-1000004)).2.2)]) (wn := fun uu : (Nat → Int64) => [kM o mP mL mC mN mF mR mD mV mX mA mK cm mT pm mU mH mI, kA mN cI 3 ((z5_keep_2 gm (z5_mix_f1 ff gc c d u.toInt64 v.toInt64) gc (-1000004)).2.1), kJ mF cJ 6 uu, kA mC cI 360 ((z5_keep_2 gm (z5_mix_f1 ff gc c d u.toInt64 v.toInt64) gc (-1000004)).2.2)]) (va_runV (As := [.int 2, .int (-1000004)]) (rest := []) ⟨hx, hb, hml, hown, hts⟩ (c_X5_keep_2 l D cI cJ o mP mL mC mN mF mR mD mV mX mA mK mT mU mH mI cm pm gm (z5_mix_f1 ff gc c d u.toInt64 v.toInt64) gc (-1000004) hm2 _) (cwV 2 hts gX5_member_X5_keep rfl rfl rfl (by decide +kernel) ⟨Nat.le_of_ble_eq_true rfl, Nat.le_of_ble_eq_true rfl⟩) ⟨gd_blP, va_recv hK.1 hPc (ci := 5) (q0 := 0) rfl rfl, gd_prP hPc hK hDc⟩ rfl rfl hl.1 rfl (lv_room (Nat.le_of_ble_eq_true rfl)) dX5_member_68 ⟨Nat.zero_le _, Nat.zero_le _⟩) hP hD hS hA [0, 1, 2, 3] [] rfl rfl (by decide) (by decide) [0, 1, 2, 3] (by decide) (fun _ => rfl) (fun r_68 uG H locs hw hP hD hS => ?_)
          obtain ⟨y_68_0_1, rfl⟩ : ∃ z, z = uG := ⟨_, rfl⟩
          have hP : va_P D vwCl [kM o mP mL mC mN mF mR mD mV mX mA mK cm mT pm mU mH mI, kA mN cI 3 ((z5_keep_2 gm (z5_mix_f1 ff gc c d u.toInt64 v.toInt64) gc (-1000004)).2.1), kJ mF cJ 6 y_68_0_1, kA mC cI 360 ((z5_keep_2 gm (z5_mix_f1 ff gc c d u.toInt64 v.toInt64) gc (-1000004)).2.2)] H := hP
          have hD : va_D A [kM o mP mL mC mN mF mR mD mV mX mA mK cm mT pm mU mH mI, kA mN cI 3 ((z5_keep_2 gm (z5_mix_f1 ff gc c d u.toInt64 v.toInt64) gc (-1000004)).2.1), kJ mF cJ 6 y_68_0_1, kA mC cI 360 ((z5_keep_2 gm (z5_mix_f1 ff gc c d u.toInt64 v.toInt64) gc (-1000004)).2.2)] := hD
          subst hw
          clear hPc hDc
          have he : z5_member gm ff gc c d u v = ((z5_keep_2 gm (z5_mix_f1 ff gc c d u.toInt64 v.toInt64) gc (-1000004)).1, (z5_keep_2 gm (z5_mix_f1 ff gc c d u.toInt64 v.toInt64) gc (-1000004)).2.1, (z5_keep_2 gm (z5_mix_f1 ff gc c d u.toInt64 v.toInt64) gc (-1000004)).2.2) := by unfold z5_member; rw [if_neg c_1, if_neg c_2, if_neg c_3, if_neg c_4]
          have he_0 : (z5_member gm ff gc c d u v).1 = (z5_keep_2 gm (z5_mix_f1 ff gc c d u.toInt64 v.toInt64) gc (-1000004)).1 := by rw [he]
          have he_1 : (z5_member gm ff gc c d u v).2.1 = (z5_keep_2 gm (z5_mix_f1 ff gc c d u.toInt64 v.toInt64) gc (-1000004)).2.1 := by rw [he]
          have he_2 : (z5_member gm ff gc c d u v).2.2 = (z5_keep_2 gm (z5_mix_f1 ff gc c d u.toInt64 v.toInt64) gc (-1000004)).2.2 := by rw [he]
          exact rt_i (w1 := fun uu : (Nat → Int64) => [kM o mP mL mC mN mF mR mD mV mX mA mK cm mT pm mU mH mI, kA mN cI 3 ((z5_member gm ff gc c d u v).2.1), kJ mF cJ 6 uu, kA mC cI 360 ((z5_member gm ff gc c d u v).2.2)]) hx hb hr hlk hS dX5_member_71 (y_68_0_1) he_0.symm (by (try dsimp only); rw [he_1, he_2]; exact hP) (by (try dsimp only); rw [he_1, he_2]; exact hD)
        · skip
          refine lv_ldc hx hb hown k_4 dX5_member_50 ?_
          have he : z5_member gm ff gc c d u v = ((-1000003), gm, gc) := by unfold z5_member; rw [if_neg c_1, if_neg c_2, if_neg c_3, if_pos c_4]
          have he_0 : (z5_member gm ff gc c d u v).1 = (-1000003) := by rw [he]
          have he_1 : (z5_member gm ff gc c d u v).2.1 = gm := by rw [he]
          have he_2 : (z5_member gm ff gc c d u v).2.2 = gc := by rw [he]
          exact rt_i (w1 := fun uu : (Nat → Int64) => [kM o mP mL mC mN mF mR mD mV mX mA mK cm mT pm mU mH mI, kA mN cI 3 ((z5_member gm ff gc c d u v).2.1), kJ mF cJ 6 uu, kA mC cI 360 ((z5_member gm ff gc c d u v).2.2)]) hx hb hr hlk hS dX5_member_52 (ff) he_0.symm (by (try dsimp only); rw [he_1, he_2]; exact hP) (by (try dsimp only); rw [he_1, he_2]; exact hD)
    · skip
      refine lv_ldc hx hb hown k_1 dX5_member_18 ?_
      have he : z5_member gm ff gc c d u v = ((-1000002), gm, gc) := by unfold z5_member; rw [if_neg c_1, if_pos c_2]
      have he_0 : (z5_member gm ff gc c d u v).1 = (-1000002) := by rw [he]
      have he_1 : (z5_member gm ff gc c d u v).2.1 = gm := by rw [he]
      have he_2 : (z5_member gm ff gc c d u v).2.2 = gc := by rw [he]
      exact rt_i (w1 := fun uu : (Nat → Int64) => [kM o mP mL mC mN mF mR mD mV mX mA mK cm mT pm mU mH mI, kA mN cI 3 ((z5_member gm ff gc c d u v).2.1), kJ mF cJ 6 uu, kA mC cI 360 ((z5_member gm ff gc c d u v).2.2)]) hx hb hr hlk hS dX5_member_20 (ff) he_0.symm (by (try dsimp only); rw [he_1, he_2]; exact hP) (by (try dsimp only); rw [he_1, he_2]; exact hD)
def z5_through (gm : Nat → Int32) (ff : Nat → Int64) (gp : Nat → Int32) (gc : Nat → Int32) (c : Int32) (d : Int32) (p : Int32) : Int32 × (Nat → Int32) × (Nat → Int32) := if (z5_isOf_2 gm c) = 0 then ((-1000002), gm, gc) else if (z5_isOf_2 gm d) = 0 then ((-1000002), gm, gc) else if (z5_isOf_0 gm p) = 0 then ((-1000002), gm, gc) else ((z5_keep_2 gm (z5_mix_f1 ff gc c d (z5_valueOf gc gp d p) (-(z5_valueOf gc gp c p))) gc (-1000004)).1, (z5_keep_2 gm (z5_mix_f1 ff gc c d (z5_valueOf gc gp d p) (-(z5_valueOf gc gp c p))) gc (-1000004)).2.1, (z5_keep_2 gm (z5_mix_f1 ff gc c d (z5_valueOf gc gp d p) (-(z5_valueOf gc gp c p))) gc (-1000004)).2.2)
set_option maxHeartbeats 4000000 in
set_option maxRecDepth 100000 in
/-- X5.through -/
theorem c_X5_through (l : Launch) (D : va_G) (cI cJ : ClassId) (o : Nat) (mP : Nat) (mL : Nat) (mC : Nat) (mN : Nat) (mF : Nat) (mR : Nat) (mD : Nat) (mV : Nat) (mX : Nat) (mA : Nat) (mK : Nat) (mT : Nat) (mU : Nat) (mH : Nat) (mI : Nat) (cm : Int32) (pm : Int32) (gm : Nat → Int32) (ff : Nat → Int64) (gp : Nat → Int32) (gc : Nat → Int32) (c : Int32) (d : Int32) (p : Int32) (hm0 : n_ok (gm 0)) (hm2 : n_ok (gm 2)) : mw_C l yX5_through wsX5_through ({ frames := 3, cells := 0, slots := 0, locals := 80 }) D cI cJ [.ref o, .int c, .int d, .int p] [kM o mP mL mC mN mF mR mD mV mX mA mK cm mT pm mU mH mI, kA mN cI 3 gm, kJ mF cJ 6 ff, kA mP cI 180 gp, kA mC cI 360 gc] (qe_i (fun (r : Int32) (_ : (Nat → Int64)) => r = (z5_through gm ff gp gc c d p).1) (fun uu => [kM o mP mL mC mN mF mR mD mV mX mA mK cm mT pm mU mH mI, kA mN cI 3 ((z5_through gm ff gp gc c d p).2.1), kJ mF cJ 6 uu, kA mP cI 180 gp, kA mC cI 360 ((z5_through gm ff gp gc c d p).2.2)])) := by
  refine mw_in (cc := cX5_through) (lv := [(0, .ref o), (1, .int c), (2, .int d), (3, .int p)]) (by decide) rfl (Nat.le_of_ble_eq_true rfl) rfl ?_
  intro pG eG sG mG below meth cG ls A hx hb hr hml hown hts hlk hin hP hK hD hA hS hl
  have hown : sG.vm.findClass RX5 = some mG.cls := hown
  have k_1 := hts (.constant RX5 101 (-1000002)) (by decide +kernel)
  have k_2 := hts (.constant RX5 106 (-1000004)) (by decide +kernel)
  refine lv_aload_n hx hb dX5_through_0 rfl (lv_at hl 0 rfl) ?_
  refine lv_iconst (v := 2) hx hb dX5_through_1 (by decide) ?_
  refine lv_iload_n hx hb dX5_through_2 rfl (lv_at hl 1 rfl) ?_
  have hPc := hP.sub (ws' := [kM o mP mL mC mN mF mR mD mV mX mA mK cm mT pm mU mH mI, kA mN cI 3 gm]) [0, 1] rfl
  refine cr_i (va_runV (As := [.int 2, .int c]) (rest := []) ⟨hx, hb, hml, hown, hts⟩ (c_X5_isOf_2 l D cI cJ o mP mL mC mN mF mR mD mV mX mA mK mT mU mH mI cm pm gm c) (cwV 2 hts gX5_through_X5_isOf rfl rfl rfl (by decide +kernel) ⟨Nat.le_of_ble_eq_true rfl, Nat.le_of_ble_eq_true rfl⟩) ⟨gd_blR, va_recv hK.1 hPc (ci := 5) (q0 := 0) rfl rfl, gd_prR hPc hK⟩ rfl rfl hl.1 rfl (lv_room (Nat.le_of_ble_eq_true rfl)) dX5_through_3 ⟨Nat.zero_le _, Nat.zero_le _⟩) (fun r_3 hw => ?_)
  subst hw
  clear hPc
  refine lv_if_eq (tgt := 27) hx hb dX5_through_6 (by decide) (fun c_1 => ?_) (fun c_1 => ?_)
  · skip
    refine lv_ldc hx hb hown k_1 dX5_through_27 ?_
    have he : z5_through gm ff gp gc c d p = ((-1000002), gm, gc) := by unfold z5_through; rw [if_pos c_1]
    have he_0 : (z5_through gm ff gp gc c d p).1 = (-1000002) := by rw [he]
    have he_1 : (z5_through gm ff gp gc c d p).2.1 = gm := by rw [he]
    have he_2 : (z5_through gm ff gp gc c d p).2.2 = gc := by rw [he]
    exact rt_i (w1 := fun uu : (Nat → Int64) => [kM o mP mL mC mN mF mR mD mV mX mA mK cm mT pm mU mH mI, kA mN cI 3 ((z5_through gm ff gp gc c d p).2.1), kJ mF cJ 6 uu, kA mP cI 180 gp, kA mC cI 360 ((z5_through gm ff gp gc c d p).2.2)]) hx hb hr hlk hS dX5_through_29 (ff) he_0.symm (by (try dsimp only); rw [he_1, he_2]; exact hP) (by (try dsimp only); rw [he_1, he_2]; exact hD)
  · skip
    refine lv_aload_n hx hb dX5_through_9 rfl (lv_at hl 0 rfl) ?_
    refine lv_iconst (v := 2) hx hb dX5_through_10 (by decide) ?_
    refine lv_iload_n hx hb dX5_through_11 rfl (lv_at hl 2 rfl) ?_
    have hPc := hP.sub (ws' := [kM o mP mL mC mN mF mR mD mV mX mA mK cm mT pm mU mH mI, kA mN cI 3 gm]) [0, 1] rfl
    refine cr_i (va_runV (As := [.int 2, .int d]) (rest := []) ⟨hx, hb, hml, hown, hts⟩ (c_X5_isOf_2 l D cI cJ o mP mL mC mN mF mR mD mV mX mA mK mT mU mH mI cm pm gm d) (cwV 2 hts gX5_through_X5_isOf rfl rfl rfl (by decide +kernel) ⟨Nat.le_of_ble_eq_true rfl, Nat.le_of_ble_eq_true rfl⟩) ⟨gd_blR, va_recv hK.1 hPc (ci := 5) (q0 := 0) rfl rfl, gd_prR hPc hK⟩ rfl rfl hl.1 rfl (lv_room (Nat.le_of_ble_eq_true rfl)) dX5_through_12 ⟨Nat.zero_le _, Nat.zero_le _⟩) (fun r_12 hw => ?_)
    subst hw
    clear hPc
    refine lv_if_eq (tgt := 27) hx hb dX5_through_15 (by decide) (fun c_2 => ?_) (fun c_2 => ?_)
    · skip
      refine lv_ldc hx hb hown k_1 dX5_through_27 ?_
      have he : z5_through gm ff gp gc c d p = ((-1000002), gm, gc) := by unfold z5_through; rw [if_neg c_1, if_pos c_2]
      have he_0 : (z5_through gm ff gp gc c d p).1 = (-1000002) := by rw [he]
      have he_1 : (z5_through gm ff gp gc c d p).2.1 = gm := by rw [he]
      have he_2 : (z5_through gm ff gp gc c d p).2.2 = gc := by rw [he]
      exact rt_i (w1 := fun uu : (Nat → Int64) => [kM o mP mL mC mN mF mR mD mV mX mA mK cm mT pm mU mH mI, kA mN cI 3 ((z5_through gm ff gp gc c d p).2.1), kJ mF cJ 6 uu, kA mP cI 180 gp, kA mC cI 360 ((z5_through gm ff gp gc c d p).2.2)]) hx hb hr hlk hS dX5_through_29 (ff) he_0.symm (by (try dsimp only); rw [he_1, he_2]; exact hP) (by (try dsimp only); rw [he_1, he_2]; exact hD)
    · skip
      refine lv_aload_n hx hb dX5_through_18 rfl (lv_at hl 0 rfl) ?_
      refine lv_iconst (v := 0) hx hb dX5_through_19 (by decide) ?_
      refine lv_iload_n hx hb dX5_through_20 rfl (lv_at hl 3 rfl) ?_
      have hPc := hP.sub (ws' := [kM o mP mL mC mN mF mR mD mV mX mA mK cm mT pm mU mH mI, kA mN cI 3 gm]) [0, 1] rfl
      refine cr_i (va_runV (As := [.int 0, .int p]) (rest := []) ⟨hx, hb, hml, hown, hts⟩ (c_X5_isOf_0 l D cI cJ o mP mL mC mN mF mR mD mV mX mA mK mT mU mH mI cm pm gm p) (cwV 2 hts gX5_through_X5_isOf rfl rfl rfl (by decide +kernel) ⟨Nat.le_of_ble_eq_true rfl, Nat.le_of_ble_eq_true rfl⟩) ⟨gd_blR, va_recv hK.1 hPc (ci := 5) (q0 := 0) rfl rfl, gd_prR hPc hK⟩ rfl rfl hl.1 rfl (lv_room (Nat.le_of_ble_eq_true rfl)) dX5_through_21 ⟨Nat.zero_le _, Nat.zero_le _⟩) (fun r_21 hw => ?_)
      subst hw
      clear hPc
      refine lv_if_ne (tgt := 30) hx hb dX5_through_24 (by decide) (fun c_3 => ?_) (fun c_3 => ?_)
      · skip
        refine lv_aload_n hx hb dX5_through_30 rfl (lv_at hl 0 rfl) ?_
        refine lv_iload_n hx hb dX5_through_31 rfl (lv_at hl 1 rfl) ?_
        refine lv_iload_n hx hb dX5_through_32 rfl (lv_at hl 2 rfl) ?_
        refine lv_aload_n hx hb dX5_through_33 rfl (lv_at hl 0 rfl) ?_
        refine lv_iload_n hx hb dX5_through_34 rfl (lv_at hl 2 rfl) ?_
        refine lv_iload_n hx hb dX5_through_35 rfl (lv_at hl 3 rfl) ?_
        have hPc := hP.sub (ws' := [kM o mP mL mC mN mF mR mD mV mX mA mK cm mT pm mU mH mI, kA mC cI 360 gc, kA mP cI 180 gp]) [0, 4, 3] rfl
        refine cr_l (va_runV (As := [.int d, .int p]) (rest := [.int d, .int c, .ref o]) ⟨hx, hb, hml, hown, hts⟩ (c_X5_valueOf l D cI cJ o mP mL mC mN mF mR mD mV mX mA mK mT mU mH mI cm pm gc gp d p (ok_of hm2 c_2) (ok_of hm0 c_3)) (cwV 2 hts gX5_through_X5_valueOf rfl rfl rfl (by decide +kernel) ⟨Nat.le_of_ble_eq_true rfl, Nat.le_of_ble_eq_true rfl⟩) ⟨gd_blR, va_recv hK.1 hPc (ci := 5) (q0 := 0) rfl rfl, gd_prR hPc hK⟩ rfl rfl hl.1 rfl (lv_room (Nat.le_of_ble_eq_true rfl)) dX5_through_36 ⟨Nat.zero_le _, Nat.zero_le _⟩) (fun r_36 hw => ?_)
        subst hw
        clear hPc
        refine lv_aload_n hx hb dX5_through_39 rfl (lv_at hl 0 rfl) ?_
        refine lv_iload_n hx hb dX5_through_40 rfl (lv_at hl 1 rfl) ?_
        refine lv_iload_n hx hb dX5_through_41 rfl (lv_at hl 3 rfl) ?_
        have hPc := hP.sub (ws' := [kM o mP mL mC mN mF mR mD mV mX mA mK cm mT pm mU mH mI, kA mC cI 360 gc, kA mP cI 180 gp]) [0, 4, 3] rfl
        refine cr_l (va_runV (As := [.int c, .int p]) (rest := [.long (z5_valueOf gc gp d p), .int d, .int c, .ref o]) ⟨hx, hb, hml, hown, hts⟩ (c_X5_valueOf l D cI cJ o mP mL mC mN mF mR mD mV mX mA mK mT mU mH mI cm pm gc gp c p (ok_of hm2 c_1) (ok_of hm0 c_3)) (cwV 2 hts gX5_through_X5_valueOf rfl rfl rfl (by decide +kernel) ⟨Nat.le_of_ble_eq_true rfl, Nat.le_of_ble_eq_true rfl⟩) ⟨gd_blR, va_recv hK.1 hPc (ci := 5) (q0 := 0) rfl rfl, gd_prR hPc hK⟩ rfl rfl hl.1 rfl (lv_room (Nat.le_of_ble_eq_true rfl)) dX5_through_42 ⟨Nat.zero_le _, Nat.zero_le _⟩) (fun r_42 hw => ?_)
        subst hw
        clear hPc
        refine lv_lneg hx hb dX5_through_45 ?_
        have hPc := hP.sub (ws' := [kM o mP mL mC mN mF mR mD mV mX mA mK cm mT pm mU mH mI, kJ mF cJ 6 ff, kA mC cI 360 gc]) [0, 2, 4] rfl
        have hDc := hD.sub (ws' := [kM o mP mL mC mN mF mR mD mV mX mA mK cm mT pm mU mH mI, kJ mF cJ 6 ff, kA mC cI 360 gc]) [0, 2, 4] (by decide) rfl
        refine cl_v (wc := [kM o mP mL mC mN mF mR mD mV mX mA mK cm mT pm mU mH mI, kJ mF cJ 6 ff, kA mC cI 360 gc]) (wr := [kA mN cI 3 gm, kA mP cI 180 gp]) (w1 := fun uu : Unit => [kM o mP mL mC mN mF mR mD mV mX mA mK cm mT pm mU mH mI, kJ mF cJ 6 (z5_mix_f1 ff gc c d (z5_valueOf gc gp d p) (-(z5_valueOf gc gp c p))), kA mC cI 360 gc]) (wn := fun uu : Unit => [kM o mP mL mC mN mF mR mD mV mX mA mK cm mT pm mU mH mI, kA mN cI 3 gm, kJ mF cJ 6 (z5_mix_f1 ff gc c d (z5_valueOf gc gp d p) (-(z5_valueOf gc gp c p))), kA mP cI 180 gp, kA mC cI 360 gc]) (va_runV (As := [.int c, .int d, .long (z5_valueOf gc gp d p), .long (-(z5_valueOf gc gp c p))]) (rest := []) ⟨hx, hb, hml, hown, hts⟩ (c_X5_mix l D cI cJ o mP mL mC mN mF mR mD mV mX mA mK mT mU mH mI cm pm ff gc c d (z5_valueOf gc gp d p) (-(z5_valueOf gc gp c p)) (ok_of hm2 c_1) (ok_of hm2 c_2) _) (cwV 4 hts gX5_through_X5_mix rfl rfl rfl (by decide +kernel) ⟨Nat.le_of_ble_eq_true rfl, Nat.le_of_ble_eq_true rfl⟩) ⟨gd_blP, va_recv hK.1 hPc (ci := 5) (q0 := 0) rfl rfl, gd_prP hPc hK hDc⟩ rfl rfl hl.1 rfl (lv_room (Nat.le_of_ble_eq_true rfl)) dX5_through_46 ⟨Nat.zero_le _, Nat.zero_le _⟩) hP hD hS hA [0, 2, 4] [1, 3] rfl rfl (by decide) (by decide) [2, 0, 3, 1, 4] (by decide) (fun _ => rfl) (fun uG H locs hw hP hD hS => ?_)
        have hP : va_P D vwCl [kM o mP mL mC mN mF mR mD mV mX mA mK cm mT pm mU mH mI, kA mN cI 3 gm, kJ mF cJ 6 (z5_mix_f1 ff gc c d (z5_valueOf gc gp d p) (-(z5_valueOf gc gp c p))), kA mP cI 180 gp, kA mC cI 360 gc] H := hP
        have hD : va_D A [kM o mP mL mC mN mF mR mD mV mX mA mK cm mT pm mU mH mI, kA mN cI 3 gm, kJ mF cJ 6 (z5_mix_f1 ff gc c d (z5_valueOf gc gp d p) (-(z5_valueOf gc gp c p))), kA mP cI 180 gp, kA mC cI 360 gc] := hD
        clear hPc hDc
        refine lv_aload_n hx hb dX5_through_49 rfl (lv_at hl 0 rfl) ?_
        refine lv_iconst (v := 2) hx hb dX5_through_50 (by decide) ?_
        refine lv_ldc hx hb hown k_2 dX5_through_51 ?_
        have hPc := hP.sub (ws' := [kM o mP mL mC mN mF mR mD mV mX mA mK cm mT pm mU mH mI, kA mN cI 3 gm, kJ mF cJ 6 (z5_mix_f1 ff gc c d (z5_valueOf gc gp d p) (-(z5_valueOf gc gp c p))), kA mC cI 360 gc]) [0, 1, 2, 4] rfl
        have hDc := hD.sub (ws' := [kM o mP mL mC mN mF mR mD mV mX mA mK cm mT pm mU mH mI, kA mN cI 3 gm, kJ mF cJ 6 (z5_mix_f1 ff gc c d (z5_valueOf gc gp d p) (-(z5_valueOf gc gp c p))), kA mC cI 360 gc]) [0, 1, 2, 4] (by decide) rfl
        refine cl_i (wc := [kM o mP mL mC mN mF mR mD mV mX mA mK cm mT pm mU mH mI, kA mN cI 3 gm, kJ mF cJ 6 (z5_mix_f1 ff gc c d (z5_valueOf gc gp d p) (-(z5_valueOf gc gp c p))), kA mC cI 360 gc]) (wr := [kA mP cI 180 gp]) (w1 := fun uu : (Nat → Int64) => [kM o mP mL mC mN mF mR mD mV mX mA mK cm mT pm mU mH mI, kA mN cI 3 ((z5_keep_2 gm (z5_mix_f1 ff gc c d (z5_valueOf gc gp d p) (-(z5_valueOf gc gp c p))) gc (-1000004)).2.1), kJ mF cJ 6 uu, kA mC cI 360 ((z5_keep_2 gm (z5_mix_f1 ff gc c d (z5_valueOf gc gp d p) (-(z5_valueOf gc gp c p))) gc (-1000004)).2.2)]) (wn := fun uu : (Nat → Int64) => [kM o mP mL mC mN mF mR mD mV mX mA mK cm mT pm mU mH mI, kA mN cI 3 ((z5_keep_2 gm (z5_mix_f1 ff gc c d (z5_valueOf gc gp d p) (-(z5_valueOf gc gp c p))) gc (-1000004)).2.1), kJ mF cJ 6 uu, kA mP cI 180 gp, kA mC cI 360 ((z5_keep_2 gm (z5_mix_f1 ff gc c d (z5_valueOf gc gp d p) (-(z5_valueOf gc gp c p))) gc (-1000004)).2.2)]) (va_runV (As := [.int 2, .int (-1000004)]) (rest := []) ⟨hx, hb, hml, hown, hts⟩ (c_X5_keep_2 l D cI cJ o mP mL mC mN mF mR mD mV mX mA mK mT mU mH mI cm pm gm (z5_mix_f1 ff gc c d (z5_valueOf gc gp d p) (-(z5_valueOf gc gp c p))) gc (-1000004) hm2 _) (cwV 2 hts gX5_through_X5_keep rfl rfl rfl (by decide +kernel) ⟨Nat.le_of_ble_eq_true rfl, Nat.le_of_ble_eq_true rfl⟩) ⟨gd_blP, va_recv hK.1 hPc (ci := 5) (q0 := 0) rfl rfl, gd_prP hPc hK hDc⟩ rfl rfl hl.1 rfl (lv_room (Nat.le_of_ble_eq_true rfl)) dX5_through_53 ⟨Nat.zero_le _, Nat.zero_le _⟩) hP hD hS hA [0, 1, 2, 4] [3] rfl rfl (by decide) (by decide) [1, 2, 3, 0, 4] (by decide) (fun _ => rfl) (fun r_53 uG H locs hw hP hD hS => ?_)
        obtain ⟨y_53_0_1, rfl⟩ : ∃ z, z = uG := ⟨_, rfl⟩
        have hP : va_P D vwCl [kM o mP mL mC mN mF mR mD mV mX mA mK cm mT pm mU mH mI, kA mN cI 3 ((z5_keep_2 gm (z5_mix_f1 ff gc c d (z5_valueOf gc gp d p) (-(z5_valueOf gc gp c p))) gc (-1000004)).2.1), kJ mF cJ 6 y_53_0_1, kA mP cI 180 gp, kA mC cI 360 ((z5_keep_2 gm (z5_mix_f1 ff gc c d (z5_valueOf gc gp d p) (-(z5_valueOf gc gp c p))) gc (-1000004)).2.2)] H := hP
        have hD : va_D A [kM o mP mL mC mN mF mR mD mV mX mA mK cm mT pm mU mH mI, kA mN cI 3 ((z5_keep_2 gm (z5_mix_f1 ff gc c d (z5_valueOf gc gp d p) (-(z5_valueOf gc gp c p))) gc (-1000004)).2.1), kJ mF cJ 6 y_53_0_1, kA mP cI 180 gp, kA mC cI 360 ((z5_keep_2 gm (z5_mix_f1 ff gc c d (z5_valueOf gc gp d p) (-(z5_valueOf gc gp c p))) gc (-1000004)).2.2)] := hD
        subst hw
        clear hPc hDc
        have he : z5_through gm ff gp gc c d p = ((z5_keep_2 gm (z5_mix_f1 ff gc c d (z5_valueOf gc gp d p) (-(z5_valueOf gc gp c p))) gc (-1000004)).1, (z5_keep_2 gm (z5_mix_f1 ff gc c d (z5_valueOf gc gp d p) (-(z5_valueOf gc gp c p))) gc (-1000004)).2.1, (z5_keep_2 gm (z5_mix_f1 ff gc c d (z5_valueOf gc gp d p) (-(z5_valueOf gc gp c p))) gc (-1000004)).2.2) := by unfold z5_through; rw [if_neg c_1, if_neg c_2, if_neg c_3]
        have he_0 : (z5_through gm ff gp gc c d p).1 = (z5_keep_2 gm (z5_mix_f1 ff gc c d (z5_valueOf gc gp d p) (-(z5_valueOf gc gp c p))) gc (-1000004)).1 := by rw [he]
        have he_1 : (z5_through gm ff gp gc c d p).2.1 = (z5_keep_2 gm (z5_mix_f1 ff gc c d (z5_valueOf gc gp d p) (-(z5_valueOf gc gp c p))) gc (-1000004)).2.1 := by rw [he]
        have he_2 : (z5_through gm ff gp gc c d p).2.2 = (z5_keep_2 gm (z5_mix_f1 ff gc c d (z5_valueOf gc gp d p) (-(z5_valueOf gc gp c p))) gc (-1000004)).2.2 := by rw [he]
        exact rt_i (w1 := fun uu : (Nat → Int64) => [kM o mP mL mC mN mF mR mD mV mX mA mK cm mT pm mU mH mI, kA mN cI 3 ((z5_through gm ff gp gc c d p).2.1), kJ mF cJ 6 uu, kA mP cI 180 gp, kA mC cI 360 ((z5_through gm ff gp gc c d p).2.2)]) hx hb hr hlk hS dX5_through_56 (y_53_0_1) he_0.symm (by (try dsimp only); rw [he_1, he_2]; exact hP) (by (try dsimp only); rw [he_1, he_2]; exact hD)
      · skip
        refine lv_ldc hx hb hown k_1 dX5_through_27 ?_
        have he : z5_through gm ff gp gc c d p = ((-1000002), gm, gc) := by unfold z5_through; rw [if_neg c_1, if_neg c_2, if_pos c_3]
        have he_0 : (z5_through gm ff gp gc c d p).1 = (-1000002) := by rw [he]
        have he_1 : (z5_through gm ff gp gc c d p).2.1 = gm := by rw [he]
        have he_2 : (z5_through gm ff gp gc c d p).2.2 = gc := by rw [he]
        exact rt_i (w1 := fun uu : (Nat → Int64) => [kM o mP mL mC mN mF mR mD mV mX mA mK cm mT pm mU mH mI, kA mN cI 3 ((z5_through gm ff gp gc c d p).2.1), kJ mF cJ 6 uu, kA mP cI 180 gp, kA mC cI 360 ((z5_through gm ff gp gc c d p).2.2)]) hx hb hr hlk hS dX5_through_29 (ff) he_0.symm (by (try dsimp only); rw [he_1, he_2]; exact hP) (by (try dsimp only); rw [he_1, he_2]; exact hD)
def z5_detOfMix_v1 (ff : Nat → Int64) (gc : Nat → Int32) (fx : Nat → Int64) (c : Int32) (d : Int32) (u : Int64) (v : Int64) : Nat → Int64 := z5_layMatrix_f1 fx ((z5_mix_f1 ff gc c d u v) 0) ((z5_mix_f1 ff gc c d u v) 1) ((z5_mix_f1 ff gc c d u v) 2) ((z5_mix_f1 ff gc c d u v) 3) ((z5_mix_f1 ff gc c d u v) 4) ((z5_mix_f1 ff gc c d u v) 5)
def z5_detOfMix (ff : Nat → Int64) (gc : Nat → Int32) (fx : Nat → Int64) (fa : Nat → Int64) (c : Int32) (d : Int32) (u : Int64) (v : Int64) : Int64 := z5_det (z5_detOfMix_v1 ff gc fx c d u v) fa
def z5_detOfMix_f1 (ff : Nat → Int64) (gc : Nat → Int32) (c : Int32) (d : Int32) (u : Int64) (v : Int64) : Nat → Int64 := z5_mix_f1 ff gc c d u v
def z5_detOfMix_f3 (ff : Nat → Int64) (gc : Nat → Int32) (fx : Nat → Int64) (c : Int32) (d : Int32) (u : Int64) (v : Int64) : Nat → Int64 := (z5_detOfMix_v1 ff gc fx c d u v)
def z5_detOfMix_f4 (ff : Nat → Int64) (gc : Nat → Int32) (fx : Nat → Int64) (fa : Nat → Int64) (c : Int32) (d : Int32) (u : Int64) (v : Int64) : Nat → Int64 := z5_det_f2 (z5_detOfMix_v1 ff gc fx c d u v) fa
set_option maxHeartbeats 4000000 in
set_option maxRecDepth 100000 in
/-- X5.detOfMix -/
theorem c_X5_detOfMix (l : Launch) (D : va_G) (cI cJ : ClassId) (o : Nat) (mP : Nat) (mL : Nat) (mC : Nat) (mN : Nat) (mF : Nat) (mR : Nat) (mD : Nat) (mV : Nat) (mX : Nat) (mA : Nat) (mK : Nat) (mT : Nat) (mU : Nat) (mH : Nat) (mI : Nat) (cm : Int32) (pm : Int32) (ff : Nat → Int64) (gc : Nat → Int32) (fx : Nat → Int64) (fa : Nat → Int64) (c : Int32) (d : Int32) (u : Int64) (v : Int64) (hc : ok_i c) (hd : ok_i d) : mw_C l yX5_detOfMix wsX5_detOfMix ({ frames := 2, cells := 0, slots := 0, locals := 46 }) D cI cJ [.ref o, .int c, .int d, .long u, .long v] [kM o mP mL mC mN mF mR mD mV mX mA mK cm mT pm mU mH mI, kJ mF cJ 6 ff, kA mC cI 360 gc, kJ mX cJ 9 fx, kJ mA cJ 9 fa] (qe_l (fun (r : Int64) (_ : Unit) => r = z5_detOfMix ff gc fx fa c d u v) (fun uu => [kM o mP mL mC mN mF mR mD mV mX mA mK cm mT pm mU mH mI, kJ mF cJ 6 (z5_detOfMix_f1 ff gc c d u v), kA mC cI 360 gc, kJ mX cJ 9 (z5_detOfMix_f3 ff gc fx c d u v), kJ mA cJ 9 (z5_detOfMix_f4 ff gc fx fa c d u v)])) := by
  refine mw_in (cc := cX5_detOfMix) (lv := [(0, .ref o), (1, .int c), (2, .int d), (3, .long u), (5, .long v)]) (by decide) rfl (Nat.le_of_ble_eq_true rfl) rfl ?_
  intro pG eG sG mG below meth cG ls A hx hb hr hml hown hts hlk hin hP hK hD hA hS hl
  have hown : sG.vm.findClass RX5 = some mG.cls := hown
  have k_1 := hts (.fieldLink RX5 22 "ConicRowsModel" "fresh" "[J") (by decide +kernel)
  have k_2 : ∀ w ∈ wsX50, w ∈ wsX5_detOfMix := by decide +kernel
  refine lv_aload_n hx hb dX5_detOfMix_0 rfl (lv_at hl 0 rfl) ?_
  refine lv_iload_n hx hb dX5_detOfMix_1 rfl (lv_at hl 1 rfl) ?_
  refine lv_iload_n hx hb dX5_detOfMix_2 rfl (lv_at hl 2 rfl) ?_
  refine lv_lload_n hx hb dX5_detOfMix_3 rfl (lv_at hl 3 rfl) ?_
  refine lv_lload hx hb dX5_detOfMix_4 (lv_at hl 4 rfl) ?_
  have hPc := hP.sub (ws' := [kM o mP mL mC mN mF mR mD mV mX mA mK cm mT pm mU mH mI, kJ mF cJ 6 ff, kA mC cI 360 gc]) [0, 1, 2] rfl
  have hDc := hD.sub (ws' := [kM o mP mL mC mN mF mR mD mV mX mA mK cm mT pm mU mH mI, kJ mF cJ 6 ff, kA mC cI 360 gc]) [0, 1, 2] (by decide) rfl
  refine cl_v (wc := [kM o mP mL mC mN mF mR mD mV mX mA mK cm mT pm mU mH mI, kJ mF cJ 6 ff, kA mC cI 360 gc]) (wr := [kJ mX cJ 9 fx, kJ mA cJ 9 fa]) (w1 := fun uu : Unit => [kM o mP mL mC mN mF mR mD mV mX mA mK cm mT pm mU mH mI, kJ mF cJ 6 (z5_mix_f1 ff gc c d u v), kA mC cI 360 gc]) (wn := fun uu : Unit => [kM o mP mL mC mN mF mR mD mV mX mA mK cm mT pm mU mH mI, kJ mF cJ 6 (z5_mix_f1 ff gc c d u v), kA mC cI 360 gc, kJ mX cJ 9 fx, kJ mA cJ 9 fa]) (va_runV (As := [.int c, .int d, .long u, .long v]) (rest := []) ⟨hx, hb, hml, hown, hts⟩ (c_X5_mix l D cI cJ o mP mL mC mN mF mR mD mV mX mA mK mT mU mH mI cm pm ff gc c d u v hc hd _) (cwV 4 hts gX5_detOfMix_X5_mix rfl rfl rfl (by decide +kernel) ⟨Nat.le_of_ble_eq_true rfl, Nat.le_of_ble_eq_true rfl⟩) ⟨gd_blP, va_recv hK.1 hPc (ci := 5) (q0 := 0) rfl rfl, gd_prP hPc hK hDc⟩ rfl rfl hl.1 rfl (lv_room (Nat.le_of_ble_eq_true rfl)) dX5_detOfMix_6 ⟨Nat.zero_le _, Nat.zero_le _⟩) hP hD hS hA [0, 1, 2] [3, 4] rfl rfl (by decide) (by decide) [2, 3, 4, 0, 1] (by decide) (fun _ => rfl) (fun uG H locs hw hP hD hS => ?_)
  have hP : va_P D vwCl [kM o mP mL mC mN mF mR mD mV mX mA mK cm mT pm mU mH mI, kJ mF cJ 6 (z5_mix_f1 ff gc c d u v), kA mC cI 360 gc, kJ mX cJ 9 fx, kJ mA cJ 9 fa] H := hP
  have hD : va_D A [kM o mP mL mC mN mF mR mD mV mX mA mK cm mT pm mU mH mI, kJ mF cJ 6 (z5_mix_f1 ff gc c d u v), kA mC cI 360 gc, kJ mX cJ 9 fx, kJ mA cJ 9 fa] := hD
  clear hPc hDc
  refine lv_aload_n hx hb dX5_detOfMix_9 rfl (lv_at hl 0 rfl) ?_
  refine lv_aload_n hx hb dX5_detOfMix_10 rfl (lv_at hl 0 rfl) ?_
  refine va_get (D := D) (ci := 5) (v := .ref mF) (C := RX5) (T := TX5) (N := 17) hx hb hts k_2 hown hK.1 hP 0 rfl rfl 4 (by decide) k_1 (fun _ h9 => h9) rfl dX5_detOfMix_11 ?_
  refine lv_iconst (v := 0) hx hb dX5_detOfMix_14 (by decide) ?_
  refine ld_l hx hb hK.1 hP 1 1 rfl rfl (ix_lit (by decide)) 0 (by decide) (v := (z5_mix_f1 ff gc c d u v) 0) rfl dX5_detOfMix_15 ?_
  refine lv_aload_n hx hb dX5_detOfMix_16 rfl (lv_at hl 0 rfl) ?_
  refine va_get (D := D) (ci := 5) (v := .ref mF) (C := RX5) (T := TX5) (N := 17) hx hb hts k_2 hown hK.1 hP 0 rfl rfl 4 (by decide) k_1 (fun _ h9 => h9) rfl dX5_detOfMix_17 ?_
  refine lv_iconst (v := 1) hx hb dX5_detOfMix_20 (by decide) ?_
  refine ld_l hx hb hK.1 hP 1 1 rfl rfl (ix_lit (by decide)) 1 (by decide) (v := (z5_mix_f1 ff gc c d u v) 1) rfl dX5_detOfMix_21 ?_
  refine lv_aload_n hx hb dX5_detOfMix_22 rfl (lv_at hl 0 rfl) ?_
  refine va_get (D := D) (ci := 5) (v := .ref mF) (C := RX5) (T := TX5) (N := 17) hx hb hts k_2 hown hK.1 hP 0 rfl rfl 4 (by decide) k_1 (fun _ h9 => h9) rfl dX5_detOfMix_23 ?_
  refine lv_iconst (v := 2) hx hb dX5_detOfMix_26 (by decide) ?_
  refine ld_l hx hb hK.1 hP 1 1 rfl rfl (ix_lit (by decide)) 2 (by decide) (v := (z5_mix_f1 ff gc c d u v) 2) rfl dX5_detOfMix_27 ?_
  refine lv_aload_n hx hb dX5_detOfMix_28 rfl (lv_at hl 0 rfl) ?_
  refine va_get (D := D) (ci := 5) (v := .ref mF) (C := RX5) (T := TX5) (N := 17) hx hb hts k_2 hown hK.1 hP 0 rfl rfl 4 (by decide) k_1 (fun _ h9 => h9) rfl dX5_detOfMix_29 ?_
  refine lv_iconst (v := 3) hx hb dX5_detOfMix_32 (by decide) ?_
  refine ld_l hx hb hK.1 hP 1 1 rfl rfl (ix_lit (by decide)) 3 (by decide) (v := (z5_mix_f1 ff gc c d u v) 3) rfl dX5_detOfMix_33 ?_
  refine lv_aload_n hx hb dX5_detOfMix_34 rfl (lv_at hl 0 rfl) ?_
  refine va_get (D := D) (ci := 5) (v := .ref mF) (C := RX5) (T := TX5) (N := 17) hx hb hts k_2 hown hK.1 hP 0 rfl rfl 4 (by decide) k_1 (fun _ h9 => h9) rfl dX5_detOfMix_35 ?_
  refine lv_iconst (v := 4) hx hb dX5_detOfMix_38 (by decide) ?_
  refine ld_l hx hb hK.1 hP 1 1 rfl rfl (ix_lit (by decide)) 4 (by decide) (v := (z5_mix_f1 ff gc c d u v) 4) rfl dX5_detOfMix_39 ?_
  refine lv_aload_n hx hb dX5_detOfMix_40 rfl (lv_at hl 0 rfl) ?_
  refine va_get (D := D) (ci := 5) (v := .ref mF) (C := RX5) (T := TX5) (N := 17) hx hb hts k_2 hown hK.1 hP 0 rfl rfl 4 (by decide) k_1 (fun _ h9 => h9) rfl dX5_detOfMix_41 ?_
  refine lv_iconst (v := 5) hx hb dX5_detOfMix_44 (by decide) ?_
  refine ld_l hx hb hK.1 hP 1 1 rfl rfl (ix_lit (by decide)) 5 (by decide) (v := (z5_mix_f1 ff gc c d u v) 5) rfl dX5_detOfMix_45 ?_
  have hPc := hP.sub (ws' := [kM o mP mL mC mN mF mR mD mV mX mA mK cm mT pm mU mH mI, kJ mX cJ 9 fx]) [0, 3] rfl
  have hDc := hD.sub (ws' := [kM o mP mL mC mN mF mR mD mV mX mA mK cm mT pm mU mH mI, kJ mX cJ 9 fx]) [0, 3] (by decide) rfl
  refine cl_v (wc := [kM o mP mL mC mN mF mR mD mV mX mA mK cm mT pm mU mH mI, kJ mX cJ 9 fx]) (wr := [kJ mF cJ 6 (z5_mix_f1 ff gc c d u v), kA mC cI 360 gc, kJ mA cJ 9 fa]) (w1 := fun uu : Unit => [kM o mP mL mC mN mF mR mD mV mX mA mK cm mT pm mU mH mI, kJ mX cJ 9 (z5_layMatrix_f1 fx ((z5_mix_f1 ff gc c d u v) 0) ((z5_mix_f1 ff gc c d u v) 1) ((z5_mix_f1 ff gc c d u v) 2) ((z5_mix_f1 ff gc c d u v) 3) ((z5_mix_f1 ff gc c d u v) 4) ((z5_mix_f1 ff gc c d u v) 5))]) (wn := fun uu : Unit => [kM o mP mL mC mN mF mR mD mV mX mA mK cm mT pm mU mH mI, kJ mF cJ 6 (z5_mix_f1 ff gc c d u v), kA mC cI 360 gc, kJ mX cJ 9 (z5_layMatrix_f1 fx ((z5_mix_f1 ff gc c d u v) 0) ((z5_mix_f1 ff gc c d u v) 1) ((z5_mix_f1 ff gc c d u v) 2) ((z5_mix_f1 ff gc c d u v) 3) ((z5_mix_f1 ff gc c d u v) 4) ((z5_mix_f1 ff gc c d u v) 5)), kJ mA cJ 9 fa]) (va_runV (As := [.long ((z5_mix_f1 ff gc c d u v) 0), .long ((z5_mix_f1 ff gc c d u v) 1), .long ((z5_mix_f1 ff gc c d u v) 2), .long ((z5_mix_f1 ff gc c d u v) 3), .long ((z5_mix_f1 ff gc c d u v) 4), .long ((z5_mix_f1 ff gc c d u v) 5)]) (rest := []) ⟨hx, hb, hml, hown, hts⟩ (c_X5_layMatrix l D cI cJ o mP mL mC mN mF mR mD mV mX mA mK mT mU mH mI cm pm fx ((z5_mix_f1 ff gc c d u v) 0) ((z5_mix_f1 ff gc c d u v) 1) ((z5_mix_f1 ff gc c d u v) 2) ((z5_mix_f1 ff gc c d u v) 3) ((z5_mix_f1 ff gc c d u v) 4) ((z5_mix_f1 ff gc c d u v) 5) _) (cwV 6 hts gX5_detOfMix_X5_layMatrix rfl rfl rfl (by decide +kernel) ⟨Nat.le_of_ble_eq_true rfl, Nat.le_of_ble_eq_true rfl⟩) ⟨gd_blP, va_recv hK.1 hPc (ci := 5) (q0 := 0) rfl rfl, gd_prP hPc hK hDc⟩ rfl rfl hl.1 rfl (lv_room (Nat.le_of_ble_eq_true rfl)) dX5_detOfMix_46 ⟨Nat.zero_le _, Nat.zero_le _⟩) hP hD hS hA [0, 3] [1, 2, 4] rfl rfl (by decide) (by decide) [3, 0, 1, 4, 2] (by decide) (fun _ => rfl) (fun uG H locs hw hP hD hS => ?_)
  have hP : va_P D vwCl [kM o mP mL mC mN mF mR mD mV mX mA mK cm mT pm mU mH mI, kJ mF cJ 6 (z5_mix_f1 ff gc c d u v), kA mC cI 360 gc, kJ mX cJ 9 (z5_layMatrix_f1 fx ((z5_mix_f1 ff gc c d u v) 0) ((z5_mix_f1 ff gc c d u v) 1) ((z5_mix_f1 ff gc c d u v) 2) ((z5_mix_f1 ff gc c d u v) 3) ((z5_mix_f1 ff gc c d u v) 4) ((z5_mix_f1 ff gc c d u v) 5)), kJ mA cJ 9 fa] H := hP
  have hD : va_D A [kM o mP mL mC mN mF mR mD mV mX mA mK cm mT pm mU mH mI, kJ mF cJ 6 (z5_mix_f1 ff gc c d u v), kA mC cI 360 gc, kJ mX cJ 9 (z5_layMatrix_f1 fx ((z5_mix_f1 ff gc c d u v) 0) ((z5_mix_f1 ff gc c d u v) 1) ((z5_mix_f1 ff gc c d u v) 2) ((z5_mix_f1 ff gc c d u v) 3) ((z5_mix_f1 ff gc c d u v) 4) ((z5_mix_f1 ff gc c d u v) 5)), kJ mA cJ 9 fa] := hD
  have ea_0 : z5_layMatrix_f1 fx ((z5_mix_f1 ff gc c d u v) 0) ((z5_mix_f1 ff gc c d u v) 1) ((z5_mix_f1 ff gc c d u v) 2) ((z5_mix_f1 ff gc c d u v) 3) ((z5_mix_f1 ff gc c d u v) 4) ((z5_mix_f1 ff gc c d u v) 5) = z5_detOfMix_v1 ff gc fx c d u v := by delta z5_detOfMix_v1; rfl
  rw [ea_0] at hP hD
  clear ea_0
  clear hPc hDc
  refine lv_aload_n hx hb dX5_detOfMix_49 rfl (lv_at hl 0 rfl) ?_
  have hPc := hP.sub (ws' := [kM o mP mL mC mN mF mR mD mV mX mA mK cm mT pm mU mH mI, kJ mX cJ 9 (z5_detOfMix_v1 ff gc fx c d u v), kJ mA cJ 9 fa]) [0, 3, 4] rfl
  have hDc := hD.sub (ws' := [kM o mP mL mC mN mF mR mD mV mX mA mK cm mT pm mU mH mI, kJ mX cJ 9 (z5_detOfMix_v1 ff gc fx c d u v), kJ mA cJ 9 fa]) [0, 3, 4] (by decide) rfl
  refine cl_l (wc := [kM o mP mL mC mN mF mR mD mV mX mA mK cm mT pm mU mH mI, kJ mX cJ 9 (z5_detOfMix_v1 ff gc fx c d u v), kJ mA cJ 9 fa]) (wr := [kJ mF cJ 6 (z5_mix_f1 ff gc c d u v), kA mC cI 360 gc]) (w1 := fun uu : Unit => [kM o mP mL mC mN mF mR mD mV mX mA mK cm mT pm mU mH mI, kJ mX cJ 9 (z5_detOfMix_v1 ff gc fx c d u v), kJ mA cJ 9 (z5_det_f2 (z5_detOfMix_v1 ff gc fx c d u v) fa)]) (wn := fun uu : Unit => [kM o mP mL mC mN mF mR mD mV mX mA mK cm mT pm mU mH mI, kJ mF cJ 6 (z5_mix_f1 ff gc c d u v), kA mC cI 360 gc, kJ mX cJ 9 (z5_detOfMix_v1 ff gc fx c d u v), kJ mA cJ 9 (z5_det_f2 (z5_detOfMix_v1 ff gc fx c d u v) fa)]) (va_runV (As := []) (rest := []) ⟨hx, hb, hml, hown, hts⟩ (c_X5_det l D cI cJ o mP mL mC mN mF mR mD mV mX mA mK mT mU mH mI cm pm (z5_detOfMix_v1 ff gc fx c d u v) fa _) (cwV 0 hts gX5_detOfMix_X5_det rfl rfl rfl (by decide +kernel) ⟨Nat.le_of_ble_eq_true rfl, Nat.le_of_ble_eq_true rfl⟩) ⟨gd_blP, va_recv hK.1 hPc (ci := 5) (q0 := 0) rfl rfl, gd_prP hPc hK hDc⟩ rfl rfl hl.1 rfl (lv_room (Nat.le_of_ble_eq_true rfl)) dX5_detOfMix_50 ⟨Nat.zero_le _, Nat.zero_le _⟩) hP hD hS hA [0, 3, 4] [1, 2] rfl rfl (by decide) (by decide) [2, 0, 1, 3, 4] (by decide) (fun _ => rfl) (fun r_50 uG H locs hw hP hD hS => ?_)
  have hP : va_P D vwCl [kM o mP mL mC mN mF mR mD mV mX mA mK cm mT pm mU mH mI, kJ mF cJ 6 (z5_mix_f1 ff gc c d u v), kA mC cI 360 gc, kJ mX cJ 9 (z5_detOfMix_v1 ff gc fx c d u v), kJ mA cJ 9 (z5_det_f2 (z5_detOfMix_v1 ff gc fx c d u v) fa)] H := hP
  have hD : va_D A [kM o mP mL mC mN mF mR mD mV mX mA mK cm mT pm mU mH mI, kJ mF cJ 6 (z5_mix_f1 ff gc c d u v), kA mC cI 360 gc, kJ mX cJ 9 (z5_detOfMix_v1 ff gc fx c d u v), kJ mA cJ 9 (z5_det_f2 (z5_detOfMix_v1 ff gc fx c d u v) fa)] := hD
  subst hw
  clear hPc hDc
  have he_1 : z5_detOfMix_f1 ff gc c d u v = z5_mix_f1 ff gc c d u v := by delta z5_detOfMix_f1; rfl
  have he_2 : z5_detOfMix_f3 ff gc fx c d u v = (z5_detOfMix_v1 ff gc fx c d u v) := by delta z5_detOfMix_f3; rfl
  have he_3 : z5_detOfMix_f4 ff gc fx fa c d u v = z5_det_f2 (z5_detOfMix_v1 ff gc fx c d u v) fa := by delta z5_detOfMix_f4; rfl
  exact rt_l (w1 := fun uu : Unit => [kM o mP mL mC mN mF mR mD mV mX mA mK cm mT pm mU mH mI, kJ mF cJ 6 (z5_detOfMix_f1 ff gc c d u v), kA mC cI 360 gc, kJ mX cJ 9 (z5_detOfMix_f3 ff gc fx c d u v), kJ mA cJ 9 (z5_detOfMix_f4 ff gc fx fa c d u v)]) hx hb hr hlk hS dX5_detOfMix_53 (()) rfl (by rw [he_1, he_2, he_3]; exact hP) (by rw [he_1, he_2, he_3]; exact hD)
def z5_cubic_v1 (ff : Nat → Int64) (gc : Nat → Int32) (fx : Nat → Int64) (fa : Nat → Int64) (c : Int32) (d : Int32) : Nat → Int64 := z5_detOfMix_f4 ff gc (z5_detOf_f2 gc (z5_detOf_f2 gc fx c) d) (z5_detOf_f3 gc (z5_detOf_f2 gc fx c) (z5_detOf_f3 gc fx fa c) d) c d 1 1
def z5_cubic_v2 (ff : Nat → Int64) (gc : Nat → Int32) (fx : Nat → Int64) (fa : Nat → Int64) (c : Int32) (d : Int32) : Int64 := z5_detOfMix ff gc (z5_detOf_f2 gc (z5_detOf_f2 gc fx c) d) (z5_detOf_f3 gc (z5_detOf_f2 gc fx c) (z5_detOf_f3 gc fx fa c) d) c d 1 1
def z5_cubic_v3 (ff : Nat → Int64) (gc : Nat → Int32) (fx : Nat → Int64) (c : Int32) (d : Int32) : Nat → Int64 := z5_detOfMix_f3 (z5_detOfMix_f1 ff gc c d 1 1) gc (z5_detOfMix_f3 ff gc (z5_detOf_f2 gc (z5_detOf_f2 gc fx c) d) c d 1 1) c d 1 (-1)
def z5_cubic_v4 (ff : Nat → Int64) (gc : Nat → Int32) (fx : Nat → Int64) (fa : Nat → Int64) (c : Int32) (d : Int32) : Nat → Int64 := z5_detOfMix_f4 (z5_detOfMix_f1 ff gc c d 1 1) gc (z5_detOfMix_f3 ff gc (z5_detOf_f2 gc (z5_detOf_f2 gc fx c) d) c d 1 1) (z5_cubic_v1 ff gc fx fa c d) c d 1 (-1)
def z5_cubic_v5 (ff : Nat → Int64) (gc : Nat → Int32) (fx : Nat → Int64) (fa : Nat → Int64) (c : Int32) (d : Int32) : Int64 := z5_detOfMix (z5_detOfMix_f1 ff gc c d 1 1) gc (z5_detOfMix_f3 ff gc (z5_detOf_f2 gc (z5_detOf_f2 gc fx c) d) c d 1 1) (z5_cubic_v1 ff gc fx fa c d) c d 1 (-1)
def z5_cubic (gm : Nat → Int32) (ff : Nat → Int64) (gc : Nat → Int32) (fx : Nat → Int64) (fa : Nat → Int64) (c : Int32) (d : Int32) (k : Int32) : Int64 := if (z5_isOf_2 gm c) = 0 then (-1000002) else if (z5_isOf_2 gm d) = 0 then (-1000002) else if (z5_in k.toInt64 0 3) = 0 then (-1000003) else if k = 0 then z5_detOf gc fx fa c else if k = 3 then z5_detOf gc (z5_detOf_f2 gc fx c) (z5_detOf_f3 gc fx fa c) d else if k = 1 then (((z5_cubic_v2 ff gc fx fa c d) - (z5_cubic_v5 ff gc fx fa c d)) / 2) - (z5_detOf gc (z5_detOf_f2 gc fx c) (z5_detOf_f3 gc fx fa c) d) else (((z5_cubic_v2 ff gc fx fa c d) + (z5_cubic_v5 ff gc fx fa c d)) / 2) - (z5_detOf gc fx fa c)
set_option maxHeartbeats 4000000 in
set_option maxRecDepth 100000 in
/-- X5.cubic -/
theorem c_X5_cubic (l : Launch) (D : va_G) (cI cJ : ClassId) (o : Nat) (mP : Nat) (mL : Nat) (mC : Nat) (mN : Nat) (mF : Nat) (mR : Nat) (mD : Nat) (mV : Nat) (mX : Nat) (mA : Nat) (mK : Nat) (mT : Nat) (mU : Nat) (mH : Nat) (mI : Nat) (cm : Int32) (pm : Int32) (gm : Nat → Int32) (ff : Nat → Int64) (gc : Nat → Int32) (fx : Nat → Int64) (fa : Nat → Int64) (c : Int32) (d : Int32) (k : Int32) (hm2 : n_ok (gm 2)) : mw_C l yX5_cubic wsX5_cubic ({ frames := 3, cells := 0, slots := 0, locals := 75 }) D cI cJ [.ref o, .int c, .int d, .int k] [kM o mP mL mC mN mF mR mD mV mX mA mK cm mT pm mU mH mI, kA mN cI 3 gm, kJ mF cJ 6 ff, kA mC cI 360 gc, kJ mX cJ 9 fx, kJ mA cJ 9 fa] (qe_l (fun (r : Int64) (_ : (Nat → Int64) × (Nat → Int64) × (Nat → Int64)) => r = z5_cubic gm ff gc fx fa c d k) (fun uu => [kM o mP mL mC mN mF mR mD mV mX mA mK cm mT pm mU mH mI, kA mN cI 3 gm, kJ mF cJ 6 uu.1, kA mC cI 360 gc, kJ mX cJ 9 uu.2.1, kJ mA cJ 9 uu.2.2])) := by
  refine mw_in (cc := cX5_cubic) (lv := [(0, .ref o), (1, .int c), (2, .int d), (3, .int k)]) (by decide) rfl (Nat.le_of_ble_eq_true rfl) rfl ?_
  intro pG eG sG mG below meth cG ls A hx hb hr hml hown hts hlk hin hP hK hD hA hS hl
  have hown : sG.vm.findClass RX5 = some mG.cls := hown
  have k_1 := hts (.constantLong RX5 166 (-1000002)) (by decide +kernel)
  have k_2 := hts (.constantLong RX5 178 (3)) (by decide +kernel)
  have k_3 := hts (.constantLong RX5 184 (-1)) (by decide +kernel)
  have k_4 := hts (.constantLong RX5 95 (2)) (by decide +kernel)
  have k_5 := hts (.constantLong RX5 168 (-1000003)) (by decide +kernel)
  refine lv_aload_n hx hb dX5_cubic_0 rfl (lv_at hl 0 rfl) ?_
  refine lv_iconst (v := 2) hx hb dX5_cubic_1 (by decide) ?_
  refine lv_iload_n hx hb dX5_cubic_2 rfl (lv_at hl 1 rfl) ?_
  have hPc := hP.sub (ws' := [kM o mP mL mC mN mF mR mD mV mX mA mK cm mT pm mU mH mI, kA mN cI 3 gm]) [0, 1] rfl
  refine cr_i (va_runV (As := [.int 2, .int c]) (rest := []) ⟨hx, hb, hml, hown, hts⟩ (c_X5_isOf_2 l D cI cJ o mP mL mC mN mF mR mD mV mX mA mK mT mU mH mI cm pm gm c) (cwV 2 hts gX5_cubic_X5_isOf rfl rfl rfl (by decide +kernel) ⟨Nat.le_of_ble_eq_true rfl, Nat.le_of_ble_eq_true rfl⟩) ⟨gd_blR, va_recv hK.1 hPc (ci := 5) (q0 := 0) rfl rfl, gd_prR hPc hK⟩ rfl rfl hl.1 rfl (lv_room (Nat.le_of_ble_eq_true rfl)) dX5_cubic_3 ⟨Nat.zero_le _, Nat.zero_le _⟩) (fun r_3 hw => ?_)
  subst hw
  clear hPc
  refine lv_if_eq (tgt := 18) hx hb dX5_cubic_6 (by decide) (fun c_1 => ?_) (fun c_1 => ?_)
  · skip
    refine lv_ldc2 hx hb hown k_1 dX5_cubic_18 ?_
    have he : z5_cubic gm ff gc fx fa c d k = (-1000002) := by unfold z5_cubic; rw [if_pos c_1]
    exact rt_l (w1 := fun uu : (Nat → Int64) × (Nat → Int64) × (Nat → Int64) => [kM o mP mL mC mN mF mR mD mV mX mA mK cm mT pm mU mH mI, kA mN cI 3 gm, kJ mF cJ 6 uu.1, kA mC cI 360 gc, kJ mX cJ 9 uu.2.1, kJ mA cJ 9 uu.2.2]) hx hb hr hlk hS dX5_cubic_21 ((ff, fx, fa)) he.symm (by (try dsimp only); exact hP) (by (try dsimp only); exact hD)
  · skip
    refine lv_aload_n hx hb dX5_cubic_9 rfl (lv_at hl 0 rfl) ?_
    refine lv_iconst (v := 2) hx hb dX5_cubic_10 (by decide) ?_
    refine lv_iload_n hx hb dX5_cubic_11 rfl (lv_at hl 2 rfl) ?_
    have hPc := hP.sub (ws' := [kM o mP mL mC mN mF mR mD mV mX mA mK cm mT pm mU mH mI, kA mN cI 3 gm]) [0, 1] rfl
    refine cr_i (va_runV (As := [.int 2, .int d]) (rest := []) ⟨hx, hb, hml, hown, hts⟩ (c_X5_isOf_2 l D cI cJ o mP mL mC mN mF mR mD mV mX mA mK mT mU mH mI cm pm gm d) (cwV 2 hts gX5_cubic_X5_isOf rfl rfl rfl (by decide +kernel) ⟨Nat.le_of_ble_eq_true rfl, Nat.le_of_ble_eq_true rfl⟩) ⟨gd_blR, va_recv hK.1 hPc (ci := 5) (q0 := 0) rfl rfl, gd_prR hPc hK⟩ rfl rfl hl.1 rfl (lv_room (Nat.le_of_ble_eq_true rfl)) dX5_cubic_12 ⟨Nat.zero_le _, Nat.zero_le _⟩) (fun r_12 hw => ?_)
    subst hw
    clear hPc
    refine lv_if_ne (tgt := 22) hx hb dX5_cubic_15 (by decide) (fun c_2 => ?_) (fun c_2 => ?_)
    · skip
      refine lv_iload_n hx hb dX5_cubic_22 rfl (lv_at hl 3 rfl) ?_
      refine lv_i2l hx hb dX5_cubic_23 rfl ?_
      refine lv_lconst (v := 0) hx hb dX5_cubic_24 (by decide) ?_
      refine lv_ldc2 hx hb hown k_2 dX5_cubic_25 ?_
      have hPc := hP.sub (ws' := []) [] rfl
      refine cr_i (va_runS (As := [.long k.toInt64, .long 0, .long 3]) (rest := []) ⟨hx, hb, hml, hown, hts⟩ (c_X5_in l D cI cJ k.toInt64 0 3) (va_cwS 3 hts gX5_cubic_X5_in rfl rfl rfl (by decide +kernel) ⟨Nat.le_of_ble_eq_true rfl, Nat.le_of_ble_eq_true rfl⟩) ⟨gd_blR, gd_prR hPc hK⟩ rfl rfl hl.1 rfl (lv_room (Nat.le_of_ble_eq_true rfl)) dX5_cubic_28 ⟨Nat.zero_le _, Nat.zero_le _⟩) (fun r_28 hw => ?_)
      subst hw
      clear hPc
      refine lv_if_ne (tgt := 38) hx hb dX5_cubic_31 (by decide) (fun c_3 => ?_) (fun c_3 => ?_)
      · skip
        refine lv_aload_n hx hb dX5_cubic_38 rfl (lv_at hl 0 rfl) ?_
        refine lv_iload_n hx hb dX5_cubic_39 rfl (lv_at hl 1 rfl) ?_
        have hPc := hP.sub (ws' := [kM o mP mL mC mN mF mR mD mV mX mA mK cm mT pm mU mH mI, kA mC cI 360 gc, kJ mX cJ 9 fx, kJ mA cJ 9 fa]) [0, 3, 4, 5] rfl
        have hDc := hD.sub (ws' := [kM o mP mL mC mN mF mR mD mV mX mA mK cm mT pm mU mH mI, kA mC cI 360 gc, kJ mX cJ 9 fx, kJ mA cJ 9 fa]) [0, 3, 4, 5] (by decide) rfl
        refine cl_l (wc := [kM o mP mL mC mN mF mR mD mV mX mA mK cm mT pm mU mH mI, kA mC cI 360 gc, kJ mX cJ 9 fx, kJ mA cJ 9 fa]) (wr := [kA mN cI 3 gm, kJ mF cJ 6 ff]) (w1 := fun uu : Unit => [kM o mP mL mC mN mF mR mD mV mX mA mK cm mT pm mU mH mI, kA mC cI 360 gc, kJ mX cJ 9 (z5_detOf_f2 gc fx c), kJ mA cJ 9 (z5_detOf_f3 gc fx fa c)]) (wn := fun uu : Unit => [kM o mP mL mC mN mF mR mD mV mX mA mK cm mT pm mU mH mI, kA mN cI 3 gm, kJ mF cJ 6 ff, kA mC cI 360 gc, kJ mX cJ 9 (z5_detOf_f2 gc fx c), kJ mA cJ 9 (z5_detOf_f3 gc fx fa c)]) (va_runV (As := [.int c]) (rest := []) ⟨hx, hb, hml, hown, hts⟩ (c_X5_detOf l D cI cJ o mP mL mC mN mF mR mD mV mX mA mK mT mU mH mI cm pm gc fx fa c (ok_of hm2 c_1) _) (cwV 1 hts gX5_cubic_X5_detOf rfl rfl rfl (by decide +kernel) ⟨Nat.le_of_ble_eq_true rfl, Nat.le_of_ble_eq_true rfl⟩) ⟨gd_blP, va_recv hK.1 hPc (ci := 5) (q0 := 0) rfl rfl, gd_prP hPc hK hDc⟩ rfl rfl hl.1 rfl (lv_room (Nat.le_of_ble_eq_true rfl)) dX5_cubic_40 ⟨Nat.zero_le _, Nat.zero_le _⟩) hP hD hS hA [0, 3, 4, 5] [1, 2] rfl rfl (by decide) (by decide) [2, 0, 1, 3, 4, 5] (by decide) (fun _ => rfl) (fun r_40 uG H locs hw hP hD hS => ?_)
        have hP : va_P D vwCl [kM o mP mL mC mN mF mR mD mV mX mA mK cm mT pm mU mH mI, kA mN cI 3 gm, kJ mF cJ 6 ff, kA mC cI 360 gc, kJ mX cJ 9 (z5_detOf_f2 gc fx c), kJ mA cJ 9 (z5_detOf_f3 gc fx fa c)] H := hP
        have hD : va_D A [kM o mP mL mC mN mF mR mD mV mX mA mK cm mT pm mU mH mI, kA mN cI 3 gm, kJ mF cJ 6 ff, kA mC cI 360 gc, kJ mX cJ 9 (z5_detOf_f2 gc fx c), kJ mA cJ 9 (z5_detOf_f3 gc fx fa c)] := hD
        subst hw
        clear hPc hDc
        refine lv_lstore (lv' := [(4, .long (z5_detOf gc fx fa c)), (0, .ref o), (1, .int c), (2, .int d), (3, .int k)]) hx hb dX5_cubic_43 hl (by decide) rfl (fun ls hl => ?_)
        refine lv_aload_n hx hb dX5_cubic_45 rfl (lv_at hl 1 rfl) ?_
        refine lv_iload_n hx hb dX5_cubic_46 rfl (lv_at hl 3 rfl) ?_
        have hPc := hP.sub (ws' := [kM o mP mL mC mN mF mR mD mV mX mA mK cm mT pm mU mH mI, kA mC cI 360 gc, kJ mX cJ 9 (z5_detOf_f2 gc fx c), kJ mA cJ 9 (z5_detOf_f3 gc fx fa c)]) [0, 3, 4, 5] rfl
        have hDc := hD.sub (ws' := [kM o mP mL mC mN mF mR mD mV mX mA mK cm mT pm mU mH mI, kA mC cI 360 gc, kJ mX cJ 9 (z5_detOf_f2 gc fx c), kJ mA cJ 9 (z5_detOf_f3 gc fx fa c)]) [0, 3, 4, 5] (by decide) rfl
        refine cl_l (wc := [kM o mP mL mC mN mF mR mD mV mX mA mK cm mT pm mU mH mI, kA mC cI 360 gc, kJ mX cJ 9 (z5_detOf_f2 gc fx c), kJ mA cJ 9 (z5_detOf_f3 gc fx fa c)]) (wr := [kA mN cI 3 gm, kJ mF cJ 6 ff]) (w1 := fun uu : Unit => [kM o mP mL mC mN mF mR mD mV mX mA mK cm mT pm mU mH mI, kA mC cI 360 gc, kJ mX cJ 9 (z5_detOf_f2 gc (z5_detOf_f2 gc fx c) d), kJ mA cJ 9 (z5_detOf_f3 gc (z5_detOf_f2 gc fx c) (z5_detOf_f3 gc fx fa c) d)]) (wn := fun uu : Unit => [kM o mP mL mC mN mF mR mD mV mX mA mK cm mT pm mU mH mI, kA mN cI 3 gm, kJ mF cJ 6 ff, kA mC cI 360 gc, kJ mX cJ 9 (z5_detOf_f2 gc (z5_detOf_f2 gc fx c) d), kJ mA cJ 9 (z5_detOf_f3 gc (z5_detOf_f2 gc fx c) (z5_detOf_f3 gc fx fa c) d)]) (va_runV (As := [.int d]) (rest := []) ⟨hx, hb, hml, hown, hts⟩ (c_X5_detOf l D cI cJ o mP mL mC mN mF mR mD mV mX mA mK mT mU mH mI cm pm gc (z5_detOf_f2 gc fx c) (z5_detOf_f3 gc fx fa c) d (ok_of hm2 c_2) _) (cwV 1 hts gX5_cubic_X5_detOf rfl rfl rfl (by decide +kernel) ⟨Nat.le_of_ble_eq_true rfl, Nat.le_of_ble_eq_true rfl⟩) ⟨gd_blP, va_recv hK.1 hPc (ci := 5) (q0 := 0) rfl rfl, gd_prP hPc hK hDc⟩ rfl rfl hl.1 rfl (lv_room (Nat.le_of_ble_eq_true rfl)) dX5_cubic_47 ⟨Nat.zero_le _, Nat.zero_le _⟩) hP hD hS hA [0, 3, 4, 5] [1, 2] rfl rfl (by decide) (by decide) [2, 0, 1, 3, 4, 5] (by decide) (fun _ => rfl) (fun r_47 uG H locs hw hP hD hS => ?_)
        have hP : va_P D vwCl [kM o mP mL mC mN mF mR mD mV mX mA mK cm mT pm mU mH mI, kA mN cI 3 gm, kJ mF cJ 6 ff, kA mC cI 360 gc, kJ mX cJ 9 (z5_detOf_f2 gc (z5_detOf_f2 gc fx c) d), kJ mA cJ 9 (z5_detOf_f3 gc (z5_detOf_f2 gc fx c) (z5_detOf_f3 gc fx fa c) d)] H := hP
        have hD : va_D A [kM o mP mL mC mN mF mR mD mV mX mA mK cm mT pm mU mH mI, kA mN cI 3 gm, kJ mF cJ 6 ff, kA mC cI 360 gc, kJ mX cJ 9 (z5_detOf_f2 gc (z5_detOf_f2 gc fx c) d), kJ mA cJ 9 (z5_detOf_f3 gc (z5_detOf_f2 gc fx c) (z5_detOf_f3 gc fx fa c) d)] := hD
        subst hw
        clear hPc hDc
        refine lv_lstore (lv' := [(6, .long (z5_detOf gc (z5_detOf_f2 gc fx c) (z5_detOf_f3 gc fx fa c) d)), (4, .long (z5_detOf gc fx fa c)), (0, .ref o), (1, .int c), (2, .int d), (3, .int k)]) hx hb dX5_cubic_50 hl (by decide) rfl (fun ls hl => ?_)
        refine lv_aload_n hx hb dX5_cubic_52 rfl (lv_at hl 2 rfl) ?_
        refine lv_iload_n hx hb dX5_cubic_53 rfl (lv_at hl 3 rfl) ?_
        refine lv_iload_n hx hb dX5_cubic_54 rfl (lv_at hl 4 rfl) ?_
        refine lv_lconst (v := 1) hx hb dX5_cubic_55 (by decide) ?_
        refine lv_lconst (v := 1) hx hb dX5_cubic_56 (by decide) ?_
        have hPc := hP.sub (ws' := [kM o mP mL mC mN mF mR mD mV mX mA mK cm mT pm mU mH mI, kJ mF cJ 6 ff, kA mC cI 360 gc, kJ mX cJ 9 (z5_detOf_f2 gc (z5_detOf_f2 gc fx c) d), kJ mA cJ 9 (z5_detOf_f3 gc (z5_detOf_f2 gc fx c) (z5_detOf_f3 gc fx fa c) d)]) [0, 2, 3, 4, 5] rfl
        have hDc := hD.sub (ws' := [kM o mP mL mC mN mF mR mD mV mX mA mK cm mT pm mU mH mI, kJ mF cJ 6 ff, kA mC cI 360 gc, kJ mX cJ 9 (z5_detOf_f2 gc (z5_detOf_f2 gc fx c) d), kJ mA cJ 9 (z5_detOf_f3 gc (z5_detOf_f2 gc fx c) (z5_detOf_f3 gc fx fa c) d)]) [0, 2, 3, 4, 5] (by decide) rfl
        refine cl_l (wc := [kM o mP mL mC mN mF mR mD mV mX mA mK cm mT pm mU mH mI, kJ mF cJ 6 ff, kA mC cI 360 gc, kJ mX cJ 9 (z5_detOf_f2 gc (z5_detOf_f2 gc fx c) d), kJ mA cJ 9 (z5_detOf_f3 gc (z5_detOf_f2 gc fx c) (z5_detOf_f3 gc fx fa c) d)]) (wr := [kA mN cI 3 gm]) (w1 := fun uu : Unit => [kM o mP mL mC mN mF mR mD mV mX mA mK cm mT pm mU mH mI, kJ mF cJ 6 (z5_detOfMix_f1 ff gc c d 1 1), kA mC cI 360 gc, kJ mX cJ 9 (z5_detOfMix_f3 ff gc (z5_detOf_f2 gc (z5_detOf_f2 gc fx c) d) c d 1 1), kJ mA cJ 9 (z5_detOfMix_f4 ff gc (z5_detOf_f2 gc (z5_detOf_f2 gc fx c) d) (z5_detOf_f3 gc (z5_detOf_f2 gc fx c) (z5_detOf_f3 gc fx fa c) d) c d 1 1)]) (wn := fun uu : Unit => [kM o mP mL mC mN mF mR mD mV mX mA mK cm mT pm mU mH mI, kA mN cI 3 gm, kJ mF cJ 6 (z5_detOfMix_f1 ff gc c d 1 1), kA mC cI 360 gc, kJ mX cJ 9 (z5_detOfMix_f3 ff gc (z5_detOf_f2 gc (z5_detOf_f2 gc fx c) d) c d 1 1), kJ mA cJ 9 (z5_detOfMix_f4 ff gc (z5_detOf_f2 gc (z5_detOf_f2 gc fx c) d) (z5_detOf_f3 gc (z5_detOf_f2 gc fx c) (z5_detOf_f3 gc fx fa c) d) c d 1 1)]) (va_runV (As := [.int c, .int d, .long 1, .long 1]) (rest := []) ⟨hx, hb, hml, hown, hts⟩ (c_X5_detOfMix l D cI cJ o mP mL mC mN mF mR mD mV mX mA mK mT mU mH mI cm pm ff gc (z5_detOf_f2 gc (z5_detOf_f2 gc fx c) d) (z5_detOf_f3 gc (z5_detOf_f2 gc fx c) (z5_detOf_f3 gc fx fa c) d) c d 1 1 (ok_of hm2 c_1) (ok_of hm2 c_2) _) (cwV 4 hts gX5_cubic_X5_detOfMix rfl rfl rfl (by decide +kernel) ⟨Nat.le_of_ble_eq_true rfl, Nat.le_of_ble_eq_true rfl⟩) ⟨gd_blP, va_recv hK.1 hPc (ci := 5) (q0 := 0) rfl rfl, gd_prP hPc hK hDc⟩ rfl rfl hl.1 rfl (lv_room (Nat.le_of_ble_eq_true rfl)) dX5_cubic_57 ⟨Nat.zero_le _, Nat.zero_le _⟩) hP hD hS hA [0, 2, 3, 4, 5] [1] rfl rfl (by decide) (by decide) [1, 0, 2, 3, 4, 5] (by decide) (fun _ => rfl) (fun r_57 uG H locs hw hP hD hS => ?_)
        have hP : va_P D vwCl [kM o mP mL mC mN mF mR mD mV mX mA mK cm mT pm mU mH mI, kA mN cI 3 gm, kJ mF cJ 6 (z5_detOfMix_f1 ff gc c d 1 1), kA mC cI 360 gc, kJ mX cJ 9 (z5_detOfMix_f3 ff gc (z5_detOf_f2 gc (z5_detOf_f2 gc fx c) d) c d 1 1), kJ mA cJ 9 (z5_detOfMix_f4 ff gc (z5_detOf_f2 gc (z5_detOf_f2 gc fx c) d) (z5_detOf_f3 gc (z5_detOf_f2 gc fx c) (z5_detOf_f3 gc fx fa c) d) c d 1 1)] H := hP
        have hD : va_D A [kM o mP mL mC mN mF mR mD mV mX mA mK cm mT pm mU mH mI, kA mN cI 3 gm, kJ mF cJ 6 (z5_detOfMix_f1 ff gc c d 1 1), kA mC cI 360 gc, kJ mX cJ 9 (z5_detOfMix_f3 ff gc (z5_detOf_f2 gc (z5_detOf_f2 gc fx c) d) c d 1 1), kJ mA cJ 9 (z5_detOfMix_f4 ff gc (z5_detOf_f2 gc (z5_detOf_f2 gc fx c) d) (z5_detOf_f3 gc (z5_detOf_f2 gc fx c) (z5_detOf_f3 gc fx fa c) d) c d 1 1)] := hD
        have ea_0 : z5_detOfMix_f4 ff gc (z5_detOf_f2 gc (z5_detOf_f2 gc fx c) d) (z5_detOf_f3 gc (z5_detOf_f2 gc fx c) (z5_detOf_f3 gc fx fa c) d) c d 1 1 = z5_cubic_v1 ff gc fx fa c d := by delta z5_cubic_v1; rfl
        rw [ea_0] at hP hD
        clear ea_0
        subst hw
        refine lv_eql (v := z5_cubic_v2 ff gc fx fa c d) (by delta z5_cubic_v2; rfl) ?_
        clear hPc hDc
        refine lv_lstore (lv' := [(8, .long (z5_cubic_v2 ff gc fx fa c d)), (6, .long (z5_detOf gc (z5_detOf_f2 gc fx c) (z5_detOf_f3 gc fx fa c) d)), (4, .long (z5_detOf gc fx fa c)), (0, .ref o), (1, .int c), (2, .int d), (3, .int k)]) hx hb dX5_cubic_60 hl (by decide) rfl (fun ls hl => ?_)
        refine lv_aload_n hx hb dX5_cubic_62 rfl (lv_at hl 3 rfl) ?_
        refine lv_iload_n hx hb dX5_cubic_63 rfl (lv_at hl 4 rfl) ?_
        refine lv_iload_n hx hb dX5_cubic_64 rfl (lv_at hl 5 rfl) ?_
        refine lv_lconst (v := 1) hx hb dX5_cubic_65 (by decide) ?_
        refine lv_ldc2 hx hb hown k_3 dX5_cubic_66 ?_
        have hPc := hP.sub (ws' := [kM o mP mL mC mN mF mR mD mV mX mA mK cm mT pm mU mH mI, kJ mF cJ 6 (z5_detOfMix_f1 ff gc c d 1 1), kA mC cI 360 gc, kJ mX cJ 9 (z5_detOfMix_f3 ff gc (z5_detOf_f2 gc (z5_detOf_f2 gc fx c) d) c d 1 1), kJ mA cJ 9 (z5_cubic_v1 ff gc fx fa c d)]) [0, 2, 3, 4, 5] rfl
        have hDc := hD.sub (ws' := [kM o mP mL mC mN mF mR mD mV mX mA mK cm mT pm mU mH mI, kJ mF cJ 6 (z5_detOfMix_f1 ff gc c d 1 1), kA mC cI 360 gc, kJ mX cJ 9 (z5_detOfMix_f3 ff gc (z5_detOf_f2 gc (z5_detOf_f2 gc fx c) d) c d 1 1), kJ mA cJ 9 (z5_cubic_v1 ff gc fx fa c d)]) [0, 2, 3, 4, 5] (by decide) rfl
        refine cl_l (wc := [kM o mP mL mC mN mF mR mD mV mX mA mK cm mT pm mU mH mI, kJ mF cJ 6 (z5_detOfMix_f1 ff gc c d 1 1), kA mC cI 360 gc, kJ mX cJ 9 (z5_detOfMix_f3 ff gc (z5_detOf_f2 gc (z5_detOf_f2 gc fx c) d) c d 1 1), kJ mA cJ 9 (z5_cubic_v1 ff gc fx fa c d)]) (wr := [kA mN cI 3 gm]) (w1 := fun uu : Unit => [kM o mP mL mC mN mF mR mD mV mX mA mK cm mT pm mU mH mI, kJ mF cJ 6 (z5_detOfMix_f1 (z5_detOfMix_f1 ff gc c d 1 1) gc c d 1 (-1)), kA mC cI 360 gc, kJ mX cJ 9 (z5_detOfMix_f3 (z5_detOfMix_f1 ff gc c d 1 1) gc (z5_detOfMix_f3 ff gc (z5_detOf_f2 gc (z5_detOf_f2 gc fx c) d) c d 1 1) c d 1 (-1)), kJ mA cJ 9 (z5_detOfMix_f4 (z5_detOfMix_f1 ff gc c d 1 1) gc (z5_detOfMix_f3 ff gc (z5_detOf_f2 gc (z5_detOf_f2 gc fx c) d) c d 1 1) (z5_cubic_v1 ff gc fx fa c d) c d 1 (-1))]) (wn := fun uu : Unit => [kM o mP mL mC mN mF mR mD mV mX mA mK cm mT pm mU mH mI, kA mN cI 3 gm, kJ mF cJ 6 (z5_detOfMix_f1 (z5_detOfMix_f1 ff gc c d 1 1) gc c d 1 (-1)), kA mC cI 360 gc, kJ mX cJ 9 (z5_detOfMix_f3 (z5_detOfMix_f1 ff gc c d 1 1) gc (z5_detOfMix_f3 ff gc (z5_detOf_f2 gc (z5_detOf_f2 gc fx c) d) c d 1 1) c d 1 (-1)), kJ mA cJ 9 (z5_detOfMix_f4 (z5_detOfMix_f1 ff gc c d 1 1) gc (z5_detOfMix_f3 ff gc (z5_detOf_f2 gc (z5_detOf_f2 gc fx c) d) c d 1 1) (z5_cubic_v1 ff gc fx fa c d) c d 1 (-1))]) (va_runV (As := [.int c, .int d, .long 1, .long (-1)]) (rest := []) ⟨hx, hb, hml, hown, hts⟩ (c_X5_detOfMix l D cI cJ o mP mL mC mN mF mR mD mV mX mA mK mT mU mH mI cm pm (z5_detOfMix_f1 ff gc c d 1 1) gc (z5_detOfMix_f3 ff gc (z5_detOf_f2 gc (z5_detOf_f2 gc fx c) d) c d 1 1) (z5_cubic_v1 ff gc fx fa c d) c d 1 (-1) (ok_of hm2 c_1) (ok_of hm2 c_2) _) (cwV 4 hts gX5_cubic_X5_detOfMix rfl rfl rfl (by decide +kernel) ⟨Nat.le_of_ble_eq_true rfl, Nat.le_of_ble_eq_true rfl⟩) ⟨gd_blP, va_recv hK.1 hPc (ci := 5) (q0 := 0) rfl rfl, gd_prP hPc hK hDc⟩ rfl rfl hl.1 rfl (lv_room (Nat.le_of_ble_eq_true rfl)) dX5_cubic_69 ⟨Nat.zero_le _, Nat.zero_le _⟩) hP hD hS hA [0, 2, 3, 4, 5] [1] rfl rfl (by decide) (by decide) [1, 0, 2, 3, 4, 5] (by decide) (fun _ => rfl) (fun r_69 uG H locs hw hP hD hS => ?_)
        have hP : va_P D vwCl [kM o mP mL mC mN mF mR mD mV mX mA mK cm mT pm mU mH mI, kA mN cI 3 gm, kJ mF cJ 6 (z5_detOfMix_f1 (z5_detOfMix_f1 ff gc c d 1 1) gc c d 1 (-1)), kA mC cI 360 gc, kJ mX cJ 9 (z5_detOfMix_f3 (z5_detOfMix_f1 ff gc c d 1 1) gc (z5_detOfMix_f3 ff gc (z5_detOf_f2 gc (z5_detOf_f2 gc fx c) d) c d 1 1) c d 1 (-1)), kJ mA cJ 9 (z5_detOfMix_f4 (z5_detOfMix_f1 ff gc c d 1 1) gc (z5_detOfMix_f3 ff gc (z5_detOf_f2 gc (z5_detOf_f2 gc fx c) d) c d 1 1) (z5_cubic_v1 ff gc fx fa c d) c d 1 (-1))] H := hP
        have hD : va_D A [kM o mP mL mC mN mF mR mD mV mX mA mK cm mT pm mU mH mI, kA mN cI 3 gm, kJ mF cJ 6 (z5_detOfMix_f1 (z5_detOfMix_f1 ff gc c d 1 1) gc c d 1 (-1)), kA mC cI 360 gc, kJ mX cJ 9 (z5_detOfMix_f3 (z5_detOfMix_f1 ff gc c d 1 1) gc (z5_detOfMix_f3 ff gc (z5_detOf_f2 gc (z5_detOf_f2 gc fx c) d) c d 1 1) c d 1 (-1)), kJ mA cJ 9 (z5_detOfMix_f4 (z5_detOfMix_f1 ff gc c d 1 1) gc (z5_detOfMix_f3 ff gc (z5_detOf_f2 gc (z5_detOf_f2 gc fx c) d) c d 1 1) (z5_cubic_v1 ff gc fx fa c d) c d 1 (-1))] := hD
        have ea_0 : z5_detOfMix_f3 (z5_detOfMix_f1 ff gc c d 1 1) gc (z5_detOfMix_f3 ff gc (z5_detOf_f2 gc (z5_detOf_f2 gc fx c) d) c d 1 1) c d 1 (-1) = z5_cubic_v3 ff gc fx c d := by delta z5_cubic_v3; rfl
        have ea_1 : z5_detOfMix_f4 (z5_detOfMix_f1 ff gc c d 1 1) gc (z5_detOfMix_f3 ff gc (z5_detOf_f2 gc (z5_detOf_f2 gc fx c) d) c d 1 1) (z5_cubic_v1 ff gc fx fa c d) c d 1 (-1) = z5_cubic_v4 ff gc fx fa c d := by delta z5_cubic_v4; rfl
        rw [ea_0, ea_1] at hP hD
        clear ea_0 ea_1
        subst hw
        refine lv_eql (v := z5_cubic_v5 ff gc fx fa c d) (by delta z5_cubic_v5; rfl) ?_
        clear hPc hDc
        refine lv_lstore (lv' := [(10, .long (z5_cubic_v5 ff gc fx fa c d)), (8, .long (z5_cubic_v2 ff gc fx fa c d)), (6, .long (z5_detOf gc (z5_detOf_f2 gc fx c) (z5_detOf_f3 gc fx fa c) d)), (4, .long (z5_detOf gc fx fa c)), (0, .ref o), (1, .int c), (2, .int d), (3, .int k)]) hx hb dX5_cubic_72 hl (by decide) rfl (fun ls hl => ?_)
        refine lv_iload_n hx hb dX5_cubic_74 rfl (lv_at hl 7 rfl) ?_
        refine lv_if_ne (tgt := 83) hx hb dX5_cubic_75 (by decide) (fun c_4 => ?_) (fun c_4 => ?_)
        · skip
          refine lv_iload_n hx hb dX5_cubic_83 rfl (lv_at hl 7 rfl) ?_
          refine lv_iconst (v := 3) hx hb dX5_cubic_84 (by decide) ?_
          refine lv_icmp_ne (tgt := 93) hx hb dX5_cubic_85 (by decide) (fun c_5 => ?_) (fun c_5 => ?_)
          · skip
            refine lv_iload_n hx hb dX5_cubic_93 rfl (lv_at hl 7 rfl) ?_
            refine lv_iconst (v := 1) hx hb dX5_cubic_94 (by decide) ?_
            refine lv_icmp_ne (tgt := 113) hx hb dX5_cubic_95 (by decide) (fun c_6 => ?_) (fun c_6 => ?_)
            · skip
              refine lv_lload hx hb dX5_cubic_113 (lv_at hl 1 rfl) ?_
              refine lv_lload hx hb dX5_cubic_115 (lv_at hl 0 rfl) ?_
              refine lv_ladd hx hb dX5_cubic_117 ?_
              refine lv_ldc2 hx hb hown k_4 dX5_cubic_118 ?_
              refine lv_ldiv hx hb dX5_cubic_121 (by decide) ?_
              refine lv_lload hx hb dX5_cubic_122 (lv_at hl 3 rfl) ?_
              refine lv_lsub hx hb dX5_cubic_124 ?_
              have he : z5_cubic gm ff gc fx fa c d k = (((z5_cubic_v2 ff gc fx fa c d) + (z5_cubic_v5 ff gc fx fa c d)) / 2) - (z5_detOf gc fx fa c) := by unfold z5_cubic; rw [if_neg c_1, if_neg c_2, if_neg c_3, if_neg c_4, if_neg c_5, if_neg c_6]
              exact rt_l (w1 := fun uu : (Nat → Int64) × (Nat → Int64) × (Nat → Int64) => [kM o mP mL mC mN mF mR mD mV mX mA mK cm mT pm mU mH mI, kA mN cI 3 gm, kJ mF cJ 6 uu.1, kA mC cI 360 gc, kJ mX cJ 9 uu.2.1, kJ mA cJ 9 uu.2.2]) hx hb hr hlk hS dX5_cubic_125 ((z5_detOfMix_f1 (z5_detOfMix_f1 ff gc c d 1 1) gc c d 1 (-1), z5_cubic_v3 ff gc fx c d, z5_cubic_v4 ff gc fx fa c d)) he.symm (by (try dsimp only); exact hP) (by (try dsimp only); exact hD)
            · skip
              refine lv_lload hx hb dX5_cubic_98 (lv_at hl 1 rfl) ?_
              refine lv_lload hx hb dX5_cubic_100 (lv_at hl 0 rfl) ?_
              refine lv_lsub hx hb dX5_cubic_102 ?_
              refine lv_ldc2 hx hb hown k_4 dX5_cubic_103 ?_
              refine lv_ldiv hx hb dX5_cubic_106 (by decide) ?_
              refine lv_lload hx hb dX5_cubic_107 (lv_at hl 2 rfl) ?_
              refine lv_lsub hx hb dX5_cubic_109 ?_
              refine lv_goto (tgt := 125) hx hb dX5_cubic_110 (by decide) ?_
              have he : z5_cubic gm ff gc fx fa c d k = (((z5_cubic_v2 ff gc fx fa c d) - (z5_cubic_v5 ff gc fx fa c d)) / 2) - (z5_detOf gc (z5_detOf_f2 gc fx c) (z5_detOf_f3 gc fx fa c) d) := by unfold z5_cubic; rw [if_neg c_1, if_neg c_2, if_neg c_3, if_neg c_4, if_neg c_5, if_pos c_6]
              exact rt_l (w1 := fun uu : (Nat → Int64) × (Nat → Int64) × (Nat → Int64) => [kM o mP mL mC mN mF mR mD mV mX mA mK cm mT pm mU mH mI, kA mN cI 3 gm, kJ mF cJ 6 uu.1, kA mC cI 360 gc, kJ mX cJ 9 uu.2.1, kJ mA cJ 9 uu.2.2]) hx hb hr hlk hS dX5_cubic_125 ((z5_detOfMix_f1 (z5_detOfMix_f1 ff gc c d 1 1) gc c d 1 (-1), z5_cubic_v3 ff gc fx c d, z5_cubic_v4 ff gc fx fa c d)) he.symm (by (try dsimp only); exact hP) (by (try dsimp only); exact hD)
          · skip
            refine lv_lload hx hb dX5_cubic_88 (lv_at hl 2 rfl) ?_
            refine lv_goto (tgt := 125) hx hb dX5_cubic_90 (by decide) ?_
            have he : z5_cubic gm ff gc fx fa c d k = z5_detOf gc (z5_detOf_f2 gc fx c) (z5_detOf_f3 gc fx fa c) d := by unfold z5_cubic; rw [if_neg c_1, if_neg c_2, if_neg c_3, if_neg c_4, if_pos c_5]
            exact rt_l (w1 := fun uu : (Nat → Int64) × (Nat → Int64) × (Nat → Int64) => [kM o mP mL mC mN mF mR mD mV mX mA mK cm mT pm mU mH mI, kA mN cI 3 gm, kJ mF cJ 6 uu.1, kA mC cI 360 gc, kJ mX cJ 9 uu.2.1, kJ mA cJ 9 uu.2.2]) hx hb hr hlk hS dX5_cubic_125 ((z5_detOfMix_f1 (z5_detOfMix_f1 ff gc c d 1 1) gc c d 1 (-1), z5_cubic_v3 ff gc fx c d, z5_cubic_v4 ff gc fx fa c d)) he.symm (by (try dsimp only); exact hP) (by (try dsimp only); exact hD)
        · skip
          refine lv_lload hx hb dX5_cubic_78 (lv_at hl 3 rfl) ?_
          refine lv_goto (tgt := 125) hx hb dX5_cubic_80 (by decide) ?_
          have he : z5_cubic gm ff gc fx fa c d k = z5_detOf gc fx fa c := by unfold z5_cubic; rw [if_neg c_1, if_neg c_2, if_neg c_3, if_pos c_4]
          exact rt_l (w1 := fun uu : (Nat → Int64) × (Nat → Int64) × (Nat → Int64) => [kM o mP mL mC mN mF mR mD mV mX mA mK cm mT pm mU mH mI, kA mN cI 3 gm, kJ mF cJ 6 uu.1, kA mC cI 360 gc, kJ mX cJ 9 uu.2.1, kJ mA cJ 9 uu.2.2]) hx hb hr hlk hS dX5_cubic_125 ((z5_detOfMix_f1 (z5_detOfMix_f1 ff gc c d 1 1) gc c d 1 (-1), z5_cubic_v3 ff gc fx c d, z5_cubic_v4 ff gc fx fa c d)) he.symm (by (try dsimp only); exact hP) (by (try dsimp only); exact hD)
      · skip
        refine lv_ldc2 hx hb hown k_5 dX5_cubic_34 ?_
        have he : z5_cubic gm ff gc fx fa c d k = (-1000003) := by unfold z5_cubic; rw [if_neg c_1, if_neg c_2, if_pos c_3]
        exact rt_l (w1 := fun uu : (Nat → Int64) × (Nat → Int64) × (Nat → Int64) => [kM o mP mL mC mN mF mR mD mV mX mA mK cm mT pm mU mH mI, kA mN cI 3 gm, kJ mF cJ 6 uu.1, kA mC cI 360 gc, kJ mX cJ 9 uu.2.1, kJ mA cJ 9 uu.2.2]) hx hb hr hlk hS dX5_cubic_37 ((ff, fx, fa)) he.symm (by (try dsimp only); exact hP) (by (try dsimp only); exact hD)
    · skip
      refine lv_ldc2 hx hb hown k_1 dX5_cubic_18 ?_
      have he : z5_cubic gm ff gc fx fa c d k = (-1000002) := by unfold z5_cubic; rw [if_neg c_1, if_pos c_2]
      exact rt_l (w1 := fun uu : (Nat → Int64) × (Nat → Int64) × (Nat → Int64) => [kM o mP mL mC mN mF mR mD mV mX mA mK cm mT pm mU mH mI, kA mN cI 3 gm, kJ mF cJ 6 uu.1, kA mC cI 360 gc, kJ mX cJ 9 uu.2.1, kJ mA cJ 9 uu.2.2]) hx hb hr hlk hS dX5_cubic_21 ((ff, fx, fa)) he.symm (by (try dsimp only); exact hP) (by (try dsimp only); exact hD)
