-- laid by wip/whole/gen
def z5_layRow_0_f1 (fr : Nat → Int64) (gp : Nat → Int32) (p : Int32) : Nat → Int64 := vp_updL (vp_updL (vp_updL (vp_updL (vp_updL (vp_updL fr 0 (((gp ((3 * p).toNatClampNeg)).toInt64) * ((gp ((3 * p).toNatClampNeg)).toInt64))) 1 (((gp ((3 * p).toNatClampNeg)).toInt64) * ((gp (((3 * p) + 1).toNatClampNeg)).toInt64))) 2 (((gp (((3 * p) + 1).toNatClampNeg)).toInt64) * ((gp (((3 * p) + 1).toNatClampNeg)).toInt64))) 3 (((gp ((3 * p).toNatClampNeg)).toInt64) * ((gp (((3 * p) + 2).toNatClampNeg)).toInt64))) 4 (((gp (((3 * p) + 1).toNatClampNeg)).toInt64) * ((gp (((3 * p) + 2).toNatClampNeg)).toInt64))) 5 (((gp (((3 * p) + 2).toNatClampNeg)).toInt64) * ((gp (((3 * p) + 2).toNatClampNeg)).toInt64))
set_option maxHeartbeats 4000000 in
set_option maxRecDepth 100000 in
/-- X5.layRow -/
theorem c_X5_layRow_0 (l : Launch) (D : va_G) (cI cJ : ClassId) (o : Nat) (mP : Nat) (mL : Nat) (mC : Nat) (mN : Nat) (mF : Nat) (mR : Nat) (mD : Nat) (mV : Nat) (mX : Nat) (mA : Nat) (mK : Nat) (mT : Nat) (mU : Nat) (mH : Nat) (mI : Nat) (cm : Int32) (pm : Int32) (fr : Nat → Int64) (gp : Nat → Int32) (p : Int32) (hp : ok_i p) : mw_C l yX5_layRow wsX5_layRow ({ frames := 0, cells := 0, slots := 0, locals := 0 }) D cI cJ [.ref o, .int 0, .int p] [kM o mP mL mC mN mF mR mD mV mX mA mK cm mT pm mU mH mI, kJ mR cJ 30 fr, kA mP cI 180 gp] (qe_v (fun _ : Unit => True) (fun uu => [kM o mP mL mC mN mF mR mD mV mX mA mK cm mT pm mU mH mI, kJ mR cJ 30 (z5_layRow_0_f1 fr gp p), kA mP cI 180 gp])) := by
  refine mw_in (cc := cX5_layRow) (lv := [(0, .ref o), (1, .int 0), (2, .int p)]) (by decide) rfl (Nat.le_of_ble_eq_true rfl) rfl ?_
  intro pG eG sG mG below meth cG ls A hx hb hr hml hown hts hlk hin hP hK hD hA hS hl
  have hown : sG.vm.findClass RX5 = some mG.cls := hown
  have k_1 := hts (.fieldLink RX5 7 "ConicRowsModel" "points" "[I") (by decide +kernel)
  have k_2 : ∀ w ∈ wsX50, w ∈ wsX5_layRow := by decide +kernel
  have k_3 := hts (.fieldLink RX5 26 "ConicRowsModel" "rows" "[J") (by decide +kernel)
  refine lv_aload_n hx hb dX5_layRow_0 rfl (lv_at hl 0 rfl) ?_
  refine va_get (D := D) (ci := 5) (v := .ref mP) (C := RX5) (T := TX5) (N := 17) hx hb hts k_2 hown hK.1 hP 0 rfl rfl 0 (by decide) k_1 (fun _ h9 => h9) rfl dX5_layRow_1 ?_
  refine lv_iconst (v := 3) hx hb dX5_layRow_4 (by decide) ?_
  refine lv_iload_n hx hb dX5_layRow_5 rfl (lv_at hl 2 rfl) ?_
  refine lv_imul hx hb dX5_layRow_6 ?_
  refine ld_i hx hb hK.1 hP 2 0 rfl rfl (ix3z hp) ((3 * p).toNatClampNeg) rfl (v := gp ((3 * p).toNatClampNeg)) rfl dX5_layRow_7 ?_
  refine lv_i2l hx hb dX5_layRow_8 rfl ?_
  refine lv_lstore_n (lv' := [(3, .long ((gp ((3 * p).toNatClampNeg)).toInt64)), (0, .ref o), (1, .int 0), (2, .int p)]) hx hb dX5_layRow_9 rfl hl (by decide) rfl (fun ls hl => ?_)
  refine lv_aload_n hx hb dX5_layRow_10 rfl (lv_at hl 1 rfl) ?_
  refine va_get (D := D) (ci := 5) (v := .ref mP) (C := RX5) (T := TX5) (N := 17) hx hb hts k_2 hown hK.1 hP 0 rfl rfl 0 (by decide) k_1 (fun _ h9 => h9) rfl dX5_layRow_11 ?_
  refine lv_iconst (v := 3) hx hb dX5_layRow_14 (by decide) ?_
  refine lv_iload_n hx hb dX5_layRow_15 rfl (lv_at hl 3 rfl) ?_
  refine lv_imul hx hb dX5_layRow_16 ?_
  refine lv_iconst (v := 1) hx hb dX5_layRow_17 (by decide) ?_
  refine lv_iadd hx hb dX5_layRow_18 ?_
  refine ld_i hx hb hK.1 hP 2 0 rfl rfl (ix3l hp 1 (by decide)) (((3 * p) + 1).toNatClampNeg) rfl (v := gp (((3 * p) + 1).toNatClampNeg)) rfl dX5_layRow_19 ?_
  refine lv_i2l hx hb dX5_layRow_20 rfl ?_
  refine lv_lstore (lv' := [(5, .long ((gp (((3 * p) + 1).toNatClampNeg)).toInt64)), (3, .long ((gp ((3 * p).toNatClampNeg)).toInt64)), (0, .ref o), (1, .int 0), (2, .int p)]) hx hb dX5_layRow_21 hl (by decide) rfl (fun ls hl => ?_)
  refine lv_aload_n hx hb dX5_layRow_23 rfl (lv_at hl 2 rfl) ?_
  refine va_get (D := D) (ci := 5) (v := .ref mP) (C := RX5) (T := TX5) (N := 17) hx hb hts k_2 hown hK.1 hP 0 rfl rfl 0 (by decide) k_1 (fun _ h9 => h9) rfl dX5_layRow_24 ?_
  refine lv_iconst (v := 3) hx hb dX5_layRow_27 (by decide) ?_
  refine lv_iload_n hx hb dX5_layRow_28 rfl (lv_at hl 4 rfl) ?_
  refine lv_imul hx hb dX5_layRow_29 ?_
  refine lv_iconst (v := 2) hx hb dX5_layRow_30 (by decide) ?_
  refine lv_iadd hx hb dX5_layRow_31 ?_
  refine ld_i hx hb hK.1 hP 2 0 rfl rfl (ix3l hp 2 (by decide)) (((3 * p) + 2).toNatClampNeg) rfl (v := gp (((3 * p) + 2).toNatClampNeg)) rfl dX5_layRow_32 ?_
  refine lv_i2l hx hb dX5_layRow_33 rfl ?_
  refine lv_lstore (lv' := [(7, .long ((gp (((3 * p) + 2).toNatClampNeg)).toInt64)), (5, .long ((gp (((3 * p) + 1).toNatClampNeg)).toInt64)), (3, .long ((gp ((3 * p).toNatClampNeg)).toInt64)), (0, .ref o), (1, .int 0), (2, .int p)]) hx hb dX5_layRow_34 hl (by decide) rfl (fun ls hl => ?_)
  refine lv_aload_n hx hb dX5_layRow_36 rfl (lv_at hl 3 rfl) ?_
  refine va_get (D := D) (ci := 5) (v := .ref mR) (C := RX5) (T := TX5) (N := 17) hx hb hts k_2 hown hK.1 hP 0 rfl rfl 5 (by decide) k_3 (fun _ h9 => h9) rfl dX5_layRow_37 ?_
  refine lv_bipush (v := 6) hx hb dX5_layRow_40 (by decide) ?_
  refine lv_iload_n hx hb dX5_layRow_42 rfl (lv_at hl 4 rfl) ?_
  refine lv_imul hx hb dX5_layRow_43 ?_
  refine lv_eqi (v := 0) (by decide) ?_
  refine lv_lload_n hx hb dX5_layRow_44 rfl (lv_at hl 2 rfl) ?_
  refine lv_lload_n hx hb dX5_layRow_45 rfl (lv_at hl 2 rfl) ?_
  refine lv_lmul hx hb dX5_layRow_46 ?_
  refine st_l hx hb hK.1 hP hD hS 1 1 rfl rfl (ix_lit (by decide)) 0 (by decide) dX5_layRow_47 (fun H locs hP hD hS => ?_)
  have hP : va_P D vwCl [kM o mP mL mC mN mF mR mD mV mX mA mK cm mT pm mU mH mI, kJ mR cJ 30 (vp_updL fr 0 (((gp ((3 * p).toNatClampNeg)).toInt64) * ((gp ((3 * p).toNatClampNeg)).toInt64))), kA mP cI 180 gp] H := hP
  have hD : va_D A [kM o mP mL mC mN mF mR mD mV mX mA mK cm mT pm mU mH mI, kJ mR cJ 30 (vp_updL fr 0 (((gp ((3 * p).toNatClampNeg)).toInt64) * ((gp ((3 * p).toNatClampNeg)).toInt64))), kA mP cI 180 gp] := hD
  refine lv_aload_n hx hb dX5_layRow_48 rfl (lv_at hl 3 rfl) ?_
  refine va_get (D := D) (ci := 5) (v := .ref mR) (C := RX5) (T := TX5) (N := 17) hx hb hts k_2 hown hK.1 hP 0 rfl rfl 5 (by decide) k_3 (fun _ h9 => h9) rfl dX5_layRow_49 ?_
  refine lv_bipush (v := 6) hx hb dX5_layRow_52 (by decide) ?_
  refine lv_iload_n hx hb dX5_layRow_54 rfl (lv_at hl 4 rfl) ?_
  refine lv_imul hx hb dX5_layRow_55 ?_
  refine lv_eqi (v := 0) (by decide) ?_
  refine lv_iconst (v := 1) hx hb dX5_layRow_56 (by decide) ?_
  refine lv_iadd hx hb dX5_layRow_57 ?_
  refine lv_eqi (v := 1) (by decide) ?_
  refine lv_lload_n hx hb dX5_layRow_58 rfl (lv_at hl 2 rfl) ?_
  refine lv_lload hx hb dX5_layRow_59 (lv_at hl 1 rfl) ?_
  refine lv_lmul hx hb dX5_layRow_61 ?_
  refine st_l hx hb hK.1 hP hD hS 1 1 rfl rfl (ix_lit (by decide)) 1 (by decide) dX5_layRow_62 (fun H locs hP hD hS => ?_)
  have hP : va_P D vwCl [kM o mP mL mC mN mF mR mD mV mX mA mK cm mT pm mU mH mI, kJ mR cJ 30 (vp_updL (vp_updL fr 0 (((gp ((3 * p).toNatClampNeg)).toInt64) * ((gp ((3 * p).toNatClampNeg)).toInt64))) 1 (((gp ((3 * p).toNatClampNeg)).toInt64) * ((gp (((3 * p) + 1).toNatClampNeg)).toInt64))), kA mP cI 180 gp] H := hP
  have hD : va_D A [kM o mP mL mC mN mF mR mD mV mX mA mK cm mT pm mU mH mI, kJ mR cJ 30 (vp_updL (vp_updL fr 0 (((gp ((3 * p).toNatClampNeg)).toInt64) * ((gp ((3 * p).toNatClampNeg)).toInt64))) 1 (((gp ((3 * p).toNatClampNeg)).toInt64) * ((gp (((3 * p) + 1).toNatClampNeg)).toInt64))), kA mP cI 180 gp] := hD
  refine lv_aload_n hx hb dX5_layRow_63 rfl (lv_at hl 3 rfl) ?_
  refine va_get (D := D) (ci := 5) (v := .ref mR) (C := RX5) (T := TX5) (N := 17) hx hb hts k_2 hown hK.1 hP 0 rfl rfl 5 (by decide) k_3 (fun _ h9 => h9) rfl dX5_layRow_64 ?_
  refine lv_bipush (v := 6) hx hb dX5_layRow_67 (by decide) ?_
  refine lv_iload_n hx hb dX5_layRow_69 rfl (lv_at hl 4 rfl) ?_
  refine lv_imul hx hb dX5_layRow_70 ?_
  refine lv_eqi (v := 0) (by decide) ?_
  refine lv_iconst (v := 2) hx hb dX5_layRow_71 (by decide) ?_
  refine lv_iadd hx hb dX5_layRow_72 ?_
  refine lv_eqi (v := 2) (by decide) ?_
  refine lv_lload hx hb dX5_layRow_73 (lv_at hl 1 rfl) ?_
  refine lv_lload hx hb dX5_layRow_75 (lv_at hl 1 rfl) ?_
  refine lv_lmul hx hb dX5_layRow_77 ?_
  refine st_l hx hb hK.1 hP hD hS 1 1 rfl rfl (ix_lit (by decide)) 2 (by decide) dX5_layRow_78 (fun H locs hP hD hS => ?_)
  have hP : va_P D vwCl [kM o mP mL mC mN mF mR mD mV mX mA mK cm mT pm mU mH mI, kJ mR cJ 30 (vp_updL (vp_updL (vp_updL fr 0 (((gp ((3 * p).toNatClampNeg)).toInt64) * ((gp ((3 * p).toNatClampNeg)).toInt64))) 1 (((gp ((3 * p).toNatClampNeg)).toInt64) * ((gp (((3 * p) + 1).toNatClampNeg)).toInt64))) 2 (((gp (((3 * p) + 1).toNatClampNeg)).toInt64) * ((gp (((3 * p) + 1).toNatClampNeg)).toInt64))), kA mP cI 180 gp] H := hP
  have hD : va_D A [kM o mP mL mC mN mF mR mD mV mX mA mK cm mT pm mU mH mI, kJ mR cJ 30 (vp_updL (vp_updL (vp_updL fr 0 (((gp ((3 * p).toNatClampNeg)).toInt64) * ((gp ((3 * p).toNatClampNeg)).toInt64))) 1 (((gp ((3 * p).toNatClampNeg)).toInt64) * ((gp (((3 * p) + 1).toNatClampNeg)).toInt64))) 2 (((gp (((3 * p) + 1).toNatClampNeg)).toInt64) * ((gp (((3 * p) + 1).toNatClampNeg)).toInt64))), kA mP cI 180 gp] := hD
  refine lv_aload_n hx hb dX5_layRow_79 rfl (lv_at hl 3 rfl) ?_
  refine va_get (D := D) (ci := 5) (v := .ref mR) (C := RX5) (T := TX5) (N := 17) hx hb hts k_2 hown hK.1 hP 0 rfl rfl 5 (by decide) k_3 (fun _ h9 => h9) rfl dX5_layRow_80 ?_
  refine lv_bipush (v := 6) hx hb dX5_layRow_83 (by decide) ?_
  refine lv_iload_n hx hb dX5_layRow_85 rfl (lv_at hl 4 rfl) ?_
  refine lv_imul hx hb dX5_layRow_86 ?_
  refine lv_eqi (v := 0) (by decide) ?_
  refine lv_iconst (v := 3) hx hb dX5_layRow_87 (by decide) ?_
  refine lv_iadd hx hb dX5_layRow_88 ?_
  refine lv_eqi (v := 3) (by decide) ?_
  refine lv_lload_n hx hb dX5_layRow_89 rfl (lv_at hl 2 rfl) ?_
  refine lv_lload hx hb dX5_layRow_90 (lv_at hl 0 rfl) ?_
  refine lv_lmul hx hb dX5_layRow_92 ?_
  refine st_l hx hb hK.1 hP hD hS 1 1 rfl rfl (ix_lit (by decide)) 3 (by decide) dX5_layRow_93 (fun H locs hP hD hS => ?_)
  have hP : va_P D vwCl [kM o mP mL mC mN mF mR mD mV mX mA mK cm mT pm mU mH mI, kJ mR cJ 30 (vp_updL (vp_updL (vp_updL (vp_updL fr 0 (((gp ((3 * p).toNatClampNeg)).toInt64) * ((gp ((3 * p).toNatClampNeg)).toInt64))) 1 (((gp ((3 * p).toNatClampNeg)).toInt64) * ((gp (((3 * p) + 1).toNatClampNeg)).toInt64))) 2 (((gp (((3 * p) + 1).toNatClampNeg)).toInt64) * ((gp (((3 * p) + 1).toNatClampNeg)).toInt64))) 3 (((gp ((3 * p).toNatClampNeg)).toInt64) * ((gp (((3 * p) + 2).toNatClampNeg)).toInt64))), kA mP cI 180 gp] H := hP
  have hD : va_D A [kM o mP mL mC mN mF mR mD mV mX mA mK cm mT pm mU mH mI, kJ mR cJ 30 (vp_updL (vp_updL (vp_updL (vp_updL fr 0 (((gp ((3 * p).toNatClampNeg)).toInt64) * ((gp ((3 * p).toNatClampNeg)).toInt64))) 1 (((gp ((3 * p).toNatClampNeg)).toInt64) * ((gp (((3 * p) + 1).toNatClampNeg)).toInt64))) 2 (((gp (((3 * p) + 1).toNatClampNeg)).toInt64) * ((gp (((3 * p) + 1).toNatClampNeg)).toInt64))) 3 (((gp ((3 * p).toNatClampNeg)).toInt64) * ((gp (((3 * p) + 2).toNatClampNeg)).toInt64))), kA mP cI 180 gp] := hD
  refine lv_aload_n hx hb dX5_layRow_94 rfl (lv_at hl 3 rfl) ?_
  refine va_get (D := D) (ci := 5) (v := .ref mR) (C := RX5) (T := TX5) (N := 17) hx hb hts k_2 hown hK.1 hP 0 rfl rfl 5 (by decide) k_3 (fun _ h9 => h9) rfl dX5_layRow_95 ?_
  refine lv_bipush (v := 6) hx hb dX5_layRow_98 (by decide) ?_
  refine lv_iload_n hx hb dX5_layRow_100 rfl (lv_at hl 4 rfl) ?_
  refine lv_imul hx hb dX5_layRow_101 ?_
  refine lv_eqi (v := 0) (by decide) ?_
  refine lv_iconst (v := 4) hx hb dX5_layRow_102 (by decide) ?_
  refine lv_iadd hx hb dX5_layRow_103 ?_
  refine lv_eqi (v := 4) (by decide) ?_
  refine lv_lload hx hb dX5_layRow_104 (lv_at hl 1 rfl) ?_
  refine lv_lload hx hb dX5_layRow_106 (lv_at hl 0 rfl) ?_
  refine lv_lmul hx hb dX5_layRow_108 ?_
  refine st_l hx hb hK.1 hP hD hS 1 1 rfl rfl (ix_lit (by decide)) 4 (by decide) dX5_layRow_109 (fun H locs hP hD hS => ?_)
  have hP : va_P D vwCl [kM o mP mL mC mN mF mR mD mV mX mA mK cm mT pm mU mH mI, kJ mR cJ 30 (vp_updL (vp_updL (vp_updL (vp_updL (vp_updL fr 0 (((gp ((3 * p).toNatClampNeg)).toInt64) * ((gp ((3 * p).toNatClampNeg)).toInt64))) 1 (((gp ((3 * p).toNatClampNeg)).toInt64) * ((gp (((3 * p) + 1).toNatClampNeg)).toInt64))) 2 (((gp (((3 * p) + 1).toNatClampNeg)).toInt64) * ((gp (((3 * p) + 1).toNatClampNeg)).toInt64))) 3 (((gp ((3 * p).toNatClampNeg)).toInt64) * ((gp (((3 * p) + 2).toNatClampNeg)).toInt64))) 4 (((gp (((3 * p) + 1).toNatClampNeg)).toInt64) * ((gp (((3 * p) + 2).toNatClampNeg)).toInt64))), kA mP cI 180 gp] H := hP
  have hD : va_D A [kM o mP mL mC mN mF mR mD mV mX mA mK cm mT pm mU mH mI, kJ mR cJ 30 (vp_updL (vp_updL (vp_updL (vp_updL (vp_updL fr 0 (((gp ((3 * p).toNatClampNeg)).toInt64) * ((gp ((3 * p).toNatClampNeg)).toInt64))) 1 (((gp ((3 * p).toNatClampNeg)).toInt64) * ((gp (((3 * p) + 1).toNatClampNeg)).toInt64))) 2 (((gp (((3 * p) + 1).toNatClampNeg)).toInt64) * ((gp (((3 * p) + 1).toNatClampNeg)).toInt64))) 3 (((gp ((3 * p).toNatClampNeg)).toInt64) * ((gp (((3 * p) + 2).toNatClampNeg)).toInt64))) 4 (((gp (((3 * p) + 1).toNatClampNeg)).toInt64) * ((gp (((3 * p) + 2).toNatClampNeg)).toInt64))), kA mP cI 180 gp] := hD
  refine lv_aload_n hx hb dX5_layRow_110 rfl (lv_at hl 3 rfl) ?_
  refine va_get (D := D) (ci := 5) (v := .ref mR) (C := RX5) (T := TX5) (N := 17) hx hb hts k_2 hown hK.1 hP 0 rfl rfl 5 (by decide) k_3 (fun _ h9 => h9) rfl dX5_layRow_111 ?_
  refine lv_bipush (v := 6) hx hb dX5_layRow_114 (by decide) ?_
  refine lv_iload_n hx hb dX5_layRow_116 rfl (lv_at hl 4 rfl) ?_
  refine lv_imul hx hb dX5_layRow_117 ?_
  refine lv_eqi (v := 0) (by decide) ?_
  refine lv_iconst (v := 5) hx hb dX5_layRow_118 (by decide) ?_
  refine lv_iadd hx hb dX5_layRow_119 ?_
  refine lv_eqi (v := 5) (by decide) ?_
  refine lv_lload hx hb dX5_layRow_120 (lv_at hl 0 rfl) ?_
  refine lv_lload hx hb dX5_layRow_122 (lv_at hl 0 rfl) ?_
  refine lv_lmul hx hb dX5_layRow_124 ?_
  refine st_l hx hb hK.1 hP hD hS 1 1 rfl rfl (ix_lit (by decide)) 5 (by decide) dX5_layRow_125 (fun H locs hP hD hS => ?_)
  have hP : va_P D vwCl [kM o mP mL mC mN mF mR mD mV mX mA mK cm mT pm mU mH mI, kJ mR cJ 30 (vp_updL (vp_updL (vp_updL (vp_updL (vp_updL (vp_updL fr 0 (((gp ((3 * p).toNatClampNeg)).toInt64) * ((gp ((3 * p).toNatClampNeg)).toInt64))) 1 (((gp ((3 * p).toNatClampNeg)).toInt64) * ((gp (((3 * p) + 1).toNatClampNeg)).toInt64))) 2 (((gp (((3 * p) + 1).toNatClampNeg)).toInt64) * ((gp (((3 * p) + 1).toNatClampNeg)).toInt64))) 3 (((gp ((3 * p).toNatClampNeg)).toInt64) * ((gp (((3 * p) + 2).toNatClampNeg)).toInt64))) 4 (((gp (((3 * p) + 1).toNatClampNeg)).toInt64) * ((gp (((3 * p) + 2).toNatClampNeg)).toInt64))) 5 (((gp (((3 * p) + 2).toNatClampNeg)).toInt64) * ((gp (((3 * p) + 2).toNatClampNeg)).toInt64))), kA mP cI 180 gp] H := hP
  have hD : va_D A [kM o mP mL mC mN mF mR mD mV mX mA mK cm mT pm mU mH mI, kJ mR cJ 30 (vp_updL (vp_updL (vp_updL (vp_updL (vp_updL (vp_updL fr 0 (((gp ((3 * p).toNatClampNeg)).toInt64) * ((gp ((3 * p).toNatClampNeg)).toInt64))) 1 (((gp ((3 * p).toNatClampNeg)).toInt64) * ((gp (((3 * p) + 1).toNatClampNeg)).toInt64))) 2 (((gp (((3 * p) + 1).toNatClampNeg)).toInt64) * ((gp (((3 * p) + 1).toNatClampNeg)).toInt64))) 3 (((gp ((3 * p).toNatClampNeg)).toInt64) * ((gp (((3 * p) + 2).toNatClampNeg)).toInt64))) 4 (((gp (((3 * p) + 1).toNatClampNeg)).toInt64) * ((gp (((3 * p) + 2).toNatClampNeg)).toInt64))) 5 (((gp (((3 * p) + 2).toNatClampNeg)).toInt64) * ((gp (((3 * p) + 2).toNatClampNeg)).toInt64))), kA mP cI 180 gp] := hD
  have he_0 : z5_layRow_0_f1 fr gp p = vp_updL (vp_updL (vp_updL (vp_updL (vp_updL (vp_updL fr 0 (((gp ((3 * p).toNatClampNeg)).toInt64) * ((gp ((3 * p).toNatClampNeg)).toInt64))) 1 (((gp ((3 * p).toNatClampNeg)).toInt64) * ((gp (((3 * p) + 1).toNatClampNeg)).toInt64))) 2 (((gp (((3 * p) + 1).toNatClampNeg)).toInt64) * ((gp (((3 * p) + 1).toNatClampNeg)).toInt64))) 3 (((gp ((3 * p).toNatClampNeg)).toInt64) * ((gp (((3 * p) + 2).toNatClampNeg)).toInt64))) 4 (((gp (((3 * p) + 1).toNatClampNeg)).toInt64) * ((gp (((3 * p) + 2).toNatClampNeg)).toInt64))) 5 (((gp (((3 * p) + 2).toNatClampNeg)).toInt64) * ((gp (((3 * p) + 2).toNatClampNeg)).toInt64)) := by delta z5_layRow_0_f1; rfl
  exact rt_v (w1 := fun uu : Unit => [kM o mP mL mC mN mF mR mD mV mX mA mK cm mT pm mU mH mI, kJ mR cJ 30 (z5_layRow_0_f1 fr gp p), kA mP cI 180 gp]) hx hb hr hlk hS dX5_layRow_126 (()) trivial (by rw [he_0]; exact hP) (by rw [he_0]; exact hD)
def z5_layRow_1_f1 (fr : Nat → Int64) (gp : Nat → Int32) (p : Int32) : Nat → Int64 := vp_updL (vp_updL (vp_updL (vp_updL (vp_updL (vp_updL fr 6 (((gp ((3 * p).toNatClampNeg)).toInt64) * ((gp ((3 * p).toNatClampNeg)).toInt64))) 7 (((gp ((3 * p).toNatClampNeg)).toInt64) * ((gp (((3 * p) + 1).toNatClampNeg)).toInt64))) 8 (((gp (((3 * p) + 1).toNatClampNeg)).toInt64) * ((gp (((3 * p) + 1).toNatClampNeg)).toInt64))) 9 (((gp ((3 * p).toNatClampNeg)).toInt64) * ((gp (((3 * p) + 2).toNatClampNeg)).toInt64))) 10 (((gp (((3 * p) + 1).toNatClampNeg)).toInt64) * ((gp (((3 * p) + 2).toNatClampNeg)).toInt64))) 11 (((gp (((3 * p) + 2).toNatClampNeg)).toInt64) * ((gp (((3 * p) + 2).toNatClampNeg)).toInt64))
set_option maxHeartbeats 4000000 in
set_option maxRecDepth 100000 in
/-- X5.layRow -/
theorem c_X5_layRow_1 (l : Launch) (D : va_G) (cI cJ : ClassId) (o : Nat) (mP : Nat) (mL : Nat) (mC : Nat) (mN : Nat) (mF : Nat) (mR : Nat) (mD : Nat) (mV : Nat) (mX : Nat) (mA : Nat) (mK : Nat) (mT : Nat) (mU : Nat) (mH : Nat) (mI : Nat) (cm : Int32) (pm : Int32) (fr : Nat → Int64) (gp : Nat → Int32) (p : Int32) (hp : ok_i p) : mw_C l yX5_layRow wsX5_layRow ({ frames := 0, cells := 0, slots := 0, locals := 0 }) D cI cJ [.ref o, .int 1, .int p] [kM o mP mL mC mN mF mR mD mV mX mA mK cm mT pm mU mH mI, kJ mR cJ 30 fr, kA mP cI 180 gp] (qe_v (fun _ : Unit => True) (fun uu => [kM o mP mL mC mN mF mR mD mV mX mA mK cm mT pm mU mH mI, kJ mR cJ 30 (z5_layRow_1_f1 fr gp p), kA mP cI 180 gp])) := by
  refine mw_in (cc := cX5_layRow) (lv := [(0, .ref o), (1, .int 1), (2, .int p)]) (by decide) rfl (Nat.le_of_ble_eq_true rfl) rfl ?_
  intro pG eG sG mG below meth cG ls A hx hb hr hml hown hts hlk hin hP hK hD hA hS hl
  have hown : sG.vm.findClass RX5 = some mG.cls := hown
  have k_1 := hts (.fieldLink RX5 7 "ConicRowsModel" "points" "[I") (by decide +kernel)
  have k_2 : ∀ w ∈ wsX50, w ∈ wsX5_layRow := by decide +kernel
  have k_3 := hts (.fieldLink RX5 26 "ConicRowsModel" "rows" "[J") (by decide +kernel)
  refine lv_aload_n hx hb dX5_layRow_0 rfl (lv_at hl 0 rfl) ?_
  refine va_get (D := D) (ci := 5) (v := .ref mP) (C := RX5) (T := TX5) (N := 17) hx hb hts k_2 hown hK.1 hP 0 rfl rfl 0 (by decide) k_1 (fun _ h9 => h9) rfl dX5_layRow_1 ?_
  refine lv_iconst (v := 3) hx hb dX5_layRow_4 (by decide) ?_
  refine lv_iload_n hx hb dX5_layRow_5 rfl (lv_at hl 2 rfl) ?_
  refine lv_imul hx hb dX5_layRow_6 ?_
  refine ld_i hx hb hK.1 hP 2 0 rfl rfl (ix3z hp) ((3 * p).toNatClampNeg) rfl (v := gp ((3 * p).toNatClampNeg)) rfl dX5_layRow_7 ?_
  refine lv_i2l hx hb dX5_layRow_8 rfl ?_
  refine lv_lstore_n (lv' := [(3, .long ((gp ((3 * p).toNatClampNeg)).toInt64)), (0, .ref o), (1, .int 1), (2, .int p)]) hx hb dX5_layRow_9 rfl hl (by decide) rfl (fun ls hl => ?_)
  refine lv_aload_n hx hb dX5_layRow_10 rfl (lv_at hl 1 rfl) ?_
  refine va_get (D := D) (ci := 5) (v := .ref mP) (C := RX5) (T := TX5) (N := 17) hx hb hts k_2 hown hK.1 hP 0 rfl rfl 0 (by decide) k_1 (fun _ h9 => h9) rfl dX5_layRow_11 ?_
  refine lv_iconst (v := 3) hx hb dX5_layRow_14 (by decide) ?_
  refine lv_iload_n hx hb dX5_layRow_15 rfl (lv_at hl 3 rfl) ?_
  refine lv_imul hx hb dX5_layRow_16 ?_
  refine lv_iconst (v := 1) hx hb dX5_layRow_17 (by decide) ?_
  refine lv_iadd hx hb dX5_layRow_18 ?_
  refine ld_i hx hb hK.1 hP 2 0 rfl rfl (ix3l hp 1 (by decide)) (((3 * p) + 1).toNatClampNeg) rfl (v := gp (((3 * p) + 1).toNatClampNeg)) rfl dX5_layRow_19 ?_
  refine lv_i2l hx hb dX5_layRow_20 rfl ?_
  refine lv_lstore (lv' := [(5, .long ((gp (((3 * p) + 1).toNatClampNeg)).toInt64)), (3, .long ((gp ((3 * p).toNatClampNeg)).toInt64)), (0, .ref o), (1, .int 1), (2, .int p)]) hx hb dX5_layRow_21 hl (by decide) rfl (fun ls hl => ?_)
  refine lv_aload_n hx hb dX5_layRow_23 rfl (lv_at hl 2 rfl) ?_
  refine va_get (D := D) (ci := 5) (v := .ref mP) (C := RX5) (T := TX5) (N := 17) hx hb hts k_2 hown hK.1 hP 0 rfl rfl 0 (by decide) k_1 (fun _ h9 => h9) rfl dX5_layRow_24 ?_
  refine lv_iconst (v := 3) hx hb dX5_layRow_27 (by decide) ?_
  refine lv_iload_n hx hb dX5_layRow_28 rfl (lv_at hl 4 rfl) ?_
  refine lv_imul hx hb dX5_layRow_29 ?_
  refine lv_iconst (v := 2) hx hb dX5_layRow_30 (by decide) ?_
  refine lv_iadd hx hb dX5_layRow_31 ?_
  refine ld_i hx hb hK.1 hP 2 0 rfl rfl (ix3l hp 2 (by decide)) (((3 * p) + 2).toNatClampNeg) rfl (v := gp (((3 * p) + 2).toNatClampNeg)) rfl dX5_layRow_32 ?_
  refine lv_i2l hx hb dX5_layRow_33 rfl ?_
  refine lv_lstore (lv' := [(7, .long ((gp (((3 * p) + 2).toNatClampNeg)).toInt64)), (5, .long ((gp (((3 * p) + 1).toNatClampNeg)).toInt64)), (3, .long ((gp ((3 * p).toNatClampNeg)).toInt64)), (0, .ref o), (1, .int 1), (2, .int p)]) hx hb dX5_layRow_34 hl (by decide) rfl (fun ls hl => ?_)
  refine lv_aload_n hx hb dX5_layRow_36 rfl (lv_at hl 3 rfl) ?_
  refine va_get (D := D) (ci := 5) (v := .ref mR) (C := RX5) (T := TX5) (N := 17) hx hb hts k_2 hown hK.1 hP 0 rfl rfl 5 (by decide) k_3 (fun _ h9 => h9) rfl dX5_layRow_37 ?_
  refine lv_bipush (v := 6) hx hb dX5_layRow_40 (by decide) ?_
  refine lv_iload_n hx hb dX5_layRow_42 rfl (lv_at hl 4 rfl) ?_
  refine lv_imul hx hb dX5_layRow_43 ?_
  refine lv_eqi (v := 6) (by decide) ?_
  refine lv_lload_n hx hb dX5_layRow_44 rfl (lv_at hl 2 rfl) ?_
  refine lv_lload_n hx hb dX5_layRow_45 rfl (lv_at hl 2 rfl) ?_
  refine lv_lmul hx hb dX5_layRow_46 ?_
  refine st_l hx hb hK.1 hP hD hS 1 1 rfl rfl (ix_lit (by decide)) 6 (by decide) dX5_layRow_47 (fun H locs hP hD hS => ?_)
  have hP : va_P D vwCl [kM o mP mL mC mN mF mR mD mV mX mA mK cm mT pm mU mH mI, kJ mR cJ 30 (vp_updL fr 6 (((gp ((3 * p).toNatClampNeg)).toInt64) * ((gp ((3 * p).toNatClampNeg)).toInt64))), kA mP cI 180 gp] H := hP
  have hD : va_D A [kM o mP mL mC mN mF mR mD mV mX mA mK cm mT pm mU mH mI, kJ mR cJ 30 (vp_updL fr 6 (((gp ((3 * p).toNatClampNeg)).toInt64) * ((gp ((3 * p).toNatClampNeg)).toInt64))), kA mP cI 180 gp] := hD
  refine lv_aload_n hx hb dX5_layRow_48 rfl (lv_at hl 3 rfl) ?_
  refine va_get (D := D) (ci := 5) (v := .ref mR) (C := RX5) (T := TX5) (N := 17) hx hb hts k_2 hown hK.1 hP 0 rfl rfl 5 (by decide) k_3 (fun _ h9 => h9) rfl dX5_layRow_49 ?_
  refine lv_bipush (v := 6) hx hb dX5_layRow_52 (by decide) ?_
  refine lv_iload_n hx hb dX5_layRow_54 rfl (lv_at hl 4 rfl) ?_
  refine lv_imul hx hb dX5_layRow_55 ?_
  refine lv_eqi (v := 6) (by decide) ?_
  refine lv_iconst (v := 1) hx hb dX5_layRow_56 (by decide) ?_
  refine lv_iadd hx hb dX5_layRow_57 ?_
  refine lv_eqi (v := 7) (by decide) ?_
  refine lv_lload_n hx hb dX5_layRow_58 rfl (lv_at hl 2 rfl) ?_
  refine lv_lload hx hb dX5_layRow_59 (lv_at hl 1 rfl) ?_
  refine lv_lmul hx hb dX5_layRow_61 ?_
  refine st_l hx hb hK.1 hP hD hS 1 1 rfl rfl (ix_lit (by decide)) 7 (by decide) dX5_layRow_62 (fun H locs hP hD hS => ?_)
  have hP : va_P D vwCl [kM o mP mL mC mN mF mR mD mV mX mA mK cm mT pm mU mH mI, kJ mR cJ 30 (vp_updL (vp_updL fr 6 (((gp ((3 * p).toNatClampNeg)).toInt64) * ((gp ((3 * p).toNatClampNeg)).toInt64))) 7 (((gp ((3 * p).toNatClampNeg)).toInt64) * ((gp (((3 * p) + 1).toNatClampNeg)).toInt64))), kA mP cI 180 gp] H := hP
  have hD : va_D A [kM o mP mL mC mN mF mR mD mV mX mA mK cm mT pm mU mH mI, kJ mR cJ 30 (vp_updL (vp_updL fr 6 (((gp ((3 * p).toNatClampNeg)).toInt64) * ((gp ((3 * p).toNatClampNeg)).toInt64))) 7 (((gp ((3 * p).toNatClampNeg)).toInt64) * ((gp (((3 * p) + 1).toNatClampNeg)).toInt64))), kA mP cI 180 gp] := hD
  refine lv_aload_n hx hb dX5_layRow_63 rfl (lv_at hl 3 rfl) ?_
  refine va_get (D := D) (ci := 5) (v := .ref mR) (C := RX5) (T := TX5) (N := 17) hx hb hts k_2 hown hK.1 hP 0 rfl rfl 5 (by decide) k_3 (fun _ h9 => h9) rfl dX5_layRow_64 ?_
  refine lv_bipush (v := 6) hx hb dX5_layRow_67 (by decide) ?_
  refine lv_iload_n hx hb dX5_layRow_69 rfl (lv_at hl 4 rfl) ?_
  refine lv_imul hx hb dX5_layRow_70 ?_
  refine lv_eqi (v := 6) (by decide) ?_
  refine lv_iconst (v := 2) hx hb dX5_layRow_71 (by decide) ?_
  refine lv_iadd hx hb dX5_layRow_72 ?_
  refine lv_eqi (v := 8) (by decide) ?_
  refine lv_lload hx hb dX5_layRow_73 (lv_at hl 1 rfl) ?_
  refine lv_lload hx hb dX5_layRow_75 (lv_at hl 1 rfl) ?_
  refine lv_lmul hx hb dX5_layRow_77 ?_
  refine st_l hx hb hK.1 hP hD hS 1 1 rfl rfl (ix_lit (by decide)) 8 (by decide) dX5_layRow_78 (fun H locs hP hD hS => ?_)
  have hP : va_P D vwCl [kM o mP mL mC mN mF mR mD mV mX mA mK cm mT pm mU mH mI, kJ mR cJ 30 (vp_updL (vp_updL (vp_updL fr 6 (((gp ((3 * p).toNatClampNeg)).toInt64) * ((gp ((3 * p).toNatClampNeg)).toInt64))) 7 (((gp ((3 * p).toNatClampNeg)).toInt64) * ((gp (((3 * p) + 1).toNatClampNeg)).toInt64))) 8 (((gp (((3 * p) + 1).toNatClampNeg)).toInt64) * ((gp (((3 * p) + 1).toNatClampNeg)).toInt64))), kA mP cI 180 gp] H := hP
  have hD : va_D A [kM o mP mL mC mN mF mR mD mV mX mA mK cm mT pm mU mH mI, kJ mR cJ 30 (vp_updL (vp_updL (vp_updL fr 6 (((gp ((3 * p).toNatClampNeg)).toInt64) * ((gp ((3 * p).toNatClampNeg)).toInt64))) 7 (((gp ((3 * p).toNatClampNeg)).toInt64) * ((gp (((3 * p) + 1).toNatClampNeg)).toInt64))) 8 (((gp (((3 * p) + 1).toNatClampNeg)).toInt64) * ((gp (((3 * p) + 1).toNatClampNeg)).toInt64))), kA mP cI 180 gp] := hD
  refine lv_aload_n hx hb dX5_layRow_79 rfl (lv_at hl 3 rfl) ?_
  refine va_get (D := D) (ci := 5) (v := .ref mR) (C := RX5) (T := TX5) (N := 17) hx hb hts k_2 hown hK.1 hP 0 rfl rfl 5 (by decide) k_3 (fun _ h9 => h9) rfl dX5_layRow_80 ?_
  refine lv_bipush (v := 6) hx hb dX5_layRow_83 (by decide) ?_
  refine lv_iload_n hx hb dX5_layRow_85 rfl (lv_at hl 4 rfl) ?_
  refine lv_imul hx hb dX5_layRow_86 ?_
  refine lv_eqi (v := 6) (by decide) ?_
  refine lv_iconst (v := 3) hx hb dX5_layRow_87 (by decide) ?_
  refine lv_iadd hx hb dX5_layRow_88 ?_
  refine lv_eqi (v := 9) (by decide) ?_
  refine lv_lload_n hx hb dX5_layRow_89 rfl (lv_at hl 2 rfl) ?_
  refine lv_lload hx hb dX5_layRow_90 (lv_at hl 0 rfl) ?_
  refine lv_lmul hx hb dX5_layRow_92 ?_
  refine st_l hx hb hK.1 hP hD hS 1 1 rfl rfl (ix_lit (by decide)) 9 (by decide) dX5_layRow_93 (fun H locs hP hD hS => ?_)
  have hP : va_P D vwCl [kM o mP mL mC mN mF mR mD mV mX mA mK cm mT pm mU mH mI, kJ mR cJ 30 (vp_updL (vp_updL (vp_updL (vp_updL fr 6 (((gp ((3 * p).toNatClampNeg)).toInt64) * ((gp ((3 * p).toNatClampNeg)).toInt64))) 7 (((gp ((3 * p).toNatClampNeg)).toInt64) * ((gp (((3 * p) + 1).toNatClampNeg)).toInt64))) 8 (((gp (((3 * p) + 1).toNatClampNeg)).toInt64) * ((gp (((3 * p) + 1).toNatClampNeg)).toInt64))) 9 (((gp ((3 * p).toNatClampNeg)).toInt64) * ((gp (((3 * p) + 2).toNatClampNeg)).toInt64))), kA mP cI 180 gp] H := hP
  have hD : va_D A [kM o mP mL mC mN mF mR mD mV mX mA mK cm mT pm mU mH mI, kJ mR cJ 30 (vp_updL (vp_updL (vp_updL (vp_updL fr 6 (((gp ((3 * p).toNatClampNeg)).toInt64) * ((gp ((3 * p).toNatClampNeg)).toInt64))) 7 (((gp ((3 * p).toNatClampNeg)).toInt64) * ((gp (((3 * p) + 1).toNatClampNeg)).toInt64))) 8 (((gp (((3 * p) + 1).toNatClampNeg)).toInt64) * ((gp (((3 * p) + 1).toNatClampNeg)).toInt64))) 9 (((gp ((3 * p).toNatClampNeg)).toInt64) * ((gp (((3 * p) + 2).toNatClampNeg)).toInt64))), kA mP cI 180 gp] := hD
  refine lv_aload_n hx hb dX5_layRow_94 rfl (lv_at hl 3 rfl) ?_
  refine va_get (D := D) (ci := 5) (v := .ref mR) (C := RX5) (T := TX5) (N := 17) hx hb hts k_2 hown hK.1 hP 0 rfl rfl 5 (by decide) k_3 (fun _ h9 => h9) rfl dX5_layRow_95 ?_
  refine lv_bipush (v := 6) hx hb dX5_layRow_98 (by decide) ?_
  refine lv_iload_n hx hb dX5_layRow_100 rfl (lv_at hl 4 rfl) ?_
  refine lv_imul hx hb dX5_layRow_101 ?_
  refine lv_eqi (v := 6) (by decide) ?_
  refine lv_iconst (v := 4) hx hb dX5_layRow_102 (by decide) ?_
  refine lv_iadd hx hb dX5_layRow_103 ?_
  refine lv_eqi (v := 10) (by decide) ?_
  refine lv_lload hx hb dX5_layRow_104 (lv_at hl 1 rfl) ?_
  refine lv_lload hx hb dX5_layRow_106 (lv_at hl 0 rfl) ?_
  refine lv_lmul hx hb dX5_layRow_108 ?_
  refine st_l hx hb hK.1 hP hD hS 1 1 rfl rfl (ix_lit (by decide)) 10 (by decide) dX5_layRow_109 (fun H locs hP hD hS => ?_)
  have hP : va_P D vwCl [kM o mP mL mC mN mF mR mD mV mX mA mK cm mT pm mU mH mI, kJ mR cJ 30 (vp_updL (vp_updL (vp_updL (vp_updL (vp_updL fr 6 (((gp ((3 * p).toNatClampNeg)).toInt64) * ((gp ((3 * p).toNatClampNeg)).toInt64))) 7 (((gp ((3 * p).toNatClampNeg)).toInt64) * ((gp (((3 * p) + 1).toNatClampNeg)).toInt64))) 8 (((gp (((3 * p) + 1).toNatClampNeg)).toInt64) * ((gp (((3 * p) + 1).toNatClampNeg)).toInt64))) 9 (((gp ((3 * p).toNatClampNeg)).toInt64) * ((gp (((3 * p) + 2).toNatClampNeg)).toInt64))) 10 (((gp (((3 * p) + 1).toNatClampNeg)).toInt64) * ((gp (((3 * p) + 2).toNatClampNeg)).toInt64))), kA mP cI 180 gp] H := hP
  have hD : va_D A [kM o mP mL mC mN mF mR mD mV mX mA mK cm mT pm mU mH mI, kJ mR cJ 30 (vp_updL (vp_updL (vp_updL (vp_updL (vp_updL fr 6 (((gp ((3 * p).toNatClampNeg)).toInt64) * ((gp ((3 * p).toNatClampNeg)).toInt64))) 7 (((gp ((3 * p).toNatClampNeg)).toInt64) * ((gp (((3 * p) + 1).toNatClampNeg)).toInt64))) 8 (((gp (((3 * p) + 1).toNatClampNeg)).toInt64) * ((gp (((3 * p) + 1).toNatClampNeg)).toInt64))) 9 (((gp ((3 * p).toNatClampNeg)).toInt64) * ((gp (((3 * p) + 2).toNatClampNeg)).toInt64))) 10 (((gp (((3 * p) + 1).toNatClampNeg)).toInt64) * ((gp (((3 * p) + 2).toNatClampNeg)).toInt64))), kA mP cI 180 gp] := hD
  refine lv_aload_n hx hb dX5_layRow_110 rfl (lv_at hl 3 rfl) ?_
  refine va_get (D := D) (ci := 5) (v := .ref mR) (C := RX5) (T := TX5) (N := 17) hx hb hts k_2 hown hK.1 hP 0 rfl rfl 5 (by decide) k_3 (fun _ h9 => h9) rfl dX5_layRow_111 ?_
  refine lv_bipush (v := 6) hx hb dX5_layRow_114 (by decide) ?_
  refine lv_iload_n hx hb dX5_layRow_116 rfl (lv_at hl 4 rfl) ?_
  refine lv_imul hx hb dX5_layRow_117 ?_
  refine lv_eqi (v := 6) (by decide) ?_
  refine lv_iconst (v := 5) hx hb dX5_layRow_118 (by decide) ?_
  refine lv_iadd hx hb dX5_layRow_119 ?_
  refine lv_eqi (v := 11) (by decide) ?_
  refine lv_lload hx hb dX5_layRow_120 (lv_at hl 0 rfl) ?_
  refine lv_lload hx hb dX5_layRow_122 (lv_at hl 0 rfl) ?_
  refine lv_lmul hx hb dX5_layRow_124 ?_
  refine st_l hx hb hK.1 hP hD hS 1 1 rfl rfl (ix_lit (by decide)) 11 (by decide) dX5_layRow_125 (fun H locs hP hD hS => ?_)
  have hP : va_P D vwCl [kM o mP mL mC mN mF mR mD mV mX mA mK cm mT pm mU mH mI, kJ mR cJ 30 (vp_updL (vp_updL (vp_updL (vp_updL (vp_updL (vp_updL fr 6 (((gp ((3 * p).toNatClampNeg)).toInt64) * ((gp ((3 * p).toNatClampNeg)).toInt64))) 7 (((gp ((3 * p).toNatClampNeg)).toInt64) * ((gp (((3 * p) + 1).toNatClampNeg)).toInt64))) 8 (((gp (((3 * p) + 1).toNatClampNeg)).toInt64) * ((gp (((3 * p) + 1).toNatClampNeg)).toInt64))) 9 (((gp ((3 * p).toNatClampNeg)).toInt64) * ((gp (((3 * p) + 2).toNatClampNeg)).toInt64))) 10 (((gp (((3 * p) + 1).toNatClampNeg)).toInt64) * ((gp (((3 * p) + 2).toNatClampNeg)).toInt64))) 11 (((gp (((3 * p) + 2).toNatClampNeg)).toInt64) * ((gp (((3 * p) + 2).toNatClampNeg)).toInt64))), kA mP cI 180 gp] H := hP
  have hD : va_D A [kM o mP mL mC mN mF mR mD mV mX mA mK cm mT pm mU mH mI, kJ mR cJ 30 (vp_updL (vp_updL (vp_updL (vp_updL (vp_updL (vp_updL fr 6 (((gp ((3 * p).toNatClampNeg)).toInt64) * ((gp ((3 * p).toNatClampNeg)).toInt64))) 7 (((gp ((3 * p).toNatClampNeg)).toInt64) * ((gp (((3 * p) + 1).toNatClampNeg)).toInt64))) 8 (((gp (((3 * p) + 1).toNatClampNeg)).toInt64) * ((gp (((3 * p) + 1).toNatClampNeg)).toInt64))) 9 (((gp ((3 * p).toNatClampNeg)).toInt64) * ((gp (((3 * p) + 2).toNatClampNeg)).toInt64))) 10 (((gp (((3 * p) + 1).toNatClampNeg)).toInt64) * ((gp (((3 * p) + 2).toNatClampNeg)).toInt64))) 11 (((gp (((3 * p) + 2).toNatClampNeg)).toInt64) * ((gp (((3 * p) + 2).toNatClampNeg)).toInt64))), kA mP cI 180 gp] := hD
  have he_0 : z5_layRow_1_f1 fr gp p = vp_updL (vp_updL (vp_updL (vp_updL (vp_updL (vp_updL fr 6 (((gp ((3 * p).toNatClampNeg)).toInt64) * ((gp ((3 * p).toNatClampNeg)).toInt64))) 7 (((gp ((3 * p).toNatClampNeg)).toInt64) * ((gp (((3 * p) + 1).toNatClampNeg)).toInt64))) 8 (((gp (((3 * p) + 1).toNatClampNeg)).toInt64) * ((gp (((3 * p) + 1).toNatClampNeg)).toInt64))) 9 (((gp ((3 * p).toNatClampNeg)).toInt64) * ((gp (((3 * p) + 2).toNatClampNeg)).toInt64))) 10 (((gp (((3 * p) + 1).toNatClampNeg)).toInt64) * ((gp (((3 * p) + 2).toNatClampNeg)).toInt64))) 11 (((gp (((3 * p) + 2).toNatClampNeg)).toInt64) * ((gp (((3 * p) + 2).toNatClampNeg)).toInt64)) := by delta z5_layRow_1_f1; rfl
  exact rt_v (w1 := fun uu : Unit => [kM o mP mL mC mN mF mR mD mV mX mA mK cm mT pm mU mH mI, kJ mR cJ 30 (z5_layRow_1_f1 fr gp p), kA mP cI 180 gp]) hx hb hr hlk hS dX5_layRow_126 (()) trivial (by rw [he_0]; exact hP) (by rw [he_0]; exact hD)
def z5_layRow_2_f1 (fr : Nat → Int64) (gp : Nat → Int32) (p : Int32) : Nat → Int64 := vp_updL (vp_updL (vp_updL (vp_updL (vp_updL (vp_updL fr 12 (((gp ((3 * p).toNatClampNeg)).toInt64) * ((gp ((3 * p).toNatClampNeg)).toInt64))) 13 (((gp ((3 * p).toNatClampNeg)).toInt64) * ((gp (((3 * p) + 1).toNatClampNeg)).toInt64))) 14 (((gp (((3 * p) + 1).toNatClampNeg)).toInt64) * ((gp (((3 * p) + 1).toNatClampNeg)).toInt64))) 15 (((gp ((3 * p).toNatClampNeg)).toInt64) * ((gp (((3 * p) + 2).toNatClampNeg)).toInt64))) 16 (((gp (((3 * p) + 1).toNatClampNeg)).toInt64) * ((gp (((3 * p) + 2).toNatClampNeg)).toInt64))) 17 (((gp (((3 * p) + 2).toNatClampNeg)).toInt64) * ((gp (((3 * p) + 2).toNatClampNeg)).toInt64))
set_option maxHeartbeats 4000000 in
set_option maxRecDepth 100000 in
/-- X5.layRow -/
theorem c_X5_layRow_2 (l : Launch) (D : va_G) (cI cJ : ClassId) (o : Nat) (mP : Nat) (mL : Nat) (mC : Nat) (mN : Nat) (mF : Nat) (mR : Nat) (mD : Nat) (mV : Nat) (mX : Nat) (mA : Nat) (mK : Nat) (mT : Nat) (mU : Nat) (mH : Nat) (mI : Nat) (cm : Int32) (pm : Int32) (fr : Nat → Int64) (gp : Nat → Int32) (p : Int32) (hp : ok_i p) : mw_C l yX5_layRow wsX5_layRow ({ frames := 0, cells := 0, slots := 0, locals := 0 }) D cI cJ [.ref o, .int 2, .int p] [kM o mP mL mC mN mF mR mD mV mX mA mK cm mT pm mU mH mI, kJ mR cJ 30 fr, kA mP cI 180 gp] (qe_v (fun _ : Unit => True) (fun uu => [kM o mP mL mC mN mF mR mD mV mX mA mK cm mT pm mU mH mI, kJ mR cJ 30 (z5_layRow_2_f1 fr gp p), kA mP cI 180 gp])) := by
  refine mw_in (cc := cX5_layRow) (lv := [(0, .ref o), (1, .int 2), (2, .int p)]) (by decide) rfl (Nat.le_of_ble_eq_true rfl) rfl ?_
  intro pG eG sG mG below meth cG ls A hx hb hr hml hown hts hlk hin hP hK hD hA hS hl
  have hown : sG.vm.findClass RX5 = some mG.cls := hown
  have k_1 := hts (.fieldLink RX5 7 "ConicRowsModel" "points" "[I") (by decide +kernel)
  have k_2 : ∀ w ∈ wsX50, w ∈ wsX5_layRow := by decide +kernel
  have k_3 := hts (.fieldLink RX5 26 "ConicRowsModel" "rows" "[J") (by decide +kernel)
  refine lv_aload_n hx hb dX5_layRow_0 rfl (lv_at hl 0 rfl) ?_
  refine va_get (D := D) (ci := 5) (v := .ref mP) (C := RX5) (T := TX5) (N := 17) hx hb hts k_2 hown hK.1 hP 0 rfl rfl 0 (by decide) k_1 (fun _ h9 => h9) rfl dX5_layRow_1 ?_
  refine lv_iconst (v := 3) hx hb dX5_layRow_4 (by decide) ?_
  refine lv_iload_n hx hb dX5_layRow_5 rfl (lv_at hl 2 rfl) ?_
  refine lv_imul hx hb dX5_layRow_6 ?_
  refine ld_i hx hb hK.1 hP 2 0 rfl rfl (ix3z hp) ((3 * p).toNatClampNeg) rfl (v := gp ((3 * p).toNatClampNeg)) rfl dX5_layRow_7 ?_
  refine lv_i2l hx hb dX5_layRow_8 rfl ?_
  refine lv_lstore_n (lv' := [(3, .long ((gp ((3 * p).toNatClampNeg)).toInt64)), (0, .ref o), (1, .int 2), (2, .int p)]) hx hb dX5_layRow_9 rfl hl (by decide) rfl (fun ls hl => ?_)
  refine lv_aload_n hx hb dX5_layRow_10 rfl (lv_at hl 1 rfl) ?_
  refine va_get (D := D) (ci := 5) (v := .ref mP) (C := RX5) (T := TX5) (N := 17) hx hb hts k_2 hown hK.1 hP 0 rfl rfl 0 (by decide) k_1 (fun _ h9 => h9) rfl dX5_layRow_11 ?_
  refine lv_iconst (v := 3) hx hb dX5_layRow_14 (by decide) ?_
  refine lv_iload_n hx hb dX5_layRow_15 rfl (lv_at hl 3 rfl) ?_
  refine lv_imul hx hb dX5_layRow_16 ?_
  refine lv_iconst (v := 1) hx hb dX5_layRow_17 (by decide) ?_
  refine lv_iadd hx hb dX5_layRow_18 ?_
  refine ld_i hx hb hK.1 hP 2 0 rfl rfl (ix3l hp 1 (by decide)) (((3 * p) + 1).toNatClampNeg) rfl (v := gp (((3 * p) + 1).toNatClampNeg)) rfl dX5_layRow_19 ?_
  refine lv_i2l hx hb dX5_layRow_20 rfl ?_
  refine lv_lstore (lv' := [(5, .long ((gp (((3 * p) + 1).toNatClampNeg)).toInt64)), (3, .long ((gp ((3 * p).toNatClampNeg)).toInt64)), (0, .ref o), (1, .int 2), (2, .int p)]) hx hb dX5_layRow_21 hl (by decide) rfl (fun ls hl => ?_)
  refine lv_aload_n hx hb dX5_layRow_23 rfl (lv_at hl 2 rfl) ?_
  refine va_get (D := D) (ci := 5) (v := .ref mP) (C := RX5) (T := TX5) (N := 17) hx hb hts k_2 hown hK.1 hP 0 rfl rfl 0 (by decide) k_1 (fun _ h9 => h9) rfl dX5_layRow_24 ?_
  refine lv_iconst (v := 3) hx hb dX5_layRow_27 (by decide) ?_
  refine lv_iload_n hx hb dX5_layRow_28 rfl (lv_at hl 4 rfl) ?_
  refine lv_imul hx hb dX5_layRow_29 ?_
  refine lv_iconst (v := 2) hx hb dX5_layRow_30 (by decide) ?_
  refine lv_iadd hx hb dX5_layRow_31 ?_
  refine ld_i hx hb hK.1 hP 2 0 rfl rfl (ix3l hp 2 (by decide)) (((3 * p) + 2).toNatClampNeg) rfl (v := gp (((3 * p) + 2).toNatClampNeg)) rfl dX5_layRow_32 ?_
  refine lv_i2l hx hb dX5_layRow_33 rfl ?_
  refine lv_lstore (lv' := [(7, .long ((gp (((3 * p) + 2).toNatClampNeg)).toInt64)), (5, .long ((gp (((3 * p) + 1).toNatClampNeg)).toInt64)), (3, .long ((gp ((3 * p).toNatClampNeg)).toInt64)), (0, .ref o), (1, .int 2), (2, .int p)]) hx hb dX5_layRow_34 hl (by decide) rfl (fun ls hl => ?_)
  refine lv_aload_n hx hb dX5_layRow_36 rfl (lv_at hl 3 rfl) ?_
  refine va_get (D := D) (ci := 5) (v := .ref mR) (C := RX5) (T := TX5) (N := 17) hx hb hts k_2 hown hK.1 hP 0 rfl rfl 5 (by decide) k_3 (fun _ h9 => h9) rfl dX5_layRow_37 ?_
  refine lv_bipush (v := 6) hx hb dX5_layRow_40 (by decide) ?_
  refine lv_iload_n hx hb dX5_layRow_42 rfl (lv_at hl 4 rfl) ?_
  refine lv_imul hx hb dX5_layRow_43 ?_
  refine lv_eqi (v := 12) (by decide) ?_
  refine lv_lload_n hx hb dX5_layRow_44 rfl (lv_at hl 2 rfl) ?_
  refine lv_lload_n hx hb dX5_layRow_45 rfl (lv_at hl 2 rfl) ?_
  refine lv_lmul hx hb dX5_layRow_46 ?_
  refine st_l hx hb hK.1 hP hD hS 1 1 rfl rfl (ix_lit (by decide)) 12 (by decide) dX5_layRow_47 (fun H locs hP hD hS => ?_)
  have hP : va_P D vwCl [kM o mP mL mC mN mF mR mD mV mX mA mK cm mT pm mU mH mI, kJ mR cJ 30 (vp_updL fr 12 (((gp ((3 * p).toNatClampNeg)).toInt64) * ((gp ((3 * p).toNatClampNeg)).toInt64))), kA mP cI 180 gp] H := hP
  have hD : va_D A [kM o mP mL mC mN mF mR mD mV mX mA mK cm mT pm mU mH mI, kJ mR cJ 30 (vp_updL fr 12 (((gp ((3 * p).toNatClampNeg)).toInt64) * ((gp ((3 * p).toNatClampNeg)).toInt64))), kA mP cI 180 gp] := hD
  refine lv_aload_n hx hb dX5_layRow_48 rfl (lv_at hl 3 rfl) ?_
  refine va_get (D := D) (ci := 5) (v := .ref mR) (C := RX5) (T := TX5) (N := 17) hx hb hts k_2 hown hK.1 hP 0 rfl rfl 5 (by decide) k_3 (fun _ h9 => h9) rfl dX5_layRow_49 ?_
  refine lv_bipush (v := 6) hx hb dX5_layRow_52 (by decide) ?_
  refine lv_iload_n hx hb dX5_layRow_54 rfl (lv_at hl 4 rfl) ?_
  refine lv_imul hx hb dX5_layRow_55 ?_
  refine lv_eqi (v := 12) (by decide) ?_
  refine lv_iconst (v := 1) hx hb dX5_layRow_56 (by decide) ?_
  refine lv_iadd hx hb dX5_layRow_57 ?_
  refine lv_eqi (v := 13) (by decide) ?_
  refine lv_lload_n hx hb dX5_layRow_58 rfl (lv_at hl 2 rfl) ?_
  refine lv_lload hx hb dX5_layRow_59 (lv_at hl 1 rfl) ?_
  refine lv_lmul hx hb dX5_layRow_61 ?_
  refine st_l hx hb hK.1 hP hD hS 1 1 rfl rfl (ix_lit (by decide)) 13 (by decide) dX5_layRow_62 (fun H locs hP hD hS => ?_)
  have hP : va_P D vwCl [kM o mP mL mC mN mF mR mD mV mX mA mK cm mT pm mU mH mI, kJ mR cJ 30 (vp_updL (vp_updL fr 12 (((gp ((3 * p).toNatClampNeg)).toInt64) * ((gp ((3 * p).toNatClampNeg)).toInt64))) 13 (((gp ((3 * p).toNatClampNeg)).toInt64) * ((gp (((3 * p) + 1).toNatClampNeg)).toInt64))), kA mP cI 180 gp] H := hP
  have hD : va_D A [kM o mP mL mC mN mF mR mD mV mX mA mK cm mT pm mU mH mI, kJ mR cJ 30 (vp_updL (vp_updL fr 12 (((gp ((3 * p).toNatClampNeg)).toInt64) * ((gp ((3 * p).toNatClampNeg)).toInt64))) 13 (((gp ((3 * p).toNatClampNeg)).toInt64) * ((gp (((3 * p) + 1).toNatClampNeg)).toInt64))), kA mP cI 180 gp] := hD
  refine lv_aload_n hx hb dX5_layRow_63 rfl (lv_at hl 3 rfl) ?_
  refine va_get (D := D) (ci := 5) (v := .ref mR) (C := RX5) (T := TX5) (N := 17) hx hb hts k_2 hown hK.1 hP 0 rfl rfl 5 (by decide) k_3 (fun _ h9 => h9) rfl dX5_layRow_64 ?_
  refine lv_bipush (v := 6) hx hb dX5_layRow_67 (by decide) ?_
  refine lv_iload_n hx hb dX5_layRow_69 rfl (lv_at hl 4 rfl) ?_
  refine lv_imul hx hb dX5_layRow_70 ?_
  refine lv_eqi (v := 12) (by decide) ?_
  refine lv_iconst (v := 2) hx hb dX5_layRow_71 (by decide) ?_
  refine lv_iadd hx hb dX5_layRow_72 ?_
  refine lv_eqi (v := 14) (by decide) ?_
  refine lv_lload hx hb dX5_layRow_73 (lv_at hl 1 rfl) ?_
  refine lv_lload hx hb dX5_layRow_75 (lv_at hl 1 rfl) ?_
  refine lv_lmul hx hb dX5_layRow_77 ?_
  refine st_l hx hb hK.1 hP hD hS 1 1 rfl rfl (ix_lit (by decide)) 14 (by decide) dX5_layRow_78 (fun H locs hP hD hS => ?_)
  have hP : va_P D vwCl [kM o mP mL mC mN mF mR mD mV mX mA mK cm mT pm mU mH mI, kJ mR cJ 30 (vp_updL (vp_updL (vp_updL fr 12 (((gp ((3 * p).toNatClampNeg)).toInt64) * ((gp ((3 * p).toNatClampNeg)).toInt64))) 13 (((gp ((3 * p).toNatClampNeg)).toInt64) * ((gp (((3 * p) + 1).toNatClampNeg)).toInt64))) 14 (((gp (((3 * p) + 1).toNatClampNeg)).toInt64) * ((gp (((3 * p) + 1).toNatClampNeg)).toInt64))), kA mP cI 180 gp] H := hP
  have hD : va_D A [kM o mP mL mC mN mF mR mD mV mX mA mK cm mT pm mU mH mI, kJ mR cJ 30 (vp_updL (vp_updL (vp_updL fr 12 (((gp ((3 * p).toNatClampNeg)).toInt64) * ((gp ((3 * p).toNatClampNeg)).toInt64))) 13 (((gp ((3 * p).toNatClampNeg)).toInt64) * ((gp (((3 * p) + 1).toNatClampNeg)).toInt64))) 14 (((gp (((3 * p) + 1).toNatClampNeg)).toInt64) * ((gp (((3 * p) + 1).toNatClampNeg)).toInt64))), kA mP cI 180 gp] := hD
  refine lv_aload_n hx hb dX5_layRow_79 rfl (lv_at hl 3 rfl) ?_
  refine va_get (D := D) (ci := 5) (v := .ref mR) (C := RX5) (T := TX5) (N := 17) hx hb hts k_2 hown hK.1 hP 0 rfl rfl 5 (by decide) k_3 (fun _ h9 => h9) rfl dX5_layRow_80 ?_
  refine lv_bipush (v := 6) hx hb dX5_layRow_83 (by decide) ?_
  refine lv_iload_n hx hb dX5_layRow_85 rfl (lv_at hl 4 rfl) ?_
  refine lv_imul hx hb dX5_layRow_86 ?_
  refine lv_eqi (v := 12) (by decide) ?_
  refine lv_iconst (v := 3) hx hb dX5_layRow_87 (by decide) ?_
  refine lv_iadd hx hb dX5_layRow_88 ?_
  refine lv_eqi (v := 15) (by decide) ?_
  refine lv_lload_n hx hb dX5_layRow_89 rfl (lv_at hl 2 rfl) ?_
  refine lv_lload hx hb dX5_layRow_90 (lv_at hl 0 rfl) ?_
  refine lv_lmul hx hb dX5_layRow_92 ?_
  refine st_l hx hb hK.1 hP hD hS 1 1 rfl rfl (ix_lit (by decide)) 15 (by decide) dX5_layRow_93 (fun H locs hP hD hS => ?_)
  have hP : va_P D vwCl [kM o mP mL mC mN mF mR mD mV mX mA mK cm mT pm mU mH mI, kJ mR cJ 30 (vp_updL (vp_updL (vp_updL (vp_updL fr 12 (((gp ((3 * p).toNatClampNeg)).toInt64) * ((gp ((3 * p).toNatClampNeg)).toInt64))) 13 (((gp ((3 * p).toNatClampNeg)).toInt64) * ((gp (((3 * p) + 1).toNatClampNeg)).toInt64))) 14 (((gp (((3 * p) + 1).toNatClampNeg)).toInt64) * ((gp (((3 * p) + 1).toNatClampNeg)).toInt64))) 15 (((gp ((3 * p).toNatClampNeg)).toInt64) * ((gp (((3 * p) + 2).toNatClampNeg)).toInt64))), kA mP cI 180 gp] H := hP
  have hD : va_D A [kM o mP mL mC mN mF mR mD mV mX mA mK cm mT pm mU mH mI, kJ mR cJ 30 (vp_updL (vp_updL (vp_updL (vp_updL fr 12 (((gp ((3 * p).toNatClampNeg)).toInt64) * ((gp ((3 * p).toNatClampNeg)).toInt64))) 13 (((gp ((3 * p).toNatClampNeg)).toInt64) * ((gp (((3 * p) + 1).toNatClampNeg)).toInt64))) 14 (((gp (((3 * p) + 1).toNatClampNeg)).toInt64) * ((gp (((3 * p) + 1).toNatClampNeg)).toInt64))) 15 (((gp ((3 * p).toNatClampNeg)).toInt64) * ((gp (((3 * p) + 2).toNatClampNeg)).toInt64))), kA mP cI 180 gp] := hD
  refine lv_aload_n hx hb dX5_layRow_94 rfl (lv_at hl 3 rfl) ?_
  refine va_get (D := D) (ci := 5) (v := .ref mR) (C := RX5) (T := TX5) (N := 17) hx hb hts k_2 hown hK.1 hP 0 rfl rfl 5 (by decide) k_3 (fun _ h9 => h9) rfl dX5_layRow_95 ?_
  refine lv_bipush (v := 6) hx hb dX5_layRow_98 (by decide) ?_
  refine lv_iload_n hx hb dX5_layRow_100 rfl (lv_at hl 4 rfl) ?_
  refine lv_imul hx hb dX5_layRow_101 ?_
  refine lv_eqi (v := 12) (by decide) ?_
  refine lv_iconst (v := 4) hx hb dX5_layRow_102 (by decide) ?_
  refine lv_iadd hx hb dX5_layRow_103 ?_
  refine lv_eqi (v := 16) (by decide) ?_
  refine lv_lload hx hb dX5_layRow_104 (lv_at hl 1 rfl) ?_
  refine lv_lload hx hb dX5_layRow_106 (lv_at hl 0 rfl) ?_
  refine lv_lmul hx hb dX5_layRow_108 ?_
  refine st_l hx hb hK.1 hP hD hS 1 1 rfl rfl (ix_lit (by decide)) 16 (by decide) dX5_layRow_109 (fun H locs hP hD hS => ?_)
  have hP : va_P D vwCl [kM o mP mL mC mN mF mR mD mV mX mA mK cm mT pm mU mH mI, kJ mR cJ 30 (vp_updL (vp_updL (vp_updL (vp_updL (vp_updL fr 12 (((gp ((3 * p).toNatClampNeg)).toInt64) * ((gp ((3 * p).toNatClampNeg)).toInt64))) 13 (((gp ((3 * p).toNatClampNeg)).toInt64) * ((gp (((3 * p) + 1).toNatClampNeg)).toInt64))) 14 (((gp (((3 * p) + 1).toNatClampNeg)).toInt64) * ((gp (((3 * p) + 1).toNatClampNeg)).toInt64))) 15 (((gp ((3 * p).toNatClampNeg)).toInt64) * ((gp (((3 * p) + 2).toNatClampNeg)).toInt64))) 16 (((gp (((3 * p) + 1).toNatClampNeg)).toInt64) * ((gp (((3 * p) + 2).toNatClampNeg)).toInt64))), kA mP cI 180 gp] H := hP
  have hD : va_D A [kM o mP mL mC mN mF mR mD mV mX mA mK cm mT pm mU mH mI, kJ mR cJ 30 (vp_updL (vp_updL (vp_updL (vp_updL (vp_updL fr 12 (((gp ((3 * p).toNatClampNeg)).toInt64) * ((gp ((3 * p).toNatClampNeg)).toInt64))) 13 (((gp ((3 * p).toNatClampNeg)).toInt64) * ((gp (((3 * p) + 1).toNatClampNeg)).toInt64))) 14 (((gp (((3 * p) + 1).toNatClampNeg)).toInt64) * ((gp (((3 * p) + 1).toNatClampNeg)).toInt64))) 15 (((gp ((3 * p).toNatClampNeg)).toInt64) * ((gp (((3 * p) + 2).toNatClampNeg)).toInt64))) 16 (((gp (((3 * p) + 1).toNatClampNeg)).toInt64) * ((gp (((3 * p) + 2).toNatClampNeg)).toInt64))), kA mP cI 180 gp] := hD
  refine lv_aload_n hx hb dX5_layRow_110 rfl (lv_at hl 3 rfl) ?_
  refine va_get (D := D) (ci := 5) (v := .ref mR) (C := RX5) (T := TX5) (N := 17) hx hb hts k_2 hown hK.1 hP 0 rfl rfl 5 (by decide) k_3 (fun _ h9 => h9) rfl dX5_layRow_111 ?_
  refine lv_bipush (v := 6) hx hb dX5_layRow_114 (by decide) ?_
  refine lv_iload_n hx hb dX5_layRow_116 rfl (lv_at hl 4 rfl) ?_
  refine lv_imul hx hb dX5_layRow_117 ?_
  refine lv_eqi (v := 12) (by decide) ?_
  refine lv_iconst (v := 5) hx hb dX5_layRow_118 (by decide) ?_
  refine lv_iadd hx hb dX5_layRow_119 ?_
  refine lv_eqi (v := 17) (by decide) ?_
  refine lv_lload hx hb dX5_layRow_120 (lv_at hl 0 rfl) ?_
  refine lv_lload hx hb dX5_layRow_122 (lv_at hl 0 rfl) ?_
  refine lv_lmul hx hb dX5_layRow_124 ?_
  refine st_l hx hb hK.1 hP hD hS 1 1 rfl rfl (ix_lit (by decide)) 17 (by decide) dX5_layRow_125 (fun H locs hP hD hS => ?_)
  have hP : va_P D vwCl [kM o mP mL mC mN mF mR mD mV mX mA mK cm mT pm mU mH mI, kJ mR cJ 30 (vp_updL (vp_updL (vp_updL (vp_updL (vp_updL (vp_updL fr 12 (((gp ((3 * p).toNatClampNeg)).toInt64) * ((gp ((3 * p).toNatClampNeg)).toInt64))) 13 (((gp ((3 * p).toNatClampNeg)).toInt64) * ((gp (((3 * p) + 1).toNatClampNeg)).toInt64))) 14 (((gp (((3 * p) + 1).toNatClampNeg)).toInt64) * ((gp (((3 * p) + 1).toNatClampNeg)).toInt64))) 15 (((gp ((3 * p).toNatClampNeg)).toInt64) * ((gp (((3 * p) + 2).toNatClampNeg)).toInt64))) 16 (((gp (((3 * p) + 1).toNatClampNeg)).toInt64) * ((gp (((3 * p) + 2).toNatClampNeg)).toInt64))) 17 (((gp (((3 * p) + 2).toNatClampNeg)).toInt64) * ((gp (((3 * p) + 2).toNatClampNeg)).toInt64))), kA mP cI 180 gp] H := hP
  have hD : va_D A [kM o mP mL mC mN mF mR mD mV mX mA mK cm mT pm mU mH mI, kJ mR cJ 30 (vp_updL (vp_updL (vp_updL (vp_updL (vp_updL (vp_updL fr 12 (((gp ((3 * p).toNatClampNeg)).toInt64) * ((gp ((3 * p).toNatClampNeg)).toInt64))) 13 (((gp ((3 * p).toNatClampNeg)).toInt64) * ((gp (((3 * p) + 1).toNatClampNeg)).toInt64))) 14 (((gp (((3 * p) + 1).toNatClampNeg)).toInt64) * ((gp (((3 * p) + 1).toNatClampNeg)).toInt64))) 15 (((gp ((3 * p).toNatClampNeg)).toInt64) * ((gp (((3 * p) + 2).toNatClampNeg)).toInt64))) 16 (((gp (((3 * p) + 1).toNatClampNeg)).toInt64) * ((gp (((3 * p) + 2).toNatClampNeg)).toInt64))) 17 (((gp (((3 * p) + 2).toNatClampNeg)).toInt64) * ((gp (((3 * p) + 2).toNatClampNeg)).toInt64))), kA mP cI 180 gp] := hD
  have he_0 : z5_layRow_2_f1 fr gp p = vp_updL (vp_updL (vp_updL (vp_updL (vp_updL (vp_updL fr 12 (((gp ((3 * p).toNatClampNeg)).toInt64) * ((gp ((3 * p).toNatClampNeg)).toInt64))) 13 (((gp ((3 * p).toNatClampNeg)).toInt64) * ((gp (((3 * p) + 1).toNatClampNeg)).toInt64))) 14 (((gp (((3 * p) + 1).toNatClampNeg)).toInt64) * ((gp (((3 * p) + 1).toNatClampNeg)).toInt64))) 15 (((gp ((3 * p).toNatClampNeg)).toInt64) * ((gp (((3 * p) + 2).toNatClampNeg)).toInt64))) 16 (((gp (((3 * p) + 1).toNatClampNeg)).toInt64) * ((gp (((3 * p) + 2).toNatClampNeg)).toInt64))) 17 (((gp (((3 * p) + 2).toNatClampNeg)).toInt64) * ((gp (((3 * p) + 2).toNatClampNeg)).toInt64)) := by delta z5_layRow_2_f1; rfl
  exact rt_v (w1 := fun uu : Unit => [kM o mP mL mC mN mF mR mD mV mX mA mK cm mT pm mU mH mI, kJ mR cJ 30 (z5_layRow_2_f1 fr gp p), kA mP cI 180 gp]) hx hb hr hlk hS dX5_layRow_126 (()) trivial (by rw [he_0]; exact hP) (by rw [he_0]; exact hD)
def z5_layRow_3_f1 (fr : Nat → Int64) (gp : Nat → Int32) (p : Int32) : Nat → Int64 := vp_updL (vp_updL (vp_updL (vp_updL (vp_updL (vp_updL fr 18 (((gp ((3 * p).toNatClampNeg)).toInt64) * ((gp ((3 * p).toNatClampNeg)).toInt64))) 19 (((gp ((3 * p).toNatClampNeg)).toInt64) * ((gp (((3 * p) + 1).toNatClampNeg)).toInt64))) 20 (((gp (((3 * p) + 1).toNatClampNeg)).toInt64) * ((gp (((3 * p) + 1).toNatClampNeg)).toInt64))) 21 (((gp ((3 * p).toNatClampNeg)).toInt64) * ((gp (((3 * p) + 2).toNatClampNeg)).toInt64))) 22 (((gp (((3 * p) + 1).toNatClampNeg)).toInt64) * ((gp (((3 * p) + 2).toNatClampNeg)).toInt64))) 23 (((gp (((3 * p) + 2).toNatClampNeg)).toInt64) * ((gp (((3 * p) + 2).toNatClampNeg)).toInt64))
set_option maxHeartbeats 4000000 in
set_option maxRecDepth 100000 in
/-- X5.layRow -/
theorem c_X5_layRow_3 (l : Launch) (D : va_G) (cI cJ : ClassId) (o : Nat) (mP : Nat) (mL : Nat) (mC : Nat) (mN : Nat) (mF : Nat) (mR : Nat) (mD : Nat) (mV : Nat) (mX : Nat) (mA : Nat) (mK : Nat) (mT : Nat) (mU : Nat) (mH : Nat) (mI : Nat) (cm : Int32) (pm : Int32) (fr : Nat → Int64) (gp : Nat → Int32) (p : Int32) (hp : ok_i p) : mw_C l yX5_layRow wsX5_layRow ({ frames := 0, cells := 0, slots := 0, locals := 0 }) D cI cJ [.ref o, .int 3, .int p] [kM o mP mL mC mN mF mR mD mV mX mA mK cm mT pm mU mH mI, kJ mR cJ 30 fr, kA mP cI 180 gp] (qe_v (fun _ : Unit => True) (fun uu => [kM o mP mL mC mN mF mR mD mV mX mA mK cm mT pm mU mH mI, kJ mR cJ 30 (z5_layRow_3_f1 fr gp p), kA mP cI 180 gp])) := by
  refine mw_in (cc := cX5_layRow) (lv := [(0, .ref o), (1, .int 3), (2, .int p)]) (by decide) rfl (Nat.le_of_ble_eq_true rfl) rfl ?_
  intro pG eG sG mG below meth cG ls A hx hb hr hml hown hts hlk hin hP hK hD hA hS hl
  have hown : sG.vm.findClass RX5 = some mG.cls := hown
  have k_1 := hts (.fieldLink RX5 7 "ConicRowsModel" "points" "[I") (by decide +kernel)
  have k_2 : ∀ w ∈ wsX50, w ∈ wsX5_layRow := by decide +kernel
  have k_3 := hts (.fieldLink RX5 26 "ConicRowsModel" "rows" "[J") (by decide +kernel)
  refine lv_aload_n hx hb dX5_layRow_0 rfl (lv_at hl 0 rfl) ?_
  refine va_get (D := D) (ci := 5) (v := .ref mP) (C := RX5) (T := TX5) (N := 17) hx hb hts k_2 hown hK.1 hP 0 rfl rfl 0 (by decide) k_1 (fun _ h9 => h9) rfl dX5_layRow_1 ?_
  refine lv_iconst (v := 3) hx hb dX5_layRow_4 (by decide) ?_
  refine lv_iload_n hx hb dX5_layRow_5 rfl (lv_at hl 2 rfl) ?_
  refine lv_imul hx hb dX5_layRow_6 ?_
  refine ld_i hx hb hK.1 hP 2 0 rfl rfl (ix3z hp) ((3 * p).toNatClampNeg) rfl (v := gp ((3 * p).toNatClampNeg)) rfl dX5_layRow_7 ?_
  refine lv_i2l hx hb dX5_layRow_8 rfl ?_
  refine lv_lstore_n (lv' := [(3, .long ((gp ((3 * p).toNatClampNeg)).toInt64)), (0, .ref o), (1, .int 3), (2, .int p)]) hx hb dX5_layRow_9 rfl hl (by decide) rfl (fun ls hl => ?_)
  refine lv_aload_n hx hb dX5_layRow_10 rfl (lv_at hl 1 rfl) ?_
  refine va_get (D := D) (ci := 5) (v := .ref mP) (C := RX5) (T := TX5) (N := 17) hx hb hts k_2 hown hK.1 hP 0 rfl rfl 0 (by decide) k_1 (fun _ h9 => h9) rfl dX5_layRow_11 ?_
  refine lv_iconst (v := 3) hx hb dX5_layRow_14 (by decide) ?_
  refine lv_iload_n hx hb dX5_layRow_15 rfl (lv_at hl 3 rfl) ?_
  refine lv_imul hx hb dX5_layRow_16 ?_
  refine lv_iconst (v := 1) hx hb dX5_layRow_17 (by decide) ?_
  refine lv_iadd hx hb dX5_layRow_18 ?_
  refine ld_i hx hb hK.1 hP 2 0 rfl rfl (ix3l hp 1 (by decide)) (((3 * p) + 1).toNatClampNeg) rfl (v := gp (((3 * p) + 1).toNatClampNeg)) rfl dX5_layRow_19 ?_
  refine lv_i2l hx hb dX5_layRow_20 rfl ?_
  refine lv_lstore (lv' := [(5, .long ((gp (((3 * p) + 1).toNatClampNeg)).toInt64)), (3, .long ((gp ((3 * p).toNatClampNeg)).toInt64)), (0, .ref o), (1, .int 3), (2, .int p)]) hx hb dX5_layRow_21 hl (by decide) rfl (fun ls hl => ?_)
  refine lv_aload_n hx hb dX5_layRow_23 rfl (lv_at hl 2 rfl) ?_
  refine va_get (D := D) (ci := 5) (v := .ref mP) (C := RX5) (T := TX5) (N := 17) hx hb hts k_2 hown hK.1 hP 0 rfl rfl 0 (by decide) k_1 (fun _ h9 => h9) rfl dX5_layRow_24 ?_
  refine lv_iconst (v := 3) hx hb dX5_layRow_27 (by decide) ?_
  refine lv_iload_n hx hb dX5_layRow_28 rfl (lv_at hl 4 rfl) ?_
  refine lv_imul hx hb dX5_layRow_29 ?_
  refine lv_iconst (v := 2) hx hb dX5_layRow_30 (by decide) ?_
  refine lv_iadd hx hb dX5_layRow_31 ?_
  refine ld_i hx hb hK.1 hP 2 0 rfl rfl (ix3l hp 2 (by decide)) (((3 * p) + 2).toNatClampNeg) rfl (v := gp (((3 * p) + 2).toNatClampNeg)) rfl dX5_layRow_32 ?_
  refine lv_i2l hx hb dX5_layRow_33 rfl ?_
  refine lv_lstore (lv' := [(7, .long ((gp (((3 * p) + 2).toNatClampNeg)).toInt64)), (5, .long ((gp (((3 * p) + 1).toNatClampNeg)).toInt64)), (3, .long ((gp ((3 * p).toNatClampNeg)).toInt64)), (0, .ref o), (1, .int 3), (2, .int p)]) hx hb dX5_layRow_34 hl (by decide) rfl (fun ls hl => ?_)
  refine lv_aload_n hx hb dX5_layRow_36 rfl (lv_at hl 3 rfl) ?_
  refine va_get (D := D) (ci := 5) (v := .ref mR) (C := RX5) (T := TX5) (N := 17) hx hb hts k_2 hown hK.1 hP 0 rfl rfl 5 (by decide) k_3 (fun _ h9 => h9) rfl dX5_layRow_37 ?_
  refine lv_bipush (v := 6) hx hb dX5_layRow_40 (by decide) ?_
  refine lv_iload_n hx hb dX5_layRow_42 rfl (lv_at hl 4 rfl) ?_
  refine lv_imul hx hb dX5_layRow_43 ?_
  refine lv_eqi (v := 18) (by decide) ?_
  refine lv_lload_n hx hb dX5_layRow_44 rfl (lv_at hl 2 rfl) ?_
  refine lv_lload_n hx hb dX5_layRow_45 rfl (lv_at hl 2 rfl) ?_
  refine lv_lmul hx hb dX5_layRow_46 ?_
  refine st_l hx hb hK.1 hP hD hS 1 1 rfl rfl (ix_lit (by decide)) 18 (by decide) dX5_layRow_47 (fun H locs hP hD hS => ?_)
  have hP : va_P D vwCl [kM o mP mL mC mN mF mR mD mV mX mA mK cm mT pm mU mH mI, kJ mR cJ 30 (vp_updL fr 18 (((gp ((3 * p).toNatClampNeg)).toInt64) * ((gp ((3 * p).toNatClampNeg)).toInt64))), kA mP cI 180 gp] H := hP
  have hD : va_D A [kM o mP mL mC mN mF mR mD mV mX mA mK cm mT pm mU mH mI, kJ mR cJ 30 (vp_updL fr 18 (((gp ((3 * p).toNatClampNeg)).toInt64) * ((gp ((3 * p).toNatClampNeg)).toInt64))), kA mP cI 180 gp] := hD
  refine lv_aload_n hx hb dX5_layRow_48 rfl (lv_at hl 3 rfl) ?_
  refine va_get (D := D) (ci := 5) (v := .ref mR) (C := RX5) (T := TX5) (N := 17) hx hb hts k_2 hown hK.1 hP 0 rfl rfl 5 (by decide) k_3 (fun _ h9 => h9) rfl dX5_layRow_49 ?_
  refine lv_bipush (v := 6) hx hb dX5_layRow_52 (by decide) ?_
  refine lv_iload_n hx hb dX5_layRow_54 rfl (lv_at hl 4 rfl) ?_
  refine lv_imul hx hb dX5_layRow_55 ?_
  refine lv_eqi (v := 18) (by decide) ?_
  refine lv_iconst (v := 1) hx hb dX5_layRow_56 (by decide) ?_
  refine lv_iadd hx hb dX5_layRow_57 ?_
  refine lv_eqi (v := 19) (by decide) ?_
  refine lv_lload_n hx hb dX5_layRow_58 rfl (lv_at hl 2 rfl) ?_
  refine lv_lload hx hb dX5_layRow_59 (lv_at hl 1 rfl) ?_
  refine lv_lmul hx hb dX5_layRow_61 ?_
  refine st_l hx hb hK.1 hP hD hS 1 1 rfl rfl (ix_lit (by decide)) 19 (by decide) dX5_layRow_62 (fun H locs hP hD hS => ?_)
  have hP : va_P D vwCl [kM o mP mL mC mN mF mR mD mV mX mA mK cm mT pm mU mH mI, kJ mR cJ 30 (vp_updL (vp_updL fr 18 (((gp ((3 * p).toNatClampNeg)).toInt64) * ((gp ((3 * p).toNatClampNeg)).toInt64))) 19 (((gp ((3 * p).toNatClampNeg)).toInt64) * ((gp (((3 * p) + 1).toNatClampNeg)).toInt64))), kA mP cI 180 gp] H := hP
  have hD : va_D A [kM o mP mL mC mN mF mR mD mV mX mA mK cm mT pm mU mH mI, kJ mR cJ 30 (vp_updL (vp_updL fr 18 (((gp ((3 * p).toNatClampNeg)).toInt64) * ((gp ((3 * p).toNatClampNeg)).toInt64))) 19 (((gp ((3 * p).toNatClampNeg)).toInt64) * ((gp (((3 * p) + 1).toNatClampNeg)).toInt64))), kA mP cI 180 gp] := hD
  refine lv_aload_n hx hb dX5_layRow_63 rfl (lv_at hl 3 rfl) ?_
  refine va_get (D := D) (ci := 5) (v := .ref mR) (C := RX5) (T := TX5) (N := 17) hx hb hts k_2 hown hK.1 hP 0 rfl rfl 5 (by decide) k_3 (fun _ h9 => h9) rfl dX5_layRow_64 ?_
  refine lv_bipush (v := 6) hx hb dX5_layRow_67 (by decide) ?_
  refine lv_iload_n hx hb dX5_layRow_69 rfl (lv_at hl 4 rfl) ?_
  refine lv_imul hx hb dX5_layRow_70 ?_
  refine lv_eqi (v := 18) (by decide) ?_
  refine lv_iconst (v := 2) hx hb dX5_layRow_71 (by decide) ?_
  refine lv_iadd hx hb dX5_layRow_72 ?_
  refine lv_eqi (v := 20) (by decide) ?_
  refine lv_lload hx hb dX5_layRow_73 (lv_at hl 1 rfl) ?_
  refine lv_lload hx hb dX5_layRow_75 (lv_at hl 1 rfl) ?_
  refine lv_lmul hx hb dX5_layRow_77 ?_
  refine st_l hx hb hK.1 hP hD hS 1 1 rfl rfl (ix_lit (by decide)) 20 (by decide) dX5_layRow_78 (fun H locs hP hD hS => ?_)
  have hP : va_P D vwCl [kM o mP mL mC mN mF mR mD mV mX mA mK cm mT pm mU mH mI, kJ mR cJ 30 (vp_updL (vp_updL (vp_updL fr 18 (((gp ((3 * p).toNatClampNeg)).toInt64) * ((gp ((3 * p).toNatClampNeg)).toInt64))) 19 (((gp ((3 * p).toNatClampNeg)).toInt64) * ((gp (((3 * p) + 1).toNatClampNeg)).toInt64))) 20 (((gp (((3 * p) + 1).toNatClampNeg)).toInt64) * ((gp (((3 * p) + 1).toNatClampNeg)).toInt64))), kA mP cI 180 gp] H := hP
  have hD : va_D A [kM o mP mL mC mN mF mR mD mV mX mA mK cm mT pm mU mH mI, kJ mR cJ 30 (vp_updL (vp_updL (vp_updL fr 18 (((gp ((3 * p).toNatClampNeg)).toInt64) * ((gp ((3 * p).toNatClampNeg)).toInt64))) 19 (((gp ((3 * p).toNatClampNeg)).toInt64) * ((gp (((3 * p) + 1).toNatClampNeg)).toInt64))) 20 (((gp (((3 * p) + 1).toNatClampNeg)).toInt64) * ((gp (((3 * p) + 1).toNatClampNeg)).toInt64))), kA mP cI 180 gp] := hD
  refine lv_aload_n hx hb dX5_layRow_79 rfl (lv_at hl 3 rfl) ?_
  refine va_get (D := D) (ci := 5) (v := .ref mR) (C := RX5) (T := TX5) (N := 17) hx hb hts k_2 hown hK.1 hP 0 rfl rfl 5 (by decide) k_3 (fun _ h9 => h9) rfl dX5_layRow_80 ?_
  refine lv_bipush (v := 6) hx hb dX5_layRow_83 (by decide) ?_
  refine lv_iload_n hx hb dX5_layRow_85 rfl (lv_at hl 4 rfl) ?_
  refine lv_imul hx hb dX5_layRow_86 ?_
  refine lv_eqi (v := 18) (by decide) ?_
  refine lv_iconst (v := 3) hx hb dX5_layRow_87 (by decide) ?_
  refine lv_iadd hx hb dX5_layRow_88 ?_
  refine lv_eqi (v := 21) (by decide) ?_
  refine lv_lload_n hx hb dX5_layRow_89 rfl (lv_at hl 2 rfl) ?_
  refine lv_lload hx hb dX5_layRow_90 (lv_at hl 0 rfl) ?_
  refine lv_lmul hx hb dX5_layRow_92 ?_
  refine st_l hx hb hK.1 hP hD hS 1 1 rfl rfl (ix_lit (by decide)) 21 (by decide) dX5_layRow_93 (fun H locs hP hD hS => ?_)
  have hP : va_P D vwCl [kM o mP mL mC mN mF mR mD mV mX mA mK cm mT pm mU mH mI, kJ mR cJ 30 (vp_updL (vp_updL (vp_updL (vp_updL fr 18 (((gp ((3 * p).toNatClampNeg)).toInt64) * ((gp ((3 * p).toNatClampNeg)).toInt64))) 19 (((gp ((3 * p).toNatClampNeg)).toInt64) * ((gp (((3 * p) + 1).toNatClampNeg)).toInt64))) 20 (((gp (((3 * p) + 1).toNatClampNeg)).toInt64) * ((gp (((3 * p) + 1).toNatClampNeg)).toInt64))) 21 (((gp ((3 * p).toNatClampNeg)).toInt64) * ((gp (((3 * p) + 2).toNatClampNeg)).toInt64))), kA mP cI 180 gp] H := hP
  have hD : va_D A [kM o mP mL mC mN mF mR mD mV mX mA mK cm mT pm mU mH mI, kJ mR cJ 30 (vp_updL (vp_updL (vp_updL (vp_updL fr 18 (((gp ((3 * p).toNatClampNeg)).toInt64) * ((gp ((3 * p).toNatClampNeg)).toInt64))) 19 (((gp ((3 * p).toNatClampNeg)).toInt64) * ((gp (((3 * p) + 1).toNatClampNeg)).toInt64))) 20 (((gp (((3 * p) + 1).toNatClampNeg)).toInt64) * ((gp (((3 * p) + 1).toNatClampNeg)).toInt64))) 21 (((gp ((3 * p).toNatClampNeg)).toInt64) * ((gp (((3 * p) + 2).toNatClampNeg)).toInt64))), kA mP cI 180 gp] := hD
  refine lv_aload_n hx hb dX5_layRow_94 rfl (lv_at hl 3 rfl) ?_
  refine va_get (D := D) (ci := 5) (v := .ref mR) (C := RX5) (T := TX5) (N := 17) hx hb hts k_2 hown hK.1 hP 0 rfl rfl 5 (by decide) k_3 (fun _ h9 => h9) rfl dX5_layRow_95 ?_
  refine lv_bipush (v := 6) hx hb dX5_layRow_98 (by decide) ?_
  refine lv_iload_n hx hb dX5_layRow_100 rfl (lv_at hl 4 rfl) ?_
  refine lv_imul hx hb dX5_layRow_101 ?_
  refine lv_eqi (v := 18) (by decide) ?_
  refine lv_iconst (v := 4) hx hb dX5_layRow_102 (by decide) ?_
  refine lv_iadd hx hb dX5_layRow_103 ?_
  refine lv_eqi (v := 22) (by decide) ?_
  refine lv_lload hx hb dX5_layRow_104 (lv_at hl 1 rfl) ?_
  refine lv_lload hx hb dX5_layRow_106 (lv_at hl 0 rfl) ?_
  refine lv_lmul hx hb dX5_layRow_108 ?_
  refine st_l hx hb hK.1 hP hD hS 1 1 rfl rfl (ix_lit (by decide)) 22 (by decide) dX5_layRow_109 (fun H locs hP hD hS => ?_)
  have hP : va_P D vwCl [kM o mP mL mC mN mF mR mD mV mX mA mK cm mT pm mU mH mI, kJ mR cJ 30 (vp_updL (vp_updL (vp_updL (vp_updL (vp_updL fr 18 (((gp ((3 * p).toNatClampNeg)).toInt64) * ((gp ((3 * p).toNatClampNeg)).toInt64))) 19 (((gp ((3 * p).toNatClampNeg)).toInt64) * ((gp (((3 * p) + 1).toNatClampNeg)).toInt64))) 20 (((gp (((3 * p) + 1).toNatClampNeg)).toInt64) * ((gp (((3 * p) + 1).toNatClampNeg)).toInt64))) 21 (((gp ((3 * p).toNatClampNeg)).toInt64) * ((gp (((3 * p) + 2).toNatClampNeg)).toInt64))) 22 (((gp (((3 * p) + 1).toNatClampNeg)).toInt64) * ((gp (((3 * p) + 2).toNatClampNeg)).toInt64))), kA mP cI 180 gp] H := hP
  have hD : va_D A [kM o mP mL mC mN mF mR mD mV mX mA mK cm mT pm mU mH mI, kJ mR cJ 30 (vp_updL (vp_updL (vp_updL (vp_updL (vp_updL fr 18 (((gp ((3 * p).toNatClampNeg)).toInt64) * ((gp ((3 * p).toNatClampNeg)).toInt64))) 19 (((gp ((3 * p).toNatClampNeg)).toInt64) * ((gp (((3 * p) + 1).toNatClampNeg)).toInt64))) 20 (((gp (((3 * p) + 1).toNatClampNeg)).toInt64) * ((gp (((3 * p) + 1).toNatClampNeg)).toInt64))) 21 (((gp ((3 * p).toNatClampNeg)).toInt64) * ((gp (((3 * p) + 2).toNatClampNeg)).toInt64))) 22 (((gp (((3 * p) + 1).toNatClampNeg)).toInt64) * ((gp (((3 * p) + 2).toNatClampNeg)).toInt64))), kA mP cI 180 gp] := hD
  refine lv_aload_n hx hb dX5_layRow_110 rfl (lv_at hl 3 rfl) ?_
  refine va_get (D := D) (ci := 5) (v := .ref mR) (C := RX5) (T := TX5) (N := 17) hx hb hts k_2 hown hK.1 hP 0 rfl rfl 5 (by decide) k_3 (fun _ h9 => h9) rfl dX5_layRow_111 ?_
  refine lv_bipush (v := 6) hx hb dX5_layRow_114 (by decide) ?_
  refine lv_iload_n hx hb dX5_layRow_116 rfl (lv_at hl 4 rfl) ?_
  refine lv_imul hx hb dX5_layRow_117 ?_
  refine lv_eqi (v := 18) (by decide) ?_
  refine lv_iconst (v := 5) hx hb dX5_layRow_118 (by decide) ?_
  refine lv_iadd hx hb dX5_layRow_119 ?_
  refine lv_eqi (v := 23) (by decide) ?_
  refine lv_lload hx hb dX5_layRow_120 (lv_at hl 0 rfl) ?_
  refine lv_lload hx hb dX5_layRow_122 (lv_at hl 0 rfl) ?_
  refine lv_lmul hx hb dX5_layRow_124 ?_
  refine st_l hx hb hK.1 hP hD hS 1 1 rfl rfl (ix_lit (by decide)) 23 (by decide) dX5_layRow_125 (fun H locs hP hD hS => ?_)
  have hP : va_P D vwCl [kM o mP mL mC mN mF mR mD mV mX mA mK cm mT pm mU mH mI, kJ mR cJ 30 (vp_updL (vp_updL (vp_updL (vp_updL (vp_updL (vp_updL fr 18 (((gp ((3 * p).toNatClampNeg)).toInt64) * ((gp ((3 * p).toNatClampNeg)).toInt64))) 19 (((gp ((3 * p).toNatClampNeg)).toInt64) * ((gp (((3 * p) + 1).toNatClampNeg)).toInt64))) 20 (((gp (((3 * p) + 1).toNatClampNeg)).toInt64) * ((gp (((3 * p) + 1).toNatClampNeg)).toInt64))) 21 (((gp ((3 * p).toNatClampNeg)).toInt64) * ((gp (((3 * p) + 2).toNatClampNeg)).toInt64))) 22 (((gp (((3 * p) + 1).toNatClampNeg)).toInt64) * ((gp (((3 * p) + 2).toNatClampNeg)).toInt64))) 23 (((gp (((3 * p) + 2).toNatClampNeg)).toInt64) * ((gp (((3 * p) + 2).toNatClampNeg)).toInt64))), kA mP cI 180 gp] H := hP
  have hD : va_D A [kM o mP mL mC mN mF mR mD mV mX mA mK cm mT pm mU mH mI, kJ mR cJ 30 (vp_updL (vp_updL (vp_updL (vp_updL (vp_updL (vp_updL fr 18 (((gp ((3 * p).toNatClampNeg)).toInt64) * ((gp ((3 * p).toNatClampNeg)).toInt64))) 19 (((gp ((3 * p).toNatClampNeg)).toInt64) * ((gp (((3 * p) + 1).toNatClampNeg)).toInt64))) 20 (((gp (((3 * p) + 1).toNatClampNeg)).toInt64) * ((gp (((3 * p) + 1).toNatClampNeg)).toInt64))) 21 (((gp ((3 * p).toNatClampNeg)).toInt64) * ((gp (((3 * p) + 2).toNatClampNeg)).toInt64))) 22 (((gp (((3 * p) + 1).toNatClampNeg)).toInt64) * ((gp (((3 * p) + 2).toNatClampNeg)).toInt64))) 23 (((gp (((3 * p) + 2).toNatClampNeg)).toInt64) * ((gp (((3 * p) + 2).toNatClampNeg)).toInt64))), kA mP cI 180 gp] := hD
  have he_0 : z5_layRow_3_f1 fr gp p = vp_updL (vp_updL (vp_updL (vp_updL (vp_updL (vp_updL fr 18 (((gp ((3 * p).toNatClampNeg)).toInt64) * ((gp ((3 * p).toNatClampNeg)).toInt64))) 19 (((gp ((3 * p).toNatClampNeg)).toInt64) * ((gp (((3 * p) + 1).toNatClampNeg)).toInt64))) 20 (((gp (((3 * p) + 1).toNatClampNeg)).toInt64) * ((gp (((3 * p) + 1).toNatClampNeg)).toInt64))) 21 (((gp ((3 * p).toNatClampNeg)).toInt64) * ((gp (((3 * p) + 2).toNatClampNeg)).toInt64))) 22 (((gp (((3 * p) + 1).toNatClampNeg)).toInt64) * ((gp (((3 * p) + 2).toNatClampNeg)).toInt64))) 23 (((gp (((3 * p) + 2).toNatClampNeg)).toInt64) * ((gp (((3 * p) + 2).toNatClampNeg)).toInt64)) := by delta z5_layRow_3_f1; rfl
  exact rt_v (w1 := fun uu : Unit => [kM o mP mL mC mN mF mR mD mV mX mA mK cm mT pm mU mH mI, kJ mR cJ 30 (z5_layRow_3_f1 fr gp p), kA mP cI 180 gp]) hx hb hr hlk hS dX5_layRow_126 (()) trivial (by rw [he_0]; exact hP) (by rw [he_0]; exact hD)
def z5_layRow_4_f1 (fr : Nat → Int64) (gp : Nat → Int32) (p : Int32) : Nat → Int64 := vp_updL (vp_updL (vp_updL (vp_updL (vp_updL (vp_updL fr 24 (((gp ((3 * p).toNatClampNeg)).toInt64) * ((gp ((3 * p).toNatClampNeg)).toInt64))) 25 (((gp ((3 * p).toNatClampNeg)).toInt64) * ((gp (((3 * p) + 1).toNatClampNeg)).toInt64))) 26 (((gp (((3 * p) + 1).toNatClampNeg)).toInt64) * ((gp (((3 * p) + 1).toNatClampNeg)).toInt64))) 27 (((gp ((3 * p).toNatClampNeg)).toInt64) * ((gp (((3 * p) + 2).toNatClampNeg)).toInt64))) 28 (((gp (((3 * p) + 1).toNatClampNeg)).toInt64) * ((gp (((3 * p) + 2).toNatClampNeg)).toInt64))) 29 (((gp (((3 * p) + 2).toNatClampNeg)).toInt64) * ((gp (((3 * p) + 2).toNatClampNeg)).toInt64))
set_option maxHeartbeats 4000000 in
set_option maxRecDepth 100000 in
/-- X5.layRow -/
theorem c_X5_layRow_4 (l : Launch) (D : va_G) (cI cJ : ClassId) (o : Nat) (mP : Nat) (mL : Nat) (mC : Nat) (mN : Nat) (mF : Nat) (mR : Nat) (mD : Nat) (mV : Nat) (mX : Nat) (mA : Nat) (mK : Nat) (mT : Nat) (mU : Nat) (mH : Nat) (mI : Nat) (cm : Int32) (pm : Int32) (fr : Nat → Int64) (gp : Nat → Int32) (p : Int32) (hp : ok_i p) : mw_C l yX5_layRow wsX5_layRow ({ frames := 0, cells := 0, slots := 0, locals := 0 }) D cI cJ [.ref o, .int 4, .int p] [kM o mP mL mC mN mF mR mD mV mX mA mK cm mT pm mU mH mI, kJ mR cJ 30 fr, kA mP cI 180 gp] (qe_v (fun _ : Unit => True) (fun uu => [kM o mP mL mC mN mF mR mD mV mX mA mK cm mT pm mU mH mI, kJ mR cJ 30 (z5_layRow_4_f1 fr gp p), kA mP cI 180 gp])) := by
  refine mw_in (cc := cX5_layRow) (lv := [(0, .ref o), (1, .int 4), (2, .int p)]) (by decide) rfl (Nat.le_of_ble_eq_true rfl) rfl ?_
  intro pG eG sG mG below meth cG ls A hx hb hr hml hown hts hlk hin hP hK hD hA hS hl
  have hown : sG.vm.findClass RX5 = some mG.cls := hown
  have k_1 := hts (.fieldLink RX5 7 "ConicRowsModel" "points" "[I") (by decide +kernel)
  have k_2 : ∀ w ∈ wsX50, w ∈ wsX5_layRow := by decide +kernel
  have k_3 := hts (.fieldLink RX5 26 "ConicRowsModel" "rows" "[J") (by decide +kernel)
  refine lv_aload_n hx hb dX5_layRow_0 rfl (lv_at hl 0 rfl) ?_
  refine va_get (D := D) (ci := 5) (v := .ref mP) (C := RX5) (T := TX5) (N := 17) hx hb hts k_2 hown hK.1 hP 0 rfl rfl 0 (by decide) k_1 (fun _ h9 => h9) rfl dX5_layRow_1 ?_
  refine lv_iconst (v := 3) hx hb dX5_layRow_4 (by decide) ?_
  refine lv_iload_n hx hb dX5_layRow_5 rfl (lv_at hl 2 rfl) ?_
  refine lv_imul hx hb dX5_layRow_6 ?_
  refine ld_i hx hb hK.1 hP 2 0 rfl rfl (ix3z hp) ((3 * p).toNatClampNeg) rfl (v := gp ((3 * p).toNatClampNeg)) rfl dX5_layRow_7 ?_
  refine lv_i2l hx hb dX5_layRow_8 rfl ?_
  refine lv_lstore_n (lv' := [(3, .long ((gp ((3 * p).toNatClampNeg)).toInt64)), (0, .ref o), (1, .int 4), (2, .int p)]) hx hb dX5_layRow_9 rfl hl (by decide) rfl (fun ls hl => ?_)
  refine lv_aload_n hx hb dX5_layRow_10 rfl (lv_at hl 1 rfl) ?_
  refine va_get (D := D) (ci := 5) (v := .ref mP) (C := RX5) (T := TX5) (N := 17) hx hb hts k_2 hown hK.1 hP 0 rfl rfl 0 (by decide) k_1 (fun _ h9 => h9) rfl dX5_layRow_11 ?_
  refine lv_iconst (v := 3) hx hb dX5_layRow_14 (by decide) ?_
  refine lv_iload_n hx hb dX5_layRow_15 rfl (lv_at hl 3 rfl) ?_
  refine lv_imul hx hb dX5_layRow_16 ?_
  refine lv_iconst (v := 1) hx hb dX5_layRow_17 (by decide) ?_
  refine lv_iadd hx hb dX5_layRow_18 ?_
  refine ld_i hx hb hK.1 hP 2 0 rfl rfl (ix3l hp 1 (by decide)) (((3 * p) + 1).toNatClampNeg) rfl (v := gp (((3 * p) + 1).toNatClampNeg)) rfl dX5_layRow_19 ?_
  refine lv_i2l hx hb dX5_layRow_20 rfl ?_
  refine lv_lstore (lv' := [(5, .long ((gp (((3 * p) + 1).toNatClampNeg)).toInt64)), (3, .long ((gp ((3 * p).toNatClampNeg)).toInt64)), (0, .ref o), (1, .int 4), (2, .int p)]) hx hb dX5_layRow_21 hl (by decide) rfl (fun ls hl => ?_)
  refine lv_aload_n hx hb dX5_layRow_23 rfl (lv_at hl 2 rfl) ?_
  refine va_get (D := D) (ci := 5) (v := .ref mP) (C := RX5) (T := TX5) (N := 17) hx hb hts k_2 hown hK.1 hP 0 rfl rfl 0 (by decide) k_1 (fun _ h9 => h9) rfl dX5_layRow_24 ?_
  refine lv_iconst (v := 3) hx hb dX5_layRow_27 (by decide) ?_
  refine lv_iload_n hx hb dX5_layRow_28 rfl (lv_at hl 4 rfl) ?_
  refine lv_imul hx hb dX5_layRow_29 ?_
  refine lv_iconst (v := 2) hx hb dX5_layRow_30 (by decide) ?_
  refine lv_iadd hx hb dX5_layRow_31 ?_
  refine ld_i hx hb hK.1 hP 2 0 rfl rfl (ix3l hp 2 (by decide)) (((3 * p) + 2).toNatClampNeg) rfl (v := gp (((3 * p) + 2).toNatClampNeg)) rfl dX5_layRow_32 ?_
  refine lv_i2l hx hb dX5_layRow_33 rfl ?_
  refine lv_lstore (lv' := [(7, .long ((gp (((3 * p) + 2).toNatClampNeg)).toInt64)), (5, .long ((gp (((3 * p) + 1).toNatClampNeg)).toInt64)), (3, .long ((gp ((3 * p).toNatClampNeg)).toInt64)), (0, .ref o), (1, .int 4), (2, .int p)]) hx hb dX5_layRow_34 hl (by decide) rfl (fun ls hl => ?_)
  refine lv_aload_n hx hb dX5_layRow_36 rfl (lv_at hl 3 rfl) ?_
  refine va_get (D := D) (ci := 5) (v := .ref mR) (C := RX5) (T := TX5) (N := 17) hx hb hts k_2 hown hK.1 hP 0 rfl rfl 5 (by decide) k_3 (fun _ h9 => h9) rfl dX5_layRow_37 ?_
  refine lv_bipush (v := 6) hx hb dX5_layRow_40 (by decide) ?_
  refine lv_iload_n hx hb dX5_layRow_42 rfl (lv_at hl 4 rfl) ?_
  refine lv_imul hx hb dX5_layRow_43 ?_
  refine lv_eqi (v := 24) (by decide) ?_
  refine lv_lload_n hx hb dX5_layRow_44 rfl (lv_at hl 2 rfl) ?_
  refine lv_lload_n hx hb dX5_layRow_45 rfl (lv_at hl 2 rfl) ?_
  refine lv_lmul hx hb dX5_layRow_46 ?_
  refine st_l hx hb hK.1 hP hD hS 1 1 rfl rfl (ix_lit (by decide)) 24 (by decide) dX5_layRow_47 (fun H locs hP hD hS => ?_)
  have hP : va_P D vwCl [kM o mP mL mC mN mF mR mD mV mX mA mK cm mT pm mU mH mI, kJ mR cJ 30 (vp_updL fr 24 (((gp ((3 * p).toNatClampNeg)).toInt64) * ((gp ((3 * p).toNatClampNeg)).toInt64))), kA mP cI 180 gp] H := hP
  have hD : va_D A [kM o mP mL mC mN mF mR mD mV mX mA mK cm mT pm mU mH mI, kJ mR cJ 30 (vp_updL fr 24 (((gp ((3 * p).toNatClampNeg)).toInt64) * ((gp ((3 * p).toNatClampNeg)).toInt64))), kA mP cI 180 gp] := hD
  refine lv_aload_n hx hb dX5_layRow_48 rfl (lv_at hl 3 rfl) ?_
  refine va_get (D := D) (ci := 5) (v := .ref mR) (C := RX5) (T := TX5) (N := 17) hx hb hts k_2 hown hK.1 hP 0 rfl rfl 5 (by decide) k_3 (fun _ h9 => h9) rfl dX5_layRow_49 ?_
  refine lv_bipush (v := 6) hx hb dX5_layRow_52 (by decide) ?_
  refine lv_iload_n hx hb dX5_layRow_54 rfl (lv_at hl 4 rfl) ?_
  refine lv_imul hx hb dX5_layRow_55 ?_
  refine lv_eqi (v := 24) (by decide) ?_
  refine lv_iconst (v := 1) hx hb dX5_layRow_56 (by decide) ?_
  refine lv_iadd hx hb dX5_layRow_57 ?_
  refine lv_eqi (v := 25) (by decide) ?_
  refine lv_lload_n hx hb dX5_layRow_58 rfl (lv_at hl 2 rfl) ?_
  refine lv_lload hx hb dX5_layRow_59 (lv_at hl 1 rfl) ?_
  refine lv_lmul hx hb dX5_layRow_61 ?_
  refine st_l hx hb hK.1 hP hD hS 1 1 rfl rfl (ix_lit (by decide)) 25 (by decide) dX5_layRow_62 (fun H locs hP hD hS => ?_)
  have hP : va_P D vwCl [kM o mP mL mC mN mF mR mD mV mX mA mK cm mT pm mU mH mI, kJ mR cJ 30 (vp_updL (vp_updL fr 24 (((gp ((3 * p).toNatClampNeg)).toInt64) * ((gp ((3 * p).toNatClampNeg)).toInt64))) 25 (((gp ((3 * p).toNatClampNeg)).toInt64) * ((gp (((3 * p) + 1).toNatClampNeg)).toInt64))), kA mP cI 180 gp] H := hP
  have hD : va_D A [kM o mP mL mC mN mF mR mD mV mX mA mK cm mT pm mU mH mI, kJ mR cJ 30 (vp_updL (vp_updL fr 24 (((gp ((3 * p).toNatClampNeg)).toInt64) * ((gp ((3 * p).toNatClampNeg)).toInt64))) 25 (((gp ((3 * p).toNatClampNeg)).toInt64) * ((gp (((3 * p) + 1).toNatClampNeg)).toInt64))), kA mP cI 180 gp] := hD
  refine lv_aload_n hx hb dX5_layRow_63 rfl (lv_at hl 3 rfl) ?_
  refine va_get (D := D) (ci := 5) (v := .ref mR) (C := RX5) (T := TX5) (N := 17) hx hb hts k_2 hown hK.1 hP 0 rfl rfl 5 (by decide) k_3 (fun _ h9 => h9) rfl dX5_layRow_64 ?_
  refine lv_bipush (v := 6) hx hb dX5_layRow_67 (by decide) ?_
  refine lv_iload_n hx hb dX5_layRow_69 rfl (lv_at hl 4 rfl) ?_
  refine lv_imul hx hb dX5_layRow_70 ?_
  refine lv_eqi (v := 24) (by decide) ?_
  refine lv_iconst (v := 2) hx hb dX5_layRow_71 (by decide) ?_
  refine lv_iadd hx hb dX5_layRow_72 ?_
  refine lv_eqi (v := 26) (by decide) ?_
  refine lv_lload hx hb dX5_layRow_73 (lv_at hl 1 rfl) ?_
  refine lv_lload hx hb dX5_layRow_75 (lv_at hl 1 rfl) ?_
  refine lv_lmul hx hb dX5_layRow_77 ?_
  refine st_l hx hb hK.1 hP hD hS 1 1 rfl rfl (ix_lit (by decide)) 26 (by decide) dX5_layRow_78 (fun H locs hP hD hS => ?_)
  have hP : va_P D vwCl [kM o mP mL mC mN mF mR mD mV mX mA mK cm mT pm mU mH mI, kJ mR cJ 30 (vp_updL (vp_updL (vp_updL fr 24 (((gp ((3 * p).toNatClampNeg)).toInt64) * ((gp ((3 * p).toNatClampNeg)).toInt64))) 25 (((gp ((3 * p).toNatClampNeg)).toInt64) * ((gp (((3 * p) + 1).toNatClampNeg)).toInt64))) 26 (((gp (((3 * p) + 1).toNatClampNeg)).toInt64) * ((gp (((3 * p) + 1).toNatClampNeg)).toInt64))), kA mP cI 180 gp] H := hP
  have hD : va_D A [kM o mP mL mC mN mF mR mD mV mX mA mK cm mT pm mU mH mI, kJ mR cJ 30 (vp_updL (vp_updL (vp_updL fr 24 (((gp ((3 * p).toNatClampNeg)).toInt64) * ((gp ((3 * p).toNatClampNeg)).toInt64))) 25 (((gp ((3 * p).toNatClampNeg)).toInt64) * ((gp (((3 * p) + 1).toNatClampNeg)).toInt64))) 26 (((gp (((3 * p) + 1).toNatClampNeg)).toInt64) * ((gp (((3 * p) + 1).toNatClampNeg)).toInt64))), kA mP cI 180 gp] := hD
  refine lv_aload_n hx hb dX5_layRow_79 rfl (lv_at hl 3 rfl) ?_
  refine va_get (D := D) (ci := 5) (v := .ref mR) (C := RX5) (T := TX5) (N := 17) hx hb hts k_2 hown hK.1 hP 0 rfl rfl 5 (by decide) k_3 (fun _ h9 => h9) rfl dX5_layRow_80 ?_
  refine lv_bipush (v := 6) hx hb dX5_layRow_83 (by decide) ?_
  refine lv_iload_n hx hb dX5_layRow_85 rfl (lv_at hl 4 rfl) ?_
  refine lv_imul hx hb dX5_layRow_86 ?_
  refine lv_eqi (v := 24) (by decide) ?_
  refine lv_iconst (v := 3) hx hb dX5_layRow_87 (by decide) ?_
  refine lv_iadd hx hb dX5_layRow_88 ?_
  refine lv_eqi (v := 27) (by decide) ?_
  refine lv_lload_n hx hb dX5_layRow_89 rfl (lv_at hl 2 rfl) ?_
  refine lv_lload hx hb dX5_layRow_90 (lv_at hl 0 rfl) ?_
  refine lv_lmul hx hb dX5_layRow_92 ?_
  refine st_l hx hb hK.1 hP hD hS 1 1 rfl rfl (ix_lit (by decide)) 27 (by decide) dX5_layRow_93 (fun H locs hP hD hS => ?_)
  have hP : va_P D vwCl [kM o mP mL mC mN mF mR mD mV mX mA mK cm mT pm mU mH mI, kJ mR cJ 30 (vp_updL (vp_updL (vp_updL (vp_updL fr 24 (((gp ((3 * p).toNatClampNeg)).toInt64) * ((gp ((3 * p).toNatClampNeg)).toInt64))) 25 (((gp ((3 * p).toNatClampNeg)).toInt64) * ((gp (((3 * p) + 1).toNatClampNeg)).toInt64))) 26 (((gp (((3 * p) + 1).toNatClampNeg)).toInt64) * ((gp (((3 * p) + 1).toNatClampNeg)).toInt64))) 27 (((gp ((3 * p).toNatClampNeg)).toInt64) * ((gp (((3 * p) + 2).toNatClampNeg)).toInt64))), kA mP cI 180 gp] H := hP
  have hD : va_D A [kM o mP mL mC mN mF mR mD mV mX mA mK cm mT pm mU mH mI, kJ mR cJ 30 (vp_updL (vp_updL (vp_updL (vp_updL fr 24 (((gp ((3 * p).toNatClampNeg)).toInt64) * ((gp ((3 * p).toNatClampNeg)).toInt64))) 25 (((gp ((3 * p).toNatClampNeg)).toInt64) * ((gp (((3 * p) + 1).toNatClampNeg)).toInt64))) 26 (((gp (((3 * p) + 1).toNatClampNeg)).toInt64) * ((gp (((3 * p) + 1).toNatClampNeg)).toInt64))) 27 (((gp ((3 * p).toNatClampNeg)).toInt64) * ((gp (((3 * p) + 2).toNatClampNeg)).toInt64))), kA mP cI 180 gp] := hD
  refine lv_aload_n hx hb dX5_layRow_94 rfl (lv_at hl 3 rfl) ?_
  refine va_get (D := D) (ci := 5) (v := .ref mR) (C := RX5) (T := TX5) (N := 17) hx hb hts k_2 hown hK.1 hP 0 rfl rfl 5 (by decide) k_3 (fun _ h9 => h9) rfl dX5_layRow_95 ?_
  refine lv_bipush (v := 6) hx hb dX5_layRow_98 (by decide) ?_
  refine lv_iload_n hx hb dX5_layRow_100 rfl (lv_at hl 4 rfl) ?_
  refine lv_imul hx hb dX5_layRow_101 ?_
  refine lv_eqi (v := 24) (by decide) ?_
  refine lv_iconst (v := 4) hx hb dX5_layRow_102 (by decide) ?_
  refine lv_iadd hx hb dX5_layRow_103 ?_
  refine lv_eqi (v := 28) (by decide) ?_
  refine lv_lload hx hb dX5_layRow_104 (lv_at hl 1 rfl) ?_
  refine lv_lload hx hb dX5_layRow_106 (lv_at hl 0 rfl) ?_
  refine lv_lmul hx hb dX5_layRow_108 ?_
  refine st_l hx hb hK.1 hP hD hS 1 1 rfl rfl (ix_lit (by decide)) 28 (by decide) dX5_layRow_109 (fun H locs hP hD hS => ?_)
  have hP : va_P D vwCl [kM o mP mL mC mN mF mR mD mV mX mA mK cm mT pm mU mH mI, kJ mR cJ 30 (vp_updL (vp_updL (vp_updL (vp_updL (vp_updL fr 24 (((gp ((3 * p).toNatClampNeg)).toInt64) * ((gp ((3 * p).toNatClampNeg)).toInt64))) 25 (((gp ((3 * p).toNatClampNeg)).toInt64) * ((gp (((3 * p) + 1).toNatClampNeg)).toInt64))) 26 (((gp (((3 * p) + 1).toNatClampNeg)).toInt64) * ((gp (((3 * p) + 1).toNatClampNeg)).toInt64))) 27 (((gp ((3 * p).toNatClampNeg)).toInt64) * ((gp (((3 * p) + 2).toNatClampNeg)).toInt64))) 28 (((gp (((3 * p) + 1).toNatClampNeg)).toInt64) * ((gp (((3 * p) + 2).toNatClampNeg)).toInt64))), kA mP cI 180 gp] H := hP
  have hD : va_D A [kM o mP mL mC mN mF mR mD mV mX mA mK cm mT pm mU mH mI, kJ mR cJ 30 (vp_updL (vp_updL (vp_updL (vp_updL (vp_updL fr 24 (((gp ((3 * p).toNatClampNeg)).toInt64) * ((gp ((3 * p).toNatClampNeg)).toInt64))) 25 (((gp ((3 * p).toNatClampNeg)).toInt64) * ((gp (((3 * p) + 1).toNatClampNeg)).toInt64))) 26 (((gp (((3 * p) + 1).toNatClampNeg)).toInt64) * ((gp (((3 * p) + 1).toNatClampNeg)).toInt64))) 27 (((gp ((3 * p).toNatClampNeg)).toInt64) * ((gp (((3 * p) + 2).toNatClampNeg)).toInt64))) 28 (((gp (((3 * p) + 1).toNatClampNeg)).toInt64) * ((gp (((3 * p) + 2).toNatClampNeg)).toInt64))), kA mP cI 180 gp] := hD
  refine lv_aload_n hx hb dX5_layRow_110 rfl (lv_at hl 3 rfl) ?_
  refine va_get (D := D) (ci := 5) (v := .ref mR) (C := RX5) (T := TX5) (N := 17) hx hb hts k_2 hown hK.1 hP 0 rfl rfl 5 (by decide) k_3 (fun _ h9 => h9) rfl dX5_layRow_111 ?_
  refine lv_bipush (v := 6) hx hb dX5_layRow_114 (by decide) ?_
  refine lv_iload_n hx hb dX5_layRow_116 rfl (lv_at hl 4 rfl) ?_
  refine lv_imul hx hb dX5_layRow_117 ?_
  refine lv_eqi (v := 24) (by decide) ?_
  refine lv_iconst (v := 5) hx hb dX5_layRow_118 (by decide) ?_
  refine lv_iadd hx hb dX5_layRow_119 ?_
  refine lv_eqi (v := 29) (by decide) ?_
  refine lv_lload hx hb dX5_layRow_120 (lv_at hl 0 rfl) ?_
  refine lv_lload hx hb dX5_layRow_122 (lv_at hl 0 rfl) ?_
  refine lv_lmul hx hb dX5_layRow_124 ?_
  refine st_l hx hb hK.1 hP hD hS 1 1 rfl rfl (ix_lit (by decide)) 29 (by decide) dX5_layRow_125 (fun H locs hP hD hS => ?_)
  have hP : va_P D vwCl [kM o mP mL mC mN mF mR mD mV mX mA mK cm mT pm mU mH mI, kJ mR cJ 30 (vp_updL (vp_updL (vp_updL (vp_updL (vp_updL (vp_updL fr 24 (((gp ((3 * p).toNatClampNeg)).toInt64) * ((gp ((3 * p).toNatClampNeg)).toInt64))) 25 (((gp ((3 * p).toNatClampNeg)).toInt64) * ((gp (((3 * p) + 1).toNatClampNeg)).toInt64))) 26 (((gp (((3 * p) + 1).toNatClampNeg)).toInt64) * ((gp (((3 * p) + 1).toNatClampNeg)).toInt64))) 27 (((gp ((3 * p).toNatClampNeg)).toInt64) * ((gp (((3 * p) + 2).toNatClampNeg)).toInt64))) 28 (((gp (((3 * p) + 1).toNatClampNeg)).toInt64) * ((gp (((3 * p) + 2).toNatClampNeg)).toInt64))) 29 (((gp (((3 * p) + 2).toNatClampNeg)).toInt64) * ((gp (((3 * p) + 2).toNatClampNeg)).toInt64))), kA mP cI 180 gp] H := hP
  have hD : va_D A [kM o mP mL mC mN mF mR mD mV mX mA mK cm mT pm mU mH mI, kJ mR cJ 30 (vp_updL (vp_updL (vp_updL (vp_updL (vp_updL (vp_updL fr 24 (((gp ((3 * p).toNatClampNeg)).toInt64) * ((gp ((3 * p).toNatClampNeg)).toInt64))) 25 (((gp ((3 * p).toNatClampNeg)).toInt64) * ((gp (((3 * p) + 1).toNatClampNeg)).toInt64))) 26 (((gp (((3 * p) + 1).toNatClampNeg)).toInt64) * ((gp (((3 * p) + 1).toNatClampNeg)).toInt64))) 27 (((gp ((3 * p).toNatClampNeg)).toInt64) * ((gp (((3 * p) + 2).toNatClampNeg)).toInt64))) 28 (((gp (((3 * p) + 1).toNatClampNeg)).toInt64) * ((gp (((3 * p) + 2).toNatClampNeg)).toInt64))) 29 (((gp (((3 * p) + 2).toNatClampNeg)).toInt64) * ((gp (((3 * p) + 2).toNatClampNeg)).toInt64))), kA mP cI 180 gp] := hD
  have he_0 : z5_layRow_4_f1 fr gp p = vp_updL (vp_updL (vp_updL (vp_updL (vp_updL (vp_updL fr 24 (((gp ((3 * p).toNatClampNeg)).toInt64) * ((gp ((3 * p).toNatClampNeg)).toInt64))) 25 (((gp ((3 * p).toNatClampNeg)).toInt64) * ((gp (((3 * p) + 1).toNatClampNeg)).toInt64))) 26 (((gp (((3 * p) + 1).toNatClampNeg)).toInt64) * ((gp (((3 * p) + 1).toNatClampNeg)).toInt64))) 27 (((gp ((3 * p).toNatClampNeg)).toInt64) * ((gp (((3 * p) + 2).toNatClampNeg)).toInt64))) 28 (((gp (((3 * p) + 1).toNatClampNeg)).toInt64) * ((gp (((3 * p) + 2).toNatClampNeg)).toInt64))) 29 (((gp (((3 * p) + 2).toNatClampNeg)).toInt64) * ((gp (((3 * p) + 2).toNatClampNeg)).toInt64)) := by delta z5_layRow_4_f1; rfl
  exact rt_v (w1 := fun uu : Unit => [kM o mP mL mC mN mF mR mD mV mX mA mK cm mT pm mU mH mI, kJ mR cJ 30 (z5_layRow_4_f1 fr gp p), kA mP cI 180 gp]) hx hb hr hlk hS dX5_layRow_126 (()) trivial (by rw [he_0]; exact hP) (by rw [he_0]; exact hD)
def z5_isSmall (gp : Nat → Int32) (p : Int32) : Int32 := if (z5_in ((gp (((3 * p) + 0).toNatClampNeg)).toInt64) (-30) 30) = 0 then 0 else if (z5_in ((gp (((3 * p) + 1).toNatClampNeg)).toInt64) (-30) 30) = 0 then 0 else if (z5_in ((gp (((3 * p) + 2).toNatClampNeg)).toInt64) (-30) 30) = 0 then 0 else 1
set_option maxHeartbeats 4000000 in
set_option maxRecDepth 100000 in
/-- X5.isSmall -/
theorem c_X5_isSmall (l : Launch) (D : va_G) (cI cJ : ClassId) (o : Nat) (mP : Nat) (mL : Nat) (mC : Nat) (mN : Nat) (mF : Nat) (mR : Nat) (mD : Nat) (mV : Nat) (mX : Nat) (mA : Nat) (mK : Nat) (mT : Nat) (mU : Nat) (mH : Nat) (mI : Nat) (cm : Int32) (pm : Int32) (gp : Nat → Int32) (p : Int32) (hp : ok_i p) : mr_C l yX5_isSmall wsX5_isSmall ({ frames := 1, cells := 0, slots := 0, locals := 25 }) D cI cJ [.ref o, .int p] [kM o mP mL mC mN mF mR mD mV mX mA mK cm mT pm mU mH mI, kA mP cI 180 gp] (vp_Si (fun r : Int32 => r = z5_isSmall gp p)) := by
  refine mr_in (cc := cX5_isSmall) (lv := [(0, .ref o), (1, .int p)]) (by decide) rfl (Nat.le_of_ble_eq_true rfl) rfl ?_
  intro pG eG sG mG below meth cG ls hx hb hr hml hown hts hlk hP hK hl
  have hown : sG.vm.findClass RX5 = some mG.cls := hown
  have k_1 := hts (.fieldLink RX5 7 "ConicRowsModel" "points" "[I") (by decide +kernel)
  have k_2 : ∀ w ∈ wsX50, w ∈ wsX5_isSmall := by decide +kernel
  have k_3 := hts (.constantLong RX5 118 (-30)) (by decide +kernel)
  have k_4 := hts (.constantLong RX5 120 (30)) (by decide +kernel)
  refine lv_iconst (v := 1) hx hb dX5_isSmall_0 (by decide) ?_
  refine lv_istore_n (lv' := [(2, .int 1), (0, .ref o), (1, .int p)]) hx hb dX5_isSmall_1 rfl hl (by decide) rfl (fun ls hl => ?_)
  refine lv_iconst (v := 0) hx hb dX5_isSmall_2 (by decide) ?_
  refine lv_istore_n (lv' := [(3, .int 0), (2, .int 1), (0, .ref o), (1, .int p)]) hx hb dX5_isSmall_3 rfl hl (by decide) rfl (fun ls hl => ?_)
  refine lv_iload_n hx hb dX5_isSmall_4 rfl (lv_at hl 0 rfl) ?_
  refine lv_iconst (v := 3) hx hb dX5_isSmall_5 (by decide) ?_
  refine lv_icmp_ge (tgt := 48) hx hb dX5_isSmall_6 (by decide) (fun h => absurd h (by decide)) (fun _ => ?_)
  refine lv_iload_n hx hb dX5_isSmall_9 rfl (lv_at hl 1 rfl) ?_
  refine lv_if_eq (tgt := 40) hx hb dX5_isSmall_10 (by decide) (fun h => absurd h (by decide)) (fun _ => ?_)
  refine lv_aload_n hx hb dX5_isSmall_13 rfl (lv_at hl 2 rfl) ?_
  refine va_get (D := D) (ci := 5) (v := .ref mP) (C := RX5) (T := TX5) (N := 17) hx hb hts k_2 hown hK.1 hP 0 rfl rfl 0 (by decide) k_1 (fun _ h9 => h9) rfl dX5_isSmall_14 ?_
  refine lv_iconst (v := 3) hx hb dX5_isSmall_17 (by decide) ?_
  refine lv_iload_n hx hb dX5_isSmall_18 rfl (lv_at hl 3 rfl) ?_
  refine lv_imul hx hb dX5_isSmall_19 ?_
  refine lv_iload_n hx hb dX5_isSmall_20 rfl (lv_at hl 0 rfl) ?_
  refine lv_iadd hx hb dX5_isSmall_21 ?_
  refine ld_i hx hb hK.1 hP 1 0 rfl rfl (ix3l hp 0 (by decide)) (((3 * p) + 0).toNatClampNeg) rfl (v := gp (((3 * p) + 0).toNatClampNeg)) rfl dX5_isSmall_22 ?_
  refine lv_i2l hx hb dX5_isSmall_23 rfl ?_
  refine lv_ldc2 hx hb hown k_3 dX5_isSmall_24 ?_
  refine lv_ldc2 hx hb hown k_4 dX5_isSmall_27 ?_
  have hPc := hP.sub (ws' := []) [] rfl
  refine cr_i (va_runS (As := [.long ((gp (((3 * p) + 0).toNatClampNeg)).toInt64), .long (-30), .long 30]) (rest := []) ⟨hx, hb, hml, hown, hts⟩ (c_X5_in l D cI cJ ((gp (((3 * p) + 0).toNatClampNeg)).toInt64) (-30) 30) (va_cwS 3 hts gX5_isSmall_X5_in rfl rfl rfl (by decide +kernel) ⟨Nat.le_of_ble_eq_true rfl, Nat.le_of_ble_eq_true rfl⟩) ⟨gd_blR, gd_prR hPc hK⟩ rfl rfl hl.1 rfl (lv_room (Nat.le_of_ble_eq_true rfl)) dX5_isSmall_30 ⟨Nat.zero_le _, Nat.zero_le _⟩) (fun r_30 hw => ?_)
  subst hw
  clear hPc
  refine lv_if_eq (tgt := 40) hx hb dX5_isSmall_33 (by decide) (fun c_1 => ?_) (fun c_1 => ?_)
  · skip
    refine lv_iconst (v := 0) hx hb dX5_isSmall_40 (by decide) ?_
    refine lv_istore_n (lv' := [(2, .int 0), (3, .int 0), (0, .ref o), (1, .int p)]) hx hb dX5_isSmall_41 rfl hl (by decide) rfl (fun ls hl => ?_)
    refine lv_iinc (v := 1) (lv' := [(3, .int 1), (2, .int 0), (0, .ref o), (1, .int p)]) hx hb dX5_isSmall_42 hl (k := 1) rfl (by decide) (by decide) rfl (fun ls hl => ?_)
    refine lv_goto (tgt := 4) hx hb dX5_isSmall_45 (by decide) ?_
    refine lv_iload_n hx hb dX5_isSmall_4 rfl (lv_at hl 0 rfl) ?_
    refine lv_iconst (v := 3) hx hb dX5_isSmall_5 (by decide) ?_
    refine lv_icmp_ge (tgt := 48) hx hb dX5_isSmall_6 (by decide) (fun h => absurd h (by decide)) (fun _ => ?_)
    refine lv_iload_n hx hb dX5_isSmall_9 rfl (lv_at hl 1 rfl) ?_
    refine lv_if_eq (tgt := 40) hx hb dX5_isSmall_10 (by decide) (fun _ => ?_) (fun h => absurd (by decide) h)
    refine lv_iconst (v := 0) hx hb dX5_isSmall_40 (by decide) ?_
    refine lv_istore_n (lv' := [(2, .int 0), (3, .int 1), (0, .ref o), (1, .int p)]) hx hb dX5_isSmall_41 rfl hl (by decide) rfl (fun ls hl => ?_)
    refine lv_iinc (v := 2) (lv' := [(3, .int 2), (2, .int 0), (0, .ref o), (1, .int p)]) hx hb dX5_isSmall_42 hl (k := 1) rfl (by decide) (by decide) rfl (fun ls hl => ?_)
    refine lv_goto (tgt := 4) hx hb dX5_isSmall_45 (by decide) ?_
    refine lv_iload_n hx hb dX5_isSmall_4 rfl (lv_at hl 0 rfl) ?_
    refine lv_iconst (v := 3) hx hb dX5_isSmall_5 (by decide) ?_
    refine lv_icmp_ge (tgt := 48) hx hb dX5_isSmall_6 (by decide) (fun h => absurd h (by decide)) (fun _ => ?_)
    refine lv_iload_n hx hb dX5_isSmall_9 rfl (lv_at hl 1 rfl) ?_
    refine lv_if_eq (tgt := 40) hx hb dX5_isSmall_10 (by decide) (fun _ => ?_) (fun h => absurd (by decide) h)
    refine lv_iconst (v := 0) hx hb dX5_isSmall_40 (by decide) ?_
    refine lv_istore_n (lv' := [(2, .int 0), (3, .int 2), (0, .ref o), (1, .int p)]) hx hb dX5_isSmall_41 rfl hl (by decide) rfl (fun ls hl => ?_)
    refine lv_iinc (v := 3) (lv' := [(3, .int 3), (2, .int 0), (0, .ref o), (1, .int p)]) hx hb dX5_isSmall_42 hl (k := 1) rfl (by decide) (by decide) rfl (fun ls hl => ?_)
    refine lv_goto (tgt := 4) hx hb dX5_isSmall_45 (by decide) ?_
    refine lv_iload_n hx hb dX5_isSmall_4 rfl (lv_at hl 0 rfl) ?_
    refine lv_iconst (v := 3) hx hb dX5_isSmall_5 (by decide) ?_
    refine lv_icmp_ge (tgt := 48) hx hb dX5_isSmall_6 (by decide) (fun _ => ?_) (fun h => absurd (by decide) h)
    refine lv_iload_n hx hb dX5_isSmall_48 rfl (lv_at hl 1 rfl) ?_
    have he : z5_isSmall gp p = 0 := by unfold z5_isSmall; rw [if_pos c_1]
    exact rr_z hx hb hr rfl hlk dX5_isSmall_49 he.symm
  · skip
    refine lv_iconst (v := 1) hx hb dX5_isSmall_36 (by decide) ?_
    refine lv_goto (tgt := 41) hx hb dX5_isSmall_37 (by decide) ?_
    refine lv_istore_n (lv' := [(2, .int 1), (3, .int 0), (0, .ref o), (1, .int p)]) hx hb dX5_isSmall_41 rfl hl (by decide) rfl (fun ls hl => ?_)
    refine lv_iinc (v := 1) (lv' := [(3, .int 1), (2, .int 1), (0, .ref o), (1, .int p)]) hx hb dX5_isSmall_42 hl (k := 1) rfl (by decide) (by decide) rfl (fun ls hl => ?_)
    refine lv_goto (tgt := 4) hx hb dX5_isSmall_45 (by decide) ?_
    refine lv_iload_n hx hb dX5_isSmall_4 rfl (lv_at hl 0 rfl) ?_
    refine lv_iconst (v := 3) hx hb dX5_isSmall_5 (by decide) ?_
    refine lv_icmp_ge (tgt := 48) hx hb dX5_isSmall_6 (by decide) (fun h => absurd h (by decide)) (fun _ => ?_)
    refine lv_iload_n hx hb dX5_isSmall_9 rfl (lv_at hl 1 rfl) ?_
    refine lv_if_eq (tgt := 40) hx hb dX5_isSmall_10 (by decide) (fun h => absurd h (by decide)) (fun _ => ?_)
    refine lv_aload_n hx hb dX5_isSmall_13 rfl (lv_at hl 2 rfl) ?_
    refine va_get (D := D) (ci := 5) (v := .ref mP) (C := RX5) (T := TX5) (N := 17) hx hb hts k_2 hown hK.1 hP 0 rfl rfl 0 (by decide) k_1 (fun _ h9 => h9) rfl dX5_isSmall_14 ?_
    refine lv_iconst (v := 3) hx hb dX5_isSmall_17 (by decide) ?_
    refine lv_iload_n hx hb dX5_isSmall_18 rfl (lv_at hl 3 rfl) ?_
    refine lv_imul hx hb dX5_isSmall_19 ?_
    refine lv_iload_n hx hb dX5_isSmall_20 rfl (lv_at hl 0 rfl) ?_
    refine lv_iadd hx hb dX5_isSmall_21 ?_
    refine ld_i hx hb hK.1 hP 1 0 rfl rfl (ix3l hp 1 (by decide)) (((3 * p) + 1).toNatClampNeg) rfl (v := gp (((3 * p) + 1).toNatClampNeg)) rfl dX5_isSmall_22 ?_
    refine lv_i2l hx hb dX5_isSmall_23 rfl ?_
    refine lv_ldc2 hx hb hown k_3 dX5_isSmall_24 ?_
    refine lv_ldc2 hx hb hown k_4 dX5_isSmall_27 ?_
    have hPc := hP.sub (ws' := []) [] rfl
    refine cr_i (va_runS (As := [.long ((gp (((3 * p) + 1).toNatClampNeg)).toInt64), .long (-30), .long 30]) (rest := []) ⟨hx, hb, hml, hown, hts⟩ (c_X5_in l D cI cJ ((gp (((3 * p) + 1).toNatClampNeg)).toInt64) (-30) 30) (va_cwS 3 hts gX5_isSmall_X5_in rfl rfl rfl (by decide +kernel) ⟨Nat.le_of_ble_eq_true rfl, Nat.le_of_ble_eq_true rfl⟩) ⟨gd_blR, gd_prR hPc hK⟩ rfl rfl hl.1 rfl (lv_room (Nat.le_of_ble_eq_true rfl)) dX5_isSmall_30 ⟨Nat.zero_le _, Nat.zero_le _⟩) (fun r_30 hw => ?_)
    subst hw
    clear hPc
    refine lv_if_eq (tgt := 40) hx hb dX5_isSmall_33 (by decide) (fun c_2 => ?_) (fun c_2 => ?_)
    · skip
      refine lv_iconst (v := 0) hx hb dX5_isSmall_40 (by decide) ?_
      refine lv_istore_n (lv' := [(2, .int 0), (3, .int 1), (0, .ref o), (1, .int p)]) hx hb dX5_isSmall_41 rfl hl (by decide) rfl (fun ls hl => ?_)
      refine lv_iinc (v := 2) (lv' := [(3, .int 2), (2, .int 0), (0, .ref o), (1, .int p)]) hx hb dX5_isSmall_42 hl (k := 1) rfl (by decide) (by decide) rfl (fun ls hl => ?_)
      refine lv_goto (tgt := 4) hx hb dX5_isSmall_45 (by decide) ?_
      refine lv_iload_n hx hb dX5_isSmall_4 rfl (lv_at hl 0 rfl) ?_
      refine lv_iconst (v := 3) hx hb dX5_isSmall_5 (by decide) ?_
      refine lv_icmp_ge (tgt := 48) hx hb dX5_isSmall_6 (by decide) (fun h => absurd h (by decide)) (fun _ => ?_)
      refine lv_iload_n hx hb dX5_isSmall_9 rfl (lv_at hl 1 rfl) ?_
      refine lv_if_eq (tgt := 40) hx hb dX5_isSmall_10 (by decide) (fun _ => ?_) (fun h => absurd (by decide) h)
      refine lv_iconst (v := 0) hx hb dX5_isSmall_40 (by decide) ?_
      refine lv_istore_n (lv' := [(2, .int 0), (3, .int 2), (0, .ref o), (1, .int p)]) hx hb dX5_isSmall_41 rfl hl (by decide) rfl (fun ls hl => ?_)
      refine lv_iinc (v := 3) (lv' := [(3, .int 3), (2, .int 0), (0, .ref o), (1, .int p)]) hx hb dX5_isSmall_42 hl (k := 1) rfl (by decide) (by decide) rfl (fun ls hl => ?_)
      refine lv_goto (tgt := 4) hx hb dX5_isSmall_45 (by decide) ?_
      refine lv_iload_n hx hb dX5_isSmall_4 rfl (lv_at hl 0 rfl) ?_
      refine lv_iconst (v := 3) hx hb dX5_isSmall_5 (by decide) ?_
      refine lv_icmp_ge (tgt := 48) hx hb dX5_isSmall_6 (by decide) (fun _ => ?_) (fun h => absurd (by decide) h)
      refine lv_iload_n hx hb dX5_isSmall_48 rfl (lv_at hl 1 rfl) ?_
      have he : z5_isSmall gp p = 0 := by unfold z5_isSmall; rw [if_neg c_1, if_pos c_2]
      exact rr_z hx hb hr rfl hlk dX5_isSmall_49 he.symm
    · skip
      refine lv_iconst (v := 1) hx hb dX5_isSmall_36 (by decide) ?_
      refine lv_goto (tgt := 41) hx hb dX5_isSmall_37 (by decide) ?_
      refine lv_istore_n (lv' := [(2, .int 1), (3, .int 1), (0, .ref o), (1, .int p)]) hx hb dX5_isSmall_41 rfl hl (by decide) rfl (fun ls hl => ?_)
      refine lv_iinc (v := 2) (lv' := [(3, .int 2), (2, .int 1), (0, .ref o), (1, .int p)]) hx hb dX5_isSmall_42 hl (k := 1) rfl (by decide) (by decide) rfl (fun ls hl => ?_)
      refine lv_goto (tgt := 4) hx hb dX5_isSmall_45 (by decide) ?_
      refine lv_iload_n hx hb dX5_isSmall_4 rfl (lv_at hl 0 rfl) ?_
      refine lv_iconst (v := 3) hx hb dX5_isSmall_5 (by decide) ?_
      refine lv_icmp_ge (tgt := 48) hx hb dX5_isSmall_6 (by decide) (fun h => absurd h (by decide)) (fun _ => ?_)
      refine lv_iload_n hx hb dX5_isSmall_9 rfl (lv_at hl 1 rfl) ?_
      refine lv_if_eq (tgt := 40) hx hb dX5_isSmall_10 (by decide) (fun h => absurd h (by decide)) (fun _ => ?_)
      refine lv_aload_n hx hb dX5_isSmall_13 rfl (lv_at hl 2 rfl) ?_
      refine va_get (D := D) (ci := 5) (v := .ref mP) (C := RX5) (T := TX5) (N := 17) hx hb hts k_2 hown hK.1 hP 0 rfl rfl 0 (by decide) k_1 (fun _ h9 => h9) rfl dX5_isSmall_14 ?_
      refine lv_iconst (v := 3) hx hb dX5_isSmall_17 (by decide) ?_
      refine lv_iload_n hx hb dX5_isSmall_18 rfl (lv_at hl 3 rfl) ?_
      refine lv_imul hx hb dX5_isSmall_19 ?_
      refine lv_iload_n hx hb dX5_isSmall_20 rfl (lv_at hl 0 rfl) ?_
      refine lv_iadd hx hb dX5_isSmall_21 ?_
      refine ld_i hx hb hK.1 hP 1 0 rfl rfl (ix3l hp 2 (by decide)) (((3 * p) + 2).toNatClampNeg) rfl (v := gp (((3 * p) + 2).toNatClampNeg)) rfl dX5_isSmall_22 ?_
      refine lv_i2l hx hb dX5_isSmall_23 rfl ?_
      refine lv_ldc2 hx hb hown k_3 dX5_isSmall_24 ?_
      refine lv_ldc2 hx hb hown k_4 dX5_isSmall_27 ?_
      have hPc := hP.sub (ws' := []) [] rfl
      refine cr_i (va_runS (As := [.long ((gp (((3 * p) + 2).toNatClampNeg)).toInt64), .long (-30), .long 30]) (rest := []) ⟨hx, hb, hml, hown, hts⟩ (c_X5_in l D cI cJ ((gp (((3 * p) + 2).toNatClampNeg)).toInt64) (-30) 30) (va_cwS 3 hts gX5_isSmall_X5_in rfl rfl rfl (by decide +kernel) ⟨Nat.le_of_ble_eq_true rfl, Nat.le_of_ble_eq_true rfl⟩) ⟨gd_blR, gd_prR hPc hK⟩ rfl rfl hl.1 rfl (lv_room (Nat.le_of_ble_eq_true rfl)) dX5_isSmall_30 ⟨Nat.zero_le _, Nat.zero_le _⟩) (fun r_30 hw => ?_)
      subst hw
      clear hPc
      refine lv_if_eq (tgt := 40) hx hb dX5_isSmall_33 (by decide) (fun c_3 => ?_) (fun c_3 => ?_)
      · skip
        refine lv_iconst (v := 0) hx hb dX5_isSmall_40 (by decide) ?_
        refine lv_istore_n (lv' := [(2, .int 0), (3, .int 2), (0, .ref o), (1, .int p)]) hx hb dX5_isSmall_41 rfl hl (by decide) rfl (fun ls hl => ?_)
        refine lv_iinc (v := 3) (lv' := [(3, .int 3), (2, .int 0), (0, .ref o), (1, .int p)]) hx hb dX5_isSmall_42 hl (k := 1) rfl (by decide) (by decide) rfl (fun ls hl => ?_)
        refine lv_goto (tgt := 4) hx hb dX5_isSmall_45 (by decide) ?_
        refine lv_iload_n hx hb dX5_isSmall_4 rfl (lv_at hl 0 rfl) ?_
        refine lv_iconst (v := 3) hx hb dX5_isSmall_5 (by decide) ?_
        refine lv_icmp_ge (tgt := 48) hx hb dX5_isSmall_6 (by decide) (fun _ => ?_) (fun h => absurd (by decide) h)
        refine lv_iload_n hx hb dX5_isSmall_48 rfl (lv_at hl 1 rfl) ?_
        have he : z5_isSmall gp p = 0 := by unfold z5_isSmall; rw [if_neg c_1, if_neg c_2, if_pos c_3]
        exact rr_z hx hb hr rfl hlk dX5_isSmall_49 he.symm
      · skip
        refine lv_iconst (v := 1) hx hb dX5_isSmall_36 (by decide) ?_
        refine lv_goto (tgt := 41) hx hb dX5_isSmall_37 (by decide) ?_
        refine lv_istore_n (lv' := [(2, .int 1), (3, .int 2), (0, .ref o), (1, .int p)]) hx hb dX5_isSmall_41 rfl hl (by decide) rfl (fun ls hl => ?_)
        refine lv_iinc (v := 3) (lv' := [(3, .int 3), (2, .int 1), (0, .ref o), (1, .int p)]) hx hb dX5_isSmall_42 hl (k := 1) rfl (by decide) (by decide) rfl (fun ls hl => ?_)
        refine lv_goto (tgt := 4) hx hb dX5_isSmall_45 (by decide) ?_
        refine lv_iload_n hx hb dX5_isSmall_4 rfl (lv_at hl 0 rfl) ?_
        refine lv_iconst (v := 3) hx hb dX5_isSmall_5 (by decide) ?_
        refine lv_icmp_ge (tgt := 48) hx hb dX5_isSmall_6 (by decide) (fun _ => ?_) (fun h => absurd (by decide) h)
        refine lv_iload_n hx hb dX5_isSmall_48 rfl (lv_at hl 1 rfl) ?_
        have he : z5_isSmall gp p = 1 := by unfold z5_isSmall; rw [if_neg c_1, if_neg c_2, if_neg c_3]
        exact rr_z hx hb hr rfl hlk dX5_isSmall_49 he.symm
def z5_spreadOf_v1 (gp : Nat → Int32) (gv : Nat → Int32) (j : Int32) (k : Int32) : Int64 := (((gp (((3 * (gv j.toNatClampNeg)) + 1).toNatClampNeg)).toInt64) * ((gp (((3 * (gv k.toNatClampNeg)) + 2).toNatClampNeg)).toInt64)) - (((gp (((3 * (gv j.toNatClampNeg)) + 2).toNatClampNeg)).toInt64) * ((gp (((3 * (gv k.toNatClampNeg)) + 1).toNatClampNeg)).toInt64))
def z5_spreadOf_v2 (gp : Nat → Int32) (gv : Nat → Int32) (j : Int32) (k : Int32) : Int64 := (((gp (((3 * (gv j.toNatClampNeg)) + 2).toNatClampNeg)).toInt64) * ((gp (((3 * (gv k.toNatClampNeg)) + 0).toNatClampNeg)).toInt64)) - (((gp (((3 * (gv j.toNatClampNeg)) + 0).toNatClampNeg)).toInt64) * ((gp (((3 * (gv k.toNatClampNeg)) + 2).toNatClampNeg)).toInt64))
def z5_spreadOf_v3 (gp : Nat → Int32) (gv : Nat → Int32) (i : Int32) (j : Int32) (k : Int32) : Int64 := (0 + (((gp (((3 * (gv i.toNatClampNeg)) + 0).toNatClampNeg)).toInt64) * (z5_spreadOf_v1 gp gv j k))) + (((gp (((3 * (gv i.toNatClampNeg)) + 1).toNatClampNeg)).toInt64) * (z5_spreadOf_v2 gp gv j k))
def z5_spreadOf_v4 (gp : Nat → Int32) (gv : Nat → Int32) (j : Int32) (k : Int32) : Int64 := (((gp (((3 * (gv j.toNatClampNeg)) + 0).toNatClampNeg)).toInt64) * ((gp (((3 * (gv k.toNatClampNeg)) + 1).toNatClampNeg)).toInt64)) - (((gp (((3 * (gv j.toNatClampNeg)) + 1).toNatClampNeg)).toInt64) * ((gp (((3 * (gv k.toNatClampNeg)) + 0).toNatClampNeg)).toInt64))
def z5_spreadOf_v5 (gp : Nat → Int32) (gv : Nat → Int32) (i : Int32) (j : Int32) (k : Int32) : Int64 := (z5_spreadOf_v3 gp gv i j k) + (((gp (((3 * (gv i.toNatClampNeg)) + 2).toNatClampNeg)).toInt64) * (z5_spreadOf_v4 gp gv j k))
def z5_spreadOf (gp : Nat → Int32) (gv : Nat → Int32) (i : Int32) (j : Int32) (k : Int32) : Int64 := z5_spreadOf_v5 gp gv i j k
set_option maxHeartbeats 4000000 in
set_option maxRecDepth 100000 in
/-- X5.spreadOf -/
theorem c_X5_spreadOf (l : Launch) (D : va_G) (cI cJ : ClassId) (o : Nat) (mP : Nat) (mL : Nat) (mC : Nat) (mN : Nat) (mF : Nat) (mR : Nat) (mD : Nat) (mV : Nat) (mX : Nat) (mA : Nat) (mK : Nat) (mT : Nat) (mU : Nat) (mH : Nat) (mI : Nat) (cm : Int32) (pm : Int32) (gp : Nat → Int32) (gv : Nat → Int32) (i : Int32) (j : Int32) (k : Int32) (hi : vp_in i 5) (hj : vp_in j 5) (hk : vp_in k 5) (hv : ∀ n, n < 5 → ok_i (gv n)) : mr_C l yX5_spreadOf wsX5_spreadOf ({ frames := 0, cells := 0, slots := 0, locals := 0 }) D cI cJ [.ref o, .int i, .int j, .int k] [kM o mP mL mC mN mF mR mD mV mX mA mK cm mT pm mU mH mI, kA mP cI 180 gp, kA mV cI 5 gv] (vp_Sl (fun r : Int64 => r = z5_spreadOf gp gv i j k)) := by
  refine mr_in (cc := cX5_spreadOf) (lv := [(0, .ref o), (1, .int i), (2, .int j), (3, .int k)]) (by decide) rfl (Nat.le_of_ble_eq_true rfl) rfl ?_
  intro pG eG sG mG below meth cG ls hx hb hr hml hown hts hlk hP hK hl
  have hown : sG.vm.findClass RX5 = some mG.cls := hown
  have k_1 := hts (.fieldLink RX5 7 "ConicRowsModel" "points" "[I") (by decide +kernel)
  have k_2 : ∀ w ∈ wsX50, w ∈ wsX5_spreadOf := by decide +kernel
  have k_3 := hts (.fieldLink RX5 32 "ConicRowsModel" "five" "[I") (by decide +kernel)
  refine lv_lconst (v := 0) hx hb dX5_spreadOf_0 (by decide) ?_
  refine lv_lstore (lv' := [(4, .long 0), (0, .ref o), (1, .int i), (2, .int j), (3, .int k)]) hx hb dX5_spreadOf_1 hl (by decide) rfl (fun ls hl => ?_)
  refine lv_iconst (v := 0) hx hb dX5_spreadOf_3 (by decide) ?_
  refine lv_istore (lv' := [(6, .int 0), (4, .long 0), (0, .ref o), (1, .int i), (2, .int j), (3, .int k)]) hx hb dX5_spreadOf_4 hl (by decide) rfl (fun ls hl => ?_)
  refine lv_iload hx hb dX5_spreadOf_6 (lv_at hl 0 rfl) ?_
  refine lv_iconst (v := 3) hx hb dX5_spreadOf_8 (by decide) ?_
  refine lv_icmp_ge (tgt := 132) hx hb dX5_spreadOf_9 (by decide) (fun h => absurd h (by decide)) (fun _ => ?_)
  refine lv_iload hx hb dX5_spreadOf_12 (lv_at hl 0 rfl) ?_
  refine lv_iconst (v := 1) hx hb dX5_spreadOf_14 (by decide) ?_
  refine lv_iadd hx hb dX5_spreadOf_15 ?_
  refine lv_eqi (v := 1) (by decide) ?_
  refine lv_iconst (v := 3) hx hb dX5_spreadOf_16 (by decide) ?_
  refine lv_irem hx hb dX5_spreadOf_17 (by decide) ?_
  refine lv_eqi (v := 1) (by decide) ?_
  refine lv_istore (lv' := [(7, .int 1), (6, .int 0), (4, .long 0), (0, .ref o), (1, .int i), (2, .int j), (3, .int k)]) hx hb dX5_spreadOf_18 hl (by decide) rfl (fun ls hl => ?_)
  refine lv_iload hx hb dX5_spreadOf_20 (lv_at hl 1 rfl) ?_
  refine lv_iconst (v := 2) hx hb dX5_spreadOf_22 (by decide) ?_
  refine lv_iadd hx hb dX5_spreadOf_23 ?_
  refine lv_eqi (v := 2) (by decide) ?_
  refine lv_iconst (v := 3) hx hb dX5_spreadOf_24 (by decide) ?_
  refine lv_irem hx hb dX5_spreadOf_25 (by decide) ?_
  refine lv_eqi (v := 2) (by decide) ?_
  refine lv_istore (lv' := [(8, .int 2), (7, .int 1), (6, .int 0), (4, .long 0), (0, .ref o), (1, .int i), (2, .int j), (3, .int k)]) hx hb dX5_spreadOf_26 hl (by decide) rfl (fun ls hl => ?_)
  refine lv_aload_n hx hb dX5_spreadOf_28 rfl (lv_at hl 4 rfl) ?_
  refine va_get (D := D) (ci := 5) (v := .ref mP) (C := RX5) (T := TX5) (N := 17) hx hb hts k_2 hown hK.1 hP 0 rfl rfl 0 (by decide) k_1 (fun _ h9 => h9) rfl dX5_spreadOf_29 ?_
  refine lv_iconst (v := 3) hx hb dX5_spreadOf_32 (by decide) ?_
  refine lv_aload_n hx hb dX5_spreadOf_33 rfl (lv_at hl 4 rfl) ?_
  refine va_get (D := D) (ci := 5) (v := .ref mV) (C := RX5) (T := TX5) (N := 17) hx hb hts k_2 hown hK.1 hP 0 rfl rfl 7 (by decide) k_3 (fun _ h9 => h9) rfl dX5_spreadOf_34 ?_
  refine lv_iload_n hx hb dX5_spreadOf_37 rfl (lv_at hl 6 rfl) ?_
  refine ld_i hx hb hK.1 hP 2 0 rfl rfl hj j.toNatClampNeg rfl (v := gv j.toNatClampNeg) rfl dX5_spreadOf_38 ?_
  refine lv_imul hx hb dX5_spreadOf_39 ?_
  refine lv_iload hx hb dX5_spreadOf_40 (lv_at hl 1 rfl) ?_
  refine lv_iadd hx hb dX5_spreadOf_42 ?_
  refine ld_i hx hb hK.1 hP 1 0 rfl rfl (ix3l (hv _ (in5 hj)) 1 (by decide)) (((3 * (gv j.toNatClampNeg)) + 1).toNatClampNeg) rfl (v := gp (((3 * (gv j.toNatClampNeg)) + 1).toNatClampNeg)) rfl dX5_spreadOf_43 ?_
  refine lv_i2l hx hb dX5_spreadOf_44 rfl ?_
  refine lv_aload_n hx hb dX5_spreadOf_45 rfl (lv_at hl 4 rfl) ?_
  refine va_get (D := D) (ci := 5) (v := .ref mP) (C := RX5) (T := TX5) (N := 17) hx hb hts k_2 hown hK.1 hP 0 rfl rfl 0 (by decide) k_1 (fun _ h9 => h9) rfl dX5_spreadOf_46 ?_
  refine lv_iconst (v := 3) hx hb dX5_spreadOf_49 (by decide) ?_
  refine lv_aload_n hx hb dX5_spreadOf_50 rfl (lv_at hl 4 rfl) ?_
  refine va_get (D := D) (ci := 5) (v := .ref mV) (C := RX5) (T := TX5) (N := 17) hx hb hts k_2 hown hK.1 hP 0 rfl rfl 7 (by decide) k_3 (fun _ h9 => h9) rfl dX5_spreadOf_51 ?_
  refine lv_iload_n hx hb dX5_spreadOf_54 rfl (lv_at hl 7 rfl) ?_
  refine ld_i hx hb hK.1 hP 2 0 rfl rfl hk k.toNatClampNeg rfl (v := gv k.toNatClampNeg) rfl dX5_spreadOf_55 ?_
  refine lv_imul hx hb dX5_spreadOf_56 ?_
  refine lv_iload hx hb dX5_spreadOf_57 (lv_at hl 0 rfl) ?_
  refine lv_iadd hx hb dX5_spreadOf_59 ?_
  refine ld_i hx hb hK.1 hP 1 0 rfl rfl (ix3l (hv _ (in5 hk)) 2 (by decide)) (((3 * (gv k.toNatClampNeg)) + 2).toNatClampNeg) rfl (v := gp (((3 * (gv k.toNatClampNeg)) + 2).toNatClampNeg)) rfl dX5_spreadOf_60 ?_
  refine lv_i2l hx hb dX5_spreadOf_61 rfl ?_
  refine lv_lmul hx hb dX5_spreadOf_62 ?_
  refine lv_aload_n hx hb dX5_spreadOf_63 rfl (lv_at hl 4 rfl) ?_
  refine va_get (D := D) (ci := 5) (v := .ref mP) (C := RX5) (T := TX5) (N := 17) hx hb hts k_2 hown hK.1 hP 0 rfl rfl 0 (by decide) k_1 (fun _ h9 => h9) rfl dX5_spreadOf_64 ?_
  refine lv_iconst (v := 3) hx hb dX5_spreadOf_67 (by decide) ?_
  refine lv_aload_n hx hb dX5_spreadOf_68 rfl (lv_at hl 4 rfl) ?_
  refine va_get (D := D) (ci := 5) (v := .ref mV) (C := RX5) (T := TX5) (N := 17) hx hb hts k_2 hown hK.1 hP 0 rfl rfl 7 (by decide) k_3 (fun _ h9 => h9) rfl dX5_spreadOf_69 ?_
  refine lv_iload_n hx hb dX5_spreadOf_72 rfl (lv_at hl 6 rfl) ?_
  refine ld_i hx hb hK.1 hP 2 0 rfl rfl hj j.toNatClampNeg rfl (v := gv j.toNatClampNeg) rfl dX5_spreadOf_73 ?_
  refine lv_imul hx hb dX5_spreadOf_74 ?_
  refine lv_iload hx hb dX5_spreadOf_75 (lv_at hl 0 rfl) ?_
  refine lv_iadd hx hb dX5_spreadOf_77 ?_
  refine ld_i hx hb hK.1 hP 1 0 rfl rfl (ix3l (hv _ (in5 hj)) 2 (by decide)) (((3 * (gv j.toNatClampNeg)) + 2).toNatClampNeg) rfl (v := gp (((3 * (gv j.toNatClampNeg)) + 2).toNatClampNeg)) rfl dX5_spreadOf_78 ?_
  refine lv_i2l hx hb dX5_spreadOf_79 rfl ?_
  refine lv_aload_n hx hb dX5_spreadOf_80 rfl (lv_at hl 4 rfl) ?_
  refine va_get (D := D) (ci := 5) (v := .ref mP) (C := RX5) (T := TX5) (N := 17) hx hb hts k_2 hown hK.1 hP 0 rfl rfl 0 (by decide) k_1 (fun _ h9 => h9) rfl dX5_spreadOf_81 ?_
  refine lv_iconst (v := 3) hx hb dX5_spreadOf_84 (by decide) ?_
  refine lv_aload_n hx hb dX5_spreadOf_85 rfl (lv_at hl 4 rfl) ?_
  refine va_get (D := D) (ci := 5) (v := .ref mV) (C := RX5) (T := TX5) (N := 17) hx hb hts k_2 hown hK.1 hP 0 rfl rfl 7 (by decide) k_3 (fun _ h9 => h9) rfl dX5_spreadOf_86 ?_
  refine lv_iload_n hx hb dX5_spreadOf_89 rfl (lv_at hl 7 rfl) ?_
  refine ld_i hx hb hK.1 hP 2 0 rfl rfl hk k.toNatClampNeg rfl (v := gv k.toNatClampNeg) rfl dX5_spreadOf_90 ?_
  refine lv_imul hx hb dX5_spreadOf_91 ?_
  refine lv_iload hx hb dX5_spreadOf_92 (lv_at hl 1 rfl) ?_
  refine lv_iadd hx hb dX5_spreadOf_94 ?_
  refine ld_i hx hb hK.1 hP 1 0 rfl rfl (ix3l (hv _ (in5 hk)) 1 (by decide)) (((3 * (gv k.toNatClampNeg)) + 1).toNatClampNeg) rfl (v := gp (((3 * (gv k.toNatClampNeg)) + 1).toNatClampNeg)) rfl dX5_spreadOf_95 ?_
  refine lv_i2l hx hb dX5_spreadOf_96 rfl ?_
  refine lv_lmul hx hb dX5_spreadOf_97 ?_
  refine lv_lsub hx hb dX5_spreadOf_98 ?_
  refine lv_eql (v := z5_spreadOf_v1 gp gv j k) (by delta z5_spreadOf_v1; rfl) ?_
  refine lv_lstore (lv' := [(9, .long (z5_spreadOf_v1 gp gv j k)), (8, .int 2), (7, .int 1), (6, .int 0), (4, .long 0), (0, .ref o), (1, .int i), (2, .int j), (3, .int k)]) hx hb dX5_spreadOf_99 hl (by decide) rfl (fun ls hl => ?_)
  refine lv_lload hx hb dX5_spreadOf_101 (lv_at hl 4 rfl) ?_
  refine lv_aload_n hx hb dX5_spreadOf_103 rfl (lv_at hl 5 rfl) ?_
  refine va_get (D := D) (ci := 5) (v := .ref mP) (C := RX5) (T := TX5) (N := 17) hx hb hts k_2 hown hK.1 hP 0 rfl rfl 0 (by decide) k_1 (fun _ h9 => h9) rfl dX5_spreadOf_104 ?_
  refine lv_iconst (v := 3) hx hb dX5_spreadOf_107 (by decide) ?_
  refine lv_aload_n hx hb dX5_spreadOf_108 rfl (lv_at hl 5 rfl) ?_
  refine va_get (D := D) (ci := 5) (v := .ref mV) (C := RX5) (T := TX5) (N := 17) hx hb hts k_2 hown hK.1 hP 0 rfl rfl 7 (by decide) k_3 (fun _ h9 => h9) rfl dX5_spreadOf_109 ?_
  refine lv_iload_n hx hb dX5_spreadOf_112 rfl (lv_at hl 6 rfl) ?_
  refine ld_i hx hb hK.1 hP 2 0 rfl rfl hi i.toNatClampNeg rfl (v := gv i.toNatClampNeg) rfl dX5_spreadOf_113 ?_
  refine lv_imul hx hb dX5_spreadOf_114 ?_
  refine lv_iload hx hb dX5_spreadOf_115 (lv_at hl 3 rfl) ?_
  refine lv_iadd hx hb dX5_spreadOf_117 ?_
  refine ld_i hx hb hK.1 hP 1 0 rfl rfl (ix3l (hv _ (in5 hi)) 0 (by decide)) (((3 * (gv i.toNatClampNeg)) + 0).toNatClampNeg) rfl (v := gp (((3 * (gv i.toNatClampNeg)) + 0).toNatClampNeg)) rfl dX5_spreadOf_118 ?_
  refine lv_i2l hx hb dX5_spreadOf_119 rfl ?_
  refine lv_lload hx hb dX5_spreadOf_120 (lv_at hl 0 rfl) ?_
  refine lv_lmul hx hb dX5_spreadOf_122 ?_
  refine lv_ladd hx hb dX5_spreadOf_123 ?_
  refine lv_lstore (lv' := [(4, .long (0 + (((gp (((3 * (gv i.toNatClampNeg)) + 0).toNatClampNeg)).toInt64) * (z5_spreadOf_v1 gp gv j k)))), (9, .long (z5_spreadOf_v1 gp gv j k)), (8, .int 2), (7, .int 1), (6, .int 0), (0, .ref o), (1, .int i), (2, .int j), (3, .int k)]) hx hb dX5_spreadOf_124 hl (by decide) rfl (fun ls hl => ?_)
  refine lv_iinc (v := 1) (lv' := [(6, .int 1), (4, .long (0 + (((gp (((3 * (gv i.toNatClampNeg)) + 0).toNatClampNeg)).toInt64) * (z5_spreadOf_v1 gp gv j k)))), (9, .long (z5_spreadOf_v1 gp gv j k)), (8, .int 2), (7, .int 1), (0, .ref o), (1, .int i), (2, .int j), (3, .int k)]) hx hb dX5_spreadOf_126 hl (k := 4) rfl (by decide) (by decide) rfl (fun ls hl => ?_)
  refine lv_goto (tgt := 6) hx hb dX5_spreadOf_129 (by decide) ?_
  refine lv_iload hx hb dX5_spreadOf_6 (lv_at hl 0 rfl) ?_
  refine lv_iconst (v := 3) hx hb dX5_spreadOf_8 (by decide) ?_
  refine lv_icmp_ge (tgt := 132) hx hb dX5_spreadOf_9 (by decide) (fun h => absurd h (by decide)) (fun _ => ?_)
  refine lv_iload hx hb dX5_spreadOf_12 (lv_at hl 0 rfl) ?_
  refine lv_iconst (v := 1) hx hb dX5_spreadOf_14 (by decide) ?_
  refine lv_iadd hx hb dX5_spreadOf_15 ?_
  refine lv_eqi (v := 2) (by decide) ?_
  refine lv_iconst (v := 3) hx hb dX5_spreadOf_16 (by decide) ?_
  refine lv_irem hx hb dX5_spreadOf_17 (by decide) ?_
  refine lv_eqi (v := 2) (by decide) ?_
  refine lv_istore (lv' := [(7, .int 2), (6, .int 1), (4, .long (0 + (((gp (((3 * (gv i.toNatClampNeg)) + 0).toNatClampNeg)).toInt64) * (z5_spreadOf_v1 gp gv j k)))), (9, .long (z5_spreadOf_v1 gp gv j k)), (8, .int 2), (0, .ref o), (1, .int i), (2, .int j), (3, .int k)]) hx hb dX5_spreadOf_18 hl (by decide) rfl (fun ls hl => ?_)
  refine lv_iload hx hb dX5_spreadOf_20 (lv_at hl 1 rfl) ?_
  refine lv_iconst (v := 2) hx hb dX5_spreadOf_22 (by decide) ?_
  refine lv_iadd hx hb dX5_spreadOf_23 ?_
  refine lv_eqi (v := 3) (by decide) ?_
  refine lv_iconst (v := 3) hx hb dX5_spreadOf_24 (by decide) ?_
  refine lv_irem hx hb dX5_spreadOf_25 (by decide) ?_
  refine lv_eqi (v := 0) (by decide) ?_
  refine lv_istore (lv' := [(8, .int 0), (7, .int 2), (6, .int 1), (4, .long (0 + (((gp (((3 * (gv i.toNatClampNeg)) + 0).toNatClampNeg)).toInt64) * (z5_spreadOf_v1 gp gv j k)))), (9, .long (z5_spreadOf_v1 gp gv j k)), (0, .ref o), (1, .int i), (2, .int j), (3, .int k)]) hx hb dX5_spreadOf_26 hl (by decide) rfl (fun ls hl => ?_)
  refine lv_aload_n hx hb dX5_spreadOf_28 rfl (lv_at hl 5 rfl) ?_
  refine va_get (D := D) (ci := 5) (v := .ref mP) (C := RX5) (T := TX5) (N := 17) hx hb hts k_2 hown hK.1 hP 0 rfl rfl 0 (by decide) k_1 (fun _ h9 => h9) rfl dX5_spreadOf_29 ?_
  refine lv_iconst (v := 3) hx hb dX5_spreadOf_32 (by decide) ?_
  refine lv_aload_n hx hb dX5_spreadOf_33 rfl (lv_at hl 5 rfl) ?_
  refine va_get (D := D) (ci := 5) (v := .ref mV) (C := RX5) (T := TX5) (N := 17) hx hb hts k_2 hown hK.1 hP 0 rfl rfl 7 (by decide) k_3 (fun _ h9 => h9) rfl dX5_spreadOf_34 ?_
  refine lv_iload_n hx hb dX5_spreadOf_37 rfl (lv_at hl 7 rfl) ?_
  refine ld_i hx hb hK.1 hP 2 0 rfl rfl hj j.toNatClampNeg rfl (v := gv j.toNatClampNeg) rfl dX5_spreadOf_38 ?_
  refine lv_imul hx hb dX5_spreadOf_39 ?_
  refine lv_iload hx hb dX5_spreadOf_40 (lv_at hl 1 rfl) ?_
  refine lv_iadd hx hb dX5_spreadOf_42 ?_
  refine ld_i hx hb hK.1 hP 1 0 rfl rfl (ix3l (hv _ (in5 hj)) 2 (by decide)) (((3 * (gv j.toNatClampNeg)) + 2).toNatClampNeg) rfl (v := gp (((3 * (gv j.toNatClampNeg)) + 2).toNatClampNeg)) rfl dX5_spreadOf_43 ?_
  refine lv_i2l hx hb dX5_spreadOf_44 rfl ?_
  refine lv_aload_n hx hb dX5_spreadOf_45 rfl (lv_at hl 5 rfl) ?_
  refine va_get (D := D) (ci := 5) (v := .ref mP) (C := RX5) (T := TX5) (N := 17) hx hb hts k_2 hown hK.1 hP 0 rfl rfl 0 (by decide) k_1 (fun _ h9 => h9) rfl dX5_spreadOf_46 ?_
  refine lv_iconst (v := 3) hx hb dX5_spreadOf_49 (by decide) ?_
  refine lv_aload_n hx hb dX5_spreadOf_50 rfl (lv_at hl 5 rfl) ?_
  refine va_get (D := D) (ci := 5) (v := .ref mV) (C := RX5) (T := TX5) (N := 17) hx hb hts k_2 hown hK.1 hP 0 rfl rfl 7 (by decide) k_3 (fun _ h9 => h9) rfl dX5_spreadOf_51 ?_
  refine lv_iload_n hx hb dX5_spreadOf_54 rfl (lv_at hl 8 rfl) ?_
  refine ld_i hx hb hK.1 hP 2 0 rfl rfl hk k.toNatClampNeg rfl (v := gv k.toNatClampNeg) rfl dX5_spreadOf_55 ?_
  refine lv_imul hx hb dX5_spreadOf_56 ?_
  refine lv_iload hx hb dX5_spreadOf_57 (lv_at hl 0 rfl) ?_
  refine lv_iadd hx hb dX5_spreadOf_59 ?_
  refine ld_i hx hb hK.1 hP 1 0 rfl rfl (ix3l (hv _ (in5 hk)) 0 (by decide)) (((3 * (gv k.toNatClampNeg)) + 0).toNatClampNeg) rfl (v := gp (((3 * (gv k.toNatClampNeg)) + 0).toNatClampNeg)) rfl dX5_spreadOf_60 ?_
  refine lv_i2l hx hb dX5_spreadOf_61 rfl ?_
  refine lv_lmul hx hb dX5_spreadOf_62 ?_
  refine lv_aload_n hx hb dX5_spreadOf_63 rfl (lv_at hl 5 rfl) ?_
  refine va_get (D := D) (ci := 5) (v := .ref mP) (C := RX5) (T := TX5) (N := 17) hx hb hts k_2 hown hK.1 hP 0 rfl rfl 0 (by decide) k_1 (fun _ h9 => h9) rfl dX5_spreadOf_64 ?_
  refine lv_iconst (v := 3) hx hb dX5_spreadOf_67 (by decide) ?_
  refine lv_aload_n hx hb dX5_spreadOf_68 rfl (lv_at hl 5 rfl) ?_
  refine va_get (D := D) (ci := 5) (v := .ref mV) (C := RX5) (T := TX5) (N := 17) hx hb hts k_2 hown hK.1 hP 0 rfl rfl 7 (by decide) k_3 (fun _ h9 => h9) rfl dX5_spreadOf_69 ?_
  refine lv_iload_n hx hb dX5_spreadOf_72 rfl (lv_at hl 7 rfl) ?_
  refine ld_i hx hb hK.1 hP 2 0 rfl rfl hj j.toNatClampNeg rfl (v := gv j.toNatClampNeg) rfl dX5_spreadOf_73 ?_
  refine lv_imul hx hb dX5_spreadOf_74 ?_
  refine lv_iload hx hb dX5_spreadOf_75 (lv_at hl 0 rfl) ?_
  refine lv_iadd hx hb dX5_spreadOf_77 ?_
  refine ld_i hx hb hK.1 hP 1 0 rfl rfl (ix3l (hv _ (in5 hj)) 0 (by decide)) (((3 * (gv j.toNatClampNeg)) + 0).toNatClampNeg) rfl (v := gp (((3 * (gv j.toNatClampNeg)) + 0).toNatClampNeg)) rfl dX5_spreadOf_78 ?_
  refine lv_i2l hx hb dX5_spreadOf_79 rfl ?_
  refine lv_aload_n hx hb dX5_spreadOf_80 rfl (lv_at hl 5 rfl) ?_
  refine va_get (D := D) (ci := 5) (v := .ref mP) (C := RX5) (T := TX5) (N := 17) hx hb hts k_2 hown hK.1 hP 0 rfl rfl 0 (by decide) k_1 (fun _ h9 => h9) rfl dX5_spreadOf_81 ?_
  refine lv_iconst (v := 3) hx hb dX5_spreadOf_84 (by decide) ?_
  refine lv_aload_n hx hb dX5_spreadOf_85 rfl (lv_at hl 5 rfl) ?_
  refine va_get (D := D) (ci := 5) (v := .ref mV) (C := RX5) (T := TX5) (N := 17) hx hb hts k_2 hown hK.1 hP 0 rfl rfl 7 (by decide) k_3 (fun _ h9 => h9) rfl dX5_spreadOf_86 ?_
  refine lv_iload_n hx hb dX5_spreadOf_89 rfl (lv_at hl 8 rfl) ?_
  refine ld_i hx hb hK.1 hP 2 0 rfl rfl hk k.toNatClampNeg rfl (v := gv k.toNatClampNeg) rfl dX5_spreadOf_90 ?_
  refine lv_imul hx hb dX5_spreadOf_91 ?_
  refine lv_iload hx hb dX5_spreadOf_92 (lv_at hl 1 rfl) ?_
  refine lv_iadd hx hb dX5_spreadOf_94 ?_
  refine ld_i hx hb hK.1 hP 1 0 rfl rfl (ix3l (hv _ (in5 hk)) 2 (by decide)) (((3 * (gv k.toNatClampNeg)) + 2).toNatClampNeg) rfl (v := gp (((3 * (gv k.toNatClampNeg)) + 2).toNatClampNeg)) rfl dX5_spreadOf_95 ?_
  refine lv_i2l hx hb dX5_spreadOf_96 rfl ?_
  refine lv_lmul hx hb dX5_spreadOf_97 ?_
  refine lv_lsub hx hb dX5_spreadOf_98 ?_
  refine lv_eql (v := z5_spreadOf_v2 gp gv j k) (by delta z5_spreadOf_v2; rfl) ?_
  refine lv_lstore (lv' := [(9, .long (z5_spreadOf_v2 gp gv j k)), (8, .int 0), (7, .int 2), (6, .int 1), (4, .long (0 + (((gp (((3 * (gv i.toNatClampNeg)) + 0).toNatClampNeg)).toInt64) * (z5_spreadOf_v1 gp gv j k)))), (0, .ref o), (1, .int i), (2, .int j), (3, .int k)]) hx hb dX5_spreadOf_99 hl (by decide) rfl (fun ls hl => ?_)
  refine lv_lload hx hb dX5_spreadOf_101 (lv_at hl 4 rfl) ?_
  refine lv_aload_n hx hb dX5_spreadOf_103 rfl (lv_at hl 5 rfl) ?_
  refine va_get (D := D) (ci := 5) (v := .ref mP) (C := RX5) (T := TX5) (N := 17) hx hb hts k_2 hown hK.1 hP 0 rfl rfl 0 (by decide) k_1 (fun _ h9 => h9) rfl dX5_spreadOf_104 ?_
  refine lv_iconst (v := 3) hx hb dX5_spreadOf_107 (by decide) ?_
  refine lv_aload_n hx hb dX5_spreadOf_108 rfl (lv_at hl 5 rfl) ?_
  refine va_get (D := D) (ci := 5) (v := .ref mV) (C := RX5) (T := TX5) (N := 17) hx hb hts k_2 hown hK.1 hP 0 rfl rfl 7 (by decide) k_3 (fun _ h9 => h9) rfl dX5_spreadOf_109 ?_
  refine lv_iload_n hx hb dX5_spreadOf_112 rfl (lv_at hl 6 rfl) ?_
  refine ld_i hx hb hK.1 hP 2 0 rfl rfl hi i.toNatClampNeg rfl (v := gv i.toNatClampNeg) rfl dX5_spreadOf_113 ?_
  refine lv_imul hx hb dX5_spreadOf_114 ?_
  refine lv_iload hx hb dX5_spreadOf_115 (lv_at hl 3 rfl) ?_
  refine lv_iadd hx hb dX5_spreadOf_117 ?_
  refine ld_i hx hb hK.1 hP 1 0 rfl rfl (ix3l (hv _ (in5 hi)) 1 (by decide)) (((3 * (gv i.toNatClampNeg)) + 1).toNatClampNeg) rfl (v := gp (((3 * (gv i.toNatClampNeg)) + 1).toNatClampNeg)) rfl dX5_spreadOf_118 ?_
  refine lv_i2l hx hb dX5_spreadOf_119 rfl ?_
  refine lv_lload hx hb dX5_spreadOf_120 (lv_at hl 0 rfl) ?_
  refine lv_lmul hx hb dX5_spreadOf_122 ?_
  refine lv_ladd hx hb dX5_spreadOf_123 ?_
  refine lv_eql (v := z5_spreadOf_v3 gp gv i j k) (by delta z5_spreadOf_v3; rfl) ?_
  refine lv_lstore (lv' := [(4, .long (z5_spreadOf_v3 gp gv i j k)), (9, .long (z5_spreadOf_v2 gp gv j k)), (8, .int 0), (7, .int 2), (6, .int 1), (0, .ref o), (1, .int i), (2, .int j), (3, .int k)]) hx hb dX5_spreadOf_124 hl (by decide) rfl (fun ls hl => ?_)
  refine lv_iinc (v := 2) (lv' := [(6, .int 2), (4, .long (z5_spreadOf_v3 gp gv i j k)), (9, .long (z5_spreadOf_v2 gp gv j k)), (8, .int 0), (7, .int 2), (0, .ref o), (1, .int i), (2, .int j), (3, .int k)]) hx hb dX5_spreadOf_126 hl (k := 4) rfl (by decide) (by decide) rfl (fun ls hl => ?_)
  refine lv_goto (tgt := 6) hx hb dX5_spreadOf_129 (by decide) ?_
  refine lv_iload hx hb dX5_spreadOf_6 (lv_at hl 0 rfl) ?_
  refine lv_iconst (v := 3) hx hb dX5_spreadOf_8 (by decide) ?_
  refine lv_icmp_ge (tgt := 132) hx hb dX5_spreadOf_9 (by decide) (fun h => absurd h (by decide)) (fun _ => ?_)
  refine lv_iload hx hb dX5_spreadOf_12 (lv_at hl 0 rfl) ?_
  refine lv_iconst (v := 1) hx hb dX5_spreadOf_14 (by decide) ?_
  refine lv_iadd hx hb dX5_spreadOf_15 ?_
  refine lv_eqi (v := 3) (by decide) ?_
  refine lv_iconst (v := 3) hx hb dX5_spreadOf_16 (by decide) ?_
  refine lv_irem hx hb dX5_spreadOf_17 (by decide) ?_
  refine lv_eqi (v := 0) (by decide) ?_
  refine lv_istore (lv' := [(7, .int 0), (6, .int 2), (4, .long (z5_spreadOf_v3 gp gv i j k)), (9, .long (z5_spreadOf_v2 gp gv j k)), (8, .int 0), (0, .ref o), (1, .int i), (2, .int j), (3, .int k)]) hx hb dX5_spreadOf_18 hl (by decide) rfl (fun ls hl => ?_)
  refine lv_iload hx hb dX5_spreadOf_20 (lv_at hl 1 rfl) ?_
  refine lv_iconst (v := 2) hx hb dX5_spreadOf_22 (by decide) ?_
  refine lv_iadd hx hb dX5_spreadOf_23 ?_
  refine lv_eqi (v := 4) (by decide) ?_
  refine lv_iconst (v := 3) hx hb dX5_spreadOf_24 (by decide) ?_
  refine lv_irem hx hb dX5_spreadOf_25 (by decide) ?_
  refine lv_eqi (v := 1) (by decide) ?_
  refine lv_istore (lv' := [(8, .int 1), (7, .int 0), (6, .int 2), (4, .long (z5_spreadOf_v3 gp gv i j k)), (9, .long (z5_spreadOf_v2 gp gv j k)), (0, .ref o), (1, .int i), (2, .int j), (3, .int k)]) hx hb dX5_spreadOf_26 hl (by decide) rfl (fun ls hl => ?_)
  refine lv_aload_n hx hb dX5_spreadOf_28 rfl (lv_at hl 5 rfl) ?_
  refine va_get (D := D) (ci := 5) (v := .ref mP) (C := RX5) (T := TX5) (N := 17) hx hb hts k_2 hown hK.1 hP 0 rfl rfl 0 (by decide) k_1 (fun _ h9 => h9) rfl dX5_spreadOf_29 ?_
  refine lv_iconst (v := 3) hx hb dX5_spreadOf_32 (by decide) ?_
  refine lv_aload_n hx hb dX5_spreadOf_33 rfl (lv_at hl 5 rfl) ?_
  refine va_get (D := D) (ci := 5) (v := .ref mV) (C := RX5) (T := TX5) (N := 17) hx hb hts k_2 hown hK.1 hP 0 rfl rfl 7 (by decide) k_3 (fun _ h9 => h9) rfl dX5_spreadOf_34 ?_
  refine lv_iload_n hx hb dX5_spreadOf_37 rfl (lv_at hl 7 rfl) ?_
  refine ld_i hx hb hK.1 hP 2 0 rfl rfl hj j.toNatClampNeg rfl (v := gv j.toNatClampNeg) rfl dX5_spreadOf_38 ?_
  refine lv_imul hx hb dX5_spreadOf_39 ?_
  refine lv_iload hx hb dX5_spreadOf_40 (lv_at hl 1 rfl) ?_
  refine lv_iadd hx hb dX5_spreadOf_42 ?_
  refine ld_i hx hb hK.1 hP 1 0 rfl rfl (ix3l (hv _ (in5 hj)) 0 (by decide)) (((3 * (gv j.toNatClampNeg)) + 0).toNatClampNeg) rfl (v := gp (((3 * (gv j.toNatClampNeg)) + 0).toNatClampNeg)) rfl dX5_spreadOf_43 ?_
  refine lv_i2l hx hb dX5_spreadOf_44 rfl ?_
  refine lv_aload_n hx hb dX5_spreadOf_45 rfl (lv_at hl 5 rfl) ?_
  refine va_get (D := D) (ci := 5) (v := .ref mP) (C := RX5) (T := TX5) (N := 17) hx hb hts k_2 hown hK.1 hP 0 rfl rfl 0 (by decide) k_1 (fun _ h9 => h9) rfl dX5_spreadOf_46 ?_
  refine lv_iconst (v := 3) hx hb dX5_spreadOf_49 (by decide) ?_
  refine lv_aload_n hx hb dX5_spreadOf_50 rfl (lv_at hl 5 rfl) ?_
  refine va_get (D := D) (ci := 5) (v := .ref mV) (C := RX5) (T := TX5) (N := 17) hx hb hts k_2 hown hK.1 hP 0 rfl rfl 7 (by decide) k_3 (fun _ h9 => h9) rfl dX5_spreadOf_51 ?_
  refine lv_iload_n hx hb dX5_spreadOf_54 rfl (lv_at hl 8 rfl) ?_
  refine ld_i hx hb hK.1 hP 2 0 rfl rfl hk k.toNatClampNeg rfl (v := gv k.toNatClampNeg) rfl dX5_spreadOf_55 ?_
  refine lv_imul hx hb dX5_spreadOf_56 ?_
  refine lv_iload hx hb dX5_spreadOf_57 (lv_at hl 0 rfl) ?_
  refine lv_iadd hx hb dX5_spreadOf_59 ?_
  refine ld_i hx hb hK.1 hP 1 0 rfl rfl (ix3l (hv _ (in5 hk)) 1 (by decide)) (((3 * (gv k.toNatClampNeg)) + 1).toNatClampNeg) rfl (v := gp (((3 * (gv k.toNatClampNeg)) + 1).toNatClampNeg)) rfl dX5_spreadOf_60 ?_
  refine lv_i2l hx hb dX5_spreadOf_61 rfl ?_
  refine lv_lmul hx hb dX5_spreadOf_62 ?_
  refine lv_aload_n hx hb dX5_spreadOf_63 rfl (lv_at hl 5 rfl) ?_
  refine va_get (D := D) (ci := 5) (v := .ref mP) (C := RX5) (T := TX5) (N := 17) hx hb hts k_2 hown hK.1 hP 0 rfl rfl 0 (by decide) k_1 (fun _ h9 => h9) rfl dX5_spreadOf_64 ?_
  refine lv_iconst (v := 3) hx hb dX5_spreadOf_67 (by decide) ?_
  refine lv_aload_n hx hb dX5_spreadOf_68 rfl (lv_at hl 5 rfl) ?_
  refine va_get (D := D) (ci := 5) (v := .ref mV) (C := RX5) (T := TX5) (N := 17) hx hb hts k_2 hown hK.1 hP 0 rfl rfl 7 (by decide) k_3 (fun _ h9 => h9) rfl dX5_spreadOf_69 ?_
  refine lv_iload_n hx hb dX5_spreadOf_72 rfl (lv_at hl 7 rfl) ?_
  refine ld_i hx hb hK.1 hP 2 0 rfl rfl hj j.toNatClampNeg rfl (v := gv j.toNatClampNeg) rfl dX5_spreadOf_73 ?_
  refine lv_imul hx hb dX5_spreadOf_74 ?_
  refine lv_iload hx hb dX5_spreadOf_75 (lv_at hl 0 rfl) ?_
  refine lv_iadd hx hb dX5_spreadOf_77 ?_
  refine ld_i hx hb hK.1 hP 1 0 rfl rfl (ix3l (hv _ (in5 hj)) 1 (by decide)) (((3 * (gv j.toNatClampNeg)) + 1).toNatClampNeg) rfl (v := gp (((3 * (gv j.toNatClampNeg)) + 1).toNatClampNeg)) rfl dX5_spreadOf_78 ?_
  refine lv_i2l hx hb dX5_spreadOf_79 rfl ?_
  refine lv_aload_n hx hb dX5_spreadOf_80 rfl (lv_at hl 5 rfl) ?_
  refine va_get (D := D) (ci := 5) (v := .ref mP) (C := RX5) (T := TX5) (N := 17) hx hb hts k_2 hown hK.1 hP 0 rfl rfl 0 (by decide) k_1 (fun _ h9 => h9) rfl dX5_spreadOf_81 ?_
  refine lv_iconst (v := 3) hx hb dX5_spreadOf_84 (by decide) ?_
  refine lv_aload_n hx hb dX5_spreadOf_85 rfl (lv_at hl 5 rfl) ?_
  refine va_get (D := D) (ci := 5) (v := .ref mV) (C := RX5) (T := TX5) (N := 17) hx hb hts k_2 hown hK.1 hP 0 rfl rfl 7 (by decide) k_3 (fun _ h9 => h9) rfl dX5_spreadOf_86 ?_
  refine lv_iload_n hx hb dX5_spreadOf_89 rfl (lv_at hl 8 rfl) ?_
  refine ld_i hx hb hK.1 hP 2 0 rfl rfl hk k.toNatClampNeg rfl (v := gv k.toNatClampNeg) rfl dX5_spreadOf_90 ?_
  refine lv_imul hx hb dX5_spreadOf_91 ?_
  refine lv_iload hx hb dX5_spreadOf_92 (lv_at hl 1 rfl) ?_
  refine lv_iadd hx hb dX5_spreadOf_94 ?_
  refine ld_i hx hb hK.1 hP 1 0 rfl rfl (ix3l (hv _ (in5 hk)) 0 (by decide)) (((3 * (gv k.toNatClampNeg)) + 0).toNatClampNeg) rfl (v := gp (((3 * (gv k.toNatClampNeg)) + 0).toNatClampNeg)) rfl dX5_spreadOf_95 ?_
  refine lv_i2l hx hb dX5_spreadOf_96 rfl ?_
  refine lv_lmul hx hb dX5_spreadOf_97 ?_
  refine lv_lsub hx hb dX5_spreadOf_98 ?_
  refine lv_eql (v := z5_spreadOf_v4 gp gv j k) (by delta z5_spreadOf_v4; rfl) ?_
  refine lv_lstore (lv' := [(9, .long (z5_spreadOf_v4 gp gv j k)), (8, .int 1), (7, .int 0), (6, .int 2), (4, .long (z5_spreadOf_v3 gp gv i j k)), (0, .ref o), (1, .int i), (2, .int j), (3, .int k)]) hx hb dX5_spreadOf_99 hl (by decide) rfl (fun ls hl => ?_)
  refine lv_lload hx hb dX5_spreadOf_101 (lv_at hl 4 rfl) ?_
  refine lv_aload_n hx hb dX5_spreadOf_103 rfl (lv_at hl 5 rfl) ?_
  refine va_get (D := D) (ci := 5) (v := .ref mP) (C := RX5) (T := TX5) (N := 17) hx hb hts k_2 hown hK.1 hP 0 rfl rfl 0 (by decide) k_1 (fun _ h9 => h9) rfl dX5_spreadOf_104 ?_
  refine lv_iconst (v := 3) hx hb dX5_spreadOf_107 (by decide) ?_
  refine lv_aload_n hx hb dX5_spreadOf_108 rfl (lv_at hl 5 rfl) ?_
  refine va_get (D := D) (ci := 5) (v := .ref mV) (C := RX5) (T := TX5) (N := 17) hx hb hts k_2 hown hK.1 hP 0 rfl rfl 7 (by decide) k_3 (fun _ h9 => h9) rfl dX5_spreadOf_109 ?_
  refine lv_iload_n hx hb dX5_spreadOf_112 rfl (lv_at hl 6 rfl) ?_
  refine ld_i hx hb hK.1 hP 2 0 rfl rfl hi i.toNatClampNeg rfl (v := gv i.toNatClampNeg) rfl dX5_spreadOf_113 ?_
  refine lv_imul hx hb dX5_spreadOf_114 ?_
  refine lv_iload hx hb dX5_spreadOf_115 (lv_at hl 3 rfl) ?_
  refine lv_iadd hx hb dX5_spreadOf_117 ?_
  refine ld_i hx hb hK.1 hP 1 0 rfl rfl (ix3l (hv _ (in5 hi)) 2 (by decide)) (((3 * (gv i.toNatClampNeg)) + 2).toNatClampNeg) rfl (v := gp (((3 * (gv i.toNatClampNeg)) + 2).toNatClampNeg)) rfl dX5_spreadOf_118 ?_
  refine lv_i2l hx hb dX5_spreadOf_119 rfl ?_
  refine lv_lload hx hb dX5_spreadOf_120 (lv_at hl 0 rfl) ?_
  refine lv_lmul hx hb dX5_spreadOf_122 ?_
  refine lv_ladd hx hb dX5_spreadOf_123 ?_
  refine lv_eql (v := z5_spreadOf_v5 gp gv i j k) (by delta z5_spreadOf_v5; rfl) ?_
  refine lv_lstore (lv' := [(4, .long (z5_spreadOf_v5 gp gv i j k)), (9, .long (z5_spreadOf_v4 gp gv j k)), (8, .int 1), (7, .int 0), (6, .int 2), (0, .ref o), (1, .int i), (2, .int j), (3, .int k)]) hx hb dX5_spreadOf_124 hl (by decide) rfl (fun ls hl => ?_)
  refine lv_iinc (v := 3) (lv' := [(6, .int 3), (4, .long (z5_spreadOf_v5 gp gv i j k)), (9, .long (z5_spreadOf_v4 gp gv j k)), (8, .int 1), (7, .int 0), (0, .ref o), (1, .int i), (2, .int j), (3, .int k)]) hx hb dX5_spreadOf_126 hl (k := 4) rfl (by decide) (by decide) rfl (fun ls hl => ?_)
  refine lv_goto (tgt := 6) hx hb dX5_spreadOf_129 (by decide) ?_
  refine lv_iload hx hb dX5_spreadOf_6 (lv_at hl 0 rfl) ?_
  refine lv_iconst (v := 3) hx hb dX5_spreadOf_8 (by decide) ?_
  refine lv_icmp_ge (tgt := 132) hx hb dX5_spreadOf_9 (by decide) (fun _ => ?_) (fun h => absurd (by decide) h)
  refine lv_lload hx hb dX5_spreadOf_132 (lv_at hl 1 rfl) ?_
  exact rr_l hx hb hr hlk dX5_spreadOf_134 rfl
def z5_areSeveral_j15 : Int32 := 0
def z5_areSeveral_j14 (gp : Nat → Int32) (gv : Nat → Int32) : Int32 := if (z5_spreadOf gp gv 0 1 2) = 0 then if (z5_spreadOf gp gv 0 1 3) = 0 then if (z5_spreadOf gp gv 1 2 3) = 0 then if (z5_spreadOf gp gv 0 2 3) = 0 then 1 else z5_areSeveral_j15 else z5_areSeveral_j15 else z5_areSeveral_j15 else z5_areSeveral_j15
def z5_areSeveral_j13 (gp : Nat → Int32) (gv : Nat → Int32) : Int32 := if (gp (((3 * (gv 4)) + 0).toNatClampNeg)) = (gp (((3 * (gv 3)) + 0).toNatClampNeg)) then if (gp (((3 * (gv 4)) + 1).toNatClampNeg)) = (gp (((3 * (gv 3)) + 1).toNatClampNeg)) then if (gp (((3 * (gv 4)) + 2).toNatClampNeg)) = (gp (((3 * (gv 3)) + 2).toNatClampNeg)) then 1 else z5_areSeveral_j14 gp gv else z5_areSeveral_j14 gp gv else z5_areSeveral_j14 gp gv
def z5_areSeveral_j12 (gp : Nat → Int32) (gv : Nat → Int32) : Int32 := if (gp (((3 * (gv 4)) + 0).toNatClampNeg)) = (gp (((3 * (gv 2)) + 0).toNatClampNeg)) then if (gp (((3 * (gv 4)) + 1).toNatClampNeg)) = (gp (((3 * (gv 2)) + 1).toNatClampNeg)) then if (gp (((3 * (gv 4)) + 2).toNatClampNeg)) = (gp (((3 * (gv 2)) + 2).toNatClampNeg)) then 1 else z5_areSeveral_j13 gp gv else z5_areSeveral_j13 gp gv else z5_areSeveral_j13 gp gv
def z5_areSeveral_j11 (gp : Nat → Int32) (gv : Nat → Int32) : Int32 := if (gp (((3 * (gv 4)) + 0).toNatClampNeg)) = (gp (((3 * (gv 1)) + 0).toNatClampNeg)) then if (gp (((3 * (gv 4)) + 1).toNatClampNeg)) = (gp (((3 * (gv 1)) + 1).toNatClampNeg)) then if (gp (((3 * (gv 4)) + 2).toNatClampNeg)) = (gp (((3 * (gv 1)) + 2).toNatClampNeg)) then 1 else z5_areSeveral_j12 gp gv else z5_areSeveral_j12 gp gv else z5_areSeveral_j12 gp gv
def z5_areSeveral_j10 (gp : Nat → Int32) (gv : Nat → Int32) : Int32 := if (gp (((3 * (gv 4)) + 0).toNatClampNeg)) = (gp (((3 * (gv 0)) + 0).toNatClampNeg)) then if (gp (((3 * (gv 4)) + 1).toNatClampNeg)) = (gp (((3 * (gv 0)) + 1).toNatClampNeg)) then if (gp (((3 * (gv 4)) + 2).toNatClampNeg)) = (gp (((3 * (gv 0)) + 2).toNatClampNeg)) then 1 else z5_areSeveral_j11 gp gv else z5_areSeveral_j11 gp gv else z5_areSeveral_j11 gp gv
def z5_areSeveral_j9 (gp : Nat → Int32) (gv : Nat → Int32) : Int32 := if (z5_spreadOf gp gv 4 0 1) = 0 then if (z5_spreadOf gp gv 4 0 2) = 0 then if (z5_spreadOf gp gv 0 1 2) = 0 then if (z5_spreadOf gp gv 4 1 2) = 0 then 1 else z5_areSeveral_j10 gp gv else z5_areSeveral_j10 gp gv else z5_areSeveral_j10 gp gv else z5_areSeveral_j10 gp gv
def z5_areSeveral_j8 (gp : Nat → Int32) (gv : Nat → Int32) : Int32 := if (gp (((3 * (gv 3)) + 0).toNatClampNeg)) = (gp (((3 * (gv 2)) + 0).toNatClampNeg)) then if (gp (((3 * (gv 3)) + 1).toNatClampNeg)) = (gp (((3 * (gv 2)) + 1).toNatClampNeg)) then if (gp (((3 * (gv 3)) + 2).toNatClampNeg)) = (gp (((3 * (gv 2)) + 2).toNatClampNeg)) then 1 else z5_areSeveral_j9 gp gv else z5_areSeveral_j9 gp gv else z5_areSeveral_j9 gp gv
def z5_areSeveral_j7 (gp : Nat → Int32) (gv : Nat → Int32) : Int32 := if (gp (((3 * (gv 3)) + 0).toNatClampNeg)) = (gp (((3 * (gv 1)) + 0).toNatClampNeg)) then if (gp (((3 * (gv 3)) + 1).toNatClampNeg)) = (gp (((3 * (gv 1)) + 1).toNatClampNeg)) then if (gp (((3 * (gv 3)) + 2).toNatClampNeg)) = (gp (((3 * (gv 1)) + 2).toNatClampNeg)) then 1 else z5_areSeveral_j8 gp gv else z5_areSeveral_j8 gp gv else z5_areSeveral_j8 gp gv
def z5_areSeveral_j6 (gp : Nat → Int32) (gv : Nat → Int32) : Int32 := if (gp (((3 * (gv 3)) + 0).toNatClampNeg)) = (gp (((3 * (gv 0)) + 0).toNatClampNeg)) then if (gp (((3 * (gv 3)) + 1).toNatClampNeg)) = (gp (((3 * (gv 0)) + 1).toNatClampNeg)) then if (gp (((3 * (gv 3)) + 2).toNatClampNeg)) = (gp (((3 * (gv 0)) + 2).toNatClampNeg)) then 1 else z5_areSeveral_j7 gp gv else z5_areSeveral_j7 gp gv else z5_areSeveral_j7 gp gv
def z5_areSeveral_j5 (gp : Nat → Int32) (gv : Nat → Int32) : Int32 := if (z5_spreadOf gp gv 3 4 0) = 0 then if (z5_spreadOf gp gv 3 4 1) = 0 then if (z5_spreadOf gp gv 4 0 1) = 0 then if (z5_spreadOf gp gv 3 0 1) = 0 then 1 else z5_areSeveral_j6 gp gv else z5_areSeveral_j6 gp gv else z5_areSeveral_j6 gp gv else z5_areSeveral_j6 gp gv
def z5_areSeveral_j4 (gp : Nat → Int32) (gv : Nat → Int32) : Int32 := if (gp (((3 * (gv 2)) + 0).toNatClampNeg)) = (gp (((3 * (gv 1)) + 0).toNatClampNeg)) then if (gp (((3 * (gv 2)) + 1).toNatClampNeg)) = (gp (((3 * (gv 1)) + 1).toNatClampNeg)) then if (gp (((3 * (gv 2)) + 2).toNatClampNeg)) = (gp (((3 * (gv 1)) + 2).toNatClampNeg)) then 1 else z5_areSeveral_j5 gp gv else z5_areSeveral_j5 gp gv else z5_areSeveral_j5 gp gv
def z5_areSeveral_j3 (gp : Nat → Int32) (gv : Nat → Int32) : Int32 := if (gp (((3 * (gv 2)) + 0).toNatClampNeg)) = (gp (((3 * (gv 0)) + 0).toNatClampNeg)) then if (gp (((3 * (gv 2)) + 1).toNatClampNeg)) = (gp (((3 * (gv 0)) + 1).toNatClampNeg)) then if (gp (((3 * (gv 2)) + 2).toNatClampNeg)) = (gp (((3 * (gv 0)) + 2).toNatClampNeg)) then 1 else z5_areSeveral_j4 gp gv else z5_areSeveral_j4 gp gv else z5_areSeveral_j4 gp gv
def z5_areSeveral_j2 (gp : Nat → Int32) (gv : Nat → Int32) : Int32 := if (z5_spreadOf gp gv 2 3 4) = 0 then if (z5_spreadOf gp gv 2 3 0) = 0 then if (z5_spreadOf gp gv 3 4 0) = 0 then if (z5_spreadOf gp gv 2 4 0) = 0 then 1 else z5_areSeveral_j3 gp gv else z5_areSeveral_j3 gp gv else z5_areSeveral_j3 gp gv else z5_areSeveral_j3 gp gv
def z5_areSeveral_j1 (gp : Nat → Int32) (gv : Nat → Int32) : Int32 := if (gp (((3 * (gv 1)) + 0).toNatClampNeg)) = (gp (((3 * (gv 0)) + 0).toNatClampNeg)) then if (gp (((3 * (gv 1)) + 1).toNatClampNeg)) = (gp (((3 * (gv 0)) + 1).toNatClampNeg)) then if (gp (((3 * (gv 1)) + 2).toNatClampNeg)) = (gp (((3 * (gv 0)) + 2).toNatClampNeg)) then 1 else z5_areSeveral_j2 gp gv else z5_areSeveral_j2 gp gv else z5_areSeveral_j2 gp gv
def z5_areSeveral (gp : Nat → Int32) (gv : Nat → Int32) : Int32 := if (z5_spreadOf gp gv 1 2 3) = 0 then if (z5_spreadOf gp gv 1 2 4) = 0 then if (z5_spreadOf gp gv 2 3 4) = 0 then if (z5_spreadOf gp gv 1 3 4) = 0 then 1 else z5_areSeveral_j1 gp gv else z5_areSeveral_j1 gp gv else z5_areSeveral_j1 gp gv else z5_areSeveral_j1 gp gv
set_option maxHeartbeats 4000000 in
set_option maxRecDepth 100000 in
theorem jo_X5_areSeveral_1 {l : Launch} {D : va_G} {cI cJ : ClassId} {pG : Program} {eG : Env} {sG : State} {mG : MethodId} {below : List Frame} {meth : Method} {cG : Code} {o : Nat} {mP : Nat} {mL : Nat} {mC : Nat} {mN : Nat} {mF : Nat} {mR : Nat} {mD : Nat} {mV : Nat} {mX : Nat} {mA : Nat} {mK : Nat} {mT : Nat} {mU : Nat} {mH : Nat} {mI : Nat} {cm : Int32} {pm : Int32} {gp : Nat → Int32} {gv : Nat → Int32} (hv : ∀ n, n < 5 → ok_i (gv n)) (hx : pG.tables.exec = Jvm.exec) (hb : cG.code = cX5_areSeveral) (hr : meth.sig.returnType = some .boolean) (hml : cG.maxLocals = 7) (hown : sG.vm.findClass RX5 = some mG.cls) (hts : ∀ x ∈ wsX5_areSeveral, x.before ([.ref o] : List Value).toArray sG = true) (hlk : meth.locks = false) (hP : va_P D vwCl [kM o mP mL mC mN mF mR mD mV mX mA mK cm mT pm mU mH mI, kA mP cI 180 gp, kA mV cI 5 gv] sG.heap) (hK : gd_K D cI cJ sG) (hj_1 : z5_areSeveral gp gv = 1) (ls : Array Slot) (hl : lv_has ls 7 [(0, .ref o), (1, .int 1), (2, .int 4)]) : W pG l eG (headSpec wsX5_areSeveral ({ frames := 1, cells := 0, slots := 0, locals := 30 })).room sG mG ([.ref o] : List Value).toArray below meth cG sG.heap [] 0 0 (MQ below (vp_Si (fun r : Int32 => r = z5_areSeveral gp gv)) ([.ref o] : List Value).toArray sG 0 0 (fun _ => False)) (F0 mG 196 ls []) := by
  have k_1 := hts (.fieldLink RX5 7 "ConicRowsModel" "points" "[I") (by decide +kernel)
  have k_2 : ∀ w ∈ wsX50, w ∈ wsX5_areSeveral := by decide +kernel
  have k_3 := hts (.fieldLink RX5 32 "ConicRowsModel" "five" "[I") (by decide +kernel)
  refine lv_iinc (v := 5) (lv' := [(2, .int 5), (0, .ref o), (1, .int 1)]) hx hb dX5_areSeveral_196 hl (k := 2) rfl (by decide) (by decide) rfl (fun ls hl => ?_)
  refine lv_goto (tgt := 4) hx hb dX5_areSeveral_199 (by decide) ?_
  refine lv_iload_n hx hb dX5_areSeveral_4 rfl (lv_at hl 0 rfl) ?_
  refine lv_iconst (v := 5) hx hb dX5_areSeveral_5 (by decide) ?_
  refine lv_icmp_ge (tgt := 202) hx hb dX5_areSeveral_6 (by decide) (fun _ => ?_) (fun h => absurd (by decide) h)
  refine lv_iload_n hx hb dX5_areSeveral_202 rfl (lv_at hl 2 rfl) ?_
  have he : z5_areSeveral gp gv = 1 := hj_1
  exact rr_z hx hb hr rfl hlk dX5_areSeveral_203 he.symm
set_option maxHeartbeats 4000000 in
set_option maxRecDepth 100000 in
theorem jo_X5_areSeveral_2 {l : Launch} {D : va_G} {cI cJ : ClassId} {pG : Program} {eG : Env} {sG : State} {mG : MethodId} {below : List Frame} {meth : Method} {cG : Code} {o : Nat} {mP : Nat} {mL : Nat} {mC : Nat} {mN : Nat} {mF : Nat} {mR : Nat} {mD : Nat} {mV : Nat} {mX : Nat} {mA : Nat} {mK : Nat} {mT : Nat} {mU : Nat} {mH : Nat} {mI : Nat} {cm : Int32} {pm : Int32} {gp : Nat → Int32} {gv : Nat → Int32} (hv : ∀ n, n < 5 → ok_i (gv n)) (hx : pG.tables.exec = Jvm.exec) (hb : cG.code = cX5_areSeveral) (hr : meth.sig.returnType = some .boolean) (hml : cG.maxLocals = 7) (hown : sG.vm.findClass RX5 = some mG.cls) (hts : ∀ x ∈ wsX5_areSeveral, x.before ([.ref o] : List Value).toArray sG = true) (hlk : meth.locks = false) (hP : va_P D vwCl [kM o mP mL mC mN mF mR mD mV mX mA mK cm mT pm mU mH mI, kA mP cI 180 gp, kA mV cI 5 gv] sG.heap) (hK : gd_K D cI cJ sG) (hj_2 : z5_areSeveral gp gv = 1) (ls : Array Slot) (hl : lv_has ls 7 [(0, .ref o), (1, .int 1), (2, .int 4), (3, .int 3)]) : W pG l eG (headSpec wsX5_areSeveral ({ frames := 1, cells := 0, slots := 0, locals := 30 })).room sG mG ([.ref o] : List Value).toArray below meth cG sG.heap [] 0 0 (MQ below (vp_Si (fun r : Int32 => r = z5_areSeveral gp gv)) ([.ref o] : List Value).toArray sG 0 0 (fun _ => False)) (F0 mG 96 ls []) := by
  have k_1 := hts (.fieldLink RX5 7 "ConicRowsModel" "points" "[I") (by decide +kernel)
  have k_2 : ∀ w ∈ wsX50, w ∈ wsX5_areSeveral := by decide +kernel
  have k_3 := hts (.fieldLink RX5 32 "ConicRowsModel" "five" "[I") (by decide +kernel)
  refine lv_iinc (v := 4) (lv' := [(3, .int 4), (0, .ref o), (1, .int 1), (2, .int 4)]) hx hb dX5_areSeveral_96 hl (k := 3) rfl (by decide) (by decide) rfl (fun ls hl => ?_)
  refine lv_goto (tgt := 11) hx hb dX5_areSeveral_99 (by decide) ?_
  refine lv_iload_n hx hb dX5_areSeveral_11 rfl (lv_at hl 0 rfl) ?_
  refine lv_iload_n hx hb dX5_areSeveral_12 rfl (lv_at hl 3 rfl) ?_
  refine lv_icmp_ge (tgt := 102) hx hb dX5_areSeveral_13 (by decide) (fun _ => ?_) (fun h => absurd (by decide) h)
  refine lv_iload_n hx hb dX5_areSeveral_102 rfl (lv_at hl 3 rfl) ?_
  refine lv_iconst (v := 1) hx hb dX5_areSeveral_103 (by decide) ?_
  refine lv_iadd hx hb dX5_areSeveral_104 ?_
  refine lv_eqi (v := 5) (by decide) ?_
  refine lv_iconst (v := 5) hx hb dX5_areSeveral_105 (by decide) ?_
  refine lv_irem hx hb dX5_areSeveral_106 (by decide) ?_
  refine lv_eqi (v := 0) (by decide) ?_
  refine lv_istore_n (lv' := [(3, .int 0), (0, .ref o), (1, .int 1), (2, .int 4)]) hx hb dX5_areSeveral_107 rfl hl (by decide) rfl (fun ls hl => ?_)
  refine lv_iload_n hx hb dX5_areSeveral_108 rfl (lv_at hl 3 rfl) ?_
  refine lv_iconst (v := 2) hx hb dX5_areSeveral_109 (by decide) ?_
  refine lv_iadd hx hb dX5_areSeveral_110 ?_
  refine lv_eqi (v := 6) (by decide) ?_
  refine lv_iconst (v := 5) hx hb dX5_areSeveral_111 (by decide) ?_
  refine lv_irem hx hb dX5_areSeveral_112 (by decide) ?_
  refine lv_eqi (v := 1) (by decide) ?_
  refine lv_istore (lv' := [(4, .int 1), (3, .int 0), (0, .ref o), (1, .int 1), (2, .int 4)]) hx hb dX5_areSeveral_113 hl (by decide) rfl (fun ls hl => ?_)
  refine lv_iload_n hx hb dX5_areSeveral_115 rfl (lv_at hl 4 rfl) ?_
  refine lv_iconst (v := 3) hx hb dX5_areSeveral_116 (by decide) ?_
  refine lv_iadd hx hb dX5_areSeveral_117 ?_
  refine lv_eqi (v := 7) (by decide) ?_
  refine lv_iconst (v := 5) hx hb dX5_areSeveral_118 (by decide) ?_
  refine lv_irem hx hb dX5_areSeveral_119 (by decide) ?_
  refine lv_eqi (v := 2) (by decide) ?_
  refine lv_istore (lv' := [(5, .int 2), (4, .int 1), (3, .int 0), (0, .ref o), (1, .int 1), (2, .int 4)]) hx hb dX5_areSeveral_120 hl (by decide) rfl (fun ls hl => ?_)
  refine lv_iload_n hx hb dX5_areSeveral_122 rfl (lv_at hl 5 rfl) ?_
  refine lv_iconst (v := 4) hx hb dX5_areSeveral_123 (by decide) ?_
  refine lv_iadd hx hb dX5_areSeveral_124 ?_
  refine lv_eqi (v := 8) (by decide) ?_
  refine lv_iconst (v := 5) hx hb dX5_areSeveral_125 (by decide) ?_
  refine lv_irem hx hb dX5_areSeveral_126 (by decide) ?_
  refine lv_eqi (v := 3) (by decide) ?_
  refine lv_istore (lv' := [(6, .int 3), (5, .int 2), (4, .int 1), (3, .int 0), (0, .ref o), (1, .int 1), (2, .int 4)]) hx hb dX5_areSeveral_127 hl (by decide) rfl (fun ls hl => ?_)
  refine lv_iload_n hx hb dX5_areSeveral_129 rfl (lv_at hl 5 rfl) ?_
  refine lv_if_ne (tgt := 190) hx hb dX5_areSeveral_130 (by decide) (fun _ => ?_) (fun h => absurd h (by decide))
  refine lv_iconst (v := 1) hx hb dX5_areSeveral_190 (by decide) ?_
  refine lv_goto (tgt := 195) hx hb dX5_areSeveral_191 (by decide) ?_
  refine lv_istore_n (lv' := [(1, .int 1), (6, .int 3), (5, .int 2), (4, .int 1), (3, .int 0), (0, .ref o), (2, .int 4)]) hx hb dX5_areSeveral_195 rfl hl (by decide) rfl (fun ls hl => ?_)
  have hq : z5_areSeveral gp gv = 1 := hj_2
  exact jo_X5_areSeveral_1 hv hx hb hr hml hown hts hlk hP hK hq ls (lv_sub hl [5, 0, 6] rfl)
set_option maxHeartbeats 4000000 in
set_option maxRecDepth 100000 in
theorem jo_X5_areSeveral_3 {l : Launch} {D : va_G} {cI cJ : ClassId} {pG : Program} {eG : Env} {sG : State} {mG : MethodId} {below : List Frame} {meth : Method} {cG : Code} {o : Nat} {mP : Nat} {mL : Nat} {mC : Nat} {mN : Nat} {mF : Nat} {mR : Nat} {mD : Nat} {mV : Nat} {mX : Nat} {mA : Nat} {mK : Nat} {mT : Nat} {mU : Nat} {mH : Nat} {mI : Nat} {cm : Int32} {pm : Int32} {gp : Nat → Int32} {gv : Nat → Int32} (hv : ∀ n, n < 5 → ok_i (gv n)) (hx : pG.tables.exec = Jvm.exec) (hb : cG.code = cX5_areSeveral) (hr : meth.sig.returnType = some .boolean) (hml : cG.maxLocals = 7) (hown : sG.vm.findClass RX5 = some mG.cls) (hts : ∀ x ∈ wsX5_areSeveral, x.before ([.ref o] : List Value).toArray sG = true) (hlk : meth.locks = false) (hP : va_P D vwCl [kM o mP mL mC mN mF mR mD mV mX mA mK cm mT pm mU mH mI, kA mP cI 180 gp, kA mV cI 5 gv] sG.heap) (hK : gd_K D cI cJ sG) (hj_3 : z5_areSeveral gp gv = 1) (ls : Array Slot) (hl : lv_has ls 7 [(0, .ref o), (1, .int 1), (2, .int 4), (3, .int 2)]) : W pG l eG (headSpec wsX5_areSeveral ({ frames := 1, cells := 0, slots := 0, locals := 30 })).room sG mG ([.ref o] : List Value).toArray below meth cG sG.heap [] 0 0 (MQ below (vp_Si (fun r : Int32 => r = z5_areSeveral gp gv)) ([.ref o] : List Value).toArray sG 0 0 (fun _ => False)) (F0 mG 96 ls []) := by
  have k_1 := hts (.fieldLink RX5 7 "ConicRowsModel" "points" "[I") (by decide +kernel)
  have k_2 : ∀ w ∈ wsX50, w ∈ wsX5_areSeveral := by decide +kernel
  have k_3 := hts (.fieldLink RX5 32 "ConicRowsModel" "five" "[I") (by decide +kernel)
  refine lv_iinc (v := 3) (lv' := [(3, .int 3), (0, .ref o), (1, .int 1), (2, .int 4)]) hx hb dX5_areSeveral_96 hl (k := 3) rfl (by decide) (by decide) rfl (fun ls hl => ?_)
  refine lv_goto (tgt := 11) hx hb dX5_areSeveral_99 (by decide) ?_
  refine lv_iload_n hx hb dX5_areSeveral_11 rfl (lv_at hl 0 rfl) ?_
  refine lv_iload_n hx hb dX5_areSeveral_12 rfl (lv_at hl 3 rfl) ?_
  refine lv_icmp_ge (tgt := 102) hx hb dX5_areSeveral_13 (by decide) (fun h => absurd h (by decide)) (fun _ => ?_)
  refine lv_iconst (v := 1) hx hb dX5_areSeveral_16 (by decide) ?_
  refine lv_istore (lv' := [(4, .int 1), (3, .int 3), (0, .ref o), (1, .int 1), (2, .int 4)]) hx hb dX5_areSeveral_17 hl (by decide) rfl (fun ls hl => ?_)
  refine lv_iconst (v := 0) hx hb dX5_areSeveral_19 (by decide) ?_
  refine lv_istore (lv' := [(5, .int 0), (4, .int 1), (3, .int 3), (0, .ref o), (1, .int 1), (2, .int 4)]) hx hb dX5_areSeveral_20 hl (by decide) rfl (fun ls hl => ?_)
  refine lv_iload hx hb dX5_areSeveral_22 (lv_at hl 0 rfl) ?_
  refine lv_iconst (v := 3) hx hb dX5_areSeveral_24 (by decide) ?_
  refine lv_icmp_ge (tgt := 81) hx hb dX5_areSeveral_25 (by decide) (fun h => absurd h (by decide)) (fun _ => ?_)
  refine lv_iload hx hb dX5_areSeveral_28 (lv_at hl 1 rfl) ?_
  refine lv_if_eq (tgt := 72) hx hb dX5_areSeveral_30 (by decide) (fun h => absurd h (by decide)) (fun _ => ?_)
  refine lv_aload_n hx hb dX5_areSeveral_33 rfl (lv_at hl 3 rfl) ?_
  refine va_get (D := D) (ci := 5) (v := .ref mP) (C := RX5) (T := TX5) (N := 17) hx hb hts k_2 hown hK.1 hP 0 rfl rfl 0 (by decide) k_1 (fun _ h9 => h9) rfl dX5_areSeveral_34 ?_
  refine lv_iconst (v := 3) hx hb dX5_areSeveral_37 (by decide) ?_
  refine lv_aload_n hx hb dX5_areSeveral_38 rfl (lv_at hl 3 rfl) ?_
  refine va_get (D := D) (ci := 5) (v := .ref mV) (C := RX5) (T := TX5) (N := 17) hx hb hts k_2 hown hK.1 hP 0 rfl rfl 7 (by decide) k_3 (fun _ h9 => h9) rfl dX5_areSeveral_39 ?_
  refine lv_iload_n hx hb dX5_areSeveral_42 rfl (lv_at hl 5 rfl) ?_
  refine ld_i hx hb hK.1 hP 2 0 rfl rfl (ix_lit (by decide)) 4 (by decide) (v := gv 4) rfl dX5_areSeveral_43 ?_
  refine lv_imul hx hb dX5_areSeveral_44 ?_
  refine lv_iload hx hb dX5_areSeveral_45 (lv_at hl 0 rfl) ?_
  refine lv_iadd hx hb dX5_areSeveral_47 ?_
  refine ld_i hx hb hK.1 hP 1 0 rfl rfl (ix3l (hv 4 (by decide)) 0 (by decide)) (((3 * (gv 4)) + 0).toNatClampNeg) rfl (v := gp (((3 * (gv 4)) + 0).toNatClampNeg)) rfl dX5_areSeveral_48 ?_
  refine lv_aload_n hx hb dX5_areSeveral_49 rfl (lv_at hl 3 rfl) ?_
  refine va_get (D := D) (ci := 5) (v := .ref mP) (C := RX5) (T := TX5) (N := 17) hx hb hts k_2 hown hK.1 hP 0 rfl rfl 0 (by decide) k_1 (fun _ h9 => h9) rfl dX5_areSeveral_50 ?_
  refine lv_iconst (v := 3) hx hb dX5_areSeveral_53 (by decide) ?_
  refine lv_aload_n hx hb dX5_areSeveral_54 rfl (lv_at hl 3 rfl) ?_
  refine va_get (D := D) (ci := 5) (v := .ref mV) (C := RX5) (T := TX5) (N := 17) hx hb hts k_2 hown hK.1 hP 0 rfl rfl 7 (by decide) k_3 (fun _ h9 => h9) rfl dX5_areSeveral_55 ?_
  refine lv_iload_n hx hb dX5_areSeveral_58 rfl (lv_at hl 2 rfl) ?_
  refine ld_i hx hb hK.1 hP 2 0 rfl rfl (ix_lit (by decide)) 3 (by decide) (v := gv 3) rfl dX5_areSeveral_59 ?_
  refine lv_imul hx hb dX5_areSeveral_60 ?_
  refine lv_iload hx hb dX5_areSeveral_61 (lv_at hl 0 rfl) ?_
  refine lv_iadd hx hb dX5_areSeveral_63 ?_
  refine ld_i hx hb hK.1 hP 1 0 rfl rfl (ix3l (hv 3 (by decide)) 0 (by decide)) (((3 * (gv 3)) + 0).toNatClampNeg) rfl (v := gp (((3 * (gv 3)) + 0).toNatClampNeg)) rfl dX5_areSeveral_64 ?_
  refine lv_icmp_ne (tgt := 72) hx hb dX5_areSeveral_65 (by decide) (fun c_1 => ?_) (fun c_1 => ?_)
  · skip
    refine lv_iconst (v := 0) hx hb dX5_areSeveral_72 (by decide) ?_
    refine lv_istore (lv' := [(4, .int 0), (5, .int 0), (3, .int 3), (0, .ref o), (1, .int 1), (2, .int 4)]) hx hb dX5_areSeveral_73 hl (by decide) rfl (fun ls hl => ?_)
    refine lv_iinc (v := 1) (lv' := [(5, .int 1), (4, .int 0), (3, .int 3), (0, .ref o), (1, .int 1), (2, .int 4)]) hx hb dX5_areSeveral_75 hl (k := 1) rfl (by decide) (by decide) rfl (fun ls hl => ?_)
    refine lv_goto (tgt := 22) hx hb dX5_areSeveral_78 (by decide) ?_
    refine lv_iload hx hb dX5_areSeveral_22 (lv_at hl 0 rfl) ?_
    refine lv_iconst (v := 3) hx hb dX5_areSeveral_24 (by decide) ?_
    refine lv_icmp_ge (tgt := 81) hx hb dX5_areSeveral_25 (by decide) (fun h => absurd h (by decide)) (fun _ => ?_)
    refine lv_iload hx hb dX5_areSeveral_28 (lv_at hl 1 rfl) ?_
    refine lv_if_eq (tgt := 72) hx hb dX5_areSeveral_30 (by decide) (fun _ => ?_) (fun h => absurd (by decide) h)
    refine lv_iconst (v := 0) hx hb dX5_areSeveral_72 (by decide) ?_
    refine lv_istore (lv' := [(4, .int 0), (5, .int 1), (3, .int 3), (0, .ref o), (1, .int 1), (2, .int 4)]) hx hb dX5_areSeveral_73 hl (by decide) rfl (fun ls hl => ?_)
    refine lv_iinc (v := 2) (lv' := [(5, .int 2), (4, .int 0), (3, .int 3), (0, .ref o), (1, .int 1), (2, .int 4)]) hx hb dX5_areSeveral_75 hl (k := 1) rfl (by decide) (by decide) rfl (fun ls hl => ?_)
    refine lv_goto (tgt := 22) hx hb dX5_areSeveral_78 (by decide) ?_
    refine lv_iload hx hb dX5_areSeveral_22 (lv_at hl 0 rfl) ?_
    refine lv_iconst (v := 3) hx hb dX5_areSeveral_24 (by decide) ?_
    refine lv_icmp_ge (tgt := 81) hx hb dX5_areSeveral_25 (by decide) (fun h => absurd h (by decide)) (fun _ => ?_)
    refine lv_iload hx hb dX5_areSeveral_28 (lv_at hl 1 rfl) ?_
    refine lv_if_eq (tgt := 72) hx hb dX5_areSeveral_30 (by decide) (fun _ => ?_) (fun h => absurd (by decide) h)
    refine lv_iconst (v := 0) hx hb dX5_areSeveral_72 (by decide) ?_
    refine lv_istore (lv' := [(4, .int 0), (5, .int 2), (3, .int 3), (0, .ref o), (1, .int 1), (2, .int 4)]) hx hb dX5_areSeveral_73 hl (by decide) rfl (fun ls hl => ?_)
    refine lv_iinc (v := 3) (lv' := [(5, .int 3), (4, .int 0), (3, .int 3), (0, .ref o), (1, .int 1), (2, .int 4)]) hx hb dX5_areSeveral_75 hl (k := 1) rfl (by decide) (by decide) rfl (fun ls hl => ?_)
    refine lv_goto (tgt := 22) hx hb dX5_areSeveral_78 (by decide) ?_
    refine lv_iload hx hb dX5_areSeveral_22 (lv_at hl 0 rfl) ?_
    refine lv_iconst (v := 3) hx hb dX5_areSeveral_24 (by decide) ?_
    refine lv_icmp_ge (tgt := 81) hx hb dX5_areSeveral_25 (by decide) (fun _ => ?_) (fun h => absurd (by decide) h)
    refine lv_iload_n hx hb dX5_areSeveral_81 rfl (lv_at hl 4 rfl) ?_
    refine lv_if_ne (tgt := 90) hx hb dX5_areSeveral_82 (by decide) (fun _ => ?_) (fun h => absurd h (by decide))
    refine lv_iconst (v := 1) hx hb dX5_areSeveral_90 (by decide) ?_
    refine lv_goto (tgt := 95) hx hb dX5_areSeveral_91 (by decide) ?_
    refine lv_istore_n (lv' := [(1, .int 1), (5, .int 3), (4, .int 0), (3, .int 3), (0, .ref o), (2, .int 4)]) hx hb dX5_areSeveral_95 rfl hl (by decide) rfl (fun ls hl => ?_)
    have hq : z5_areSeveral gp gv = 1 := hj_3
    exact jo_X5_areSeveral_2 hv hx hb hr hml hown hts hlk hP hK hq ls (lv_sub hl [4, 0, 5, 3] rfl)
  · skip
    refine lv_iconst (v := 1) hx hb dX5_areSeveral_68 (by decide) ?_
    refine lv_goto (tgt := 73) hx hb dX5_areSeveral_69 (by decide) ?_
    refine lv_istore (lv' := [(4, .int 1), (5, .int 0), (3, .int 3), (0, .ref o), (1, .int 1), (2, .int 4)]) hx hb dX5_areSeveral_73 hl (by decide) rfl (fun ls hl => ?_)
    refine lv_iinc (v := 1) (lv' := [(5, .int 1), (4, .int 1), (3, .int 3), (0, .ref o), (1, .int 1), (2, .int 4)]) hx hb dX5_areSeveral_75 hl (k := 1) rfl (by decide) (by decide) rfl (fun ls hl => ?_)
    refine lv_goto (tgt := 22) hx hb dX5_areSeveral_78 (by decide) ?_
    refine lv_iload hx hb dX5_areSeveral_22 (lv_at hl 0 rfl) ?_
    refine lv_iconst (v := 3) hx hb dX5_areSeveral_24 (by decide) ?_
    refine lv_icmp_ge (tgt := 81) hx hb dX5_areSeveral_25 (by decide) (fun h => absurd h (by decide)) (fun _ => ?_)
    refine lv_iload hx hb dX5_areSeveral_28 (lv_at hl 1 rfl) ?_
    refine lv_if_eq (tgt := 72) hx hb dX5_areSeveral_30 (by decide) (fun h => absurd h (by decide)) (fun _ => ?_)
    refine lv_aload_n hx hb dX5_areSeveral_33 rfl (lv_at hl 3 rfl) ?_
    refine va_get (D := D) (ci := 5) (v := .ref mP) (C := RX5) (T := TX5) (N := 17) hx hb hts k_2 hown hK.1 hP 0 rfl rfl 0 (by decide) k_1 (fun _ h9 => h9) rfl dX5_areSeveral_34 ?_
    refine lv_iconst (v := 3) hx hb dX5_areSeveral_37 (by decide) ?_
    refine lv_aload_n hx hb dX5_areSeveral_38 rfl (lv_at hl 3 rfl) ?_
    refine va_get (D := D) (ci := 5) (v := .ref mV) (C := RX5) (T := TX5) (N := 17) hx hb hts k_2 hown hK.1 hP 0 rfl rfl 7 (by decide) k_3 (fun _ h9 => h9) rfl dX5_areSeveral_39 ?_
    refine lv_iload_n hx hb dX5_areSeveral_42 rfl (lv_at hl 5 rfl) ?_
    refine ld_i hx hb hK.1 hP 2 0 rfl rfl (ix_lit (by decide)) 4 (by decide) (v := gv 4) rfl dX5_areSeveral_43 ?_
    refine lv_imul hx hb dX5_areSeveral_44 ?_
    refine lv_iload hx hb dX5_areSeveral_45 (lv_at hl 0 rfl) ?_
    refine lv_iadd hx hb dX5_areSeveral_47 ?_
    refine ld_i hx hb hK.1 hP 1 0 rfl rfl (ix3l (hv 4 (by decide)) 1 (by decide)) (((3 * (gv 4)) + 1).toNatClampNeg) rfl (v := gp (((3 * (gv 4)) + 1).toNatClampNeg)) rfl dX5_areSeveral_48 ?_
    refine lv_aload_n hx hb dX5_areSeveral_49 rfl (lv_at hl 3 rfl) ?_
    refine va_get (D := D) (ci := 5) (v := .ref mP) (C := RX5) (T := TX5) (N := 17) hx hb hts k_2 hown hK.1 hP 0 rfl rfl 0 (by decide) k_1 (fun _ h9 => h9) rfl dX5_areSeveral_50 ?_
    refine lv_iconst (v := 3) hx hb dX5_areSeveral_53 (by decide) ?_
    refine lv_aload_n hx hb dX5_areSeveral_54 rfl (lv_at hl 3 rfl) ?_
    refine va_get (D := D) (ci := 5) (v := .ref mV) (C := RX5) (T := TX5) (N := 17) hx hb hts k_2 hown hK.1 hP 0 rfl rfl 7 (by decide) k_3 (fun _ h9 => h9) rfl dX5_areSeveral_55 ?_
    refine lv_iload_n hx hb dX5_areSeveral_58 rfl (lv_at hl 2 rfl) ?_
    refine ld_i hx hb hK.1 hP 2 0 rfl rfl (ix_lit (by decide)) 3 (by decide) (v := gv 3) rfl dX5_areSeveral_59 ?_
    refine lv_imul hx hb dX5_areSeveral_60 ?_
    refine lv_iload hx hb dX5_areSeveral_61 (lv_at hl 0 rfl) ?_
    refine lv_iadd hx hb dX5_areSeveral_63 ?_
    refine ld_i hx hb hK.1 hP 1 0 rfl rfl (ix3l (hv 3 (by decide)) 1 (by decide)) (((3 * (gv 3)) + 1).toNatClampNeg) rfl (v := gp (((3 * (gv 3)) + 1).toNatClampNeg)) rfl dX5_areSeveral_64 ?_
    refine lv_icmp_ne (tgt := 72) hx hb dX5_areSeveral_65 (by decide) (fun c_2 => ?_) (fun c_2 => ?_)
    · skip
      refine lv_iconst (v := 0) hx hb dX5_areSeveral_72 (by decide) ?_
      refine lv_istore (lv' := [(4, .int 0), (5, .int 1), (3, .int 3), (0, .ref o), (1, .int 1), (2, .int 4)]) hx hb dX5_areSeveral_73 hl (by decide) rfl (fun ls hl => ?_)
      refine lv_iinc (v := 2) (lv' := [(5, .int 2), (4, .int 0), (3, .int 3), (0, .ref o), (1, .int 1), (2, .int 4)]) hx hb dX5_areSeveral_75 hl (k := 1) rfl (by decide) (by decide) rfl (fun ls hl => ?_)
      refine lv_goto (tgt := 22) hx hb dX5_areSeveral_78 (by decide) ?_
      refine lv_iload hx hb dX5_areSeveral_22 (lv_at hl 0 rfl) ?_
      refine lv_iconst (v := 3) hx hb dX5_areSeveral_24 (by decide) ?_
      refine lv_icmp_ge (tgt := 81) hx hb dX5_areSeveral_25 (by decide) (fun h => absurd h (by decide)) (fun _ => ?_)
      refine lv_iload hx hb dX5_areSeveral_28 (lv_at hl 1 rfl) ?_
      refine lv_if_eq (tgt := 72) hx hb dX5_areSeveral_30 (by decide) (fun _ => ?_) (fun h => absurd (by decide) h)
      refine lv_iconst (v := 0) hx hb dX5_areSeveral_72 (by decide) ?_
      refine lv_istore (lv' := [(4, .int 0), (5, .int 2), (3, .int 3), (0, .ref o), (1, .int 1), (2, .int 4)]) hx hb dX5_areSeveral_73 hl (by decide) rfl (fun ls hl => ?_)
      refine lv_iinc (v := 3) (lv' := [(5, .int 3), (4, .int 0), (3, .int 3), (0, .ref o), (1, .int 1), (2, .int 4)]) hx hb dX5_areSeveral_75 hl (k := 1) rfl (by decide) (by decide) rfl (fun ls hl => ?_)
      refine lv_goto (tgt := 22) hx hb dX5_areSeveral_78 (by decide) ?_
      refine lv_iload hx hb dX5_areSeveral_22 (lv_at hl 0 rfl) ?_
      refine lv_iconst (v := 3) hx hb dX5_areSeveral_24 (by decide) ?_
      refine lv_icmp_ge (tgt := 81) hx hb dX5_areSeveral_25 (by decide) (fun _ => ?_) (fun h => absurd (by decide) h)
      refine lv_iload_n hx hb dX5_areSeveral_81 rfl (lv_at hl 4 rfl) ?_
      refine lv_if_ne (tgt := 90) hx hb dX5_areSeveral_82 (by decide) (fun _ => ?_) (fun h => absurd h (by decide))
      refine lv_iconst (v := 1) hx hb dX5_areSeveral_90 (by decide) ?_
      refine lv_goto (tgt := 95) hx hb dX5_areSeveral_91 (by decide) ?_
      refine lv_istore_n (lv' := [(1, .int 1), (5, .int 3), (4, .int 0), (3, .int 3), (0, .ref o), (2, .int 4)]) hx hb dX5_areSeveral_95 rfl hl (by decide) rfl (fun ls hl => ?_)
      have hq : z5_areSeveral gp gv = 1 := hj_3
      exact jo_X5_areSeveral_2 hv hx hb hr hml hown hts hlk hP hK hq ls (lv_sub hl [4, 0, 5, 3] rfl)
    · skip
      refine lv_iconst (v := 1) hx hb dX5_areSeveral_68 (by decide) ?_
      refine lv_goto (tgt := 73) hx hb dX5_areSeveral_69 (by decide) ?_
      refine lv_istore (lv' := [(4, .int 1), (5, .int 1), (3, .int 3), (0, .ref o), (1, .int 1), (2, .int 4)]) hx hb dX5_areSeveral_73 hl (by decide) rfl (fun ls hl => ?_)
      refine lv_iinc (v := 2) (lv' := [(5, .int 2), (4, .int 1), (3, .int 3), (0, .ref o), (1, .int 1), (2, .int 4)]) hx hb dX5_areSeveral_75 hl (k := 1) rfl (by decide) (by decide) rfl (fun ls hl => ?_)
      refine lv_goto (tgt := 22) hx hb dX5_areSeveral_78 (by decide) ?_
      refine lv_iload hx hb dX5_areSeveral_22 (lv_at hl 0 rfl) ?_
      refine lv_iconst (v := 3) hx hb dX5_areSeveral_24 (by decide) ?_
      refine lv_icmp_ge (tgt := 81) hx hb dX5_areSeveral_25 (by decide) (fun h => absurd h (by decide)) (fun _ => ?_)
      refine lv_iload hx hb dX5_areSeveral_28 (lv_at hl 1 rfl) ?_
      refine lv_if_eq (tgt := 72) hx hb dX5_areSeveral_30 (by decide) (fun h => absurd h (by decide)) (fun _ => ?_)
      refine lv_aload_n hx hb dX5_areSeveral_33 rfl (lv_at hl 3 rfl) ?_
      refine va_get (D := D) (ci := 5) (v := .ref mP) (C := RX5) (T := TX5) (N := 17) hx hb hts k_2 hown hK.1 hP 0 rfl rfl 0 (by decide) k_1 (fun _ h9 => h9) rfl dX5_areSeveral_34 ?_
      refine lv_iconst (v := 3) hx hb dX5_areSeveral_37 (by decide) ?_
      refine lv_aload_n hx hb dX5_areSeveral_38 rfl (lv_at hl 3 rfl) ?_
      refine va_get (D := D) (ci := 5) (v := .ref mV) (C := RX5) (T := TX5) (N := 17) hx hb hts k_2 hown hK.1 hP 0 rfl rfl 7 (by decide) k_3 (fun _ h9 => h9) rfl dX5_areSeveral_39 ?_
      refine lv_iload_n hx hb dX5_areSeveral_42 rfl (lv_at hl 5 rfl) ?_
      refine ld_i hx hb hK.1 hP 2 0 rfl rfl (ix_lit (by decide)) 4 (by decide) (v := gv 4) rfl dX5_areSeveral_43 ?_
      refine lv_imul hx hb dX5_areSeveral_44 ?_
      refine lv_iload hx hb dX5_areSeveral_45 (lv_at hl 0 rfl) ?_
      refine lv_iadd hx hb dX5_areSeveral_47 ?_
      refine ld_i hx hb hK.1 hP 1 0 rfl rfl (ix3l (hv 4 (by decide)) 2 (by decide)) (((3 * (gv 4)) + 2).toNatClampNeg) rfl (v := gp (((3 * (gv 4)) + 2).toNatClampNeg)) rfl dX5_areSeveral_48 ?_
      refine lv_aload_n hx hb dX5_areSeveral_49 rfl (lv_at hl 3 rfl) ?_
      refine va_get (D := D) (ci := 5) (v := .ref mP) (C := RX5) (T := TX5) (N := 17) hx hb hts k_2 hown hK.1 hP 0 rfl rfl 0 (by decide) k_1 (fun _ h9 => h9) rfl dX5_areSeveral_50 ?_
      refine lv_iconst (v := 3) hx hb dX5_areSeveral_53 (by decide) ?_
      refine lv_aload_n hx hb dX5_areSeveral_54 rfl (lv_at hl 3 rfl) ?_
      refine va_get (D := D) (ci := 5) (v := .ref mV) (C := RX5) (T := TX5) (N := 17) hx hb hts k_2 hown hK.1 hP 0 rfl rfl 7 (by decide) k_3 (fun _ h9 => h9) rfl dX5_areSeveral_55 ?_
      refine lv_iload_n hx hb dX5_areSeveral_58 rfl (lv_at hl 2 rfl) ?_
      refine ld_i hx hb hK.1 hP 2 0 rfl rfl (ix_lit (by decide)) 3 (by decide) (v := gv 3) rfl dX5_areSeveral_59 ?_
      refine lv_imul hx hb dX5_areSeveral_60 ?_
      refine lv_iload hx hb dX5_areSeveral_61 (lv_at hl 0 rfl) ?_
      refine lv_iadd hx hb dX5_areSeveral_63 ?_
      refine ld_i hx hb hK.1 hP 1 0 rfl rfl (ix3l (hv 3 (by decide)) 2 (by decide)) (((3 * (gv 3)) + 2).toNatClampNeg) rfl (v := gp (((3 * (gv 3)) + 2).toNatClampNeg)) rfl dX5_areSeveral_64 ?_
      refine lv_icmp_ne (tgt := 72) hx hb dX5_areSeveral_65 (by decide) (fun c_3 => ?_) (fun c_3 => ?_)
      · skip
        refine lv_iconst (v := 0) hx hb dX5_areSeveral_72 (by decide) ?_
        refine lv_istore (lv' := [(4, .int 0), (5, .int 2), (3, .int 3), (0, .ref o), (1, .int 1), (2, .int 4)]) hx hb dX5_areSeveral_73 hl (by decide) rfl (fun ls hl => ?_)
        refine lv_iinc (v := 3) (lv' := [(5, .int 3), (4, .int 0), (3, .int 3), (0, .ref o), (1, .int 1), (2, .int 4)]) hx hb dX5_areSeveral_75 hl (k := 1) rfl (by decide) (by decide) rfl (fun ls hl => ?_)
        refine lv_goto (tgt := 22) hx hb dX5_areSeveral_78 (by decide) ?_
        refine lv_iload hx hb dX5_areSeveral_22 (lv_at hl 0 rfl) ?_
        refine lv_iconst (v := 3) hx hb dX5_areSeveral_24 (by decide) ?_
        refine lv_icmp_ge (tgt := 81) hx hb dX5_areSeveral_25 (by decide) (fun _ => ?_) (fun h => absurd (by decide) h)
        refine lv_iload_n hx hb dX5_areSeveral_81 rfl (lv_at hl 4 rfl) ?_
        refine lv_if_ne (tgt := 90) hx hb dX5_areSeveral_82 (by decide) (fun _ => ?_) (fun h => absurd h (by decide))
        refine lv_iconst (v := 1) hx hb dX5_areSeveral_90 (by decide) ?_
        refine lv_goto (tgt := 95) hx hb dX5_areSeveral_91 (by decide) ?_
        refine lv_istore_n (lv' := [(1, .int 1), (5, .int 3), (4, .int 0), (3, .int 3), (0, .ref o), (2, .int 4)]) hx hb dX5_areSeveral_95 rfl hl (by decide) rfl (fun ls hl => ?_)
        have hq : z5_areSeveral gp gv = 1 := hj_3
        exact jo_X5_areSeveral_2 hv hx hb hr hml hown hts hlk hP hK hq ls (lv_sub hl [4, 0, 5, 3] rfl)
      · skip
        refine lv_iconst (v := 1) hx hb dX5_areSeveral_68 (by decide) ?_
        refine lv_goto (tgt := 73) hx hb dX5_areSeveral_69 (by decide) ?_
        refine lv_istore (lv' := [(4, .int 1), (5, .int 2), (3, .int 3), (0, .ref o), (1, .int 1), (2, .int 4)]) hx hb dX5_areSeveral_73 hl (by decide) rfl (fun ls hl => ?_)
        refine lv_iinc (v := 3) (lv' := [(5, .int 3), (4, .int 1), (3, .int 3), (0, .ref o), (1, .int 1), (2, .int 4)]) hx hb dX5_areSeveral_75 hl (k := 1) rfl (by decide) (by decide) rfl (fun ls hl => ?_)
        refine lv_goto (tgt := 22) hx hb dX5_areSeveral_78 (by decide) ?_
        refine lv_iload hx hb dX5_areSeveral_22 (lv_at hl 0 rfl) ?_
        refine lv_iconst (v := 3) hx hb dX5_areSeveral_24 (by decide) ?_
        refine lv_icmp_ge (tgt := 81) hx hb dX5_areSeveral_25 (by decide) (fun _ => ?_) (fun h => absurd (by decide) h)
        refine lv_iload_n hx hb dX5_areSeveral_81 rfl (lv_at hl 4 rfl) ?_
        refine lv_if_ne (tgt := 90) hx hb dX5_areSeveral_82 (by decide) (fun _ => ?_) (fun h => absurd h (by decide))
        refine lv_iconst (v := 1) hx hb dX5_areSeveral_90 (by decide) ?_
        refine lv_goto (tgt := 95) hx hb dX5_areSeveral_91 (by decide) ?_
        refine lv_istore_n (lv' := [(1, .int 1), (5, .int 3), (4, .int 1), (3, .int 3), (0, .ref o), (2, .int 4)]) hx hb dX5_areSeveral_95 rfl hl (by decide) rfl (fun ls hl => ?_)
        have hq : z5_areSeveral gp gv = 1 := hj_3
        exact jo_X5_areSeveral_2 hv hx hb hr hml hown hts hlk hP hK hq ls (lv_sub hl [4, 0, 5, 3] rfl)
set_option maxHeartbeats 4000000 in
set_option maxRecDepth 100000 in
theorem jo_X5_areSeveral_4 {l : Launch} {D : va_G} {cI cJ : ClassId} {pG : Program} {eG : Env} {sG : State} {mG : MethodId} {below : List Frame} {meth : Method} {cG : Code} {o : Nat} {mP : Nat} {mL : Nat} {mC : Nat} {mN : Nat} {mF : Nat} {mR : Nat} {mD : Nat} {mV : Nat} {mX : Nat} {mA : Nat} {mK : Nat} {mT : Nat} {mU : Nat} {mH : Nat} {mI : Nat} {cm : Int32} {pm : Int32} {gp : Nat → Int32} {gv : Nat → Int32} (hv : ∀ n, n < 5 → ok_i (gv n)) (hx : pG.tables.exec = Jvm.exec) (hb : cG.code = cX5_areSeveral) (hr : meth.sig.returnType = some .boolean) (hml : cG.maxLocals = 7) (hown : sG.vm.findClass RX5 = some mG.cls) (hts : ∀ x ∈ wsX5_areSeveral, x.before ([.ref o] : List Value).toArray sG = true) (hlk : meth.locks = false) (hP : va_P D vwCl [kM o mP mL mC mN mF mR mD mV mX mA mK cm mT pm mU mH mI, kA mP cI 180 gp, kA mV cI 5 gv] sG.heap) (hK : gd_K D cI cJ sG) (hj_4 : z5_areSeveral gp gv = 1) (ls : Array Slot) (hl : lv_has ls 7 [(0, .ref o), (1, .int 1), (2, .int 4), (3, .int 1)]) : W pG l eG (headSpec wsX5_areSeveral ({ frames := 1, cells := 0, slots := 0, locals := 30 })).room sG mG ([.ref o] : List Value).toArray below meth cG sG.heap [] 0 0 (MQ below (vp_Si (fun r : Int32 => r = z5_areSeveral gp gv)) ([.ref o] : List Value).toArray sG 0 0 (fun _ => False)) (F0 mG 96 ls []) := by
  have k_1 := hts (.fieldLink RX5 7 "ConicRowsModel" "points" "[I") (by decide +kernel)
  have k_2 : ∀ w ∈ wsX50, w ∈ wsX5_areSeveral := by decide +kernel
  have k_3 := hts (.fieldLink RX5 32 "ConicRowsModel" "five" "[I") (by decide +kernel)
  refine lv_iinc (v := 2) (lv' := [(3, .int 2), (0, .ref o), (1, .int 1), (2, .int 4)]) hx hb dX5_areSeveral_96 hl (k := 3) rfl (by decide) (by decide) rfl (fun ls hl => ?_)
  refine lv_goto (tgt := 11) hx hb dX5_areSeveral_99 (by decide) ?_
  refine lv_iload_n hx hb dX5_areSeveral_11 rfl (lv_at hl 0 rfl) ?_
  refine lv_iload_n hx hb dX5_areSeveral_12 rfl (lv_at hl 3 rfl) ?_
  refine lv_icmp_ge (tgt := 102) hx hb dX5_areSeveral_13 (by decide) (fun h => absurd h (by decide)) (fun _ => ?_)
  refine lv_iconst (v := 1) hx hb dX5_areSeveral_16 (by decide) ?_
  refine lv_istore (lv' := [(4, .int 1), (3, .int 2), (0, .ref o), (1, .int 1), (2, .int 4)]) hx hb dX5_areSeveral_17 hl (by decide) rfl (fun ls hl => ?_)
  refine lv_iconst (v := 0) hx hb dX5_areSeveral_19 (by decide) ?_
  refine lv_istore (lv' := [(5, .int 0), (4, .int 1), (3, .int 2), (0, .ref o), (1, .int 1), (2, .int 4)]) hx hb dX5_areSeveral_20 hl (by decide) rfl (fun ls hl => ?_)
  refine lv_iload hx hb dX5_areSeveral_22 (lv_at hl 0 rfl) ?_
  refine lv_iconst (v := 3) hx hb dX5_areSeveral_24 (by decide) ?_
  refine lv_icmp_ge (tgt := 81) hx hb dX5_areSeveral_25 (by decide) (fun h => absurd h (by decide)) (fun _ => ?_)
  refine lv_iload hx hb dX5_areSeveral_28 (lv_at hl 1 rfl) ?_
  refine lv_if_eq (tgt := 72) hx hb dX5_areSeveral_30 (by decide) (fun h => absurd h (by decide)) (fun _ => ?_)
  refine lv_aload_n hx hb dX5_areSeveral_33 rfl (lv_at hl 3 rfl) ?_
  refine va_get (D := D) (ci := 5) (v := .ref mP) (C := RX5) (T := TX5) (N := 17) hx hb hts k_2 hown hK.1 hP 0 rfl rfl 0 (by decide) k_1 (fun _ h9 => h9) rfl dX5_areSeveral_34 ?_
  refine lv_iconst (v := 3) hx hb dX5_areSeveral_37 (by decide) ?_
  refine lv_aload_n hx hb dX5_areSeveral_38 rfl (lv_at hl 3 rfl) ?_
  refine va_get (D := D) (ci := 5) (v := .ref mV) (C := RX5) (T := TX5) (N := 17) hx hb hts k_2 hown hK.1 hP 0 rfl rfl 7 (by decide) k_3 (fun _ h9 => h9) rfl dX5_areSeveral_39 ?_
  refine lv_iload_n hx hb dX5_areSeveral_42 rfl (lv_at hl 5 rfl) ?_
  refine ld_i hx hb hK.1 hP 2 0 rfl rfl (ix_lit (by decide)) 4 (by decide) (v := gv 4) rfl dX5_areSeveral_43 ?_
  refine lv_imul hx hb dX5_areSeveral_44 ?_
  refine lv_iload hx hb dX5_areSeveral_45 (lv_at hl 0 rfl) ?_
  refine lv_iadd hx hb dX5_areSeveral_47 ?_
  refine ld_i hx hb hK.1 hP 1 0 rfl rfl (ix3l (hv 4 (by decide)) 0 (by decide)) (((3 * (gv 4)) + 0).toNatClampNeg) rfl (v := gp (((3 * (gv 4)) + 0).toNatClampNeg)) rfl dX5_areSeveral_48 ?_
  refine lv_aload_n hx hb dX5_areSeveral_49 rfl (lv_at hl 3 rfl) ?_
  refine va_get (D := D) (ci := 5) (v := .ref mP) (C := RX5) (T := TX5) (N := 17) hx hb hts k_2 hown hK.1 hP 0 rfl rfl 0 (by decide) k_1 (fun _ h9 => h9) rfl dX5_areSeveral_50 ?_
  refine lv_iconst (v := 3) hx hb dX5_areSeveral_53 (by decide) ?_
  refine lv_aload_n hx hb dX5_areSeveral_54 rfl (lv_at hl 3 rfl) ?_
  refine va_get (D := D) (ci := 5) (v := .ref mV) (C := RX5) (T := TX5) (N := 17) hx hb hts k_2 hown hK.1 hP 0 rfl rfl 7 (by decide) k_3 (fun _ h9 => h9) rfl dX5_areSeveral_55 ?_
  refine lv_iload_n hx hb dX5_areSeveral_58 rfl (lv_at hl 2 rfl) ?_
  refine ld_i hx hb hK.1 hP 2 0 rfl rfl (ix_lit (by decide)) 2 (by decide) (v := gv 2) rfl dX5_areSeveral_59 ?_
  refine lv_imul hx hb dX5_areSeveral_60 ?_
  refine lv_iload hx hb dX5_areSeveral_61 (lv_at hl 0 rfl) ?_
  refine lv_iadd hx hb dX5_areSeveral_63 ?_
  refine ld_i hx hb hK.1 hP 1 0 rfl rfl (ix3l (hv 2 (by decide)) 0 (by decide)) (((3 * (gv 2)) + 0).toNatClampNeg) rfl (v := gp (((3 * (gv 2)) + 0).toNatClampNeg)) rfl dX5_areSeveral_64 ?_
  refine lv_icmp_ne (tgt := 72) hx hb dX5_areSeveral_65 (by decide) (fun c_4 => ?_) (fun c_4 => ?_)
  · skip
    refine lv_iconst (v := 0) hx hb dX5_areSeveral_72 (by decide) ?_
    refine lv_istore (lv' := [(4, .int 0), (5, .int 0), (3, .int 2), (0, .ref o), (1, .int 1), (2, .int 4)]) hx hb dX5_areSeveral_73 hl (by decide) rfl (fun ls hl => ?_)
    refine lv_iinc (v := 1) (lv' := [(5, .int 1), (4, .int 0), (3, .int 2), (0, .ref o), (1, .int 1), (2, .int 4)]) hx hb dX5_areSeveral_75 hl (k := 1) rfl (by decide) (by decide) rfl (fun ls hl => ?_)
    refine lv_goto (tgt := 22) hx hb dX5_areSeveral_78 (by decide) ?_
    refine lv_iload hx hb dX5_areSeveral_22 (lv_at hl 0 rfl) ?_
    refine lv_iconst (v := 3) hx hb dX5_areSeveral_24 (by decide) ?_
    refine lv_icmp_ge (tgt := 81) hx hb dX5_areSeveral_25 (by decide) (fun h => absurd h (by decide)) (fun _ => ?_)
    refine lv_iload hx hb dX5_areSeveral_28 (lv_at hl 1 rfl) ?_
    refine lv_if_eq (tgt := 72) hx hb dX5_areSeveral_30 (by decide) (fun _ => ?_) (fun h => absurd (by decide) h)
    refine lv_iconst (v := 0) hx hb dX5_areSeveral_72 (by decide) ?_
    refine lv_istore (lv' := [(4, .int 0), (5, .int 1), (3, .int 2), (0, .ref o), (1, .int 1), (2, .int 4)]) hx hb dX5_areSeveral_73 hl (by decide) rfl (fun ls hl => ?_)
    refine lv_iinc (v := 2) (lv' := [(5, .int 2), (4, .int 0), (3, .int 2), (0, .ref o), (1, .int 1), (2, .int 4)]) hx hb dX5_areSeveral_75 hl (k := 1) rfl (by decide) (by decide) rfl (fun ls hl => ?_)
    refine lv_goto (tgt := 22) hx hb dX5_areSeveral_78 (by decide) ?_
    refine lv_iload hx hb dX5_areSeveral_22 (lv_at hl 0 rfl) ?_
    refine lv_iconst (v := 3) hx hb dX5_areSeveral_24 (by decide) ?_
    refine lv_icmp_ge (tgt := 81) hx hb dX5_areSeveral_25 (by decide) (fun h => absurd h (by decide)) (fun _ => ?_)
    refine lv_iload hx hb dX5_areSeveral_28 (lv_at hl 1 rfl) ?_
    refine lv_if_eq (tgt := 72) hx hb dX5_areSeveral_30 (by decide) (fun _ => ?_) (fun h => absurd (by decide) h)
    refine lv_iconst (v := 0) hx hb dX5_areSeveral_72 (by decide) ?_
    refine lv_istore (lv' := [(4, .int 0), (5, .int 2), (3, .int 2), (0, .ref o), (1, .int 1), (2, .int 4)]) hx hb dX5_areSeveral_73 hl (by decide) rfl (fun ls hl => ?_)
    refine lv_iinc (v := 3) (lv' := [(5, .int 3), (4, .int 0), (3, .int 2), (0, .ref o), (1, .int 1), (2, .int 4)]) hx hb dX5_areSeveral_75 hl (k := 1) rfl (by decide) (by decide) rfl (fun ls hl => ?_)
    refine lv_goto (tgt := 22) hx hb dX5_areSeveral_78 (by decide) ?_
    refine lv_iload hx hb dX5_areSeveral_22 (lv_at hl 0 rfl) ?_
    refine lv_iconst (v := 3) hx hb dX5_areSeveral_24 (by decide) ?_
    refine lv_icmp_ge (tgt := 81) hx hb dX5_areSeveral_25 (by decide) (fun _ => ?_) (fun h => absurd (by decide) h)
    refine lv_iload_n hx hb dX5_areSeveral_81 rfl (lv_at hl 4 rfl) ?_
    refine lv_if_ne (tgt := 90) hx hb dX5_areSeveral_82 (by decide) (fun _ => ?_) (fun h => absurd h (by decide))
    refine lv_iconst (v := 1) hx hb dX5_areSeveral_90 (by decide) ?_
    refine lv_goto (tgt := 95) hx hb dX5_areSeveral_91 (by decide) ?_
    refine lv_istore_n (lv' := [(1, .int 1), (5, .int 3), (4, .int 0), (3, .int 2), (0, .ref o), (2, .int 4)]) hx hb dX5_areSeveral_95 rfl hl (by decide) rfl (fun ls hl => ?_)
    have hq : z5_areSeveral gp gv = 1 := hj_4
    exact jo_X5_areSeveral_3 hv hx hb hr hml hown hts hlk hP hK hq ls (lv_sub hl [4, 0, 5, 3] rfl)
  · skip
    refine lv_iconst (v := 1) hx hb dX5_areSeveral_68 (by decide) ?_
    refine lv_goto (tgt := 73) hx hb dX5_areSeveral_69 (by decide) ?_
    refine lv_istore (lv' := [(4, .int 1), (5, .int 0), (3, .int 2), (0, .ref o), (1, .int 1), (2, .int 4)]) hx hb dX5_areSeveral_73 hl (by decide) rfl (fun ls hl => ?_)
    refine lv_iinc (v := 1) (lv' := [(5, .int 1), (4, .int 1), (3, .int 2), (0, .ref o), (1, .int 1), (2, .int 4)]) hx hb dX5_areSeveral_75 hl (k := 1) rfl (by decide) (by decide) rfl (fun ls hl => ?_)
    refine lv_goto (tgt := 22) hx hb dX5_areSeveral_78 (by decide) ?_
    refine lv_iload hx hb dX5_areSeveral_22 (lv_at hl 0 rfl) ?_
    refine lv_iconst (v := 3) hx hb dX5_areSeveral_24 (by decide) ?_
    refine lv_icmp_ge (tgt := 81) hx hb dX5_areSeveral_25 (by decide) (fun h => absurd h (by decide)) (fun _ => ?_)
    refine lv_iload hx hb dX5_areSeveral_28 (lv_at hl 1 rfl) ?_
    refine lv_if_eq (tgt := 72) hx hb dX5_areSeveral_30 (by decide) (fun h => absurd h (by decide)) (fun _ => ?_)
    refine lv_aload_n hx hb dX5_areSeveral_33 rfl (lv_at hl 3 rfl) ?_
    refine va_get (D := D) (ci := 5) (v := .ref mP) (C := RX5) (T := TX5) (N := 17) hx hb hts k_2 hown hK.1 hP 0 rfl rfl 0 (by decide) k_1 (fun _ h9 => h9) rfl dX5_areSeveral_34 ?_
    refine lv_iconst (v := 3) hx hb dX5_areSeveral_37 (by decide) ?_
    refine lv_aload_n hx hb dX5_areSeveral_38 rfl (lv_at hl 3 rfl) ?_
    refine va_get (D := D) (ci := 5) (v := .ref mV) (C := RX5) (T := TX5) (N := 17) hx hb hts k_2 hown hK.1 hP 0 rfl rfl 7 (by decide) k_3 (fun _ h9 => h9) rfl dX5_areSeveral_39 ?_
    refine lv_iload_n hx hb dX5_areSeveral_42 rfl (lv_at hl 5 rfl) ?_
    refine ld_i hx hb hK.1 hP 2 0 rfl rfl (ix_lit (by decide)) 4 (by decide) (v := gv 4) rfl dX5_areSeveral_43 ?_
    refine lv_imul hx hb dX5_areSeveral_44 ?_
    refine lv_iload hx hb dX5_areSeveral_45 (lv_at hl 0 rfl) ?_
    refine lv_iadd hx hb dX5_areSeveral_47 ?_
    refine ld_i hx hb hK.1 hP 1 0 rfl rfl (ix3l (hv 4 (by decide)) 1 (by decide)) (((3 * (gv 4)) + 1).toNatClampNeg) rfl (v := gp (((3 * (gv 4)) + 1).toNatClampNeg)) rfl dX5_areSeveral_48 ?_
    refine lv_aload_n hx hb dX5_areSeveral_49 rfl (lv_at hl 3 rfl) ?_
    refine va_get (D := D) (ci := 5) (v := .ref mP) (C := RX5) (T := TX5) (N := 17) hx hb hts k_2 hown hK.1 hP 0 rfl rfl 0 (by decide) k_1 (fun _ h9 => h9) rfl dX5_areSeveral_50 ?_
    refine lv_iconst (v := 3) hx hb dX5_areSeveral_53 (by decide) ?_
    refine lv_aload_n hx hb dX5_areSeveral_54 rfl (lv_at hl 3 rfl) ?_
    refine va_get (D := D) (ci := 5) (v := .ref mV) (C := RX5) (T := TX5) (N := 17) hx hb hts k_2 hown hK.1 hP 0 rfl rfl 7 (by decide) k_3 (fun _ h9 => h9) rfl dX5_areSeveral_55 ?_
    refine lv_iload_n hx hb dX5_areSeveral_58 rfl (lv_at hl 2 rfl) ?_
    refine ld_i hx hb hK.1 hP 2 0 rfl rfl (ix_lit (by decide)) 2 (by decide) (v := gv 2) rfl dX5_areSeveral_59 ?_
    refine lv_imul hx hb dX5_areSeveral_60 ?_
    refine lv_iload hx hb dX5_areSeveral_61 (lv_at hl 0 rfl) ?_
    refine lv_iadd hx hb dX5_areSeveral_63 ?_
    refine ld_i hx hb hK.1 hP 1 0 rfl rfl (ix3l (hv 2 (by decide)) 1 (by decide)) (((3 * (gv 2)) + 1).toNatClampNeg) rfl (v := gp (((3 * (gv 2)) + 1).toNatClampNeg)) rfl dX5_areSeveral_64 ?_
    refine lv_icmp_ne (tgt := 72) hx hb dX5_areSeveral_65 (by decide) (fun c_5 => ?_) (fun c_5 => ?_)
    · skip
      refine lv_iconst (v := 0) hx hb dX5_areSeveral_72 (by decide) ?_
      refine lv_istore (lv' := [(4, .int 0), (5, .int 1), (3, .int 2), (0, .ref o), (1, .int 1), (2, .int 4)]) hx hb dX5_areSeveral_73 hl (by decide) rfl (fun ls hl => ?_)
      refine lv_iinc (v := 2) (lv' := [(5, .int 2), (4, .int 0), (3, .int 2), (0, .ref o), (1, .int 1), (2, .int 4)]) hx hb dX5_areSeveral_75 hl (k := 1) rfl (by decide) (by decide) rfl (fun ls hl => ?_)
      refine lv_goto (tgt := 22) hx hb dX5_areSeveral_78 (by decide) ?_
      refine lv_iload hx hb dX5_areSeveral_22 (lv_at hl 0 rfl) ?_
      refine lv_iconst (v := 3) hx hb dX5_areSeveral_24 (by decide) ?_
      refine lv_icmp_ge (tgt := 81) hx hb dX5_areSeveral_25 (by decide) (fun h => absurd h (by decide)) (fun _ => ?_)
      refine lv_iload hx hb dX5_areSeveral_28 (lv_at hl 1 rfl) ?_
      refine lv_if_eq (tgt := 72) hx hb dX5_areSeveral_30 (by decide) (fun _ => ?_) (fun h => absurd (by decide) h)
      refine lv_iconst (v := 0) hx hb dX5_areSeveral_72 (by decide) ?_
      refine lv_istore (lv' := [(4, .int 0), (5, .int 2), (3, .int 2), (0, .ref o), (1, .int 1), (2, .int 4)]) hx hb dX5_areSeveral_73 hl (by decide) rfl (fun ls hl => ?_)
      refine lv_iinc (v := 3) (lv' := [(5, .int 3), (4, .int 0), (3, .int 2), (0, .ref o), (1, .int 1), (2, .int 4)]) hx hb dX5_areSeveral_75 hl (k := 1) rfl (by decide) (by decide) rfl (fun ls hl => ?_)
      refine lv_goto (tgt := 22) hx hb dX5_areSeveral_78 (by decide) ?_
      refine lv_iload hx hb dX5_areSeveral_22 (lv_at hl 0 rfl) ?_
      refine lv_iconst (v := 3) hx hb dX5_areSeveral_24 (by decide) ?_
      refine lv_icmp_ge (tgt := 81) hx hb dX5_areSeveral_25 (by decide) (fun _ => ?_) (fun h => absurd (by decide) h)
      refine lv_iload_n hx hb dX5_areSeveral_81 rfl (lv_at hl 4 rfl) ?_
      refine lv_if_ne (tgt := 90) hx hb dX5_areSeveral_82 (by decide) (fun _ => ?_) (fun h => absurd h (by decide))
      refine lv_iconst (v := 1) hx hb dX5_areSeveral_90 (by decide) ?_
      refine lv_goto (tgt := 95) hx hb dX5_areSeveral_91 (by decide) ?_
      refine lv_istore_n (lv' := [(1, .int 1), (5, .int 3), (4, .int 0), (3, .int 2), (0, .ref o), (2, .int 4)]) hx hb dX5_areSeveral_95 rfl hl (by decide) rfl (fun ls hl => ?_)
      have hq : z5_areSeveral gp gv = 1 := hj_4
      exact jo_X5_areSeveral_3 hv hx hb hr hml hown hts hlk hP hK hq ls (lv_sub hl [4, 0, 5, 3] rfl)
    · skip
      refine lv_iconst (v := 1) hx hb dX5_areSeveral_68 (by decide) ?_
      refine lv_goto (tgt := 73) hx hb dX5_areSeveral_69 (by decide) ?_
      refine lv_istore (lv' := [(4, .int 1), (5, .int 1), (3, .int 2), (0, .ref o), (1, .int 1), (2, .int 4)]) hx hb dX5_areSeveral_73 hl (by decide) rfl (fun ls hl => ?_)
      refine lv_iinc (v := 2) (lv' := [(5, .int 2), (4, .int 1), (3, .int 2), (0, .ref o), (1, .int 1), (2, .int 4)]) hx hb dX5_areSeveral_75 hl (k := 1) rfl (by decide) (by decide) rfl (fun ls hl => ?_)
      refine lv_goto (tgt := 22) hx hb dX5_areSeveral_78 (by decide) ?_
      refine lv_iload hx hb dX5_areSeveral_22 (lv_at hl 0 rfl) ?_
      refine lv_iconst (v := 3) hx hb dX5_areSeveral_24 (by decide) ?_
      refine lv_icmp_ge (tgt := 81) hx hb dX5_areSeveral_25 (by decide) (fun h => absurd h (by decide)) (fun _ => ?_)
      refine lv_iload hx hb dX5_areSeveral_28 (lv_at hl 1 rfl) ?_
      refine lv_if_eq (tgt := 72) hx hb dX5_areSeveral_30 (by decide) (fun h => absurd h (by decide)) (fun _ => ?_)
      refine lv_aload_n hx hb dX5_areSeveral_33 rfl (lv_at hl 3 rfl) ?_
      refine va_get (D := D) (ci := 5) (v := .ref mP) (C := RX5) (T := TX5) (N := 17) hx hb hts k_2 hown hK.1 hP 0 rfl rfl 0 (by decide) k_1 (fun _ h9 => h9) rfl dX5_areSeveral_34 ?_
      refine lv_iconst (v := 3) hx hb dX5_areSeveral_37 (by decide) ?_
      refine lv_aload_n hx hb dX5_areSeveral_38 rfl (lv_at hl 3 rfl) ?_
      refine va_get (D := D) (ci := 5) (v := .ref mV) (C := RX5) (T := TX5) (N := 17) hx hb hts k_2 hown hK.1 hP 0 rfl rfl 7 (by decide) k_3 (fun _ h9 => h9) rfl dX5_areSeveral_39 ?_
      refine lv_iload_n hx hb dX5_areSeveral_42 rfl (lv_at hl 5 rfl) ?_
      refine ld_i hx hb hK.1 hP 2 0 rfl rfl (ix_lit (by decide)) 4 (by decide) (v := gv 4) rfl dX5_areSeveral_43 ?_
      refine lv_imul hx hb dX5_areSeveral_44 ?_
      refine lv_iload hx hb dX5_areSeveral_45 (lv_at hl 0 rfl) ?_
      refine lv_iadd hx hb dX5_areSeveral_47 ?_
      refine ld_i hx hb hK.1 hP 1 0 rfl rfl (ix3l (hv 4 (by decide)) 2 (by decide)) (((3 * (gv 4)) + 2).toNatClampNeg) rfl (v := gp (((3 * (gv 4)) + 2).toNatClampNeg)) rfl dX5_areSeveral_48 ?_
      refine lv_aload_n hx hb dX5_areSeveral_49 rfl (lv_at hl 3 rfl) ?_
      refine va_get (D := D) (ci := 5) (v := .ref mP) (C := RX5) (T := TX5) (N := 17) hx hb hts k_2 hown hK.1 hP 0 rfl rfl 0 (by decide) k_1 (fun _ h9 => h9) rfl dX5_areSeveral_50 ?_
      refine lv_iconst (v := 3) hx hb dX5_areSeveral_53 (by decide) ?_
      refine lv_aload_n hx hb dX5_areSeveral_54 rfl (lv_at hl 3 rfl) ?_
      refine va_get (D := D) (ci := 5) (v := .ref mV) (C := RX5) (T := TX5) (N := 17) hx hb hts k_2 hown hK.1 hP 0 rfl rfl 7 (by decide) k_3 (fun _ h9 => h9) rfl dX5_areSeveral_55 ?_
      refine lv_iload_n hx hb dX5_areSeveral_58 rfl (lv_at hl 2 rfl) ?_
      refine ld_i hx hb hK.1 hP 2 0 rfl rfl (ix_lit (by decide)) 2 (by decide) (v := gv 2) rfl dX5_areSeveral_59 ?_
      refine lv_imul hx hb dX5_areSeveral_60 ?_
      refine lv_iload hx hb dX5_areSeveral_61 (lv_at hl 0 rfl) ?_
      refine lv_iadd hx hb dX5_areSeveral_63 ?_
      refine ld_i hx hb hK.1 hP 1 0 rfl rfl (ix3l (hv 2 (by decide)) 2 (by decide)) (((3 * (gv 2)) + 2).toNatClampNeg) rfl (v := gp (((3 * (gv 2)) + 2).toNatClampNeg)) rfl dX5_areSeveral_64 ?_
      refine lv_icmp_ne (tgt := 72) hx hb dX5_areSeveral_65 (by decide) (fun c_6 => ?_) (fun c_6 => ?_)
      · skip
        refine lv_iconst (v := 0) hx hb dX5_areSeveral_72 (by decide) ?_
        refine lv_istore (lv' := [(4, .int 0), (5, .int 2), (3, .int 2), (0, .ref o), (1, .int 1), (2, .int 4)]) hx hb dX5_areSeveral_73 hl (by decide) rfl (fun ls hl => ?_)
        refine lv_iinc (v := 3) (lv' := [(5, .int 3), (4, .int 0), (3, .int 2), (0, .ref o), (1, .int 1), (2, .int 4)]) hx hb dX5_areSeveral_75 hl (k := 1) rfl (by decide) (by decide) rfl (fun ls hl => ?_)
        refine lv_goto (tgt := 22) hx hb dX5_areSeveral_78 (by decide) ?_
        refine lv_iload hx hb dX5_areSeveral_22 (lv_at hl 0 rfl) ?_
        refine lv_iconst (v := 3) hx hb dX5_areSeveral_24 (by decide) ?_
        refine lv_icmp_ge (tgt := 81) hx hb dX5_areSeveral_25 (by decide) (fun _ => ?_) (fun h => absurd (by decide) h)
        refine lv_iload_n hx hb dX5_areSeveral_81 rfl (lv_at hl 4 rfl) ?_
        refine lv_if_ne (tgt := 90) hx hb dX5_areSeveral_82 (by decide) (fun _ => ?_) (fun h => absurd h (by decide))
        refine lv_iconst (v := 1) hx hb dX5_areSeveral_90 (by decide) ?_
        refine lv_goto (tgt := 95) hx hb dX5_areSeveral_91 (by decide) ?_
        refine lv_istore_n (lv' := [(1, .int 1), (5, .int 3), (4, .int 0), (3, .int 2), (0, .ref o), (2, .int 4)]) hx hb dX5_areSeveral_95 rfl hl (by decide) rfl (fun ls hl => ?_)
        have hq : z5_areSeveral gp gv = 1 := hj_4
        exact jo_X5_areSeveral_3 hv hx hb hr hml hown hts hlk hP hK hq ls (lv_sub hl [4, 0, 5, 3] rfl)
      · skip
        refine lv_iconst (v := 1) hx hb dX5_areSeveral_68 (by decide) ?_
        refine lv_goto (tgt := 73) hx hb dX5_areSeveral_69 (by decide) ?_
        refine lv_istore (lv' := [(4, .int 1), (5, .int 2), (3, .int 2), (0, .ref o), (1, .int 1), (2, .int 4)]) hx hb dX5_areSeveral_73 hl (by decide) rfl (fun ls hl => ?_)
        refine lv_iinc (v := 3) (lv' := [(5, .int 3), (4, .int 1), (3, .int 2), (0, .ref o), (1, .int 1), (2, .int 4)]) hx hb dX5_areSeveral_75 hl (k := 1) rfl (by decide) (by decide) rfl (fun ls hl => ?_)
        refine lv_goto (tgt := 22) hx hb dX5_areSeveral_78 (by decide) ?_
        refine lv_iload hx hb dX5_areSeveral_22 (lv_at hl 0 rfl) ?_
        refine lv_iconst (v := 3) hx hb dX5_areSeveral_24 (by decide) ?_
        refine lv_icmp_ge (tgt := 81) hx hb dX5_areSeveral_25 (by decide) (fun _ => ?_) (fun h => absurd (by decide) h)
        refine lv_iload_n hx hb dX5_areSeveral_81 rfl (lv_at hl 4 rfl) ?_
        refine lv_if_ne (tgt := 90) hx hb dX5_areSeveral_82 (by decide) (fun _ => ?_) (fun h => absurd h (by decide))
        refine lv_iconst (v := 1) hx hb dX5_areSeveral_90 (by decide) ?_
        refine lv_goto (tgt := 95) hx hb dX5_areSeveral_91 (by decide) ?_
        refine lv_istore_n (lv' := [(1, .int 1), (5, .int 3), (4, .int 1), (3, .int 2), (0, .ref o), (2, .int 4)]) hx hb dX5_areSeveral_95 rfl hl (by decide) rfl (fun ls hl => ?_)
        have hq : z5_areSeveral gp gv = 1 := hj_4
        exact jo_X5_areSeveral_3 hv hx hb hr hml hown hts hlk hP hK hq ls (lv_sub hl [4, 0, 5, 3] rfl)
set_option maxHeartbeats 4000000 in
set_option maxRecDepth 100000 in
theorem jo_X5_areSeveral_5 {l : Launch} {D : va_G} {cI cJ : ClassId} {pG : Program} {eG : Env} {sG : State} {mG : MethodId} {below : List Frame} {meth : Method} {cG : Code} {o : Nat} {mP : Nat} {mL : Nat} {mC : Nat} {mN : Nat} {mF : Nat} {mR : Nat} {mD : Nat} {mV : Nat} {mX : Nat} {mA : Nat} {mK : Nat} {mT : Nat} {mU : Nat} {mH : Nat} {mI : Nat} {cm : Int32} {pm : Int32} {gp : Nat → Int32} {gv : Nat → Int32} (hv : ∀ n, n < 5 → ok_i (gv n)) (hx : pG.tables.exec = Jvm.exec) (hb : cG.code = cX5_areSeveral) (hr : meth.sig.returnType = some .boolean) (hml : cG.maxLocals = 7) (hown : sG.vm.findClass RX5 = some mG.cls) (hts : ∀ x ∈ wsX5_areSeveral, x.before ([.ref o] : List Value).toArray sG = true) (hlk : meth.locks = false) (hP : va_P D vwCl [kM o mP mL mC mN mF mR mD mV mX mA mK cm mT pm mU mH mI, kA mP cI 180 gp, kA mV cI 5 gv] sG.heap) (hK : gd_K D cI cJ sG) (hj_5 : z5_areSeveral gp gv = 1) (ls : Array Slot) (hl : lv_has ls 7 [(0, .ref o), (1, .int 1), (2, .int 4), (3, .int 0)]) : W pG l eG (headSpec wsX5_areSeveral ({ frames := 1, cells := 0, slots := 0, locals := 30 })).room sG mG ([.ref o] : List Value).toArray below meth cG sG.heap [] 0 0 (MQ below (vp_Si (fun r : Int32 => r = z5_areSeveral gp gv)) ([.ref o] : List Value).toArray sG 0 0 (fun _ => False)) (F0 mG 96 ls []) := by
  have k_1 := hts (.fieldLink RX5 7 "ConicRowsModel" "points" "[I") (by decide +kernel)
  have k_2 : ∀ w ∈ wsX50, w ∈ wsX5_areSeveral := by decide +kernel
  have k_3 := hts (.fieldLink RX5 32 "ConicRowsModel" "five" "[I") (by decide +kernel)
  refine lv_iinc (v := 1) (lv' := [(3, .int 1), (0, .ref o), (1, .int 1), (2, .int 4)]) hx hb dX5_areSeveral_96 hl (k := 3) rfl (by decide) (by decide) rfl (fun ls hl => ?_)
  refine lv_goto (tgt := 11) hx hb dX5_areSeveral_99 (by decide) ?_
  refine lv_iload_n hx hb dX5_areSeveral_11 rfl (lv_at hl 0 rfl) ?_
  refine lv_iload_n hx hb dX5_areSeveral_12 rfl (lv_at hl 3 rfl) ?_
  refine lv_icmp_ge (tgt := 102) hx hb dX5_areSeveral_13 (by decide) (fun h => absurd h (by decide)) (fun _ => ?_)
  refine lv_iconst (v := 1) hx hb dX5_areSeveral_16 (by decide) ?_
  refine lv_istore (lv' := [(4, .int 1), (3, .int 1), (0, .ref o), (1, .int 1), (2, .int 4)]) hx hb dX5_areSeveral_17 hl (by decide) rfl (fun ls hl => ?_)
  refine lv_iconst (v := 0) hx hb dX5_areSeveral_19 (by decide) ?_
  refine lv_istore (lv' := [(5, .int 0), (4, .int 1), (3, .int 1), (0, .ref o), (1, .int 1), (2, .int 4)]) hx hb dX5_areSeveral_20 hl (by decide) rfl (fun ls hl => ?_)
  refine lv_iload hx hb dX5_areSeveral_22 (lv_at hl 0 rfl) ?_
  refine lv_iconst (v := 3) hx hb dX5_areSeveral_24 (by decide) ?_
  refine lv_icmp_ge (tgt := 81) hx hb dX5_areSeveral_25 (by decide) (fun h => absurd h (by decide)) (fun _ => ?_)
  refine lv_iload hx hb dX5_areSeveral_28 (lv_at hl 1 rfl) ?_
  refine lv_if_eq (tgt := 72) hx hb dX5_areSeveral_30 (by decide) (fun h => absurd h (by decide)) (fun _ => ?_)
  refine lv_aload_n hx hb dX5_areSeveral_33 rfl (lv_at hl 3 rfl) ?_
  refine va_get (D := D) (ci := 5) (v := .ref mP) (C := RX5) (T := TX5) (N := 17) hx hb hts k_2 hown hK.1 hP 0 rfl rfl 0 (by decide) k_1 (fun _ h9 => h9) rfl dX5_areSeveral_34 ?_
  refine lv_iconst (v := 3) hx hb dX5_areSeveral_37 (by decide) ?_
  refine lv_aload_n hx hb dX5_areSeveral_38 rfl (lv_at hl 3 rfl) ?_
  refine va_get (D := D) (ci := 5) (v := .ref mV) (C := RX5) (T := TX5) (N := 17) hx hb hts k_2 hown hK.1 hP 0 rfl rfl 7 (by decide) k_3 (fun _ h9 => h9) rfl dX5_areSeveral_39 ?_
  refine lv_iload_n hx hb dX5_areSeveral_42 rfl (lv_at hl 5 rfl) ?_
  refine ld_i hx hb hK.1 hP 2 0 rfl rfl (ix_lit (by decide)) 4 (by decide) (v := gv 4) rfl dX5_areSeveral_43 ?_
  refine lv_imul hx hb dX5_areSeveral_44 ?_
  refine lv_iload hx hb dX5_areSeveral_45 (lv_at hl 0 rfl) ?_
  refine lv_iadd hx hb dX5_areSeveral_47 ?_
  refine ld_i hx hb hK.1 hP 1 0 rfl rfl (ix3l (hv 4 (by decide)) 0 (by decide)) (((3 * (gv 4)) + 0).toNatClampNeg) rfl (v := gp (((3 * (gv 4)) + 0).toNatClampNeg)) rfl dX5_areSeveral_48 ?_
  refine lv_aload_n hx hb dX5_areSeveral_49 rfl (lv_at hl 3 rfl) ?_
  refine va_get (D := D) (ci := 5) (v := .ref mP) (C := RX5) (T := TX5) (N := 17) hx hb hts k_2 hown hK.1 hP 0 rfl rfl 0 (by decide) k_1 (fun _ h9 => h9) rfl dX5_areSeveral_50 ?_
  refine lv_iconst (v := 3) hx hb dX5_areSeveral_53 (by decide) ?_
  refine lv_aload_n hx hb dX5_areSeveral_54 rfl (lv_at hl 3 rfl) ?_
  refine va_get (D := D) (ci := 5) (v := .ref mV) (C := RX5) (T := TX5) (N := 17) hx hb hts k_2 hown hK.1 hP 0 rfl rfl 7 (by decide) k_3 (fun _ h9 => h9) rfl dX5_areSeveral_55 ?_
  refine lv_iload_n hx hb dX5_areSeveral_58 rfl (lv_at hl 2 rfl) ?_
  refine ld_i hx hb hK.1 hP 2 0 rfl rfl (ix_lit (by decide)) 1 (by decide) (v := gv 1) rfl dX5_areSeveral_59 ?_
  refine lv_imul hx hb dX5_areSeveral_60 ?_
  refine lv_iload hx hb dX5_areSeveral_61 (lv_at hl 0 rfl) ?_
  refine lv_iadd hx hb dX5_areSeveral_63 ?_
  refine ld_i hx hb hK.1 hP 1 0 rfl rfl (ix3l (hv 1 (by decide)) 0 (by decide)) (((3 * (gv 1)) + 0).toNatClampNeg) rfl (v := gp (((3 * (gv 1)) + 0).toNatClampNeg)) rfl dX5_areSeveral_64 ?_
  refine lv_icmp_ne (tgt := 72) hx hb dX5_areSeveral_65 (by decide) (fun c_7 => ?_) (fun c_7 => ?_)
  · skip
    refine lv_iconst (v := 0) hx hb dX5_areSeveral_72 (by decide) ?_
    refine lv_istore (lv' := [(4, .int 0), (5, .int 0), (3, .int 1), (0, .ref o), (1, .int 1), (2, .int 4)]) hx hb dX5_areSeveral_73 hl (by decide) rfl (fun ls hl => ?_)
    refine lv_iinc (v := 1) (lv' := [(5, .int 1), (4, .int 0), (3, .int 1), (0, .ref o), (1, .int 1), (2, .int 4)]) hx hb dX5_areSeveral_75 hl (k := 1) rfl (by decide) (by decide) rfl (fun ls hl => ?_)
    refine lv_goto (tgt := 22) hx hb dX5_areSeveral_78 (by decide) ?_
    refine lv_iload hx hb dX5_areSeveral_22 (lv_at hl 0 rfl) ?_
    refine lv_iconst (v := 3) hx hb dX5_areSeveral_24 (by decide) ?_
    refine lv_icmp_ge (tgt := 81) hx hb dX5_areSeveral_25 (by decide) (fun h => absurd h (by decide)) (fun _ => ?_)
    refine lv_iload hx hb dX5_areSeveral_28 (lv_at hl 1 rfl) ?_
    refine lv_if_eq (tgt := 72) hx hb dX5_areSeveral_30 (by decide) (fun _ => ?_) (fun h => absurd (by decide) h)
    refine lv_iconst (v := 0) hx hb dX5_areSeveral_72 (by decide) ?_
    refine lv_istore (lv' := [(4, .int 0), (5, .int 1), (3, .int 1), (0, .ref o), (1, .int 1), (2, .int 4)]) hx hb dX5_areSeveral_73 hl (by decide) rfl (fun ls hl => ?_)
    refine lv_iinc (v := 2) (lv' := [(5, .int 2), (4, .int 0), (3, .int 1), (0, .ref o), (1, .int 1), (2, .int 4)]) hx hb dX5_areSeveral_75 hl (k := 1) rfl (by decide) (by decide) rfl (fun ls hl => ?_)
    refine lv_goto (tgt := 22) hx hb dX5_areSeveral_78 (by decide) ?_
    refine lv_iload hx hb dX5_areSeveral_22 (lv_at hl 0 rfl) ?_
    refine lv_iconst (v := 3) hx hb dX5_areSeveral_24 (by decide) ?_
    refine lv_icmp_ge (tgt := 81) hx hb dX5_areSeveral_25 (by decide) (fun h => absurd h (by decide)) (fun _ => ?_)
    refine lv_iload hx hb dX5_areSeveral_28 (lv_at hl 1 rfl) ?_
    refine lv_if_eq (tgt := 72) hx hb dX5_areSeveral_30 (by decide) (fun _ => ?_) (fun h => absurd (by decide) h)
    refine lv_iconst (v := 0) hx hb dX5_areSeveral_72 (by decide) ?_
    refine lv_istore (lv' := [(4, .int 0), (5, .int 2), (3, .int 1), (0, .ref o), (1, .int 1), (2, .int 4)]) hx hb dX5_areSeveral_73 hl (by decide) rfl (fun ls hl => ?_)
    refine lv_iinc (v := 3) (lv' := [(5, .int 3), (4, .int 0), (3, .int 1), (0, .ref o), (1, .int 1), (2, .int 4)]) hx hb dX5_areSeveral_75 hl (k := 1) rfl (by decide) (by decide) rfl (fun ls hl => ?_)
    refine lv_goto (tgt := 22) hx hb dX5_areSeveral_78 (by decide) ?_
    refine lv_iload hx hb dX5_areSeveral_22 (lv_at hl 0 rfl) ?_
    refine lv_iconst (v := 3) hx hb dX5_areSeveral_24 (by decide) ?_
    refine lv_icmp_ge (tgt := 81) hx hb dX5_areSeveral_25 (by decide) (fun _ => ?_) (fun h => absurd (by decide) h)
    refine lv_iload_n hx hb dX5_areSeveral_81 rfl (lv_at hl 4 rfl) ?_
    refine lv_if_ne (tgt := 90) hx hb dX5_areSeveral_82 (by decide) (fun _ => ?_) (fun h => absurd h (by decide))
    refine lv_iconst (v := 1) hx hb dX5_areSeveral_90 (by decide) ?_
    refine lv_goto (tgt := 95) hx hb dX5_areSeveral_91 (by decide) ?_
    refine lv_istore_n (lv' := [(1, .int 1), (5, .int 3), (4, .int 0), (3, .int 1), (0, .ref o), (2, .int 4)]) hx hb dX5_areSeveral_95 rfl hl (by decide) rfl (fun ls hl => ?_)
    have hq : z5_areSeveral gp gv = 1 := hj_5
    exact jo_X5_areSeveral_4 hv hx hb hr hml hown hts hlk hP hK hq ls (lv_sub hl [4, 0, 5, 3] rfl)
  · skip
    refine lv_iconst (v := 1) hx hb dX5_areSeveral_68 (by decide) ?_
    refine lv_goto (tgt := 73) hx hb dX5_areSeveral_69 (by decide) ?_
    refine lv_istore (lv' := [(4, .int 1), (5, .int 0), (3, .int 1), (0, .ref o), (1, .int 1), (2, .int 4)]) hx hb dX5_areSeveral_73 hl (by decide) rfl (fun ls hl => ?_)
    refine lv_iinc (v := 1) (lv' := [(5, .int 1), (4, .int 1), (3, .int 1), (0, .ref o), (1, .int 1), (2, .int 4)]) hx hb dX5_areSeveral_75 hl (k := 1) rfl (by decide) (by decide) rfl (fun ls hl => ?_)
    refine lv_goto (tgt := 22) hx hb dX5_areSeveral_78 (by decide) ?_
    refine lv_iload hx hb dX5_areSeveral_22 (lv_at hl 0 rfl) ?_
    refine lv_iconst (v := 3) hx hb dX5_areSeveral_24 (by decide) ?_
    refine lv_icmp_ge (tgt := 81) hx hb dX5_areSeveral_25 (by decide) (fun h => absurd h (by decide)) (fun _ => ?_)
    refine lv_iload hx hb dX5_areSeveral_28 (lv_at hl 1 rfl) ?_
    refine lv_if_eq (tgt := 72) hx hb dX5_areSeveral_30 (by decide) (fun h => absurd h (by decide)) (fun _ => ?_)
    refine lv_aload_n hx hb dX5_areSeveral_33 rfl (lv_at hl 3 rfl) ?_
    refine va_get (D := D) (ci := 5) (v := .ref mP) (C := RX5) (T := TX5) (N := 17) hx hb hts k_2 hown hK.1 hP 0 rfl rfl 0 (by decide) k_1 (fun _ h9 => h9) rfl dX5_areSeveral_34 ?_
    refine lv_iconst (v := 3) hx hb dX5_areSeveral_37 (by decide) ?_
    refine lv_aload_n hx hb dX5_areSeveral_38 rfl (lv_at hl 3 rfl) ?_
    refine va_get (D := D) (ci := 5) (v := .ref mV) (C := RX5) (T := TX5) (N := 17) hx hb hts k_2 hown hK.1 hP 0 rfl rfl 7 (by decide) k_3 (fun _ h9 => h9) rfl dX5_areSeveral_39 ?_
    refine lv_iload_n hx hb dX5_areSeveral_42 rfl (lv_at hl 5 rfl) ?_
    refine ld_i hx hb hK.1 hP 2 0 rfl rfl (ix_lit (by decide)) 4 (by decide) (v := gv 4) rfl dX5_areSeveral_43 ?_
    refine lv_imul hx hb dX5_areSeveral_44 ?_
    refine lv_iload hx hb dX5_areSeveral_45 (lv_at hl 0 rfl) ?_
    refine lv_iadd hx hb dX5_areSeveral_47 ?_
    refine ld_i hx hb hK.1 hP 1 0 rfl rfl (ix3l (hv 4 (by decide)) 1 (by decide)) (((3 * (gv 4)) + 1).toNatClampNeg) rfl (v := gp (((3 * (gv 4)) + 1).toNatClampNeg)) rfl dX5_areSeveral_48 ?_
    refine lv_aload_n hx hb dX5_areSeveral_49 rfl (lv_at hl 3 rfl) ?_
    refine va_get (D := D) (ci := 5) (v := .ref mP) (C := RX5) (T := TX5) (N := 17) hx hb hts k_2 hown hK.1 hP 0 rfl rfl 0 (by decide) k_1 (fun _ h9 => h9) rfl dX5_areSeveral_50 ?_
    refine lv_iconst (v := 3) hx hb dX5_areSeveral_53 (by decide) ?_
    refine lv_aload_n hx hb dX5_areSeveral_54 rfl (lv_at hl 3 rfl) ?_
    refine va_get (D := D) (ci := 5) (v := .ref mV) (C := RX5) (T := TX5) (N := 17) hx hb hts k_2 hown hK.1 hP 0 rfl rfl 7 (by decide) k_3 (fun _ h9 => h9) rfl dX5_areSeveral_55 ?_
    refine lv_iload_n hx hb dX5_areSeveral_58 rfl (lv_at hl 2 rfl) ?_
    refine ld_i hx hb hK.1 hP 2 0 rfl rfl (ix_lit (by decide)) 1 (by decide) (v := gv 1) rfl dX5_areSeveral_59 ?_
    refine lv_imul hx hb dX5_areSeveral_60 ?_
    refine lv_iload hx hb dX5_areSeveral_61 (lv_at hl 0 rfl) ?_
    refine lv_iadd hx hb dX5_areSeveral_63 ?_
    refine ld_i hx hb hK.1 hP 1 0 rfl rfl (ix3l (hv 1 (by decide)) 1 (by decide)) (((3 * (gv 1)) + 1).toNatClampNeg) rfl (v := gp (((3 * (gv 1)) + 1).toNatClampNeg)) rfl dX5_areSeveral_64 ?_
    refine lv_icmp_ne (tgt := 72) hx hb dX5_areSeveral_65 (by decide) (fun c_8 => ?_) (fun c_8 => ?_)
    · skip
      refine lv_iconst (v := 0) hx hb dX5_areSeveral_72 (by decide) ?_
      refine lv_istore (lv' := [(4, .int 0), (5, .int 1), (3, .int 1), (0, .ref o), (1, .int 1), (2, .int 4)]) hx hb dX5_areSeveral_73 hl (by decide) rfl (fun ls hl => ?_)
      refine lv_iinc (v := 2) (lv' := [(5, .int 2), (4, .int 0), (3, .int 1), (0, .ref o), (1, .int 1), (2, .int 4)]) hx hb dX5_areSeveral_75 hl (k := 1) rfl (by decide) (by decide) rfl (fun ls hl => ?_)
      refine lv_goto (tgt := 22) hx hb dX5_areSeveral_78 (by decide) ?_
      refine lv_iload hx hb dX5_areSeveral_22 (lv_at hl 0 rfl) ?_
      refine lv_iconst (v := 3) hx hb dX5_areSeveral_24 (by decide) ?_
      refine lv_icmp_ge (tgt := 81) hx hb dX5_areSeveral_25 (by decide) (fun h => absurd h (by decide)) (fun _ => ?_)
      refine lv_iload hx hb dX5_areSeveral_28 (lv_at hl 1 rfl) ?_
      refine lv_if_eq (tgt := 72) hx hb dX5_areSeveral_30 (by decide) (fun _ => ?_) (fun h => absurd (by decide) h)
      refine lv_iconst (v := 0) hx hb dX5_areSeveral_72 (by decide) ?_
      refine lv_istore (lv' := [(4, .int 0), (5, .int 2), (3, .int 1), (0, .ref o), (1, .int 1), (2, .int 4)]) hx hb dX5_areSeveral_73 hl (by decide) rfl (fun ls hl => ?_)
      refine lv_iinc (v := 3) (lv' := [(5, .int 3), (4, .int 0), (3, .int 1), (0, .ref o), (1, .int 1), (2, .int 4)]) hx hb dX5_areSeveral_75 hl (k := 1) rfl (by decide) (by decide) rfl (fun ls hl => ?_)
      refine lv_goto (tgt := 22) hx hb dX5_areSeveral_78 (by decide) ?_
      refine lv_iload hx hb dX5_areSeveral_22 (lv_at hl 0 rfl) ?_
      refine lv_iconst (v := 3) hx hb dX5_areSeveral_24 (by decide) ?_
      refine lv_icmp_ge (tgt := 81) hx hb dX5_areSeveral_25 (by decide) (fun _ => ?_) (fun h => absurd (by decide) h)
      refine lv_iload_n hx hb dX5_areSeveral_81 rfl (lv_at hl 4 rfl) ?_
      refine lv_if_ne (tgt := 90) hx hb dX5_areSeveral_82 (by decide) (fun _ => ?_) (fun h => absurd h (by decide))
      refine lv_iconst (v := 1) hx hb dX5_areSeveral_90 (by decide) ?_
      refine lv_goto (tgt := 95) hx hb dX5_areSeveral_91 (by decide) ?_
      refine lv_istore_n (lv' := [(1, .int 1), (5, .int 3), (4, .int 0), (3, .int 1), (0, .ref o), (2, .int 4)]) hx hb dX5_areSeveral_95 rfl hl (by decide) rfl (fun ls hl => ?_)
      have hq : z5_areSeveral gp gv = 1 := hj_5
      exact jo_X5_areSeveral_4 hv hx hb hr hml hown hts hlk hP hK hq ls (lv_sub hl [4, 0, 5, 3] rfl)
    · skip
      refine lv_iconst (v := 1) hx hb dX5_areSeveral_68 (by decide) ?_
      refine lv_goto (tgt := 73) hx hb dX5_areSeveral_69 (by decide) ?_
      refine lv_istore (lv' := [(4, .int 1), (5, .int 1), (3, .int 1), (0, .ref o), (1, .int 1), (2, .int 4)]) hx hb dX5_areSeveral_73 hl (by decide) rfl (fun ls hl => ?_)
      refine lv_iinc (v := 2) (lv' := [(5, .int 2), (4, .int 1), (3, .int 1), (0, .ref o), (1, .int 1), (2, .int 4)]) hx hb dX5_areSeveral_75 hl (k := 1) rfl (by decide) (by decide) rfl (fun ls hl => ?_)
      refine lv_goto (tgt := 22) hx hb dX5_areSeveral_78 (by decide) ?_
      refine lv_iload hx hb dX5_areSeveral_22 (lv_at hl 0 rfl) ?_
      refine lv_iconst (v := 3) hx hb dX5_areSeveral_24 (by decide) ?_
      refine lv_icmp_ge (tgt := 81) hx hb dX5_areSeveral_25 (by decide) (fun h => absurd h (by decide)) (fun _ => ?_)
      refine lv_iload hx hb dX5_areSeveral_28 (lv_at hl 1 rfl) ?_
      refine lv_if_eq (tgt := 72) hx hb dX5_areSeveral_30 (by decide) (fun h => absurd h (by decide)) (fun _ => ?_)
      refine lv_aload_n hx hb dX5_areSeveral_33 rfl (lv_at hl 3 rfl) ?_
      refine va_get (D := D) (ci := 5) (v := .ref mP) (C := RX5) (T := TX5) (N := 17) hx hb hts k_2 hown hK.1 hP 0 rfl rfl 0 (by decide) k_1 (fun _ h9 => h9) rfl dX5_areSeveral_34 ?_
      refine lv_iconst (v := 3) hx hb dX5_areSeveral_37 (by decide) ?_
      refine lv_aload_n hx hb dX5_areSeveral_38 rfl (lv_at hl 3 rfl) ?_
      refine va_get (D := D) (ci := 5) (v := .ref mV) (C := RX5) (T := TX5) (N := 17) hx hb hts k_2 hown hK.1 hP 0 rfl rfl 7 (by decide) k_3 (fun _ h9 => h9) rfl dX5_areSeveral_39 ?_
      refine lv_iload_n hx hb dX5_areSeveral_42 rfl (lv_at hl 5 rfl) ?_
      refine ld_i hx hb hK.1 hP 2 0 rfl rfl (ix_lit (by decide)) 4 (by decide) (v := gv 4) rfl dX5_areSeveral_43 ?_
      refine lv_imul hx hb dX5_areSeveral_44 ?_
      refine lv_iload hx hb dX5_areSeveral_45 (lv_at hl 0 rfl) ?_
      refine lv_iadd hx hb dX5_areSeveral_47 ?_
      refine ld_i hx hb hK.1 hP 1 0 rfl rfl (ix3l (hv 4 (by decide)) 2 (by decide)) (((3 * (gv 4)) + 2).toNatClampNeg) rfl (v := gp (((3 * (gv 4)) + 2).toNatClampNeg)) rfl dX5_areSeveral_48 ?_
      refine lv_aload_n hx hb dX5_areSeveral_49 rfl (lv_at hl 3 rfl) ?_
      refine va_get (D := D) (ci := 5) (v := .ref mP) (C := RX5) (T := TX5) (N := 17) hx hb hts k_2 hown hK.1 hP 0 rfl rfl 0 (by decide) k_1 (fun _ h9 => h9) rfl dX5_areSeveral_50 ?_
      refine lv_iconst (v := 3) hx hb dX5_areSeveral_53 (by decide) ?_
      refine lv_aload_n hx hb dX5_areSeveral_54 rfl (lv_at hl 3 rfl) ?_
      refine va_get (D := D) (ci := 5) (v := .ref mV) (C := RX5) (T := TX5) (N := 17) hx hb hts k_2 hown hK.1 hP 0 rfl rfl 7 (by decide) k_3 (fun _ h9 => h9) rfl dX5_areSeveral_55 ?_
      refine lv_iload_n hx hb dX5_areSeveral_58 rfl (lv_at hl 2 rfl) ?_
      refine ld_i hx hb hK.1 hP 2 0 rfl rfl (ix_lit (by decide)) 1 (by decide) (v := gv 1) rfl dX5_areSeveral_59 ?_
      refine lv_imul hx hb dX5_areSeveral_60 ?_
      refine lv_iload hx hb dX5_areSeveral_61 (lv_at hl 0 rfl) ?_
      refine lv_iadd hx hb dX5_areSeveral_63 ?_
      refine ld_i hx hb hK.1 hP 1 0 rfl rfl (ix3l (hv 1 (by decide)) 2 (by decide)) (((3 * (gv 1)) + 2).toNatClampNeg) rfl (v := gp (((3 * (gv 1)) + 2).toNatClampNeg)) rfl dX5_areSeveral_64 ?_
      refine lv_icmp_ne (tgt := 72) hx hb dX5_areSeveral_65 (by decide) (fun c_9 => ?_) (fun c_9 => ?_)
      · skip
        refine lv_iconst (v := 0) hx hb dX5_areSeveral_72 (by decide) ?_
        refine lv_istore (lv' := [(4, .int 0), (5, .int 2), (3, .int 1), (0, .ref o), (1, .int 1), (2, .int 4)]) hx hb dX5_areSeveral_73 hl (by decide) rfl (fun ls hl => ?_)
        refine lv_iinc (v := 3) (lv' := [(5, .int 3), (4, .int 0), (3, .int 1), (0, .ref o), (1, .int 1), (2, .int 4)]) hx hb dX5_areSeveral_75 hl (k := 1) rfl (by decide) (by decide) rfl (fun ls hl => ?_)
        refine lv_goto (tgt := 22) hx hb dX5_areSeveral_78 (by decide) ?_
        refine lv_iload hx hb dX5_areSeveral_22 (lv_at hl 0 rfl) ?_
        refine lv_iconst (v := 3) hx hb dX5_areSeveral_24 (by decide) ?_
        refine lv_icmp_ge (tgt := 81) hx hb dX5_areSeveral_25 (by decide) (fun _ => ?_) (fun h => absurd (by decide) h)
        refine lv_iload_n hx hb dX5_areSeveral_81 rfl (lv_at hl 4 rfl) ?_
        refine lv_if_ne (tgt := 90) hx hb dX5_areSeveral_82 (by decide) (fun _ => ?_) (fun h => absurd h (by decide))
        refine lv_iconst (v := 1) hx hb dX5_areSeveral_90 (by decide) ?_
        refine lv_goto (tgt := 95) hx hb dX5_areSeveral_91 (by decide) ?_
        refine lv_istore_n (lv' := [(1, .int 1), (5, .int 3), (4, .int 0), (3, .int 1), (0, .ref o), (2, .int 4)]) hx hb dX5_areSeveral_95 rfl hl (by decide) rfl (fun ls hl => ?_)
        have hq : z5_areSeveral gp gv = 1 := hj_5
        exact jo_X5_areSeveral_4 hv hx hb hr hml hown hts hlk hP hK hq ls (lv_sub hl [4, 0, 5, 3] rfl)
      · skip
        refine lv_iconst (v := 1) hx hb dX5_areSeveral_68 (by decide) ?_
        refine lv_goto (tgt := 73) hx hb dX5_areSeveral_69 (by decide) ?_
        refine lv_istore (lv' := [(4, .int 1), (5, .int 2), (3, .int 1), (0, .ref o), (1, .int 1), (2, .int 4)]) hx hb dX5_areSeveral_73 hl (by decide) rfl (fun ls hl => ?_)
        refine lv_iinc (v := 3) (lv' := [(5, .int 3), (4, .int 1), (3, .int 1), (0, .ref o), (1, .int 1), (2, .int 4)]) hx hb dX5_areSeveral_75 hl (k := 1) rfl (by decide) (by decide) rfl (fun ls hl => ?_)
        refine lv_goto (tgt := 22) hx hb dX5_areSeveral_78 (by decide) ?_
        refine lv_iload hx hb dX5_areSeveral_22 (lv_at hl 0 rfl) ?_
        refine lv_iconst (v := 3) hx hb dX5_areSeveral_24 (by decide) ?_
        refine lv_icmp_ge (tgt := 81) hx hb dX5_areSeveral_25 (by decide) (fun _ => ?_) (fun h => absurd (by decide) h)
        refine lv_iload_n hx hb dX5_areSeveral_81 rfl (lv_at hl 4 rfl) ?_
        refine lv_if_ne (tgt := 90) hx hb dX5_areSeveral_82 (by decide) (fun _ => ?_) (fun h => absurd h (by decide))
        refine lv_iconst (v := 1) hx hb dX5_areSeveral_90 (by decide) ?_
        refine lv_goto (tgt := 95) hx hb dX5_areSeveral_91 (by decide) ?_
        refine lv_istore_n (lv' := [(1, .int 1), (5, .int 3), (4, .int 1), (3, .int 1), (0, .ref o), (2, .int 4)]) hx hb dX5_areSeveral_95 rfl hl (by decide) rfl (fun ls hl => ?_)
        have hq : z5_areSeveral gp gv = 1 := hj_5
        exact jo_X5_areSeveral_4 hv hx hb hr hml hown hts hlk hP hK hq ls (lv_sub hl [4, 0, 5, 3] rfl)
set_option maxHeartbeats 4000000 in
set_option maxRecDepth 100000 in
theorem jo_X5_areSeveral_6 {l : Launch} {D : va_G} {cI cJ : ClassId} {pG : Program} {eG : Env} {sG : State} {mG : MethodId} {below : List Frame} {meth : Method} {cG : Code} {o : Nat} {mP : Nat} {mL : Nat} {mC : Nat} {mN : Nat} {mF : Nat} {mR : Nat} {mD : Nat} {mV : Nat} {mX : Nat} {mA : Nat} {mK : Nat} {mT : Nat} {mU : Nat} {mH : Nat} {mI : Nat} {cm : Int32} {pm : Int32} {gp : Nat → Int32} {gv : Nat → Int32} (hv : ∀ n, n < 5 → ok_i (gv n)) (hx : pG.tables.exec = Jvm.exec) (hb : cG.code = cX5_areSeveral) (hr : meth.sig.returnType = some .boolean) (hml : cG.maxLocals = 7) (hown : sG.vm.findClass RX5 = some mG.cls) (hts : ∀ x ∈ wsX5_areSeveral, x.before ([.ref o] : List Value).toArray sG = true) (hlk : meth.locks = false) (hP : va_P D vwCl [kM o mP mL mC mN mF mR mD mV mX mA mK cm mT pm mU mH mI, kA mP cI 180 gp, kA mV cI 5 gv] sG.heap) (hK : gd_K D cI cJ sG) (hj_6 : z5_areSeveral gp gv = 1) (ls : Array Slot) (hl : lv_has ls 7 [(0, .ref o), (1, .int 1), (2, .int 3)]) : W pG l eG (headSpec wsX5_areSeveral ({ frames := 1, cells := 0, slots := 0, locals := 30 })).room sG mG ([.ref o] : List Value).toArray below meth cG sG.heap [] 0 0 (MQ below (vp_Si (fun r : Int32 => r = z5_areSeveral gp gv)) ([.ref o] : List Value).toArray sG 0 0 (fun _ => False)) (F0 mG 196 ls []) := by
  have k_1 := hts (.fieldLink RX5 7 "ConicRowsModel" "points" "[I") (by decide +kernel)
  have k_2 : ∀ w ∈ wsX50, w ∈ wsX5_areSeveral := by decide +kernel
  have k_3 := hts (.fieldLink RX5 32 "ConicRowsModel" "five" "[I") (by decide +kernel)
  refine lv_iinc (v := 4) (lv' := [(2, .int 4), (0, .ref o), (1, .int 1)]) hx hb dX5_areSeveral_196 hl (k := 2) rfl (by decide) (by decide) rfl (fun ls hl => ?_)
  refine lv_goto (tgt := 4) hx hb dX5_areSeveral_199 (by decide) ?_
  refine lv_iload_n hx hb dX5_areSeveral_4 rfl (lv_at hl 0 rfl) ?_
  refine lv_iconst (v := 5) hx hb dX5_areSeveral_5 (by decide) ?_
  refine lv_icmp_ge (tgt := 202) hx hb dX5_areSeveral_6 (by decide) (fun h => absurd h (by decide)) (fun _ => ?_)
  refine lv_iconst (v := 0) hx hb dX5_areSeveral_9 (by decide) ?_
  refine lv_istore_n (lv' := [(3, .int 0), (2, .int 4), (0, .ref o), (1, .int 1)]) hx hb dX5_areSeveral_10 rfl hl (by decide) rfl (fun ls hl => ?_)
  refine lv_iload_n hx hb dX5_areSeveral_11 rfl (lv_at hl 0 rfl) ?_
  refine lv_iload_n hx hb dX5_areSeveral_12 rfl (lv_at hl 1 rfl) ?_
  refine lv_icmp_ge (tgt := 102) hx hb dX5_areSeveral_13 (by decide) (fun h => absurd h (by decide)) (fun _ => ?_)
  refine lv_iconst (v := 1) hx hb dX5_areSeveral_16 (by decide) ?_
  refine lv_istore (lv' := [(4, .int 1), (3, .int 0), (2, .int 4), (0, .ref o), (1, .int 1)]) hx hb dX5_areSeveral_17 hl (by decide) rfl (fun ls hl => ?_)
  refine lv_iconst (v := 0) hx hb dX5_areSeveral_19 (by decide) ?_
  refine lv_istore (lv' := [(5, .int 0), (4, .int 1), (3, .int 0), (2, .int 4), (0, .ref o), (1, .int 1)]) hx hb dX5_areSeveral_20 hl (by decide) rfl (fun ls hl => ?_)
  refine lv_iload hx hb dX5_areSeveral_22 (lv_at hl 0 rfl) ?_
  refine lv_iconst (v := 3) hx hb dX5_areSeveral_24 (by decide) ?_
  refine lv_icmp_ge (tgt := 81) hx hb dX5_areSeveral_25 (by decide) (fun h => absurd h (by decide)) (fun _ => ?_)
  refine lv_iload hx hb dX5_areSeveral_28 (lv_at hl 1 rfl) ?_
  refine lv_if_eq (tgt := 72) hx hb dX5_areSeveral_30 (by decide) (fun h => absurd h (by decide)) (fun _ => ?_)
  refine lv_aload_n hx hb dX5_areSeveral_33 rfl (lv_at hl 4 rfl) ?_
  refine va_get (D := D) (ci := 5) (v := .ref mP) (C := RX5) (T := TX5) (N := 17) hx hb hts k_2 hown hK.1 hP 0 rfl rfl 0 (by decide) k_1 (fun _ h9 => h9) rfl dX5_areSeveral_34 ?_
  refine lv_iconst (v := 3) hx hb dX5_areSeveral_37 (by decide) ?_
  refine lv_aload_n hx hb dX5_areSeveral_38 rfl (lv_at hl 4 rfl) ?_
  refine va_get (D := D) (ci := 5) (v := .ref mV) (C := RX5) (T := TX5) (N := 17) hx hb hts k_2 hown hK.1 hP 0 rfl rfl 7 (by decide) k_3 (fun _ h9 => h9) rfl dX5_areSeveral_39 ?_
  refine lv_iload_n hx hb dX5_areSeveral_42 rfl (lv_at hl 3 rfl) ?_
  refine ld_i hx hb hK.1 hP 2 0 rfl rfl (ix_lit (by decide)) 4 (by decide) (v := gv 4) rfl dX5_areSeveral_43 ?_
  refine lv_imul hx hb dX5_areSeveral_44 ?_
  refine lv_iload hx hb dX5_areSeveral_45 (lv_at hl 0 rfl) ?_
  refine lv_iadd hx hb dX5_areSeveral_47 ?_
  refine ld_i hx hb hK.1 hP 1 0 rfl rfl (ix3l (hv 4 (by decide)) 0 (by decide)) (((3 * (gv 4)) + 0).toNatClampNeg) rfl (v := gp (((3 * (gv 4)) + 0).toNatClampNeg)) rfl dX5_areSeveral_48 ?_
  refine lv_aload_n hx hb dX5_areSeveral_49 rfl (lv_at hl 4 rfl) ?_
  refine va_get (D := D) (ci := 5) (v := .ref mP) (C := RX5) (T := TX5) (N := 17) hx hb hts k_2 hown hK.1 hP 0 rfl rfl 0 (by decide) k_1 (fun _ h9 => h9) rfl dX5_areSeveral_50 ?_
  refine lv_iconst (v := 3) hx hb dX5_areSeveral_53 (by decide) ?_
  refine lv_aload_n hx hb dX5_areSeveral_54 rfl (lv_at hl 4 rfl) ?_
  refine va_get (D := D) (ci := 5) (v := .ref mV) (C := RX5) (T := TX5) (N := 17) hx hb hts k_2 hown hK.1 hP 0 rfl rfl 7 (by decide) k_3 (fun _ h9 => h9) rfl dX5_areSeveral_55 ?_
  refine lv_iload_n hx hb dX5_areSeveral_58 rfl (lv_at hl 2 rfl) ?_
  refine ld_i hx hb hK.1 hP 2 0 rfl rfl (ix_lit (by decide)) 0 (by decide) (v := gv 0) rfl dX5_areSeveral_59 ?_
  refine lv_imul hx hb dX5_areSeveral_60 ?_
  refine lv_iload hx hb dX5_areSeveral_61 (lv_at hl 0 rfl) ?_
  refine lv_iadd hx hb dX5_areSeveral_63 ?_
  refine ld_i hx hb hK.1 hP 1 0 rfl rfl (ix3l (hv 0 (by decide)) 0 (by decide)) (((3 * (gv 0)) + 0).toNatClampNeg) rfl (v := gp (((3 * (gv 0)) + 0).toNatClampNeg)) rfl dX5_areSeveral_64 ?_
  refine lv_icmp_ne (tgt := 72) hx hb dX5_areSeveral_65 (by decide) (fun c_10 => ?_) (fun c_10 => ?_)
  · skip
    refine lv_iconst (v := 0) hx hb dX5_areSeveral_72 (by decide) ?_
    refine lv_istore (lv' := [(4, .int 0), (5, .int 0), (3, .int 0), (2, .int 4), (0, .ref o), (1, .int 1)]) hx hb dX5_areSeveral_73 hl (by decide) rfl (fun ls hl => ?_)
    refine lv_iinc (v := 1) (lv' := [(5, .int 1), (4, .int 0), (3, .int 0), (2, .int 4), (0, .ref o), (1, .int 1)]) hx hb dX5_areSeveral_75 hl (k := 1) rfl (by decide) (by decide) rfl (fun ls hl => ?_)
    refine lv_goto (tgt := 22) hx hb dX5_areSeveral_78 (by decide) ?_
    refine lv_iload hx hb dX5_areSeveral_22 (lv_at hl 0 rfl) ?_
    refine lv_iconst (v := 3) hx hb dX5_areSeveral_24 (by decide) ?_
    refine lv_icmp_ge (tgt := 81) hx hb dX5_areSeveral_25 (by decide) (fun h => absurd h (by decide)) (fun _ => ?_)
    refine lv_iload hx hb dX5_areSeveral_28 (lv_at hl 1 rfl) ?_
    refine lv_if_eq (tgt := 72) hx hb dX5_areSeveral_30 (by decide) (fun _ => ?_) (fun h => absurd (by decide) h)
    refine lv_iconst (v := 0) hx hb dX5_areSeveral_72 (by decide) ?_
    refine lv_istore (lv' := [(4, .int 0), (5, .int 1), (3, .int 0), (2, .int 4), (0, .ref o), (1, .int 1)]) hx hb dX5_areSeveral_73 hl (by decide) rfl (fun ls hl => ?_)
    refine lv_iinc (v := 2) (lv' := [(5, .int 2), (4, .int 0), (3, .int 0), (2, .int 4), (0, .ref o), (1, .int 1)]) hx hb dX5_areSeveral_75 hl (k := 1) rfl (by decide) (by decide) rfl (fun ls hl => ?_)
    refine lv_goto (tgt := 22) hx hb dX5_areSeveral_78 (by decide) ?_
    refine lv_iload hx hb dX5_areSeveral_22 (lv_at hl 0 rfl) ?_
    refine lv_iconst (v := 3) hx hb dX5_areSeveral_24 (by decide) ?_
    refine lv_icmp_ge (tgt := 81) hx hb dX5_areSeveral_25 (by decide) (fun h => absurd h (by decide)) (fun _ => ?_)
    refine lv_iload hx hb dX5_areSeveral_28 (lv_at hl 1 rfl) ?_
    refine lv_if_eq (tgt := 72) hx hb dX5_areSeveral_30 (by decide) (fun _ => ?_) (fun h => absurd (by decide) h)
    refine lv_iconst (v := 0) hx hb dX5_areSeveral_72 (by decide) ?_
    refine lv_istore (lv' := [(4, .int 0), (5, .int 2), (3, .int 0), (2, .int 4), (0, .ref o), (1, .int 1)]) hx hb dX5_areSeveral_73 hl (by decide) rfl (fun ls hl => ?_)
    refine lv_iinc (v := 3) (lv' := [(5, .int 3), (4, .int 0), (3, .int 0), (2, .int 4), (0, .ref o), (1, .int 1)]) hx hb dX5_areSeveral_75 hl (k := 1) rfl (by decide) (by decide) rfl (fun ls hl => ?_)
    refine lv_goto (tgt := 22) hx hb dX5_areSeveral_78 (by decide) ?_
    refine lv_iload hx hb dX5_areSeveral_22 (lv_at hl 0 rfl) ?_
    refine lv_iconst (v := 3) hx hb dX5_areSeveral_24 (by decide) ?_
    refine lv_icmp_ge (tgt := 81) hx hb dX5_areSeveral_25 (by decide) (fun _ => ?_) (fun h => absurd (by decide) h)
    refine lv_iload_n hx hb dX5_areSeveral_81 rfl (lv_at hl 5 rfl) ?_
    refine lv_if_ne (tgt := 90) hx hb dX5_areSeveral_82 (by decide) (fun _ => ?_) (fun h => absurd h (by decide))
    refine lv_iconst (v := 1) hx hb dX5_areSeveral_90 (by decide) ?_
    refine lv_goto (tgt := 95) hx hb dX5_areSeveral_91 (by decide) ?_
    refine lv_istore_n (lv' := [(1, .int 1), (5, .int 3), (4, .int 0), (3, .int 0), (2, .int 4), (0, .ref o)]) hx hb dX5_areSeveral_95 rfl hl (by decide) rfl (fun ls hl => ?_)
    have hq : z5_areSeveral gp gv = 1 := hj_6
    exact jo_X5_areSeveral_5 hv hx hb hr hml hown hts hlk hP hK hq ls (lv_sub hl [5, 0, 4, 3] rfl)
  · skip
    refine lv_iconst (v := 1) hx hb dX5_areSeveral_68 (by decide) ?_
    refine lv_goto (tgt := 73) hx hb dX5_areSeveral_69 (by decide) ?_
    refine lv_istore (lv' := [(4, .int 1), (5, .int 0), (3, .int 0), (2, .int 4), (0, .ref o), (1, .int 1)]) hx hb dX5_areSeveral_73 hl (by decide) rfl (fun ls hl => ?_)
    refine lv_iinc (v := 1) (lv' := [(5, .int 1), (4, .int 1), (3, .int 0), (2, .int 4), (0, .ref o), (1, .int 1)]) hx hb dX5_areSeveral_75 hl (k := 1) rfl (by decide) (by decide) rfl (fun ls hl => ?_)
    refine lv_goto (tgt := 22) hx hb dX5_areSeveral_78 (by decide) ?_
    refine lv_iload hx hb dX5_areSeveral_22 (lv_at hl 0 rfl) ?_
    refine lv_iconst (v := 3) hx hb dX5_areSeveral_24 (by decide) ?_
    refine lv_icmp_ge (tgt := 81) hx hb dX5_areSeveral_25 (by decide) (fun h => absurd h (by decide)) (fun _ => ?_)
    refine lv_iload hx hb dX5_areSeveral_28 (lv_at hl 1 rfl) ?_
    refine lv_if_eq (tgt := 72) hx hb dX5_areSeveral_30 (by decide) (fun h => absurd h (by decide)) (fun _ => ?_)
    refine lv_aload_n hx hb dX5_areSeveral_33 rfl (lv_at hl 4 rfl) ?_
    refine va_get (D := D) (ci := 5) (v := .ref mP) (C := RX5) (T := TX5) (N := 17) hx hb hts k_2 hown hK.1 hP 0 rfl rfl 0 (by decide) k_1 (fun _ h9 => h9) rfl dX5_areSeveral_34 ?_
    refine lv_iconst (v := 3) hx hb dX5_areSeveral_37 (by decide) ?_
    refine lv_aload_n hx hb dX5_areSeveral_38 rfl (lv_at hl 4 rfl) ?_
    refine va_get (D := D) (ci := 5) (v := .ref mV) (C := RX5) (T := TX5) (N := 17) hx hb hts k_2 hown hK.1 hP 0 rfl rfl 7 (by decide) k_3 (fun _ h9 => h9) rfl dX5_areSeveral_39 ?_
    refine lv_iload_n hx hb dX5_areSeveral_42 rfl (lv_at hl 3 rfl) ?_
    refine ld_i hx hb hK.1 hP 2 0 rfl rfl (ix_lit (by decide)) 4 (by decide) (v := gv 4) rfl dX5_areSeveral_43 ?_
    refine lv_imul hx hb dX5_areSeveral_44 ?_
    refine lv_iload hx hb dX5_areSeveral_45 (lv_at hl 0 rfl) ?_
    refine lv_iadd hx hb dX5_areSeveral_47 ?_
    refine ld_i hx hb hK.1 hP 1 0 rfl rfl (ix3l (hv 4 (by decide)) 1 (by decide)) (((3 * (gv 4)) + 1).toNatClampNeg) rfl (v := gp (((3 * (gv 4)) + 1).toNatClampNeg)) rfl dX5_areSeveral_48 ?_
    refine lv_aload_n hx hb dX5_areSeveral_49 rfl (lv_at hl 4 rfl) ?_
    refine va_get (D := D) (ci := 5) (v := .ref mP) (C := RX5) (T := TX5) (N := 17) hx hb hts k_2 hown hK.1 hP 0 rfl rfl 0 (by decide) k_1 (fun _ h9 => h9) rfl dX5_areSeveral_50 ?_
    refine lv_iconst (v := 3) hx hb dX5_areSeveral_53 (by decide) ?_
    refine lv_aload_n hx hb dX5_areSeveral_54 rfl (lv_at hl 4 rfl) ?_
    refine va_get (D := D) (ci := 5) (v := .ref mV) (C := RX5) (T := TX5) (N := 17) hx hb hts k_2 hown hK.1 hP 0 rfl rfl 7 (by decide) k_3 (fun _ h9 => h9) rfl dX5_areSeveral_55 ?_
    refine lv_iload_n hx hb dX5_areSeveral_58 rfl (lv_at hl 2 rfl) ?_
    refine ld_i hx hb hK.1 hP 2 0 rfl rfl (ix_lit (by decide)) 0 (by decide) (v := gv 0) rfl dX5_areSeveral_59 ?_
    refine lv_imul hx hb dX5_areSeveral_60 ?_
    refine lv_iload hx hb dX5_areSeveral_61 (lv_at hl 0 rfl) ?_
    refine lv_iadd hx hb dX5_areSeveral_63 ?_
    refine ld_i hx hb hK.1 hP 1 0 rfl rfl (ix3l (hv 0 (by decide)) 1 (by decide)) (((3 * (gv 0)) + 1).toNatClampNeg) rfl (v := gp (((3 * (gv 0)) + 1).toNatClampNeg)) rfl dX5_areSeveral_64 ?_
    refine lv_icmp_ne (tgt := 72) hx hb dX5_areSeveral_65 (by decide) (fun c_11 => ?_) (fun c_11 => ?_)
    · skip
      refine lv_iconst (v := 0) hx hb dX5_areSeveral_72 (by decide) ?_
      refine lv_istore (lv' := [(4, .int 0), (5, .int 1), (3, .int 0), (2, .int 4), (0, .ref o), (1, .int 1)]) hx hb dX5_areSeveral_73 hl (by decide) rfl (fun ls hl => ?_)
      refine lv_iinc (v := 2) (lv' := [(5, .int 2), (4, .int 0), (3, .int 0), (2, .int 4), (0, .ref o), (1, .int 1)]) hx hb dX5_areSeveral_75 hl (k := 1) rfl (by decide) (by decide) rfl (fun ls hl => ?_)
      refine lv_goto (tgt := 22) hx hb dX5_areSeveral_78 (by decide) ?_
      refine lv_iload hx hb dX5_areSeveral_22 (lv_at hl 0 rfl) ?_
      refine lv_iconst (v := 3) hx hb dX5_areSeveral_24 (by decide) ?_
      refine lv_icmp_ge (tgt := 81) hx hb dX5_areSeveral_25 (by decide) (fun h => absurd h (by decide)) (fun _ => ?_)
      refine lv_iload hx hb dX5_areSeveral_28 (lv_at hl 1 rfl) ?_
      refine lv_if_eq (tgt := 72) hx hb dX5_areSeveral_30 (by decide) (fun _ => ?_) (fun h => absurd (by decide) h)
      refine lv_iconst (v := 0) hx hb dX5_areSeveral_72 (by decide) ?_
      refine lv_istore (lv' := [(4, .int 0), (5, .int 2), (3, .int 0), (2, .int 4), (0, .ref o), (1, .int 1)]) hx hb dX5_areSeveral_73 hl (by decide) rfl (fun ls hl => ?_)
      refine lv_iinc (v := 3) (lv' := [(5, .int 3), (4, .int 0), (3, .int 0), (2, .int 4), (0, .ref o), (1, .int 1)]) hx hb dX5_areSeveral_75 hl (k := 1) rfl (by decide) (by decide) rfl (fun ls hl => ?_)
      refine lv_goto (tgt := 22) hx hb dX5_areSeveral_78 (by decide) ?_
      refine lv_iload hx hb dX5_areSeveral_22 (lv_at hl 0 rfl) ?_
      refine lv_iconst (v := 3) hx hb dX5_areSeveral_24 (by decide) ?_
      refine lv_icmp_ge (tgt := 81) hx hb dX5_areSeveral_25 (by decide) (fun _ => ?_) (fun h => absurd (by decide) h)
      refine lv_iload_n hx hb dX5_areSeveral_81 rfl (lv_at hl 5 rfl) ?_
      refine lv_if_ne (tgt := 90) hx hb dX5_areSeveral_82 (by decide) (fun _ => ?_) (fun h => absurd h (by decide))
      refine lv_iconst (v := 1) hx hb dX5_areSeveral_90 (by decide) ?_
      refine lv_goto (tgt := 95) hx hb dX5_areSeveral_91 (by decide) ?_
      refine lv_istore_n (lv' := [(1, .int 1), (5, .int 3), (4, .int 0), (3, .int 0), (2, .int 4), (0, .ref o)]) hx hb dX5_areSeveral_95 rfl hl (by decide) rfl (fun ls hl => ?_)
      have hq : z5_areSeveral gp gv = 1 := hj_6
      exact jo_X5_areSeveral_5 hv hx hb hr hml hown hts hlk hP hK hq ls (lv_sub hl [5, 0, 4, 3] rfl)
    · skip
      refine lv_iconst (v := 1) hx hb dX5_areSeveral_68 (by decide) ?_
      refine lv_goto (tgt := 73) hx hb dX5_areSeveral_69 (by decide) ?_
      refine lv_istore (lv' := [(4, .int 1), (5, .int 1), (3, .int 0), (2, .int 4), (0, .ref o), (1, .int 1)]) hx hb dX5_areSeveral_73 hl (by decide) rfl (fun ls hl => ?_)
      refine lv_iinc (v := 2) (lv' := [(5, .int 2), (4, .int 1), (3, .int 0), (2, .int 4), (0, .ref o), (1, .int 1)]) hx hb dX5_areSeveral_75 hl (k := 1) rfl (by decide) (by decide) rfl (fun ls hl => ?_)
      refine lv_goto (tgt := 22) hx hb dX5_areSeveral_78 (by decide) ?_
      refine lv_iload hx hb dX5_areSeveral_22 (lv_at hl 0 rfl) ?_
      refine lv_iconst (v := 3) hx hb dX5_areSeveral_24 (by decide) ?_
      refine lv_icmp_ge (tgt := 81) hx hb dX5_areSeveral_25 (by decide) (fun h => absurd h (by decide)) (fun _ => ?_)
      refine lv_iload hx hb dX5_areSeveral_28 (lv_at hl 1 rfl) ?_
      refine lv_if_eq (tgt := 72) hx hb dX5_areSeveral_30 (by decide) (fun h => absurd h (by decide)) (fun _ => ?_)
      refine lv_aload_n hx hb dX5_areSeveral_33 rfl (lv_at hl 4 rfl) ?_
      refine va_get (D := D) (ci := 5) (v := .ref mP) (C := RX5) (T := TX5) (N := 17) hx hb hts k_2 hown hK.1 hP 0 rfl rfl 0 (by decide) k_1 (fun _ h9 => h9) rfl dX5_areSeveral_34 ?_
      refine lv_iconst (v := 3) hx hb dX5_areSeveral_37 (by decide) ?_
      refine lv_aload_n hx hb dX5_areSeveral_38 rfl (lv_at hl 4 rfl) ?_
      refine va_get (D := D) (ci := 5) (v := .ref mV) (C := RX5) (T := TX5) (N := 17) hx hb hts k_2 hown hK.1 hP 0 rfl rfl 7 (by decide) k_3 (fun _ h9 => h9) rfl dX5_areSeveral_39 ?_
      refine lv_iload_n hx hb dX5_areSeveral_42 rfl (lv_at hl 3 rfl) ?_
      refine ld_i hx hb hK.1 hP 2 0 rfl rfl (ix_lit (by decide)) 4 (by decide) (v := gv 4) rfl dX5_areSeveral_43 ?_
      refine lv_imul hx hb dX5_areSeveral_44 ?_
      refine lv_iload hx hb dX5_areSeveral_45 (lv_at hl 0 rfl) ?_
      refine lv_iadd hx hb dX5_areSeveral_47 ?_
      refine ld_i hx hb hK.1 hP 1 0 rfl rfl (ix3l (hv 4 (by decide)) 2 (by decide)) (((3 * (gv 4)) + 2).toNatClampNeg) rfl (v := gp (((3 * (gv 4)) + 2).toNatClampNeg)) rfl dX5_areSeveral_48 ?_
      refine lv_aload_n hx hb dX5_areSeveral_49 rfl (lv_at hl 4 rfl) ?_
      refine va_get (D := D) (ci := 5) (v := .ref mP) (C := RX5) (T := TX5) (N := 17) hx hb hts k_2 hown hK.1 hP 0 rfl rfl 0 (by decide) k_1 (fun _ h9 => h9) rfl dX5_areSeveral_50 ?_
      refine lv_iconst (v := 3) hx hb dX5_areSeveral_53 (by decide) ?_
      refine lv_aload_n hx hb dX5_areSeveral_54 rfl (lv_at hl 4 rfl) ?_
      refine va_get (D := D) (ci := 5) (v := .ref mV) (C := RX5) (T := TX5) (N := 17) hx hb hts k_2 hown hK.1 hP 0 rfl rfl 7 (by decide) k_3 (fun _ h9 => h9) rfl dX5_areSeveral_55 ?_
      refine lv_iload_n hx hb dX5_areSeveral_58 rfl (lv_at hl 2 rfl) ?_
      refine ld_i hx hb hK.1 hP 2 0 rfl rfl (ix_lit (by decide)) 0 (by decide) (v := gv 0) rfl dX5_areSeveral_59 ?_
      refine lv_imul hx hb dX5_areSeveral_60 ?_
      refine lv_iload hx hb dX5_areSeveral_61 (lv_at hl 0 rfl) ?_
      refine lv_iadd hx hb dX5_areSeveral_63 ?_
      refine ld_i hx hb hK.1 hP 1 0 rfl rfl (ix3l (hv 0 (by decide)) 2 (by decide)) (((3 * (gv 0)) + 2).toNatClampNeg) rfl (v := gp (((3 * (gv 0)) + 2).toNatClampNeg)) rfl dX5_areSeveral_64 ?_
      refine lv_icmp_ne (tgt := 72) hx hb dX5_areSeveral_65 (by decide) (fun c_12 => ?_) (fun c_12 => ?_)
      · skip
        refine lv_iconst (v := 0) hx hb dX5_areSeveral_72 (by decide) ?_
        refine lv_istore (lv' := [(4, .int 0), (5, .int 2), (3, .int 0), (2, .int 4), (0, .ref o), (1, .int 1)]) hx hb dX5_areSeveral_73 hl (by decide) rfl (fun ls hl => ?_)
        refine lv_iinc (v := 3) (lv' := [(5, .int 3), (4, .int 0), (3, .int 0), (2, .int 4), (0, .ref o), (1, .int 1)]) hx hb dX5_areSeveral_75 hl (k := 1) rfl (by decide) (by decide) rfl (fun ls hl => ?_)
        refine lv_goto (tgt := 22) hx hb dX5_areSeveral_78 (by decide) ?_
        refine lv_iload hx hb dX5_areSeveral_22 (lv_at hl 0 rfl) ?_
        refine lv_iconst (v := 3) hx hb dX5_areSeveral_24 (by decide) ?_
        refine lv_icmp_ge (tgt := 81) hx hb dX5_areSeveral_25 (by decide) (fun _ => ?_) (fun h => absurd (by decide) h)
        refine lv_iload_n hx hb dX5_areSeveral_81 rfl (lv_at hl 5 rfl) ?_
        refine lv_if_ne (tgt := 90) hx hb dX5_areSeveral_82 (by decide) (fun _ => ?_) (fun h => absurd h (by decide))
        refine lv_iconst (v := 1) hx hb dX5_areSeveral_90 (by decide) ?_
        refine lv_goto (tgt := 95) hx hb dX5_areSeveral_91 (by decide) ?_
        refine lv_istore_n (lv' := [(1, .int 1), (5, .int 3), (4, .int 0), (3, .int 0), (2, .int 4), (0, .ref o)]) hx hb dX5_areSeveral_95 rfl hl (by decide) rfl (fun ls hl => ?_)
        have hq : z5_areSeveral gp gv = 1 := hj_6
        exact jo_X5_areSeveral_5 hv hx hb hr hml hown hts hlk hP hK hq ls (lv_sub hl [5, 0, 4, 3] rfl)
      · skip
        refine lv_iconst (v := 1) hx hb dX5_areSeveral_68 (by decide) ?_
        refine lv_goto (tgt := 73) hx hb dX5_areSeveral_69 (by decide) ?_
        refine lv_istore (lv' := [(4, .int 1), (5, .int 2), (3, .int 0), (2, .int 4), (0, .ref o), (1, .int 1)]) hx hb dX5_areSeveral_73 hl (by decide) rfl (fun ls hl => ?_)
        refine lv_iinc (v := 3) (lv' := [(5, .int 3), (4, .int 1), (3, .int 0), (2, .int 4), (0, .ref o), (1, .int 1)]) hx hb dX5_areSeveral_75 hl (k := 1) rfl (by decide) (by decide) rfl (fun ls hl => ?_)
        refine lv_goto (tgt := 22) hx hb dX5_areSeveral_78 (by decide) ?_
        refine lv_iload hx hb dX5_areSeveral_22 (lv_at hl 0 rfl) ?_
        refine lv_iconst (v := 3) hx hb dX5_areSeveral_24 (by decide) ?_
        refine lv_icmp_ge (tgt := 81) hx hb dX5_areSeveral_25 (by decide) (fun _ => ?_) (fun h => absurd (by decide) h)
        refine lv_iload_n hx hb dX5_areSeveral_81 rfl (lv_at hl 5 rfl) ?_
        refine lv_if_ne (tgt := 90) hx hb dX5_areSeveral_82 (by decide) (fun _ => ?_) (fun h => absurd h (by decide))
        refine lv_iconst (v := 1) hx hb dX5_areSeveral_90 (by decide) ?_
        refine lv_goto (tgt := 95) hx hb dX5_areSeveral_91 (by decide) ?_
        refine lv_istore_n (lv' := [(1, .int 1), (5, .int 3), (4, .int 1), (3, .int 0), (2, .int 4), (0, .ref o)]) hx hb dX5_areSeveral_95 rfl hl (by decide) rfl (fun ls hl => ?_)
        have hq : z5_areSeveral gp gv = 1 := hj_6
        exact jo_X5_areSeveral_5 hv hx hb hr hml hown hts hlk hP hK hq ls (lv_sub hl [5, 0, 4, 3] rfl)
set_option maxHeartbeats 4000000 in
set_option maxRecDepth 100000 in
theorem jo_X5_areSeveral_7 {l : Launch} {D : va_G} {cI cJ : ClassId} {pG : Program} {eG : Env} {sG : State} {mG : MethodId} {below : List Frame} {meth : Method} {cG : Code} {o : Nat} {mP : Nat} {mL : Nat} {mC : Nat} {mN : Nat} {mF : Nat} {mR : Nat} {mD : Nat} {mV : Nat} {mX : Nat} {mA : Nat} {mK : Nat} {mT : Nat} {mU : Nat} {mH : Nat} {mI : Nat} {cm : Int32} {pm : Int32} {gp : Nat → Int32} {gv : Nat → Int32} (hv : ∀ n, n < 5 → ok_i (gv n)) (hx : pG.tables.exec = Jvm.exec) (hb : cG.code = cX5_areSeveral) (hr : meth.sig.returnType = some .boolean) (hml : cG.maxLocals = 7) (hown : sG.vm.findClass RX5 = some mG.cls) (hts : ∀ x ∈ wsX5_areSeveral, x.before ([.ref o] : List Value).toArray sG = true) (hlk : meth.locks = false) (hP : va_P D vwCl [kM o mP mL mC mN mF mR mD mV mX mA mK cm mT pm mU mH mI, kA mP cI 180 gp, kA mV cI 5 gv] sG.heap) (hK : gd_K D cI cJ sG) (hj_7 : z5_areSeveral gp gv = 1) (ls : Array Slot) (hl : lv_has ls 7 [(0, .ref o), (1, .int 1), (2, .int 3), (3, .int 2)]) : W pG l eG (headSpec wsX5_areSeveral ({ frames := 1, cells := 0, slots := 0, locals := 30 })).room sG mG ([.ref o] : List Value).toArray below meth cG sG.heap [] 0 0 (MQ below (vp_Si (fun r : Int32 => r = z5_areSeveral gp gv)) ([.ref o] : List Value).toArray sG 0 0 (fun _ => False)) (F0 mG 96 ls []) := by
  have k_1 := hts (.fieldLink RX5 7 "ConicRowsModel" "points" "[I") (by decide +kernel)
  have k_2 : ∀ w ∈ wsX50, w ∈ wsX5_areSeveral := by decide +kernel
  have k_3 := hts (.fieldLink RX5 32 "ConicRowsModel" "five" "[I") (by decide +kernel)
  refine lv_iinc (v := 3) (lv' := [(3, .int 3), (0, .ref o), (1, .int 1), (2, .int 3)]) hx hb dX5_areSeveral_96 hl (k := 3) rfl (by decide) (by decide) rfl (fun ls hl => ?_)
  refine lv_goto (tgt := 11) hx hb dX5_areSeveral_99 (by decide) ?_
  refine lv_iload_n hx hb dX5_areSeveral_11 rfl (lv_at hl 0 rfl) ?_
  refine lv_iload_n hx hb dX5_areSeveral_12 rfl (lv_at hl 3 rfl) ?_
  refine lv_icmp_ge (tgt := 102) hx hb dX5_areSeveral_13 (by decide) (fun _ => ?_) (fun h => absurd (by decide) h)
  refine lv_iload_n hx hb dX5_areSeveral_102 rfl (lv_at hl 3 rfl) ?_
  refine lv_iconst (v := 1) hx hb dX5_areSeveral_103 (by decide) ?_
  refine lv_iadd hx hb dX5_areSeveral_104 ?_
  refine lv_eqi (v := 4) (by decide) ?_
  refine lv_iconst (v := 5) hx hb dX5_areSeveral_105 (by decide) ?_
  refine lv_irem hx hb dX5_areSeveral_106 (by decide) ?_
  refine lv_eqi (v := 4) (by decide) ?_
  refine lv_istore_n (lv' := [(3, .int 4), (0, .ref o), (1, .int 1), (2, .int 3)]) hx hb dX5_areSeveral_107 rfl hl (by decide) rfl (fun ls hl => ?_)
  refine lv_iload_n hx hb dX5_areSeveral_108 rfl (lv_at hl 3 rfl) ?_
  refine lv_iconst (v := 2) hx hb dX5_areSeveral_109 (by decide) ?_
  refine lv_iadd hx hb dX5_areSeveral_110 ?_
  refine lv_eqi (v := 5) (by decide) ?_
  refine lv_iconst (v := 5) hx hb dX5_areSeveral_111 (by decide) ?_
  refine lv_irem hx hb dX5_areSeveral_112 (by decide) ?_
  refine lv_eqi (v := 0) (by decide) ?_
  refine lv_istore (lv' := [(4, .int 0), (3, .int 4), (0, .ref o), (1, .int 1), (2, .int 3)]) hx hb dX5_areSeveral_113 hl (by decide) rfl (fun ls hl => ?_)
  refine lv_iload_n hx hb dX5_areSeveral_115 rfl (lv_at hl 4 rfl) ?_
  refine lv_iconst (v := 3) hx hb dX5_areSeveral_116 (by decide) ?_
  refine lv_iadd hx hb dX5_areSeveral_117 ?_
  refine lv_eqi (v := 6) (by decide) ?_
  refine lv_iconst (v := 5) hx hb dX5_areSeveral_118 (by decide) ?_
  refine lv_irem hx hb dX5_areSeveral_119 (by decide) ?_
  refine lv_eqi (v := 1) (by decide) ?_
  refine lv_istore (lv' := [(5, .int 1), (4, .int 0), (3, .int 4), (0, .ref o), (1, .int 1), (2, .int 3)]) hx hb dX5_areSeveral_120 hl (by decide) rfl (fun ls hl => ?_)
  refine lv_iload_n hx hb dX5_areSeveral_122 rfl (lv_at hl 5 rfl) ?_
  refine lv_iconst (v := 4) hx hb dX5_areSeveral_123 (by decide) ?_
  refine lv_iadd hx hb dX5_areSeveral_124 ?_
  refine lv_eqi (v := 7) (by decide) ?_
  refine lv_iconst (v := 5) hx hb dX5_areSeveral_125 (by decide) ?_
  refine lv_irem hx hb dX5_areSeveral_126 (by decide) ?_
  refine lv_eqi (v := 2) (by decide) ?_
  refine lv_istore (lv' := [(6, .int 2), (5, .int 1), (4, .int 0), (3, .int 4), (0, .ref o), (1, .int 1), (2, .int 3)]) hx hb dX5_areSeveral_127 hl (by decide) rfl (fun ls hl => ?_)
  refine lv_iload_n hx hb dX5_areSeveral_129 rfl (lv_at hl 5 rfl) ?_
  refine lv_if_ne (tgt := 190) hx hb dX5_areSeveral_130 (by decide) (fun _ => ?_) (fun h => absurd h (by decide))
  refine lv_iconst (v := 1) hx hb dX5_areSeveral_190 (by decide) ?_
  refine lv_goto (tgt := 195) hx hb dX5_areSeveral_191 (by decide) ?_
  refine lv_istore_n (lv' := [(1, .int 1), (6, .int 2), (5, .int 1), (4, .int 0), (3, .int 4), (0, .ref o), (2, .int 3)]) hx hb dX5_areSeveral_195 rfl hl (by decide) rfl (fun ls hl => ?_)
  have hq : z5_areSeveral gp gv = 1 := hj_7
  exact jo_X5_areSeveral_6 hv hx hb hr hml hown hts hlk hP hK hq ls (lv_sub hl [5, 0, 6] rfl)
set_option maxHeartbeats 4000000 in
set_option maxRecDepth 100000 in
theorem jo_X5_areSeveral_8 {l : Launch} {D : va_G} {cI cJ : ClassId} {pG : Program} {eG : Env} {sG : State} {mG : MethodId} {below : List Frame} {meth : Method} {cG : Code} {o : Nat} {mP : Nat} {mL : Nat} {mC : Nat} {mN : Nat} {mF : Nat} {mR : Nat} {mD : Nat} {mV : Nat} {mX : Nat} {mA : Nat} {mK : Nat} {mT : Nat} {mU : Nat} {mH : Nat} {mI : Nat} {cm : Int32} {pm : Int32} {gp : Nat → Int32} {gv : Nat → Int32} (hv : ∀ n, n < 5 → ok_i (gv n)) (hx : pG.tables.exec = Jvm.exec) (hb : cG.code = cX5_areSeveral) (hr : meth.sig.returnType = some .boolean) (hml : cG.maxLocals = 7) (hown : sG.vm.findClass RX5 = some mG.cls) (hts : ∀ x ∈ wsX5_areSeveral, x.before ([.ref o] : List Value).toArray sG = true) (hlk : meth.locks = false) (hP : va_P D vwCl [kM o mP mL mC mN mF mR mD mV mX mA mK cm mT pm mU mH mI, kA mP cI 180 gp, kA mV cI 5 gv] sG.heap) (hK : gd_K D cI cJ sG) (hj_8 : z5_areSeveral gp gv = 1) (ls : Array Slot) (hl : lv_has ls 7 [(0, .ref o), (1, .int 1), (2, .int 3), (3, .int 1)]) : W pG l eG (headSpec wsX5_areSeveral ({ frames := 1, cells := 0, slots := 0, locals := 30 })).room sG mG ([.ref o] : List Value).toArray below meth cG sG.heap [] 0 0 (MQ below (vp_Si (fun r : Int32 => r = z5_areSeveral gp gv)) ([.ref o] : List Value).toArray sG 0 0 (fun _ => False)) (F0 mG 96 ls []) := by
  have k_1 := hts (.fieldLink RX5 7 "ConicRowsModel" "points" "[I") (by decide +kernel)
  have k_2 : ∀ w ∈ wsX50, w ∈ wsX5_areSeveral := by decide +kernel
  have k_3 := hts (.fieldLink RX5 32 "ConicRowsModel" "five" "[I") (by decide +kernel)
  refine lv_iinc (v := 2) (lv' := [(3, .int 2), (0, .ref o), (1, .int 1), (2, .int 3)]) hx hb dX5_areSeveral_96 hl (k := 3) rfl (by decide) (by decide) rfl (fun ls hl => ?_)
  refine lv_goto (tgt := 11) hx hb dX5_areSeveral_99 (by decide) ?_
  refine lv_iload_n hx hb dX5_areSeveral_11 rfl (lv_at hl 0 rfl) ?_
  refine lv_iload_n hx hb dX5_areSeveral_12 rfl (lv_at hl 3 rfl) ?_
  refine lv_icmp_ge (tgt := 102) hx hb dX5_areSeveral_13 (by decide) (fun h => absurd h (by decide)) (fun _ => ?_)
  refine lv_iconst (v := 1) hx hb dX5_areSeveral_16 (by decide) ?_
  refine lv_istore (lv' := [(4, .int 1), (3, .int 2), (0, .ref o), (1, .int 1), (2, .int 3)]) hx hb dX5_areSeveral_17 hl (by decide) rfl (fun ls hl => ?_)
  refine lv_iconst (v := 0) hx hb dX5_areSeveral_19 (by decide) ?_
  refine lv_istore (lv' := [(5, .int 0), (4, .int 1), (3, .int 2), (0, .ref o), (1, .int 1), (2, .int 3)]) hx hb dX5_areSeveral_20 hl (by decide) rfl (fun ls hl => ?_)
  refine lv_iload hx hb dX5_areSeveral_22 (lv_at hl 0 rfl) ?_
  refine lv_iconst (v := 3) hx hb dX5_areSeveral_24 (by decide) ?_
  refine lv_icmp_ge (tgt := 81) hx hb dX5_areSeveral_25 (by decide) (fun h => absurd h (by decide)) (fun _ => ?_)
  refine lv_iload hx hb dX5_areSeveral_28 (lv_at hl 1 rfl) ?_
  refine lv_if_eq (tgt := 72) hx hb dX5_areSeveral_30 (by decide) (fun h => absurd h (by decide)) (fun _ => ?_)
  refine lv_aload_n hx hb dX5_areSeveral_33 rfl (lv_at hl 3 rfl) ?_
  refine va_get (D := D) (ci := 5) (v := .ref mP) (C := RX5) (T := TX5) (N := 17) hx hb hts k_2 hown hK.1 hP 0 rfl rfl 0 (by decide) k_1 (fun _ h9 => h9) rfl dX5_areSeveral_34 ?_
  refine lv_iconst (v := 3) hx hb dX5_areSeveral_37 (by decide) ?_
  refine lv_aload_n hx hb dX5_areSeveral_38 rfl (lv_at hl 3 rfl) ?_
  refine va_get (D := D) (ci := 5) (v := .ref mV) (C := RX5) (T := TX5) (N := 17) hx hb hts k_2 hown hK.1 hP 0 rfl rfl 7 (by decide) k_3 (fun _ h9 => h9) rfl dX5_areSeveral_39 ?_
  refine lv_iload_n hx hb dX5_areSeveral_42 rfl (lv_at hl 5 rfl) ?_
  refine ld_i hx hb hK.1 hP 2 0 rfl rfl (ix_lit (by decide)) 3 (by decide) (v := gv 3) rfl dX5_areSeveral_43 ?_
  refine lv_imul hx hb dX5_areSeveral_44 ?_
  refine lv_iload hx hb dX5_areSeveral_45 (lv_at hl 0 rfl) ?_
  refine lv_iadd hx hb dX5_areSeveral_47 ?_
  refine ld_i hx hb hK.1 hP 1 0 rfl rfl (ix3l (hv 3 (by decide)) 0 (by decide)) (((3 * (gv 3)) + 0).toNatClampNeg) rfl (v := gp (((3 * (gv 3)) + 0).toNatClampNeg)) rfl dX5_areSeveral_48 ?_
  refine lv_aload_n hx hb dX5_areSeveral_49 rfl (lv_at hl 3 rfl) ?_
  refine va_get (D := D) (ci := 5) (v := .ref mP) (C := RX5) (T := TX5) (N := 17) hx hb hts k_2 hown hK.1 hP 0 rfl rfl 0 (by decide) k_1 (fun _ h9 => h9) rfl dX5_areSeveral_50 ?_
  refine lv_iconst (v := 3) hx hb dX5_areSeveral_53 (by decide) ?_
  refine lv_aload_n hx hb dX5_areSeveral_54 rfl (lv_at hl 3 rfl) ?_
  refine va_get (D := D) (ci := 5) (v := .ref mV) (C := RX5) (T := TX5) (N := 17) hx hb hts k_2 hown hK.1 hP 0 rfl rfl 7 (by decide) k_3 (fun _ h9 => h9) rfl dX5_areSeveral_55 ?_
  refine lv_iload_n hx hb dX5_areSeveral_58 rfl (lv_at hl 2 rfl) ?_
  refine ld_i hx hb hK.1 hP 2 0 rfl rfl (ix_lit (by decide)) 2 (by decide) (v := gv 2) rfl dX5_areSeveral_59 ?_
  refine lv_imul hx hb dX5_areSeveral_60 ?_
  refine lv_iload hx hb dX5_areSeveral_61 (lv_at hl 0 rfl) ?_
  refine lv_iadd hx hb dX5_areSeveral_63 ?_
  refine ld_i hx hb hK.1 hP 1 0 rfl rfl (ix3l (hv 2 (by decide)) 0 (by decide)) (((3 * (gv 2)) + 0).toNatClampNeg) rfl (v := gp (((3 * (gv 2)) + 0).toNatClampNeg)) rfl dX5_areSeveral_64 ?_
  refine lv_icmp_ne (tgt := 72) hx hb dX5_areSeveral_65 (by decide) (fun c_13 => ?_) (fun c_13 => ?_)
  · skip
    refine lv_iconst (v := 0) hx hb dX5_areSeveral_72 (by decide) ?_
    refine lv_istore (lv' := [(4, .int 0), (5, .int 0), (3, .int 2), (0, .ref o), (1, .int 1), (2, .int 3)]) hx hb dX5_areSeveral_73 hl (by decide) rfl (fun ls hl => ?_)
    refine lv_iinc (v := 1) (lv' := [(5, .int 1), (4, .int 0), (3, .int 2), (0, .ref o), (1, .int 1), (2, .int 3)]) hx hb dX5_areSeveral_75 hl (k := 1) rfl (by decide) (by decide) rfl (fun ls hl => ?_)
    refine lv_goto (tgt := 22) hx hb dX5_areSeveral_78 (by decide) ?_
    refine lv_iload hx hb dX5_areSeveral_22 (lv_at hl 0 rfl) ?_
    refine lv_iconst (v := 3) hx hb dX5_areSeveral_24 (by decide) ?_
    refine lv_icmp_ge (tgt := 81) hx hb dX5_areSeveral_25 (by decide) (fun h => absurd h (by decide)) (fun _ => ?_)
    refine lv_iload hx hb dX5_areSeveral_28 (lv_at hl 1 rfl) ?_
    refine lv_if_eq (tgt := 72) hx hb dX5_areSeveral_30 (by decide) (fun _ => ?_) (fun h => absurd (by decide) h)
    refine lv_iconst (v := 0) hx hb dX5_areSeveral_72 (by decide) ?_
    refine lv_istore (lv' := [(4, .int 0), (5, .int 1), (3, .int 2), (0, .ref o), (1, .int 1), (2, .int 3)]) hx hb dX5_areSeveral_73 hl (by decide) rfl (fun ls hl => ?_)
    refine lv_iinc (v := 2) (lv' := [(5, .int 2), (4, .int 0), (3, .int 2), (0, .ref o), (1, .int 1), (2, .int 3)]) hx hb dX5_areSeveral_75 hl (k := 1) rfl (by decide) (by decide) rfl (fun ls hl => ?_)
    refine lv_goto (tgt := 22) hx hb dX5_areSeveral_78 (by decide) ?_
    refine lv_iload hx hb dX5_areSeveral_22 (lv_at hl 0 rfl) ?_
    refine lv_iconst (v := 3) hx hb dX5_areSeveral_24 (by decide) ?_
    refine lv_icmp_ge (tgt := 81) hx hb dX5_areSeveral_25 (by decide) (fun h => absurd h (by decide)) (fun _ => ?_)
    refine lv_iload hx hb dX5_areSeveral_28 (lv_at hl 1 rfl) ?_
    refine lv_if_eq (tgt := 72) hx hb dX5_areSeveral_30 (by decide) (fun _ => ?_) (fun h => absurd (by decide) h)
    refine lv_iconst (v := 0) hx hb dX5_areSeveral_72 (by decide) ?_
    refine lv_istore (lv' := [(4, .int 0), (5, .int 2), (3, .int 2), (0, .ref o), (1, .int 1), (2, .int 3)]) hx hb dX5_areSeveral_73 hl (by decide) rfl (fun ls hl => ?_)
    refine lv_iinc (v := 3) (lv' := [(5, .int 3), (4, .int 0), (3, .int 2), (0, .ref o), (1, .int 1), (2, .int 3)]) hx hb dX5_areSeveral_75 hl (k := 1) rfl (by decide) (by decide) rfl (fun ls hl => ?_)
    refine lv_goto (tgt := 22) hx hb dX5_areSeveral_78 (by decide) ?_
    refine lv_iload hx hb dX5_areSeveral_22 (lv_at hl 0 rfl) ?_
    refine lv_iconst (v := 3) hx hb dX5_areSeveral_24 (by decide) ?_
    refine lv_icmp_ge (tgt := 81) hx hb dX5_areSeveral_25 (by decide) (fun _ => ?_) (fun h => absurd (by decide) h)
    refine lv_iload_n hx hb dX5_areSeveral_81 rfl (lv_at hl 4 rfl) ?_
    refine lv_if_ne (tgt := 90) hx hb dX5_areSeveral_82 (by decide) (fun _ => ?_) (fun h => absurd h (by decide))
    refine lv_iconst (v := 1) hx hb dX5_areSeveral_90 (by decide) ?_
    refine lv_goto (tgt := 95) hx hb dX5_areSeveral_91 (by decide) ?_
    refine lv_istore_n (lv' := [(1, .int 1), (5, .int 3), (4, .int 0), (3, .int 2), (0, .ref o), (2, .int 3)]) hx hb dX5_areSeveral_95 rfl hl (by decide) rfl (fun ls hl => ?_)
    have hq : z5_areSeveral gp gv = 1 := hj_8
    exact jo_X5_areSeveral_7 hv hx hb hr hml hown hts hlk hP hK hq ls (lv_sub hl [4, 0, 5, 3] rfl)
  · skip
    refine lv_iconst (v := 1) hx hb dX5_areSeveral_68 (by decide) ?_
    refine lv_goto (tgt := 73) hx hb dX5_areSeveral_69 (by decide) ?_
    refine lv_istore (lv' := [(4, .int 1), (5, .int 0), (3, .int 2), (0, .ref o), (1, .int 1), (2, .int 3)]) hx hb dX5_areSeveral_73 hl (by decide) rfl (fun ls hl => ?_)
    refine lv_iinc (v := 1) (lv' := [(5, .int 1), (4, .int 1), (3, .int 2), (0, .ref o), (1, .int 1), (2, .int 3)]) hx hb dX5_areSeveral_75 hl (k := 1) rfl (by decide) (by decide) rfl (fun ls hl => ?_)
    refine lv_goto (tgt := 22) hx hb dX5_areSeveral_78 (by decide) ?_
    refine lv_iload hx hb dX5_areSeveral_22 (lv_at hl 0 rfl) ?_
    refine lv_iconst (v := 3) hx hb dX5_areSeveral_24 (by decide) ?_
    refine lv_icmp_ge (tgt := 81) hx hb dX5_areSeveral_25 (by decide) (fun h => absurd h (by decide)) (fun _ => ?_)
    refine lv_iload hx hb dX5_areSeveral_28 (lv_at hl 1 rfl) ?_
    refine lv_if_eq (tgt := 72) hx hb dX5_areSeveral_30 (by decide) (fun h => absurd h (by decide)) (fun _ => ?_)
    refine lv_aload_n hx hb dX5_areSeveral_33 rfl (lv_at hl 3 rfl) ?_
    refine va_get (D := D) (ci := 5) (v := .ref mP) (C := RX5) (T := TX5) (N := 17) hx hb hts k_2 hown hK.1 hP 0 rfl rfl 0 (by decide) k_1 (fun _ h9 => h9) rfl dX5_areSeveral_34 ?_
    refine lv_iconst (v := 3) hx hb dX5_areSeveral_37 (by decide) ?_
    refine lv_aload_n hx hb dX5_areSeveral_38 rfl (lv_at hl 3 rfl) ?_
    refine va_get (D := D) (ci := 5) (v := .ref mV) (C := RX5) (T := TX5) (N := 17) hx hb hts k_2 hown hK.1 hP 0 rfl rfl 7 (by decide) k_3 (fun _ h9 => h9) rfl dX5_areSeveral_39 ?_
    refine lv_iload_n hx hb dX5_areSeveral_42 rfl (lv_at hl 5 rfl) ?_
    refine ld_i hx hb hK.1 hP 2 0 rfl rfl (ix_lit (by decide)) 3 (by decide) (v := gv 3) rfl dX5_areSeveral_43 ?_
    refine lv_imul hx hb dX5_areSeveral_44 ?_
    refine lv_iload hx hb dX5_areSeveral_45 (lv_at hl 0 rfl) ?_
    refine lv_iadd hx hb dX5_areSeveral_47 ?_
    refine ld_i hx hb hK.1 hP 1 0 rfl rfl (ix3l (hv 3 (by decide)) 1 (by decide)) (((3 * (gv 3)) + 1).toNatClampNeg) rfl (v := gp (((3 * (gv 3)) + 1).toNatClampNeg)) rfl dX5_areSeveral_48 ?_
    refine lv_aload_n hx hb dX5_areSeveral_49 rfl (lv_at hl 3 rfl) ?_
    refine va_get (D := D) (ci := 5) (v := .ref mP) (C := RX5) (T := TX5) (N := 17) hx hb hts k_2 hown hK.1 hP 0 rfl rfl 0 (by decide) k_1 (fun _ h9 => h9) rfl dX5_areSeveral_50 ?_
    refine lv_iconst (v := 3) hx hb dX5_areSeveral_53 (by decide) ?_
    refine lv_aload_n hx hb dX5_areSeveral_54 rfl (lv_at hl 3 rfl) ?_
    refine va_get (D := D) (ci := 5) (v := .ref mV) (C := RX5) (T := TX5) (N := 17) hx hb hts k_2 hown hK.1 hP 0 rfl rfl 7 (by decide) k_3 (fun _ h9 => h9) rfl dX5_areSeveral_55 ?_
    refine lv_iload_n hx hb dX5_areSeveral_58 rfl (lv_at hl 2 rfl) ?_
    refine ld_i hx hb hK.1 hP 2 0 rfl rfl (ix_lit (by decide)) 2 (by decide) (v := gv 2) rfl dX5_areSeveral_59 ?_
    refine lv_imul hx hb dX5_areSeveral_60 ?_
    refine lv_iload hx hb dX5_areSeveral_61 (lv_at hl 0 rfl) ?_
    refine lv_iadd hx hb dX5_areSeveral_63 ?_
    refine ld_i hx hb hK.1 hP 1 0 rfl rfl (ix3l (hv 2 (by decide)) 1 (by decide)) (((3 * (gv 2)) + 1).toNatClampNeg) rfl (v := gp (((3 * (gv 2)) + 1).toNatClampNeg)) rfl dX5_areSeveral_64 ?_
    refine lv_icmp_ne (tgt := 72) hx hb dX5_areSeveral_65 (by decide) (fun c_14 => ?_) (fun c_14 => ?_)
    · skip
      refine lv_iconst (v := 0) hx hb dX5_areSeveral_72 (by decide) ?_
      refine lv_istore (lv' := [(4, .int 0), (5, .int 1), (3, .int 2), (0, .ref o), (1, .int 1), (2, .int 3)]) hx hb dX5_areSeveral_73 hl (by decide) rfl (fun ls hl => ?_)
      refine lv_iinc (v := 2) (lv' := [(5, .int 2), (4, .int 0), (3, .int 2), (0, .ref o), (1, .int 1), (2, .int 3)]) hx hb dX5_areSeveral_75 hl (k := 1) rfl (by decide) (by decide) rfl (fun ls hl => ?_)
      refine lv_goto (tgt := 22) hx hb dX5_areSeveral_78 (by decide) ?_
      refine lv_iload hx hb dX5_areSeveral_22 (lv_at hl 0 rfl) ?_
      refine lv_iconst (v := 3) hx hb dX5_areSeveral_24 (by decide) ?_
      refine lv_icmp_ge (tgt := 81) hx hb dX5_areSeveral_25 (by decide) (fun h => absurd h (by decide)) (fun _ => ?_)
      refine lv_iload hx hb dX5_areSeveral_28 (lv_at hl 1 rfl) ?_
      refine lv_if_eq (tgt := 72) hx hb dX5_areSeveral_30 (by decide) (fun _ => ?_) (fun h => absurd (by decide) h)
      refine lv_iconst (v := 0) hx hb dX5_areSeveral_72 (by decide) ?_
      refine lv_istore (lv' := [(4, .int 0), (5, .int 2), (3, .int 2), (0, .ref o), (1, .int 1), (2, .int 3)]) hx hb dX5_areSeveral_73 hl (by decide) rfl (fun ls hl => ?_)
      refine lv_iinc (v := 3) (lv' := [(5, .int 3), (4, .int 0), (3, .int 2), (0, .ref o), (1, .int 1), (2, .int 3)]) hx hb dX5_areSeveral_75 hl (k := 1) rfl (by decide) (by decide) rfl (fun ls hl => ?_)
      refine lv_goto (tgt := 22) hx hb dX5_areSeveral_78 (by decide) ?_
      refine lv_iload hx hb dX5_areSeveral_22 (lv_at hl 0 rfl) ?_
      refine lv_iconst (v := 3) hx hb dX5_areSeveral_24 (by decide) ?_
      refine lv_icmp_ge (tgt := 81) hx hb dX5_areSeveral_25 (by decide) (fun _ => ?_) (fun h => absurd (by decide) h)
      refine lv_iload_n hx hb dX5_areSeveral_81 rfl (lv_at hl 4 rfl) ?_
      refine lv_if_ne (tgt := 90) hx hb dX5_areSeveral_82 (by decide) (fun _ => ?_) (fun h => absurd h (by decide))
      refine lv_iconst (v := 1) hx hb dX5_areSeveral_90 (by decide) ?_
      refine lv_goto (tgt := 95) hx hb dX5_areSeveral_91 (by decide) ?_
      refine lv_istore_n (lv' := [(1, .int 1), (5, .int 3), (4, .int 0), (3, .int 2), (0, .ref o), (2, .int 3)]) hx hb dX5_areSeveral_95 rfl hl (by decide) rfl (fun ls hl => ?_)
      have hq : z5_areSeveral gp gv = 1 := hj_8
      exact jo_X5_areSeveral_7 hv hx hb hr hml hown hts hlk hP hK hq ls (lv_sub hl [4, 0, 5, 3] rfl)
    · skip
      refine lv_iconst (v := 1) hx hb dX5_areSeveral_68 (by decide) ?_
      refine lv_goto (tgt := 73) hx hb dX5_areSeveral_69 (by decide) ?_
      refine lv_istore (lv' := [(4, .int 1), (5, .int 1), (3, .int 2), (0, .ref o), (1, .int 1), (2, .int 3)]) hx hb dX5_areSeveral_73 hl (by decide) rfl (fun ls hl => ?_)
      refine lv_iinc (v := 2) (lv' := [(5, .int 2), (4, .int 1), (3, .int 2), (0, .ref o), (1, .int 1), (2, .int 3)]) hx hb dX5_areSeveral_75 hl (k := 1) rfl (by decide) (by decide) rfl (fun ls hl => ?_)
      refine lv_goto (tgt := 22) hx hb dX5_areSeveral_78 (by decide) ?_
      refine lv_iload hx hb dX5_areSeveral_22 (lv_at hl 0 rfl) ?_
      refine lv_iconst (v := 3) hx hb dX5_areSeveral_24 (by decide) ?_
      refine lv_icmp_ge (tgt := 81) hx hb dX5_areSeveral_25 (by decide) (fun h => absurd h (by decide)) (fun _ => ?_)
      refine lv_iload hx hb dX5_areSeveral_28 (lv_at hl 1 rfl) ?_
      refine lv_if_eq (tgt := 72) hx hb dX5_areSeveral_30 (by decide) (fun h => absurd h (by decide)) (fun _ => ?_)
      refine lv_aload_n hx hb dX5_areSeveral_33 rfl (lv_at hl 3 rfl) ?_
      refine va_get (D := D) (ci := 5) (v := .ref mP) (C := RX5) (T := TX5) (N := 17) hx hb hts k_2 hown hK.1 hP 0 rfl rfl 0 (by decide) k_1 (fun _ h9 => h9) rfl dX5_areSeveral_34 ?_
      refine lv_iconst (v := 3) hx hb dX5_areSeveral_37 (by decide) ?_
      refine lv_aload_n hx hb dX5_areSeveral_38 rfl (lv_at hl 3 rfl) ?_
      refine va_get (D := D) (ci := 5) (v := .ref mV) (C := RX5) (T := TX5) (N := 17) hx hb hts k_2 hown hK.1 hP 0 rfl rfl 7 (by decide) k_3 (fun _ h9 => h9) rfl dX5_areSeveral_39 ?_
      refine lv_iload_n hx hb dX5_areSeveral_42 rfl (lv_at hl 5 rfl) ?_
      refine ld_i hx hb hK.1 hP 2 0 rfl rfl (ix_lit (by decide)) 3 (by decide) (v := gv 3) rfl dX5_areSeveral_43 ?_
      refine lv_imul hx hb dX5_areSeveral_44 ?_
      refine lv_iload hx hb dX5_areSeveral_45 (lv_at hl 0 rfl) ?_
      refine lv_iadd hx hb dX5_areSeveral_47 ?_
      refine ld_i hx hb hK.1 hP 1 0 rfl rfl (ix3l (hv 3 (by decide)) 2 (by decide)) (((3 * (gv 3)) + 2).toNatClampNeg) rfl (v := gp (((3 * (gv 3)) + 2).toNatClampNeg)) rfl dX5_areSeveral_48 ?_
      refine lv_aload_n hx hb dX5_areSeveral_49 rfl (lv_at hl 3 rfl) ?_
      refine va_get (D := D) (ci := 5) (v := .ref mP) (C := RX5) (T := TX5) (N := 17) hx hb hts k_2 hown hK.1 hP 0 rfl rfl 0 (by decide) k_1 (fun _ h9 => h9) rfl dX5_areSeveral_50 ?_
      refine lv_iconst (v := 3) hx hb dX5_areSeveral_53 (by decide) ?_
      refine lv_aload_n hx hb dX5_areSeveral_54 rfl (lv_at hl 3 rfl) ?_
      refine va_get (D := D) (ci := 5) (v := .ref mV) (C := RX5) (T := TX5) (N := 17) hx hb hts k_2 hown hK.1 hP 0 rfl rfl 7 (by decide) k_3 (fun _ h9 => h9) rfl dX5_areSeveral_55 ?_
      refine lv_iload_n hx hb dX5_areSeveral_58 rfl (lv_at hl 2 rfl) ?_
      refine ld_i hx hb hK.1 hP 2 0 rfl rfl (ix_lit (by decide)) 2 (by decide) (v := gv 2) rfl dX5_areSeveral_59 ?_
      refine lv_imul hx hb dX5_areSeveral_60 ?_
      refine lv_iload hx hb dX5_areSeveral_61 (lv_at hl 0 rfl) ?_
      refine lv_iadd hx hb dX5_areSeveral_63 ?_
      refine ld_i hx hb hK.1 hP 1 0 rfl rfl (ix3l (hv 2 (by decide)) 2 (by decide)) (((3 * (gv 2)) + 2).toNatClampNeg) rfl (v := gp (((3 * (gv 2)) + 2).toNatClampNeg)) rfl dX5_areSeveral_64 ?_
      refine lv_icmp_ne (tgt := 72) hx hb dX5_areSeveral_65 (by decide) (fun c_15 => ?_) (fun c_15 => ?_)
      · skip
        refine lv_iconst (v := 0) hx hb dX5_areSeveral_72 (by decide) ?_
        refine lv_istore (lv' := [(4, .int 0), (5, .int 2), (3, .int 2), (0, .ref o), (1, .int 1), (2, .int 3)]) hx hb dX5_areSeveral_73 hl (by decide) rfl (fun ls hl => ?_)
        refine lv_iinc (v := 3) (lv' := [(5, .int 3), (4, .int 0), (3, .int 2), (0, .ref o), (1, .int 1), (2, .int 3)]) hx hb dX5_areSeveral_75 hl (k := 1) rfl (by decide) (by decide) rfl (fun ls hl => ?_)
        refine lv_goto (tgt := 22) hx hb dX5_areSeveral_78 (by decide) ?_
        refine lv_iload hx hb dX5_areSeveral_22 (lv_at hl 0 rfl) ?_
        refine lv_iconst (v := 3) hx hb dX5_areSeveral_24 (by decide) ?_
        refine lv_icmp_ge (tgt := 81) hx hb dX5_areSeveral_25 (by decide) (fun _ => ?_) (fun h => absurd (by decide) h)
        refine lv_iload_n hx hb dX5_areSeveral_81 rfl (lv_at hl 4 rfl) ?_
        refine lv_if_ne (tgt := 90) hx hb dX5_areSeveral_82 (by decide) (fun _ => ?_) (fun h => absurd h (by decide))
        refine lv_iconst (v := 1) hx hb dX5_areSeveral_90 (by decide) ?_
        refine lv_goto (tgt := 95) hx hb dX5_areSeveral_91 (by decide) ?_
        refine lv_istore_n (lv' := [(1, .int 1), (5, .int 3), (4, .int 0), (3, .int 2), (0, .ref o), (2, .int 3)]) hx hb dX5_areSeveral_95 rfl hl (by decide) rfl (fun ls hl => ?_)
        have hq : z5_areSeveral gp gv = 1 := hj_8
        exact jo_X5_areSeveral_7 hv hx hb hr hml hown hts hlk hP hK hq ls (lv_sub hl [4, 0, 5, 3] rfl)
      · skip
        refine lv_iconst (v := 1) hx hb dX5_areSeveral_68 (by decide) ?_
        refine lv_goto (tgt := 73) hx hb dX5_areSeveral_69 (by decide) ?_
        refine lv_istore (lv' := [(4, .int 1), (5, .int 2), (3, .int 2), (0, .ref o), (1, .int 1), (2, .int 3)]) hx hb dX5_areSeveral_73 hl (by decide) rfl (fun ls hl => ?_)
        refine lv_iinc (v := 3) (lv' := [(5, .int 3), (4, .int 1), (3, .int 2), (0, .ref o), (1, .int 1), (2, .int 3)]) hx hb dX5_areSeveral_75 hl (k := 1) rfl (by decide) (by decide) rfl (fun ls hl => ?_)
        refine lv_goto (tgt := 22) hx hb dX5_areSeveral_78 (by decide) ?_
        refine lv_iload hx hb dX5_areSeveral_22 (lv_at hl 0 rfl) ?_
        refine lv_iconst (v := 3) hx hb dX5_areSeveral_24 (by decide) ?_
        refine lv_icmp_ge (tgt := 81) hx hb dX5_areSeveral_25 (by decide) (fun _ => ?_) (fun h => absurd (by decide) h)
        refine lv_iload_n hx hb dX5_areSeveral_81 rfl (lv_at hl 4 rfl) ?_
        refine lv_if_ne (tgt := 90) hx hb dX5_areSeveral_82 (by decide) (fun _ => ?_) (fun h => absurd h (by decide))
        refine lv_iconst (v := 1) hx hb dX5_areSeveral_90 (by decide) ?_
        refine lv_goto (tgt := 95) hx hb dX5_areSeveral_91 (by decide) ?_
        refine lv_istore_n (lv' := [(1, .int 1), (5, .int 3), (4, .int 1), (3, .int 2), (0, .ref o), (2, .int 3)]) hx hb dX5_areSeveral_95 rfl hl (by decide) rfl (fun ls hl => ?_)
        have hq : z5_areSeveral gp gv = 1 := hj_8
        exact jo_X5_areSeveral_7 hv hx hb hr hml hown hts hlk hP hK hq ls (lv_sub hl [4, 0, 5, 3] rfl)
set_option maxHeartbeats 4000000 in
set_option maxRecDepth 100000 in
theorem jo_X5_areSeveral_9 {l : Launch} {D : va_G} {cI cJ : ClassId} {pG : Program} {eG : Env} {sG : State} {mG : MethodId} {below : List Frame} {meth : Method} {cG : Code} {o : Nat} {mP : Nat} {mL : Nat} {mC : Nat} {mN : Nat} {mF : Nat} {mR : Nat} {mD : Nat} {mV : Nat} {mX : Nat} {mA : Nat} {mK : Nat} {mT : Nat} {mU : Nat} {mH : Nat} {mI : Nat} {cm : Int32} {pm : Int32} {gp : Nat → Int32} {gv : Nat → Int32} (hv : ∀ n, n < 5 → ok_i (gv n)) (hx : pG.tables.exec = Jvm.exec) (hb : cG.code = cX5_areSeveral) (hr : meth.sig.returnType = some .boolean) (hml : cG.maxLocals = 7) (hown : sG.vm.findClass RX5 = some mG.cls) (hts : ∀ x ∈ wsX5_areSeveral, x.before ([.ref o] : List Value).toArray sG = true) (hlk : meth.locks = false) (hP : va_P D vwCl [kM o mP mL mC mN mF mR mD mV mX mA mK cm mT pm mU mH mI, kA mP cI 180 gp, kA mV cI 5 gv] sG.heap) (hK : gd_K D cI cJ sG) (hj_9 : z5_areSeveral gp gv = 1) (ls : Array Slot) (hl : lv_has ls 7 [(0, .ref o), (1, .int 1), (2, .int 3), (3, .int 0)]) : W pG l eG (headSpec wsX5_areSeveral ({ frames := 1, cells := 0, slots := 0, locals := 30 })).room sG mG ([.ref o] : List Value).toArray below meth cG sG.heap [] 0 0 (MQ below (vp_Si (fun r : Int32 => r = z5_areSeveral gp gv)) ([.ref o] : List Value).toArray sG 0 0 (fun _ => False)) (F0 mG 96 ls []) := by
  have k_1 := hts (.fieldLink RX5 7 "ConicRowsModel" "points" "[I") (by decide +kernel)
  have k_2 : ∀ w ∈ wsX50, w ∈ wsX5_areSeveral := by decide +kernel
  have k_3 := hts (.fieldLink RX5 32 "ConicRowsModel" "five" "[I") (by decide +kernel)
  refine lv_iinc (v := 1) (lv' := [(3, .int 1), (0, .ref o), (1, .int 1), (2, .int 3)]) hx hb dX5_areSeveral_96 hl (k := 3) rfl (by decide) (by decide) rfl (fun ls hl => ?_)
  refine lv_goto (tgt := 11) hx hb dX5_areSeveral_99 (by decide) ?_
  refine lv_iload_n hx hb dX5_areSeveral_11 rfl (lv_at hl 0 rfl) ?_
  refine lv_iload_n hx hb dX5_areSeveral_12 rfl (lv_at hl 3 rfl) ?_
  refine lv_icmp_ge (tgt := 102) hx hb dX5_areSeveral_13 (by decide) (fun h => absurd h (by decide)) (fun _ => ?_)
  refine lv_iconst (v := 1) hx hb dX5_areSeveral_16 (by decide) ?_
  refine lv_istore (lv' := [(4, .int 1), (3, .int 1), (0, .ref o), (1, .int 1), (2, .int 3)]) hx hb dX5_areSeveral_17 hl (by decide) rfl (fun ls hl => ?_)
  refine lv_iconst (v := 0) hx hb dX5_areSeveral_19 (by decide) ?_
  refine lv_istore (lv' := [(5, .int 0), (4, .int 1), (3, .int 1), (0, .ref o), (1, .int 1), (2, .int 3)]) hx hb dX5_areSeveral_20 hl (by decide) rfl (fun ls hl => ?_)
  refine lv_iload hx hb dX5_areSeveral_22 (lv_at hl 0 rfl) ?_
  refine lv_iconst (v := 3) hx hb dX5_areSeveral_24 (by decide) ?_
  refine lv_icmp_ge (tgt := 81) hx hb dX5_areSeveral_25 (by decide) (fun h => absurd h (by decide)) (fun _ => ?_)
  refine lv_iload hx hb dX5_areSeveral_28 (lv_at hl 1 rfl) ?_
  refine lv_if_eq (tgt := 72) hx hb dX5_areSeveral_30 (by decide) (fun h => absurd h (by decide)) (fun _ => ?_)
  refine lv_aload_n hx hb dX5_areSeveral_33 rfl (lv_at hl 3 rfl) ?_
  refine va_get (D := D) (ci := 5) (v := .ref mP) (C := RX5) (T := TX5) (N := 17) hx hb hts k_2 hown hK.1 hP 0 rfl rfl 0 (by decide) k_1 (fun _ h9 => h9) rfl dX5_areSeveral_34 ?_
  refine lv_iconst (v := 3) hx hb dX5_areSeveral_37 (by decide) ?_
  refine lv_aload_n hx hb dX5_areSeveral_38 rfl (lv_at hl 3 rfl) ?_
  refine va_get (D := D) (ci := 5) (v := .ref mV) (C := RX5) (T := TX5) (N := 17) hx hb hts k_2 hown hK.1 hP 0 rfl rfl 7 (by decide) k_3 (fun _ h9 => h9) rfl dX5_areSeveral_39 ?_
  refine lv_iload_n hx hb dX5_areSeveral_42 rfl (lv_at hl 5 rfl) ?_
  refine ld_i hx hb hK.1 hP 2 0 rfl rfl (ix_lit (by decide)) 3 (by decide) (v := gv 3) rfl dX5_areSeveral_43 ?_
  refine lv_imul hx hb dX5_areSeveral_44 ?_
  refine lv_iload hx hb dX5_areSeveral_45 (lv_at hl 0 rfl) ?_
  refine lv_iadd hx hb dX5_areSeveral_47 ?_
  refine ld_i hx hb hK.1 hP 1 0 rfl rfl (ix3l (hv 3 (by decide)) 0 (by decide)) (((3 * (gv 3)) + 0).toNatClampNeg) rfl (v := gp (((3 * (gv 3)) + 0).toNatClampNeg)) rfl dX5_areSeveral_48 ?_
  refine lv_aload_n hx hb dX5_areSeveral_49 rfl (lv_at hl 3 rfl) ?_
  refine va_get (D := D) (ci := 5) (v := .ref mP) (C := RX5) (T := TX5) (N := 17) hx hb hts k_2 hown hK.1 hP 0 rfl rfl 0 (by decide) k_1 (fun _ h9 => h9) rfl dX5_areSeveral_50 ?_
  refine lv_iconst (v := 3) hx hb dX5_areSeveral_53 (by decide) ?_
  refine lv_aload_n hx hb dX5_areSeveral_54 rfl (lv_at hl 3 rfl) ?_
  refine va_get (D := D) (ci := 5) (v := .ref mV) (C := RX5) (T := TX5) (N := 17) hx hb hts k_2 hown hK.1 hP 0 rfl rfl 7 (by decide) k_3 (fun _ h9 => h9) rfl dX5_areSeveral_55 ?_
  refine lv_iload_n hx hb dX5_areSeveral_58 rfl (lv_at hl 2 rfl) ?_
  refine ld_i hx hb hK.1 hP 2 0 rfl rfl (ix_lit (by decide)) 1 (by decide) (v := gv 1) rfl dX5_areSeveral_59 ?_
  refine lv_imul hx hb dX5_areSeveral_60 ?_
  refine lv_iload hx hb dX5_areSeveral_61 (lv_at hl 0 rfl) ?_
  refine lv_iadd hx hb dX5_areSeveral_63 ?_
  refine ld_i hx hb hK.1 hP 1 0 rfl rfl (ix3l (hv 1 (by decide)) 0 (by decide)) (((3 * (gv 1)) + 0).toNatClampNeg) rfl (v := gp (((3 * (gv 1)) + 0).toNatClampNeg)) rfl dX5_areSeveral_64 ?_
  refine lv_icmp_ne (tgt := 72) hx hb dX5_areSeveral_65 (by decide) (fun c_16 => ?_) (fun c_16 => ?_)
  · skip
    refine lv_iconst (v := 0) hx hb dX5_areSeveral_72 (by decide) ?_
    refine lv_istore (lv' := [(4, .int 0), (5, .int 0), (3, .int 1), (0, .ref o), (1, .int 1), (2, .int 3)]) hx hb dX5_areSeveral_73 hl (by decide) rfl (fun ls hl => ?_)
    refine lv_iinc (v := 1) (lv' := [(5, .int 1), (4, .int 0), (3, .int 1), (0, .ref o), (1, .int 1), (2, .int 3)]) hx hb dX5_areSeveral_75 hl (k := 1) rfl (by decide) (by decide) rfl (fun ls hl => ?_)
    refine lv_goto (tgt := 22) hx hb dX5_areSeveral_78 (by decide) ?_
    refine lv_iload hx hb dX5_areSeveral_22 (lv_at hl 0 rfl) ?_
    refine lv_iconst (v := 3) hx hb dX5_areSeveral_24 (by decide) ?_
    refine lv_icmp_ge (tgt := 81) hx hb dX5_areSeveral_25 (by decide) (fun h => absurd h (by decide)) (fun _ => ?_)
    refine lv_iload hx hb dX5_areSeveral_28 (lv_at hl 1 rfl) ?_
    refine lv_if_eq (tgt := 72) hx hb dX5_areSeveral_30 (by decide) (fun _ => ?_) (fun h => absurd (by decide) h)
    refine lv_iconst (v := 0) hx hb dX5_areSeveral_72 (by decide) ?_
    refine lv_istore (lv' := [(4, .int 0), (5, .int 1), (3, .int 1), (0, .ref o), (1, .int 1), (2, .int 3)]) hx hb dX5_areSeveral_73 hl (by decide) rfl (fun ls hl => ?_)
    refine lv_iinc (v := 2) (lv' := [(5, .int 2), (4, .int 0), (3, .int 1), (0, .ref o), (1, .int 1), (2, .int 3)]) hx hb dX5_areSeveral_75 hl (k := 1) rfl (by decide) (by decide) rfl (fun ls hl => ?_)
    refine lv_goto (tgt := 22) hx hb dX5_areSeveral_78 (by decide) ?_
    refine lv_iload hx hb dX5_areSeveral_22 (lv_at hl 0 rfl) ?_
    refine lv_iconst (v := 3) hx hb dX5_areSeveral_24 (by decide) ?_
    refine lv_icmp_ge (tgt := 81) hx hb dX5_areSeveral_25 (by decide) (fun h => absurd h (by decide)) (fun _ => ?_)
    refine lv_iload hx hb dX5_areSeveral_28 (lv_at hl 1 rfl) ?_
    refine lv_if_eq (tgt := 72) hx hb dX5_areSeveral_30 (by decide) (fun _ => ?_) (fun h => absurd (by decide) h)
    refine lv_iconst (v := 0) hx hb dX5_areSeveral_72 (by decide) ?_
    refine lv_istore (lv' := [(4, .int 0), (5, .int 2), (3, .int 1), (0, .ref o), (1, .int 1), (2, .int 3)]) hx hb dX5_areSeveral_73 hl (by decide) rfl (fun ls hl => ?_)
    refine lv_iinc (v := 3) (lv' := [(5, .int 3), (4, .int 0), (3, .int 1), (0, .ref o), (1, .int 1), (2, .int 3)]) hx hb dX5_areSeveral_75 hl (k := 1) rfl (by decide) (by decide) rfl (fun ls hl => ?_)
    refine lv_goto (tgt := 22) hx hb dX5_areSeveral_78 (by decide) ?_
    refine lv_iload hx hb dX5_areSeveral_22 (lv_at hl 0 rfl) ?_
    refine lv_iconst (v := 3) hx hb dX5_areSeveral_24 (by decide) ?_
    refine lv_icmp_ge (tgt := 81) hx hb dX5_areSeveral_25 (by decide) (fun _ => ?_) (fun h => absurd (by decide) h)
    refine lv_iload_n hx hb dX5_areSeveral_81 rfl (lv_at hl 4 rfl) ?_
    refine lv_if_ne (tgt := 90) hx hb dX5_areSeveral_82 (by decide) (fun _ => ?_) (fun h => absurd h (by decide))
    refine lv_iconst (v := 1) hx hb dX5_areSeveral_90 (by decide) ?_
    refine lv_goto (tgt := 95) hx hb dX5_areSeveral_91 (by decide) ?_
    refine lv_istore_n (lv' := [(1, .int 1), (5, .int 3), (4, .int 0), (3, .int 1), (0, .ref o), (2, .int 3)]) hx hb dX5_areSeveral_95 rfl hl (by decide) rfl (fun ls hl => ?_)
    have hq : z5_areSeveral gp gv = 1 := hj_9
    exact jo_X5_areSeveral_8 hv hx hb hr hml hown hts hlk hP hK hq ls (lv_sub hl [4, 0, 5, 3] rfl)
  · skip
    refine lv_iconst (v := 1) hx hb dX5_areSeveral_68 (by decide) ?_
    refine lv_goto (tgt := 73) hx hb dX5_areSeveral_69 (by decide) ?_
    refine lv_istore (lv' := [(4, .int 1), (5, .int 0), (3, .int 1), (0, .ref o), (1, .int 1), (2, .int 3)]) hx hb dX5_areSeveral_73 hl (by decide) rfl (fun ls hl => ?_)
    refine lv_iinc (v := 1) (lv' := [(5, .int 1), (4, .int 1), (3, .int 1), (0, .ref o), (1, .int 1), (2, .int 3)]) hx hb dX5_areSeveral_75 hl (k := 1) rfl (by decide) (by decide) rfl (fun ls hl => ?_)
    refine lv_goto (tgt := 22) hx hb dX5_areSeveral_78 (by decide) ?_
    refine lv_iload hx hb dX5_areSeveral_22 (lv_at hl 0 rfl) ?_
    refine lv_iconst (v := 3) hx hb dX5_areSeveral_24 (by decide) ?_
    refine lv_icmp_ge (tgt := 81) hx hb dX5_areSeveral_25 (by decide) (fun h => absurd h (by decide)) (fun _ => ?_)
    refine lv_iload hx hb dX5_areSeveral_28 (lv_at hl 1 rfl) ?_
    refine lv_if_eq (tgt := 72) hx hb dX5_areSeveral_30 (by decide) (fun h => absurd h (by decide)) (fun _ => ?_)
    refine lv_aload_n hx hb dX5_areSeveral_33 rfl (lv_at hl 3 rfl) ?_
    refine va_get (D := D) (ci := 5) (v := .ref mP) (C := RX5) (T := TX5) (N := 17) hx hb hts k_2 hown hK.1 hP 0 rfl rfl 0 (by decide) k_1 (fun _ h9 => h9) rfl dX5_areSeveral_34 ?_
    refine lv_iconst (v := 3) hx hb dX5_areSeveral_37 (by decide) ?_
    refine lv_aload_n hx hb dX5_areSeveral_38 rfl (lv_at hl 3 rfl) ?_
    refine va_get (D := D) (ci := 5) (v := .ref mV) (C := RX5) (T := TX5) (N := 17) hx hb hts k_2 hown hK.1 hP 0 rfl rfl 7 (by decide) k_3 (fun _ h9 => h9) rfl dX5_areSeveral_39 ?_
    refine lv_iload_n hx hb dX5_areSeveral_42 rfl (lv_at hl 5 rfl) ?_
    refine ld_i hx hb hK.1 hP 2 0 rfl rfl (ix_lit (by decide)) 3 (by decide) (v := gv 3) rfl dX5_areSeveral_43 ?_
    refine lv_imul hx hb dX5_areSeveral_44 ?_
    refine lv_iload hx hb dX5_areSeveral_45 (lv_at hl 0 rfl) ?_
    refine lv_iadd hx hb dX5_areSeveral_47 ?_
    refine ld_i hx hb hK.1 hP 1 0 rfl rfl (ix3l (hv 3 (by decide)) 1 (by decide)) (((3 * (gv 3)) + 1).toNatClampNeg) rfl (v := gp (((3 * (gv 3)) + 1).toNatClampNeg)) rfl dX5_areSeveral_48 ?_
    refine lv_aload_n hx hb dX5_areSeveral_49 rfl (lv_at hl 3 rfl) ?_
    refine va_get (D := D) (ci := 5) (v := .ref mP) (C := RX5) (T := TX5) (N := 17) hx hb hts k_2 hown hK.1 hP 0 rfl rfl 0 (by decide) k_1 (fun _ h9 => h9) rfl dX5_areSeveral_50 ?_
    refine lv_iconst (v := 3) hx hb dX5_areSeveral_53 (by decide) ?_
    refine lv_aload_n hx hb dX5_areSeveral_54 rfl (lv_at hl 3 rfl) ?_
    refine va_get (D := D) (ci := 5) (v := .ref mV) (C := RX5) (T := TX5) (N := 17) hx hb hts k_2 hown hK.1 hP 0 rfl rfl 7 (by decide) k_3 (fun _ h9 => h9) rfl dX5_areSeveral_55 ?_
    refine lv_iload_n hx hb dX5_areSeveral_58 rfl (lv_at hl 2 rfl) ?_
    refine ld_i hx hb hK.1 hP 2 0 rfl rfl (ix_lit (by decide)) 1 (by decide) (v := gv 1) rfl dX5_areSeveral_59 ?_
    refine lv_imul hx hb dX5_areSeveral_60 ?_
    refine lv_iload hx hb dX5_areSeveral_61 (lv_at hl 0 rfl) ?_
    refine lv_iadd hx hb dX5_areSeveral_63 ?_
    refine ld_i hx hb hK.1 hP 1 0 rfl rfl (ix3l (hv 1 (by decide)) 1 (by decide)) (((3 * (gv 1)) + 1).toNatClampNeg) rfl (v := gp (((3 * (gv 1)) + 1).toNatClampNeg)) rfl dX5_areSeveral_64 ?_
    refine lv_icmp_ne (tgt := 72) hx hb dX5_areSeveral_65 (by decide) (fun c_17 => ?_) (fun c_17 => ?_)
    · skip
      refine lv_iconst (v := 0) hx hb dX5_areSeveral_72 (by decide) ?_
      refine lv_istore (lv' := [(4, .int 0), (5, .int 1), (3, .int 1), (0, .ref o), (1, .int 1), (2, .int 3)]) hx hb dX5_areSeveral_73 hl (by decide) rfl (fun ls hl => ?_)
      refine lv_iinc (v := 2) (lv' := [(5, .int 2), (4, .int 0), (3, .int 1), (0, .ref o), (1, .int 1), (2, .int 3)]) hx hb dX5_areSeveral_75 hl (k := 1) rfl (by decide) (by decide) rfl (fun ls hl => ?_)
      refine lv_goto (tgt := 22) hx hb dX5_areSeveral_78 (by decide) ?_
      refine lv_iload hx hb dX5_areSeveral_22 (lv_at hl 0 rfl) ?_
      refine lv_iconst (v := 3) hx hb dX5_areSeveral_24 (by decide) ?_
      refine lv_icmp_ge (tgt := 81) hx hb dX5_areSeveral_25 (by decide) (fun h => absurd h (by decide)) (fun _ => ?_)
      refine lv_iload hx hb dX5_areSeveral_28 (lv_at hl 1 rfl) ?_
      refine lv_if_eq (tgt := 72) hx hb dX5_areSeveral_30 (by decide) (fun _ => ?_) (fun h => absurd (by decide) h)
      refine lv_iconst (v := 0) hx hb dX5_areSeveral_72 (by decide) ?_
      refine lv_istore (lv' := [(4, .int 0), (5, .int 2), (3, .int 1), (0, .ref o), (1, .int 1), (2, .int 3)]) hx hb dX5_areSeveral_73 hl (by decide) rfl (fun ls hl => ?_)
      refine lv_iinc (v := 3) (lv' := [(5, .int 3), (4, .int 0), (3, .int 1), (0, .ref o), (1, .int 1), (2, .int 3)]) hx hb dX5_areSeveral_75 hl (k := 1) rfl (by decide) (by decide) rfl (fun ls hl => ?_)
      refine lv_goto (tgt := 22) hx hb dX5_areSeveral_78 (by decide) ?_
      refine lv_iload hx hb dX5_areSeveral_22 (lv_at hl 0 rfl) ?_
      refine lv_iconst (v := 3) hx hb dX5_areSeveral_24 (by decide) ?_
      refine lv_icmp_ge (tgt := 81) hx hb dX5_areSeveral_25 (by decide) (fun _ => ?_) (fun h => absurd (by decide) h)
      refine lv_iload_n hx hb dX5_areSeveral_81 rfl (lv_at hl 4 rfl) ?_
      refine lv_if_ne (tgt := 90) hx hb dX5_areSeveral_82 (by decide) (fun _ => ?_) (fun h => absurd h (by decide))
      refine lv_iconst (v := 1) hx hb dX5_areSeveral_90 (by decide) ?_
      refine lv_goto (tgt := 95) hx hb dX5_areSeveral_91 (by decide) ?_
      refine lv_istore_n (lv' := [(1, .int 1), (5, .int 3), (4, .int 0), (3, .int 1), (0, .ref o), (2, .int 3)]) hx hb dX5_areSeveral_95 rfl hl (by decide) rfl (fun ls hl => ?_)
      have hq : z5_areSeveral gp gv = 1 := hj_9
      exact jo_X5_areSeveral_8 hv hx hb hr hml hown hts hlk hP hK hq ls (lv_sub hl [4, 0, 5, 3] rfl)
    · skip
      refine lv_iconst (v := 1) hx hb dX5_areSeveral_68 (by decide) ?_
      refine lv_goto (tgt := 73) hx hb dX5_areSeveral_69 (by decide) ?_
      refine lv_istore (lv' := [(4, .int 1), (5, .int 1), (3, .int 1), (0, .ref o), (1, .int 1), (2, .int 3)]) hx hb dX5_areSeveral_73 hl (by decide) rfl (fun ls hl => ?_)
      refine lv_iinc (v := 2) (lv' := [(5, .int 2), (4, .int 1), (3, .int 1), (0, .ref o), (1, .int 1), (2, .int 3)]) hx hb dX5_areSeveral_75 hl (k := 1) rfl (by decide) (by decide) rfl (fun ls hl => ?_)
      refine lv_goto (tgt := 22) hx hb dX5_areSeveral_78 (by decide) ?_
      refine lv_iload hx hb dX5_areSeveral_22 (lv_at hl 0 rfl) ?_
      refine lv_iconst (v := 3) hx hb dX5_areSeveral_24 (by decide) ?_
      refine lv_icmp_ge (tgt := 81) hx hb dX5_areSeveral_25 (by decide) (fun h => absurd h (by decide)) (fun _ => ?_)
      refine lv_iload hx hb dX5_areSeveral_28 (lv_at hl 1 rfl) ?_
      refine lv_if_eq (tgt := 72) hx hb dX5_areSeveral_30 (by decide) (fun h => absurd h (by decide)) (fun _ => ?_)
      refine lv_aload_n hx hb dX5_areSeveral_33 rfl (lv_at hl 3 rfl) ?_
      refine va_get (D := D) (ci := 5) (v := .ref mP) (C := RX5) (T := TX5) (N := 17) hx hb hts k_2 hown hK.1 hP 0 rfl rfl 0 (by decide) k_1 (fun _ h9 => h9) rfl dX5_areSeveral_34 ?_
      refine lv_iconst (v := 3) hx hb dX5_areSeveral_37 (by decide) ?_
      refine lv_aload_n hx hb dX5_areSeveral_38 rfl (lv_at hl 3 rfl) ?_
      refine va_get (D := D) (ci := 5) (v := .ref mV) (C := RX5) (T := TX5) (N := 17) hx hb hts k_2 hown hK.1 hP 0 rfl rfl 7 (by decide) k_3 (fun _ h9 => h9) rfl dX5_areSeveral_39 ?_
      refine lv_iload_n hx hb dX5_areSeveral_42 rfl (lv_at hl 5 rfl) ?_
      refine ld_i hx hb hK.1 hP 2 0 rfl rfl (ix_lit (by decide)) 3 (by decide) (v := gv 3) rfl dX5_areSeveral_43 ?_
      refine lv_imul hx hb dX5_areSeveral_44 ?_
      refine lv_iload hx hb dX5_areSeveral_45 (lv_at hl 0 rfl) ?_
      refine lv_iadd hx hb dX5_areSeveral_47 ?_
      refine ld_i hx hb hK.1 hP 1 0 rfl rfl (ix3l (hv 3 (by decide)) 2 (by decide)) (((3 * (gv 3)) + 2).toNatClampNeg) rfl (v := gp (((3 * (gv 3)) + 2).toNatClampNeg)) rfl dX5_areSeveral_48 ?_
      refine lv_aload_n hx hb dX5_areSeveral_49 rfl (lv_at hl 3 rfl) ?_
      refine va_get (D := D) (ci := 5) (v := .ref mP) (C := RX5) (T := TX5) (N := 17) hx hb hts k_2 hown hK.1 hP 0 rfl rfl 0 (by decide) k_1 (fun _ h9 => h9) rfl dX5_areSeveral_50 ?_
      refine lv_iconst (v := 3) hx hb dX5_areSeveral_53 (by decide) ?_
      refine lv_aload_n hx hb dX5_areSeveral_54 rfl (lv_at hl 3 rfl) ?_
      refine va_get (D := D) (ci := 5) (v := .ref mV) (C := RX5) (T := TX5) (N := 17) hx hb hts k_2 hown hK.1 hP 0 rfl rfl 7 (by decide) k_3 (fun _ h9 => h9) rfl dX5_areSeveral_55 ?_
      refine lv_iload_n hx hb dX5_areSeveral_58 rfl (lv_at hl 2 rfl) ?_
      refine ld_i hx hb hK.1 hP 2 0 rfl rfl (ix_lit (by decide)) 1 (by decide) (v := gv 1) rfl dX5_areSeveral_59 ?_
      refine lv_imul hx hb dX5_areSeveral_60 ?_
      refine lv_iload hx hb dX5_areSeveral_61 (lv_at hl 0 rfl) ?_
      refine lv_iadd hx hb dX5_areSeveral_63 ?_
      refine ld_i hx hb hK.1 hP 1 0 rfl rfl (ix3l (hv 1 (by decide)) 2 (by decide)) (((3 * (gv 1)) + 2).toNatClampNeg) rfl (v := gp (((3 * (gv 1)) + 2).toNatClampNeg)) rfl dX5_areSeveral_64 ?_
      refine lv_icmp_ne (tgt := 72) hx hb dX5_areSeveral_65 (by decide) (fun c_18 => ?_) (fun c_18 => ?_)
      · skip
        refine lv_iconst (v := 0) hx hb dX5_areSeveral_72 (by decide) ?_
        refine lv_istore (lv' := [(4, .int 0), (5, .int 2), (3, .int 1), (0, .ref o), (1, .int 1), (2, .int 3)]) hx hb dX5_areSeveral_73 hl (by decide) rfl (fun ls hl => ?_)
        refine lv_iinc (v := 3) (lv' := [(5, .int 3), (4, .int 0), (3, .int 1), (0, .ref o), (1, .int 1), (2, .int 3)]) hx hb dX5_areSeveral_75 hl (k := 1) rfl (by decide) (by decide) rfl (fun ls hl => ?_)
        refine lv_goto (tgt := 22) hx hb dX5_areSeveral_78 (by decide) ?_
        refine lv_iload hx hb dX5_areSeveral_22 (lv_at hl 0 rfl) ?_
        refine lv_iconst (v := 3) hx hb dX5_areSeveral_24 (by decide) ?_
        refine lv_icmp_ge (tgt := 81) hx hb dX5_areSeveral_25 (by decide) (fun _ => ?_) (fun h => absurd (by decide) h)
        refine lv_iload_n hx hb dX5_areSeveral_81 rfl (lv_at hl 4 rfl) ?_
        refine lv_if_ne (tgt := 90) hx hb dX5_areSeveral_82 (by decide) (fun _ => ?_) (fun h => absurd h (by decide))
        refine lv_iconst (v := 1) hx hb dX5_areSeveral_90 (by decide) ?_
        refine lv_goto (tgt := 95) hx hb dX5_areSeveral_91 (by decide) ?_
        refine lv_istore_n (lv' := [(1, .int 1), (5, .int 3), (4, .int 0), (3, .int 1), (0, .ref o), (2, .int 3)]) hx hb dX5_areSeveral_95 rfl hl (by decide) rfl (fun ls hl => ?_)
        have hq : z5_areSeveral gp gv = 1 := hj_9
        exact jo_X5_areSeveral_8 hv hx hb hr hml hown hts hlk hP hK hq ls (lv_sub hl [4, 0, 5, 3] rfl)
      · skip
        refine lv_iconst (v := 1) hx hb dX5_areSeveral_68 (by decide) ?_
        refine lv_goto (tgt := 73) hx hb dX5_areSeveral_69 (by decide) ?_
        refine lv_istore (lv' := [(4, .int 1), (5, .int 2), (3, .int 1), (0, .ref o), (1, .int 1), (2, .int 3)]) hx hb dX5_areSeveral_73 hl (by decide) rfl (fun ls hl => ?_)
        refine lv_iinc (v := 3) (lv' := [(5, .int 3), (4, .int 1), (3, .int 1), (0, .ref o), (1, .int 1), (2, .int 3)]) hx hb dX5_areSeveral_75 hl (k := 1) rfl (by decide) (by decide) rfl (fun ls hl => ?_)
        refine lv_goto (tgt := 22) hx hb dX5_areSeveral_78 (by decide) ?_
        refine lv_iload hx hb dX5_areSeveral_22 (lv_at hl 0 rfl) ?_
        refine lv_iconst (v := 3) hx hb dX5_areSeveral_24 (by decide) ?_
        refine lv_icmp_ge (tgt := 81) hx hb dX5_areSeveral_25 (by decide) (fun _ => ?_) (fun h => absurd (by decide) h)
        refine lv_iload_n hx hb dX5_areSeveral_81 rfl (lv_at hl 4 rfl) ?_
        refine lv_if_ne (tgt := 90) hx hb dX5_areSeveral_82 (by decide) (fun _ => ?_) (fun h => absurd h (by decide))
        refine lv_iconst (v := 1) hx hb dX5_areSeveral_90 (by decide) ?_
        refine lv_goto (tgt := 95) hx hb dX5_areSeveral_91 (by decide) ?_
        refine lv_istore_n (lv' := [(1, .int 1), (5, .int 3), (4, .int 1), (3, .int 1), (0, .ref o), (2, .int 3)]) hx hb dX5_areSeveral_95 rfl hl (by decide) rfl (fun ls hl => ?_)
        have hq : z5_areSeveral gp gv = 1 := hj_9
        exact jo_X5_areSeveral_8 hv hx hb hr hml hown hts hlk hP hK hq ls (lv_sub hl [4, 0, 5, 3] rfl)
set_option maxHeartbeats 4000000 in
set_option maxRecDepth 100000 in
theorem jo_X5_areSeveral_10 {l : Launch} {D : va_G} {cI cJ : ClassId} {pG : Program} {eG : Env} {sG : State} {mG : MethodId} {below : List Frame} {meth : Method} {cG : Code} {o : Nat} {mP : Nat} {mL : Nat} {mC : Nat} {mN : Nat} {mF : Nat} {mR : Nat} {mD : Nat} {mV : Nat} {mX : Nat} {mA : Nat} {mK : Nat} {mT : Nat} {mU : Nat} {mH : Nat} {mI : Nat} {cm : Int32} {pm : Int32} {gp : Nat → Int32} {gv : Nat → Int32} (hv : ∀ n, n < 5 → ok_i (gv n)) (hx : pG.tables.exec = Jvm.exec) (hb : cG.code = cX5_areSeveral) (hr : meth.sig.returnType = some .boolean) (hml : cG.maxLocals = 7) (hown : sG.vm.findClass RX5 = some mG.cls) (hts : ∀ x ∈ wsX5_areSeveral, x.before ([.ref o] : List Value).toArray sG = true) (hlk : meth.locks = false) (hP : va_P D vwCl [kM o mP mL mC mN mF mR mD mV mX mA mK cm mT pm mU mH mI, kA mP cI 180 gp, kA mV cI 5 gv] sG.heap) (hK : gd_K D cI cJ sG) (hj_10 : z5_areSeveral gp gv = 1) (ls : Array Slot) (hl : lv_has ls 7 [(0, .ref o), (1, .int 1), (2, .int 2)]) : W pG l eG (headSpec wsX5_areSeveral ({ frames := 1, cells := 0, slots := 0, locals := 30 })).room sG mG ([.ref o] : List Value).toArray below meth cG sG.heap [] 0 0 (MQ below (vp_Si (fun r : Int32 => r = z5_areSeveral gp gv)) ([.ref o] : List Value).toArray sG 0 0 (fun _ => False)) (F0 mG 196 ls []) := by
  have k_1 := hts (.fieldLink RX5 7 "ConicRowsModel" "points" "[I") (by decide +kernel)
  have k_2 : ∀ w ∈ wsX50, w ∈ wsX5_areSeveral := by decide +kernel
  have k_3 := hts (.fieldLink RX5 32 "ConicRowsModel" "five" "[I") (by decide +kernel)
  refine lv_iinc (v := 3) (lv' := [(2, .int 3), (0, .ref o), (1, .int 1)]) hx hb dX5_areSeveral_196 hl (k := 2) rfl (by decide) (by decide) rfl (fun ls hl => ?_)
  refine lv_goto (tgt := 4) hx hb dX5_areSeveral_199 (by decide) ?_
  refine lv_iload_n hx hb dX5_areSeveral_4 rfl (lv_at hl 0 rfl) ?_
  refine lv_iconst (v := 5) hx hb dX5_areSeveral_5 (by decide) ?_
  refine lv_icmp_ge (tgt := 202) hx hb dX5_areSeveral_6 (by decide) (fun h => absurd h (by decide)) (fun _ => ?_)
  refine lv_iconst (v := 0) hx hb dX5_areSeveral_9 (by decide) ?_
  refine lv_istore_n (lv' := [(3, .int 0), (2, .int 3), (0, .ref o), (1, .int 1)]) hx hb dX5_areSeveral_10 rfl hl (by decide) rfl (fun ls hl => ?_)
  refine lv_iload_n hx hb dX5_areSeveral_11 rfl (lv_at hl 0 rfl) ?_
  refine lv_iload_n hx hb dX5_areSeveral_12 rfl (lv_at hl 1 rfl) ?_
  refine lv_icmp_ge (tgt := 102) hx hb dX5_areSeveral_13 (by decide) (fun h => absurd h (by decide)) (fun _ => ?_)
  refine lv_iconst (v := 1) hx hb dX5_areSeveral_16 (by decide) ?_
  refine lv_istore (lv' := [(4, .int 1), (3, .int 0), (2, .int 3), (0, .ref o), (1, .int 1)]) hx hb dX5_areSeveral_17 hl (by decide) rfl (fun ls hl => ?_)
  refine lv_iconst (v := 0) hx hb dX5_areSeveral_19 (by decide) ?_
  refine lv_istore (lv' := [(5, .int 0), (4, .int 1), (3, .int 0), (2, .int 3), (0, .ref o), (1, .int 1)]) hx hb dX5_areSeveral_20 hl (by decide) rfl (fun ls hl => ?_)
  refine lv_iload hx hb dX5_areSeveral_22 (lv_at hl 0 rfl) ?_
  refine lv_iconst (v := 3) hx hb dX5_areSeveral_24 (by decide) ?_
  refine lv_icmp_ge (tgt := 81) hx hb dX5_areSeveral_25 (by decide) (fun h => absurd h (by decide)) (fun _ => ?_)
  refine lv_iload hx hb dX5_areSeveral_28 (lv_at hl 1 rfl) ?_
  refine lv_if_eq (tgt := 72) hx hb dX5_areSeveral_30 (by decide) (fun h => absurd h (by decide)) (fun _ => ?_)
  refine lv_aload_n hx hb dX5_areSeveral_33 rfl (lv_at hl 4 rfl) ?_
  refine va_get (D := D) (ci := 5) (v := .ref mP) (C := RX5) (T := TX5) (N := 17) hx hb hts k_2 hown hK.1 hP 0 rfl rfl 0 (by decide) k_1 (fun _ h9 => h9) rfl dX5_areSeveral_34 ?_
  refine lv_iconst (v := 3) hx hb dX5_areSeveral_37 (by decide) ?_
  refine lv_aload_n hx hb dX5_areSeveral_38 rfl (lv_at hl 4 rfl) ?_
  refine va_get (D := D) (ci := 5) (v := .ref mV) (C := RX5) (T := TX5) (N := 17) hx hb hts k_2 hown hK.1 hP 0 rfl rfl 7 (by decide) k_3 (fun _ h9 => h9) rfl dX5_areSeveral_39 ?_
  refine lv_iload_n hx hb dX5_areSeveral_42 rfl (lv_at hl 3 rfl) ?_
  refine ld_i hx hb hK.1 hP 2 0 rfl rfl (ix_lit (by decide)) 3 (by decide) (v := gv 3) rfl dX5_areSeveral_43 ?_
  refine lv_imul hx hb dX5_areSeveral_44 ?_
  refine lv_iload hx hb dX5_areSeveral_45 (lv_at hl 0 rfl) ?_
  refine lv_iadd hx hb dX5_areSeveral_47 ?_
  refine ld_i hx hb hK.1 hP 1 0 rfl rfl (ix3l (hv 3 (by decide)) 0 (by decide)) (((3 * (gv 3)) + 0).toNatClampNeg) rfl (v := gp (((3 * (gv 3)) + 0).toNatClampNeg)) rfl dX5_areSeveral_48 ?_
  refine lv_aload_n hx hb dX5_areSeveral_49 rfl (lv_at hl 4 rfl) ?_
  refine va_get (D := D) (ci := 5) (v := .ref mP) (C := RX5) (T := TX5) (N := 17) hx hb hts k_2 hown hK.1 hP 0 rfl rfl 0 (by decide) k_1 (fun _ h9 => h9) rfl dX5_areSeveral_50 ?_
  refine lv_iconst (v := 3) hx hb dX5_areSeveral_53 (by decide) ?_
  refine lv_aload_n hx hb dX5_areSeveral_54 rfl (lv_at hl 4 rfl) ?_
  refine va_get (D := D) (ci := 5) (v := .ref mV) (C := RX5) (T := TX5) (N := 17) hx hb hts k_2 hown hK.1 hP 0 rfl rfl 7 (by decide) k_3 (fun _ h9 => h9) rfl dX5_areSeveral_55 ?_
  refine lv_iload_n hx hb dX5_areSeveral_58 rfl (lv_at hl 2 rfl) ?_
  refine ld_i hx hb hK.1 hP 2 0 rfl rfl (ix_lit (by decide)) 0 (by decide) (v := gv 0) rfl dX5_areSeveral_59 ?_
  refine lv_imul hx hb dX5_areSeveral_60 ?_
  refine lv_iload hx hb dX5_areSeveral_61 (lv_at hl 0 rfl) ?_
  refine lv_iadd hx hb dX5_areSeveral_63 ?_
  refine ld_i hx hb hK.1 hP 1 0 rfl rfl (ix3l (hv 0 (by decide)) 0 (by decide)) (((3 * (gv 0)) + 0).toNatClampNeg) rfl (v := gp (((3 * (gv 0)) + 0).toNatClampNeg)) rfl dX5_areSeveral_64 ?_
  refine lv_icmp_ne (tgt := 72) hx hb dX5_areSeveral_65 (by decide) (fun c_19 => ?_) (fun c_19 => ?_)
  · skip
    refine lv_iconst (v := 0) hx hb dX5_areSeveral_72 (by decide) ?_
    refine lv_istore (lv' := [(4, .int 0), (5, .int 0), (3, .int 0), (2, .int 3), (0, .ref o), (1, .int 1)]) hx hb dX5_areSeveral_73 hl (by decide) rfl (fun ls hl => ?_)
    refine lv_iinc (v := 1) (lv' := [(5, .int 1), (4, .int 0), (3, .int 0), (2, .int 3), (0, .ref o), (1, .int 1)]) hx hb dX5_areSeveral_75 hl (k := 1) rfl (by decide) (by decide) rfl (fun ls hl => ?_)
    refine lv_goto (tgt := 22) hx hb dX5_areSeveral_78 (by decide) ?_
    refine lv_iload hx hb dX5_areSeveral_22 (lv_at hl 0 rfl) ?_
    refine lv_iconst (v := 3) hx hb dX5_areSeveral_24 (by decide) ?_
    refine lv_icmp_ge (tgt := 81) hx hb dX5_areSeveral_25 (by decide) (fun h => absurd h (by decide)) (fun _ => ?_)
    refine lv_iload hx hb dX5_areSeveral_28 (lv_at hl 1 rfl) ?_
    refine lv_if_eq (tgt := 72) hx hb dX5_areSeveral_30 (by decide) (fun _ => ?_) (fun h => absurd (by decide) h)
    refine lv_iconst (v := 0) hx hb dX5_areSeveral_72 (by decide) ?_
    refine lv_istore (lv' := [(4, .int 0), (5, .int 1), (3, .int 0), (2, .int 3), (0, .ref o), (1, .int 1)]) hx hb dX5_areSeveral_73 hl (by decide) rfl (fun ls hl => ?_)
    refine lv_iinc (v := 2) (lv' := [(5, .int 2), (4, .int 0), (3, .int 0), (2, .int 3), (0, .ref o), (1, .int 1)]) hx hb dX5_areSeveral_75 hl (k := 1) rfl (by decide) (by decide) rfl (fun ls hl => ?_)
    refine lv_goto (tgt := 22) hx hb dX5_areSeveral_78 (by decide) ?_
    refine lv_iload hx hb dX5_areSeveral_22 (lv_at hl 0 rfl) ?_
    refine lv_iconst (v := 3) hx hb dX5_areSeveral_24 (by decide) ?_
    refine lv_icmp_ge (tgt := 81) hx hb dX5_areSeveral_25 (by decide) (fun h => absurd h (by decide)) (fun _ => ?_)
    refine lv_iload hx hb dX5_areSeveral_28 (lv_at hl 1 rfl) ?_
    refine lv_if_eq (tgt := 72) hx hb dX5_areSeveral_30 (by decide) (fun _ => ?_) (fun h => absurd (by decide) h)
    refine lv_iconst (v := 0) hx hb dX5_areSeveral_72 (by decide) ?_
    refine lv_istore (lv' := [(4, .int 0), (5, .int 2), (3, .int 0), (2, .int 3), (0, .ref o), (1, .int 1)]) hx hb dX5_areSeveral_73 hl (by decide) rfl (fun ls hl => ?_)
    refine lv_iinc (v := 3) (lv' := [(5, .int 3), (4, .int 0), (3, .int 0), (2, .int 3), (0, .ref o), (1, .int 1)]) hx hb dX5_areSeveral_75 hl (k := 1) rfl (by decide) (by decide) rfl (fun ls hl => ?_)
    refine lv_goto (tgt := 22) hx hb dX5_areSeveral_78 (by decide) ?_
    refine lv_iload hx hb dX5_areSeveral_22 (lv_at hl 0 rfl) ?_
    refine lv_iconst (v := 3) hx hb dX5_areSeveral_24 (by decide) ?_
    refine lv_icmp_ge (tgt := 81) hx hb dX5_areSeveral_25 (by decide) (fun _ => ?_) (fun h => absurd (by decide) h)
    refine lv_iload_n hx hb dX5_areSeveral_81 rfl (lv_at hl 5 rfl) ?_
    refine lv_if_ne (tgt := 90) hx hb dX5_areSeveral_82 (by decide) (fun _ => ?_) (fun h => absurd h (by decide))
    refine lv_iconst (v := 1) hx hb dX5_areSeveral_90 (by decide) ?_
    refine lv_goto (tgt := 95) hx hb dX5_areSeveral_91 (by decide) ?_
    refine lv_istore_n (lv' := [(1, .int 1), (5, .int 3), (4, .int 0), (3, .int 0), (2, .int 3), (0, .ref o)]) hx hb dX5_areSeveral_95 rfl hl (by decide) rfl (fun ls hl => ?_)
    have hq : z5_areSeveral gp gv = 1 := hj_10
    exact jo_X5_areSeveral_9 hv hx hb hr hml hown hts hlk hP hK hq ls (lv_sub hl [5, 0, 4, 3] rfl)
  · skip
    refine lv_iconst (v := 1) hx hb dX5_areSeveral_68 (by decide) ?_
    refine lv_goto (tgt := 73) hx hb dX5_areSeveral_69 (by decide) ?_
    refine lv_istore (lv' := [(4, .int 1), (5, .int 0), (3, .int 0), (2, .int 3), (0, .ref o), (1, .int 1)]) hx hb dX5_areSeveral_73 hl (by decide) rfl (fun ls hl => ?_)
    refine lv_iinc (v := 1) (lv' := [(5, .int 1), (4, .int 1), (3, .int 0), (2, .int 3), (0, .ref o), (1, .int 1)]) hx hb dX5_areSeveral_75 hl (k := 1) rfl (by decide) (by decide) rfl (fun ls hl => ?_)
    refine lv_goto (tgt := 22) hx hb dX5_areSeveral_78 (by decide) ?_
    refine lv_iload hx hb dX5_areSeveral_22 (lv_at hl 0 rfl) ?_
    refine lv_iconst (v := 3) hx hb dX5_areSeveral_24 (by decide) ?_
    refine lv_icmp_ge (tgt := 81) hx hb dX5_areSeveral_25 (by decide) (fun h => absurd h (by decide)) (fun _ => ?_)
    refine lv_iload hx hb dX5_areSeveral_28 (lv_at hl 1 rfl) ?_
    refine lv_if_eq (tgt := 72) hx hb dX5_areSeveral_30 (by decide) (fun h => absurd h (by decide)) (fun _ => ?_)
    refine lv_aload_n hx hb dX5_areSeveral_33 rfl (lv_at hl 4 rfl) ?_
    refine va_get (D := D) (ci := 5) (v := .ref mP) (C := RX5) (T := TX5) (N := 17) hx hb hts k_2 hown hK.1 hP 0 rfl rfl 0 (by decide) k_1 (fun _ h9 => h9) rfl dX5_areSeveral_34 ?_
    refine lv_iconst (v := 3) hx hb dX5_areSeveral_37 (by decide) ?_
    refine lv_aload_n hx hb dX5_areSeveral_38 rfl (lv_at hl 4 rfl) ?_
    refine va_get (D := D) (ci := 5) (v := .ref mV) (C := RX5) (T := TX5) (N := 17) hx hb hts k_2 hown hK.1 hP 0 rfl rfl 7 (by decide) k_3 (fun _ h9 => h9) rfl dX5_areSeveral_39 ?_
    refine lv_iload_n hx hb dX5_areSeveral_42 rfl (lv_at hl 3 rfl) ?_
    refine ld_i hx hb hK.1 hP 2 0 rfl rfl (ix_lit (by decide)) 3 (by decide) (v := gv 3) rfl dX5_areSeveral_43 ?_
    refine lv_imul hx hb dX5_areSeveral_44 ?_
    refine lv_iload hx hb dX5_areSeveral_45 (lv_at hl 0 rfl) ?_
    refine lv_iadd hx hb dX5_areSeveral_47 ?_
    refine ld_i hx hb hK.1 hP 1 0 rfl rfl (ix3l (hv 3 (by decide)) 1 (by decide)) (((3 * (gv 3)) + 1).toNatClampNeg) rfl (v := gp (((3 * (gv 3)) + 1).toNatClampNeg)) rfl dX5_areSeveral_48 ?_
    refine lv_aload_n hx hb dX5_areSeveral_49 rfl (lv_at hl 4 rfl) ?_
    refine va_get (D := D) (ci := 5) (v := .ref mP) (C := RX5) (T := TX5) (N := 17) hx hb hts k_2 hown hK.1 hP 0 rfl rfl 0 (by decide) k_1 (fun _ h9 => h9) rfl dX5_areSeveral_50 ?_
    refine lv_iconst (v := 3) hx hb dX5_areSeveral_53 (by decide) ?_
    refine lv_aload_n hx hb dX5_areSeveral_54 rfl (lv_at hl 4 rfl) ?_
    refine va_get (D := D) (ci := 5) (v := .ref mV) (C := RX5) (T := TX5) (N := 17) hx hb hts k_2 hown hK.1 hP 0 rfl rfl 7 (by decide) k_3 (fun _ h9 => h9) rfl dX5_areSeveral_55 ?_
    refine lv_iload_n hx hb dX5_areSeveral_58 rfl (lv_at hl 2 rfl) ?_
    refine ld_i hx hb hK.1 hP 2 0 rfl rfl (ix_lit (by decide)) 0 (by decide) (v := gv 0) rfl dX5_areSeveral_59 ?_
    refine lv_imul hx hb dX5_areSeveral_60 ?_
    refine lv_iload hx hb dX5_areSeveral_61 (lv_at hl 0 rfl) ?_
    refine lv_iadd hx hb dX5_areSeveral_63 ?_
    refine ld_i hx hb hK.1 hP 1 0 rfl rfl (ix3l (hv 0 (by decide)) 1 (by decide)) (((3 * (gv 0)) + 1).toNatClampNeg) rfl (v := gp (((3 * (gv 0)) + 1).toNatClampNeg)) rfl dX5_areSeveral_64 ?_
    refine lv_icmp_ne (tgt := 72) hx hb dX5_areSeveral_65 (by decide) (fun c_20 => ?_) (fun c_20 => ?_)
    · skip
      refine lv_iconst (v := 0) hx hb dX5_areSeveral_72 (by decide) ?_
      refine lv_istore (lv' := [(4, .int 0), (5, .int 1), (3, .int 0), (2, .int 3), (0, .ref o), (1, .int 1)]) hx hb dX5_areSeveral_73 hl (by decide) rfl (fun ls hl => ?_)
      refine lv_iinc (v := 2) (lv' := [(5, .int 2), (4, .int 0), (3, .int 0), (2, .int 3), (0, .ref o), (1, .int 1)]) hx hb dX5_areSeveral_75 hl (k := 1) rfl (by decide) (by decide) rfl (fun ls hl => ?_)
      refine lv_goto (tgt := 22) hx hb dX5_areSeveral_78 (by decide) ?_
      refine lv_iload hx hb dX5_areSeveral_22 (lv_at hl 0 rfl) ?_
      refine lv_iconst (v := 3) hx hb dX5_areSeveral_24 (by decide) ?_
      refine lv_icmp_ge (tgt := 81) hx hb dX5_areSeveral_25 (by decide) (fun h => absurd h (by decide)) (fun _ => ?_)
      refine lv_iload hx hb dX5_areSeveral_28 (lv_at hl 1 rfl) ?_
      refine lv_if_eq (tgt := 72) hx hb dX5_areSeveral_30 (by decide) (fun _ => ?_) (fun h => absurd (by decide) h)
      refine lv_iconst (v := 0) hx hb dX5_areSeveral_72 (by decide) ?_
      refine lv_istore (lv' := [(4, .int 0), (5, .int 2), (3, .int 0), (2, .int 3), (0, .ref o), (1, .int 1)]) hx hb dX5_areSeveral_73 hl (by decide) rfl (fun ls hl => ?_)
      refine lv_iinc (v := 3) (lv' := [(5, .int 3), (4, .int 0), (3, .int 0), (2, .int 3), (0, .ref o), (1, .int 1)]) hx hb dX5_areSeveral_75 hl (k := 1) rfl (by decide) (by decide) rfl (fun ls hl => ?_)
      refine lv_goto (tgt := 22) hx hb dX5_areSeveral_78 (by decide) ?_
      refine lv_iload hx hb dX5_areSeveral_22 (lv_at hl 0 rfl) ?_
      refine lv_iconst (v := 3) hx hb dX5_areSeveral_24 (by decide) ?_
      refine lv_icmp_ge (tgt := 81) hx hb dX5_areSeveral_25 (by decide) (fun _ => ?_) (fun h => absurd (by decide) h)
      refine lv_iload_n hx hb dX5_areSeveral_81 rfl (lv_at hl 5 rfl) ?_
      refine lv_if_ne (tgt := 90) hx hb dX5_areSeveral_82 (by decide) (fun _ => ?_) (fun h => absurd h (by decide))
      refine lv_iconst (v := 1) hx hb dX5_areSeveral_90 (by decide) ?_
      refine lv_goto (tgt := 95) hx hb dX5_areSeveral_91 (by decide) ?_
      refine lv_istore_n (lv' := [(1, .int 1), (5, .int 3), (4, .int 0), (3, .int 0), (2, .int 3), (0, .ref o)]) hx hb dX5_areSeveral_95 rfl hl (by decide) rfl (fun ls hl => ?_)
      have hq : z5_areSeveral gp gv = 1 := hj_10
      exact jo_X5_areSeveral_9 hv hx hb hr hml hown hts hlk hP hK hq ls (lv_sub hl [5, 0, 4, 3] rfl)
    · skip
      refine lv_iconst (v := 1) hx hb dX5_areSeveral_68 (by decide) ?_
      refine lv_goto (tgt := 73) hx hb dX5_areSeveral_69 (by decide) ?_
      refine lv_istore (lv' := [(4, .int 1), (5, .int 1), (3, .int 0), (2, .int 3), (0, .ref o), (1, .int 1)]) hx hb dX5_areSeveral_73 hl (by decide) rfl (fun ls hl => ?_)
      refine lv_iinc (v := 2) (lv' := [(5, .int 2), (4, .int 1), (3, .int 0), (2, .int 3), (0, .ref o), (1, .int 1)]) hx hb dX5_areSeveral_75 hl (k := 1) rfl (by decide) (by decide) rfl (fun ls hl => ?_)
      refine lv_goto (tgt := 22) hx hb dX5_areSeveral_78 (by decide) ?_
      refine lv_iload hx hb dX5_areSeveral_22 (lv_at hl 0 rfl) ?_
      refine lv_iconst (v := 3) hx hb dX5_areSeveral_24 (by decide) ?_
      refine lv_icmp_ge (tgt := 81) hx hb dX5_areSeveral_25 (by decide) (fun h => absurd h (by decide)) (fun _ => ?_)
      refine lv_iload hx hb dX5_areSeveral_28 (lv_at hl 1 rfl) ?_
      refine lv_if_eq (tgt := 72) hx hb dX5_areSeveral_30 (by decide) (fun h => absurd h (by decide)) (fun _ => ?_)
      refine lv_aload_n hx hb dX5_areSeveral_33 rfl (lv_at hl 4 rfl) ?_
      refine va_get (D := D) (ci := 5) (v := .ref mP) (C := RX5) (T := TX5) (N := 17) hx hb hts k_2 hown hK.1 hP 0 rfl rfl 0 (by decide) k_1 (fun _ h9 => h9) rfl dX5_areSeveral_34 ?_
      refine lv_iconst (v := 3) hx hb dX5_areSeveral_37 (by decide) ?_
      refine lv_aload_n hx hb dX5_areSeveral_38 rfl (lv_at hl 4 rfl) ?_
      refine va_get (D := D) (ci := 5) (v := .ref mV) (C := RX5) (T := TX5) (N := 17) hx hb hts k_2 hown hK.1 hP 0 rfl rfl 7 (by decide) k_3 (fun _ h9 => h9) rfl dX5_areSeveral_39 ?_
      refine lv_iload_n hx hb dX5_areSeveral_42 rfl (lv_at hl 3 rfl) ?_
      refine ld_i hx hb hK.1 hP 2 0 rfl rfl (ix_lit (by decide)) 3 (by decide) (v := gv 3) rfl dX5_areSeveral_43 ?_
      refine lv_imul hx hb dX5_areSeveral_44 ?_
      refine lv_iload hx hb dX5_areSeveral_45 (lv_at hl 0 rfl) ?_
      refine lv_iadd hx hb dX5_areSeveral_47 ?_
      refine ld_i hx hb hK.1 hP 1 0 rfl rfl (ix3l (hv 3 (by decide)) 2 (by decide)) (((3 * (gv 3)) + 2).toNatClampNeg) rfl (v := gp (((3 * (gv 3)) + 2).toNatClampNeg)) rfl dX5_areSeveral_48 ?_
      refine lv_aload_n hx hb dX5_areSeveral_49 rfl (lv_at hl 4 rfl) ?_
      refine va_get (D := D) (ci := 5) (v := .ref mP) (C := RX5) (T := TX5) (N := 17) hx hb hts k_2 hown hK.1 hP 0 rfl rfl 0 (by decide) k_1 (fun _ h9 => h9) rfl dX5_areSeveral_50 ?_
      refine lv_iconst (v := 3) hx hb dX5_areSeveral_53 (by decide) ?_
      refine lv_aload_n hx hb dX5_areSeveral_54 rfl (lv_at hl 4 rfl) ?_
      refine va_get (D := D) (ci := 5) (v := .ref mV) (C := RX5) (T := TX5) (N := 17) hx hb hts k_2 hown hK.1 hP 0 rfl rfl 7 (by decide) k_3 (fun _ h9 => h9) rfl dX5_areSeveral_55 ?_
      refine lv_iload_n hx hb dX5_areSeveral_58 rfl (lv_at hl 2 rfl) ?_
      refine ld_i hx hb hK.1 hP 2 0 rfl rfl (ix_lit (by decide)) 0 (by decide) (v := gv 0) rfl dX5_areSeveral_59 ?_
      refine lv_imul hx hb dX5_areSeveral_60 ?_
      refine lv_iload hx hb dX5_areSeveral_61 (lv_at hl 0 rfl) ?_
      refine lv_iadd hx hb dX5_areSeveral_63 ?_
      refine ld_i hx hb hK.1 hP 1 0 rfl rfl (ix3l (hv 0 (by decide)) 2 (by decide)) (((3 * (gv 0)) + 2).toNatClampNeg) rfl (v := gp (((3 * (gv 0)) + 2).toNatClampNeg)) rfl dX5_areSeveral_64 ?_
      refine lv_icmp_ne (tgt := 72) hx hb dX5_areSeveral_65 (by decide) (fun c_21 => ?_) (fun c_21 => ?_)
      · skip
        refine lv_iconst (v := 0) hx hb dX5_areSeveral_72 (by decide) ?_
        refine lv_istore (lv' := [(4, .int 0), (5, .int 2), (3, .int 0), (2, .int 3), (0, .ref o), (1, .int 1)]) hx hb dX5_areSeveral_73 hl (by decide) rfl (fun ls hl => ?_)
        refine lv_iinc (v := 3) (lv' := [(5, .int 3), (4, .int 0), (3, .int 0), (2, .int 3), (0, .ref o), (1, .int 1)]) hx hb dX5_areSeveral_75 hl (k := 1) rfl (by decide) (by decide) rfl (fun ls hl => ?_)
        refine lv_goto (tgt := 22) hx hb dX5_areSeveral_78 (by decide) ?_
        refine lv_iload hx hb dX5_areSeveral_22 (lv_at hl 0 rfl) ?_
        refine lv_iconst (v := 3) hx hb dX5_areSeveral_24 (by decide) ?_
        refine lv_icmp_ge (tgt := 81) hx hb dX5_areSeveral_25 (by decide) (fun _ => ?_) (fun h => absurd (by decide) h)
        refine lv_iload_n hx hb dX5_areSeveral_81 rfl (lv_at hl 5 rfl) ?_
        refine lv_if_ne (tgt := 90) hx hb dX5_areSeveral_82 (by decide) (fun _ => ?_) (fun h => absurd h (by decide))
        refine lv_iconst (v := 1) hx hb dX5_areSeveral_90 (by decide) ?_
        refine lv_goto (tgt := 95) hx hb dX5_areSeveral_91 (by decide) ?_
        refine lv_istore_n (lv' := [(1, .int 1), (5, .int 3), (4, .int 0), (3, .int 0), (2, .int 3), (0, .ref o)]) hx hb dX5_areSeveral_95 rfl hl (by decide) rfl (fun ls hl => ?_)
        have hq : z5_areSeveral gp gv = 1 := hj_10
        exact jo_X5_areSeveral_9 hv hx hb hr hml hown hts hlk hP hK hq ls (lv_sub hl [5, 0, 4, 3] rfl)
      · skip
        refine lv_iconst (v := 1) hx hb dX5_areSeveral_68 (by decide) ?_
        refine lv_goto (tgt := 73) hx hb dX5_areSeveral_69 (by decide) ?_
        refine lv_istore (lv' := [(4, .int 1), (5, .int 2), (3, .int 0), (2, .int 3), (0, .ref o), (1, .int 1)]) hx hb dX5_areSeveral_73 hl (by decide) rfl (fun ls hl => ?_)
        refine lv_iinc (v := 3) (lv' := [(5, .int 3), (4, .int 1), (3, .int 0), (2, .int 3), (0, .ref o), (1, .int 1)]) hx hb dX5_areSeveral_75 hl (k := 1) rfl (by decide) (by decide) rfl (fun ls hl => ?_)
        refine lv_goto (tgt := 22) hx hb dX5_areSeveral_78 (by decide) ?_
        refine lv_iload hx hb dX5_areSeveral_22 (lv_at hl 0 rfl) ?_
        refine lv_iconst (v := 3) hx hb dX5_areSeveral_24 (by decide) ?_
        refine lv_icmp_ge (tgt := 81) hx hb dX5_areSeveral_25 (by decide) (fun _ => ?_) (fun h => absurd (by decide) h)
        refine lv_iload_n hx hb dX5_areSeveral_81 rfl (lv_at hl 5 rfl) ?_
        refine lv_if_ne (tgt := 90) hx hb dX5_areSeveral_82 (by decide) (fun _ => ?_) (fun h => absurd h (by decide))
        refine lv_iconst (v := 1) hx hb dX5_areSeveral_90 (by decide) ?_
        refine lv_goto (tgt := 95) hx hb dX5_areSeveral_91 (by decide) ?_
        refine lv_istore_n (lv' := [(1, .int 1), (5, .int 3), (4, .int 1), (3, .int 0), (2, .int 3), (0, .ref o)]) hx hb dX5_areSeveral_95 rfl hl (by decide) rfl (fun ls hl => ?_)
        have hq : z5_areSeveral gp gv = 1 := hj_10
        exact jo_X5_areSeveral_9 hv hx hb hr hml hown hts hlk hP hK hq ls (lv_sub hl [5, 0, 4, 3] rfl)
set_option maxHeartbeats 4000000 in
set_option maxRecDepth 100000 in
theorem jo_X5_areSeveral_11 {l : Launch} {D : va_G} {cI cJ : ClassId} {pG : Program} {eG : Env} {sG : State} {mG : MethodId} {below : List Frame} {meth : Method} {cG : Code} {o : Nat} {mP : Nat} {mL : Nat} {mC : Nat} {mN : Nat} {mF : Nat} {mR : Nat} {mD : Nat} {mV : Nat} {mX : Nat} {mA : Nat} {mK : Nat} {mT : Nat} {mU : Nat} {mH : Nat} {mI : Nat} {cm : Int32} {pm : Int32} {gp : Nat → Int32} {gv : Nat → Int32} (hv : ∀ n, n < 5 → ok_i (gv n)) (hx : pG.tables.exec = Jvm.exec) (hb : cG.code = cX5_areSeveral) (hr : meth.sig.returnType = some .boolean) (hml : cG.maxLocals = 7) (hown : sG.vm.findClass RX5 = some mG.cls) (hts : ∀ x ∈ wsX5_areSeveral, x.before ([.ref o] : List Value).toArray sG = true) (hlk : meth.locks = false) (hP : va_P D vwCl [kM o mP mL mC mN mF mR mD mV mX mA mK cm mT pm mU mH mI, kA mP cI 180 gp, kA mV cI 5 gv] sG.heap) (hK : gd_K D cI cJ sG) (hj_11 : z5_areSeveral gp gv = 1) (ls : Array Slot) (hl : lv_has ls 7 [(0, .ref o), (1, .int 1), (2, .int 2), (3, .int 1)]) : W pG l eG (headSpec wsX5_areSeveral ({ frames := 1, cells := 0, slots := 0, locals := 30 })).room sG mG ([.ref o] : List Value).toArray below meth cG sG.heap [] 0 0 (MQ below (vp_Si (fun r : Int32 => r = z5_areSeveral gp gv)) ([.ref o] : List Value).toArray sG 0 0 (fun _ => False)) (F0 mG 96 ls []) := by
  have k_1 := hts (.fieldLink RX5 7 "ConicRowsModel" "points" "[I") (by decide +kernel)
  have k_2 : ∀ w ∈ wsX50, w ∈ wsX5_areSeveral := by decide +kernel
  have k_3 := hts (.fieldLink RX5 32 "ConicRowsModel" "five" "[I") (by decide +kernel)
  refine lv_iinc (v := 2) (lv' := [(3, .int 2), (0, .ref o), (1, .int 1), (2, .int 2)]) hx hb dX5_areSeveral_96 hl (k := 3) rfl (by decide) (by decide) rfl (fun ls hl => ?_)
  refine lv_goto (tgt := 11) hx hb dX5_areSeveral_99 (by decide) ?_
  refine lv_iload_n hx hb dX5_areSeveral_11 rfl (lv_at hl 0 rfl) ?_
  refine lv_iload_n hx hb dX5_areSeveral_12 rfl (lv_at hl 3 rfl) ?_
  refine lv_icmp_ge (tgt := 102) hx hb dX5_areSeveral_13 (by decide) (fun _ => ?_) (fun h => absurd (by decide) h)
  refine lv_iload_n hx hb dX5_areSeveral_102 rfl (lv_at hl 3 rfl) ?_
  refine lv_iconst (v := 1) hx hb dX5_areSeveral_103 (by decide) ?_
  refine lv_iadd hx hb dX5_areSeveral_104 ?_
  refine lv_eqi (v := 3) (by decide) ?_
  refine lv_iconst (v := 5) hx hb dX5_areSeveral_105 (by decide) ?_
  refine lv_irem hx hb dX5_areSeveral_106 (by decide) ?_
  refine lv_eqi (v := 3) (by decide) ?_
  refine lv_istore_n (lv' := [(3, .int 3), (0, .ref o), (1, .int 1), (2, .int 2)]) hx hb dX5_areSeveral_107 rfl hl (by decide) rfl (fun ls hl => ?_)
  refine lv_iload_n hx hb dX5_areSeveral_108 rfl (lv_at hl 3 rfl) ?_
  refine lv_iconst (v := 2) hx hb dX5_areSeveral_109 (by decide) ?_
  refine lv_iadd hx hb dX5_areSeveral_110 ?_
  refine lv_eqi (v := 4) (by decide) ?_
  refine lv_iconst (v := 5) hx hb dX5_areSeveral_111 (by decide) ?_
  refine lv_irem hx hb dX5_areSeveral_112 (by decide) ?_
  refine lv_eqi (v := 4) (by decide) ?_
  refine lv_istore (lv' := [(4, .int 4), (3, .int 3), (0, .ref o), (1, .int 1), (2, .int 2)]) hx hb dX5_areSeveral_113 hl (by decide) rfl (fun ls hl => ?_)
  refine lv_iload_n hx hb dX5_areSeveral_115 rfl (lv_at hl 4 rfl) ?_
  refine lv_iconst (v := 3) hx hb dX5_areSeveral_116 (by decide) ?_
  refine lv_iadd hx hb dX5_areSeveral_117 ?_
  refine lv_eqi (v := 5) (by decide) ?_
  refine lv_iconst (v := 5) hx hb dX5_areSeveral_118 (by decide) ?_
  refine lv_irem hx hb dX5_areSeveral_119 (by decide) ?_
  refine lv_eqi (v := 0) (by decide) ?_
  refine lv_istore (lv' := [(5, .int 0), (4, .int 4), (3, .int 3), (0, .ref o), (1, .int 1), (2, .int 2)]) hx hb dX5_areSeveral_120 hl (by decide) rfl (fun ls hl => ?_)
  refine lv_iload_n hx hb dX5_areSeveral_122 rfl (lv_at hl 5 rfl) ?_
  refine lv_iconst (v := 4) hx hb dX5_areSeveral_123 (by decide) ?_
  refine lv_iadd hx hb dX5_areSeveral_124 ?_
  refine lv_eqi (v := 6) (by decide) ?_
  refine lv_iconst (v := 5) hx hb dX5_areSeveral_125 (by decide) ?_
  refine lv_irem hx hb dX5_areSeveral_126 (by decide) ?_
  refine lv_eqi (v := 1) (by decide) ?_
  refine lv_istore (lv' := [(6, .int 1), (5, .int 0), (4, .int 4), (3, .int 3), (0, .ref o), (1, .int 1), (2, .int 2)]) hx hb dX5_areSeveral_127 hl (by decide) rfl (fun ls hl => ?_)
  refine lv_iload_n hx hb dX5_areSeveral_129 rfl (lv_at hl 5 rfl) ?_
  refine lv_if_ne (tgt := 190) hx hb dX5_areSeveral_130 (by decide) (fun _ => ?_) (fun h => absurd h (by decide))
  refine lv_iconst (v := 1) hx hb dX5_areSeveral_190 (by decide) ?_
  refine lv_goto (tgt := 195) hx hb dX5_areSeveral_191 (by decide) ?_
  refine lv_istore_n (lv' := [(1, .int 1), (6, .int 1), (5, .int 0), (4, .int 4), (3, .int 3), (0, .ref o), (2, .int 2)]) hx hb dX5_areSeveral_195 rfl hl (by decide) rfl (fun ls hl => ?_)
  have hq : z5_areSeveral gp gv = 1 := hj_11
  exact jo_X5_areSeveral_10 hv hx hb hr hml hown hts hlk hP hK hq ls (lv_sub hl [5, 0, 6] rfl)
set_option maxHeartbeats 4000000 in
set_option maxRecDepth 100000 in
theorem jo_X5_areSeveral_12 {l : Launch} {D : va_G} {cI cJ : ClassId} {pG : Program} {eG : Env} {sG : State} {mG : MethodId} {below : List Frame} {meth : Method} {cG : Code} {o : Nat} {mP : Nat} {mL : Nat} {mC : Nat} {mN : Nat} {mF : Nat} {mR : Nat} {mD : Nat} {mV : Nat} {mX : Nat} {mA : Nat} {mK : Nat} {mT : Nat} {mU : Nat} {mH : Nat} {mI : Nat} {cm : Int32} {pm : Int32} {gp : Nat → Int32} {gv : Nat → Int32} (hv : ∀ n, n < 5 → ok_i (gv n)) (hx : pG.tables.exec = Jvm.exec) (hb : cG.code = cX5_areSeveral) (hr : meth.sig.returnType = some .boolean) (hml : cG.maxLocals = 7) (hown : sG.vm.findClass RX5 = some mG.cls) (hts : ∀ x ∈ wsX5_areSeveral, x.before ([.ref o] : List Value).toArray sG = true) (hlk : meth.locks = false) (hP : va_P D vwCl [kM o mP mL mC mN mF mR mD mV mX mA mK cm mT pm mU mH mI, kA mP cI 180 gp, kA mV cI 5 gv] sG.heap) (hK : gd_K D cI cJ sG) (hj_12 : z5_areSeveral gp gv = 1) (ls : Array Slot) (hl : lv_has ls 7 [(0, .ref o), (1, .int 1), (2, .int 2), (3, .int 0)]) : W pG l eG (headSpec wsX5_areSeveral ({ frames := 1, cells := 0, slots := 0, locals := 30 })).room sG mG ([.ref o] : List Value).toArray below meth cG sG.heap [] 0 0 (MQ below (vp_Si (fun r : Int32 => r = z5_areSeveral gp gv)) ([.ref o] : List Value).toArray sG 0 0 (fun _ => False)) (F0 mG 96 ls []) := by
  have k_1 := hts (.fieldLink RX5 7 "ConicRowsModel" "points" "[I") (by decide +kernel)
  have k_2 : ∀ w ∈ wsX50, w ∈ wsX5_areSeveral := by decide +kernel
  have k_3 := hts (.fieldLink RX5 32 "ConicRowsModel" "five" "[I") (by decide +kernel)
  refine lv_iinc (v := 1) (lv' := [(3, .int 1), (0, .ref o), (1, .int 1), (2, .int 2)]) hx hb dX5_areSeveral_96 hl (k := 3) rfl (by decide) (by decide) rfl (fun ls hl => ?_)
  refine lv_goto (tgt := 11) hx hb dX5_areSeveral_99 (by decide) ?_
  refine lv_iload_n hx hb dX5_areSeveral_11 rfl (lv_at hl 0 rfl) ?_
  refine lv_iload_n hx hb dX5_areSeveral_12 rfl (lv_at hl 3 rfl) ?_
  refine lv_icmp_ge (tgt := 102) hx hb dX5_areSeveral_13 (by decide) (fun h => absurd h (by decide)) (fun _ => ?_)
  refine lv_iconst (v := 1) hx hb dX5_areSeveral_16 (by decide) ?_
  refine lv_istore (lv' := [(4, .int 1), (3, .int 1), (0, .ref o), (1, .int 1), (2, .int 2)]) hx hb dX5_areSeveral_17 hl (by decide) rfl (fun ls hl => ?_)
  refine lv_iconst (v := 0) hx hb dX5_areSeveral_19 (by decide) ?_
  refine lv_istore (lv' := [(5, .int 0), (4, .int 1), (3, .int 1), (0, .ref o), (1, .int 1), (2, .int 2)]) hx hb dX5_areSeveral_20 hl (by decide) rfl (fun ls hl => ?_)
  refine lv_iload hx hb dX5_areSeveral_22 (lv_at hl 0 rfl) ?_
  refine lv_iconst (v := 3) hx hb dX5_areSeveral_24 (by decide) ?_
  refine lv_icmp_ge (tgt := 81) hx hb dX5_areSeveral_25 (by decide) (fun h => absurd h (by decide)) (fun _ => ?_)
  refine lv_iload hx hb dX5_areSeveral_28 (lv_at hl 1 rfl) ?_
  refine lv_if_eq (tgt := 72) hx hb dX5_areSeveral_30 (by decide) (fun h => absurd h (by decide)) (fun _ => ?_)
  refine lv_aload_n hx hb dX5_areSeveral_33 rfl (lv_at hl 3 rfl) ?_
  refine va_get (D := D) (ci := 5) (v := .ref mP) (C := RX5) (T := TX5) (N := 17) hx hb hts k_2 hown hK.1 hP 0 rfl rfl 0 (by decide) k_1 (fun _ h9 => h9) rfl dX5_areSeveral_34 ?_
  refine lv_iconst (v := 3) hx hb dX5_areSeveral_37 (by decide) ?_
  refine lv_aload_n hx hb dX5_areSeveral_38 rfl (lv_at hl 3 rfl) ?_
  refine va_get (D := D) (ci := 5) (v := .ref mV) (C := RX5) (T := TX5) (N := 17) hx hb hts k_2 hown hK.1 hP 0 rfl rfl 7 (by decide) k_3 (fun _ h9 => h9) rfl dX5_areSeveral_39 ?_
  refine lv_iload_n hx hb dX5_areSeveral_42 rfl (lv_at hl 5 rfl) ?_
  refine ld_i hx hb hK.1 hP 2 0 rfl rfl (ix_lit (by decide)) 2 (by decide) (v := gv 2) rfl dX5_areSeveral_43 ?_
  refine lv_imul hx hb dX5_areSeveral_44 ?_
  refine lv_iload hx hb dX5_areSeveral_45 (lv_at hl 0 rfl) ?_
  refine lv_iadd hx hb dX5_areSeveral_47 ?_
  refine ld_i hx hb hK.1 hP 1 0 rfl rfl (ix3l (hv 2 (by decide)) 0 (by decide)) (((3 * (gv 2)) + 0).toNatClampNeg) rfl (v := gp (((3 * (gv 2)) + 0).toNatClampNeg)) rfl dX5_areSeveral_48 ?_
  refine lv_aload_n hx hb dX5_areSeveral_49 rfl (lv_at hl 3 rfl) ?_
  refine va_get (D := D) (ci := 5) (v := .ref mP) (C := RX5) (T := TX5) (N := 17) hx hb hts k_2 hown hK.1 hP 0 rfl rfl 0 (by decide) k_1 (fun _ h9 => h9) rfl dX5_areSeveral_50 ?_
  refine lv_iconst (v := 3) hx hb dX5_areSeveral_53 (by decide) ?_
  refine lv_aload_n hx hb dX5_areSeveral_54 rfl (lv_at hl 3 rfl) ?_
  refine va_get (D := D) (ci := 5) (v := .ref mV) (C := RX5) (T := TX5) (N := 17) hx hb hts k_2 hown hK.1 hP 0 rfl rfl 7 (by decide) k_3 (fun _ h9 => h9) rfl dX5_areSeveral_55 ?_
  refine lv_iload_n hx hb dX5_areSeveral_58 rfl (lv_at hl 2 rfl) ?_
  refine ld_i hx hb hK.1 hP 2 0 rfl rfl (ix_lit (by decide)) 1 (by decide) (v := gv 1) rfl dX5_areSeveral_59 ?_
  refine lv_imul hx hb dX5_areSeveral_60 ?_
  refine lv_iload hx hb dX5_areSeveral_61 (lv_at hl 0 rfl) ?_
  refine lv_iadd hx hb dX5_areSeveral_63 ?_
  refine ld_i hx hb hK.1 hP 1 0 rfl rfl (ix3l (hv 1 (by decide)) 0 (by decide)) (((3 * (gv 1)) + 0).toNatClampNeg) rfl (v := gp (((3 * (gv 1)) + 0).toNatClampNeg)) rfl dX5_areSeveral_64 ?_
  refine lv_icmp_ne (tgt := 72) hx hb dX5_areSeveral_65 (by decide) (fun c_22 => ?_) (fun c_22 => ?_)
  · skip
    refine lv_iconst (v := 0) hx hb dX5_areSeveral_72 (by decide) ?_
    refine lv_istore (lv' := [(4, .int 0), (5, .int 0), (3, .int 1), (0, .ref o), (1, .int 1), (2, .int 2)]) hx hb dX5_areSeveral_73 hl (by decide) rfl (fun ls hl => ?_)
    refine lv_iinc (v := 1) (lv' := [(5, .int 1), (4, .int 0), (3, .int 1), (0, .ref o), (1, .int 1), (2, .int 2)]) hx hb dX5_areSeveral_75 hl (k := 1) rfl (by decide) (by decide) rfl (fun ls hl => ?_)
    refine lv_goto (tgt := 22) hx hb dX5_areSeveral_78 (by decide) ?_
    refine lv_iload hx hb dX5_areSeveral_22 (lv_at hl 0 rfl) ?_
    refine lv_iconst (v := 3) hx hb dX5_areSeveral_24 (by decide) ?_
    refine lv_icmp_ge (tgt := 81) hx hb dX5_areSeveral_25 (by decide) (fun h => absurd h (by decide)) (fun _ => ?_)
    refine lv_iload hx hb dX5_areSeveral_28 (lv_at hl 1 rfl) ?_
    refine lv_if_eq (tgt := 72) hx hb dX5_areSeveral_30 (by decide) (fun _ => ?_) (fun h => absurd (by decide) h)
    refine lv_iconst (v := 0) hx hb dX5_areSeveral_72 (by decide) ?_
    refine lv_istore (lv' := [(4, .int 0), (5, .int 1), (3, .int 1), (0, .ref o), (1, .int 1), (2, .int 2)]) hx hb dX5_areSeveral_73 hl (by decide) rfl (fun ls hl => ?_)
    refine lv_iinc (v := 2) (lv' := [(5, .int 2), (4, .int 0), (3, .int 1), (0, .ref o), (1, .int 1), (2, .int 2)]) hx hb dX5_areSeveral_75 hl (k := 1) rfl (by decide) (by decide) rfl (fun ls hl => ?_)
    refine lv_goto (tgt := 22) hx hb dX5_areSeveral_78 (by decide) ?_
    refine lv_iload hx hb dX5_areSeveral_22 (lv_at hl 0 rfl) ?_
    refine lv_iconst (v := 3) hx hb dX5_areSeveral_24 (by decide) ?_
    refine lv_icmp_ge (tgt := 81) hx hb dX5_areSeveral_25 (by decide) (fun h => absurd h (by decide)) (fun _ => ?_)
    refine lv_iload hx hb dX5_areSeveral_28 (lv_at hl 1 rfl) ?_
    refine lv_if_eq (tgt := 72) hx hb dX5_areSeveral_30 (by decide) (fun _ => ?_) (fun h => absurd (by decide) h)
    refine lv_iconst (v := 0) hx hb dX5_areSeveral_72 (by decide) ?_
    refine lv_istore (lv' := [(4, .int 0), (5, .int 2), (3, .int 1), (0, .ref o), (1, .int 1), (2, .int 2)]) hx hb dX5_areSeveral_73 hl (by decide) rfl (fun ls hl => ?_)
    refine lv_iinc (v := 3) (lv' := [(5, .int 3), (4, .int 0), (3, .int 1), (0, .ref o), (1, .int 1), (2, .int 2)]) hx hb dX5_areSeveral_75 hl (k := 1) rfl (by decide) (by decide) rfl (fun ls hl => ?_)
    refine lv_goto (tgt := 22) hx hb dX5_areSeveral_78 (by decide) ?_
    refine lv_iload hx hb dX5_areSeveral_22 (lv_at hl 0 rfl) ?_
    refine lv_iconst (v := 3) hx hb dX5_areSeveral_24 (by decide) ?_
    refine lv_icmp_ge (tgt := 81) hx hb dX5_areSeveral_25 (by decide) (fun _ => ?_) (fun h => absurd (by decide) h)
    refine lv_iload_n hx hb dX5_areSeveral_81 rfl (lv_at hl 4 rfl) ?_
    refine lv_if_ne (tgt := 90) hx hb dX5_areSeveral_82 (by decide) (fun _ => ?_) (fun h => absurd h (by decide))
    refine lv_iconst (v := 1) hx hb dX5_areSeveral_90 (by decide) ?_
    refine lv_goto (tgt := 95) hx hb dX5_areSeveral_91 (by decide) ?_
    refine lv_istore_n (lv' := [(1, .int 1), (5, .int 3), (4, .int 0), (3, .int 1), (0, .ref o), (2, .int 2)]) hx hb dX5_areSeveral_95 rfl hl (by decide) rfl (fun ls hl => ?_)
    have hq : z5_areSeveral gp gv = 1 := hj_12
    exact jo_X5_areSeveral_11 hv hx hb hr hml hown hts hlk hP hK hq ls (lv_sub hl [4, 0, 5, 3] rfl)
  · skip
    refine lv_iconst (v := 1) hx hb dX5_areSeveral_68 (by decide) ?_
    refine lv_goto (tgt := 73) hx hb dX5_areSeveral_69 (by decide) ?_
    refine lv_istore (lv' := [(4, .int 1), (5, .int 0), (3, .int 1), (0, .ref o), (1, .int 1), (2, .int 2)]) hx hb dX5_areSeveral_73 hl (by decide) rfl (fun ls hl => ?_)
    refine lv_iinc (v := 1) (lv' := [(5, .int 1), (4, .int 1), (3, .int 1), (0, .ref o), (1, .int 1), (2, .int 2)]) hx hb dX5_areSeveral_75 hl (k := 1) rfl (by decide) (by decide) rfl (fun ls hl => ?_)
    refine lv_goto (tgt := 22) hx hb dX5_areSeveral_78 (by decide) ?_
    refine lv_iload hx hb dX5_areSeveral_22 (lv_at hl 0 rfl) ?_
    refine lv_iconst (v := 3) hx hb dX5_areSeveral_24 (by decide) ?_
    refine lv_icmp_ge (tgt := 81) hx hb dX5_areSeveral_25 (by decide) (fun h => absurd h (by decide)) (fun _ => ?_)
    refine lv_iload hx hb dX5_areSeveral_28 (lv_at hl 1 rfl) ?_
    refine lv_if_eq (tgt := 72) hx hb dX5_areSeveral_30 (by decide) (fun h => absurd h (by decide)) (fun _ => ?_)
    refine lv_aload_n hx hb dX5_areSeveral_33 rfl (lv_at hl 3 rfl) ?_
    refine va_get (D := D) (ci := 5) (v := .ref mP) (C := RX5) (T := TX5) (N := 17) hx hb hts k_2 hown hK.1 hP 0 rfl rfl 0 (by decide) k_1 (fun _ h9 => h9) rfl dX5_areSeveral_34 ?_
    refine lv_iconst (v := 3) hx hb dX5_areSeveral_37 (by decide) ?_
    refine lv_aload_n hx hb dX5_areSeveral_38 rfl (lv_at hl 3 rfl) ?_
    refine va_get (D := D) (ci := 5) (v := .ref mV) (C := RX5) (T := TX5) (N := 17) hx hb hts k_2 hown hK.1 hP 0 rfl rfl 7 (by decide) k_3 (fun _ h9 => h9) rfl dX5_areSeveral_39 ?_
    refine lv_iload_n hx hb dX5_areSeveral_42 rfl (lv_at hl 5 rfl) ?_
    refine ld_i hx hb hK.1 hP 2 0 rfl rfl (ix_lit (by decide)) 2 (by decide) (v := gv 2) rfl dX5_areSeveral_43 ?_
    refine lv_imul hx hb dX5_areSeveral_44 ?_
    refine lv_iload hx hb dX5_areSeveral_45 (lv_at hl 0 rfl) ?_
    refine lv_iadd hx hb dX5_areSeveral_47 ?_
    refine ld_i hx hb hK.1 hP 1 0 rfl rfl (ix3l (hv 2 (by decide)) 1 (by decide)) (((3 * (gv 2)) + 1).toNatClampNeg) rfl (v := gp (((3 * (gv 2)) + 1).toNatClampNeg)) rfl dX5_areSeveral_48 ?_
    refine lv_aload_n hx hb dX5_areSeveral_49 rfl (lv_at hl 3 rfl) ?_
    refine va_get (D := D) (ci := 5) (v := .ref mP) (C := RX5) (T := TX5) (N := 17) hx hb hts k_2 hown hK.1 hP 0 rfl rfl 0 (by decide) k_1 (fun _ h9 => h9) rfl dX5_areSeveral_50 ?_
    refine lv_iconst (v := 3) hx hb dX5_areSeveral_53 (by decide) ?_
    refine lv_aload_n hx hb dX5_areSeveral_54 rfl (lv_at hl 3 rfl) ?_
    refine va_get (D := D) (ci := 5) (v := .ref mV) (C := RX5) (T := TX5) (N := 17) hx hb hts k_2 hown hK.1 hP 0 rfl rfl 7 (by decide) k_3 (fun _ h9 => h9) rfl dX5_areSeveral_55 ?_
    refine lv_iload_n hx hb dX5_areSeveral_58 rfl (lv_at hl 2 rfl) ?_
    refine ld_i hx hb hK.1 hP 2 0 rfl rfl (ix_lit (by decide)) 1 (by decide) (v := gv 1) rfl dX5_areSeveral_59 ?_
    refine lv_imul hx hb dX5_areSeveral_60 ?_
    refine lv_iload hx hb dX5_areSeveral_61 (lv_at hl 0 rfl) ?_
    refine lv_iadd hx hb dX5_areSeveral_63 ?_
    refine ld_i hx hb hK.1 hP 1 0 rfl rfl (ix3l (hv 1 (by decide)) 1 (by decide)) (((3 * (gv 1)) + 1).toNatClampNeg) rfl (v := gp (((3 * (gv 1)) + 1).toNatClampNeg)) rfl dX5_areSeveral_64 ?_
    refine lv_icmp_ne (tgt := 72) hx hb dX5_areSeveral_65 (by decide) (fun c_23 => ?_) (fun c_23 => ?_)
    · skip
      refine lv_iconst (v := 0) hx hb dX5_areSeveral_72 (by decide) ?_
      refine lv_istore (lv' := [(4, .int 0), (5, .int 1), (3, .int 1), (0, .ref o), (1, .int 1), (2, .int 2)]) hx hb dX5_areSeveral_73 hl (by decide) rfl (fun ls hl => ?_)
      refine lv_iinc (v := 2) (lv' := [(5, .int 2), (4, .int 0), (3, .int 1), (0, .ref o), (1, .int 1), (2, .int 2)]) hx hb dX5_areSeveral_75 hl (k := 1) rfl (by decide) (by decide) rfl (fun ls hl => ?_)
      refine lv_goto (tgt := 22) hx hb dX5_areSeveral_78 (by decide) ?_
      refine lv_iload hx hb dX5_areSeveral_22 (lv_at hl 0 rfl) ?_
      refine lv_iconst (v := 3) hx hb dX5_areSeveral_24 (by decide) ?_
      refine lv_icmp_ge (tgt := 81) hx hb dX5_areSeveral_25 (by decide) (fun h => absurd h (by decide)) (fun _ => ?_)
      refine lv_iload hx hb dX5_areSeveral_28 (lv_at hl 1 rfl) ?_
      refine lv_if_eq (tgt := 72) hx hb dX5_areSeveral_30 (by decide) (fun _ => ?_) (fun h => absurd (by decide) h)
      refine lv_iconst (v := 0) hx hb dX5_areSeveral_72 (by decide) ?_
      refine lv_istore (lv' := [(4, .int 0), (5, .int 2), (3, .int 1), (0, .ref o), (1, .int 1), (2, .int 2)]) hx hb dX5_areSeveral_73 hl (by decide) rfl (fun ls hl => ?_)
      refine lv_iinc (v := 3) (lv' := [(5, .int 3), (4, .int 0), (3, .int 1), (0, .ref o), (1, .int 1), (2, .int 2)]) hx hb dX5_areSeveral_75 hl (k := 1) rfl (by decide) (by decide) rfl (fun ls hl => ?_)
      refine lv_goto (tgt := 22) hx hb dX5_areSeveral_78 (by decide) ?_
      refine lv_iload hx hb dX5_areSeveral_22 (lv_at hl 0 rfl) ?_
      refine lv_iconst (v := 3) hx hb dX5_areSeveral_24 (by decide) ?_
      refine lv_icmp_ge (tgt := 81) hx hb dX5_areSeveral_25 (by decide) (fun _ => ?_) (fun h => absurd (by decide) h)
      refine lv_iload_n hx hb dX5_areSeveral_81 rfl (lv_at hl 4 rfl) ?_
      refine lv_if_ne (tgt := 90) hx hb dX5_areSeveral_82 (by decide) (fun _ => ?_) (fun h => absurd h (by decide))
      refine lv_iconst (v := 1) hx hb dX5_areSeveral_90 (by decide) ?_
      refine lv_goto (tgt := 95) hx hb dX5_areSeveral_91 (by decide) ?_
      refine lv_istore_n (lv' := [(1, .int 1), (5, .int 3), (4, .int 0), (3, .int 1), (0, .ref o), (2, .int 2)]) hx hb dX5_areSeveral_95 rfl hl (by decide) rfl (fun ls hl => ?_)
      have hq : z5_areSeveral gp gv = 1 := hj_12
      exact jo_X5_areSeveral_11 hv hx hb hr hml hown hts hlk hP hK hq ls (lv_sub hl [4, 0, 5, 3] rfl)
    · skip
      refine lv_iconst (v := 1) hx hb dX5_areSeveral_68 (by decide) ?_
      refine lv_goto (tgt := 73) hx hb dX5_areSeveral_69 (by decide) ?_
      refine lv_istore (lv' := [(4, .int 1), (5, .int 1), (3, .int 1), (0, .ref o), (1, .int 1), (2, .int 2)]) hx hb dX5_areSeveral_73 hl (by decide) rfl (fun ls hl => ?_)
      refine lv_iinc (v := 2) (lv' := [(5, .int 2), (4, .int 1), (3, .int 1), (0, .ref o), (1, .int 1), (2, .int 2)]) hx hb dX5_areSeveral_75 hl (k := 1) rfl (by decide) (by decide) rfl (fun ls hl => ?_)
      refine lv_goto (tgt := 22) hx hb dX5_areSeveral_78 (by decide) ?_
      refine lv_iload hx hb dX5_areSeveral_22 (lv_at hl 0 rfl) ?_
      refine lv_iconst (v := 3) hx hb dX5_areSeveral_24 (by decide) ?_
      refine lv_icmp_ge (tgt := 81) hx hb dX5_areSeveral_25 (by decide) (fun h => absurd h (by decide)) (fun _ => ?_)
      refine lv_iload hx hb dX5_areSeveral_28 (lv_at hl 1 rfl) ?_
      refine lv_if_eq (tgt := 72) hx hb dX5_areSeveral_30 (by decide) (fun h => absurd h (by decide)) (fun _ => ?_)
      refine lv_aload_n hx hb dX5_areSeveral_33 rfl (lv_at hl 3 rfl) ?_
      refine va_get (D := D) (ci := 5) (v := .ref mP) (C := RX5) (T := TX5) (N := 17) hx hb hts k_2 hown hK.1 hP 0 rfl rfl 0 (by decide) k_1 (fun _ h9 => h9) rfl dX5_areSeveral_34 ?_
      refine lv_iconst (v := 3) hx hb dX5_areSeveral_37 (by decide) ?_
      refine lv_aload_n hx hb dX5_areSeveral_38 rfl (lv_at hl 3 rfl) ?_
      refine va_get (D := D) (ci := 5) (v := .ref mV) (C := RX5) (T := TX5) (N := 17) hx hb hts k_2 hown hK.1 hP 0 rfl rfl 7 (by decide) k_3 (fun _ h9 => h9) rfl dX5_areSeveral_39 ?_
      refine lv_iload_n hx hb dX5_areSeveral_42 rfl (lv_at hl 5 rfl) ?_
      refine ld_i hx hb hK.1 hP 2 0 rfl rfl (ix_lit (by decide)) 2 (by decide) (v := gv 2) rfl dX5_areSeveral_43 ?_
      refine lv_imul hx hb dX5_areSeveral_44 ?_
      refine lv_iload hx hb dX5_areSeveral_45 (lv_at hl 0 rfl) ?_
      refine lv_iadd hx hb dX5_areSeveral_47 ?_
      refine ld_i hx hb hK.1 hP 1 0 rfl rfl (ix3l (hv 2 (by decide)) 2 (by decide)) (((3 * (gv 2)) + 2).toNatClampNeg) rfl (v := gp (((3 * (gv 2)) + 2).toNatClampNeg)) rfl dX5_areSeveral_48 ?_
      refine lv_aload_n hx hb dX5_areSeveral_49 rfl (lv_at hl 3 rfl) ?_
      refine va_get (D := D) (ci := 5) (v := .ref mP) (C := RX5) (T := TX5) (N := 17) hx hb hts k_2 hown hK.1 hP 0 rfl rfl 0 (by decide) k_1 (fun _ h9 => h9) rfl dX5_areSeveral_50 ?_
      refine lv_iconst (v := 3) hx hb dX5_areSeveral_53 (by decide) ?_
      refine lv_aload_n hx hb dX5_areSeveral_54 rfl (lv_at hl 3 rfl) ?_
      refine va_get (D := D) (ci := 5) (v := .ref mV) (C := RX5) (T := TX5) (N := 17) hx hb hts k_2 hown hK.1 hP 0 rfl rfl 7 (by decide) k_3 (fun _ h9 => h9) rfl dX5_areSeveral_55 ?_
      refine lv_iload_n hx hb dX5_areSeveral_58 rfl (lv_at hl 2 rfl) ?_
      refine ld_i hx hb hK.1 hP 2 0 rfl rfl (ix_lit (by decide)) 1 (by decide) (v := gv 1) rfl dX5_areSeveral_59 ?_
      refine lv_imul hx hb dX5_areSeveral_60 ?_
      refine lv_iload hx hb dX5_areSeveral_61 (lv_at hl 0 rfl) ?_
      refine lv_iadd hx hb dX5_areSeveral_63 ?_
      refine ld_i hx hb hK.1 hP 1 0 rfl rfl (ix3l (hv 1 (by decide)) 2 (by decide)) (((3 * (gv 1)) + 2).toNatClampNeg) rfl (v := gp (((3 * (gv 1)) + 2).toNatClampNeg)) rfl dX5_areSeveral_64 ?_
      refine lv_icmp_ne (tgt := 72) hx hb dX5_areSeveral_65 (by decide) (fun c_24 => ?_) (fun c_24 => ?_)
      · skip
        refine lv_iconst (v := 0) hx hb dX5_areSeveral_72 (by decide) ?_
        refine lv_istore (lv' := [(4, .int 0), (5, .int 2), (3, .int 1), (0, .ref o), (1, .int 1), (2, .int 2)]) hx hb dX5_areSeveral_73 hl (by decide) rfl (fun ls hl => ?_)
        refine lv_iinc (v := 3) (lv' := [(5, .int 3), (4, .int 0), (3, .int 1), (0, .ref o), (1, .int 1), (2, .int 2)]) hx hb dX5_areSeveral_75 hl (k := 1) rfl (by decide) (by decide) rfl (fun ls hl => ?_)
        refine lv_goto (tgt := 22) hx hb dX5_areSeveral_78 (by decide) ?_
        refine lv_iload hx hb dX5_areSeveral_22 (lv_at hl 0 rfl) ?_
        refine lv_iconst (v := 3) hx hb dX5_areSeveral_24 (by decide) ?_
        refine lv_icmp_ge (tgt := 81) hx hb dX5_areSeveral_25 (by decide) (fun _ => ?_) (fun h => absurd (by decide) h)
        refine lv_iload_n hx hb dX5_areSeveral_81 rfl (lv_at hl 4 rfl) ?_
        refine lv_if_ne (tgt := 90) hx hb dX5_areSeveral_82 (by decide) (fun _ => ?_) (fun h => absurd h (by decide))
        refine lv_iconst (v := 1) hx hb dX5_areSeveral_90 (by decide) ?_
        refine lv_goto (tgt := 95) hx hb dX5_areSeveral_91 (by decide) ?_
        refine lv_istore_n (lv' := [(1, .int 1), (5, .int 3), (4, .int 0), (3, .int 1), (0, .ref o), (2, .int 2)]) hx hb dX5_areSeveral_95 rfl hl (by decide) rfl (fun ls hl => ?_)
        have hq : z5_areSeveral gp gv = 1 := hj_12
        exact jo_X5_areSeveral_11 hv hx hb hr hml hown hts hlk hP hK hq ls (lv_sub hl [4, 0, 5, 3] rfl)
      · skip
        refine lv_iconst (v := 1) hx hb dX5_areSeveral_68 (by decide) ?_
        refine lv_goto (tgt := 73) hx hb dX5_areSeveral_69 (by decide) ?_
        refine lv_istore (lv' := [(4, .int 1), (5, .int 2), (3, .int 1), (0, .ref o), (1, .int 1), (2, .int 2)]) hx hb dX5_areSeveral_73 hl (by decide) rfl (fun ls hl => ?_)
        refine lv_iinc (v := 3) (lv' := [(5, .int 3), (4, .int 1), (3, .int 1), (0, .ref o), (1, .int 1), (2, .int 2)]) hx hb dX5_areSeveral_75 hl (k := 1) rfl (by decide) (by decide) rfl (fun ls hl => ?_)
        refine lv_goto (tgt := 22) hx hb dX5_areSeveral_78 (by decide) ?_
        refine lv_iload hx hb dX5_areSeveral_22 (lv_at hl 0 rfl) ?_
        refine lv_iconst (v := 3) hx hb dX5_areSeveral_24 (by decide) ?_
        refine lv_icmp_ge (tgt := 81) hx hb dX5_areSeveral_25 (by decide) (fun _ => ?_) (fun h => absurd (by decide) h)
        refine lv_iload_n hx hb dX5_areSeveral_81 rfl (lv_at hl 4 rfl) ?_
        refine lv_if_ne (tgt := 90) hx hb dX5_areSeveral_82 (by decide) (fun _ => ?_) (fun h => absurd h (by decide))
        refine lv_iconst (v := 1) hx hb dX5_areSeveral_90 (by decide) ?_
        refine lv_goto (tgt := 95) hx hb dX5_areSeveral_91 (by decide) ?_
        refine lv_istore_n (lv' := [(1, .int 1), (5, .int 3), (4, .int 1), (3, .int 1), (0, .ref o), (2, .int 2)]) hx hb dX5_areSeveral_95 rfl hl (by decide) rfl (fun ls hl => ?_)
        have hq : z5_areSeveral gp gv = 1 := hj_12
        exact jo_X5_areSeveral_11 hv hx hb hr hml hown hts hlk hP hK hq ls (lv_sub hl [4, 0, 5, 3] rfl)
set_option maxHeartbeats 4000000 in
set_option maxRecDepth 100000 in
theorem jo_X5_areSeveral_13 {l : Launch} {D : va_G} {cI cJ : ClassId} {pG : Program} {eG : Env} {sG : State} {mG : MethodId} {below : List Frame} {meth : Method} {cG : Code} {o : Nat} {mP : Nat} {mL : Nat} {mC : Nat} {mN : Nat} {mF : Nat} {mR : Nat} {mD : Nat} {mV : Nat} {mX : Nat} {mA : Nat} {mK : Nat} {mT : Nat} {mU : Nat} {mH : Nat} {mI : Nat} {cm : Int32} {pm : Int32} {gp : Nat → Int32} {gv : Nat → Int32} (hv : ∀ n, n < 5 → ok_i (gv n)) (hx : pG.tables.exec = Jvm.exec) (hb : cG.code = cX5_areSeveral) (hr : meth.sig.returnType = some .boolean) (hml : cG.maxLocals = 7) (hown : sG.vm.findClass RX5 = some mG.cls) (hts : ∀ x ∈ wsX5_areSeveral, x.before ([.ref o] : List Value).toArray sG = true) (hlk : meth.locks = false) (hP : va_P D vwCl [kM o mP mL mC mN mF mR mD mV mX mA mK cm mT pm mU mH mI, kA mP cI 180 gp, kA mV cI 5 gv] sG.heap) (hK : gd_K D cI cJ sG) (hj_13 : z5_areSeveral gp gv = 1) (ls : Array Slot) (hl : lv_has ls 7 [(0, .ref o), (1, .int 1), (2, .int 1)]) : W pG l eG (headSpec wsX5_areSeveral ({ frames := 1, cells := 0, slots := 0, locals := 30 })).room sG mG ([.ref o] : List Value).toArray below meth cG sG.heap [] 0 0 (MQ below (vp_Si (fun r : Int32 => r = z5_areSeveral gp gv)) ([.ref o] : List Value).toArray sG 0 0 (fun _ => False)) (F0 mG 196 ls []) := by
  have k_1 := hts (.fieldLink RX5 7 "ConicRowsModel" "points" "[I") (by decide +kernel)
  have k_2 : ∀ w ∈ wsX50, w ∈ wsX5_areSeveral := by decide +kernel
  have k_3 := hts (.fieldLink RX5 32 "ConicRowsModel" "five" "[I") (by decide +kernel)
  refine lv_iinc (v := 2) (lv' := [(2, .int 2), (0, .ref o), (1, .int 1)]) hx hb dX5_areSeveral_196 hl (k := 2) rfl (by decide) (by decide) rfl (fun ls hl => ?_)
  refine lv_goto (tgt := 4) hx hb dX5_areSeveral_199 (by decide) ?_
  refine lv_iload_n hx hb dX5_areSeveral_4 rfl (lv_at hl 0 rfl) ?_
  refine lv_iconst (v := 5) hx hb dX5_areSeveral_5 (by decide) ?_
  refine lv_icmp_ge (tgt := 202) hx hb dX5_areSeveral_6 (by decide) (fun h => absurd h (by decide)) (fun _ => ?_)
  refine lv_iconst (v := 0) hx hb dX5_areSeveral_9 (by decide) ?_
  refine lv_istore_n (lv' := [(3, .int 0), (2, .int 2), (0, .ref o), (1, .int 1)]) hx hb dX5_areSeveral_10 rfl hl (by decide) rfl (fun ls hl => ?_)
  refine lv_iload_n hx hb dX5_areSeveral_11 rfl (lv_at hl 0 rfl) ?_
  refine lv_iload_n hx hb dX5_areSeveral_12 rfl (lv_at hl 1 rfl) ?_
  refine lv_icmp_ge (tgt := 102) hx hb dX5_areSeveral_13 (by decide) (fun h => absurd h (by decide)) (fun _ => ?_)
  refine lv_iconst (v := 1) hx hb dX5_areSeveral_16 (by decide) ?_
  refine lv_istore (lv' := [(4, .int 1), (3, .int 0), (2, .int 2), (0, .ref o), (1, .int 1)]) hx hb dX5_areSeveral_17 hl (by decide) rfl (fun ls hl => ?_)
  refine lv_iconst (v := 0) hx hb dX5_areSeveral_19 (by decide) ?_
  refine lv_istore (lv' := [(5, .int 0), (4, .int 1), (3, .int 0), (2, .int 2), (0, .ref o), (1, .int 1)]) hx hb dX5_areSeveral_20 hl (by decide) rfl (fun ls hl => ?_)
  refine lv_iload hx hb dX5_areSeveral_22 (lv_at hl 0 rfl) ?_
  refine lv_iconst (v := 3) hx hb dX5_areSeveral_24 (by decide) ?_
  refine lv_icmp_ge (tgt := 81) hx hb dX5_areSeveral_25 (by decide) (fun h => absurd h (by decide)) (fun _ => ?_)
  refine lv_iload hx hb dX5_areSeveral_28 (lv_at hl 1 rfl) ?_
  refine lv_if_eq (tgt := 72) hx hb dX5_areSeveral_30 (by decide) (fun h => absurd h (by decide)) (fun _ => ?_)
  refine lv_aload_n hx hb dX5_areSeveral_33 rfl (lv_at hl 4 rfl) ?_
  refine va_get (D := D) (ci := 5) (v := .ref mP) (C := RX5) (T := TX5) (N := 17) hx hb hts k_2 hown hK.1 hP 0 rfl rfl 0 (by decide) k_1 (fun _ h9 => h9) rfl dX5_areSeveral_34 ?_
  refine lv_iconst (v := 3) hx hb dX5_areSeveral_37 (by decide) ?_
  refine lv_aload_n hx hb dX5_areSeveral_38 rfl (lv_at hl 4 rfl) ?_
  refine va_get (D := D) (ci := 5) (v := .ref mV) (C := RX5) (T := TX5) (N := 17) hx hb hts k_2 hown hK.1 hP 0 rfl rfl 7 (by decide) k_3 (fun _ h9 => h9) rfl dX5_areSeveral_39 ?_
  refine lv_iload_n hx hb dX5_areSeveral_42 rfl (lv_at hl 3 rfl) ?_
  refine ld_i hx hb hK.1 hP 2 0 rfl rfl (ix_lit (by decide)) 2 (by decide) (v := gv 2) rfl dX5_areSeveral_43 ?_
  refine lv_imul hx hb dX5_areSeveral_44 ?_
  refine lv_iload hx hb dX5_areSeveral_45 (lv_at hl 0 rfl) ?_
  refine lv_iadd hx hb dX5_areSeveral_47 ?_
  refine ld_i hx hb hK.1 hP 1 0 rfl rfl (ix3l (hv 2 (by decide)) 0 (by decide)) (((3 * (gv 2)) + 0).toNatClampNeg) rfl (v := gp (((3 * (gv 2)) + 0).toNatClampNeg)) rfl dX5_areSeveral_48 ?_
  refine lv_aload_n hx hb dX5_areSeveral_49 rfl (lv_at hl 4 rfl) ?_
  refine va_get (D := D) (ci := 5) (v := .ref mP) (C := RX5) (T := TX5) (N := 17) hx hb hts k_2 hown hK.1 hP 0 rfl rfl 0 (by decide) k_1 (fun _ h9 => h9) rfl dX5_areSeveral_50 ?_
  refine lv_iconst (v := 3) hx hb dX5_areSeveral_53 (by decide) ?_
  refine lv_aload_n hx hb dX5_areSeveral_54 rfl (lv_at hl 4 rfl) ?_
  refine va_get (D := D) (ci := 5) (v := .ref mV) (C := RX5) (T := TX5) (N := 17) hx hb hts k_2 hown hK.1 hP 0 rfl rfl 7 (by decide) k_3 (fun _ h9 => h9) rfl dX5_areSeveral_55 ?_
  refine lv_iload_n hx hb dX5_areSeveral_58 rfl (lv_at hl 2 rfl) ?_
  refine ld_i hx hb hK.1 hP 2 0 rfl rfl (ix_lit (by decide)) 0 (by decide) (v := gv 0) rfl dX5_areSeveral_59 ?_
  refine lv_imul hx hb dX5_areSeveral_60 ?_
  refine lv_iload hx hb dX5_areSeveral_61 (lv_at hl 0 rfl) ?_
  refine lv_iadd hx hb dX5_areSeveral_63 ?_
  refine ld_i hx hb hK.1 hP 1 0 rfl rfl (ix3l (hv 0 (by decide)) 0 (by decide)) (((3 * (gv 0)) + 0).toNatClampNeg) rfl (v := gp (((3 * (gv 0)) + 0).toNatClampNeg)) rfl dX5_areSeveral_64 ?_
  refine lv_icmp_ne (tgt := 72) hx hb dX5_areSeveral_65 (by decide) (fun c_25 => ?_) (fun c_25 => ?_)
  · skip
    refine lv_iconst (v := 0) hx hb dX5_areSeveral_72 (by decide) ?_
    refine lv_istore (lv' := [(4, .int 0), (5, .int 0), (3, .int 0), (2, .int 2), (0, .ref o), (1, .int 1)]) hx hb dX5_areSeveral_73 hl (by decide) rfl (fun ls hl => ?_)
    refine lv_iinc (v := 1) (lv' := [(5, .int 1), (4, .int 0), (3, .int 0), (2, .int 2), (0, .ref o), (1, .int 1)]) hx hb dX5_areSeveral_75 hl (k := 1) rfl (by decide) (by decide) rfl (fun ls hl => ?_)
    refine lv_goto (tgt := 22) hx hb dX5_areSeveral_78 (by decide) ?_
    refine lv_iload hx hb dX5_areSeveral_22 (lv_at hl 0 rfl) ?_
    refine lv_iconst (v := 3) hx hb dX5_areSeveral_24 (by decide) ?_
    refine lv_icmp_ge (tgt := 81) hx hb dX5_areSeveral_25 (by decide) (fun h => absurd h (by decide)) (fun _ => ?_)
    refine lv_iload hx hb dX5_areSeveral_28 (lv_at hl 1 rfl) ?_
    refine lv_if_eq (tgt := 72) hx hb dX5_areSeveral_30 (by decide) (fun _ => ?_) (fun h => absurd (by decide) h)
    refine lv_iconst (v := 0) hx hb dX5_areSeveral_72 (by decide) ?_
    refine lv_istore (lv' := [(4, .int 0), (5, .int 1), (3, .int 0), (2, .int 2), (0, .ref o), (1, .int 1)]) hx hb dX5_areSeveral_73 hl (by decide) rfl (fun ls hl => ?_)
    refine lv_iinc (v := 2) (lv' := [(5, .int 2), (4, .int 0), (3, .int 0), (2, .int 2), (0, .ref o), (1, .int 1)]) hx hb dX5_areSeveral_75 hl (k := 1) rfl (by decide) (by decide) rfl (fun ls hl => ?_)
    refine lv_goto (tgt := 22) hx hb dX5_areSeveral_78 (by decide) ?_
    refine lv_iload hx hb dX5_areSeveral_22 (lv_at hl 0 rfl) ?_
    refine lv_iconst (v := 3) hx hb dX5_areSeveral_24 (by decide) ?_
    refine lv_icmp_ge (tgt := 81) hx hb dX5_areSeveral_25 (by decide) (fun h => absurd h (by decide)) (fun _ => ?_)
    refine lv_iload hx hb dX5_areSeveral_28 (lv_at hl 1 rfl) ?_
    refine lv_if_eq (tgt := 72) hx hb dX5_areSeveral_30 (by decide) (fun _ => ?_) (fun h => absurd (by decide) h)
    refine lv_iconst (v := 0) hx hb dX5_areSeveral_72 (by decide) ?_
    refine lv_istore (lv' := [(4, .int 0), (5, .int 2), (3, .int 0), (2, .int 2), (0, .ref o), (1, .int 1)]) hx hb dX5_areSeveral_73 hl (by decide) rfl (fun ls hl => ?_)
    refine lv_iinc (v := 3) (lv' := [(5, .int 3), (4, .int 0), (3, .int 0), (2, .int 2), (0, .ref o), (1, .int 1)]) hx hb dX5_areSeveral_75 hl (k := 1) rfl (by decide) (by decide) rfl (fun ls hl => ?_)
    refine lv_goto (tgt := 22) hx hb dX5_areSeveral_78 (by decide) ?_
    refine lv_iload hx hb dX5_areSeveral_22 (lv_at hl 0 rfl) ?_
    refine lv_iconst (v := 3) hx hb dX5_areSeveral_24 (by decide) ?_
    refine lv_icmp_ge (tgt := 81) hx hb dX5_areSeveral_25 (by decide) (fun _ => ?_) (fun h => absurd (by decide) h)
    refine lv_iload_n hx hb dX5_areSeveral_81 rfl (lv_at hl 5 rfl) ?_
    refine lv_if_ne (tgt := 90) hx hb dX5_areSeveral_82 (by decide) (fun _ => ?_) (fun h => absurd h (by decide))
    refine lv_iconst (v := 1) hx hb dX5_areSeveral_90 (by decide) ?_
    refine lv_goto (tgt := 95) hx hb dX5_areSeveral_91 (by decide) ?_
    refine lv_istore_n (lv' := [(1, .int 1), (5, .int 3), (4, .int 0), (3, .int 0), (2, .int 2), (0, .ref o)]) hx hb dX5_areSeveral_95 rfl hl (by decide) rfl (fun ls hl => ?_)
    have hq : z5_areSeveral gp gv = 1 := hj_13
    exact jo_X5_areSeveral_12 hv hx hb hr hml hown hts hlk hP hK hq ls (lv_sub hl [5, 0, 4, 3] rfl)
  · skip
    refine lv_iconst (v := 1) hx hb dX5_areSeveral_68 (by decide) ?_
    refine lv_goto (tgt := 73) hx hb dX5_areSeveral_69 (by decide) ?_
    refine lv_istore (lv' := [(4, .int 1), (5, .int 0), (3, .int 0), (2, .int 2), (0, .ref o), (1, .int 1)]) hx hb dX5_areSeveral_73 hl (by decide) rfl (fun ls hl => ?_)
    refine lv_iinc (v := 1) (lv' := [(5, .int 1), (4, .int 1), (3, .int 0), (2, .int 2), (0, .ref o), (1, .int 1)]) hx hb dX5_areSeveral_75 hl (k := 1) rfl (by decide) (by decide) rfl (fun ls hl => ?_)
    refine lv_goto (tgt := 22) hx hb dX5_areSeveral_78 (by decide) ?_
    refine lv_iload hx hb dX5_areSeveral_22 (lv_at hl 0 rfl) ?_
    refine lv_iconst (v := 3) hx hb dX5_areSeveral_24 (by decide) ?_
    refine lv_icmp_ge (tgt := 81) hx hb dX5_areSeveral_25 (by decide) (fun h => absurd h (by decide)) (fun _ => ?_)
    refine lv_iload hx hb dX5_areSeveral_28 (lv_at hl 1 rfl) ?_
    refine lv_if_eq (tgt := 72) hx hb dX5_areSeveral_30 (by decide) (fun h => absurd h (by decide)) (fun _ => ?_)
    refine lv_aload_n hx hb dX5_areSeveral_33 rfl (lv_at hl 4 rfl) ?_
    refine va_get (D := D) (ci := 5) (v := .ref mP) (C := RX5) (T := TX5) (N := 17) hx hb hts k_2 hown hK.1 hP 0 rfl rfl 0 (by decide) k_1 (fun _ h9 => h9) rfl dX5_areSeveral_34 ?_
    refine lv_iconst (v := 3) hx hb dX5_areSeveral_37 (by decide) ?_
    refine lv_aload_n hx hb dX5_areSeveral_38 rfl (lv_at hl 4 rfl) ?_
    refine va_get (D := D) (ci := 5) (v := .ref mV) (C := RX5) (T := TX5) (N := 17) hx hb hts k_2 hown hK.1 hP 0 rfl rfl 7 (by decide) k_3 (fun _ h9 => h9) rfl dX5_areSeveral_39 ?_
    refine lv_iload_n hx hb dX5_areSeveral_42 rfl (lv_at hl 3 rfl) ?_
    refine ld_i hx hb hK.1 hP 2 0 rfl rfl (ix_lit (by decide)) 2 (by decide) (v := gv 2) rfl dX5_areSeveral_43 ?_
    refine lv_imul hx hb dX5_areSeveral_44 ?_
    refine lv_iload hx hb dX5_areSeveral_45 (lv_at hl 0 rfl) ?_
    refine lv_iadd hx hb dX5_areSeveral_47 ?_
    refine ld_i hx hb hK.1 hP 1 0 rfl rfl (ix3l (hv 2 (by decide)) 1 (by decide)) (((3 * (gv 2)) + 1).toNatClampNeg) rfl (v := gp (((3 * (gv 2)) + 1).toNatClampNeg)) rfl dX5_areSeveral_48 ?_
    refine lv_aload_n hx hb dX5_areSeveral_49 rfl (lv_at hl 4 rfl) ?_
    refine va_get (D := D) (ci := 5) (v := .ref mP) (C := RX5) (T := TX5) (N := 17) hx hb hts k_2 hown hK.1 hP 0 rfl rfl 0 (by decide) k_1 (fun _ h9 => h9) rfl dX5_areSeveral_50 ?_
    refine lv_iconst (v := 3) hx hb dX5_areSeveral_53 (by decide) ?_
    refine lv_aload_n hx hb dX5_areSeveral_54 rfl (lv_at hl 4 rfl) ?_
    refine va_get (D := D) (ci := 5) (v := .ref mV) (C := RX5) (T := TX5) (N := 17) hx hb hts k_2 hown hK.1 hP 0 rfl rfl 7 (by decide) k_3 (fun _ h9 => h9) rfl dX5_areSeveral_55 ?_
    refine lv_iload_n hx hb dX5_areSeveral_58 rfl (lv_at hl 2 rfl) ?_
    refine ld_i hx hb hK.1 hP 2 0 rfl rfl (ix_lit (by decide)) 0 (by decide) (v := gv 0) rfl dX5_areSeveral_59 ?_
    refine lv_imul hx hb dX5_areSeveral_60 ?_
    refine lv_iload hx hb dX5_areSeveral_61 (lv_at hl 0 rfl) ?_
    refine lv_iadd hx hb dX5_areSeveral_63 ?_
    refine ld_i hx hb hK.1 hP 1 0 rfl rfl (ix3l (hv 0 (by decide)) 1 (by decide)) (((3 * (gv 0)) + 1).toNatClampNeg) rfl (v := gp (((3 * (gv 0)) + 1).toNatClampNeg)) rfl dX5_areSeveral_64 ?_
    refine lv_icmp_ne (tgt := 72) hx hb dX5_areSeveral_65 (by decide) (fun c_26 => ?_) (fun c_26 => ?_)
    · skip
      refine lv_iconst (v := 0) hx hb dX5_areSeveral_72 (by decide) ?_
      refine lv_istore (lv' := [(4, .int 0), (5, .int 1), (3, .int 0), (2, .int 2), (0, .ref o), (1, .int 1)]) hx hb dX5_areSeveral_73 hl (by decide) rfl (fun ls hl => ?_)
      refine lv_iinc (v := 2) (lv' := [(5, .int 2), (4, .int 0), (3, .int 0), (2, .int 2), (0, .ref o), (1, .int 1)]) hx hb dX5_areSeveral_75 hl (k := 1) rfl (by decide) (by decide) rfl (fun ls hl => ?_)
      refine lv_goto (tgt := 22) hx hb dX5_areSeveral_78 (by decide) ?_
      refine lv_iload hx hb dX5_areSeveral_22 (lv_at hl 0 rfl) ?_
      refine lv_iconst (v := 3) hx hb dX5_areSeveral_24 (by decide) ?_
      refine lv_icmp_ge (tgt := 81) hx hb dX5_areSeveral_25 (by decide) (fun h => absurd h (by decide)) (fun _ => ?_)
      refine lv_iload hx hb dX5_areSeveral_28 (lv_at hl 1 rfl) ?_
      refine lv_if_eq (tgt := 72) hx hb dX5_areSeveral_30 (by decide) (fun _ => ?_) (fun h => absurd (by decide) h)
      refine lv_iconst (v := 0) hx hb dX5_areSeveral_72 (by decide) ?_
      refine lv_istore (lv' := [(4, .int 0), (5, .int 2), (3, .int 0), (2, .int 2), (0, .ref o), (1, .int 1)]) hx hb dX5_areSeveral_73 hl (by decide) rfl (fun ls hl => ?_)
      refine lv_iinc (v := 3) (lv' := [(5, .int 3), (4, .int 0), (3, .int 0), (2, .int 2), (0, .ref o), (1, .int 1)]) hx hb dX5_areSeveral_75 hl (k := 1) rfl (by decide) (by decide) rfl (fun ls hl => ?_)
      refine lv_goto (tgt := 22) hx hb dX5_areSeveral_78 (by decide) ?_
      refine lv_iload hx hb dX5_areSeveral_22 (lv_at hl 0 rfl) ?_
      refine lv_iconst (v := 3) hx hb dX5_areSeveral_24 (by decide) ?_
      refine lv_icmp_ge (tgt := 81) hx hb dX5_areSeveral_25 (by decide) (fun _ => ?_) (fun h => absurd (by decide) h)
      refine lv_iload_n hx hb dX5_areSeveral_81 rfl (lv_at hl 5 rfl) ?_
      refine lv_if_ne (tgt := 90) hx hb dX5_areSeveral_82 (by decide) (fun _ => ?_) (fun h => absurd h (by decide))
      refine lv_iconst (v := 1) hx hb dX5_areSeveral_90 (by decide) ?_
      refine lv_goto (tgt := 95) hx hb dX5_areSeveral_91 (by decide) ?_
      refine lv_istore_n (lv' := [(1, .int 1), (5, .int 3), (4, .int 0), (3, .int 0), (2, .int 2), (0, .ref o)]) hx hb dX5_areSeveral_95 rfl hl (by decide) rfl (fun ls hl => ?_)
      have hq : z5_areSeveral gp gv = 1 := hj_13
      exact jo_X5_areSeveral_12 hv hx hb hr hml hown hts hlk hP hK hq ls (lv_sub hl [5, 0, 4, 3] rfl)
    · skip
      refine lv_iconst (v := 1) hx hb dX5_areSeveral_68 (by decide) ?_
      refine lv_goto (tgt := 73) hx hb dX5_areSeveral_69 (by decide) ?_
      refine lv_istore (lv' := [(4, .int 1), (5, .int 1), (3, .int 0), (2, .int 2), (0, .ref o), (1, .int 1)]) hx hb dX5_areSeveral_73 hl (by decide) rfl (fun ls hl => ?_)
      refine lv_iinc (v := 2) (lv' := [(5, .int 2), (4, .int 1), (3, .int 0), (2, .int 2), (0, .ref o), (1, .int 1)]) hx hb dX5_areSeveral_75 hl (k := 1) rfl (by decide) (by decide) rfl (fun ls hl => ?_)
      refine lv_goto (tgt := 22) hx hb dX5_areSeveral_78 (by decide) ?_
      refine lv_iload hx hb dX5_areSeveral_22 (lv_at hl 0 rfl) ?_
      refine lv_iconst (v := 3) hx hb dX5_areSeveral_24 (by decide) ?_
      refine lv_icmp_ge (tgt := 81) hx hb dX5_areSeveral_25 (by decide) (fun h => absurd h (by decide)) (fun _ => ?_)
      refine lv_iload hx hb dX5_areSeveral_28 (lv_at hl 1 rfl) ?_
      refine lv_if_eq (tgt := 72) hx hb dX5_areSeveral_30 (by decide) (fun h => absurd h (by decide)) (fun _ => ?_)
      refine lv_aload_n hx hb dX5_areSeveral_33 rfl (lv_at hl 4 rfl) ?_
      refine va_get (D := D) (ci := 5) (v := .ref mP) (C := RX5) (T := TX5) (N := 17) hx hb hts k_2 hown hK.1 hP 0 rfl rfl 0 (by decide) k_1 (fun _ h9 => h9) rfl dX5_areSeveral_34 ?_
      refine lv_iconst (v := 3) hx hb dX5_areSeveral_37 (by decide) ?_
      refine lv_aload_n hx hb dX5_areSeveral_38 rfl (lv_at hl 4 rfl) ?_
      refine va_get (D := D) (ci := 5) (v := .ref mV) (C := RX5) (T := TX5) (N := 17) hx hb hts k_2 hown hK.1 hP 0 rfl rfl 7 (by decide) k_3 (fun _ h9 => h9) rfl dX5_areSeveral_39 ?_
      refine lv_iload_n hx hb dX5_areSeveral_42 rfl (lv_at hl 3 rfl) ?_
      refine ld_i hx hb hK.1 hP 2 0 rfl rfl (ix_lit (by decide)) 2 (by decide) (v := gv 2) rfl dX5_areSeveral_43 ?_
      refine lv_imul hx hb dX5_areSeveral_44 ?_
      refine lv_iload hx hb dX5_areSeveral_45 (lv_at hl 0 rfl) ?_
      refine lv_iadd hx hb dX5_areSeveral_47 ?_
      refine ld_i hx hb hK.1 hP 1 0 rfl rfl (ix3l (hv 2 (by decide)) 2 (by decide)) (((3 * (gv 2)) + 2).toNatClampNeg) rfl (v := gp (((3 * (gv 2)) + 2).toNatClampNeg)) rfl dX5_areSeveral_48 ?_
      refine lv_aload_n hx hb dX5_areSeveral_49 rfl (lv_at hl 4 rfl) ?_
      refine va_get (D := D) (ci := 5) (v := .ref mP) (C := RX5) (T := TX5) (N := 17) hx hb hts k_2 hown hK.1 hP 0 rfl rfl 0 (by decide) k_1 (fun _ h9 => h9) rfl dX5_areSeveral_50 ?_
      refine lv_iconst (v := 3) hx hb dX5_areSeveral_53 (by decide) ?_
      refine lv_aload_n hx hb dX5_areSeveral_54 rfl (lv_at hl 4 rfl) ?_
      refine va_get (D := D) (ci := 5) (v := .ref mV) (C := RX5) (T := TX5) (N := 17) hx hb hts k_2 hown hK.1 hP 0 rfl rfl 7 (by decide) k_3 (fun _ h9 => h9) rfl dX5_areSeveral_55 ?_
      refine lv_iload_n hx hb dX5_areSeveral_58 rfl (lv_at hl 2 rfl) ?_
      refine ld_i hx hb hK.1 hP 2 0 rfl rfl (ix_lit (by decide)) 0 (by decide) (v := gv 0) rfl dX5_areSeveral_59 ?_
      refine lv_imul hx hb dX5_areSeveral_60 ?_
      refine lv_iload hx hb dX5_areSeveral_61 (lv_at hl 0 rfl) ?_
      refine lv_iadd hx hb dX5_areSeveral_63 ?_
      refine ld_i hx hb hK.1 hP 1 0 rfl rfl (ix3l (hv 0 (by decide)) 2 (by decide)) (((3 * (gv 0)) + 2).toNatClampNeg) rfl (v := gp (((3 * (gv 0)) + 2).toNatClampNeg)) rfl dX5_areSeveral_64 ?_
      refine lv_icmp_ne (tgt := 72) hx hb dX5_areSeveral_65 (by decide) (fun c_27 => ?_) (fun c_27 => ?_)
      · skip
        refine lv_iconst (v := 0) hx hb dX5_areSeveral_72 (by decide) ?_
        refine lv_istore (lv' := [(4, .int 0), (5, .int 2), (3, .int 0), (2, .int 2), (0, .ref o), (1, .int 1)]) hx hb dX5_areSeveral_73 hl (by decide) rfl (fun ls hl => ?_)
        refine lv_iinc (v := 3) (lv' := [(5, .int 3), (4, .int 0), (3, .int 0), (2, .int 2), (0, .ref o), (1, .int 1)]) hx hb dX5_areSeveral_75 hl (k := 1) rfl (by decide) (by decide) rfl (fun ls hl => ?_)
        refine lv_goto (tgt := 22) hx hb dX5_areSeveral_78 (by decide) ?_
        refine lv_iload hx hb dX5_areSeveral_22 (lv_at hl 0 rfl) ?_
        refine lv_iconst (v := 3) hx hb dX5_areSeveral_24 (by decide) ?_
        refine lv_icmp_ge (tgt := 81) hx hb dX5_areSeveral_25 (by decide) (fun _ => ?_) (fun h => absurd (by decide) h)
        refine lv_iload_n hx hb dX5_areSeveral_81 rfl (lv_at hl 5 rfl) ?_
        refine lv_if_ne (tgt := 90) hx hb dX5_areSeveral_82 (by decide) (fun _ => ?_) (fun h => absurd h (by decide))
        refine lv_iconst (v := 1) hx hb dX5_areSeveral_90 (by decide) ?_
        refine lv_goto (tgt := 95) hx hb dX5_areSeveral_91 (by decide) ?_
        refine lv_istore_n (lv' := [(1, .int 1), (5, .int 3), (4, .int 0), (3, .int 0), (2, .int 2), (0, .ref o)]) hx hb dX5_areSeveral_95 rfl hl (by decide) rfl (fun ls hl => ?_)
        have hq : z5_areSeveral gp gv = 1 := hj_13
        exact jo_X5_areSeveral_12 hv hx hb hr hml hown hts hlk hP hK hq ls (lv_sub hl [5, 0, 4, 3] rfl)
      · skip
        refine lv_iconst (v := 1) hx hb dX5_areSeveral_68 (by decide) ?_
        refine lv_goto (tgt := 73) hx hb dX5_areSeveral_69 (by decide) ?_
        refine lv_istore (lv' := [(4, .int 1), (5, .int 2), (3, .int 0), (2, .int 2), (0, .ref o), (1, .int 1)]) hx hb dX5_areSeveral_73 hl (by decide) rfl (fun ls hl => ?_)
        refine lv_iinc (v := 3) (lv' := [(5, .int 3), (4, .int 1), (3, .int 0), (2, .int 2), (0, .ref o), (1, .int 1)]) hx hb dX5_areSeveral_75 hl (k := 1) rfl (by decide) (by decide) rfl (fun ls hl => ?_)
        refine lv_goto (tgt := 22) hx hb dX5_areSeveral_78 (by decide) ?_
        refine lv_iload hx hb dX5_areSeveral_22 (lv_at hl 0 rfl) ?_
        refine lv_iconst (v := 3) hx hb dX5_areSeveral_24 (by decide) ?_
        refine lv_icmp_ge (tgt := 81) hx hb dX5_areSeveral_25 (by decide) (fun _ => ?_) (fun h => absurd (by decide) h)
        refine lv_iload_n hx hb dX5_areSeveral_81 rfl (lv_at hl 5 rfl) ?_
        refine lv_if_ne (tgt := 90) hx hb dX5_areSeveral_82 (by decide) (fun _ => ?_) (fun h => absurd h (by decide))
        refine lv_iconst (v := 1) hx hb dX5_areSeveral_90 (by decide) ?_
        refine lv_goto (tgt := 95) hx hb dX5_areSeveral_91 (by decide) ?_
        refine lv_istore_n (lv' := [(1, .int 1), (5, .int 3), (4, .int 1), (3, .int 0), (2, .int 2), (0, .ref o)]) hx hb dX5_areSeveral_95 rfl hl (by decide) rfl (fun ls hl => ?_)
        have hq : z5_areSeveral gp gv = 1 := hj_13
        exact jo_X5_areSeveral_12 hv hx hb hr hml hown hts hlk hP hK hq ls (lv_sub hl [5, 0, 4, 3] rfl)
set_option maxHeartbeats 4000000 in
set_option maxRecDepth 100000 in
theorem jo_X5_areSeveral_14 {l : Launch} {D : va_G} {cI cJ : ClassId} {pG : Program} {eG : Env} {sG : State} {mG : MethodId} {below : List Frame} {meth : Method} {cG : Code} {o : Nat} {mP : Nat} {mL : Nat} {mC : Nat} {mN : Nat} {mF : Nat} {mR : Nat} {mD : Nat} {mV : Nat} {mX : Nat} {mA : Nat} {mK : Nat} {mT : Nat} {mU : Nat} {mH : Nat} {mI : Nat} {cm : Int32} {pm : Int32} {gp : Nat → Int32} {gv : Nat → Int32} (hv : ∀ n, n < 5 → ok_i (gv n)) (hx : pG.tables.exec = Jvm.exec) (hb : cG.code = cX5_areSeveral) (hr : meth.sig.returnType = some .boolean) (hml : cG.maxLocals = 7) (hown : sG.vm.findClass RX5 = some mG.cls) (hts : ∀ x ∈ wsX5_areSeveral, x.before ([.ref o] : List Value).toArray sG = true) (hlk : meth.locks = false) (hP : va_P D vwCl [kM o mP mL mC mN mF mR mD mV mX mA mK cm mT pm mU mH mI, kA mP cI 180 gp, kA mV cI 5 gv] sG.heap) (hK : gd_K D cI cJ sG) (hj_14 : z5_areSeveral gp gv = 1) (ls : Array Slot) (hl : lv_has ls 7 [(0, .ref o), (1, .int 1), (2, .int 1), (3, .int 0)]) : W pG l eG (headSpec wsX5_areSeveral ({ frames := 1, cells := 0, slots := 0, locals := 30 })).room sG mG ([.ref o] : List Value).toArray below meth cG sG.heap [] 0 0 (MQ below (vp_Si (fun r : Int32 => r = z5_areSeveral gp gv)) ([.ref o] : List Value).toArray sG 0 0 (fun _ => False)) (F0 mG 96 ls []) := by
  have k_1 := hts (.fieldLink RX5 7 "ConicRowsModel" "points" "[I") (by decide +kernel)
  have k_2 : ∀ w ∈ wsX50, w ∈ wsX5_areSeveral := by decide +kernel
  have k_3 := hts (.fieldLink RX5 32 "ConicRowsModel" "five" "[I") (by decide +kernel)
  refine lv_iinc (v := 1) (lv' := [(3, .int 1), (0, .ref o), (1, .int 1), (2, .int 1)]) hx hb dX5_areSeveral_96 hl (k := 3) rfl (by decide) (by decide) rfl (fun ls hl => ?_)
  refine lv_goto (tgt := 11) hx hb dX5_areSeveral_99 (by decide) ?_
  refine lv_iload_n hx hb dX5_areSeveral_11 rfl (lv_at hl 0 rfl) ?_
  refine lv_iload_n hx hb dX5_areSeveral_12 rfl (lv_at hl 3 rfl) ?_
  refine lv_icmp_ge (tgt := 102) hx hb dX5_areSeveral_13 (by decide) (fun _ => ?_) (fun h => absurd (by decide) h)
  refine lv_iload_n hx hb dX5_areSeveral_102 rfl (lv_at hl 3 rfl) ?_
  refine lv_iconst (v := 1) hx hb dX5_areSeveral_103 (by decide) ?_
  refine lv_iadd hx hb dX5_areSeveral_104 ?_
  refine lv_eqi (v := 2) (by decide) ?_
  refine lv_iconst (v := 5) hx hb dX5_areSeveral_105 (by decide) ?_
  refine lv_irem hx hb dX5_areSeveral_106 (by decide) ?_
  refine lv_eqi (v := 2) (by decide) ?_
  refine lv_istore_n (lv' := [(3, .int 2), (0, .ref o), (1, .int 1), (2, .int 1)]) hx hb dX5_areSeveral_107 rfl hl (by decide) rfl (fun ls hl => ?_)
  refine lv_iload_n hx hb dX5_areSeveral_108 rfl (lv_at hl 3 rfl) ?_
  refine lv_iconst (v := 2) hx hb dX5_areSeveral_109 (by decide) ?_
  refine lv_iadd hx hb dX5_areSeveral_110 ?_
  refine lv_eqi (v := 3) (by decide) ?_
  refine lv_iconst (v := 5) hx hb dX5_areSeveral_111 (by decide) ?_
  refine lv_irem hx hb dX5_areSeveral_112 (by decide) ?_
  refine lv_eqi (v := 3) (by decide) ?_
  refine lv_istore (lv' := [(4, .int 3), (3, .int 2), (0, .ref o), (1, .int 1), (2, .int 1)]) hx hb dX5_areSeveral_113 hl (by decide) rfl (fun ls hl => ?_)
  refine lv_iload_n hx hb dX5_areSeveral_115 rfl (lv_at hl 4 rfl) ?_
  refine lv_iconst (v := 3) hx hb dX5_areSeveral_116 (by decide) ?_
  refine lv_iadd hx hb dX5_areSeveral_117 ?_
  refine lv_eqi (v := 4) (by decide) ?_
  refine lv_iconst (v := 5) hx hb dX5_areSeveral_118 (by decide) ?_
  refine lv_irem hx hb dX5_areSeveral_119 (by decide) ?_
  refine lv_eqi (v := 4) (by decide) ?_
  refine lv_istore (lv' := [(5, .int 4), (4, .int 3), (3, .int 2), (0, .ref o), (1, .int 1), (2, .int 1)]) hx hb dX5_areSeveral_120 hl (by decide) rfl (fun ls hl => ?_)
  refine lv_iload_n hx hb dX5_areSeveral_122 rfl (lv_at hl 5 rfl) ?_
  refine lv_iconst (v := 4) hx hb dX5_areSeveral_123 (by decide) ?_
  refine lv_iadd hx hb dX5_areSeveral_124 ?_
  refine lv_eqi (v := 5) (by decide) ?_
  refine lv_iconst (v := 5) hx hb dX5_areSeveral_125 (by decide) ?_
  refine lv_irem hx hb dX5_areSeveral_126 (by decide) ?_
  refine lv_eqi (v := 0) (by decide) ?_
  refine lv_istore (lv' := [(6, .int 0), (5, .int 4), (4, .int 3), (3, .int 2), (0, .ref o), (1, .int 1), (2, .int 1)]) hx hb dX5_areSeveral_127 hl (by decide) rfl (fun ls hl => ?_)
  refine lv_iload_n hx hb dX5_areSeveral_129 rfl (lv_at hl 5 rfl) ?_
  refine lv_if_ne (tgt := 190) hx hb dX5_areSeveral_130 (by decide) (fun _ => ?_) (fun h => absurd h (by decide))
  refine lv_iconst (v := 1) hx hb dX5_areSeveral_190 (by decide) ?_
  refine lv_goto (tgt := 195) hx hb dX5_areSeveral_191 (by decide) ?_
  refine lv_istore_n (lv' := [(1, .int 1), (6, .int 0), (5, .int 4), (4, .int 3), (3, .int 2), (0, .ref o), (2, .int 1)]) hx hb dX5_areSeveral_195 rfl hl (by decide) rfl (fun ls hl => ?_)
  have hq : z5_areSeveral gp gv = 1 := hj_14
  exact jo_X5_areSeveral_13 hv hx hb hr hml hown hts hlk hP hK hq ls (lv_sub hl [5, 0, 6] rfl)
set_option maxHeartbeats 4000000 in
set_option maxRecDepth 100000 in
theorem jo_X5_areSeveral_15 {l : Launch} {D : va_G} {cI cJ : ClassId} {pG : Program} {eG : Env} {sG : State} {mG : MethodId} {below : List Frame} {meth : Method} {cG : Code} {o : Nat} {mP : Nat} {mL : Nat} {mC : Nat} {mN : Nat} {mF : Nat} {mR : Nat} {mD : Nat} {mV : Nat} {mX : Nat} {mA : Nat} {mK : Nat} {mT : Nat} {mU : Nat} {mH : Nat} {mI : Nat} {cm : Int32} {pm : Int32} {gp : Nat → Int32} {gv : Nat → Int32} (hv : ∀ n, n < 5 → ok_i (gv n)) (hx : pG.tables.exec = Jvm.exec) (hb : cG.code = cX5_areSeveral) (hr : meth.sig.returnType = some .boolean) (hml : cG.maxLocals = 7) (hown : sG.vm.findClass RX5 = some mG.cls) (hts : ∀ x ∈ wsX5_areSeveral, x.before ([.ref o] : List Value).toArray sG = true) (hlk : meth.locks = false) (hP : va_P D vwCl [kM o mP mL mC mN mF mR mD mV mX mA mK cm mT pm mU mH mI, kA mP cI 180 gp, kA mV cI 5 gv] sG.heap) (hK : gd_K D cI cJ sG) (hj_15 : z5_areSeveral gp gv = 1) (ls : Array Slot) (hl : lv_has ls 7 [(0, .ref o), (1, .int 1), (2, .int 0)]) : W pG l eG (headSpec wsX5_areSeveral ({ frames := 1, cells := 0, slots := 0, locals := 30 })).room sG mG ([.ref o] : List Value).toArray below meth cG sG.heap [] 0 0 (MQ below (vp_Si (fun r : Int32 => r = z5_areSeveral gp gv)) ([.ref o] : List Value).toArray sG 0 0 (fun _ => False)) (F0 mG 196 ls []) := by
  have k_1 := hts (.fieldLink RX5 7 "ConicRowsModel" "points" "[I") (by decide +kernel)
  have k_2 : ∀ w ∈ wsX50, w ∈ wsX5_areSeveral := by decide +kernel
  have k_3 := hts (.fieldLink RX5 32 "ConicRowsModel" "five" "[I") (by decide +kernel)
  refine lv_iinc (v := 1) (lv' := [(2, .int 1), (0, .ref o), (1, .int 1)]) hx hb dX5_areSeveral_196 hl (k := 2) rfl (by decide) (by decide) rfl (fun ls hl => ?_)
  refine lv_goto (tgt := 4) hx hb dX5_areSeveral_199 (by decide) ?_
  refine lv_iload_n hx hb dX5_areSeveral_4 rfl (lv_at hl 0 rfl) ?_
  refine lv_iconst (v := 5) hx hb dX5_areSeveral_5 (by decide) ?_
  refine lv_icmp_ge (tgt := 202) hx hb dX5_areSeveral_6 (by decide) (fun h => absurd h (by decide)) (fun _ => ?_)
  refine lv_iconst (v := 0) hx hb dX5_areSeveral_9 (by decide) ?_
  refine lv_istore_n (lv' := [(3, .int 0), (2, .int 1), (0, .ref o), (1, .int 1)]) hx hb dX5_areSeveral_10 rfl hl (by decide) rfl (fun ls hl => ?_)
  refine lv_iload_n hx hb dX5_areSeveral_11 rfl (lv_at hl 0 rfl) ?_
  refine lv_iload_n hx hb dX5_areSeveral_12 rfl (lv_at hl 1 rfl) ?_
  refine lv_icmp_ge (tgt := 102) hx hb dX5_areSeveral_13 (by decide) (fun h => absurd h (by decide)) (fun _ => ?_)
  refine lv_iconst (v := 1) hx hb dX5_areSeveral_16 (by decide) ?_
  refine lv_istore (lv' := [(4, .int 1), (3, .int 0), (2, .int 1), (0, .ref o), (1, .int 1)]) hx hb dX5_areSeveral_17 hl (by decide) rfl (fun ls hl => ?_)
  refine lv_iconst (v := 0) hx hb dX5_areSeveral_19 (by decide) ?_
  refine lv_istore (lv' := [(5, .int 0), (4, .int 1), (3, .int 0), (2, .int 1), (0, .ref o), (1, .int 1)]) hx hb dX5_areSeveral_20 hl (by decide) rfl (fun ls hl => ?_)
  refine lv_iload hx hb dX5_areSeveral_22 (lv_at hl 0 rfl) ?_
  refine lv_iconst (v := 3) hx hb dX5_areSeveral_24 (by decide) ?_
  refine lv_icmp_ge (tgt := 81) hx hb dX5_areSeveral_25 (by decide) (fun h => absurd h (by decide)) (fun _ => ?_)
  refine lv_iload hx hb dX5_areSeveral_28 (lv_at hl 1 rfl) ?_
  refine lv_if_eq (tgt := 72) hx hb dX5_areSeveral_30 (by decide) (fun h => absurd h (by decide)) (fun _ => ?_)
  refine lv_aload_n hx hb dX5_areSeveral_33 rfl (lv_at hl 4 rfl) ?_
  refine va_get (D := D) (ci := 5) (v := .ref mP) (C := RX5) (T := TX5) (N := 17) hx hb hts k_2 hown hK.1 hP 0 rfl rfl 0 (by decide) k_1 (fun _ h9 => h9) rfl dX5_areSeveral_34 ?_
  refine lv_iconst (v := 3) hx hb dX5_areSeveral_37 (by decide) ?_
  refine lv_aload_n hx hb dX5_areSeveral_38 rfl (lv_at hl 4 rfl) ?_
  refine va_get (D := D) (ci := 5) (v := .ref mV) (C := RX5) (T := TX5) (N := 17) hx hb hts k_2 hown hK.1 hP 0 rfl rfl 7 (by decide) k_3 (fun _ h9 => h9) rfl dX5_areSeveral_39 ?_
  refine lv_iload_n hx hb dX5_areSeveral_42 rfl (lv_at hl 3 rfl) ?_
  refine ld_i hx hb hK.1 hP 2 0 rfl rfl (ix_lit (by decide)) 1 (by decide) (v := gv 1) rfl dX5_areSeveral_43 ?_
  refine lv_imul hx hb dX5_areSeveral_44 ?_
  refine lv_iload hx hb dX5_areSeveral_45 (lv_at hl 0 rfl) ?_
  refine lv_iadd hx hb dX5_areSeveral_47 ?_
  refine ld_i hx hb hK.1 hP 1 0 rfl rfl (ix3l (hv 1 (by decide)) 0 (by decide)) (((3 * (gv 1)) + 0).toNatClampNeg) rfl (v := gp (((3 * (gv 1)) + 0).toNatClampNeg)) rfl dX5_areSeveral_48 ?_
  refine lv_aload_n hx hb dX5_areSeveral_49 rfl (lv_at hl 4 rfl) ?_
  refine va_get (D := D) (ci := 5) (v := .ref mP) (C := RX5) (T := TX5) (N := 17) hx hb hts k_2 hown hK.1 hP 0 rfl rfl 0 (by decide) k_1 (fun _ h9 => h9) rfl dX5_areSeveral_50 ?_
  refine lv_iconst (v := 3) hx hb dX5_areSeveral_53 (by decide) ?_
  refine lv_aload_n hx hb dX5_areSeveral_54 rfl (lv_at hl 4 rfl) ?_
  refine va_get (D := D) (ci := 5) (v := .ref mV) (C := RX5) (T := TX5) (N := 17) hx hb hts k_2 hown hK.1 hP 0 rfl rfl 7 (by decide) k_3 (fun _ h9 => h9) rfl dX5_areSeveral_55 ?_
  refine lv_iload_n hx hb dX5_areSeveral_58 rfl (lv_at hl 2 rfl) ?_
  refine ld_i hx hb hK.1 hP 2 0 rfl rfl (ix_lit (by decide)) 0 (by decide) (v := gv 0) rfl dX5_areSeveral_59 ?_
  refine lv_imul hx hb dX5_areSeveral_60 ?_
  refine lv_iload hx hb dX5_areSeveral_61 (lv_at hl 0 rfl) ?_
  refine lv_iadd hx hb dX5_areSeveral_63 ?_
  refine ld_i hx hb hK.1 hP 1 0 rfl rfl (ix3l (hv 0 (by decide)) 0 (by decide)) (((3 * (gv 0)) + 0).toNatClampNeg) rfl (v := gp (((3 * (gv 0)) + 0).toNatClampNeg)) rfl dX5_areSeveral_64 ?_
  refine lv_icmp_ne (tgt := 72) hx hb dX5_areSeveral_65 (by decide) (fun c_28 => ?_) (fun c_28 => ?_)
  · skip
    refine lv_iconst (v := 0) hx hb dX5_areSeveral_72 (by decide) ?_
    refine lv_istore (lv' := [(4, .int 0), (5, .int 0), (3, .int 0), (2, .int 1), (0, .ref o), (1, .int 1)]) hx hb dX5_areSeveral_73 hl (by decide) rfl (fun ls hl => ?_)
    refine lv_iinc (v := 1) (lv' := [(5, .int 1), (4, .int 0), (3, .int 0), (2, .int 1), (0, .ref o), (1, .int 1)]) hx hb dX5_areSeveral_75 hl (k := 1) rfl (by decide) (by decide) rfl (fun ls hl => ?_)
    refine lv_goto (tgt := 22) hx hb dX5_areSeveral_78 (by decide) ?_
    refine lv_iload hx hb dX5_areSeveral_22 (lv_at hl 0 rfl) ?_
    refine lv_iconst (v := 3) hx hb dX5_areSeveral_24 (by decide) ?_
    refine lv_icmp_ge (tgt := 81) hx hb dX5_areSeveral_25 (by decide) (fun h => absurd h (by decide)) (fun _ => ?_)
    refine lv_iload hx hb dX5_areSeveral_28 (lv_at hl 1 rfl) ?_
    refine lv_if_eq (tgt := 72) hx hb dX5_areSeveral_30 (by decide) (fun _ => ?_) (fun h => absurd (by decide) h)
    refine lv_iconst (v := 0) hx hb dX5_areSeveral_72 (by decide) ?_
    refine lv_istore (lv' := [(4, .int 0), (5, .int 1), (3, .int 0), (2, .int 1), (0, .ref o), (1, .int 1)]) hx hb dX5_areSeveral_73 hl (by decide) rfl (fun ls hl => ?_)
    refine lv_iinc (v := 2) (lv' := [(5, .int 2), (4, .int 0), (3, .int 0), (2, .int 1), (0, .ref o), (1, .int 1)]) hx hb dX5_areSeveral_75 hl (k := 1) rfl (by decide) (by decide) rfl (fun ls hl => ?_)
    refine lv_goto (tgt := 22) hx hb dX5_areSeveral_78 (by decide) ?_
    refine lv_iload hx hb dX5_areSeveral_22 (lv_at hl 0 rfl) ?_
    refine lv_iconst (v := 3) hx hb dX5_areSeveral_24 (by decide) ?_
    refine lv_icmp_ge (tgt := 81) hx hb dX5_areSeveral_25 (by decide) (fun h => absurd h (by decide)) (fun _ => ?_)
    refine lv_iload hx hb dX5_areSeveral_28 (lv_at hl 1 rfl) ?_
    refine lv_if_eq (tgt := 72) hx hb dX5_areSeveral_30 (by decide) (fun _ => ?_) (fun h => absurd (by decide) h)
    refine lv_iconst (v := 0) hx hb dX5_areSeveral_72 (by decide) ?_
    refine lv_istore (lv' := [(4, .int 0), (5, .int 2), (3, .int 0), (2, .int 1), (0, .ref o), (1, .int 1)]) hx hb dX5_areSeveral_73 hl (by decide) rfl (fun ls hl => ?_)
    refine lv_iinc (v := 3) (lv' := [(5, .int 3), (4, .int 0), (3, .int 0), (2, .int 1), (0, .ref o), (1, .int 1)]) hx hb dX5_areSeveral_75 hl (k := 1) rfl (by decide) (by decide) rfl (fun ls hl => ?_)
    refine lv_goto (tgt := 22) hx hb dX5_areSeveral_78 (by decide) ?_
    refine lv_iload hx hb dX5_areSeveral_22 (lv_at hl 0 rfl) ?_
    refine lv_iconst (v := 3) hx hb dX5_areSeveral_24 (by decide) ?_
    refine lv_icmp_ge (tgt := 81) hx hb dX5_areSeveral_25 (by decide) (fun _ => ?_) (fun h => absurd (by decide) h)
    refine lv_iload_n hx hb dX5_areSeveral_81 rfl (lv_at hl 5 rfl) ?_
    refine lv_if_ne (tgt := 90) hx hb dX5_areSeveral_82 (by decide) (fun _ => ?_) (fun h => absurd h (by decide))
    refine lv_iconst (v := 1) hx hb dX5_areSeveral_90 (by decide) ?_
    refine lv_goto (tgt := 95) hx hb dX5_areSeveral_91 (by decide) ?_
    refine lv_istore_n (lv' := [(1, .int 1), (5, .int 3), (4, .int 0), (3, .int 0), (2, .int 1), (0, .ref o)]) hx hb dX5_areSeveral_95 rfl hl (by decide) rfl (fun ls hl => ?_)
    have hq : z5_areSeveral gp gv = 1 := hj_15
    exact jo_X5_areSeveral_14 hv hx hb hr hml hown hts hlk hP hK hq ls (lv_sub hl [5, 0, 4, 3] rfl)
  · skip
    refine lv_iconst (v := 1) hx hb dX5_areSeveral_68 (by decide) ?_
    refine lv_goto (tgt := 73) hx hb dX5_areSeveral_69 (by decide) ?_
    refine lv_istore (lv' := [(4, .int 1), (5, .int 0), (3, .int 0), (2, .int 1), (0, .ref o), (1, .int 1)]) hx hb dX5_areSeveral_73 hl (by decide) rfl (fun ls hl => ?_)
    refine lv_iinc (v := 1) (lv' := [(5, .int 1), (4, .int 1), (3, .int 0), (2, .int 1), (0, .ref o), (1, .int 1)]) hx hb dX5_areSeveral_75 hl (k := 1) rfl (by decide) (by decide) rfl (fun ls hl => ?_)
    refine lv_goto (tgt := 22) hx hb dX5_areSeveral_78 (by decide) ?_
    refine lv_iload hx hb dX5_areSeveral_22 (lv_at hl 0 rfl) ?_
    refine lv_iconst (v := 3) hx hb dX5_areSeveral_24 (by decide) ?_
    refine lv_icmp_ge (tgt := 81) hx hb dX5_areSeveral_25 (by decide) (fun h => absurd h (by decide)) (fun _ => ?_)
    refine lv_iload hx hb dX5_areSeveral_28 (lv_at hl 1 rfl) ?_
    refine lv_if_eq (tgt := 72) hx hb dX5_areSeveral_30 (by decide) (fun h => absurd h (by decide)) (fun _ => ?_)
    refine lv_aload_n hx hb dX5_areSeveral_33 rfl (lv_at hl 4 rfl) ?_
    refine va_get (D := D) (ci := 5) (v := .ref mP) (C := RX5) (T := TX5) (N := 17) hx hb hts k_2 hown hK.1 hP 0 rfl rfl 0 (by decide) k_1 (fun _ h9 => h9) rfl dX5_areSeveral_34 ?_
    refine lv_iconst (v := 3) hx hb dX5_areSeveral_37 (by decide) ?_
    refine lv_aload_n hx hb dX5_areSeveral_38 rfl (lv_at hl 4 rfl) ?_
    refine va_get (D := D) (ci := 5) (v := .ref mV) (C := RX5) (T := TX5) (N := 17) hx hb hts k_2 hown hK.1 hP 0 rfl rfl 7 (by decide) k_3 (fun _ h9 => h9) rfl dX5_areSeveral_39 ?_
    refine lv_iload_n hx hb dX5_areSeveral_42 rfl (lv_at hl 3 rfl) ?_
    refine ld_i hx hb hK.1 hP 2 0 rfl rfl (ix_lit (by decide)) 1 (by decide) (v := gv 1) rfl dX5_areSeveral_43 ?_
    refine lv_imul hx hb dX5_areSeveral_44 ?_
    refine lv_iload hx hb dX5_areSeveral_45 (lv_at hl 0 rfl) ?_
    refine lv_iadd hx hb dX5_areSeveral_47 ?_
    refine ld_i hx hb hK.1 hP 1 0 rfl rfl (ix3l (hv 1 (by decide)) 1 (by decide)) (((3 * (gv 1)) + 1).toNatClampNeg) rfl (v := gp (((3 * (gv 1)) + 1).toNatClampNeg)) rfl dX5_areSeveral_48 ?_
    refine lv_aload_n hx hb dX5_areSeveral_49 rfl (lv_at hl 4 rfl) ?_
    refine va_get (D := D) (ci := 5) (v := .ref mP) (C := RX5) (T := TX5) (N := 17) hx hb hts k_2 hown hK.1 hP 0 rfl rfl 0 (by decide) k_1 (fun _ h9 => h9) rfl dX5_areSeveral_50 ?_
    refine lv_iconst (v := 3) hx hb dX5_areSeveral_53 (by decide) ?_
    refine lv_aload_n hx hb dX5_areSeveral_54 rfl (lv_at hl 4 rfl) ?_
    refine va_get (D := D) (ci := 5) (v := .ref mV) (C := RX5) (T := TX5) (N := 17) hx hb hts k_2 hown hK.1 hP 0 rfl rfl 7 (by decide) k_3 (fun _ h9 => h9) rfl dX5_areSeveral_55 ?_
    refine lv_iload_n hx hb dX5_areSeveral_58 rfl (lv_at hl 2 rfl) ?_
    refine ld_i hx hb hK.1 hP 2 0 rfl rfl (ix_lit (by decide)) 0 (by decide) (v := gv 0) rfl dX5_areSeveral_59 ?_
    refine lv_imul hx hb dX5_areSeveral_60 ?_
    refine lv_iload hx hb dX5_areSeveral_61 (lv_at hl 0 rfl) ?_
    refine lv_iadd hx hb dX5_areSeveral_63 ?_
    refine ld_i hx hb hK.1 hP 1 0 rfl rfl (ix3l (hv 0 (by decide)) 1 (by decide)) (((3 * (gv 0)) + 1).toNatClampNeg) rfl (v := gp (((3 * (gv 0)) + 1).toNatClampNeg)) rfl dX5_areSeveral_64 ?_
    refine lv_icmp_ne (tgt := 72) hx hb dX5_areSeveral_65 (by decide) (fun c_29 => ?_) (fun c_29 => ?_)
    · skip
      refine lv_iconst (v := 0) hx hb dX5_areSeveral_72 (by decide) ?_
      refine lv_istore (lv' := [(4, .int 0), (5, .int 1), (3, .int 0), (2, .int 1), (0, .ref o), (1, .int 1)]) hx hb dX5_areSeveral_73 hl (by decide) rfl (fun ls hl => ?_)
      refine lv_iinc (v := 2) (lv' := [(5, .int 2), (4, .int 0), (3, .int 0), (2, .int 1), (0, .ref o), (1, .int 1)]) hx hb dX5_areSeveral_75 hl (k := 1) rfl (by decide) (by decide) rfl (fun ls hl => ?_)
      refine lv_goto (tgt := 22) hx hb dX5_areSeveral_78 (by decide) ?_
      refine lv_iload hx hb dX5_areSeveral_22 (lv_at hl 0 rfl) ?_
      refine lv_iconst (v := 3) hx hb dX5_areSeveral_24 (by decide) ?_
      refine lv_icmp_ge (tgt := 81) hx hb dX5_areSeveral_25 (by decide) (fun h => absurd h (by decide)) (fun _ => ?_)
      refine lv_iload hx hb dX5_areSeveral_28 (lv_at hl 1 rfl) ?_
      refine lv_if_eq (tgt := 72) hx hb dX5_areSeveral_30 (by decide) (fun _ => ?_) (fun h => absurd (by decide) h)
      refine lv_iconst (v := 0) hx hb dX5_areSeveral_72 (by decide) ?_
      refine lv_istore (lv' := [(4, .int 0), (5, .int 2), (3, .int 0), (2, .int 1), (0, .ref o), (1, .int 1)]) hx hb dX5_areSeveral_73 hl (by decide) rfl (fun ls hl => ?_)
      refine lv_iinc (v := 3) (lv' := [(5, .int 3), (4, .int 0), (3, .int 0), (2, .int 1), (0, .ref o), (1, .int 1)]) hx hb dX5_areSeveral_75 hl (k := 1) rfl (by decide) (by decide) rfl (fun ls hl => ?_)
      refine lv_goto (tgt := 22) hx hb dX5_areSeveral_78 (by decide) ?_
      refine lv_iload hx hb dX5_areSeveral_22 (lv_at hl 0 rfl) ?_
      refine lv_iconst (v := 3) hx hb dX5_areSeveral_24 (by decide) ?_
      refine lv_icmp_ge (tgt := 81) hx hb dX5_areSeveral_25 (by decide) (fun _ => ?_) (fun h => absurd (by decide) h)
      refine lv_iload_n hx hb dX5_areSeveral_81 rfl (lv_at hl 5 rfl) ?_
      refine lv_if_ne (tgt := 90) hx hb dX5_areSeveral_82 (by decide) (fun _ => ?_) (fun h => absurd h (by decide))
      refine lv_iconst (v := 1) hx hb dX5_areSeveral_90 (by decide) ?_
      refine lv_goto (tgt := 95) hx hb dX5_areSeveral_91 (by decide) ?_
      refine lv_istore_n (lv' := [(1, .int 1), (5, .int 3), (4, .int 0), (3, .int 0), (2, .int 1), (0, .ref o)]) hx hb dX5_areSeveral_95 rfl hl (by decide) rfl (fun ls hl => ?_)
      have hq : z5_areSeveral gp gv = 1 := hj_15
      exact jo_X5_areSeveral_14 hv hx hb hr hml hown hts hlk hP hK hq ls (lv_sub hl [5, 0, 4, 3] rfl)
    · skip
      refine lv_iconst (v := 1) hx hb dX5_areSeveral_68 (by decide) ?_
      refine lv_goto (tgt := 73) hx hb dX5_areSeveral_69 (by decide) ?_
      refine lv_istore (lv' := [(4, .int 1), (5, .int 1), (3, .int 0), (2, .int 1), (0, .ref o), (1, .int 1)]) hx hb dX5_areSeveral_73 hl (by decide) rfl (fun ls hl => ?_)
      refine lv_iinc (v := 2) (lv' := [(5, .int 2), (4, .int 1), (3, .int 0), (2, .int 1), (0, .ref o), (1, .int 1)]) hx hb dX5_areSeveral_75 hl (k := 1) rfl (by decide) (by decide) rfl (fun ls hl => ?_)
      refine lv_goto (tgt := 22) hx hb dX5_areSeveral_78 (by decide) ?_
      refine lv_iload hx hb dX5_areSeveral_22 (lv_at hl 0 rfl) ?_
      refine lv_iconst (v := 3) hx hb dX5_areSeveral_24 (by decide) ?_
      refine lv_icmp_ge (tgt := 81) hx hb dX5_areSeveral_25 (by decide) (fun h => absurd h (by decide)) (fun _ => ?_)
      refine lv_iload hx hb dX5_areSeveral_28 (lv_at hl 1 rfl) ?_
      refine lv_if_eq (tgt := 72) hx hb dX5_areSeveral_30 (by decide) (fun h => absurd h (by decide)) (fun _ => ?_)
      refine lv_aload_n hx hb dX5_areSeveral_33 rfl (lv_at hl 4 rfl) ?_
      refine va_get (D := D) (ci := 5) (v := .ref mP) (C := RX5) (T := TX5) (N := 17) hx hb hts k_2 hown hK.1 hP 0 rfl rfl 0 (by decide) k_1 (fun _ h9 => h9) rfl dX5_areSeveral_34 ?_
      refine lv_iconst (v := 3) hx hb dX5_areSeveral_37 (by decide) ?_
      refine lv_aload_n hx hb dX5_areSeveral_38 rfl (lv_at hl 4 rfl) ?_
      refine va_get (D := D) (ci := 5) (v := .ref mV) (C := RX5) (T := TX5) (N := 17) hx hb hts k_2 hown hK.1 hP 0 rfl rfl 7 (by decide) k_3 (fun _ h9 => h9) rfl dX5_areSeveral_39 ?_
      refine lv_iload_n hx hb dX5_areSeveral_42 rfl (lv_at hl 3 rfl) ?_
      refine ld_i hx hb hK.1 hP 2 0 rfl rfl (ix_lit (by decide)) 1 (by decide) (v := gv 1) rfl dX5_areSeveral_43 ?_
      refine lv_imul hx hb dX5_areSeveral_44 ?_
      refine lv_iload hx hb dX5_areSeveral_45 (lv_at hl 0 rfl) ?_
      refine lv_iadd hx hb dX5_areSeveral_47 ?_
      refine ld_i hx hb hK.1 hP 1 0 rfl rfl (ix3l (hv 1 (by decide)) 2 (by decide)) (((3 * (gv 1)) + 2).toNatClampNeg) rfl (v := gp (((3 * (gv 1)) + 2).toNatClampNeg)) rfl dX5_areSeveral_48 ?_
      refine lv_aload_n hx hb dX5_areSeveral_49 rfl (lv_at hl 4 rfl) ?_
      refine va_get (D := D) (ci := 5) (v := .ref mP) (C := RX5) (T := TX5) (N := 17) hx hb hts k_2 hown hK.1 hP 0 rfl rfl 0 (by decide) k_1 (fun _ h9 => h9) rfl dX5_areSeveral_50 ?_
      refine lv_iconst (v := 3) hx hb dX5_areSeveral_53 (by decide) ?_
      refine lv_aload_n hx hb dX5_areSeveral_54 rfl (lv_at hl 4 rfl) ?_
      refine va_get (D := D) (ci := 5) (v := .ref mV) (C := RX5) (T := TX5) (N := 17) hx hb hts k_2 hown hK.1 hP 0 rfl rfl 7 (by decide) k_3 (fun _ h9 => h9) rfl dX5_areSeveral_55 ?_
      refine lv_iload_n hx hb dX5_areSeveral_58 rfl (lv_at hl 2 rfl) ?_
      refine ld_i hx hb hK.1 hP 2 0 rfl rfl (ix_lit (by decide)) 0 (by decide) (v := gv 0) rfl dX5_areSeveral_59 ?_
      refine lv_imul hx hb dX5_areSeveral_60 ?_
      refine lv_iload hx hb dX5_areSeveral_61 (lv_at hl 0 rfl) ?_
      refine lv_iadd hx hb dX5_areSeveral_63 ?_
      refine ld_i hx hb hK.1 hP 1 0 rfl rfl (ix3l (hv 0 (by decide)) 2 (by decide)) (((3 * (gv 0)) + 2).toNatClampNeg) rfl (v := gp (((3 * (gv 0)) + 2).toNatClampNeg)) rfl dX5_areSeveral_64 ?_
      refine lv_icmp_ne (tgt := 72) hx hb dX5_areSeveral_65 (by decide) (fun c_30 => ?_) (fun c_30 => ?_)
      · skip
        refine lv_iconst (v := 0) hx hb dX5_areSeveral_72 (by decide) ?_
        refine lv_istore (lv' := [(4, .int 0), (5, .int 2), (3, .int 0), (2, .int 1), (0, .ref o), (1, .int 1)]) hx hb dX5_areSeveral_73 hl (by decide) rfl (fun ls hl => ?_)
        refine lv_iinc (v := 3) (lv' := [(5, .int 3), (4, .int 0), (3, .int 0), (2, .int 1), (0, .ref o), (1, .int 1)]) hx hb dX5_areSeveral_75 hl (k := 1) rfl (by decide) (by decide) rfl (fun ls hl => ?_)
        refine lv_goto (tgt := 22) hx hb dX5_areSeveral_78 (by decide) ?_
        refine lv_iload hx hb dX5_areSeveral_22 (lv_at hl 0 rfl) ?_
        refine lv_iconst (v := 3) hx hb dX5_areSeveral_24 (by decide) ?_
        refine lv_icmp_ge (tgt := 81) hx hb dX5_areSeveral_25 (by decide) (fun _ => ?_) (fun h => absurd (by decide) h)
        refine lv_iload_n hx hb dX5_areSeveral_81 rfl (lv_at hl 5 rfl) ?_
        refine lv_if_ne (tgt := 90) hx hb dX5_areSeveral_82 (by decide) (fun _ => ?_) (fun h => absurd h (by decide))
        refine lv_iconst (v := 1) hx hb dX5_areSeveral_90 (by decide) ?_
        refine lv_goto (tgt := 95) hx hb dX5_areSeveral_91 (by decide) ?_
        refine lv_istore_n (lv' := [(1, .int 1), (5, .int 3), (4, .int 0), (3, .int 0), (2, .int 1), (0, .ref o)]) hx hb dX5_areSeveral_95 rfl hl (by decide) rfl (fun ls hl => ?_)
        have hq : z5_areSeveral gp gv = 1 := hj_15
        exact jo_X5_areSeveral_14 hv hx hb hr hml hown hts hlk hP hK hq ls (lv_sub hl [5, 0, 4, 3] rfl)
      · skip
        refine lv_iconst (v := 1) hx hb dX5_areSeveral_68 (by decide) ?_
        refine lv_goto (tgt := 73) hx hb dX5_areSeveral_69 (by decide) ?_
        refine lv_istore (lv' := [(4, .int 1), (5, .int 2), (3, .int 0), (2, .int 1), (0, .ref o), (1, .int 1)]) hx hb dX5_areSeveral_73 hl (by decide) rfl (fun ls hl => ?_)
        refine lv_iinc (v := 3) (lv' := [(5, .int 3), (4, .int 1), (3, .int 0), (2, .int 1), (0, .ref o), (1, .int 1)]) hx hb dX5_areSeveral_75 hl (k := 1) rfl (by decide) (by decide) rfl (fun ls hl => ?_)
        refine lv_goto (tgt := 22) hx hb dX5_areSeveral_78 (by decide) ?_
        refine lv_iload hx hb dX5_areSeveral_22 (lv_at hl 0 rfl) ?_
        refine lv_iconst (v := 3) hx hb dX5_areSeveral_24 (by decide) ?_
        refine lv_icmp_ge (tgt := 81) hx hb dX5_areSeveral_25 (by decide) (fun _ => ?_) (fun h => absurd (by decide) h)
        refine lv_iload_n hx hb dX5_areSeveral_81 rfl (lv_at hl 5 rfl) ?_
        refine lv_if_ne (tgt := 90) hx hb dX5_areSeveral_82 (by decide) (fun _ => ?_) (fun h => absurd h (by decide))
        refine lv_iconst (v := 1) hx hb dX5_areSeveral_90 (by decide) ?_
        refine lv_goto (tgt := 95) hx hb dX5_areSeveral_91 (by decide) ?_
        refine lv_istore_n (lv' := [(1, .int 1), (5, .int 3), (4, .int 1), (3, .int 0), (2, .int 1), (0, .ref o)]) hx hb dX5_areSeveral_95 rfl hl (by decide) rfl (fun ls hl => ?_)
        have hq : z5_areSeveral gp gv = 1 := hj_15
        exact jo_X5_areSeveral_14 hv hx hb hr hml hown hts hlk hP hK hq ls (lv_sub hl [5, 0, 4, 3] rfl)
set_option maxHeartbeats 4000000 in
set_option maxRecDepth 100000 in
theorem jo_X5_areSeveral_30 {l : Launch} {D : va_G} {cI cJ : ClassId} {pG : Program} {eG : Env} {sG : State} {mG : MethodId} {below : List Frame} {meth : Method} {cG : Code} {o : Nat} {mP : Nat} {mL : Nat} {mC : Nat} {mN : Nat} {mF : Nat} {mR : Nat} {mD : Nat} {mV : Nat} {mX : Nat} {mA : Nat} {mK : Nat} {mT : Nat} {mU : Nat} {mH : Nat} {mI : Nat} {cm : Int32} {pm : Int32} {gp : Nat → Int32} {gv : Nat → Int32} (hv : ∀ n, n < 5 → ok_i (gv n)) (hx : pG.tables.exec = Jvm.exec) (hb : cG.code = cX5_areSeveral) (hr : meth.sig.returnType = some .boolean) (hml : cG.maxLocals = 7) (hown : sG.vm.findClass RX5 = some mG.cls) (hts : ∀ x ∈ wsX5_areSeveral, x.before ([.ref o] : List Value).toArray sG = true) (hlk : meth.locks = false) (hP : va_P D vwCl [kM o mP mL mC mN mF mR mD mV mX mA mK cm mT pm mU mH mI, kA mP cI 180 gp, kA mV cI 5 gv] sG.heap) (hK : gd_K D cI cJ sG) (hj_30 : z5_areSeveral_j15 = z5_areSeveral gp gv) (ls : Array Slot) (hl : lv_has ls 7 [(2, .int 4), (1, .int 0), (0, .ref o)]) : W pG l eG (headSpec wsX5_areSeveral ({ frames := 1, cells := 0, slots := 0, locals := 30 })).room sG mG ([.ref o] : List Value).toArray below meth cG sG.heap [] 0 0 (MQ below (vp_Si (fun r : Int32 => r = z5_areSeveral gp gv)) ([.ref o] : List Value).toArray sG 0 0 (fun _ => False)) (F0 mG 196 ls []) := by
  have k_1 := hts (.fieldLink RX5 7 "ConicRowsModel" "points" "[I") (by decide +kernel)
  have k_2 : ∀ w ∈ wsX50, w ∈ wsX5_areSeveral := by decide +kernel
  have k_3 := hts (.fieldLink RX5 32 "ConicRowsModel" "five" "[I") (by decide +kernel)
  refine lv_iinc (v := 5) (lv' := [(2, .int 5), (1, .int 0), (0, .ref o)]) hx hb dX5_areSeveral_196 hl (k := 0) rfl (by decide) (by decide) rfl (fun ls hl => ?_)
  refine lv_goto (tgt := 4) hx hb dX5_areSeveral_199 (by decide) ?_
  refine lv_iload_n hx hb dX5_areSeveral_4 rfl (lv_at hl 0 rfl) ?_
  refine lv_iconst (v := 5) hx hb dX5_areSeveral_5 (by decide) ?_
  refine lv_icmp_ge (tgt := 202) hx hb dX5_areSeveral_6 (by decide) (fun _ => ?_) (fun h => absurd (by decide) h)
  refine lv_iload_n hx hb dX5_areSeveral_202 rfl (lv_at hl 1 rfl) ?_
  have he1 : z5_areSeveral_j15 = 0 := by rfl
  have he : z5_areSeveral gp gv = 0 := hj_30.symm.trans he1
  exact rr_z hx hb hr rfl hlk dX5_areSeveral_203 he.symm
set_option maxHeartbeats 4000000 in
set_option maxRecDepth 100000 in
theorem jo_X5_areSeveral_29 {l : Launch} {D : va_G} {cI cJ : ClassId} {pG : Program} {eG : Env} {sG : State} {mG : MethodId} {below : List Frame} {meth : Method} {cG : Code} {o : Nat} {mP : Nat} {mL : Nat} {mC : Nat} {mN : Nat} {mF : Nat} {mR : Nat} {mD : Nat} {mV : Nat} {mX : Nat} {mA : Nat} {mK : Nat} {mT : Nat} {mU : Nat} {mH : Nat} {mI : Nat} {cm : Int32} {pm : Int32} {gp : Nat → Int32} {gv : Nat → Int32} (hv : ∀ n, n < 5 → ok_i (gv n)) (hx : pG.tables.exec = Jvm.exec) (hb : cG.code = cX5_areSeveral) (hr : meth.sig.returnType = some .boolean) (hml : cG.maxLocals = 7) (hown : sG.vm.findClass RX5 = some mG.cls) (hts : ∀ x ∈ wsX5_areSeveral, x.before ([.ref o] : List Value).toArray sG = true) (hlk : meth.locks = false) (hP : va_P D vwCl [kM o mP mL mC mN mF mR mD mV mX mA mK cm mT pm mU mH mI, kA mP cI 180 gp, kA mV cI 5 gv] sG.heap) (hK : gd_K D cI cJ sG) (hj_29 : z5_areSeveral_j14 gp gv = z5_areSeveral gp gv) (ls : Array Slot) (hl : lv_has ls 7 [(3, .int 3), (2, .int 4), (1, .int 0), (0, .ref o)]) : W pG l eG (headSpec wsX5_areSeveral ({ frames := 1, cells := 0, slots := 0, locals := 30 })).room sG mG ([.ref o] : List Value).toArray below meth cG sG.heap [] 0 0 (MQ below (vp_Si (fun r : Int32 => r = z5_areSeveral gp gv)) ([.ref o] : List Value).toArray sG 0 0 (fun _ => False)) (F0 mG 96 ls []) := by
  have k_1 := hts (.fieldLink RX5 7 "ConicRowsModel" "points" "[I") (by decide +kernel)
  have k_2 : ∀ w ∈ wsX50, w ∈ wsX5_areSeveral := by decide +kernel
  have k_3 := hts (.fieldLink RX5 32 "ConicRowsModel" "five" "[I") (by decide +kernel)
  refine lv_iinc (v := 4) (lv' := [(3, .int 4), (2, .int 4), (1, .int 0), (0, .ref o)]) hx hb dX5_areSeveral_96 hl (k := 0) rfl (by decide) (by decide) rfl (fun ls hl => ?_)
  refine lv_goto (tgt := 11) hx hb dX5_areSeveral_99 (by decide) ?_
  refine lv_iload_n hx hb dX5_areSeveral_11 rfl (lv_at hl 0 rfl) ?_
  refine lv_iload_n hx hb dX5_areSeveral_12 rfl (lv_at hl 1 rfl) ?_
  refine lv_icmp_ge (tgt := 102) hx hb dX5_areSeveral_13 (by decide) (fun _ => ?_) (fun h => absurd (by decide) h)
  refine lv_iload_n hx hb dX5_areSeveral_102 rfl (lv_at hl 1 rfl) ?_
  refine lv_iconst (v := 1) hx hb dX5_areSeveral_103 (by decide) ?_
  refine lv_iadd hx hb dX5_areSeveral_104 ?_
  refine lv_eqi (v := 5) (by decide) ?_
  refine lv_iconst (v := 5) hx hb dX5_areSeveral_105 (by decide) ?_
  refine lv_irem hx hb dX5_areSeveral_106 (by decide) ?_
  refine lv_eqi (v := 0) (by decide) ?_
  refine lv_istore_n (lv' := [(3, .int 0), (2, .int 4), (1, .int 0), (0, .ref o)]) hx hb dX5_areSeveral_107 rfl hl (by decide) rfl (fun ls hl => ?_)
  refine lv_iload_n hx hb dX5_areSeveral_108 rfl (lv_at hl 1 rfl) ?_
  refine lv_iconst (v := 2) hx hb dX5_areSeveral_109 (by decide) ?_
  refine lv_iadd hx hb dX5_areSeveral_110 ?_
  refine lv_eqi (v := 6) (by decide) ?_
  refine lv_iconst (v := 5) hx hb dX5_areSeveral_111 (by decide) ?_
  refine lv_irem hx hb dX5_areSeveral_112 (by decide) ?_
  refine lv_eqi (v := 1) (by decide) ?_
  refine lv_istore (lv' := [(4, .int 1), (3, .int 0), (2, .int 4), (1, .int 0), (0, .ref o)]) hx hb dX5_areSeveral_113 hl (by decide) rfl (fun ls hl => ?_)
  refine lv_iload_n hx hb dX5_areSeveral_115 rfl (lv_at hl 2 rfl) ?_
  refine lv_iconst (v := 3) hx hb dX5_areSeveral_116 (by decide) ?_
  refine lv_iadd hx hb dX5_areSeveral_117 ?_
  refine lv_eqi (v := 7) (by decide) ?_
  refine lv_iconst (v := 5) hx hb dX5_areSeveral_118 (by decide) ?_
  refine lv_irem hx hb dX5_areSeveral_119 (by decide) ?_
  refine lv_eqi (v := 2) (by decide) ?_
  refine lv_istore (lv' := [(5, .int 2), (4, .int 1), (3, .int 0), (2, .int 4), (1, .int 0), (0, .ref o)]) hx hb dX5_areSeveral_120 hl (by decide) rfl (fun ls hl => ?_)
  refine lv_iload_n hx hb dX5_areSeveral_122 rfl (lv_at hl 3 rfl) ?_
  refine lv_iconst (v := 4) hx hb dX5_areSeveral_123 (by decide) ?_
  refine lv_iadd hx hb dX5_areSeveral_124 ?_
  refine lv_eqi (v := 8) (by decide) ?_
  refine lv_iconst (v := 5) hx hb dX5_areSeveral_125 (by decide) ?_
  refine lv_irem hx hb dX5_areSeveral_126 (by decide) ?_
  refine lv_eqi (v := 3) (by decide) ?_
  refine lv_istore (lv' := [(6, .int 3), (5, .int 2), (4, .int 1), (3, .int 0), (2, .int 4), (1, .int 0), (0, .ref o)]) hx hb dX5_areSeveral_127 hl (by decide) rfl (fun ls hl => ?_)
  refine lv_iload_n hx hb dX5_areSeveral_129 rfl (lv_at hl 5 rfl) ?_
  refine lv_if_ne (tgt := 190) hx hb dX5_areSeveral_130 (by decide) (fun h => absurd (by decide) h) (fun _ => ?_)
  refine lv_aload_n hx hb dX5_areSeveral_133 rfl (lv_at hl 6 rfl) ?_
  refine lv_iload_n hx hb dX5_areSeveral_134 rfl (lv_at hl 3 rfl) ?_
  refine lv_iload hx hb dX5_areSeveral_135 (lv_at hl 2 rfl) ?_
  refine lv_iload hx hb dX5_areSeveral_137 (lv_at hl 1 rfl) ?_
  have hPc := hP.sub (ws' := [kM o mP mL mC mN mF mR mD mV mX mA mK cm mT pm mU mH mI, kA mP cI 180 gp, kA mV cI 5 gv]) [0, 1, 2] rfl
  refine cr_l (va_runV (As := [.int 0, .int 1, .int 2]) (rest := []) ⟨hx, hb, hml, hown, hts⟩ (c_X5_spreadOf l D cI cJ o mP mL mC mN mF mR mD mV mX mA mK mT mU mH mI cm pm gp gv 0 1 2 (ix_lit (by decide)) (ix_lit (by decide)) (ix_lit (by decide)) hv) (cwV 3 hts gX5_areSeveral_X5_spreadOf rfl rfl rfl (by decide +kernel) ⟨Nat.le_of_ble_eq_true rfl, Nat.le_of_ble_eq_true rfl⟩) ⟨gd_blR, va_recv hK.1 hPc (ci := 5) (q0 := 0) rfl rfl, gd_prR hPc hK⟩ rfl rfl hl.1 rfl (lv_room (Nat.le_of_ble_eq_true rfl)) dX5_areSeveral_139 ⟨Nat.zero_le _, Nat.zero_le _⟩) (fun r_139 hw => ?_)
  subst hw
  clear hPc
  refine lv_lconst (v := 0) hx hb dX5_areSeveral_142 (by decide) ?_
  refine lb_ne (tgt := 194) hx hb dX5_areSeveral_143 rfl dX5_areSeveral_144 (by decide) (fun c_31 => ?_) (fun c_31 => ?_)
  · skip
    refine lv_iconst (v := 0) hx hb dX5_areSeveral_194 (by decide) ?_
    refine lv_istore_n (lv' := [(1, .int 0), (6, .int 3), (5, .int 2), (4, .int 1), (3, .int 0), (2, .int 4), (0, .ref o)]) hx hb dX5_areSeveral_195 rfl hl (by decide) rfl (fun ls hl => ?_)
    have hq1 : z5_areSeveral_j14 gp gv = z5_areSeveral_j15 := by unfold z5_areSeveral_j14; rw [if_neg c_31]
    have hq : z5_areSeveral gp gv = z5_areSeveral_j15 := hj_29.symm.trans hq1
    exact jo_X5_areSeveral_30 hv hx hb hr hml hown hts hlk hP hK hq.symm ls (lv_sub hl [5, 0, 6] rfl)
  · skip
    refine lv_aload_n hx hb dX5_areSeveral_147 rfl (lv_at hl 6 rfl) ?_
    refine lv_iload_n hx hb dX5_areSeveral_148 rfl (lv_at hl 3 rfl) ?_
    refine lv_iload hx hb dX5_areSeveral_149 (lv_at hl 2 rfl) ?_
    refine lv_iload hx hb dX5_areSeveral_151 (lv_at hl 0 rfl) ?_
    have hPc := hP.sub (ws' := [kM o mP mL mC mN mF mR mD mV mX mA mK cm mT pm mU mH mI, kA mP cI 180 gp, kA mV cI 5 gv]) [0, 1, 2] rfl
    refine cr_l (va_runV (As := [.int 0, .int 1, .int 3]) (rest := []) ⟨hx, hb, hml, hown, hts⟩ (c_X5_spreadOf l D cI cJ o mP mL mC mN mF mR mD mV mX mA mK mT mU mH mI cm pm gp gv 0 1 3 (ix_lit (by decide)) (ix_lit (by decide)) (ix_lit (by decide)) hv) (cwV 3 hts gX5_areSeveral_X5_spreadOf rfl rfl rfl (by decide +kernel) ⟨Nat.le_of_ble_eq_true rfl, Nat.le_of_ble_eq_true rfl⟩) ⟨gd_blR, va_recv hK.1 hPc (ci := 5) (q0 := 0) rfl rfl, gd_prR hPc hK⟩ rfl rfl hl.1 rfl (lv_room (Nat.le_of_ble_eq_true rfl)) dX5_areSeveral_153 ⟨Nat.zero_le _, Nat.zero_le _⟩) (fun r_153 hw => ?_)
    subst hw
    clear hPc
    refine lv_lconst (v := 0) hx hb dX5_areSeveral_156 (by decide) ?_
    refine lb_ne (tgt := 194) hx hb dX5_areSeveral_157 rfl dX5_areSeveral_158 (by decide) (fun c_32 => ?_) (fun c_32 => ?_)
    · skip
      refine lv_iconst (v := 0) hx hb dX5_areSeveral_194 (by decide) ?_
      refine lv_istore_n (lv' := [(1, .int 0), (6, .int 3), (5, .int 2), (4, .int 1), (3, .int 0), (2, .int 4), (0, .ref o)]) hx hb dX5_areSeveral_195 rfl hl (by decide) rfl (fun ls hl => ?_)
      have hq1 : z5_areSeveral_j14 gp gv = z5_areSeveral_j15 := by unfold z5_areSeveral_j14; rw [if_pos c_31, if_neg c_32]
      have hq : z5_areSeveral gp gv = z5_areSeveral_j15 := hj_29.symm.trans hq1
      exact jo_X5_areSeveral_30 hv hx hb hr hml hown hts hlk hP hK hq.symm ls (lv_sub hl [5, 0, 6] rfl)
    · skip
      refine lv_aload_n hx hb dX5_areSeveral_161 rfl (lv_at hl 6 rfl) ?_
      refine lv_iload hx hb dX5_areSeveral_162 (lv_at hl 2 rfl) ?_
      refine lv_iload hx hb dX5_areSeveral_164 (lv_at hl 1 rfl) ?_
      refine lv_iload hx hb dX5_areSeveral_166 (lv_at hl 0 rfl) ?_
      have hPc := hP.sub (ws' := [kM o mP mL mC mN mF mR mD mV mX mA mK cm mT pm mU mH mI, kA mP cI 180 gp, kA mV cI 5 gv]) [0, 1, 2] rfl
      refine cr_l (va_runV (As := [.int 1, .int 2, .int 3]) (rest := []) ⟨hx, hb, hml, hown, hts⟩ (c_X5_spreadOf l D cI cJ o mP mL mC mN mF mR mD mV mX mA mK mT mU mH mI cm pm gp gv 1 2 3 (ix_lit (by decide)) (ix_lit (by decide)) (ix_lit (by decide)) hv) (cwV 3 hts gX5_areSeveral_X5_spreadOf rfl rfl rfl (by decide +kernel) ⟨Nat.le_of_ble_eq_true rfl, Nat.le_of_ble_eq_true rfl⟩) ⟨gd_blR, va_recv hK.1 hPc (ci := 5) (q0 := 0) rfl rfl, gd_prR hPc hK⟩ rfl rfl hl.1 rfl (lv_room (Nat.le_of_ble_eq_true rfl)) dX5_areSeveral_168 ⟨Nat.zero_le _, Nat.zero_le _⟩) (fun r_168 hw => ?_)
      subst hw
      clear hPc
      refine lv_lconst (v := 0) hx hb dX5_areSeveral_171 (by decide) ?_
      refine lb_ne (tgt := 194) hx hb dX5_areSeveral_172 rfl dX5_areSeveral_173 (by decide) (fun c_33 => ?_) (fun c_33 => ?_)
      · skip
        refine lv_iconst (v := 0) hx hb dX5_areSeveral_194 (by decide) ?_
        refine lv_istore_n (lv' := [(1, .int 0), (6, .int 3), (5, .int 2), (4, .int 1), (3, .int 0), (2, .int 4), (0, .ref o)]) hx hb dX5_areSeveral_195 rfl hl (by decide) rfl (fun ls hl => ?_)
        have hq1 : z5_areSeveral_j14 gp gv = z5_areSeveral_j15 := by unfold z5_areSeveral_j14; rw [if_pos c_31, if_pos c_32, if_neg c_33]
        have hq : z5_areSeveral gp gv = z5_areSeveral_j15 := hj_29.symm.trans hq1
        exact jo_X5_areSeveral_30 hv hx hb hr hml hown hts hlk hP hK hq.symm ls (lv_sub hl [5, 0, 6] rfl)
      · skip
        refine lv_aload_n hx hb dX5_areSeveral_176 rfl (lv_at hl 6 rfl) ?_
        refine lv_iload_n hx hb dX5_areSeveral_177 rfl (lv_at hl 3 rfl) ?_
        refine lv_iload hx hb dX5_areSeveral_178 (lv_at hl 1 rfl) ?_
        refine lv_iload hx hb dX5_areSeveral_180 (lv_at hl 0 rfl) ?_
        have hPc := hP.sub (ws' := [kM o mP mL mC mN mF mR mD mV mX mA mK cm mT pm mU mH mI, kA mP cI 180 gp, kA mV cI 5 gv]) [0, 1, 2] rfl
        refine cr_l (va_runV (As := [.int 0, .int 2, .int 3]) (rest := []) ⟨hx, hb, hml, hown, hts⟩ (c_X5_spreadOf l D cI cJ o mP mL mC mN mF mR mD mV mX mA mK mT mU mH mI cm pm gp gv 0 2 3 (ix_lit (by decide)) (ix_lit (by decide)) (ix_lit (by decide)) hv) (cwV 3 hts gX5_areSeveral_X5_spreadOf rfl rfl rfl (by decide +kernel) ⟨Nat.le_of_ble_eq_true rfl, Nat.le_of_ble_eq_true rfl⟩) ⟨gd_blR, va_recv hK.1 hPc (ci := 5) (q0 := 0) rfl rfl, gd_prR hPc hK⟩ rfl rfl hl.1 rfl (lv_room (Nat.le_of_ble_eq_true rfl)) dX5_areSeveral_182 ⟨Nat.zero_le _, Nat.zero_le _⟩) (fun r_182 hw => ?_)
        subst hw
        clear hPc
        refine lv_lconst (v := 0) hx hb dX5_areSeveral_185 (by decide) ?_
        refine lb_ne (tgt := 194) hx hb dX5_areSeveral_186 rfl dX5_areSeveral_187 (by decide) (fun c_34 => ?_) (fun c_34 => ?_)
        · skip
          refine lv_iconst (v := 0) hx hb dX5_areSeveral_194 (by decide) ?_
          refine lv_istore_n (lv' := [(1, .int 0), (6, .int 3), (5, .int 2), (4, .int 1), (3, .int 0), (2, .int 4), (0, .ref o)]) hx hb dX5_areSeveral_195 rfl hl (by decide) rfl (fun ls hl => ?_)
          have hq1 : z5_areSeveral_j14 gp gv = z5_areSeveral_j15 := by unfold z5_areSeveral_j14; rw [if_pos c_31, if_pos c_32, if_pos c_33, if_neg c_34]
          have hq : z5_areSeveral gp gv = z5_areSeveral_j15 := hj_29.symm.trans hq1
          exact jo_X5_areSeveral_30 hv hx hb hr hml hown hts hlk hP hK hq.symm ls (lv_sub hl [5, 0, 6] rfl)
        · skip
          refine lv_iconst (v := 1) hx hb dX5_areSeveral_190 (by decide) ?_
          refine lv_goto (tgt := 195) hx hb dX5_areSeveral_191 (by decide) ?_
          refine lv_istore_n (lv' := [(1, .int 1), (6, .int 3), (5, .int 2), (4, .int 1), (3, .int 0), (2, .int 4), (0, .ref o)]) hx hb dX5_areSeveral_195 rfl hl (by decide) rfl (fun ls hl => ?_)
          have hq1 : z5_areSeveral_j14 gp gv = 1 := by unfold z5_areSeveral_j14; rw [if_pos c_31, if_pos c_32, if_pos c_33, if_pos c_34]
          have hq : z5_areSeveral gp gv = 1 := hj_29.symm.trans hq1
          exact jo_X5_areSeveral_1 hv hx hb hr hml hown hts hlk hP hK hq ls (lv_sub hl [6, 0, 5] rfl)
set_option maxHeartbeats 4000000 in
set_option maxRecDepth 100000 in
theorem jo_X5_areSeveral_28 {l : Launch} {D : va_G} {cI cJ : ClassId} {pG : Program} {eG : Env} {sG : State} {mG : MethodId} {below : List Frame} {meth : Method} {cG : Code} {o : Nat} {mP : Nat} {mL : Nat} {mC : Nat} {mN : Nat} {mF : Nat} {mR : Nat} {mD : Nat} {mV : Nat} {mX : Nat} {mA : Nat} {mK : Nat} {mT : Nat} {mU : Nat} {mH : Nat} {mI : Nat} {cm : Int32} {pm : Int32} {gp : Nat → Int32} {gv : Nat → Int32} (hv : ∀ n, n < 5 → ok_i (gv n)) (hx : pG.tables.exec = Jvm.exec) (hb : cG.code = cX5_areSeveral) (hr : meth.sig.returnType = some .boolean) (hml : cG.maxLocals = 7) (hown : sG.vm.findClass RX5 = some mG.cls) (hts : ∀ x ∈ wsX5_areSeveral, x.before ([.ref o] : List Value).toArray sG = true) (hlk : meth.locks = false) (hP : va_P D vwCl [kM o mP mL mC mN mF mR mD mV mX mA mK cm mT pm mU mH mI, kA mP cI 180 gp, kA mV cI 5 gv] sG.heap) (hK : gd_K D cI cJ sG) (hj_28 : z5_areSeveral_j13 gp gv = z5_areSeveral gp gv) (ls : Array Slot) (hl : lv_has ls 7 [(3, .int 2), (2, .int 4), (1, .int 0), (0, .ref o)]) : W pG l eG (headSpec wsX5_areSeveral ({ frames := 1, cells := 0, slots := 0, locals := 30 })).room sG mG ([.ref o] : List Value).toArray below meth cG sG.heap [] 0 0 (MQ below (vp_Si (fun r : Int32 => r = z5_areSeveral gp gv)) ([.ref o] : List Value).toArray sG 0 0 (fun _ => False)) (F0 mG 96 ls []) := by
  have k_1 := hts (.fieldLink RX5 7 "ConicRowsModel" "points" "[I") (by decide +kernel)
  have k_2 : ∀ w ∈ wsX50, w ∈ wsX5_areSeveral := by decide +kernel
  have k_3 := hts (.fieldLink RX5 32 "ConicRowsModel" "five" "[I") (by decide +kernel)
  refine lv_iinc (v := 3) (lv' := [(3, .int 3), (2, .int 4), (1, .int 0), (0, .ref o)]) hx hb dX5_areSeveral_96 hl (k := 0) rfl (by decide) (by decide) rfl (fun ls hl => ?_)
  refine lv_goto (tgt := 11) hx hb dX5_areSeveral_99 (by decide) ?_
  refine lv_iload_n hx hb dX5_areSeveral_11 rfl (lv_at hl 0 rfl) ?_
  refine lv_iload_n hx hb dX5_areSeveral_12 rfl (lv_at hl 1 rfl) ?_
  refine lv_icmp_ge (tgt := 102) hx hb dX5_areSeveral_13 (by decide) (fun h => absurd h (by decide)) (fun _ => ?_)
  refine lv_iconst (v := 1) hx hb dX5_areSeveral_16 (by decide) ?_
  refine lv_istore (lv' := [(4, .int 1), (3, .int 3), (2, .int 4), (1, .int 0), (0, .ref o)]) hx hb dX5_areSeveral_17 hl (by decide) rfl (fun ls hl => ?_)
  refine lv_iconst (v := 0) hx hb dX5_areSeveral_19 (by decide) ?_
  refine lv_istore (lv' := [(5, .int 0), (4, .int 1), (3, .int 3), (2, .int 4), (1, .int 0), (0, .ref o)]) hx hb dX5_areSeveral_20 hl (by decide) rfl (fun ls hl => ?_)
  refine lv_iload hx hb dX5_areSeveral_22 (lv_at hl 0 rfl) ?_
  refine lv_iconst (v := 3) hx hb dX5_areSeveral_24 (by decide) ?_
  refine lv_icmp_ge (tgt := 81) hx hb dX5_areSeveral_25 (by decide) (fun h => absurd h (by decide)) (fun _ => ?_)
  refine lv_iload hx hb dX5_areSeveral_28 (lv_at hl 1 rfl) ?_
  refine lv_if_eq (tgt := 72) hx hb dX5_areSeveral_30 (by decide) (fun h => absurd h (by decide)) (fun _ => ?_)
  refine lv_aload_n hx hb dX5_areSeveral_33 rfl (lv_at hl 5 rfl) ?_
  refine va_get (D := D) (ci := 5) (v := .ref mP) (C := RX5) (T := TX5) (N := 17) hx hb hts k_2 hown hK.1 hP 0 rfl rfl 0 (by decide) k_1 (fun _ h9 => h9) rfl dX5_areSeveral_34 ?_
  refine lv_iconst (v := 3) hx hb dX5_areSeveral_37 (by decide) ?_
  refine lv_aload_n hx hb dX5_areSeveral_38 rfl (lv_at hl 5 rfl) ?_
  refine va_get (D := D) (ci := 5) (v := .ref mV) (C := RX5) (T := TX5) (N := 17) hx hb hts k_2 hown hK.1 hP 0 rfl rfl 7 (by decide) k_3 (fun _ h9 => h9) rfl dX5_areSeveral_39 ?_
  refine lv_iload_n hx hb dX5_areSeveral_42 rfl (lv_at hl 3 rfl) ?_
  refine ld_i hx hb hK.1 hP 2 0 rfl rfl (ix_lit (by decide)) 4 (by decide) (v := gv 4) rfl dX5_areSeveral_43 ?_
  refine lv_imul hx hb dX5_areSeveral_44 ?_
  refine lv_iload hx hb dX5_areSeveral_45 (lv_at hl 0 rfl) ?_
  refine lv_iadd hx hb dX5_areSeveral_47 ?_
  refine ld_i hx hb hK.1 hP 1 0 rfl rfl (ix3l (hv 4 (by decide)) 0 (by decide)) (((3 * (gv 4)) + 0).toNatClampNeg) rfl (v := gp (((3 * (gv 4)) + 0).toNatClampNeg)) rfl dX5_areSeveral_48 ?_
  refine lv_aload_n hx hb dX5_areSeveral_49 rfl (lv_at hl 5 rfl) ?_
  refine va_get (D := D) (ci := 5) (v := .ref mP) (C := RX5) (T := TX5) (N := 17) hx hb hts k_2 hown hK.1 hP 0 rfl rfl 0 (by decide) k_1 (fun _ h9 => h9) rfl dX5_areSeveral_50 ?_
  refine lv_iconst (v := 3) hx hb dX5_areSeveral_53 (by decide) ?_
  refine lv_aload_n hx hb dX5_areSeveral_54 rfl (lv_at hl 5 rfl) ?_
  refine va_get (D := D) (ci := 5) (v := .ref mV) (C := RX5) (T := TX5) (N := 17) hx hb hts k_2 hown hK.1 hP 0 rfl rfl 7 (by decide) k_3 (fun _ h9 => h9) rfl dX5_areSeveral_55 ?_
  refine lv_iload_n hx hb dX5_areSeveral_58 rfl (lv_at hl 2 rfl) ?_
  refine ld_i hx hb hK.1 hP 2 0 rfl rfl (ix_lit (by decide)) 3 (by decide) (v := gv 3) rfl dX5_areSeveral_59 ?_
  refine lv_imul hx hb dX5_areSeveral_60 ?_
  refine lv_iload hx hb dX5_areSeveral_61 (lv_at hl 0 rfl) ?_
  refine lv_iadd hx hb dX5_areSeveral_63 ?_
  refine ld_i hx hb hK.1 hP 1 0 rfl rfl (ix3l (hv 3 (by decide)) 0 (by decide)) (((3 * (gv 3)) + 0).toNatClampNeg) rfl (v := gp (((3 * (gv 3)) + 0).toNatClampNeg)) rfl dX5_areSeveral_64 ?_
  refine lv_icmp_ne (tgt := 72) hx hb dX5_areSeveral_65 (by decide) (fun c_35 => ?_) (fun c_35 => ?_)
  · skip
    refine lv_iconst (v := 0) hx hb dX5_areSeveral_72 (by decide) ?_
    refine lv_istore (lv' := [(4, .int 0), (5, .int 0), (3, .int 3), (2, .int 4), (1, .int 0), (0, .ref o)]) hx hb dX5_areSeveral_73 hl (by decide) rfl (fun ls hl => ?_)
    refine lv_iinc (v := 1) (lv' := [(5, .int 1), (4, .int 0), (3, .int 3), (2, .int 4), (1, .int 0), (0, .ref o)]) hx hb dX5_areSeveral_75 hl (k := 1) rfl (by decide) (by decide) rfl (fun ls hl => ?_)
    refine lv_goto (tgt := 22) hx hb dX5_areSeveral_78 (by decide) ?_
    refine lv_iload hx hb dX5_areSeveral_22 (lv_at hl 0 rfl) ?_
    refine lv_iconst (v := 3) hx hb dX5_areSeveral_24 (by decide) ?_
    refine lv_icmp_ge (tgt := 81) hx hb dX5_areSeveral_25 (by decide) (fun h => absurd h (by decide)) (fun _ => ?_)
    refine lv_iload hx hb dX5_areSeveral_28 (lv_at hl 1 rfl) ?_
    refine lv_if_eq (tgt := 72) hx hb dX5_areSeveral_30 (by decide) (fun _ => ?_) (fun h => absurd (by decide) h)
    refine lv_iconst (v := 0) hx hb dX5_areSeveral_72 (by decide) ?_
    refine lv_istore (lv' := [(4, .int 0), (5, .int 1), (3, .int 3), (2, .int 4), (1, .int 0), (0, .ref o)]) hx hb dX5_areSeveral_73 hl (by decide) rfl (fun ls hl => ?_)
    refine lv_iinc (v := 2) (lv' := [(5, .int 2), (4, .int 0), (3, .int 3), (2, .int 4), (1, .int 0), (0, .ref o)]) hx hb dX5_areSeveral_75 hl (k := 1) rfl (by decide) (by decide) rfl (fun ls hl => ?_)
    refine lv_goto (tgt := 22) hx hb dX5_areSeveral_78 (by decide) ?_
    refine lv_iload hx hb dX5_areSeveral_22 (lv_at hl 0 rfl) ?_
    refine lv_iconst (v := 3) hx hb dX5_areSeveral_24 (by decide) ?_
    refine lv_icmp_ge (tgt := 81) hx hb dX5_areSeveral_25 (by decide) (fun h => absurd h (by decide)) (fun _ => ?_)
    refine lv_iload hx hb dX5_areSeveral_28 (lv_at hl 1 rfl) ?_
    refine lv_if_eq (tgt := 72) hx hb dX5_areSeveral_30 (by decide) (fun _ => ?_) (fun h => absurd (by decide) h)
    refine lv_iconst (v := 0) hx hb dX5_areSeveral_72 (by decide) ?_
    refine lv_istore (lv' := [(4, .int 0), (5, .int 2), (3, .int 3), (2, .int 4), (1, .int 0), (0, .ref o)]) hx hb dX5_areSeveral_73 hl (by decide) rfl (fun ls hl => ?_)
    refine lv_iinc (v := 3) (lv' := [(5, .int 3), (4, .int 0), (3, .int 3), (2, .int 4), (1, .int 0), (0, .ref o)]) hx hb dX5_areSeveral_75 hl (k := 1) rfl (by decide) (by decide) rfl (fun ls hl => ?_)
    refine lv_goto (tgt := 22) hx hb dX5_areSeveral_78 (by decide) ?_
    refine lv_iload hx hb dX5_areSeveral_22 (lv_at hl 0 rfl) ?_
    refine lv_iconst (v := 3) hx hb dX5_areSeveral_24 (by decide) ?_
    refine lv_icmp_ge (tgt := 81) hx hb dX5_areSeveral_25 (by decide) (fun _ => ?_) (fun h => absurd (by decide) h)
    refine lv_iload_n hx hb dX5_areSeveral_81 rfl (lv_at hl 4 rfl) ?_
    refine lv_if_ne (tgt := 90) hx hb dX5_areSeveral_82 (by decide) (fun h => absurd (by decide) h) (fun _ => ?_)
    refine lv_iload hx hb dX5_areSeveral_85 (lv_at hl 1 rfl) ?_
    refine lv_if_eq (tgt := 94) hx hb dX5_areSeveral_87 (by decide) (fun _ => ?_) (fun h => absurd (by decide) h)
    refine lv_iconst (v := 0) hx hb dX5_areSeveral_94 (by decide) ?_
    refine lv_istore_n (lv' := [(1, .int 0), (5, .int 3), (4, .int 0), (3, .int 3), (2, .int 4), (0, .ref o)]) hx hb dX5_areSeveral_95 rfl hl (by decide) rfl (fun ls hl => ?_)
    have hq1 : z5_areSeveral_j13 gp gv = z5_areSeveral_j14 gp gv := by unfold z5_areSeveral_j13; rw [if_neg c_35]
    have hq : z5_areSeveral gp gv = z5_areSeveral_j14 gp gv := hj_28.symm.trans hq1
    exact jo_X5_areSeveral_29 hv hx hb hr hml hown hts hlk hP hK hq.symm ls (lv_sub hl [3, 4, 0, 5] rfl)
  · skip
    refine lv_iconst (v := 1) hx hb dX5_areSeveral_68 (by decide) ?_
    refine lv_goto (tgt := 73) hx hb dX5_areSeveral_69 (by decide) ?_
    refine lv_istore (lv' := [(4, .int 1), (5, .int 0), (3, .int 3), (2, .int 4), (1, .int 0), (0, .ref o)]) hx hb dX5_areSeveral_73 hl (by decide) rfl (fun ls hl => ?_)
    refine lv_iinc (v := 1) (lv' := [(5, .int 1), (4, .int 1), (3, .int 3), (2, .int 4), (1, .int 0), (0, .ref o)]) hx hb dX5_areSeveral_75 hl (k := 1) rfl (by decide) (by decide) rfl (fun ls hl => ?_)
    refine lv_goto (tgt := 22) hx hb dX5_areSeveral_78 (by decide) ?_
    refine lv_iload hx hb dX5_areSeveral_22 (lv_at hl 0 rfl) ?_
    refine lv_iconst (v := 3) hx hb dX5_areSeveral_24 (by decide) ?_
    refine lv_icmp_ge (tgt := 81) hx hb dX5_areSeveral_25 (by decide) (fun h => absurd h (by decide)) (fun _ => ?_)
    refine lv_iload hx hb dX5_areSeveral_28 (lv_at hl 1 rfl) ?_
    refine lv_if_eq (tgt := 72) hx hb dX5_areSeveral_30 (by decide) (fun h => absurd h (by decide)) (fun _ => ?_)
    refine lv_aload_n hx hb dX5_areSeveral_33 rfl (lv_at hl 5 rfl) ?_
    refine va_get (D := D) (ci := 5) (v := .ref mP) (C := RX5) (T := TX5) (N := 17) hx hb hts k_2 hown hK.1 hP 0 rfl rfl 0 (by decide) k_1 (fun _ h9 => h9) rfl dX5_areSeveral_34 ?_
    refine lv_iconst (v := 3) hx hb dX5_areSeveral_37 (by decide) ?_
    refine lv_aload_n hx hb dX5_areSeveral_38 rfl (lv_at hl 5 rfl) ?_
    refine va_get (D := D) (ci := 5) (v := .ref mV) (C := RX5) (T := TX5) (N := 17) hx hb hts k_2 hown hK.1 hP 0 rfl rfl 7 (by decide) k_3 (fun _ h9 => h9) rfl dX5_areSeveral_39 ?_
    refine lv_iload_n hx hb dX5_areSeveral_42 rfl (lv_at hl 3 rfl) ?_
    refine ld_i hx hb hK.1 hP 2 0 rfl rfl (ix_lit (by decide)) 4 (by decide) (v := gv 4) rfl dX5_areSeveral_43 ?_
    refine lv_imul hx hb dX5_areSeveral_44 ?_
    refine lv_iload hx hb dX5_areSeveral_45 (lv_at hl 0 rfl) ?_
    refine lv_iadd hx hb dX5_areSeveral_47 ?_
    refine ld_i hx hb hK.1 hP 1 0 rfl rfl (ix3l (hv 4 (by decide)) 1 (by decide)) (((3 * (gv 4)) + 1).toNatClampNeg) rfl (v := gp (((3 * (gv 4)) + 1).toNatClampNeg)) rfl dX5_areSeveral_48 ?_
    refine lv_aload_n hx hb dX5_areSeveral_49 rfl (lv_at hl 5 rfl) ?_
    refine va_get (D := D) (ci := 5) (v := .ref mP) (C := RX5) (T := TX5) (N := 17) hx hb hts k_2 hown hK.1 hP 0 rfl rfl 0 (by decide) k_1 (fun _ h9 => h9) rfl dX5_areSeveral_50 ?_
    refine lv_iconst (v := 3) hx hb dX5_areSeveral_53 (by decide) ?_
    refine lv_aload_n hx hb dX5_areSeveral_54 rfl (lv_at hl 5 rfl) ?_
    refine va_get (D := D) (ci := 5) (v := .ref mV) (C := RX5) (T := TX5) (N := 17) hx hb hts k_2 hown hK.1 hP 0 rfl rfl 7 (by decide) k_3 (fun _ h9 => h9) rfl dX5_areSeveral_55 ?_
    refine lv_iload_n hx hb dX5_areSeveral_58 rfl (lv_at hl 2 rfl) ?_
    refine ld_i hx hb hK.1 hP 2 0 rfl rfl (ix_lit (by decide)) 3 (by decide) (v := gv 3) rfl dX5_areSeveral_59 ?_
    refine lv_imul hx hb dX5_areSeveral_60 ?_
    refine lv_iload hx hb dX5_areSeveral_61 (lv_at hl 0 rfl) ?_
    refine lv_iadd hx hb dX5_areSeveral_63 ?_
    refine ld_i hx hb hK.1 hP 1 0 rfl rfl (ix3l (hv 3 (by decide)) 1 (by decide)) (((3 * (gv 3)) + 1).toNatClampNeg) rfl (v := gp (((3 * (gv 3)) + 1).toNatClampNeg)) rfl dX5_areSeveral_64 ?_
    refine lv_icmp_ne (tgt := 72) hx hb dX5_areSeveral_65 (by decide) (fun c_36 => ?_) (fun c_36 => ?_)
    · skip
      refine lv_iconst (v := 0) hx hb dX5_areSeveral_72 (by decide) ?_
      refine lv_istore (lv' := [(4, .int 0), (5, .int 1), (3, .int 3), (2, .int 4), (1, .int 0), (0, .ref o)]) hx hb dX5_areSeveral_73 hl (by decide) rfl (fun ls hl => ?_)
      refine lv_iinc (v := 2) (lv' := [(5, .int 2), (4, .int 0), (3, .int 3), (2, .int 4), (1, .int 0), (0, .ref o)]) hx hb dX5_areSeveral_75 hl (k := 1) rfl (by decide) (by decide) rfl (fun ls hl => ?_)
      refine lv_goto (tgt := 22) hx hb dX5_areSeveral_78 (by decide) ?_
      refine lv_iload hx hb dX5_areSeveral_22 (lv_at hl 0 rfl) ?_
      refine lv_iconst (v := 3) hx hb dX5_areSeveral_24 (by decide) ?_
      refine lv_icmp_ge (tgt := 81) hx hb dX5_areSeveral_25 (by decide) (fun h => absurd h (by decide)) (fun _ => ?_)
      refine lv_iload hx hb dX5_areSeveral_28 (lv_at hl 1 rfl) ?_
      refine lv_if_eq (tgt := 72) hx hb dX5_areSeveral_30 (by decide) (fun _ => ?_) (fun h => absurd (by decide) h)
      refine lv_iconst (v := 0) hx hb dX5_areSeveral_72 (by decide) ?_
      refine lv_istore (lv' := [(4, .int 0), (5, .int 2), (3, .int 3), (2, .int 4), (1, .int 0), (0, .ref o)]) hx hb dX5_areSeveral_73 hl (by decide) rfl (fun ls hl => ?_)
      refine lv_iinc (v := 3) (lv' := [(5, .int 3), (4, .int 0), (3, .int 3), (2, .int 4), (1, .int 0), (0, .ref o)]) hx hb dX5_areSeveral_75 hl (k := 1) rfl (by decide) (by decide) rfl (fun ls hl => ?_)
      refine lv_goto (tgt := 22) hx hb dX5_areSeveral_78 (by decide) ?_
      refine lv_iload hx hb dX5_areSeveral_22 (lv_at hl 0 rfl) ?_
      refine lv_iconst (v := 3) hx hb dX5_areSeveral_24 (by decide) ?_
      refine lv_icmp_ge (tgt := 81) hx hb dX5_areSeveral_25 (by decide) (fun _ => ?_) (fun h => absurd (by decide) h)
      refine lv_iload_n hx hb dX5_areSeveral_81 rfl (lv_at hl 4 rfl) ?_
      refine lv_if_ne (tgt := 90) hx hb dX5_areSeveral_82 (by decide) (fun h => absurd (by decide) h) (fun _ => ?_)
      refine lv_iload hx hb dX5_areSeveral_85 (lv_at hl 1 rfl) ?_
      refine lv_if_eq (tgt := 94) hx hb dX5_areSeveral_87 (by decide) (fun _ => ?_) (fun h => absurd (by decide) h)
      refine lv_iconst (v := 0) hx hb dX5_areSeveral_94 (by decide) ?_
      refine lv_istore_n (lv' := [(1, .int 0), (5, .int 3), (4, .int 0), (3, .int 3), (2, .int 4), (0, .ref o)]) hx hb dX5_areSeveral_95 rfl hl (by decide) rfl (fun ls hl => ?_)
      have hq1 : z5_areSeveral_j13 gp gv = z5_areSeveral_j14 gp gv := by unfold z5_areSeveral_j13; rw [if_pos c_35, if_neg c_36]
      have hq : z5_areSeveral gp gv = z5_areSeveral_j14 gp gv := hj_28.symm.trans hq1
      exact jo_X5_areSeveral_29 hv hx hb hr hml hown hts hlk hP hK hq.symm ls (lv_sub hl [3, 4, 0, 5] rfl)
    · skip
      refine lv_iconst (v := 1) hx hb dX5_areSeveral_68 (by decide) ?_
      refine lv_goto (tgt := 73) hx hb dX5_areSeveral_69 (by decide) ?_
      refine lv_istore (lv' := [(4, .int 1), (5, .int 1), (3, .int 3), (2, .int 4), (1, .int 0), (0, .ref o)]) hx hb dX5_areSeveral_73 hl (by decide) rfl (fun ls hl => ?_)
      refine lv_iinc (v := 2) (lv' := [(5, .int 2), (4, .int 1), (3, .int 3), (2, .int 4), (1, .int 0), (0, .ref o)]) hx hb dX5_areSeveral_75 hl (k := 1) rfl (by decide) (by decide) rfl (fun ls hl => ?_)
      refine lv_goto (tgt := 22) hx hb dX5_areSeveral_78 (by decide) ?_
      refine lv_iload hx hb dX5_areSeveral_22 (lv_at hl 0 rfl) ?_
      refine lv_iconst (v := 3) hx hb dX5_areSeveral_24 (by decide) ?_
      refine lv_icmp_ge (tgt := 81) hx hb dX5_areSeveral_25 (by decide) (fun h => absurd h (by decide)) (fun _ => ?_)
      refine lv_iload hx hb dX5_areSeveral_28 (lv_at hl 1 rfl) ?_
      refine lv_if_eq (tgt := 72) hx hb dX5_areSeveral_30 (by decide) (fun h => absurd h (by decide)) (fun _ => ?_)
      refine lv_aload_n hx hb dX5_areSeveral_33 rfl (lv_at hl 5 rfl) ?_
      refine va_get (D := D) (ci := 5) (v := .ref mP) (C := RX5) (T := TX5) (N := 17) hx hb hts k_2 hown hK.1 hP 0 rfl rfl 0 (by decide) k_1 (fun _ h9 => h9) rfl dX5_areSeveral_34 ?_
      refine lv_iconst (v := 3) hx hb dX5_areSeveral_37 (by decide) ?_
      refine lv_aload_n hx hb dX5_areSeveral_38 rfl (lv_at hl 5 rfl) ?_
      refine va_get (D := D) (ci := 5) (v := .ref mV) (C := RX5) (T := TX5) (N := 17) hx hb hts k_2 hown hK.1 hP 0 rfl rfl 7 (by decide) k_3 (fun _ h9 => h9) rfl dX5_areSeveral_39 ?_
      refine lv_iload_n hx hb dX5_areSeveral_42 rfl (lv_at hl 3 rfl) ?_
      refine ld_i hx hb hK.1 hP 2 0 rfl rfl (ix_lit (by decide)) 4 (by decide) (v := gv 4) rfl dX5_areSeveral_43 ?_
      refine lv_imul hx hb dX5_areSeveral_44 ?_
      refine lv_iload hx hb dX5_areSeveral_45 (lv_at hl 0 rfl) ?_
      refine lv_iadd hx hb dX5_areSeveral_47 ?_
      refine ld_i hx hb hK.1 hP 1 0 rfl rfl (ix3l (hv 4 (by decide)) 2 (by decide)) (((3 * (gv 4)) + 2).toNatClampNeg) rfl (v := gp (((3 * (gv 4)) + 2).toNatClampNeg)) rfl dX5_areSeveral_48 ?_
      refine lv_aload_n hx hb dX5_areSeveral_49 rfl (lv_at hl 5 rfl) ?_
      refine va_get (D := D) (ci := 5) (v := .ref mP) (C := RX5) (T := TX5) (N := 17) hx hb hts k_2 hown hK.1 hP 0 rfl rfl 0 (by decide) k_1 (fun _ h9 => h9) rfl dX5_areSeveral_50 ?_
      refine lv_iconst (v := 3) hx hb dX5_areSeveral_53 (by decide) ?_
      refine lv_aload_n hx hb dX5_areSeveral_54 rfl (lv_at hl 5 rfl) ?_
      refine va_get (D := D) (ci := 5) (v := .ref mV) (C := RX5) (T := TX5) (N := 17) hx hb hts k_2 hown hK.1 hP 0 rfl rfl 7 (by decide) k_3 (fun _ h9 => h9) rfl dX5_areSeveral_55 ?_
      refine lv_iload_n hx hb dX5_areSeveral_58 rfl (lv_at hl 2 rfl) ?_
      refine ld_i hx hb hK.1 hP 2 0 rfl rfl (ix_lit (by decide)) 3 (by decide) (v := gv 3) rfl dX5_areSeveral_59 ?_
      refine lv_imul hx hb dX5_areSeveral_60 ?_
      refine lv_iload hx hb dX5_areSeveral_61 (lv_at hl 0 rfl) ?_
      refine lv_iadd hx hb dX5_areSeveral_63 ?_
      refine ld_i hx hb hK.1 hP 1 0 rfl rfl (ix3l (hv 3 (by decide)) 2 (by decide)) (((3 * (gv 3)) + 2).toNatClampNeg) rfl (v := gp (((3 * (gv 3)) + 2).toNatClampNeg)) rfl dX5_areSeveral_64 ?_
      refine lv_icmp_ne (tgt := 72) hx hb dX5_areSeveral_65 (by decide) (fun c_37 => ?_) (fun c_37 => ?_)
      · skip
        refine lv_iconst (v := 0) hx hb dX5_areSeveral_72 (by decide) ?_
        refine lv_istore (lv' := [(4, .int 0), (5, .int 2), (3, .int 3), (2, .int 4), (1, .int 0), (0, .ref o)]) hx hb dX5_areSeveral_73 hl (by decide) rfl (fun ls hl => ?_)
        refine lv_iinc (v := 3) (lv' := [(5, .int 3), (4, .int 0), (3, .int 3), (2, .int 4), (1, .int 0), (0, .ref o)]) hx hb dX5_areSeveral_75 hl (k := 1) rfl (by decide) (by decide) rfl (fun ls hl => ?_)
        refine lv_goto (tgt := 22) hx hb dX5_areSeveral_78 (by decide) ?_
        refine lv_iload hx hb dX5_areSeveral_22 (lv_at hl 0 rfl) ?_
        refine lv_iconst (v := 3) hx hb dX5_areSeveral_24 (by decide) ?_
        refine lv_icmp_ge (tgt := 81) hx hb dX5_areSeveral_25 (by decide) (fun _ => ?_) (fun h => absurd (by decide) h)
        refine lv_iload_n hx hb dX5_areSeveral_81 rfl (lv_at hl 4 rfl) ?_
        refine lv_if_ne (tgt := 90) hx hb dX5_areSeveral_82 (by decide) (fun h => absurd (by decide) h) (fun _ => ?_)
        refine lv_iload hx hb dX5_areSeveral_85 (lv_at hl 1 rfl) ?_
        refine lv_if_eq (tgt := 94) hx hb dX5_areSeveral_87 (by decide) (fun _ => ?_) (fun h => absurd (by decide) h)
        refine lv_iconst (v := 0) hx hb dX5_areSeveral_94 (by decide) ?_
        refine lv_istore_n (lv' := [(1, .int 0), (5, .int 3), (4, .int 0), (3, .int 3), (2, .int 4), (0, .ref o)]) hx hb dX5_areSeveral_95 rfl hl (by decide) rfl (fun ls hl => ?_)
        have hq1 : z5_areSeveral_j13 gp gv = z5_areSeveral_j14 gp gv := by unfold z5_areSeveral_j13; rw [if_pos c_35, if_pos c_36, if_neg c_37]
        have hq : z5_areSeveral gp gv = z5_areSeveral_j14 gp gv := hj_28.symm.trans hq1
        exact jo_X5_areSeveral_29 hv hx hb hr hml hown hts hlk hP hK hq.symm ls (lv_sub hl [3, 4, 0, 5] rfl)
      · skip
        refine lv_iconst (v := 1) hx hb dX5_areSeveral_68 (by decide) ?_
        refine lv_goto (tgt := 73) hx hb dX5_areSeveral_69 (by decide) ?_
        refine lv_istore (lv' := [(4, .int 1), (5, .int 2), (3, .int 3), (2, .int 4), (1, .int 0), (0, .ref o)]) hx hb dX5_areSeveral_73 hl (by decide) rfl (fun ls hl => ?_)
        refine lv_iinc (v := 3) (lv' := [(5, .int 3), (4, .int 1), (3, .int 3), (2, .int 4), (1, .int 0), (0, .ref o)]) hx hb dX5_areSeveral_75 hl (k := 1) rfl (by decide) (by decide) rfl (fun ls hl => ?_)
        refine lv_goto (tgt := 22) hx hb dX5_areSeveral_78 (by decide) ?_
        refine lv_iload hx hb dX5_areSeveral_22 (lv_at hl 0 rfl) ?_
        refine lv_iconst (v := 3) hx hb dX5_areSeveral_24 (by decide) ?_
        refine lv_icmp_ge (tgt := 81) hx hb dX5_areSeveral_25 (by decide) (fun _ => ?_) (fun h => absurd (by decide) h)
        refine lv_iload_n hx hb dX5_areSeveral_81 rfl (lv_at hl 4 rfl) ?_
        refine lv_if_ne (tgt := 90) hx hb dX5_areSeveral_82 (by decide) (fun h => absurd (by decide) h) (fun _ => ?_)
        refine lv_iload hx hb dX5_areSeveral_85 (lv_at hl 1 rfl) ?_
        refine lv_if_eq (tgt := 94) hx hb dX5_areSeveral_87 (by decide) (fun h => absurd h (by decide)) (fun _ => ?_)
        refine lv_iconst (v := 1) hx hb dX5_areSeveral_90 (by decide) ?_
        refine lv_goto (tgt := 95) hx hb dX5_areSeveral_91 (by decide) ?_
        refine lv_istore_n (lv' := [(1, .int 1), (5, .int 3), (4, .int 1), (3, .int 3), (2, .int 4), (0, .ref o)]) hx hb dX5_areSeveral_95 rfl hl (by decide) rfl (fun ls hl => ?_)
        have hq1 : z5_areSeveral_j13 gp gv = 1 := by unfold z5_areSeveral_j13; rw [if_pos c_35, if_pos c_36, if_pos c_37]
        have hq : z5_areSeveral gp gv = 1 := hj_28.symm.trans hq1
        exact jo_X5_areSeveral_2 hv hx hb hr hml hown hts hlk hP hK hq ls (lv_sub hl [5, 0, 4, 3] rfl)
set_option maxHeartbeats 4000000 in
set_option maxRecDepth 100000 in
theorem jo_X5_areSeveral_27 {l : Launch} {D : va_G} {cI cJ : ClassId} {pG : Program} {eG : Env} {sG : State} {mG : MethodId} {below : List Frame} {meth : Method} {cG : Code} {o : Nat} {mP : Nat} {mL : Nat} {mC : Nat} {mN : Nat} {mF : Nat} {mR : Nat} {mD : Nat} {mV : Nat} {mX : Nat} {mA : Nat} {mK : Nat} {mT : Nat} {mU : Nat} {mH : Nat} {mI : Nat} {cm : Int32} {pm : Int32} {gp : Nat → Int32} {gv : Nat → Int32} (hv : ∀ n, n < 5 → ok_i (gv n)) (hx : pG.tables.exec = Jvm.exec) (hb : cG.code = cX5_areSeveral) (hr : meth.sig.returnType = some .boolean) (hml : cG.maxLocals = 7) (hown : sG.vm.findClass RX5 = some mG.cls) (hts : ∀ x ∈ wsX5_areSeveral, x.before ([.ref o] : List Value).toArray sG = true) (hlk : meth.locks = false) (hP : va_P D vwCl [kM o mP mL mC mN mF mR mD mV mX mA mK cm mT pm mU mH mI, kA mP cI 180 gp, kA mV cI 5 gv] sG.heap) (hK : gd_K D cI cJ sG) (hj_27 : z5_areSeveral_j12 gp gv = z5_areSeveral gp gv) (ls : Array Slot) (hl : lv_has ls 7 [(3, .int 1), (2, .int 4), (1, .int 0), (0, .ref o)]) : W pG l eG (headSpec wsX5_areSeveral ({ frames := 1, cells := 0, slots := 0, locals := 30 })).room sG mG ([.ref o] : List Value).toArray below meth cG sG.heap [] 0 0 (MQ below (vp_Si (fun r : Int32 => r = z5_areSeveral gp gv)) ([.ref o] : List Value).toArray sG 0 0 (fun _ => False)) (F0 mG 96 ls []) := by
  have k_1 := hts (.fieldLink RX5 7 "ConicRowsModel" "points" "[I") (by decide +kernel)
  have k_2 : ∀ w ∈ wsX50, w ∈ wsX5_areSeveral := by decide +kernel
  have k_3 := hts (.fieldLink RX5 32 "ConicRowsModel" "five" "[I") (by decide +kernel)
  refine lv_iinc (v := 2) (lv' := [(3, .int 2), (2, .int 4), (1, .int 0), (0, .ref o)]) hx hb dX5_areSeveral_96 hl (k := 0) rfl (by decide) (by decide) rfl (fun ls hl => ?_)
  refine lv_goto (tgt := 11) hx hb dX5_areSeveral_99 (by decide) ?_
  refine lv_iload_n hx hb dX5_areSeveral_11 rfl (lv_at hl 0 rfl) ?_
  refine lv_iload_n hx hb dX5_areSeveral_12 rfl (lv_at hl 1 rfl) ?_
  refine lv_icmp_ge (tgt := 102) hx hb dX5_areSeveral_13 (by decide) (fun h => absurd h (by decide)) (fun _ => ?_)
  refine lv_iconst (v := 1) hx hb dX5_areSeveral_16 (by decide) ?_
  refine lv_istore (lv' := [(4, .int 1), (3, .int 2), (2, .int 4), (1, .int 0), (0, .ref o)]) hx hb dX5_areSeveral_17 hl (by decide) rfl (fun ls hl => ?_)
  refine lv_iconst (v := 0) hx hb dX5_areSeveral_19 (by decide) ?_
  refine lv_istore (lv' := [(5, .int 0), (4, .int 1), (3, .int 2), (2, .int 4), (1, .int 0), (0, .ref o)]) hx hb dX5_areSeveral_20 hl (by decide) rfl (fun ls hl => ?_)
  refine lv_iload hx hb dX5_areSeveral_22 (lv_at hl 0 rfl) ?_
  refine lv_iconst (v := 3) hx hb dX5_areSeveral_24 (by decide) ?_
  refine lv_icmp_ge (tgt := 81) hx hb dX5_areSeveral_25 (by decide) (fun h => absurd h (by decide)) (fun _ => ?_)
  refine lv_iload hx hb dX5_areSeveral_28 (lv_at hl 1 rfl) ?_
  refine lv_if_eq (tgt := 72) hx hb dX5_areSeveral_30 (by decide) (fun h => absurd h (by decide)) (fun _ => ?_)
  refine lv_aload_n hx hb dX5_areSeveral_33 rfl (lv_at hl 5 rfl) ?_
  refine va_get (D := D) (ci := 5) (v := .ref mP) (C := RX5) (T := TX5) (N := 17) hx hb hts k_2 hown hK.1 hP 0 rfl rfl 0 (by decide) k_1 (fun _ h9 => h9) rfl dX5_areSeveral_34 ?_
  refine lv_iconst (v := 3) hx hb dX5_areSeveral_37 (by decide) ?_
  refine lv_aload_n hx hb dX5_areSeveral_38 rfl (lv_at hl 5 rfl) ?_
  refine va_get (D := D) (ci := 5) (v := .ref mV) (C := RX5) (T := TX5) (N := 17) hx hb hts k_2 hown hK.1 hP 0 rfl rfl 7 (by decide) k_3 (fun _ h9 => h9) rfl dX5_areSeveral_39 ?_
  refine lv_iload_n hx hb dX5_areSeveral_42 rfl (lv_at hl 3 rfl) ?_
  refine ld_i hx hb hK.1 hP 2 0 rfl rfl (ix_lit (by decide)) 4 (by decide) (v := gv 4) rfl dX5_areSeveral_43 ?_
  refine lv_imul hx hb dX5_areSeveral_44 ?_
  refine lv_iload hx hb dX5_areSeveral_45 (lv_at hl 0 rfl) ?_
  refine lv_iadd hx hb dX5_areSeveral_47 ?_
  refine ld_i hx hb hK.1 hP 1 0 rfl rfl (ix3l (hv 4 (by decide)) 0 (by decide)) (((3 * (gv 4)) + 0).toNatClampNeg) rfl (v := gp (((3 * (gv 4)) + 0).toNatClampNeg)) rfl dX5_areSeveral_48 ?_
  refine lv_aload_n hx hb dX5_areSeveral_49 rfl (lv_at hl 5 rfl) ?_
  refine va_get (D := D) (ci := 5) (v := .ref mP) (C := RX5) (T := TX5) (N := 17) hx hb hts k_2 hown hK.1 hP 0 rfl rfl 0 (by decide) k_1 (fun _ h9 => h9) rfl dX5_areSeveral_50 ?_
  refine lv_iconst (v := 3) hx hb dX5_areSeveral_53 (by decide) ?_
  refine lv_aload_n hx hb dX5_areSeveral_54 rfl (lv_at hl 5 rfl) ?_
  refine va_get (D := D) (ci := 5) (v := .ref mV) (C := RX5) (T := TX5) (N := 17) hx hb hts k_2 hown hK.1 hP 0 rfl rfl 7 (by decide) k_3 (fun _ h9 => h9) rfl dX5_areSeveral_55 ?_
  refine lv_iload_n hx hb dX5_areSeveral_58 rfl (lv_at hl 2 rfl) ?_
  refine ld_i hx hb hK.1 hP 2 0 rfl rfl (ix_lit (by decide)) 2 (by decide) (v := gv 2) rfl dX5_areSeveral_59 ?_
  refine lv_imul hx hb dX5_areSeveral_60 ?_
  refine lv_iload hx hb dX5_areSeveral_61 (lv_at hl 0 rfl) ?_
  refine lv_iadd hx hb dX5_areSeveral_63 ?_
  refine ld_i hx hb hK.1 hP 1 0 rfl rfl (ix3l (hv 2 (by decide)) 0 (by decide)) (((3 * (gv 2)) + 0).toNatClampNeg) rfl (v := gp (((3 * (gv 2)) + 0).toNatClampNeg)) rfl dX5_areSeveral_64 ?_
  refine lv_icmp_ne (tgt := 72) hx hb dX5_areSeveral_65 (by decide) (fun c_38 => ?_) (fun c_38 => ?_)
  · skip
    refine lv_iconst (v := 0) hx hb dX5_areSeveral_72 (by decide) ?_
    refine lv_istore (lv' := [(4, .int 0), (5, .int 0), (3, .int 2), (2, .int 4), (1, .int 0), (0, .ref o)]) hx hb dX5_areSeveral_73 hl (by decide) rfl (fun ls hl => ?_)
    refine lv_iinc (v := 1) (lv' := [(5, .int 1), (4, .int 0), (3, .int 2), (2, .int 4), (1, .int 0), (0, .ref o)]) hx hb dX5_areSeveral_75 hl (k := 1) rfl (by decide) (by decide) rfl (fun ls hl => ?_)
    refine lv_goto (tgt := 22) hx hb dX5_areSeveral_78 (by decide) ?_
    refine lv_iload hx hb dX5_areSeveral_22 (lv_at hl 0 rfl) ?_
    refine lv_iconst (v := 3) hx hb dX5_areSeveral_24 (by decide) ?_
    refine lv_icmp_ge (tgt := 81) hx hb dX5_areSeveral_25 (by decide) (fun h => absurd h (by decide)) (fun _ => ?_)
    refine lv_iload hx hb dX5_areSeveral_28 (lv_at hl 1 rfl) ?_
    refine lv_if_eq (tgt := 72) hx hb dX5_areSeveral_30 (by decide) (fun _ => ?_) (fun h => absurd (by decide) h)
    refine lv_iconst (v := 0) hx hb dX5_areSeveral_72 (by decide) ?_
    refine lv_istore (lv' := [(4, .int 0), (5, .int 1), (3, .int 2), (2, .int 4), (1, .int 0), (0, .ref o)]) hx hb dX5_areSeveral_73 hl (by decide) rfl (fun ls hl => ?_)
    refine lv_iinc (v := 2) (lv' := [(5, .int 2), (4, .int 0), (3, .int 2), (2, .int 4), (1, .int 0), (0, .ref o)]) hx hb dX5_areSeveral_75 hl (k := 1) rfl (by decide) (by decide) rfl (fun ls hl => ?_)
    refine lv_goto (tgt := 22) hx hb dX5_areSeveral_78 (by decide) ?_
    refine lv_iload hx hb dX5_areSeveral_22 (lv_at hl 0 rfl) ?_
    refine lv_iconst (v := 3) hx hb dX5_areSeveral_24 (by decide) ?_
    refine lv_icmp_ge (tgt := 81) hx hb dX5_areSeveral_25 (by decide) (fun h => absurd h (by decide)) (fun _ => ?_)
    refine lv_iload hx hb dX5_areSeveral_28 (lv_at hl 1 rfl) ?_
    refine lv_if_eq (tgt := 72) hx hb dX5_areSeveral_30 (by decide) (fun _ => ?_) (fun h => absurd (by decide) h)
    refine lv_iconst (v := 0) hx hb dX5_areSeveral_72 (by decide) ?_
    refine lv_istore (lv' := [(4, .int 0), (5, .int 2), (3, .int 2), (2, .int 4), (1, .int 0), (0, .ref o)]) hx hb dX5_areSeveral_73 hl (by decide) rfl (fun ls hl => ?_)
    refine lv_iinc (v := 3) (lv' := [(5, .int 3), (4, .int 0), (3, .int 2), (2, .int 4), (1, .int 0), (0, .ref o)]) hx hb dX5_areSeveral_75 hl (k := 1) rfl (by decide) (by decide) rfl (fun ls hl => ?_)
    refine lv_goto (tgt := 22) hx hb dX5_areSeveral_78 (by decide) ?_
    refine lv_iload hx hb dX5_areSeveral_22 (lv_at hl 0 rfl) ?_
    refine lv_iconst (v := 3) hx hb dX5_areSeveral_24 (by decide) ?_
    refine lv_icmp_ge (tgt := 81) hx hb dX5_areSeveral_25 (by decide) (fun _ => ?_) (fun h => absurd (by decide) h)
    refine lv_iload_n hx hb dX5_areSeveral_81 rfl (lv_at hl 4 rfl) ?_
    refine lv_if_ne (tgt := 90) hx hb dX5_areSeveral_82 (by decide) (fun h => absurd (by decide) h) (fun _ => ?_)
    refine lv_iload hx hb dX5_areSeveral_85 (lv_at hl 1 rfl) ?_
    refine lv_if_eq (tgt := 94) hx hb dX5_areSeveral_87 (by decide) (fun _ => ?_) (fun h => absurd (by decide) h)
    refine lv_iconst (v := 0) hx hb dX5_areSeveral_94 (by decide) ?_
    refine lv_istore_n (lv' := [(1, .int 0), (5, .int 3), (4, .int 0), (3, .int 2), (2, .int 4), (0, .ref o)]) hx hb dX5_areSeveral_95 rfl hl (by decide) rfl (fun ls hl => ?_)
    have hq1 : z5_areSeveral_j12 gp gv = z5_areSeveral_j13 gp gv := by unfold z5_areSeveral_j12; rw [if_neg c_38]
    have hq : z5_areSeveral gp gv = z5_areSeveral_j13 gp gv := hj_27.symm.trans hq1
    exact jo_X5_areSeveral_28 hv hx hb hr hml hown hts hlk hP hK hq.symm ls (lv_sub hl [3, 4, 0, 5] rfl)
  · skip
    refine lv_iconst (v := 1) hx hb dX5_areSeveral_68 (by decide) ?_
    refine lv_goto (tgt := 73) hx hb dX5_areSeveral_69 (by decide) ?_
    refine lv_istore (lv' := [(4, .int 1), (5, .int 0), (3, .int 2), (2, .int 4), (1, .int 0), (0, .ref o)]) hx hb dX5_areSeveral_73 hl (by decide) rfl (fun ls hl => ?_)
    refine lv_iinc (v := 1) (lv' := [(5, .int 1), (4, .int 1), (3, .int 2), (2, .int 4), (1, .int 0), (0, .ref o)]) hx hb dX5_areSeveral_75 hl (k := 1) rfl (by decide) (by decide) rfl (fun ls hl => ?_)
    refine lv_goto (tgt := 22) hx hb dX5_areSeveral_78 (by decide) ?_
    refine lv_iload hx hb dX5_areSeveral_22 (lv_at hl 0 rfl) ?_
    refine lv_iconst (v := 3) hx hb dX5_areSeveral_24 (by decide) ?_
    refine lv_icmp_ge (tgt := 81) hx hb dX5_areSeveral_25 (by decide) (fun h => absurd h (by decide)) (fun _ => ?_)
    refine lv_iload hx hb dX5_areSeveral_28 (lv_at hl 1 rfl) ?_
    refine lv_if_eq (tgt := 72) hx hb dX5_areSeveral_30 (by decide) (fun h => absurd h (by decide)) (fun _ => ?_)
    refine lv_aload_n hx hb dX5_areSeveral_33 rfl (lv_at hl 5 rfl) ?_
    refine va_get (D := D) (ci := 5) (v := .ref mP) (C := RX5) (T := TX5) (N := 17) hx hb hts k_2 hown hK.1 hP 0 rfl rfl 0 (by decide) k_1 (fun _ h9 => h9) rfl dX5_areSeveral_34 ?_
    refine lv_iconst (v := 3) hx hb dX5_areSeveral_37 (by decide) ?_
    refine lv_aload_n hx hb dX5_areSeveral_38 rfl (lv_at hl 5 rfl) ?_
    refine va_get (D := D) (ci := 5) (v := .ref mV) (C := RX5) (T := TX5) (N := 17) hx hb hts k_2 hown hK.1 hP 0 rfl rfl 7 (by decide) k_3 (fun _ h9 => h9) rfl dX5_areSeveral_39 ?_
    refine lv_iload_n hx hb dX5_areSeveral_42 rfl (lv_at hl 3 rfl) ?_
    refine ld_i hx hb hK.1 hP 2 0 rfl rfl (ix_lit (by decide)) 4 (by decide) (v := gv 4) rfl dX5_areSeveral_43 ?_
    refine lv_imul hx hb dX5_areSeveral_44 ?_
    refine lv_iload hx hb dX5_areSeveral_45 (lv_at hl 0 rfl) ?_
    refine lv_iadd hx hb dX5_areSeveral_47 ?_
    refine ld_i hx hb hK.1 hP 1 0 rfl rfl (ix3l (hv 4 (by decide)) 1 (by decide)) (((3 * (gv 4)) + 1).toNatClampNeg) rfl (v := gp (((3 * (gv 4)) + 1).toNatClampNeg)) rfl dX5_areSeveral_48 ?_
    refine lv_aload_n hx hb dX5_areSeveral_49 rfl (lv_at hl 5 rfl) ?_
    refine va_get (D := D) (ci := 5) (v := .ref mP) (C := RX5) (T := TX5) (N := 17) hx hb hts k_2 hown hK.1 hP 0 rfl rfl 0 (by decide) k_1 (fun _ h9 => h9) rfl dX5_areSeveral_50 ?_
    refine lv_iconst (v := 3) hx hb dX5_areSeveral_53 (by decide) ?_
    refine lv_aload_n hx hb dX5_areSeveral_54 rfl (lv_at hl 5 rfl) ?_
    refine va_get (D := D) (ci := 5) (v := .ref mV) (C := RX5) (T := TX5) (N := 17) hx hb hts k_2 hown hK.1 hP 0 rfl rfl 7 (by decide) k_3 (fun _ h9 => h9) rfl dX5_areSeveral_55 ?_
    refine lv_iload_n hx hb dX5_areSeveral_58 rfl (lv_at hl 2 rfl) ?_
    refine ld_i hx hb hK.1 hP 2 0 rfl rfl (ix_lit (by decide)) 2 (by decide) (v := gv 2) rfl dX5_areSeveral_59 ?_
    refine lv_imul hx hb dX5_areSeveral_60 ?_
    refine lv_iload hx hb dX5_areSeveral_61 (lv_at hl 0 rfl) ?_
    refine lv_iadd hx hb dX5_areSeveral_63 ?_
    refine ld_i hx hb hK.1 hP 1 0 rfl rfl (ix3l (hv 2 (by decide)) 1 (by decide)) (((3 * (gv 2)) + 1).toNatClampNeg) rfl (v := gp (((3 * (gv 2)) + 1).toNatClampNeg)) rfl dX5_areSeveral_64 ?_
    refine lv_icmp_ne (tgt := 72) hx hb dX5_areSeveral_65 (by decide) (fun c_39 => ?_) (fun c_39 => ?_)
    · skip
      refine lv_iconst (v := 0) hx hb dX5_areSeveral_72 (by decide) ?_
      refine lv_istore (lv' := [(4, .int 0), (5, .int 1), (3, .int 2), (2, .int 4), (1, .int 0), (0, .ref o)]) hx hb dX5_areSeveral_73 hl (by decide) rfl (fun ls hl => ?_)
      refine lv_iinc (v := 2) (lv' := [(5, .int 2), (4, .int 0), (3, .int 2), (2, .int 4), (1, .int 0), (0, .ref o)]) hx hb dX5_areSeveral_75 hl (k := 1) rfl (by decide) (by decide) rfl (fun ls hl => ?_)
      refine lv_goto (tgt := 22) hx hb dX5_areSeveral_78 (by decide) ?_
      refine lv_iload hx hb dX5_areSeveral_22 (lv_at hl 0 rfl) ?_
      refine lv_iconst (v := 3) hx hb dX5_areSeveral_24 (by decide) ?_
      refine lv_icmp_ge (tgt := 81) hx hb dX5_areSeveral_25 (by decide) (fun h => absurd h (by decide)) (fun _ => ?_)
      refine lv_iload hx hb dX5_areSeveral_28 (lv_at hl 1 rfl) ?_
      refine lv_if_eq (tgt := 72) hx hb dX5_areSeveral_30 (by decide) (fun _ => ?_) (fun h => absurd (by decide) h)
      refine lv_iconst (v := 0) hx hb dX5_areSeveral_72 (by decide) ?_
      refine lv_istore (lv' := [(4, .int 0), (5, .int 2), (3, .int 2), (2, .int 4), (1, .int 0), (0, .ref o)]) hx hb dX5_areSeveral_73 hl (by decide) rfl (fun ls hl => ?_)
      refine lv_iinc (v := 3) (lv' := [(5, .int 3), (4, .int 0), (3, .int 2), (2, .int 4), (1, .int 0), (0, .ref o)]) hx hb dX5_areSeveral_75 hl (k := 1) rfl (by decide) (by decide) rfl (fun ls hl => ?_)
      refine lv_goto (tgt := 22) hx hb dX5_areSeveral_78 (by decide) ?_
      refine lv_iload hx hb dX5_areSeveral_22 (lv_at hl 0 rfl) ?_
      refine lv_iconst (v := 3) hx hb dX5_areSeveral_24 (by decide) ?_
      refine lv_icmp_ge (tgt := 81) hx hb dX5_areSeveral_25 (by decide) (fun _ => ?_) (fun h => absurd (by decide) h)
      refine lv_iload_n hx hb dX5_areSeveral_81 rfl (lv_at hl 4 rfl) ?_
      refine lv_if_ne (tgt := 90) hx hb dX5_areSeveral_82 (by decide) (fun h => absurd (by decide) h) (fun _ => ?_)
      refine lv_iload hx hb dX5_areSeveral_85 (lv_at hl 1 rfl) ?_
      refine lv_if_eq (tgt := 94) hx hb dX5_areSeveral_87 (by decide) (fun _ => ?_) (fun h => absurd (by decide) h)
      refine lv_iconst (v := 0) hx hb dX5_areSeveral_94 (by decide) ?_
      refine lv_istore_n (lv' := [(1, .int 0), (5, .int 3), (4, .int 0), (3, .int 2), (2, .int 4), (0, .ref o)]) hx hb dX5_areSeveral_95 rfl hl (by decide) rfl (fun ls hl => ?_)
      have hq1 : z5_areSeveral_j12 gp gv = z5_areSeveral_j13 gp gv := by unfold z5_areSeveral_j12; rw [if_pos c_38, if_neg c_39]
      have hq : z5_areSeveral gp gv = z5_areSeveral_j13 gp gv := hj_27.symm.trans hq1
      exact jo_X5_areSeveral_28 hv hx hb hr hml hown hts hlk hP hK hq.symm ls (lv_sub hl [3, 4, 0, 5] rfl)
    · skip
      refine lv_iconst (v := 1) hx hb dX5_areSeveral_68 (by decide) ?_
      refine lv_goto (tgt := 73) hx hb dX5_areSeveral_69 (by decide) ?_
      refine lv_istore (lv' := [(4, .int 1), (5, .int 1), (3, .int 2), (2, .int 4), (1, .int 0), (0, .ref o)]) hx hb dX5_areSeveral_73 hl (by decide) rfl (fun ls hl => ?_)
      refine lv_iinc (v := 2) (lv' := [(5, .int 2), (4, .int 1), (3, .int 2), (2, .int 4), (1, .int 0), (0, .ref o)]) hx hb dX5_areSeveral_75 hl (k := 1) rfl (by decide) (by decide) rfl (fun ls hl => ?_)
      refine lv_goto (tgt := 22) hx hb dX5_areSeveral_78 (by decide) ?_
      refine lv_iload hx hb dX5_areSeveral_22 (lv_at hl 0 rfl) ?_
      refine lv_iconst (v := 3) hx hb dX5_areSeveral_24 (by decide) ?_
      refine lv_icmp_ge (tgt := 81) hx hb dX5_areSeveral_25 (by decide) (fun h => absurd h (by decide)) (fun _ => ?_)
      refine lv_iload hx hb dX5_areSeveral_28 (lv_at hl 1 rfl) ?_
      refine lv_if_eq (tgt := 72) hx hb dX5_areSeveral_30 (by decide) (fun h => absurd h (by decide)) (fun _ => ?_)
      refine lv_aload_n hx hb dX5_areSeveral_33 rfl (lv_at hl 5 rfl) ?_
      refine va_get (D := D) (ci := 5) (v := .ref mP) (C := RX5) (T := TX5) (N := 17) hx hb hts k_2 hown hK.1 hP 0 rfl rfl 0 (by decide) k_1 (fun _ h9 => h9) rfl dX5_areSeveral_34 ?_
      refine lv_iconst (v := 3) hx hb dX5_areSeveral_37 (by decide) ?_
      refine lv_aload_n hx hb dX5_areSeveral_38 rfl (lv_at hl 5 rfl) ?_
      refine va_get (D := D) (ci := 5) (v := .ref mV) (C := RX5) (T := TX5) (N := 17) hx hb hts k_2 hown hK.1 hP 0 rfl rfl 7 (by decide) k_3 (fun _ h9 => h9) rfl dX5_areSeveral_39 ?_
      refine lv_iload_n hx hb dX5_areSeveral_42 rfl (lv_at hl 3 rfl) ?_
      refine ld_i hx hb hK.1 hP 2 0 rfl rfl (ix_lit (by decide)) 4 (by decide) (v := gv 4) rfl dX5_areSeveral_43 ?_
      refine lv_imul hx hb dX5_areSeveral_44 ?_
      refine lv_iload hx hb dX5_areSeveral_45 (lv_at hl 0 rfl) ?_
      refine lv_iadd hx hb dX5_areSeveral_47 ?_
      refine ld_i hx hb hK.1 hP 1 0 rfl rfl (ix3l (hv 4 (by decide)) 2 (by decide)) (((3 * (gv 4)) + 2).toNatClampNeg) rfl (v := gp (((3 * (gv 4)) + 2).toNatClampNeg)) rfl dX5_areSeveral_48 ?_
      refine lv_aload_n hx hb dX5_areSeveral_49 rfl (lv_at hl 5 rfl) ?_
      refine va_get (D := D) (ci := 5) (v := .ref mP) (C := RX5) (T := TX5) (N := 17) hx hb hts k_2 hown hK.1 hP 0 rfl rfl 0 (by decide) k_1 (fun _ h9 => h9) rfl dX5_areSeveral_50 ?_
      refine lv_iconst (v := 3) hx hb dX5_areSeveral_53 (by decide) ?_
      refine lv_aload_n hx hb dX5_areSeveral_54 rfl (lv_at hl 5 rfl) ?_
      refine va_get (D := D) (ci := 5) (v := .ref mV) (C := RX5) (T := TX5) (N := 17) hx hb hts k_2 hown hK.1 hP 0 rfl rfl 7 (by decide) k_3 (fun _ h9 => h9) rfl dX5_areSeveral_55 ?_
      refine lv_iload_n hx hb dX5_areSeveral_58 rfl (lv_at hl 2 rfl) ?_
      refine ld_i hx hb hK.1 hP 2 0 rfl rfl (ix_lit (by decide)) 2 (by decide) (v := gv 2) rfl dX5_areSeveral_59 ?_
      refine lv_imul hx hb dX5_areSeveral_60 ?_
      refine lv_iload hx hb dX5_areSeveral_61 (lv_at hl 0 rfl) ?_
      refine lv_iadd hx hb dX5_areSeveral_63 ?_
      refine ld_i hx hb hK.1 hP 1 0 rfl rfl (ix3l (hv 2 (by decide)) 2 (by decide)) (((3 * (gv 2)) + 2).toNatClampNeg) rfl (v := gp (((3 * (gv 2)) + 2).toNatClampNeg)) rfl dX5_areSeveral_64 ?_
      refine lv_icmp_ne (tgt := 72) hx hb dX5_areSeveral_65 (by decide) (fun c_40 => ?_) (fun c_40 => ?_)
      · skip
        refine lv_iconst (v := 0) hx hb dX5_areSeveral_72 (by decide) ?_
        refine lv_istore (lv' := [(4, .int 0), (5, .int 2), (3, .int 2), (2, .int 4), (1, .int 0), (0, .ref o)]) hx hb dX5_areSeveral_73 hl (by decide) rfl (fun ls hl => ?_)
        refine lv_iinc (v := 3) (lv' := [(5, .int 3), (4, .int 0), (3, .int 2), (2, .int 4), (1, .int 0), (0, .ref o)]) hx hb dX5_areSeveral_75 hl (k := 1) rfl (by decide) (by decide) rfl (fun ls hl => ?_)
        refine lv_goto (tgt := 22) hx hb dX5_areSeveral_78 (by decide) ?_
        refine lv_iload hx hb dX5_areSeveral_22 (lv_at hl 0 rfl) ?_
        refine lv_iconst (v := 3) hx hb dX5_areSeveral_24 (by decide) ?_
        refine lv_icmp_ge (tgt := 81) hx hb dX5_areSeveral_25 (by decide) (fun _ => ?_) (fun h => absurd (by decide) h)
        refine lv_iload_n hx hb dX5_areSeveral_81 rfl (lv_at hl 4 rfl) ?_
        refine lv_if_ne (tgt := 90) hx hb dX5_areSeveral_82 (by decide) (fun h => absurd (by decide) h) (fun _ => ?_)
        refine lv_iload hx hb dX5_areSeveral_85 (lv_at hl 1 rfl) ?_
        refine lv_if_eq (tgt := 94) hx hb dX5_areSeveral_87 (by decide) (fun _ => ?_) (fun h => absurd (by decide) h)
        refine lv_iconst (v := 0) hx hb dX5_areSeveral_94 (by decide) ?_
        refine lv_istore_n (lv' := [(1, .int 0), (5, .int 3), (4, .int 0), (3, .int 2), (2, .int 4), (0, .ref o)]) hx hb dX5_areSeveral_95 rfl hl (by decide) rfl (fun ls hl => ?_)
        have hq1 : z5_areSeveral_j12 gp gv = z5_areSeveral_j13 gp gv := by unfold z5_areSeveral_j12; rw [if_pos c_38, if_pos c_39, if_neg c_40]
        have hq : z5_areSeveral gp gv = z5_areSeveral_j13 gp gv := hj_27.symm.trans hq1
        exact jo_X5_areSeveral_28 hv hx hb hr hml hown hts hlk hP hK hq.symm ls (lv_sub hl [3, 4, 0, 5] rfl)
      · skip
        refine lv_iconst (v := 1) hx hb dX5_areSeveral_68 (by decide) ?_
        refine lv_goto (tgt := 73) hx hb dX5_areSeveral_69 (by decide) ?_
        refine lv_istore (lv' := [(4, .int 1), (5, .int 2), (3, .int 2), (2, .int 4), (1, .int 0), (0, .ref o)]) hx hb dX5_areSeveral_73 hl (by decide) rfl (fun ls hl => ?_)
        refine lv_iinc (v := 3) (lv' := [(5, .int 3), (4, .int 1), (3, .int 2), (2, .int 4), (1, .int 0), (0, .ref o)]) hx hb dX5_areSeveral_75 hl (k := 1) rfl (by decide) (by decide) rfl (fun ls hl => ?_)
        refine lv_goto (tgt := 22) hx hb dX5_areSeveral_78 (by decide) ?_
        refine lv_iload hx hb dX5_areSeveral_22 (lv_at hl 0 rfl) ?_
        refine lv_iconst (v := 3) hx hb dX5_areSeveral_24 (by decide) ?_
        refine lv_icmp_ge (tgt := 81) hx hb dX5_areSeveral_25 (by decide) (fun _ => ?_) (fun h => absurd (by decide) h)
        refine lv_iload_n hx hb dX5_areSeveral_81 rfl (lv_at hl 4 rfl) ?_
        refine lv_if_ne (tgt := 90) hx hb dX5_areSeveral_82 (by decide) (fun h => absurd (by decide) h) (fun _ => ?_)
        refine lv_iload hx hb dX5_areSeveral_85 (lv_at hl 1 rfl) ?_
        refine lv_if_eq (tgt := 94) hx hb dX5_areSeveral_87 (by decide) (fun h => absurd h (by decide)) (fun _ => ?_)
        refine lv_iconst (v := 1) hx hb dX5_areSeveral_90 (by decide) ?_
        refine lv_goto (tgt := 95) hx hb dX5_areSeveral_91 (by decide) ?_
        refine lv_istore_n (lv' := [(1, .int 1), (5, .int 3), (4, .int 1), (3, .int 2), (2, .int 4), (0, .ref o)]) hx hb dX5_areSeveral_95 rfl hl (by decide) rfl (fun ls hl => ?_)
        have hq1 : z5_areSeveral_j12 gp gv = 1 := by unfold z5_areSeveral_j12; rw [if_pos c_38, if_pos c_39, if_pos c_40]
        have hq : z5_areSeveral gp gv = 1 := hj_27.symm.trans hq1
        exact jo_X5_areSeveral_3 hv hx hb hr hml hown hts hlk hP hK hq ls (lv_sub hl [5, 0, 4, 3] rfl)
set_option maxHeartbeats 4000000 in
set_option maxRecDepth 100000 in
theorem jo_X5_areSeveral_26 {l : Launch} {D : va_G} {cI cJ : ClassId} {pG : Program} {eG : Env} {sG : State} {mG : MethodId} {below : List Frame} {meth : Method} {cG : Code} {o : Nat} {mP : Nat} {mL : Nat} {mC : Nat} {mN : Nat} {mF : Nat} {mR : Nat} {mD : Nat} {mV : Nat} {mX : Nat} {mA : Nat} {mK : Nat} {mT : Nat} {mU : Nat} {mH : Nat} {mI : Nat} {cm : Int32} {pm : Int32} {gp : Nat → Int32} {gv : Nat → Int32} (hv : ∀ n, n < 5 → ok_i (gv n)) (hx : pG.tables.exec = Jvm.exec) (hb : cG.code = cX5_areSeveral) (hr : meth.sig.returnType = some .boolean) (hml : cG.maxLocals = 7) (hown : sG.vm.findClass RX5 = some mG.cls) (hts : ∀ x ∈ wsX5_areSeveral, x.before ([.ref o] : List Value).toArray sG = true) (hlk : meth.locks = false) (hP : va_P D vwCl [kM o mP mL mC mN mF mR mD mV mX mA mK cm mT pm mU mH mI, kA mP cI 180 gp, kA mV cI 5 gv] sG.heap) (hK : gd_K D cI cJ sG) (hj_26 : z5_areSeveral_j11 gp gv = z5_areSeveral gp gv) (ls : Array Slot) (hl : lv_has ls 7 [(3, .int 0), (2, .int 4), (1, .int 0), (0, .ref o)]) : W pG l eG (headSpec wsX5_areSeveral ({ frames := 1, cells := 0, slots := 0, locals := 30 })).room sG mG ([.ref o] : List Value).toArray below meth cG sG.heap [] 0 0 (MQ below (vp_Si (fun r : Int32 => r = z5_areSeveral gp gv)) ([.ref o] : List Value).toArray sG 0 0 (fun _ => False)) (F0 mG 96 ls []) := by
  have k_1 := hts (.fieldLink RX5 7 "ConicRowsModel" "points" "[I") (by decide +kernel)
  have k_2 : ∀ w ∈ wsX50, w ∈ wsX5_areSeveral := by decide +kernel
  have k_3 := hts (.fieldLink RX5 32 "ConicRowsModel" "five" "[I") (by decide +kernel)
  refine lv_iinc (v := 1) (lv' := [(3, .int 1), (2, .int 4), (1, .int 0), (0, .ref o)]) hx hb dX5_areSeveral_96 hl (k := 0) rfl (by decide) (by decide) rfl (fun ls hl => ?_)
  refine lv_goto (tgt := 11) hx hb dX5_areSeveral_99 (by decide) ?_
  refine lv_iload_n hx hb dX5_areSeveral_11 rfl (lv_at hl 0 rfl) ?_
  refine lv_iload_n hx hb dX5_areSeveral_12 rfl (lv_at hl 1 rfl) ?_
  refine lv_icmp_ge (tgt := 102) hx hb dX5_areSeveral_13 (by decide) (fun h => absurd h (by decide)) (fun _ => ?_)
  refine lv_iconst (v := 1) hx hb dX5_areSeveral_16 (by decide) ?_
  refine lv_istore (lv' := [(4, .int 1), (3, .int 1), (2, .int 4), (1, .int 0), (0, .ref o)]) hx hb dX5_areSeveral_17 hl (by decide) rfl (fun ls hl => ?_)
  refine lv_iconst (v := 0) hx hb dX5_areSeveral_19 (by decide) ?_
  refine lv_istore (lv' := [(5, .int 0), (4, .int 1), (3, .int 1), (2, .int 4), (1, .int 0), (0, .ref o)]) hx hb dX5_areSeveral_20 hl (by decide) rfl (fun ls hl => ?_)
  refine lv_iload hx hb dX5_areSeveral_22 (lv_at hl 0 rfl) ?_
  refine lv_iconst (v := 3) hx hb dX5_areSeveral_24 (by decide) ?_
  refine lv_icmp_ge (tgt := 81) hx hb dX5_areSeveral_25 (by decide) (fun h => absurd h (by decide)) (fun _ => ?_)
  refine lv_iload hx hb dX5_areSeveral_28 (lv_at hl 1 rfl) ?_
  refine lv_if_eq (tgt := 72) hx hb dX5_areSeveral_30 (by decide) (fun h => absurd h (by decide)) (fun _ => ?_)
  refine lv_aload_n hx hb dX5_areSeveral_33 rfl (lv_at hl 5 rfl) ?_
  refine va_get (D := D) (ci := 5) (v := .ref mP) (C := RX5) (T := TX5) (N := 17) hx hb hts k_2 hown hK.1 hP 0 rfl rfl 0 (by decide) k_1 (fun _ h9 => h9) rfl dX5_areSeveral_34 ?_
  refine lv_iconst (v := 3) hx hb dX5_areSeveral_37 (by decide) ?_
  refine lv_aload_n hx hb dX5_areSeveral_38 rfl (lv_at hl 5 rfl) ?_
  refine va_get (D := D) (ci := 5) (v := .ref mV) (C := RX5) (T := TX5) (N := 17) hx hb hts k_2 hown hK.1 hP 0 rfl rfl 7 (by decide) k_3 (fun _ h9 => h9) rfl dX5_areSeveral_39 ?_
  refine lv_iload_n hx hb dX5_areSeveral_42 rfl (lv_at hl 3 rfl) ?_
  refine ld_i hx hb hK.1 hP 2 0 rfl rfl (ix_lit (by decide)) 4 (by decide) (v := gv 4) rfl dX5_areSeveral_43 ?_
  refine lv_imul hx hb dX5_areSeveral_44 ?_
  refine lv_iload hx hb dX5_areSeveral_45 (lv_at hl 0 rfl) ?_
  refine lv_iadd hx hb dX5_areSeveral_47 ?_
  refine ld_i hx hb hK.1 hP 1 0 rfl rfl (ix3l (hv 4 (by decide)) 0 (by decide)) (((3 * (gv 4)) + 0).toNatClampNeg) rfl (v := gp (((3 * (gv 4)) + 0).toNatClampNeg)) rfl dX5_areSeveral_48 ?_
  refine lv_aload_n hx hb dX5_areSeveral_49 rfl (lv_at hl 5 rfl) ?_
  refine va_get (D := D) (ci := 5) (v := .ref mP) (C := RX5) (T := TX5) (N := 17) hx hb hts k_2 hown hK.1 hP 0 rfl rfl 0 (by decide) k_1 (fun _ h9 => h9) rfl dX5_areSeveral_50 ?_
  refine lv_iconst (v := 3) hx hb dX5_areSeveral_53 (by decide) ?_
  refine lv_aload_n hx hb dX5_areSeveral_54 rfl (lv_at hl 5 rfl) ?_
  refine va_get (D := D) (ci := 5) (v := .ref mV) (C := RX5) (T := TX5) (N := 17) hx hb hts k_2 hown hK.1 hP 0 rfl rfl 7 (by decide) k_3 (fun _ h9 => h9) rfl dX5_areSeveral_55 ?_
  refine lv_iload_n hx hb dX5_areSeveral_58 rfl (lv_at hl 2 rfl) ?_
  refine ld_i hx hb hK.1 hP 2 0 rfl rfl (ix_lit (by decide)) 1 (by decide) (v := gv 1) rfl dX5_areSeveral_59 ?_
  refine lv_imul hx hb dX5_areSeveral_60 ?_
  refine lv_iload hx hb dX5_areSeveral_61 (lv_at hl 0 rfl) ?_
  refine lv_iadd hx hb dX5_areSeveral_63 ?_
  refine ld_i hx hb hK.1 hP 1 0 rfl rfl (ix3l (hv 1 (by decide)) 0 (by decide)) (((3 * (gv 1)) + 0).toNatClampNeg) rfl (v := gp (((3 * (gv 1)) + 0).toNatClampNeg)) rfl dX5_areSeveral_64 ?_
  refine lv_icmp_ne (tgt := 72) hx hb dX5_areSeveral_65 (by decide) (fun c_41 => ?_) (fun c_41 => ?_)
  · skip
    refine lv_iconst (v := 0) hx hb dX5_areSeveral_72 (by decide) ?_
    refine lv_istore (lv' := [(4, .int 0), (5, .int 0), (3, .int 1), (2, .int 4), (1, .int 0), (0, .ref o)]) hx hb dX5_areSeveral_73 hl (by decide) rfl (fun ls hl => ?_)
    refine lv_iinc (v := 1) (lv' := [(5, .int 1), (4, .int 0), (3, .int 1), (2, .int 4), (1, .int 0), (0, .ref o)]) hx hb dX5_areSeveral_75 hl (k := 1) rfl (by decide) (by decide) rfl (fun ls hl => ?_)
    refine lv_goto (tgt := 22) hx hb dX5_areSeveral_78 (by decide) ?_
    refine lv_iload hx hb dX5_areSeveral_22 (lv_at hl 0 rfl) ?_
    refine lv_iconst (v := 3) hx hb dX5_areSeveral_24 (by decide) ?_
    refine lv_icmp_ge (tgt := 81) hx hb dX5_areSeveral_25 (by decide) (fun h => absurd h (by decide)) (fun _ => ?_)
    refine lv_iload hx hb dX5_areSeveral_28 (lv_at hl 1 rfl) ?_
    refine lv_if_eq (tgt := 72) hx hb dX5_areSeveral_30 (by decide) (fun _ => ?_) (fun h => absurd (by decide) h)
    refine lv_iconst (v := 0) hx hb dX5_areSeveral_72 (by decide) ?_
    refine lv_istore (lv' := [(4, .int 0), (5, .int 1), (3, .int 1), (2, .int 4), (1, .int 0), (0, .ref o)]) hx hb dX5_areSeveral_73 hl (by decide) rfl (fun ls hl => ?_)
    refine lv_iinc (v := 2) (lv' := [(5, .int 2), (4, .int 0), (3, .int 1), (2, .int 4), (1, .int 0), (0, .ref o)]) hx hb dX5_areSeveral_75 hl (k := 1) rfl (by decide) (by decide) rfl (fun ls hl => ?_)
    refine lv_goto (tgt := 22) hx hb dX5_areSeveral_78 (by decide) ?_
    refine lv_iload hx hb dX5_areSeveral_22 (lv_at hl 0 rfl) ?_
    refine lv_iconst (v := 3) hx hb dX5_areSeveral_24 (by decide) ?_
    refine lv_icmp_ge (tgt := 81) hx hb dX5_areSeveral_25 (by decide) (fun h => absurd h (by decide)) (fun _ => ?_)
    refine lv_iload hx hb dX5_areSeveral_28 (lv_at hl 1 rfl) ?_
    refine lv_if_eq (tgt := 72) hx hb dX5_areSeveral_30 (by decide) (fun _ => ?_) (fun h => absurd (by decide) h)
    refine lv_iconst (v := 0) hx hb dX5_areSeveral_72 (by decide) ?_
    refine lv_istore (lv' := [(4, .int 0), (5, .int 2), (3, .int 1), (2, .int 4), (1, .int 0), (0, .ref o)]) hx hb dX5_areSeveral_73 hl (by decide) rfl (fun ls hl => ?_)
    refine lv_iinc (v := 3) (lv' := [(5, .int 3), (4, .int 0), (3, .int 1), (2, .int 4), (1, .int 0), (0, .ref o)]) hx hb dX5_areSeveral_75 hl (k := 1) rfl (by decide) (by decide) rfl (fun ls hl => ?_)
    refine lv_goto (tgt := 22) hx hb dX5_areSeveral_78 (by decide) ?_
    refine lv_iload hx hb dX5_areSeveral_22 (lv_at hl 0 rfl) ?_
    refine lv_iconst (v := 3) hx hb dX5_areSeveral_24 (by decide) ?_
    refine lv_icmp_ge (tgt := 81) hx hb dX5_areSeveral_25 (by decide) (fun _ => ?_) (fun h => absurd (by decide) h)
    refine lv_iload_n hx hb dX5_areSeveral_81 rfl (lv_at hl 4 rfl) ?_
    refine lv_if_ne (tgt := 90) hx hb dX5_areSeveral_82 (by decide) (fun h => absurd (by decide) h) (fun _ => ?_)
    refine lv_iload hx hb dX5_areSeveral_85 (lv_at hl 1 rfl) ?_
    refine lv_if_eq (tgt := 94) hx hb dX5_areSeveral_87 (by decide) (fun _ => ?_) (fun h => absurd (by decide) h)
    refine lv_iconst (v := 0) hx hb dX5_areSeveral_94 (by decide) ?_
    refine lv_istore_n (lv' := [(1, .int 0), (5, .int 3), (4, .int 0), (3, .int 1), (2, .int 4), (0, .ref o)]) hx hb dX5_areSeveral_95 rfl hl (by decide) rfl (fun ls hl => ?_)
    have hq1 : z5_areSeveral_j11 gp gv = z5_areSeveral_j12 gp gv := by unfold z5_areSeveral_j11; rw [if_neg c_41]
    have hq : z5_areSeveral gp gv = z5_areSeveral_j12 gp gv := hj_26.symm.trans hq1
    exact jo_X5_areSeveral_27 hv hx hb hr hml hown hts hlk hP hK hq.symm ls (lv_sub hl [3, 4, 0, 5] rfl)
  · skip
    refine lv_iconst (v := 1) hx hb dX5_areSeveral_68 (by decide) ?_
    refine lv_goto (tgt := 73) hx hb dX5_areSeveral_69 (by decide) ?_
    refine lv_istore (lv' := [(4, .int 1), (5, .int 0), (3, .int 1), (2, .int 4), (1, .int 0), (0, .ref o)]) hx hb dX5_areSeveral_73 hl (by decide) rfl (fun ls hl => ?_)
    refine lv_iinc (v := 1) (lv' := [(5, .int 1), (4, .int 1), (3, .int 1), (2, .int 4), (1, .int 0), (0, .ref o)]) hx hb dX5_areSeveral_75 hl (k := 1) rfl (by decide) (by decide) rfl (fun ls hl => ?_)
    refine lv_goto (tgt := 22) hx hb dX5_areSeveral_78 (by decide) ?_
    refine lv_iload hx hb dX5_areSeveral_22 (lv_at hl 0 rfl) ?_
    refine lv_iconst (v := 3) hx hb dX5_areSeveral_24 (by decide) ?_
    refine lv_icmp_ge (tgt := 81) hx hb dX5_areSeveral_25 (by decide) (fun h => absurd h (by decide)) (fun _ => ?_)
    refine lv_iload hx hb dX5_areSeveral_28 (lv_at hl 1 rfl) ?_
    refine lv_if_eq (tgt := 72) hx hb dX5_areSeveral_30 (by decide) (fun h => absurd h (by decide)) (fun _ => ?_)
    refine lv_aload_n hx hb dX5_areSeveral_33 rfl (lv_at hl 5 rfl) ?_
    refine va_get (D := D) (ci := 5) (v := .ref mP) (C := RX5) (T := TX5) (N := 17) hx hb hts k_2 hown hK.1 hP 0 rfl rfl 0 (by decide) k_1 (fun _ h9 => h9) rfl dX5_areSeveral_34 ?_
    refine lv_iconst (v := 3) hx hb dX5_areSeveral_37 (by decide) ?_
    refine lv_aload_n hx hb dX5_areSeveral_38 rfl (lv_at hl 5 rfl) ?_
    refine va_get (D := D) (ci := 5) (v := .ref mV) (C := RX5) (T := TX5) (N := 17) hx hb hts k_2 hown hK.1 hP 0 rfl rfl 7 (by decide) k_3 (fun _ h9 => h9) rfl dX5_areSeveral_39 ?_
    refine lv_iload_n hx hb dX5_areSeveral_42 rfl (lv_at hl 3 rfl) ?_
    refine ld_i hx hb hK.1 hP 2 0 rfl rfl (ix_lit (by decide)) 4 (by decide) (v := gv 4) rfl dX5_areSeveral_43 ?_
    refine lv_imul hx hb dX5_areSeveral_44 ?_
    refine lv_iload hx hb dX5_areSeveral_45 (lv_at hl 0 rfl) ?_
    refine lv_iadd hx hb dX5_areSeveral_47 ?_
    refine ld_i hx hb hK.1 hP 1 0 rfl rfl (ix3l (hv 4 (by decide)) 1 (by decide)) (((3 * (gv 4)) + 1).toNatClampNeg) rfl (v := gp (((3 * (gv 4)) + 1).toNatClampNeg)) rfl dX5_areSeveral_48 ?_
    refine lv_aload_n hx hb dX5_areSeveral_49 rfl (lv_at hl 5 rfl) ?_
    refine va_get (D := D) (ci := 5) (v := .ref mP) (C := RX5) (T := TX5) (N := 17) hx hb hts k_2 hown hK.1 hP 0 rfl rfl 0 (by decide) k_1 (fun _ h9 => h9) rfl dX5_areSeveral_50 ?_
    refine lv_iconst (v := 3) hx hb dX5_areSeveral_53 (by decide) ?_
    refine lv_aload_n hx hb dX5_areSeveral_54 rfl (lv_at hl 5 rfl) ?_
    refine va_get (D := D) (ci := 5) (v := .ref mV) (C := RX5) (T := TX5) (N := 17) hx hb hts k_2 hown hK.1 hP 0 rfl rfl 7 (by decide) k_3 (fun _ h9 => h9) rfl dX5_areSeveral_55 ?_
    refine lv_iload_n hx hb dX5_areSeveral_58 rfl (lv_at hl 2 rfl) ?_
    refine ld_i hx hb hK.1 hP 2 0 rfl rfl (ix_lit (by decide)) 1 (by decide) (v := gv 1) rfl dX5_areSeveral_59 ?_
    refine lv_imul hx hb dX5_areSeveral_60 ?_
    refine lv_iload hx hb dX5_areSeveral_61 (lv_at hl 0 rfl) ?_
    refine lv_iadd hx hb dX5_areSeveral_63 ?_
    refine ld_i hx hb hK.1 hP 1 0 rfl rfl (ix3l (hv 1 (by decide)) 1 (by decide)) (((3 * (gv 1)) + 1).toNatClampNeg) rfl (v := gp (((3 * (gv 1)) + 1).toNatClampNeg)) rfl dX5_areSeveral_64 ?_
    refine lv_icmp_ne (tgt := 72) hx hb dX5_areSeveral_65 (by decide) (fun c_42 => ?_) (fun c_42 => ?_)
    · skip
      refine lv_iconst (v := 0) hx hb dX5_areSeveral_72 (by decide) ?_
      refine lv_istore (lv' := [(4, .int 0), (5, .int 1), (3, .int 1), (2, .int 4), (1, .int 0), (0, .ref o)]) hx hb dX5_areSeveral_73 hl (by decide) rfl (fun ls hl => ?_)
      refine lv_iinc (v := 2) (lv' := [(5, .int 2), (4, .int 0), (3, .int 1), (2, .int 4), (1, .int 0), (0, .ref o)]) hx hb dX5_areSeveral_75 hl (k := 1) rfl (by decide) (by decide) rfl (fun ls hl => ?_)
      refine lv_goto (tgt := 22) hx hb dX5_areSeveral_78 (by decide) ?_
      refine lv_iload hx hb dX5_areSeveral_22 (lv_at hl 0 rfl) ?_
      refine lv_iconst (v := 3) hx hb dX5_areSeveral_24 (by decide) ?_
      refine lv_icmp_ge (tgt := 81) hx hb dX5_areSeveral_25 (by decide) (fun h => absurd h (by decide)) (fun _ => ?_)
      refine lv_iload hx hb dX5_areSeveral_28 (lv_at hl 1 rfl) ?_
      refine lv_if_eq (tgt := 72) hx hb dX5_areSeveral_30 (by decide) (fun _ => ?_) (fun h => absurd (by decide) h)
      refine lv_iconst (v := 0) hx hb dX5_areSeveral_72 (by decide) ?_
      refine lv_istore (lv' := [(4, .int 0), (5, .int 2), (3, .int 1), (2, .int 4), (1, .int 0), (0, .ref o)]) hx hb dX5_areSeveral_73 hl (by decide) rfl (fun ls hl => ?_)
      refine lv_iinc (v := 3) (lv' := [(5, .int 3), (4, .int 0), (3, .int 1), (2, .int 4), (1, .int 0), (0, .ref o)]) hx hb dX5_areSeveral_75 hl (k := 1) rfl (by decide) (by decide) rfl (fun ls hl => ?_)
      refine lv_goto (tgt := 22) hx hb dX5_areSeveral_78 (by decide) ?_
      refine lv_iload hx hb dX5_areSeveral_22 (lv_at hl 0 rfl) ?_
      refine lv_iconst (v := 3) hx hb dX5_areSeveral_24 (by decide) ?_
      refine lv_icmp_ge (tgt := 81) hx hb dX5_areSeveral_25 (by decide) (fun _ => ?_) (fun h => absurd (by decide) h)
      refine lv_iload_n hx hb dX5_areSeveral_81 rfl (lv_at hl 4 rfl) ?_
      refine lv_if_ne (tgt := 90) hx hb dX5_areSeveral_82 (by decide) (fun h => absurd (by decide) h) (fun _ => ?_)
      refine lv_iload hx hb dX5_areSeveral_85 (lv_at hl 1 rfl) ?_
      refine lv_if_eq (tgt := 94) hx hb dX5_areSeveral_87 (by decide) (fun _ => ?_) (fun h => absurd (by decide) h)
      refine lv_iconst (v := 0) hx hb dX5_areSeveral_94 (by decide) ?_
      refine lv_istore_n (lv' := [(1, .int 0), (5, .int 3), (4, .int 0), (3, .int 1), (2, .int 4), (0, .ref o)]) hx hb dX5_areSeveral_95 rfl hl (by decide) rfl (fun ls hl => ?_)
      have hq1 : z5_areSeveral_j11 gp gv = z5_areSeveral_j12 gp gv := by unfold z5_areSeveral_j11; rw [if_pos c_41, if_neg c_42]
      have hq : z5_areSeveral gp gv = z5_areSeveral_j12 gp gv := hj_26.symm.trans hq1
      exact jo_X5_areSeveral_27 hv hx hb hr hml hown hts hlk hP hK hq.symm ls (lv_sub hl [3, 4, 0, 5] rfl)
    · skip
      refine lv_iconst (v := 1) hx hb dX5_areSeveral_68 (by decide) ?_
      refine lv_goto (tgt := 73) hx hb dX5_areSeveral_69 (by decide) ?_
      refine lv_istore (lv' := [(4, .int 1), (5, .int 1), (3, .int 1), (2, .int 4), (1, .int 0), (0, .ref o)]) hx hb dX5_areSeveral_73 hl (by decide) rfl (fun ls hl => ?_)
      refine lv_iinc (v := 2) (lv' := [(5, .int 2), (4, .int 1), (3, .int 1), (2, .int 4), (1, .int 0), (0, .ref o)]) hx hb dX5_areSeveral_75 hl (k := 1) rfl (by decide) (by decide) rfl (fun ls hl => ?_)
      refine lv_goto (tgt := 22) hx hb dX5_areSeveral_78 (by decide) ?_
      refine lv_iload hx hb dX5_areSeveral_22 (lv_at hl 0 rfl) ?_
      refine lv_iconst (v := 3) hx hb dX5_areSeveral_24 (by decide) ?_
      refine lv_icmp_ge (tgt := 81) hx hb dX5_areSeveral_25 (by decide) (fun h => absurd h (by decide)) (fun _ => ?_)
      refine lv_iload hx hb dX5_areSeveral_28 (lv_at hl 1 rfl) ?_
      refine lv_if_eq (tgt := 72) hx hb dX5_areSeveral_30 (by decide) (fun h => absurd h (by decide)) (fun _ => ?_)
      refine lv_aload_n hx hb dX5_areSeveral_33 rfl (lv_at hl 5 rfl) ?_
      refine va_get (D := D) (ci := 5) (v := .ref mP) (C := RX5) (T := TX5) (N := 17) hx hb hts k_2 hown hK.1 hP 0 rfl rfl 0 (by decide) k_1 (fun _ h9 => h9) rfl dX5_areSeveral_34 ?_
      refine lv_iconst (v := 3) hx hb dX5_areSeveral_37 (by decide) ?_
      refine lv_aload_n hx hb dX5_areSeveral_38 rfl (lv_at hl 5 rfl) ?_
      refine va_get (D := D) (ci := 5) (v := .ref mV) (C := RX5) (T := TX5) (N := 17) hx hb hts k_2 hown hK.1 hP 0 rfl rfl 7 (by decide) k_3 (fun _ h9 => h9) rfl dX5_areSeveral_39 ?_
      refine lv_iload_n hx hb dX5_areSeveral_42 rfl (lv_at hl 3 rfl) ?_
      refine ld_i hx hb hK.1 hP 2 0 rfl rfl (ix_lit (by decide)) 4 (by decide) (v := gv 4) rfl dX5_areSeveral_43 ?_
      refine lv_imul hx hb dX5_areSeveral_44 ?_
      refine lv_iload hx hb dX5_areSeveral_45 (lv_at hl 0 rfl) ?_
      refine lv_iadd hx hb dX5_areSeveral_47 ?_
      refine ld_i hx hb hK.1 hP 1 0 rfl rfl (ix3l (hv 4 (by decide)) 2 (by decide)) (((3 * (gv 4)) + 2).toNatClampNeg) rfl (v := gp (((3 * (gv 4)) + 2).toNatClampNeg)) rfl dX5_areSeveral_48 ?_
      refine lv_aload_n hx hb dX5_areSeveral_49 rfl (lv_at hl 5 rfl) ?_
      refine va_get (D := D) (ci := 5) (v := .ref mP) (C := RX5) (T := TX5) (N := 17) hx hb hts k_2 hown hK.1 hP 0 rfl rfl 0 (by decide) k_1 (fun _ h9 => h9) rfl dX5_areSeveral_50 ?_
      refine lv_iconst (v := 3) hx hb dX5_areSeveral_53 (by decide) ?_
      refine lv_aload_n hx hb dX5_areSeveral_54 rfl (lv_at hl 5 rfl) ?_
      refine va_get (D := D) (ci := 5) (v := .ref mV) (C := RX5) (T := TX5) (N := 17) hx hb hts k_2 hown hK.1 hP 0 rfl rfl 7 (by decide) k_3 (fun _ h9 => h9) rfl dX5_areSeveral_55 ?_
      refine lv_iload_n hx hb dX5_areSeveral_58 rfl (lv_at hl 2 rfl) ?_
      refine ld_i hx hb hK.1 hP 2 0 rfl rfl (ix_lit (by decide)) 1 (by decide) (v := gv 1) rfl dX5_areSeveral_59 ?_
      refine lv_imul hx hb dX5_areSeveral_60 ?_
      refine lv_iload hx hb dX5_areSeveral_61 (lv_at hl 0 rfl) ?_
      refine lv_iadd hx hb dX5_areSeveral_63 ?_
      refine ld_i hx hb hK.1 hP 1 0 rfl rfl (ix3l (hv 1 (by decide)) 2 (by decide)) (((3 * (gv 1)) + 2).toNatClampNeg) rfl (v := gp (((3 * (gv 1)) + 2).toNatClampNeg)) rfl dX5_areSeveral_64 ?_
      refine lv_icmp_ne (tgt := 72) hx hb dX5_areSeveral_65 (by decide) (fun c_43 => ?_) (fun c_43 => ?_)
      · skip
        refine lv_iconst (v := 0) hx hb dX5_areSeveral_72 (by decide) ?_
        refine lv_istore (lv' := [(4, .int 0), (5, .int 2), (3, .int 1), (2, .int 4), (1, .int 0), (0, .ref o)]) hx hb dX5_areSeveral_73 hl (by decide) rfl (fun ls hl => ?_)
        refine lv_iinc (v := 3) (lv' := [(5, .int 3), (4, .int 0), (3, .int 1), (2, .int 4), (1, .int 0), (0, .ref o)]) hx hb dX5_areSeveral_75 hl (k := 1) rfl (by decide) (by decide) rfl (fun ls hl => ?_)
        refine lv_goto (tgt := 22) hx hb dX5_areSeveral_78 (by decide) ?_
        refine lv_iload hx hb dX5_areSeveral_22 (lv_at hl 0 rfl) ?_
        refine lv_iconst (v := 3) hx hb dX5_areSeveral_24 (by decide) ?_
        refine lv_icmp_ge (tgt := 81) hx hb dX5_areSeveral_25 (by decide) (fun _ => ?_) (fun h => absurd (by decide) h)
        refine lv_iload_n hx hb dX5_areSeveral_81 rfl (lv_at hl 4 rfl) ?_
        refine lv_if_ne (tgt := 90) hx hb dX5_areSeveral_82 (by decide) (fun h => absurd (by decide) h) (fun _ => ?_)
        refine lv_iload hx hb dX5_areSeveral_85 (lv_at hl 1 rfl) ?_
        refine lv_if_eq (tgt := 94) hx hb dX5_areSeveral_87 (by decide) (fun _ => ?_) (fun h => absurd (by decide) h)
        refine lv_iconst (v := 0) hx hb dX5_areSeveral_94 (by decide) ?_
        refine lv_istore_n (lv' := [(1, .int 0), (5, .int 3), (4, .int 0), (3, .int 1), (2, .int 4), (0, .ref o)]) hx hb dX5_areSeveral_95 rfl hl (by decide) rfl (fun ls hl => ?_)
        have hq1 : z5_areSeveral_j11 gp gv = z5_areSeveral_j12 gp gv := by unfold z5_areSeveral_j11; rw [if_pos c_41, if_pos c_42, if_neg c_43]
        have hq : z5_areSeveral gp gv = z5_areSeveral_j12 gp gv := hj_26.symm.trans hq1
        exact jo_X5_areSeveral_27 hv hx hb hr hml hown hts hlk hP hK hq.symm ls (lv_sub hl [3, 4, 0, 5] rfl)
      · skip
        refine lv_iconst (v := 1) hx hb dX5_areSeveral_68 (by decide) ?_
        refine lv_goto (tgt := 73) hx hb dX5_areSeveral_69 (by decide) ?_
        refine lv_istore (lv' := [(4, .int 1), (5, .int 2), (3, .int 1), (2, .int 4), (1, .int 0), (0, .ref o)]) hx hb dX5_areSeveral_73 hl (by decide) rfl (fun ls hl => ?_)
        refine lv_iinc (v := 3) (lv' := [(5, .int 3), (4, .int 1), (3, .int 1), (2, .int 4), (1, .int 0), (0, .ref o)]) hx hb dX5_areSeveral_75 hl (k := 1) rfl (by decide) (by decide) rfl (fun ls hl => ?_)
        refine lv_goto (tgt := 22) hx hb dX5_areSeveral_78 (by decide) ?_
        refine lv_iload hx hb dX5_areSeveral_22 (lv_at hl 0 rfl) ?_
        refine lv_iconst (v := 3) hx hb dX5_areSeveral_24 (by decide) ?_
        refine lv_icmp_ge (tgt := 81) hx hb dX5_areSeveral_25 (by decide) (fun _ => ?_) (fun h => absurd (by decide) h)
        refine lv_iload_n hx hb dX5_areSeveral_81 rfl (lv_at hl 4 rfl) ?_
        refine lv_if_ne (tgt := 90) hx hb dX5_areSeveral_82 (by decide) (fun h => absurd (by decide) h) (fun _ => ?_)
        refine lv_iload hx hb dX5_areSeveral_85 (lv_at hl 1 rfl) ?_
        refine lv_if_eq (tgt := 94) hx hb dX5_areSeveral_87 (by decide) (fun h => absurd h (by decide)) (fun _ => ?_)
        refine lv_iconst (v := 1) hx hb dX5_areSeveral_90 (by decide) ?_
        refine lv_goto (tgt := 95) hx hb dX5_areSeveral_91 (by decide) ?_
        refine lv_istore_n (lv' := [(1, .int 1), (5, .int 3), (4, .int 1), (3, .int 1), (2, .int 4), (0, .ref o)]) hx hb dX5_areSeveral_95 rfl hl (by decide) rfl (fun ls hl => ?_)
        have hq1 : z5_areSeveral_j11 gp gv = 1 := by unfold z5_areSeveral_j11; rw [if_pos c_41, if_pos c_42, if_pos c_43]
        have hq : z5_areSeveral gp gv = 1 := hj_26.symm.trans hq1
        exact jo_X5_areSeveral_4 hv hx hb hr hml hown hts hlk hP hK hq ls (lv_sub hl [5, 0, 4, 3] rfl)
set_option maxHeartbeats 4000000 in
set_option maxRecDepth 100000 in
theorem jo_X5_areSeveral_25 {l : Launch} {D : va_G} {cI cJ : ClassId} {pG : Program} {eG : Env} {sG : State} {mG : MethodId} {below : List Frame} {meth : Method} {cG : Code} {o : Nat} {mP : Nat} {mL : Nat} {mC : Nat} {mN : Nat} {mF : Nat} {mR : Nat} {mD : Nat} {mV : Nat} {mX : Nat} {mA : Nat} {mK : Nat} {mT : Nat} {mU : Nat} {mH : Nat} {mI : Nat} {cm : Int32} {pm : Int32} {gp : Nat → Int32} {gv : Nat → Int32} (hv : ∀ n, n < 5 → ok_i (gv n)) (hx : pG.tables.exec = Jvm.exec) (hb : cG.code = cX5_areSeveral) (hr : meth.sig.returnType = some .boolean) (hml : cG.maxLocals = 7) (hown : sG.vm.findClass RX5 = some mG.cls) (hts : ∀ x ∈ wsX5_areSeveral, x.before ([.ref o] : List Value).toArray sG = true) (hlk : meth.locks = false) (hP : va_P D vwCl [kM o mP mL mC mN mF mR mD mV mX mA mK cm mT pm mU mH mI, kA mP cI 180 gp, kA mV cI 5 gv] sG.heap) (hK : gd_K D cI cJ sG) (hj_25 : z5_areSeveral_j10 gp gv = z5_areSeveral gp gv) (ls : Array Slot) (hl : lv_has ls 7 [(2, .int 3), (1, .int 0), (0, .ref o)]) : W pG l eG (headSpec wsX5_areSeveral ({ frames := 1, cells := 0, slots := 0, locals := 30 })).room sG mG ([.ref o] : List Value).toArray below meth cG sG.heap [] 0 0 (MQ below (vp_Si (fun r : Int32 => r = z5_areSeveral gp gv)) ([.ref o] : List Value).toArray sG 0 0 (fun _ => False)) (F0 mG 196 ls []) := by
  have k_1 := hts (.fieldLink RX5 7 "ConicRowsModel" "points" "[I") (by decide +kernel)
  have k_2 : ∀ w ∈ wsX50, w ∈ wsX5_areSeveral := by decide +kernel
  have k_3 := hts (.fieldLink RX5 32 "ConicRowsModel" "five" "[I") (by decide +kernel)
  refine lv_iinc (v := 4) (lv' := [(2, .int 4), (1, .int 0), (0, .ref o)]) hx hb dX5_areSeveral_196 hl (k := 0) rfl (by decide) (by decide) rfl (fun ls hl => ?_)
  refine lv_goto (tgt := 4) hx hb dX5_areSeveral_199 (by decide) ?_
  refine lv_iload_n hx hb dX5_areSeveral_4 rfl (lv_at hl 0 rfl) ?_
  refine lv_iconst (v := 5) hx hb dX5_areSeveral_5 (by decide) ?_
  refine lv_icmp_ge (tgt := 202) hx hb dX5_areSeveral_6 (by decide) (fun h => absurd h (by decide)) (fun _ => ?_)
  refine lv_iconst (v := 0) hx hb dX5_areSeveral_9 (by decide) ?_
  refine lv_istore_n (lv' := [(3, .int 0), (2, .int 4), (1, .int 0), (0, .ref o)]) hx hb dX5_areSeveral_10 rfl hl (by decide) rfl (fun ls hl => ?_)
  refine lv_iload_n hx hb dX5_areSeveral_11 rfl (lv_at hl 0 rfl) ?_
  refine lv_iload_n hx hb dX5_areSeveral_12 rfl (lv_at hl 1 rfl) ?_
  refine lv_icmp_ge (tgt := 102) hx hb dX5_areSeveral_13 (by decide) (fun h => absurd h (by decide)) (fun _ => ?_)
  refine lv_iconst (v := 1) hx hb dX5_areSeveral_16 (by decide) ?_
  refine lv_istore (lv' := [(4, .int 1), (3, .int 0), (2, .int 4), (1, .int 0), (0, .ref o)]) hx hb dX5_areSeveral_17 hl (by decide) rfl (fun ls hl => ?_)
  refine lv_iconst (v := 0) hx hb dX5_areSeveral_19 (by decide) ?_
  refine lv_istore (lv' := [(5, .int 0), (4, .int 1), (3, .int 0), (2, .int 4), (1, .int 0), (0, .ref o)]) hx hb dX5_areSeveral_20 hl (by decide) rfl (fun ls hl => ?_)
  refine lv_iload hx hb dX5_areSeveral_22 (lv_at hl 0 rfl) ?_
  refine lv_iconst (v := 3) hx hb dX5_areSeveral_24 (by decide) ?_
  refine lv_icmp_ge (tgt := 81) hx hb dX5_areSeveral_25 (by decide) (fun h => absurd h (by decide)) (fun _ => ?_)
  refine lv_iload hx hb dX5_areSeveral_28 (lv_at hl 1 rfl) ?_
  refine lv_if_eq (tgt := 72) hx hb dX5_areSeveral_30 (by decide) (fun h => absurd h (by decide)) (fun _ => ?_)
  refine lv_aload_n hx hb dX5_areSeveral_33 rfl (lv_at hl 5 rfl) ?_
  refine va_get (D := D) (ci := 5) (v := .ref mP) (C := RX5) (T := TX5) (N := 17) hx hb hts k_2 hown hK.1 hP 0 rfl rfl 0 (by decide) k_1 (fun _ h9 => h9) rfl dX5_areSeveral_34 ?_
  refine lv_iconst (v := 3) hx hb dX5_areSeveral_37 (by decide) ?_
  refine lv_aload_n hx hb dX5_areSeveral_38 rfl (lv_at hl 5 rfl) ?_
  refine va_get (D := D) (ci := 5) (v := .ref mV) (C := RX5) (T := TX5) (N := 17) hx hb hts k_2 hown hK.1 hP 0 rfl rfl 7 (by decide) k_3 (fun _ h9 => h9) rfl dX5_areSeveral_39 ?_
  refine lv_iload_n hx hb dX5_areSeveral_42 rfl (lv_at hl 3 rfl) ?_
  refine ld_i hx hb hK.1 hP 2 0 rfl rfl (ix_lit (by decide)) 4 (by decide) (v := gv 4) rfl dX5_areSeveral_43 ?_
  refine lv_imul hx hb dX5_areSeveral_44 ?_
  refine lv_iload hx hb dX5_areSeveral_45 (lv_at hl 0 rfl) ?_
  refine lv_iadd hx hb dX5_areSeveral_47 ?_
  refine ld_i hx hb hK.1 hP 1 0 rfl rfl (ix3l (hv 4 (by decide)) 0 (by decide)) (((3 * (gv 4)) + 0).toNatClampNeg) rfl (v := gp (((3 * (gv 4)) + 0).toNatClampNeg)) rfl dX5_areSeveral_48 ?_
  refine lv_aload_n hx hb dX5_areSeveral_49 rfl (lv_at hl 5 rfl) ?_
  refine va_get (D := D) (ci := 5) (v := .ref mP) (C := RX5) (T := TX5) (N := 17) hx hb hts k_2 hown hK.1 hP 0 rfl rfl 0 (by decide) k_1 (fun _ h9 => h9) rfl dX5_areSeveral_50 ?_
  refine lv_iconst (v := 3) hx hb dX5_areSeveral_53 (by decide) ?_
  refine lv_aload_n hx hb dX5_areSeveral_54 rfl (lv_at hl 5 rfl) ?_
  refine va_get (D := D) (ci := 5) (v := .ref mV) (C := RX5) (T := TX5) (N := 17) hx hb hts k_2 hown hK.1 hP 0 rfl rfl 7 (by decide) k_3 (fun _ h9 => h9) rfl dX5_areSeveral_55 ?_
  refine lv_iload_n hx hb dX5_areSeveral_58 rfl (lv_at hl 2 rfl) ?_
  refine ld_i hx hb hK.1 hP 2 0 rfl rfl (ix_lit (by decide)) 0 (by decide) (v := gv 0) rfl dX5_areSeveral_59 ?_
  refine lv_imul hx hb dX5_areSeveral_60 ?_
  refine lv_iload hx hb dX5_areSeveral_61 (lv_at hl 0 rfl) ?_
  refine lv_iadd hx hb dX5_areSeveral_63 ?_
  refine ld_i hx hb hK.1 hP 1 0 rfl rfl (ix3l (hv 0 (by decide)) 0 (by decide)) (((3 * (gv 0)) + 0).toNatClampNeg) rfl (v := gp (((3 * (gv 0)) + 0).toNatClampNeg)) rfl dX5_areSeveral_64 ?_
  refine lv_icmp_ne (tgt := 72) hx hb dX5_areSeveral_65 (by decide) (fun c_44 => ?_) (fun c_44 => ?_)
  · skip
    refine lv_iconst (v := 0) hx hb dX5_areSeveral_72 (by decide) ?_
    refine lv_istore (lv' := [(4, .int 0), (5, .int 0), (3, .int 0), (2, .int 4), (1, .int 0), (0, .ref o)]) hx hb dX5_areSeveral_73 hl (by decide) rfl (fun ls hl => ?_)
    refine lv_iinc (v := 1) (lv' := [(5, .int 1), (4, .int 0), (3, .int 0), (2, .int 4), (1, .int 0), (0, .ref o)]) hx hb dX5_areSeveral_75 hl (k := 1) rfl (by decide) (by decide) rfl (fun ls hl => ?_)
    refine lv_goto (tgt := 22) hx hb dX5_areSeveral_78 (by decide) ?_
    refine lv_iload hx hb dX5_areSeveral_22 (lv_at hl 0 rfl) ?_
    refine lv_iconst (v := 3) hx hb dX5_areSeveral_24 (by decide) ?_
    refine lv_icmp_ge (tgt := 81) hx hb dX5_areSeveral_25 (by decide) (fun h => absurd h (by decide)) (fun _ => ?_)
    refine lv_iload hx hb dX5_areSeveral_28 (lv_at hl 1 rfl) ?_
    refine lv_if_eq (tgt := 72) hx hb dX5_areSeveral_30 (by decide) (fun _ => ?_) (fun h => absurd (by decide) h)
    refine lv_iconst (v := 0) hx hb dX5_areSeveral_72 (by decide) ?_
    refine lv_istore (lv' := [(4, .int 0), (5, .int 1), (3, .int 0), (2, .int 4), (1, .int 0), (0, .ref o)]) hx hb dX5_areSeveral_73 hl (by decide) rfl (fun ls hl => ?_)
    refine lv_iinc (v := 2) (lv' := [(5, .int 2), (4, .int 0), (3, .int 0), (2, .int 4), (1, .int 0), (0, .ref o)]) hx hb dX5_areSeveral_75 hl (k := 1) rfl (by decide) (by decide) rfl (fun ls hl => ?_)
    refine lv_goto (tgt := 22) hx hb dX5_areSeveral_78 (by decide) ?_
    refine lv_iload hx hb dX5_areSeveral_22 (lv_at hl 0 rfl) ?_
    refine lv_iconst (v := 3) hx hb dX5_areSeveral_24 (by decide) ?_
    refine lv_icmp_ge (tgt := 81) hx hb dX5_areSeveral_25 (by decide) (fun h => absurd h (by decide)) (fun _ => ?_)
    refine lv_iload hx hb dX5_areSeveral_28 (lv_at hl 1 rfl) ?_
    refine lv_if_eq (tgt := 72) hx hb dX5_areSeveral_30 (by decide) (fun _ => ?_) (fun h => absurd (by decide) h)
    refine lv_iconst (v := 0) hx hb dX5_areSeveral_72 (by decide) ?_
    refine lv_istore (lv' := [(4, .int 0), (5, .int 2), (3, .int 0), (2, .int 4), (1, .int 0), (0, .ref o)]) hx hb dX5_areSeveral_73 hl (by decide) rfl (fun ls hl => ?_)
    refine lv_iinc (v := 3) (lv' := [(5, .int 3), (4, .int 0), (3, .int 0), (2, .int 4), (1, .int 0), (0, .ref o)]) hx hb dX5_areSeveral_75 hl (k := 1) rfl (by decide) (by decide) rfl (fun ls hl => ?_)
    refine lv_goto (tgt := 22) hx hb dX5_areSeveral_78 (by decide) ?_
    refine lv_iload hx hb dX5_areSeveral_22 (lv_at hl 0 rfl) ?_
    refine lv_iconst (v := 3) hx hb dX5_areSeveral_24 (by decide) ?_
    refine lv_icmp_ge (tgt := 81) hx hb dX5_areSeveral_25 (by decide) (fun _ => ?_) (fun h => absurd (by decide) h)
    refine lv_iload_n hx hb dX5_areSeveral_81 rfl (lv_at hl 4 rfl) ?_
    refine lv_if_ne (tgt := 90) hx hb dX5_areSeveral_82 (by decide) (fun h => absurd (by decide) h) (fun _ => ?_)
    refine lv_iload hx hb dX5_areSeveral_85 (lv_at hl 1 rfl) ?_
    refine lv_if_eq (tgt := 94) hx hb dX5_areSeveral_87 (by decide) (fun _ => ?_) (fun h => absurd (by decide) h)
    refine lv_iconst (v := 0) hx hb dX5_areSeveral_94 (by decide) ?_
    refine lv_istore_n (lv' := [(1, .int 0), (5, .int 3), (4, .int 0), (3, .int 0), (2, .int 4), (0, .ref o)]) hx hb dX5_areSeveral_95 rfl hl (by decide) rfl (fun ls hl => ?_)
    have hq1 : z5_areSeveral_j10 gp gv = z5_areSeveral_j11 gp gv := by unfold z5_areSeveral_j10; rw [if_neg c_44]
    have hq : z5_areSeveral gp gv = z5_areSeveral_j11 gp gv := hj_25.symm.trans hq1
    exact jo_X5_areSeveral_26 hv hx hb hr hml hown hts hlk hP hK hq.symm ls (lv_sub hl [3, 4, 0, 5] rfl)
  · skip
    refine lv_iconst (v := 1) hx hb dX5_areSeveral_68 (by decide) ?_
    refine lv_goto (tgt := 73) hx hb dX5_areSeveral_69 (by decide) ?_
    refine lv_istore (lv' := [(4, .int 1), (5, .int 0), (3, .int 0), (2, .int 4), (1, .int 0), (0, .ref o)]) hx hb dX5_areSeveral_73 hl (by decide) rfl (fun ls hl => ?_)
    refine lv_iinc (v := 1) (lv' := [(5, .int 1), (4, .int 1), (3, .int 0), (2, .int 4), (1, .int 0), (0, .ref o)]) hx hb dX5_areSeveral_75 hl (k := 1) rfl (by decide) (by decide) rfl (fun ls hl => ?_)
    refine lv_goto (tgt := 22) hx hb dX5_areSeveral_78 (by decide) ?_
    refine lv_iload hx hb dX5_areSeveral_22 (lv_at hl 0 rfl) ?_
    refine lv_iconst (v := 3) hx hb dX5_areSeveral_24 (by decide) ?_
    refine lv_icmp_ge (tgt := 81) hx hb dX5_areSeveral_25 (by decide) (fun h => absurd h (by decide)) (fun _ => ?_)
    refine lv_iload hx hb dX5_areSeveral_28 (lv_at hl 1 rfl) ?_
    refine lv_if_eq (tgt := 72) hx hb dX5_areSeveral_30 (by decide) (fun h => absurd h (by decide)) (fun _ => ?_)
    refine lv_aload_n hx hb dX5_areSeveral_33 rfl (lv_at hl 5 rfl) ?_
    refine va_get (D := D) (ci := 5) (v := .ref mP) (C := RX5) (T := TX5) (N := 17) hx hb hts k_2 hown hK.1 hP 0 rfl rfl 0 (by decide) k_1 (fun _ h9 => h9) rfl dX5_areSeveral_34 ?_
    refine lv_iconst (v := 3) hx hb dX5_areSeveral_37 (by decide) ?_
    refine lv_aload_n hx hb dX5_areSeveral_38 rfl (lv_at hl 5 rfl) ?_
    refine va_get (D := D) (ci := 5) (v := .ref mV) (C := RX5) (T := TX5) (N := 17) hx hb hts k_2 hown hK.1 hP 0 rfl rfl 7 (by decide) k_3 (fun _ h9 => h9) rfl dX5_areSeveral_39 ?_
    refine lv_iload_n hx hb dX5_areSeveral_42 rfl (lv_at hl 3 rfl) ?_
    refine ld_i hx hb hK.1 hP 2 0 rfl rfl (ix_lit (by decide)) 4 (by decide) (v := gv 4) rfl dX5_areSeveral_43 ?_
    refine lv_imul hx hb dX5_areSeveral_44 ?_
    refine lv_iload hx hb dX5_areSeveral_45 (lv_at hl 0 rfl) ?_
    refine lv_iadd hx hb dX5_areSeveral_47 ?_
    refine ld_i hx hb hK.1 hP 1 0 rfl rfl (ix3l (hv 4 (by decide)) 1 (by decide)) (((3 * (gv 4)) + 1).toNatClampNeg) rfl (v := gp (((3 * (gv 4)) + 1).toNatClampNeg)) rfl dX5_areSeveral_48 ?_
    refine lv_aload_n hx hb dX5_areSeveral_49 rfl (lv_at hl 5 rfl) ?_
    refine va_get (D := D) (ci := 5) (v := .ref mP) (C := RX5) (T := TX5) (N := 17) hx hb hts k_2 hown hK.1 hP 0 rfl rfl 0 (by decide) k_1 (fun _ h9 => h9) rfl dX5_areSeveral_50 ?_
    refine lv_iconst (v := 3) hx hb dX5_areSeveral_53 (by decide) ?_
    refine lv_aload_n hx hb dX5_areSeveral_54 rfl (lv_at hl 5 rfl) ?_
    refine va_get (D := D) (ci := 5) (v := .ref mV) (C := RX5) (T := TX5) (N := 17) hx hb hts k_2 hown hK.1 hP 0 rfl rfl 7 (by decide) k_3 (fun _ h9 => h9) rfl dX5_areSeveral_55 ?_
    refine lv_iload_n hx hb dX5_areSeveral_58 rfl (lv_at hl 2 rfl) ?_
    refine ld_i hx hb hK.1 hP 2 0 rfl rfl (ix_lit (by decide)) 0 (by decide) (v := gv 0) rfl dX5_areSeveral_59 ?_
    refine lv_imul hx hb dX5_areSeveral_60 ?_
    refine lv_iload hx hb dX5_areSeveral_61 (lv_at hl 0 rfl) ?_
    refine lv_iadd hx hb dX5_areSeveral_63 ?_
    refine ld_i hx hb hK.1 hP 1 0 rfl rfl (ix3l (hv 0 (by decide)) 1 (by decide)) (((3 * (gv 0)) + 1).toNatClampNeg) rfl (v := gp (((3 * (gv 0)) + 1).toNatClampNeg)) rfl dX5_areSeveral_64 ?_
    refine lv_icmp_ne (tgt := 72) hx hb dX5_areSeveral_65 (by decide) (fun c_45 => ?_) (fun c_45 => ?_)
    · skip
      refine lv_iconst (v := 0) hx hb dX5_areSeveral_72 (by decide) ?_
      refine lv_istore (lv' := [(4, .int 0), (5, .int 1), (3, .int 0), (2, .int 4), (1, .int 0), (0, .ref o)]) hx hb dX5_areSeveral_73 hl (by decide) rfl (fun ls hl => ?_)
      refine lv_iinc (v := 2) (lv' := [(5, .int 2), (4, .int 0), (3, .int 0), (2, .int 4), (1, .int 0), (0, .ref o)]) hx hb dX5_areSeveral_75 hl (k := 1) rfl (by decide) (by decide) rfl (fun ls hl => ?_)
      refine lv_goto (tgt := 22) hx hb dX5_areSeveral_78 (by decide) ?_
      refine lv_iload hx hb dX5_areSeveral_22 (lv_at hl 0 rfl) ?_
      refine lv_iconst (v := 3) hx hb dX5_areSeveral_24 (by decide) ?_
      refine lv_icmp_ge (tgt := 81) hx hb dX5_areSeveral_25 (by decide) (fun h => absurd h (by decide)) (fun _ => ?_)
      refine lv_iload hx hb dX5_areSeveral_28 (lv_at hl 1 rfl) ?_
      refine lv_if_eq (tgt := 72) hx hb dX5_areSeveral_30 (by decide) (fun _ => ?_) (fun h => absurd (by decide) h)
      refine lv_iconst (v := 0) hx hb dX5_areSeveral_72 (by decide) ?_
      refine lv_istore (lv' := [(4, .int 0), (5, .int 2), (3, .int 0), (2, .int 4), (1, .int 0), (0, .ref o)]) hx hb dX5_areSeveral_73 hl (by decide) rfl (fun ls hl => ?_)
      refine lv_iinc (v := 3) (lv' := [(5, .int 3), (4, .int 0), (3, .int 0), (2, .int 4), (1, .int 0), (0, .ref o)]) hx hb dX5_areSeveral_75 hl (k := 1) rfl (by decide) (by decide) rfl (fun ls hl => ?_)
      refine lv_goto (tgt := 22) hx hb dX5_areSeveral_78 (by decide) ?_
      refine lv_iload hx hb dX5_areSeveral_22 (lv_at hl 0 rfl) ?_
      refine lv_iconst (v := 3) hx hb dX5_areSeveral_24 (by decide) ?_
      refine lv_icmp_ge (tgt := 81) hx hb dX5_areSeveral_25 (by decide) (fun _ => ?_) (fun h => absurd (by decide) h)
      refine lv_iload_n hx hb dX5_areSeveral_81 rfl (lv_at hl 4 rfl) ?_
      refine lv_if_ne (tgt := 90) hx hb dX5_areSeveral_82 (by decide) (fun h => absurd (by decide) h) (fun _ => ?_)
      refine lv_iload hx hb dX5_areSeveral_85 (lv_at hl 1 rfl) ?_
      refine lv_if_eq (tgt := 94) hx hb dX5_areSeveral_87 (by decide) (fun _ => ?_) (fun h => absurd (by decide) h)
      refine lv_iconst (v := 0) hx hb dX5_areSeveral_94 (by decide) ?_
      refine lv_istore_n (lv' := [(1, .int 0), (5, .int 3), (4, .int 0), (3, .int 0), (2, .int 4), (0, .ref o)]) hx hb dX5_areSeveral_95 rfl hl (by decide) rfl (fun ls hl => ?_)
      have hq1 : z5_areSeveral_j10 gp gv = z5_areSeveral_j11 gp gv := by unfold z5_areSeveral_j10; rw [if_pos c_44, if_neg c_45]
      have hq : z5_areSeveral gp gv = z5_areSeveral_j11 gp gv := hj_25.symm.trans hq1
      exact jo_X5_areSeveral_26 hv hx hb hr hml hown hts hlk hP hK hq.symm ls (lv_sub hl [3, 4, 0, 5] rfl)
    · skip
      refine lv_iconst (v := 1) hx hb dX5_areSeveral_68 (by decide) ?_
      refine lv_goto (tgt := 73) hx hb dX5_areSeveral_69 (by decide) ?_
      refine lv_istore (lv' := [(4, .int 1), (5, .int 1), (3, .int 0), (2, .int 4), (1, .int 0), (0, .ref o)]) hx hb dX5_areSeveral_73 hl (by decide) rfl (fun ls hl => ?_)
      refine lv_iinc (v := 2) (lv' := [(5, .int 2), (4, .int 1), (3, .int 0), (2, .int 4), (1, .int 0), (0, .ref o)]) hx hb dX5_areSeveral_75 hl (k := 1) rfl (by decide) (by decide) rfl (fun ls hl => ?_)
      refine lv_goto (tgt := 22) hx hb dX5_areSeveral_78 (by decide) ?_
      refine lv_iload hx hb dX5_areSeveral_22 (lv_at hl 0 rfl) ?_
      refine lv_iconst (v := 3) hx hb dX5_areSeveral_24 (by decide) ?_
      refine lv_icmp_ge (tgt := 81) hx hb dX5_areSeveral_25 (by decide) (fun h => absurd h (by decide)) (fun _ => ?_)
      refine lv_iload hx hb dX5_areSeveral_28 (lv_at hl 1 rfl) ?_
      refine lv_if_eq (tgt := 72) hx hb dX5_areSeveral_30 (by decide) (fun h => absurd h (by decide)) (fun _ => ?_)
      refine lv_aload_n hx hb dX5_areSeveral_33 rfl (lv_at hl 5 rfl) ?_
      refine va_get (D := D) (ci := 5) (v := .ref mP) (C := RX5) (T := TX5) (N := 17) hx hb hts k_2 hown hK.1 hP 0 rfl rfl 0 (by decide) k_1 (fun _ h9 => h9) rfl dX5_areSeveral_34 ?_
      refine lv_iconst (v := 3) hx hb dX5_areSeveral_37 (by decide) ?_
      refine lv_aload_n hx hb dX5_areSeveral_38 rfl (lv_at hl 5 rfl) ?_
      refine va_get (D := D) (ci := 5) (v := .ref mV) (C := RX5) (T := TX5) (N := 17) hx hb hts k_2 hown hK.1 hP 0 rfl rfl 7 (by decide) k_3 (fun _ h9 => h9) rfl dX5_areSeveral_39 ?_
      refine lv_iload_n hx hb dX5_areSeveral_42 rfl (lv_at hl 3 rfl) ?_
      refine ld_i hx hb hK.1 hP 2 0 rfl rfl (ix_lit (by decide)) 4 (by decide) (v := gv 4) rfl dX5_areSeveral_43 ?_
      refine lv_imul hx hb dX5_areSeveral_44 ?_
      refine lv_iload hx hb dX5_areSeveral_45 (lv_at hl 0 rfl) ?_
      refine lv_iadd hx hb dX5_areSeveral_47 ?_
      refine ld_i hx hb hK.1 hP 1 0 rfl rfl (ix3l (hv 4 (by decide)) 2 (by decide)) (((3 * (gv 4)) + 2).toNatClampNeg) rfl (v := gp (((3 * (gv 4)) + 2).toNatClampNeg)) rfl dX5_areSeveral_48 ?_
      refine lv_aload_n hx hb dX5_areSeveral_49 rfl (lv_at hl 5 rfl) ?_
      refine va_get (D := D) (ci := 5) (v := .ref mP) (C := RX5) (T := TX5) (N := 17) hx hb hts k_2 hown hK.1 hP 0 rfl rfl 0 (by decide) k_1 (fun _ h9 => h9) rfl dX5_areSeveral_50 ?_
      refine lv_iconst (v := 3) hx hb dX5_areSeveral_53 (by decide) ?_
      refine lv_aload_n hx hb dX5_areSeveral_54 rfl (lv_at hl 5 rfl) ?_
      refine va_get (D := D) (ci := 5) (v := .ref mV) (C := RX5) (T := TX5) (N := 17) hx hb hts k_2 hown hK.1 hP 0 rfl rfl 7 (by decide) k_3 (fun _ h9 => h9) rfl dX5_areSeveral_55 ?_
      refine lv_iload_n hx hb dX5_areSeveral_58 rfl (lv_at hl 2 rfl) ?_
      refine ld_i hx hb hK.1 hP 2 0 rfl rfl (ix_lit (by decide)) 0 (by decide) (v := gv 0) rfl dX5_areSeveral_59 ?_
      refine lv_imul hx hb dX5_areSeveral_60 ?_
      refine lv_iload hx hb dX5_areSeveral_61 (lv_at hl 0 rfl) ?_
      refine lv_iadd hx hb dX5_areSeveral_63 ?_
      refine ld_i hx hb hK.1 hP 1 0 rfl rfl (ix3l (hv 0 (by decide)) 2 (by decide)) (((3 * (gv 0)) + 2).toNatClampNeg) rfl (v := gp (((3 * (gv 0)) + 2).toNatClampNeg)) rfl dX5_areSeveral_64 ?_
      refine lv_icmp_ne (tgt := 72) hx hb dX5_areSeveral_65 (by decide) (fun c_46 => ?_) (fun c_46 => ?_)
      · skip
        refine lv_iconst (v := 0) hx hb dX5_areSeveral_72 (by decide) ?_
        refine lv_istore (lv' := [(4, .int 0), (5, .int 2), (3, .int 0), (2, .int 4), (1, .int 0), (0, .ref o)]) hx hb dX5_areSeveral_73 hl (by decide) rfl (fun ls hl => ?_)
        refine lv_iinc (v := 3) (lv' := [(5, .int 3), (4, .int 0), (3, .int 0), (2, .int 4), (1, .int 0), (0, .ref o)]) hx hb dX5_areSeveral_75 hl (k := 1) rfl (by decide) (by decide) rfl (fun ls hl => ?_)
        refine lv_goto (tgt := 22) hx hb dX5_areSeveral_78 (by decide) ?_
        refine lv_iload hx hb dX5_areSeveral_22 (lv_at hl 0 rfl) ?_
        refine lv_iconst (v := 3) hx hb dX5_areSeveral_24 (by decide) ?_
        refine lv_icmp_ge (tgt := 81) hx hb dX5_areSeveral_25 (by decide) (fun _ => ?_) (fun h => absurd (by decide) h)
        refine lv_iload_n hx hb dX5_areSeveral_81 rfl (lv_at hl 4 rfl) ?_
        refine lv_if_ne (tgt := 90) hx hb dX5_areSeveral_82 (by decide) (fun h => absurd (by decide) h) (fun _ => ?_)
        refine lv_iload hx hb dX5_areSeveral_85 (lv_at hl 1 rfl) ?_
        refine lv_if_eq (tgt := 94) hx hb dX5_areSeveral_87 (by decide) (fun _ => ?_) (fun h => absurd (by decide) h)
        refine lv_iconst (v := 0) hx hb dX5_areSeveral_94 (by decide) ?_
        refine lv_istore_n (lv' := [(1, .int 0), (5, .int 3), (4, .int 0), (3, .int 0), (2, .int 4), (0, .ref o)]) hx hb dX5_areSeveral_95 rfl hl (by decide) rfl (fun ls hl => ?_)
        have hq1 : z5_areSeveral_j10 gp gv = z5_areSeveral_j11 gp gv := by unfold z5_areSeveral_j10; rw [if_pos c_44, if_pos c_45, if_neg c_46]
        have hq : z5_areSeveral gp gv = z5_areSeveral_j11 gp gv := hj_25.symm.trans hq1
        exact jo_X5_areSeveral_26 hv hx hb hr hml hown hts hlk hP hK hq.symm ls (lv_sub hl [3, 4, 0, 5] rfl)
      · skip
        refine lv_iconst (v := 1) hx hb dX5_areSeveral_68 (by decide) ?_
        refine lv_goto (tgt := 73) hx hb dX5_areSeveral_69 (by decide) ?_
        refine lv_istore (lv' := [(4, .int 1), (5, .int 2), (3, .int 0), (2, .int 4), (1, .int 0), (0, .ref o)]) hx hb dX5_areSeveral_73 hl (by decide) rfl (fun ls hl => ?_)
        refine lv_iinc (v := 3) (lv' := [(5, .int 3), (4, .int 1), (3, .int 0), (2, .int 4), (1, .int 0), (0, .ref o)]) hx hb dX5_areSeveral_75 hl (k := 1) rfl (by decide) (by decide) rfl (fun ls hl => ?_)
        refine lv_goto (tgt := 22) hx hb dX5_areSeveral_78 (by decide) ?_
        refine lv_iload hx hb dX5_areSeveral_22 (lv_at hl 0 rfl) ?_
        refine lv_iconst (v := 3) hx hb dX5_areSeveral_24 (by decide) ?_
        refine lv_icmp_ge (tgt := 81) hx hb dX5_areSeveral_25 (by decide) (fun _ => ?_) (fun h => absurd (by decide) h)
        refine lv_iload_n hx hb dX5_areSeveral_81 rfl (lv_at hl 4 rfl) ?_
        refine lv_if_ne (tgt := 90) hx hb dX5_areSeveral_82 (by decide) (fun h => absurd (by decide) h) (fun _ => ?_)
        refine lv_iload hx hb dX5_areSeveral_85 (lv_at hl 1 rfl) ?_
        refine lv_if_eq (tgt := 94) hx hb dX5_areSeveral_87 (by decide) (fun h => absurd h (by decide)) (fun _ => ?_)
        refine lv_iconst (v := 1) hx hb dX5_areSeveral_90 (by decide) ?_
        refine lv_goto (tgt := 95) hx hb dX5_areSeveral_91 (by decide) ?_
        refine lv_istore_n (lv' := [(1, .int 1), (5, .int 3), (4, .int 1), (3, .int 0), (2, .int 4), (0, .ref o)]) hx hb dX5_areSeveral_95 rfl hl (by decide) rfl (fun ls hl => ?_)
        have hq1 : z5_areSeveral_j10 gp gv = 1 := by unfold z5_areSeveral_j10; rw [if_pos c_44, if_pos c_45, if_pos c_46]
        have hq : z5_areSeveral gp gv = 1 := hj_25.symm.trans hq1
        exact jo_X5_areSeveral_5 hv hx hb hr hml hown hts hlk hP hK hq ls (lv_sub hl [5, 0, 4, 3] rfl)
set_option maxHeartbeats 4000000 in
set_option maxRecDepth 100000 in
theorem jo_X5_areSeveral_24 {l : Launch} {D : va_G} {cI cJ : ClassId} {pG : Program} {eG : Env} {sG : State} {mG : MethodId} {below : List Frame} {meth : Method} {cG : Code} {o : Nat} {mP : Nat} {mL : Nat} {mC : Nat} {mN : Nat} {mF : Nat} {mR : Nat} {mD : Nat} {mV : Nat} {mX : Nat} {mA : Nat} {mK : Nat} {mT : Nat} {mU : Nat} {mH : Nat} {mI : Nat} {cm : Int32} {pm : Int32} {gp : Nat → Int32} {gv : Nat → Int32} (hv : ∀ n, n < 5 → ok_i (gv n)) (hx : pG.tables.exec = Jvm.exec) (hb : cG.code = cX5_areSeveral) (hr : meth.sig.returnType = some .boolean) (hml : cG.maxLocals = 7) (hown : sG.vm.findClass RX5 = some mG.cls) (hts : ∀ x ∈ wsX5_areSeveral, x.before ([.ref o] : List Value).toArray sG = true) (hlk : meth.locks = false) (hP : va_P D vwCl [kM o mP mL mC mN mF mR mD mV mX mA mK cm mT pm mU mH mI, kA mP cI 180 gp, kA mV cI 5 gv] sG.heap) (hK : gd_K D cI cJ sG) (hj_24 : z5_areSeveral_j9 gp gv = z5_areSeveral gp gv) (ls : Array Slot) (hl : lv_has ls 7 [(3, .int 2), (2, .int 3), (1, .int 0), (0, .ref o)]) : W pG l eG (headSpec wsX5_areSeveral ({ frames := 1, cells := 0, slots := 0, locals := 30 })).room sG mG ([.ref o] : List Value).toArray below meth cG sG.heap [] 0 0 (MQ below (vp_Si (fun r : Int32 => r = z5_areSeveral gp gv)) ([.ref o] : List Value).toArray sG 0 0 (fun _ => False)) (F0 mG 96 ls []) := by
  have k_1 := hts (.fieldLink RX5 7 "ConicRowsModel" "points" "[I") (by decide +kernel)
  have k_2 : ∀ w ∈ wsX50, w ∈ wsX5_areSeveral := by decide +kernel
  have k_3 := hts (.fieldLink RX5 32 "ConicRowsModel" "five" "[I") (by decide +kernel)
  refine lv_iinc (v := 3) (lv' := [(3, .int 3), (2, .int 3), (1, .int 0), (0, .ref o)]) hx hb dX5_areSeveral_96 hl (k := 0) rfl (by decide) (by decide) rfl (fun ls hl => ?_)
  refine lv_goto (tgt := 11) hx hb dX5_areSeveral_99 (by decide) ?_
  refine lv_iload_n hx hb dX5_areSeveral_11 rfl (lv_at hl 0 rfl) ?_
  refine lv_iload_n hx hb dX5_areSeveral_12 rfl (lv_at hl 1 rfl) ?_
  refine lv_icmp_ge (tgt := 102) hx hb dX5_areSeveral_13 (by decide) (fun _ => ?_) (fun h => absurd (by decide) h)
  refine lv_iload_n hx hb dX5_areSeveral_102 rfl (lv_at hl 1 rfl) ?_
  refine lv_iconst (v := 1) hx hb dX5_areSeveral_103 (by decide) ?_
  refine lv_iadd hx hb dX5_areSeveral_104 ?_
  refine lv_eqi (v := 4) (by decide) ?_
  refine lv_iconst (v := 5) hx hb dX5_areSeveral_105 (by decide) ?_
  refine lv_irem hx hb dX5_areSeveral_106 (by decide) ?_
  refine lv_eqi (v := 4) (by decide) ?_
  refine lv_istore_n (lv' := [(3, .int 4), (2, .int 3), (1, .int 0), (0, .ref o)]) hx hb dX5_areSeveral_107 rfl hl (by decide) rfl (fun ls hl => ?_)
  refine lv_iload_n hx hb dX5_areSeveral_108 rfl (lv_at hl 1 rfl) ?_
  refine lv_iconst (v := 2) hx hb dX5_areSeveral_109 (by decide) ?_
  refine lv_iadd hx hb dX5_areSeveral_110 ?_
  refine lv_eqi (v := 5) (by decide) ?_
  refine lv_iconst (v := 5) hx hb dX5_areSeveral_111 (by decide) ?_
  refine lv_irem hx hb dX5_areSeveral_112 (by decide) ?_
  refine lv_eqi (v := 0) (by decide) ?_
  refine lv_istore (lv' := [(4, .int 0), (3, .int 4), (2, .int 3), (1, .int 0), (0, .ref o)]) hx hb dX5_areSeveral_113 hl (by decide) rfl (fun ls hl => ?_)
  refine lv_iload_n hx hb dX5_areSeveral_115 rfl (lv_at hl 2 rfl) ?_
  refine lv_iconst (v := 3) hx hb dX5_areSeveral_116 (by decide) ?_
  refine lv_iadd hx hb dX5_areSeveral_117 ?_
  refine lv_eqi (v := 6) (by decide) ?_
  refine lv_iconst (v := 5) hx hb dX5_areSeveral_118 (by decide) ?_
  refine lv_irem hx hb dX5_areSeveral_119 (by decide) ?_
  refine lv_eqi (v := 1) (by decide) ?_
  refine lv_istore (lv' := [(5, .int 1), (4, .int 0), (3, .int 4), (2, .int 3), (1, .int 0), (0, .ref o)]) hx hb dX5_areSeveral_120 hl (by decide) rfl (fun ls hl => ?_)
  refine lv_iload_n hx hb dX5_areSeveral_122 rfl (lv_at hl 3 rfl) ?_
  refine lv_iconst (v := 4) hx hb dX5_areSeveral_123 (by decide) ?_
  refine lv_iadd hx hb dX5_areSeveral_124 ?_
  refine lv_eqi (v := 7) (by decide) ?_
  refine lv_iconst (v := 5) hx hb dX5_areSeveral_125 (by decide) ?_
  refine lv_irem hx hb dX5_areSeveral_126 (by decide) ?_
  refine lv_eqi (v := 2) (by decide) ?_
  refine lv_istore (lv' := [(6, .int 2), (5, .int 1), (4, .int 0), (3, .int 4), (2, .int 3), (1, .int 0), (0, .ref o)]) hx hb dX5_areSeveral_127 hl (by decide) rfl (fun ls hl => ?_)
  refine lv_iload_n hx hb dX5_areSeveral_129 rfl (lv_at hl 5 rfl) ?_
  refine lv_if_ne (tgt := 190) hx hb dX5_areSeveral_130 (by decide) (fun h => absurd (by decide) h) (fun _ => ?_)
  refine lv_aload_n hx hb dX5_areSeveral_133 rfl (lv_at hl 6 rfl) ?_
  refine lv_iload_n hx hb dX5_areSeveral_134 rfl (lv_at hl 3 rfl) ?_
  refine lv_iload hx hb dX5_areSeveral_135 (lv_at hl 2 rfl) ?_
  refine lv_iload hx hb dX5_areSeveral_137 (lv_at hl 1 rfl) ?_
  have hPc := hP.sub (ws' := [kM o mP mL mC mN mF mR mD mV mX mA mK cm mT pm mU mH mI, kA mP cI 180 gp, kA mV cI 5 gv]) [0, 1, 2] rfl
  refine cr_l (va_runV (As := [.int 4, .int 0, .int 1]) (rest := []) ⟨hx, hb, hml, hown, hts⟩ (c_X5_spreadOf l D cI cJ o mP mL mC mN mF mR mD mV mX mA mK mT mU mH mI cm pm gp gv 4 0 1 (ix_lit (by decide)) (ix_lit (by decide)) (ix_lit (by decide)) hv) (cwV 3 hts gX5_areSeveral_X5_spreadOf rfl rfl rfl (by decide +kernel) ⟨Nat.le_of_ble_eq_true rfl, Nat.le_of_ble_eq_true rfl⟩) ⟨gd_blR, va_recv hK.1 hPc (ci := 5) (q0 := 0) rfl rfl, gd_prR hPc hK⟩ rfl rfl hl.1 rfl (lv_room (Nat.le_of_ble_eq_true rfl)) dX5_areSeveral_139 ⟨Nat.zero_le _, Nat.zero_le _⟩) (fun r_139 hw => ?_)
  subst hw
  clear hPc
  refine lv_lconst (v := 0) hx hb dX5_areSeveral_142 (by decide) ?_
  refine lb_ne (tgt := 194) hx hb dX5_areSeveral_143 rfl dX5_areSeveral_144 (by decide) (fun c_47 => ?_) (fun c_47 => ?_)
  · skip
    refine lv_iconst (v := 0) hx hb dX5_areSeveral_194 (by decide) ?_
    refine lv_istore_n (lv' := [(1, .int 0), (6, .int 2), (5, .int 1), (4, .int 0), (3, .int 4), (2, .int 3), (0, .ref o)]) hx hb dX5_areSeveral_195 rfl hl (by decide) rfl (fun ls hl => ?_)
    have hq1 : z5_areSeveral_j9 gp gv = z5_areSeveral_j10 gp gv := by unfold z5_areSeveral_j9; rw [if_neg c_47]
    have hq : z5_areSeveral gp gv = z5_areSeveral_j10 gp gv := hj_24.symm.trans hq1
    exact jo_X5_areSeveral_25 hv hx hb hr hml hown hts hlk hP hK hq.symm ls (lv_sub hl [5, 0, 6] rfl)
  · skip
    refine lv_aload_n hx hb dX5_areSeveral_147 rfl (lv_at hl 6 rfl) ?_
    refine lv_iload_n hx hb dX5_areSeveral_148 rfl (lv_at hl 3 rfl) ?_
    refine lv_iload hx hb dX5_areSeveral_149 (lv_at hl 2 rfl) ?_
    refine lv_iload hx hb dX5_areSeveral_151 (lv_at hl 0 rfl) ?_
    have hPc := hP.sub (ws' := [kM o mP mL mC mN mF mR mD mV mX mA mK cm mT pm mU mH mI, kA mP cI 180 gp, kA mV cI 5 gv]) [0, 1, 2] rfl
    refine cr_l (va_runV (As := [.int 4, .int 0, .int 2]) (rest := []) ⟨hx, hb, hml, hown, hts⟩ (c_X5_spreadOf l D cI cJ o mP mL mC mN mF mR mD mV mX mA mK mT mU mH mI cm pm gp gv 4 0 2 (ix_lit (by decide)) (ix_lit (by decide)) (ix_lit (by decide)) hv) (cwV 3 hts gX5_areSeveral_X5_spreadOf rfl rfl rfl (by decide +kernel) ⟨Nat.le_of_ble_eq_true rfl, Nat.le_of_ble_eq_true rfl⟩) ⟨gd_blR, va_recv hK.1 hPc (ci := 5) (q0 := 0) rfl rfl, gd_prR hPc hK⟩ rfl rfl hl.1 rfl (lv_room (Nat.le_of_ble_eq_true rfl)) dX5_areSeveral_153 ⟨Nat.zero_le _, Nat.zero_le _⟩) (fun r_153 hw => ?_)
    subst hw
    clear hPc
    refine lv_lconst (v := 0) hx hb dX5_areSeveral_156 (by decide) ?_
    refine lb_ne (tgt := 194) hx hb dX5_areSeveral_157 rfl dX5_areSeveral_158 (by decide) (fun c_48 => ?_) (fun c_48 => ?_)
    · skip
      refine lv_iconst (v := 0) hx hb dX5_areSeveral_194 (by decide) ?_
      refine lv_istore_n (lv' := [(1, .int 0), (6, .int 2), (5, .int 1), (4, .int 0), (3, .int 4), (2, .int 3), (0, .ref o)]) hx hb dX5_areSeveral_195 rfl hl (by decide) rfl (fun ls hl => ?_)
      have hq1 : z5_areSeveral_j9 gp gv = z5_areSeveral_j10 gp gv := by unfold z5_areSeveral_j9; rw [if_pos c_47, if_neg c_48]
      have hq : z5_areSeveral gp gv = z5_areSeveral_j10 gp gv := hj_24.symm.trans hq1
      exact jo_X5_areSeveral_25 hv hx hb hr hml hown hts hlk hP hK hq.symm ls (lv_sub hl [5, 0, 6] rfl)
    · skip
      refine lv_aload_n hx hb dX5_areSeveral_161 rfl (lv_at hl 6 rfl) ?_
      refine lv_iload hx hb dX5_areSeveral_162 (lv_at hl 2 rfl) ?_
      refine lv_iload hx hb dX5_areSeveral_164 (lv_at hl 1 rfl) ?_
      refine lv_iload hx hb dX5_areSeveral_166 (lv_at hl 0 rfl) ?_
      have hPc := hP.sub (ws' := [kM o mP mL mC mN mF mR mD mV mX mA mK cm mT pm mU mH mI, kA mP cI 180 gp, kA mV cI 5 gv]) [0, 1, 2] rfl
      refine cr_l (va_runV (As := [.int 0, .int 1, .int 2]) (rest := []) ⟨hx, hb, hml, hown, hts⟩ (c_X5_spreadOf l D cI cJ o mP mL mC mN mF mR mD mV mX mA mK mT mU mH mI cm pm gp gv 0 1 2 (ix_lit (by decide)) (ix_lit (by decide)) (ix_lit (by decide)) hv) (cwV 3 hts gX5_areSeveral_X5_spreadOf rfl rfl rfl (by decide +kernel) ⟨Nat.le_of_ble_eq_true rfl, Nat.le_of_ble_eq_true rfl⟩) ⟨gd_blR, va_recv hK.1 hPc (ci := 5) (q0 := 0) rfl rfl, gd_prR hPc hK⟩ rfl rfl hl.1 rfl (lv_room (Nat.le_of_ble_eq_true rfl)) dX5_areSeveral_168 ⟨Nat.zero_le _, Nat.zero_le _⟩) (fun r_168 hw => ?_)
      subst hw
      clear hPc
      refine lv_lconst (v := 0) hx hb dX5_areSeveral_171 (by decide) ?_
      refine lb_ne (tgt := 194) hx hb dX5_areSeveral_172 rfl dX5_areSeveral_173 (by decide) (fun c_49 => ?_) (fun c_49 => ?_)
      · skip
        refine lv_iconst (v := 0) hx hb dX5_areSeveral_194 (by decide) ?_
        refine lv_istore_n (lv' := [(1, .int 0), (6, .int 2), (5, .int 1), (4, .int 0), (3, .int 4), (2, .int 3), (0, .ref o)]) hx hb dX5_areSeveral_195 rfl hl (by decide) rfl (fun ls hl => ?_)
        have hq1 : z5_areSeveral_j9 gp gv = z5_areSeveral_j10 gp gv := by unfold z5_areSeveral_j9; rw [if_pos c_47, if_pos c_48, if_neg c_49]
        have hq : z5_areSeveral gp gv = z5_areSeveral_j10 gp gv := hj_24.symm.trans hq1
        exact jo_X5_areSeveral_25 hv hx hb hr hml hown hts hlk hP hK hq.symm ls (lv_sub hl [5, 0, 6] rfl)
      · skip
        refine lv_aload_n hx hb dX5_areSeveral_176 rfl (lv_at hl 6 rfl) ?_
        refine lv_iload_n hx hb dX5_areSeveral_177 rfl (lv_at hl 3 rfl) ?_
        refine lv_iload hx hb dX5_areSeveral_178 (lv_at hl 1 rfl) ?_
        refine lv_iload hx hb dX5_areSeveral_180 (lv_at hl 0 rfl) ?_
        have hPc := hP.sub (ws' := [kM o mP mL mC mN mF mR mD mV mX mA mK cm mT pm mU mH mI, kA mP cI 180 gp, kA mV cI 5 gv]) [0, 1, 2] rfl
        refine cr_l (va_runV (As := [.int 4, .int 1, .int 2]) (rest := []) ⟨hx, hb, hml, hown, hts⟩ (c_X5_spreadOf l D cI cJ o mP mL mC mN mF mR mD mV mX mA mK mT mU mH mI cm pm gp gv 4 1 2 (ix_lit (by decide)) (ix_lit (by decide)) (ix_lit (by decide)) hv) (cwV 3 hts gX5_areSeveral_X5_spreadOf rfl rfl rfl (by decide +kernel) ⟨Nat.le_of_ble_eq_true rfl, Nat.le_of_ble_eq_true rfl⟩) ⟨gd_blR, va_recv hK.1 hPc (ci := 5) (q0 := 0) rfl rfl, gd_prR hPc hK⟩ rfl rfl hl.1 rfl (lv_room (Nat.le_of_ble_eq_true rfl)) dX5_areSeveral_182 ⟨Nat.zero_le _, Nat.zero_le _⟩) (fun r_182 hw => ?_)
        subst hw
        clear hPc
        refine lv_lconst (v := 0) hx hb dX5_areSeveral_185 (by decide) ?_
        refine lb_ne (tgt := 194) hx hb dX5_areSeveral_186 rfl dX5_areSeveral_187 (by decide) (fun c_50 => ?_) (fun c_50 => ?_)
        · skip
          refine lv_iconst (v := 0) hx hb dX5_areSeveral_194 (by decide) ?_
          refine lv_istore_n (lv' := [(1, .int 0), (6, .int 2), (5, .int 1), (4, .int 0), (3, .int 4), (2, .int 3), (0, .ref o)]) hx hb dX5_areSeveral_195 rfl hl (by decide) rfl (fun ls hl => ?_)
          have hq1 : z5_areSeveral_j9 gp gv = z5_areSeveral_j10 gp gv := by unfold z5_areSeveral_j9; rw [if_pos c_47, if_pos c_48, if_pos c_49, if_neg c_50]
          have hq : z5_areSeveral gp gv = z5_areSeveral_j10 gp gv := hj_24.symm.trans hq1
          exact jo_X5_areSeveral_25 hv hx hb hr hml hown hts hlk hP hK hq.symm ls (lv_sub hl [5, 0, 6] rfl)
        · skip
          refine lv_iconst (v := 1) hx hb dX5_areSeveral_190 (by decide) ?_
          refine lv_goto (tgt := 195) hx hb dX5_areSeveral_191 (by decide) ?_
          refine lv_istore_n (lv' := [(1, .int 1), (6, .int 2), (5, .int 1), (4, .int 0), (3, .int 4), (2, .int 3), (0, .ref o)]) hx hb dX5_areSeveral_195 rfl hl (by decide) rfl (fun ls hl => ?_)
          have hq1 : z5_areSeveral_j9 gp gv = 1 := by unfold z5_areSeveral_j9; rw [if_pos c_47, if_pos c_48, if_pos c_49, if_pos c_50]
          have hq : z5_areSeveral gp gv = 1 := hj_24.symm.trans hq1
          exact jo_X5_areSeveral_6 hv hx hb hr hml hown hts hlk hP hK hq ls (lv_sub hl [6, 0, 5] rfl)
set_option maxHeartbeats 4000000 in
set_option maxRecDepth 100000 in
theorem jo_X5_areSeveral_23 {l : Launch} {D : va_G} {cI cJ : ClassId} {pG : Program} {eG : Env} {sG : State} {mG : MethodId} {below : List Frame} {meth : Method} {cG : Code} {o : Nat} {mP : Nat} {mL : Nat} {mC : Nat} {mN : Nat} {mF : Nat} {mR : Nat} {mD : Nat} {mV : Nat} {mX : Nat} {mA : Nat} {mK : Nat} {mT : Nat} {mU : Nat} {mH : Nat} {mI : Nat} {cm : Int32} {pm : Int32} {gp : Nat → Int32} {gv : Nat → Int32} (hv : ∀ n, n < 5 → ok_i (gv n)) (hx : pG.tables.exec = Jvm.exec) (hb : cG.code = cX5_areSeveral) (hr : meth.sig.returnType = some .boolean) (hml : cG.maxLocals = 7) (hown : sG.vm.findClass RX5 = some mG.cls) (hts : ∀ x ∈ wsX5_areSeveral, x.before ([.ref o] : List Value).toArray sG = true) (hlk : meth.locks = false) (hP : va_P D vwCl [kM o mP mL mC mN mF mR mD mV mX mA mK cm mT pm mU mH mI, kA mP cI 180 gp, kA mV cI 5 gv] sG.heap) (hK : gd_K D cI cJ sG) (hj_23 : z5_areSeveral_j8 gp gv = z5_areSeveral gp gv) (ls : Array Slot) (hl : lv_has ls 7 [(3, .int 1), (2, .int 3), (1, .int 0), (0, .ref o)]) : W pG l eG (headSpec wsX5_areSeveral ({ frames := 1, cells := 0, slots := 0, locals := 30 })).room sG mG ([.ref o] : List Value).toArray below meth cG sG.heap [] 0 0 (MQ below (vp_Si (fun r : Int32 => r = z5_areSeveral gp gv)) ([.ref o] : List Value).toArray sG 0 0 (fun _ => False)) (F0 mG 96 ls []) := by
  have k_1 := hts (.fieldLink RX5 7 "ConicRowsModel" "points" "[I") (by decide +kernel)
  have k_2 : ∀ w ∈ wsX50, w ∈ wsX5_areSeveral := by decide +kernel
  have k_3 := hts (.fieldLink RX5 32 "ConicRowsModel" "five" "[I") (by decide +kernel)
  refine lv_iinc (v := 2) (lv' := [(3, .int 2), (2, .int 3), (1, .int 0), (0, .ref o)]) hx hb dX5_areSeveral_96 hl (k := 0) rfl (by decide) (by decide) rfl (fun ls hl => ?_)
  refine lv_goto (tgt := 11) hx hb dX5_areSeveral_99 (by decide) ?_
  refine lv_iload_n hx hb dX5_areSeveral_11 rfl (lv_at hl 0 rfl) ?_
  refine lv_iload_n hx hb dX5_areSeveral_12 rfl (lv_at hl 1 rfl) ?_
  refine lv_icmp_ge (tgt := 102) hx hb dX5_areSeveral_13 (by decide) (fun h => absurd h (by decide)) (fun _ => ?_)
  refine lv_iconst (v := 1) hx hb dX5_areSeveral_16 (by decide) ?_
  refine lv_istore (lv' := [(4, .int 1), (3, .int 2), (2, .int 3), (1, .int 0), (0, .ref o)]) hx hb dX5_areSeveral_17 hl (by decide) rfl (fun ls hl => ?_)
  refine lv_iconst (v := 0) hx hb dX5_areSeveral_19 (by decide) ?_
  refine lv_istore (lv' := [(5, .int 0), (4, .int 1), (3, .int 2), (2, .int 3), (1, .int 0), (0, .ref o)]) hx hb dX5_areSeveral_20 hl (by decide) rfl (fun ls hl => ?_)
  refine lv_iload hx hb dX5_areSeveral_22 (lv_at hl 0 rfl) ?_
  refine lv_iconst (v := 3) hx hb dX5_areSeveral_24 (by decide) ?_
  refine lv_icmp_ge (tgt := 81) hx hb dX5_areSeveral_25 (by decide) (fun h => absurd h (by decide)) (fun _ => ?_)
  refine lv_iload hx hb dX5_areSeveral_28 (lv_at hl 1 rfl) ?_
  refine lv_if_eq (tgt := 72) hx hb dX5_areSeveral_30 (by decide) (fun h => absurd h (by decide)) (fun _ => ?_)
  refine lv_aload_n hx hb dX5_areSeveral_33 rfl (lv_at hl 5 rfl) ?_
  refine va_get (D := D) (ci := 5) (v := .ref mP) (C := RX5) (T := TX5) (N := 17) hx hb hts k_2 hown hK.1 hP 0 rfl rfl 0 (by decide) k_1 (fun _ h9 => h9) rfl dX5_areSeveral_34 ?_
  refine lv_iconst (v := 3) hx hb dX5_areSeveral_37 (by decide) ?_
  refine lv_aload_n hx hb dX5_areSeveral_38 rfl (lv_at hl 5 rfl) ?_
  refine va_get (D := D) (ci := 5) (v := .ref mV) (C := RX5) (T := TX5) (N := 17) hx hb hts k_2 hown hK.1 hP 0 rfl rfl 7 (by decide) k_3 (fun _ h9 => h9) rfl dX5_areSeveral_39 ?_
  refine lv_iload_n hx hb dX5_areSeveral_42 rfl (lv_at hl 3 rfl) ?_
  refine ld_i hx hb hK.1 hP 2 0 rfl rfl (ix_lit (by decide)) 3 (by decide) (v := gv 3) rfl dX5_areSeveral_43 ?_
  refine lv_imul hx hb dX5_areSeveral_44 ?_
  refine lv_iload hx hb dX5_areSeveral_45 (lv_at hl 0 rfl) ?_
  refine lv_iadd hx hb dX5_areSeveral_47 ?_
  refine ld_i hx hb hK.1 hP 1 0 rfl rfl (ix3l (hv 3 (by decide)) 0 (by decide)) (((3 * (gv 3)) + 0).toNatClampNeg) rfl (v := gp (((3 * (gv 3)) + 0).toNatClampNeg)) rfl dX5_areSeveral_48 ?_
  refine lv_aload_n hx hb dX5_areSeveral_49 rfl (lv_at hl 5 rfl) ?_
  refine va_get (D := D) (ci := 5) (v := .ref mP) (C := RX5) (T := TX5) (N := 17) hx hb hts k_2 hown hK.1 hP 0 rfl rfl 0 (by decide) k_1 (fun _ h9 => h9) rfl dX5_areSeveral_50 ?_
  refine lv_iconst (v := 3) hx hb dX5_areSeveral_53 (by decide) ?_
  refine lv_aload_n hx hb dX5_areSeveral_54 rfl (lv_at hl 5 rfl) ?_
  refine va_get (D := D) (ci := 5) (v := .ref mV) (C := RX5) (T := TX5) (N := 17) hx hb hts k_2 hown hK.1 hP 0 rfl rfl 7 (by decide) k_3 (fun _ h9 => h9) rfl dX5_areSeveral_55 ?_
  refine lv_iload_n hx hb dX5_areSeveral_58 rfl (lv_at hl 2 rfl) ?_
  refine ld_i hx hb hK.1 hP 2 0 rfl rfl (ix_lit (by decide)) 2 (by decide) (v := gv 2) rfl dX5_areSeveral_59 ?_
  refine lv_imul hx hb dX5_areSeveral_60 ?_
  refine lv_iload hx hb dX5_areSeveral_61 (lv_at hl 0 rfl) ?_
  refine lv_iadd hx hb dX5_areSeveral_63 ?_
  refine ld_i hx hb hK.1 hP 1 0 rfl rfl (ix3l (hv 2 (by decide)) 0 (by decide)) (((3 * (gv 2)) + 0).toNatClampNeg) rfl (v := gp (((3 * (gv 2)) + 0).toNatClampNeg)) rfl dX5_areSeveral_64 ?_
  refine lv_icmp_ne (tgt := 72) hx hb dX5_areSeveral_65 (by decide) (fun c_51 => ?_) (fun c_51 => ?_)
  · skip
    refine lv_iconst (v := 0) hx hb dX5_areSeveral_72 (by decide) ?_
    refine lv_istore (lv' := [(4, .int 0), (5, .int 0), (3, .int 2), (2, .int 3), (1, .int 0), (0, .ref o)]) hx hb dX5_areSeveral_73 hl (by decide) rfl (fun ls hl => ?_)
    refine lv_iinc (v := 1) (lv' := [(5, .int 1), (4, .int 0), (3, .int 2), (2, .int 3), (1, .int 0), (0, .ref o)]) hx hb dX5_areSeveral_75 hl (k := 1) rfl (by decide) (by decide) rfl (fun ls hl => ?_)
    refine lv_goto (tgt := 22) hx hb dX5_areSeveral_78 (by decide) ?_
    refine lv_iload hx hb dX5_areSeveral_22 (lv_at hl 0 rfl) ?_
    refine lv_iconst (v := 3) hx hb dX5_areSeveral_24 (by decide) ?_
    refine lv_icmp_ge (tgt := 81) hx hb dX5_areSeveral_25 (by decide) (fun h => absurd h (by decide)) (fun _ => ?_)
    refine lv_iload hx hb dX5_areSeveral_28 (lv_at hl 1 rfl) ?_
    refine lv_if_eq (tgt := 72) hx hb dX5_areSeveral_30 (by decide) (fun _ => ?_) (fun h => absurd (by decide) h)
    refine lv_iconst (v := 0) hx hb dX5_areSeveral_72 (by decide) ?_
    refine lv_istore (lv' := [(4, .int 0), (5, .int 1), (3, .int 2), (2, .int 3), (1, .int 0), (0, .ref o)]) hx hb dX5_areSeveral_73 hl (by decide) rfl (fun ls hl => ?_)
    refine lv_iinc (v := 2) (lv' := [(5, .int 2), (4, .int 0), (3, .int 2), (2, .int 3), (1, .int 0), (0, .ref o)]) hx hb dX5_areSeveral_75 hl (k := 1) rfl (by decide) (by decide) rfl (fun ls hl => ?_)
    refine lv_goto (tgt := 22) hx hb dX5_areSeveral_78 (by decide) ?_
    refine lv_iload hx hb dX5_areSeveral_22 (lv_at hl 0 rfl) ?_
    refine lv_iconst (v := 3) hx hb dX5_areSeveral_24 (by decide) ?_
    refine lv_icmp_ge (tgt := 81) hx hb dX5_areSeveral_25 (by decide) (fun h => absurd h (by decide)) (fun _ => ?_)
    refine lv_iload hx hb dX5_areSeveral_28 (lv_at hl 1 rfl) ?_
    refine lv_if_eq (tgt := 72) hx hb dX5_areSeveral_30 (by decide) (fun _ => ?_) (fun h => absurd (by decide) h)
    refine lv_iconst (v := 0) hx hb dX5_areSeveral_72 (by decide) ?_
    refine lv_istore (lv' := [(4, .int 0), (5, .int 2), (3, .int 2), (2, .int 3), (1, .int 0), (0, .ref o)]) hx hb dX5_areSeveral_73 hl (by decide) rfl (fun ls hl => ?_)
    refine lv_iinc (v := 3) (lv' := [(5, .int 3), (4, .int 0), (3, .int 2), (2, .int 3), (1, .int 0), (0, .ref o)]) hx hb dX5_areSeveral_75 hl (k := 1) rfl (by decide) (by decide) rfl (fun ls hl => ?_)
    refine lv_goto (tgt := 22) hx hb dX5_areSeveral_78 (by decide) ?_
    refine lv_iload hx hb dX5_areSeveral_22 (lv_at hl 0 rfl) ?_
    refine lv_iconst (v := 3) hx hb dX5_areSeveral_24 (by decide) ?_
    refine lv_icmp_ge (tgt := 81) hx hb dX5_areSeveral_25 (by decide) (fun _ => ?_) (fun h => absurd (by decide) h)
    refine lv_iload_n hx hb dX5_areSeveral_81 rfl (lv_at hl 4 rfl) ?_
    refine lv_if_ne (tgt := 90) hx hb dX5_areSeveral_82 (by decide) (fun h => absurd (by decide) h) (fun _ => ?_)
    refine lv_iload hx hb dX5_areSeveral_85 (lv_at hl 1 rfl) ?_
    refine lv_if_eq (tgt := 94) hx hb dX5_areSeveral_87 (by decide) (fun _ => ?_) (fun h => absurd (by decide) h)
    refine lv_iconst (v := 0) hx hb dX5_areSeveral_94 (by decide) ?_
    refine lv_istore_n (lv' := [(1, .int 0), (5, .int 3), (4, .int 0), (3, .int 2), (2, .int 3), (0, .ref o)]) hx hb dX5_areSeveral_95 rfl hl (by decide) rfl (fun ls hl => ?_)
    have hq1 : z5_areSeveral_j8 gp gv = z5_areSeveral_j9 gp gv := by unfold z5_areSeveral_j8; rw [if_neg c_51]
    have hq : z5_areSeveral gp gv = z5_areSeveral_j9 gp gv := hj_23.symm.trans hq1
    exact jo_X5_areSeveral_24 hv hx hb hr hml hown hts hlk hP hK hq.symm ls (lv_sub hl [3, 4, 0, 5] rfl)
  · skip
    refine lv_iconst (v := 1) hx hb dX5_areSeveral_68 (by decide) ?_
    refine lv_goto (tgt := 73) hx hb dX5_areSeveral_69 (by decide) ?_
    refine lv_istore (lv' := [(4, .int 1), (5, .int 0), (3, .int 2), (2, .int 3), (1, .int 0), (0, .ref o)]) hx hb dX5_areSeveral_73 hl (by decide) rfl (fun ls hl => ?_)
    refine lv_iinc (v := 1) (lv' := [(5, .int 1), (4, .int 1), (3, .int 2), (2, .int 3), (1, .int 0), (0, .ref o)]) hx hb dX5_areSeveral_75 hl (k := 1) rfl (by decide) (by decide) rfl (fun ls hl => ?_)
    refine lv_goto (tgt := 22) hx hb dX5_areSeveral_78 (by decide) ?_
    refine lv_iload hx hb dX5_areSeveral_22 (lv_at hl 0 rfl) ?_
    refine lv_iconst (v := 3) hx hb dX5_areSeveral_24 (by decide) ?_
    refine lv_icmp_ge (tgt := 81) hx hb dX5_areSeveral_25 (by decide) (fun h => absurd h (by decide)) (fun _ => ?_)
    refine lv_iload hx hb dX5_areSeveral_28 (lv_at hl 1 rfl) ?_
    refine lv_if_eq (tgt := 72) hx hb dX5_areSeveral_30 (by decide) (fun h => absurd h (by decide)) (fun _ => ?_)
    refine lv_aload_n hx hb dX5_areSeveral_33 rfl (lv_at hl 5 rfl) ?_
    refine va_get (D := D) (ci := 5) (v := .ref mP) (C := RX5) (T := TX5) (N := 17) hx hb hts k_2 hown hK.1 hP 0 rfl rfl 0 (by decide) k_1 (fun _ h9 => h9) rfl dX5_areSeveral_34 ?_
    refine lv_iconst (v := 3) hx hb dX5_areSeveral_37 (by decide) ?_
    refine lv_aload_n hx hb dX5_areSeveral_38 rfl (lv_at hl 5 rfl) ?_
    refine va_get (D := D) (ci := 5) (v := .ref mV) (C := RX5) (T := TX5) (N := 17) hx hb hts k_2 hown hK.1 hP 0 rfl rfl 7 (by decide) k_3 (fun _ h9 => h9) rfl dX5_areSeveral_39 ?_
    refine lv_iload_n hx hb dX5_areSeveral_42 rfl (lv_at hl 3 rfl) ?_
    refine ld_i hx hb hK.1 hP 2 0 rfl rfl (ix_lit (by decide)) 3 (by decide) (v := gv 3) rfl dX5_areSeveral_43 ?_
    refine lv_imul hx hb dX5_areSeveral_44 ?_
    refine lv_iload hx hb dX5_areSeveral_45 (lv_at hl 0 rfl) ?_
    refine lv_iadd hx hb dX5_areSeveral_47 ?_
    refine ld_i hx hb hK.1 hP 1 0 rfl rfl (ix3l (hv 3 (by decide)) 1 (by decide)) (((3 * (gv 3)) + 1).toNatClampNeg) rfl (v := gp (((3 * (gv 3)) + 1).toNatClampNeg)) rfl dX5_areSeveral_48 ?_
    refine lv_aload_n hx hb dX5_areSeveral_49 rfl (lv_at hl 5 rfl) ?_
    refine va_get (D := D) (ci := 5) (v := .ref mP) (C := RX5) (T := TX5) (N := 17) hx hb hts k_2 hown hK.1 hP 0 rfl rfl 0 (by decide) k_1 (fun _ h9 => h9) rfl dX5_areSeveral_50 ?_
    refine lv_iconst (v := 3) hx hb dX5_areSeveral_53 (by decide) ?_
    refine lv_aload_n hx hb dX5_areSeveral_54 rfl (lv_at hl 5 rfl) ?_
    refine va_get (D := D) (ci := 5) (v := .ref mV) (C := RX5) (T := TX5) (N := 17) hx hb hts k_2 hown hK.1 hP 0 rfl rfl 7 (by decide) k_3 (fun _ h9 => h9) rfl dX5_areSeveral_55 ?_
    refine lv_iload_n hx hb dX5_areSeveral_58 rfl (lv_at hl 2 rfl) ?_
    refine ld_i hx hb hK.1 hP 2 0 rfl rfl (ix_lit (by decide)) 2 (by decide) (v := gv 2) rfl dX5_areSeveral_59 ?_
    refine lv_imul hx hb dX5_areSeveral_60 ?_
    refine lv_iload hx hb dX5_areSeveral_61 (lv_at hl 0 rfl) ?_
    refine lv_iadd hx hb dX5_areSeveral_63 ?_
    refine ld_i hx hb hK.1 hP 1 0 rfl rfl (ix3l (hv 2 (by decide)) 1 (by decide)) (((3 * (gv 2)) + 1).toNatClampNeg) rfl (v := gp (((3 * (gv 2)) + 1).toNatClampNeg)) rfl dX5_areSeveral_64 ?_
    refine lv_icmp_ne (tgt := 72) hx hb dX5_areSeveral_65 (by decide) (fun c_52 => ?_) (fun c_52 => ?_)
    · skip
      refine lv_iconst (v := 0) hx hb dX5_areSeveral_72 (by decide) ?_
      refine lv_istore (lv' := [(4, .int 0), (5, .int 1), (3, .int 2), (2, .int 3), (1, .int 0), (0, .ref o)]) hx hb dX5_areSeveral_73 hl (by decide) rfl (fun ls hl => ?_)
      refine lv_iinc (v := 2) (lv' := [(5, .int 2), (4, .int 0), (3, .int 2), (2, .int 3), (1, .int 0), (0, .ref o)]) hx hb dX5_areSeveral_75 hl (k := 1) rfl (by decide) (by decide) rfl (fun ls hl => ?_)
      refine lv_goto (tgt := 22) hx hb dX5_areSeveral_78 (by decide) ?_
      refine lv_iload hx hb dX5_areSeveral_22 (lv_at hl 0 rfl) ?_
      refine lv_iconst (v := 3) hx hb dX5_areSeveral_24 (by decide) ?_
      refine lv_icmp_ge (tgt := 81) hx hb dX5_areSeveral_25 (by decide) (fun h => absurd h (by decide)) (fun _ => ?_)
      refine lv_iload hx hb dX5_areSeveral_28 (lv_at hl 1 rfl) ?_
      refine lv_if_eq (tgt := 72) hx hb dX5_areSeveral_30 (by decide) (fun _ => ?_) (fun h => absurd (by decide) h)
      refine lv_iconst (v := 0) hx hb dX5_areSeveral_72 (by decide) ?_
      refine lv_istore (lv' := [(4, .int 0), (5, .int 2), (3, .int 2), (2, .int 3), (1, .int 0), (0, .ref o)]) hx hb dX5_areSeveral_73 hl (by decide) rfl (fun ls hl => ?_)
      refine lv_iinc (v := 3) (lv' := [(5, .int 3), (4, .int 0), (3, .int 2), (2, .int 3), (1, .int 0), (0, .ref o)]) hx hb dX5_areSeveral_75 hl (k := 1) rfl (by decide) (by decide) rfl (fun ls hl => ?_)
      refine lv_goto (tgt := 22) hx hb dX5_areSeveral_78 (by decide) ?_
      refine lv_iload hx hb dX5_areSeveral_22 (lv_at hl 0 rfl) ?_
      refine lv_iconst (v := 3) hx hb dX5_areSeveral_24 (by decide) ?_
      refine lv_icmp_ge (tgt := 81) hx hb dX5_areSeveral_25 (by decide) (fun _ => ?_) (fun h => absurd (by decide) h)
      refine lv_iload_n hx hb dX5_areSeveral_81 rfl (lv_at hl 4 rfl) ?_
      refine lv_if_ne (tgt := 90) hx hb dX5_areSeveral_82 (by decide) (fun h => absurd (by decide) h) (fun _ => ?_)
      refine lv_iload hx hb dX5_areSeveral_85 (lv_at hl 1 rfl) ?_
      refine lv_if_eq (tgt := 94) hx hb dX5_areSeveral_87 (by decide) (fun _ => ?_) (fun h => absurd (by decide) h)
      refine lv_iconst (v := 0) hx hb dX5_areSeveral_94 (by decide) ?_
      refine lv_istore_n (lv' := [(1, .int 0), (5, .int 3), (4, .int 0), (3, .int 2), (2, .int 3), (0, .ref o)]) hx hb dX5_areSeveral_95 rfl hl (by decide) rfl (fun ls hl => ?_)
      have hq1 : z5_areSeveral_j8 gp gv = z5_areSeveral_j9 gp gv := by unfold z5_areSeveral_j8; rw [if_pos c_51, if_neg c_52]
      have hq : z5_areSeveral gp gv = z5_areSeveral_j9 gp gv := hj_23.symm.trans hq1
      exact jo_X5_areSeveral_24 hv hx hb hr hml hown hts hlk hP hK hq.symm ls (lv_sub hl [3, 4, 0, 5] rfl)
    · skip
      refine lv_iconst (v := 1) hx hb dX5_areSeveral_68 (by decide) ?_
      refine lv_goto (tgt := 73) hx hb dX5_areSeveral_69 (by decide) ?_
      refine lv_istore (lv' := [(4, .int 1), (5, .int 1), (3, .int 2), (2, .int 3), (1, .int 0), (0, .ref o)]) hx hb dX5_areSeveral_73 hl (by decide) rfl (fun ls hl => ?_)
      refine lv_iinc (v := 2) (lv' := [(5, .int 2), (4, .int 1), (3, .int 2), (2, .int 3), (1, .int 0), (0, .ref o)]) hx hb dX5_areSeveral_75 hl (k := 1) rfl (by decide) (by decide) rfl (fun ls hl => ?_)
      refine lv_goto (tgt := 22) hx hb dX5_areSeveral_78 (by decide) ?_
      refine lv_iload hx hb dX5_areSeveral_22 (lv_at hl 0 rfl) ?_
      refine lv_iconst (v := 3) hx hb dX5_areSeveral_24 (by decide) ?_
      refine lv_icmp_ge (tgt := 81) hx hb dX5_areSeveral_25 (by decide) (fun h => absurd h (by decide)) (fun _ => ?_)
      refine lv_iload hx hb dX5_areSeveral_28 (lv_at hl 1 rfl) ?_
      refine lv_if_eq (tgt := 72) hx hb dX5_areSeveral_30 (by decide) (fun h => absurd h (by decide)) (fun _ => ?_)
      refine lv_aload_n hx hb dX5_areSeveral_33 rfl (lv_at hl 5 rfl) ?_
      refine va_get (D := D) (ci := 5) (v := .ref mP) (C := RX5) (T := TX5) (N := 17) hx hb hts k_2 hown hK.1 hP 0 rfl rfl 0 (by decide) k_1 (fun _ h9 => h9) rfl dX5_areSeveral_34 ?_
      refine lv_iconst (v := 3) hx hb dX5_areSeveral_37 (by decide) ?_
      refine lv_aload_n hx hb dX5_areSeveral_38 rfl (lv_at hl 5 rfl) ?_
      refine va_get (D := D) (ci := 5) (v := .ref mV) (C := RX5) (T := TX5) (N := 17) hx hb hts k_2 hown hK.1 hP 0 rfl rfl 7 (by decide) k_3 (fun _ h9 => h9) rfl dX5_areSeveral_39 ?_
      refine lv_iload_n hx hb dX5_areSeveral_42 rfl (lv_at hl 3 rfl) ?_
      refine ld_i hx hb hK.1 hP 2 0 rfl rfl (ix_lit (by decide)) 3 (by decide) (v := gv 3) rfl dX5_areSeveral_43 ?_
      refine lv_imul hx hb dX5_areSeveral_44 ?_
      refine lv_iload hx hb dX5_areSeveral_45 (lv_at hl 0 rfl) ?_
      refine lv_iadd hx hb dX5_areSeveral_47 ?_
      refine ld_i hx hb hK.1 hP 1 0 rfl rfl (ix3l (hv 3 (by decide)) 2 (by decide)) (((3 * (gv 3)) + 2).toNatClampNeg) rfl (v := gp (((3 * (gv 3)) + 2).toNatClampNeg)) rfl dX5_areSeveral_48 ?_
      refine lv_aload_n hx hb dX5_areSeveral_49 rfl (lv_at hl 5 rfl) ?_
      refine va_get (D := D) (ci := 5) (v := .ref mP) (C := RX5) (T := TX5) (N := 17) hx hb hts k_2 hown hK.1 hP 0 rfl rfl 0 (by decide) k_1 (fun _ h9 => h9) rfl dX5_areSeveral_50 ?_
      refine lv_iconst (v := 3) hx hb dX5_areSeveral_53 (by decide) ?_
      refine lv_aload_n hx hb dX5_areSeveral_54 rfl (lv_at hl 5 rfl) ?_
      refine va_get (D := D) (ci := 5) (v := .ref mV) (C := RX5) (T := TX5) (N := 17) hx hb hts k_2 hown hK.1 hP 0 rfl rfl 7 (by decide) k_3 (fun _ h9 => h9) rfl dX5_areSeveral_55 ?_
      refine lv_iload_n hx hb dX5_areSeveral_58 rfl (lv_at hl 2 rfl) ?_
      refine ld_i hx hb hK.1 hP 2 0 rfl rfl (ix_lit (by decide)) 2 (by decide) (v := gv 2) rfl dX5_areSeveral_59 ?_
      refine lv_imul hx hb dX5_areSeveral_60 ?_
      refine lv_iload hx hb dX5_areSeveral_61 (lv_at hl 0 rfl) ?_
      refine lv_iadd hx hb dX5_areSeveral_63 ?_
      refine ld_i hx hb hK.1 hP 1 0 rfl rfl (ix3l (hv 2 (by decide)) 2 (by decide)) (((3 * (gv 2)) + 2).toNatClampNeg) rfl (v := gp (((3 * (gv 2)) + 2).toNatClampNeg)) rfl dX5_areSeveral_64 ?_
      refine lv_icmp_ne (tgt := 72) hx hb dX5_areSeveral_65 (by decide) (fun c_53 => ?_) (fun c_53 => ?_)
      · skip
        refine lv_iconst (v := 0) hx hb dX5_areSeveral_72 (by decide) ?_
        refine lv_istore (lv' := [(4, .int 0), (5, .int 2), (3, .int 2), (2, .int 3), (1, .int 0), (0, .ref o)]) hx hb dX5_areSeveral_73 hl (by decide) rfl (fun ls hl => ?_)
        refine lv_iinc (v := 3) (lv' := [(5, .int 3), (4, .int 0), (3, .int 2), (2, .int 3), (1, .int 0), (0, .ref o)]) hx hb dX5_areSeveral_75 hl (k := 1) rfl (by decide) (by decide) rfl (fun ls hl => ?_)
        refine lv_goto (tgt := 22) hx hb dX5_areSeveral_78 (by decide) ?_
        refine lv_iload hx hb dX5_areSeveral_22 (lv_at hl 0 rfl) ?_
        refine lv_iconst (v := 3) hx hb dX5_areSeveral_24 (by decide) ?_
        refine lv_icmp_ge (tgt := 81) hx hb dX5_areSeveral_25 (by decide) (fun _ => ?_) (fun h => absurd (by decide) h)
        refine lv_iload_n hx hb dX5_areSeveral_81 rfl (lv_at hl 4 rfl) ?_
        refine lv_if_ne (tgt := 90) hx hb dX5_areSeveral_82 (by decide) (fun h => absurd (by decide) h) (fun _ => ?_)
        refine lv_iload hx hb dX5_areSeveral_85 (lv_at hl 1 rfl) ?_
        refine lv_if_eq (tgt := 94) hx hb dX5_areSeveral_87 (by decide) (fun _ => ?_) (fun h => absurd (by decide) h)
        refine lv_iconst (v := 0) hx hb dX5_areSeveral_94 (by decide) ?_
        refine lv_istore_n (lv' := [(1, .int 0), (5, .int 3), (4, .int 0), (3, .int 2), (2, .int 3), (0, .ref o)]) hx hb dX5_areSeveral_95 rfl hl (by decide) rfl (fun ls hl => ?_)
        have hq1 : z5_areSeveral_j8 gp gv = z5_areSeveral_j9 gp gv := by unfold z5_areSeveral_j8; rw [if_pos c_51, if_pos c_52, if_neg c_53]
        have hq : z5_areSeveral gp gv = z5_areSeveral_j9 gp gv := hj_23.symm.trans hq1
        exact jo_X5_areSeveral_24 hv hx hb hr hml hown hts hlk hP hK hq.symm ls (lv_sub hl [3, 4, 0, 5] rfl)
      · skip
        refine lv_iconst (v := 1) hx hb dX5_areSeveral_68 (by decide) ?_
        refine lv_goto (tgt := 73) hx hb dX5_areSeveral_69 (by decide) ?_
        refine lv_istore (lv' := [(4, .int 1), (5, .int 2), (3, .int 2), (2, .int 3), (1, .int 0), (0, .ref o)]) hx hb dX5_areSeveral_73 hl (by decide) rfl (fun ls hl => ?_)
        refine lv_iinc (v := 3) (lv' := [(5, .int 3), (4, .int 1), (3, .int 2), (2, .int 3), (1, .int 0), (0, .ref o)]) hx hb dX5_areSeveral_75 hl (k := 1) rfl (by decide) (by decide) rfl (fun ls hl => ?_)
        refine lv_goto (tgt := 22) hx hb dX5_areSeveral_78 (by decide) ?_
        refine lv_iload hx hb dX5_areSeveral_22 (lv_at hl 0 rfl) ?_
        refine lv_iconst (v := 3) hx hb dX5_areSeveral_24 (by decide) ?_
        refine lv_icmp_ge (tgt := 81) hx hb dX5_areSeveral_25 (by decide) (fun _ => ?_) (fun h => absurd (by decide) h)
        refine lv_iload_n hx hb dX5_areSeveral_81 rfl (lv_at hl 4 rfl) ?_
        refine lv_if_ne (tgt := 90) hx hb dX5_areSeveral_82 (by decide) (fun h => absurd (by decide) h) (fun _ => ?_)
        refine lv_iload hx hb dX5_areSeveral_85 (lv_at hl 1 rfl) ?_
        refine lv_if_eq (tgt := 94) hx hb dX5_areSeveral_87 (by decide) (fun h => absurd h (by decide)) (fun _ => ?_)
        refine lv_iconst (v := 1) hx hb dX5_areSeveral_90 (by decide) ?_
        refine lv_goto (tgt := 95) hx hb dX5_areSeveral_91 (by decide) ?_
        refine lv_istore_n (lv' := [(1, .int 1), (5, .int 3), (4, .int 1), (3, .int 2), (2, .int 3), (0, .ref o)]) hx hb dX5_areSeveral_95 rfl hl (by decide) rfl (fun ls hl => ?_)
        have hq1 : z5_areSeveral_j8 gp gv = 1 := by unfold z5_areSeveral_j8; rw [if_pos c_51, if_pos c_52, if_pos c_53]
        have hq : z5_areSeveral gp gv = 1 := hj_23.symm.trans hq1
        exact jo_X5_areSeveral_7 hv hx hb hr hml hown hts hlk hP hK hq ls (lv_sub hl [5, 0, 4, 3] rfl)
set_option maxHeartbeats 4000000 in
set_option maxRecDepth 100000 in
theorem jo_X5_areSeveral_22 {l : Launch} {D : va_G} {cI cJ : ClassId} {pG : Program} {eG : Env} {sG : State} {mG : MethodId} {below : List Frame} {meth : Method} {cG : Code} {o : Nat} {mP : Nat} {mL : Nat} {mC : Nat} {mN : Nat} {mF : Nat} {mR : Nat} {mD : Nat} {mV : Nat} {mX : Nat} {mA : Nat} {mK : Nat} {mT : Nat} {mU : Nat} {mH : Nat} {mI : Nat} {cm : Int32} {pm : Int32} {gp : Nat → Int32} {gv : Nat → Int32} (hv : ∀ n, n < 5 → ok_i (gv n)) (hx : pG.tables.exec = Jvm.exec) (hb : cG.code = cX5_areSeveral) (hr : meth.sig.returnType = some .boolean) (hml : cG.maxLocals = 7) (hown : sG.vm.findClass RX5 = some mG.cls) (hts : ∀ x ∈ wsX5_areSeveral, x.before ([.ref o] : List Value).toArray sG = true) (hlk : meth.locks = false) (hP : va_P D vwCl [kM o mP mL mC mN mF mR mD mV mX mA mK cm mT pm mU mH mI, kA mP cI 180 gp, kA mV cI 5 gv] sG.heap) (hK : gd_K D cI cJ sG) (hj_22 : z5_areSeveral_j7 gp gv = z5_areSeveral gp gv) (ls : Array Slot) (hl : lv_has ls 7 [(3, .int 0), (2, .int 3), (1, .int 0), (0, .ref o)]) : W pG l eG (headSpec wsX5_areSeveral ({ frames := 1, cells := 0, slots := 0, locals := 30 })).room sG mG ([.ref o] : List Value).toArray below meth cG sG.heap [] 0 0 (MQ below (vp_Si (fun r : Int32 => r = z5_areSeveral gp gv)) ([.ref o] : List Value).toArray sG 0 0 (fun _ => False)) (F0 mG 96 ls []) := by
  have k_1 := hts (.fieldLink RX5 7 "ConicRowsModel" "points" "[I") (by decide +kernel)
  have k_2 : ∀ w ∈ wsX50, w ∈ wsX5_areSeveral := by decide +kernel
  have k_3 := hts (.fieldLink RX5 32 "ConicRowsModel" "five" "[I") (by decide +kernel)
  refine lv_iinc (v := 1) (lv' := [(3, .int 1), (2, .int 3), (1, .int 0), (0, .ref o)]) hx hb dX5_areSeveral_96 hl (k := 0) rfl (by decide) (by decide) rfl (fun ls hl => ?_)
  refine lv_goto (tgt := 11) hx hb dX5_areSeveral_99 (by decide) ?_
  refine lv_iload_n hx hb dX5_areSeveral_11 rfl (lv_at hl 0 rfl) ?_
  refine lv_iload_n hx hb dX5_areSeveral_12 rfl (lv_at hl 1 rfl) ?_
  refine lv_icmp_ge (tgt := 102) hx hb dX5_areSeveral_13 (by decide) (fun h => absurd h (by decide)) (fun _ => ?_)
  refine lv_iconst (v := 1) hx hb dX5_areSeveral_16 (by decide) ?_
  refine lv_istore (lv' := [(4, .int 1), (3, .int 1), (2, .int 3), (1, .int 0), (0, .ref o)]) hx hb dX5_areSeveral_17 hl (by decide) rfl (fun ls hl => ?_)
  refine lv_iconst (v := 0) hx hb dX5_areSeveral_19 (by decide) ?_
  refine lv_istore (lv' := [(5, .int 0), (4, .int 1), (3, .int 1), (2, .int 3), (1, .int 0), (0, .ref o)]) hx hb dX5_areSeveral_20 hl (by decide) rfl (fun ls hl => ?_)
  refine lv_iload hx hb dX5_areSeveral_22 (lv_at hl 0 rfl) ?_
  refine lv_iconst (v := 3) hx hb dX5_areSeveral_24 (by decide) ?_
  refine lv_icmp_ge (tgt := 81) hx hb dX5_areSeveral_25 (by decide) (fun h => absurd h (by decide)) (fun _ => ?_)
  refine lv_iload hx hb dX5_areSeveral_28 (lv_at hl 1 rfl) ?_
  refine lv_if_eq (tgt := 72) hx hb dX5_areSeveral_30 (by decide) (fun h => absurd h (by decide)) (fun _ => ?_)
  refine lv_aload_n hx hb dX5_areSeveral_33 rfl (lv_at hl 5 rfl) ?_
  refine va_get (D := D) (ci := 5) (v := .ref mP) (C := RX5) (T := TX5) (N := 17) hx hb hts k_2 hown hK.1 hP 0 rfl rfl 0 (by decide) k_1 (fun _ h9 => h9) rfl dX5_areSeveral_34 ?_
  refine lv_iconst (v := 3) hx hb dX5_areSeveral_37 (by decide) ?_
  refine lv_aload_n hx hb dX5_areSeveral_38 rfl (lv_at hl 5 rfl) ?_
  refine va_get (D := D) (ci := 5) (v := .ref mV) (C := RX5) (T := TX5) (N := 17) hx hb hts k_2 hown hK.1 hP 0 rfl rfl 7 (by decide) k_3 (fun _ h9 => h9) rfl dX5_areSeveral_39 ?_
  refine lv_iload_n hx hb dX5_areSeveral_42 rfl (lv_at hl 3 rfl) ?_
  refine ld_i hx hb hK.1 hP 2 0 rfl rfl (ix_lit (by decide)) 3 (by decide) (v := gv 3) rfl dX5_areSeveral_43 ?_
  refine lv_imul hx hb dX5_areSeveral_44 ?_
  refine lv_iload hx hb dX5_areSeveral_45 (lv_at hl 0 rfl) ?_
  refine lv_iadd hx hb dX5_areSeveral_47 ?_
  refine ld_i hx hb hK.1 hP 1 0 rfl rfl (ix3l (hv 3 (by decide)) 0 (by decide)) (((3 * (gv 3)) + 0).toNatClampNeg) rfl (v := gp (((3 * (gv 3)) + 0).toNatClampNeg)) rfl dX5_areSeveral_48 ?_
  refine lv_aload_n hx hb dX5_areSeveral_49 rfl (lv_at hl 5 rfl) ?_
  refine va_get (D := D) (ci := 5) (v := .ref mP) (C := RX5) (T := TX5) (N := 17) hx hb hts k_2 hown hK.1 hP 0 rfl rfl 0 (by decide) k_1 (fun _ h9 => h9) rfl dX5_areSeveral_50 ?_
  refine lv_iconst (v := 3) hx hb dX5_areSeveral_53 (by decide) ?_
  refine lv_aload_n hx hb dX5_areSeveral_54 rfl (lv_at hl 5 rfl) ?_
  refine va_get (D := D) (ci := 5) (v := .ref mV) (C := RX5) (T := TX5) (N := 17) hx hb hts k_2 hown hK.1 hP 0 rfl rfl 7 (by decide) k_3 (fun _ h9 => h9) rfl dX5_areSeveral_55 ?_
  refine lv_iload_n hx hb dX5_areSeveral_58 rfl (lv_at hl 2 rfl) ?_
  refine ld_i hx hb hK.1 hP 2 0 rfl rfl (ix_lit (by decide)) 1 (by decide) (v := gv 1) rfl dX5_areSeveral_59 ?_
  refine lv_imul hx hb dX5_areSeveral_60 ?_
  refine lv_iload hx hb dX5_areSeveral_61 (lv_at hl 0 rfl) ?_
  refine lv_iadd hx hb dX5_areSeveral_63 ?_
  refine ld_i hx hb hK.1 hP 1 0 rfl rfl (ix3l (hv 1 (by decide)) 0 (by decide)) (((3 * (gv 1)) + 0).toNatClampNeg) rfl (v := gp (((3 * (gv 1)) + 0).toNatClampNeg)) rfl dX5_areSeveral_64 ?_
  refine lv_icmp_ne (tgt := 72) hx hb dX5_areSeveral_65 (by decide) (fun c_54 => ?_) (fun c_54 => ?_)
  · skip
    refine lv_iconst (v := 0) hx hb dX5_areSeveral_72 (by decide) ?_
    refine lv_istore (lv' := [(4, .int 0), (5, .int 0), (3, .int 1), (2, .int 3), (1, .int 0), (0, .ref o)]) hx hb dX5_areSeveral_73 hl (by decide) rfl (fun ls hl => ?_)
    refine lv_iinc (v := 1) (lv' := [(5, .int 1), (4, .int 0), (3, .int 1), (2, .int 3), (1, .int 0), (0, .ref o)]) hx hb dX5_areSeveral_75 hl (k := 1) rfl (by decide) (by decide) rfl (fun ls hl => ?_)
    refine lv_goto (tgt := 22) hx hb dX5_areSeveral_78 (by decide) ?_
    refine lv_iload hx hb dX5_areSeveral_22 (lv_at hl 0 rfl) ?_
    refine lv_iconst (v := 3) hx hb dX5_areSeveral_24 (by decide) ?_
    refine lv_icmp_ge (tgt := 81) hx hb dX5_areSeveral_25 (by decide) (fun h => absurd h (by decide)) (fun _ => ?_)
    refine lv_iload hx hb dX5_areSeveral_28 (lv_at hl 1 rfl) ?_
    refine lv_if_eq (tgt := 72) hx hb dX5_areSeveral_30 (by decide) (fun _ => ?_) (fun h => absurd (by decide) h)
    refine lv_iconst (v := 0) hx hb dX5_areSeveral_72 (by decide) ?_
    refine lv_istore (lv' := [(4, .int 0), (5, .int 1), (3, .int 1), (2, .int 3), (1, .int 0), (0, .ref o)]) hx hb dX5_areSeveral_73 hl (by decide) rfl (fun ls hl => ?_)
    refine lv_iinc (v := 2) (lv' := [(5, .int 2), (4, .int 0), (3, .int 1), (2, .int 3), (1, .int 0), (0, .ref o)]) hx hb dX5_areSeveral_75 hl (k := 1) rfl (by decide) (by decide) rfl (fun ls hl => ?_)
    refine lv_goto (tgt := 22) hx hb dX5_areSeveral_78 (by decide) ?_
    refine lv_iload hx hb dX5_areSeveral_22 (lv_at hl 0 rfl) ?_
    refine lv_iconst (v := 3) hx hb dX5_areSeveral_24 (by decide) ?_
    refine lv_icmp_ge (tgt := 81) hx hb dX5_areSeveral_25 (by decide) (fun h => absurd h (by decide)) (fun _ => ?_)
    refine lv_iload hx hb dX5_areSeveral_28 (lv_at hl 1 rfl) ?_
    refine lv_if_eq (tgt := 72) hx hb dX5_areSeveral_30 (by decide) (fun _ => ?_) (fun h => absurd (by decide) h)
    refine lv_iconst (v := 0) hx hb dX5_areSeveral_72 (by decide) ?_
    refine lv_istore (lv' := [(4, .int 0), (5, .int 2), (3, .int 1), (2, .int 3), (1, .int 0), (0, .ref o)]) hx hb dX5_areSeveral_73 hl (by decide) rfl (fun ls hl => ?_)
    refine lv_iinc (v := 3) (lv' := [(5, .int 3), (4, .int 0), (3, .int 1), (2, .int 3), (1, .int 0), (0, .ref o)]) hx hb dX5_areSeveral_75 hl (k := 1) rfl (by decide) (by decide) rfl (fun ls hl => ?_)
    refine lv_goto (tgt := 22) hx hb dX5_areSeveral_78 (by decide) ?_
    refine lv_iload hx hb dX5_areSeveral_22 (lv_at hl 0 rfl) ?_
    refine lv_iconst (v := 3) hx hb dX5_areSeveral_24 (by decide) ?_
    refine lv_icmp_ge (tgt := 81) hx hb dX5_areSeveral_25 (by decide) (fun _ => ?_) (fun h => absurd (by decide) h)
    refine lv_iload_n hx hb dX5_areSeveral_81 rfl (lv_at hl 4 rfl) ?_
    refine lv_if_ne (tgt := 90) hx hb dX5_areSeveral_82 (by decide) (fun h => absurd (by decide) h) (fun _ => ?_)
    refine lv_iload hx hb dX5_areSeveral_85 (lv_at hl 1 rfl) ?_
    refine lv_if_eq (tgt := 94) hx hb dX5_areSeveral_87 (by decide) (fun _ => ?_) (fun h => absurd (by decide) h)
    refine lv_iconst (v := 0) hx hb dX5_areSeveral_94 (by decide) ?_
    refine lv_istore_n (lv' := [(1, .int 0), (5, .int 3), (4, .int 0), (3, .int 1), (2, .int 3), (0, .ref o)]) hx hb dX5_areSeveral_95 rfl hl (by decide) rfl (fun ls hl => ?_)
    have hq1 : z5_areSeveral_j7 gp gv = z5_areSeveral_j8 gp gv := by unfold z5_areSeveral_j7; rw [if_neg c_54]
    have hq : z5_areSeveral gp gv = z5_areSeveral_j8 gp gv := hj_22.symm.trans hq1
    exact jo_X5_areSeveral_23 hv hx hb hr hml hown hts hlk hP hK hq.symm ls (lv_sub hl [3, 4, 0, 5] rfl)
  · skip
    refine lv_iconst (v := 1) hx hb dX5_areSeveral_68 (by decide) ?_
    refine lv_goto (tgt := 73) hx hb dX5_areSeveral_69 (by decide) ?_
    refine lv_istore (lv' := [(4, .int 1), (5, .int 0), (3, .int 1), (2, .int 3), (1, .int 0), (0, .ref o)]) hx hb dX5_areSeveral_73 hl (by decide) rfl (fun ls hl => ?_)
    refine lv_iinc (v := 1) (lv' := [(5, .int 1), (4, .int 1), (3, .int 1), (2, .int 3), (1, .int 0), (0, .ref o)]) hx hb dX5_areSeveral_75 hl (k := 1) rfl (by decide) (by decide) rfl (fun ls hl => ?_)
    refine lv_goto (tgt := 22) hx hb dX5_areSeveral_78 (by decide) ?_
    refine lv_iload hx hb dX5_areSeveral_22 (lv_at hl 0 rfl) ?_
    refine lv_iconst (v := 3) hx hb dX5_areSeveral_24 (by decide) ?_
    refine lv_icmp_ge (tgt := 81) hx hb dX5_areSeveral_25 (by decide) (fun h => absurd h (by decide)) (fun _ => ?_)
    refine lv_iload hx hb dX5_areSeveral_28 (lv_at hl 1 rfl) ?_
    refine lv_if_eq (tgt := 72) hx hb dX5_areSeveral_30 (by decide) (fun h => absurd h (by decide)) (fun _ => ?_)
    refine lv_aload_n hx hb dX5_areSeveral_33 rfl (lv_at hl 5 rfl) ?_
    refine va_get (D := D) (ci := 5) (v := .ref mP) (C := RX5) (T := TX5) (N := 17) hx hb hts k_2 hown hK.1 hP 0 rfl rfl 0 (by decide) k_1 (fun _ h9 => h9) rfl dX5_areSeveral_34 ?_
    refine lv_iconst (v := 3) hx hb dX5_areSeveral_37 (by decide) ?_
    refine lv_aload_n hx hb dX5_areSeveral_38 rfl (lv_at hl 5 rfl) ?_
    refine va_get (D := D) (ci := 5) (v := .ref mV) (C := RX5) (T := TX5) (N := 17) hx hb hts k_2 hown hK.1 hP 0 rfl rfl 7 (by decide) k_3 (fun _ h9 => h9) rfl dX5_areSeveral_39 ?_
    refine lv_iload_n hx hb dX5_areSeveral_42 rfl (lv_at hl 3 rfl) ?_
    refine ld_i hx hb hK.1 hP 2 0 rfl rfl (ix_lit (by decide)) 3 (by decide) (v := gv 3) rfl dX5_areSeveral_43 ?_
    refine lv_imul hx hb dX5_areSeveral_44 ?_
    refine lv_iload hx hb dX5_areSeveral_45 (lv_at hl 0 rfl) ?_
    refine lv_iadd hx hb dX5_areSeveral_47 ?_
    refine ld_i hx hb hK.1 hP 1 0 rfl rfl (ix3l (hv 3 (by decide)) 1 (by decide)) (((3 * (gv 3)) + 1).toNatClampNeg) rfl (v := gp (((3 * (gv 3)) + 1).toNatClampNeg)) rfl dX5_areSeveral_48 ?_
    refine lv_aload_n hx hb dX5_areSeveral_49 rfl (lv_at hl 5 rfl) ?_
    refine va_get (D := D) (ci := 5) (v := .ref mP) (C := RX5) (T := TX5) (N := 17) hx hb hts k_2 hown hK.1 hP 0 rfl rfl 0 (by decide) k_1 (fun _ h9 => h9) rfl dX5_areSeveral_50 ?_
    refine lv_iconst (v := 3) hx hb dX5_areSeveral_53 (by decide) ?_
    refine lv_aload_n hx hb dX5_areSeveral_54 rfl (lv_at hl 5 rfl) ?_
    refine va_get (D := D) (ci := 5) (v := .ref mV) (C := RX5) (T := TX5) (N := 17) hx hb hts k_2 hown hK.1 hP 0 rfl rfl 7 (by decide) k_3 (fun _ h9 => h9) rfl dX5_areSeveral_55 ?_
    refine lv_iload_n hx hb dX5_areSeveral_58 rfl (lv_at hl 2 rfl) ?_
    refine ld_i hx hb hK.1 hP 2 0 rfl rfl (ix_lit (by decide)) 1 (by decide) (v := gv 1) rfl dX5_areSeveral_59 ?_
    refine lv_imul hx hb dX5_areSeveral_60 ?_
    refine lv_iload hx hb dX5_areSeveral_61 (lv_at hl 0 rfl) ?_
    refine lv_iadd hx hb dX5_areSeveral_63 ?_
    refine ld_i hx hb hK.1 hP 1 0 rfl rfl (ix3l (hv 1 (by decide)) 1 (by decide)) (((3 * (gv 1)) + 1).toNatClampNeg) rfl (v := gp (((3 * (gv 1)) + 1).toNatClampNeg)) rfl dX5_areSeveral_64 ?_
    refine lv_icmp_ne (tgt := 72) hx hb dX5_areSeveral_65 (by decide) (fun c_55 => ?_) (fun c_55 => ?_)
    · skip
      refine lv_iconst (v := 0) hx hb dX5_areSeveral_72 (by decide) ?_
      refine lv_istore (lv' := [(4, .int 0), (5, .int 1), (3, .int 1), (2, .int 3), (1, .int 0), (0, .ref o)]) hx hb dX5_areSeveral_73 hl (by decide) rfl (fun ls hl => ?_)
      refine lv_iinc (v := 2) (lv' := [(5, .int 2), (4, .int 0), (3, .int 1), (2, .int 3), (1, .int 0), (0, .ref o)]) hx hb dX5_areSeveral_75 hl (k := 1) rfl (by decide) (by decide) rfl (fun ls hl => ?_)
      refine lv_goto (tgt := 22) hx hb dX5_areSeveral_78 (by decide) ?_
      refine lv_iload hx hb dX5_areSeveral_22 (lv_at hl 0 rfl) ?_
      refine lv_iconst (v := 3) hx hb dX5_areSeveral_24 (by decide) ?_
      refine lv_icmp_ge (tgt := 81) hx hb dX5_areSeveral_25 (by decide) (fun h => absurd h (by decide)) (fun _ => ?_)
      refine lv_iload hx hb dX5_areSeveral_28 (lv_at hl 1 rfl) ?_
      refine lv_if_eq (tgt := 72) hx hb dX5_areSeveral_30 (by decide) (fun _ => ?_) (fun h => absurd (by decide) h)
      refine lv_iconst (v := 0) hx hb dX5_areSeveral_72 (by decide) ?_
      refine lv_istore (lv' := [(4, .int 0), (5, .int 2), (3, .int 1), (2, .int 3), (1, .int 0), (0, .ref o)]) hx hb dX5_areSeveral_73 hl (by decide) rfl (fun ls hl => ?_)
      refine lv_iinc (v := 3) (lv' := [(5, .int 3), (4, .int 0), (3, .int 1), (2, .int 3), (1, .int 0), (0, .ref o)]) hx hb dX5_areSeveral_75 hl (k := 1) rfl (by decide) (by decide) rfl (fun ls hl => ?_)
      refine lv_goto (tgt := 22) hx hb dX5_areSeveral_78 (by decide) ?_
      refine lv_iload hx hb dX5_areSeveral_22 (lv_at hl 0 rfl) ?_
      refine lv_iconst (v := 3) hx hb dX5_areSeveral_24 (by decide) ?_
      refine lv_icmp_ge (tgt := 81) hx hb dX5_areSeveral_25 (by decide) (fun _ => ?_) (fun h => absurd (by decide) h)
      refine lv_iload_n hx hb dX5_areSeveral_81 rfl (lv_at hl 4 rfl) ?_
      refine lv_if_ne (tgt := 90) hx hb dX5_areSeveral_82 (by decide) (fun h => absurd (by decide) h) (fun _ => ?_)
      refine lv_iload hx hb dX5_areSeveral_85 (lv_at hl 1 rfl) ?_
      refine lv_if_eq (tgt := 94) hx hb dX5_areSeveral_87 (by decide) (fun _ => ?_) (fun h => absurd (by decide) h)
      refine lv_iconst (v := 0) hx hb dX5_areSeveral_94 (by decide) ?_
      refine lv_istore_n (lv' := [(1, .int 0), (5, .int 3), (4, .int 0), (3, .int 1), (2, .int 3), (0, .ref o)]) hx hb dX5_areSeveral_95 rfl hl (by decide) rfl (fun ls hl => ?_)
      have hq1 : z5_areSeveral_j7 gp gv = z5_areSeveral_j8 gp gv := by unfold z5_areSeveral_j7; rw [if_pos c_54, if_neg c_55]
      have hq : z5_areSeveral gp gv = z5_areSeveral_j8 gp gv := hj_22.symm.trans hq1
      exact jo_X5_areSeveral_23 hv hx hb hr hml hown hts hlk hP hK hq.symm ls (lv_sub hl [3, 4, 0, 5] rfl)
    · skip
      refine lv_iconst (v := 1) hx hb dX5_areSeveral_68 (by decide) ?_
      refine lv_goto (tgt := 73) hx hb dX5_areSeveral_69 (by decide) ?_
      refine lv_istore (lv' := [(4, .int 1), (5, .int 1), (3, .int 1), (2, .int 3), (1, .int 0), (0, .ref o)]) hx hb dX5_areSeveral_73 hl (by decide) rfl (fun ls hl => ?_)
      refine lv_iinc (v := 2) (lv' := [(5, .int 2), (4, .int 1), (3, .int 1), (2, .int 3), (1, .int 0), (0, .ref o)]) hx hb dX5_areSeveral_75 hl (k := 1) rfl (by decide) (by decide) rfl (fun ls hl => ?_)
      refine lv_goto (tgt := 22) hx hb dX5_areSeveral_78 (by decide) ?_
      refine lv_iload hx hb dX5_areSeveral_22 (lv_at hl 0 rfl) ?_
      refine lv_iconst (v := 3) hx hb dX5_areSeveral_24 (by decide) ?_
      refine lv_icmp_ge (tgt := 81) hx hb dX5_areSeveral_25 (by decide) (fun h => absurd h (by decide)) (fun _ => ?_)
      refine lv_iload hx hb dX5_areSeveral_28 (lv_at hl 1 rfl) ?_
      refine lv_if_eq (tgt := 72) hx hb dX5_areSeveral_30 (by decide) (fun h => absurd h (by decide)) (fun _ => ?_)
      refine lv_aload_n hx hb dX5_areSeveral_33 rfl (lv_at hl 5 rfl) ?_
      refine va_get (D := D) (ci := 5) (v := .ref mP) (C := RX5) (T := TX5) (N := 17) hx hb hts k_2 hown hK.1 hP 0 rfl rfl 0 (by decide) k_1 (fun _ h9 => h9) rfl dX5_areSeveral_34 ?_
      refine lv_iconst (v := 3) hx hb dX5_areSeveral_37 (by decide) ?_
      refine lv_aload_n hx hb dX5_areSeveral_38 rfl (lv_at hl 5 rfl) ?_
      refine va_get (D := D) (ci := 5) (v := .ref mV) (C := RX5) (T := TX5) (N := 17) hx hb hts k_2 hown hK.1 hP 0 rfl rfl 7 (by decide) k_3 (fun _ h9 => h9) rfl dX5_areSeveral_39 ?_
      refine lv_iload_n hx hb dX5_areSeveral_42 rfl (lv_at hl 3 rfl) ?_
      refine ld_i hx hb hK.1 hP 2 0 rfl rfl (ix_lit (by decide)) 3 (by decide) (v := gv 3) rfl dX5_areSeveral_43 ?_
      refine lv_imul hx hb dX5_areSeveral_44 ?_
      refine lv_iload hx hb dX5_areSeveral_45 (lv_at hl 0 rfl) ?_
      refine lv_iadd hx hb dX5_areSeveral_47 ?_
      refine ld_i hx hb hK.1 hP 1 0 rfl rfl (ix3l (hv 3 (by decide)) 2 (by decide)) (((3 * (gv 3)) + 2).toNatClampNeg) rfl (v := gp (((3 * (gv 3)) + 2).toNatClampNeg)) rfl dX5_areSeveral_48 ?_
      refine lv_aload_n hx hb dX5_areSeveral_49 rfl (lv_at hl 5 rfl) ?_
      refine va_get (D := D) (ci := 5) (v := .ref mP) (C := RX5) (T := TX5) (N := 17) hx hb hts k_2 hown hK.1 hP 0 rfl rfl 0 (by decide) k_1 (fun _ h9 => h9) rfl dX5_areSeveral_50 ?_
      refine lv_iconst (v := 3) hx hb dX5_areSeveral_53 (by decide) ?_
      refine lv_aload_n hx hb dX5_areSeveral_54 rfl (lv_at hl 5 rfl) ?_
      refine va_get (D := D) (ci := 5) (v := .ref mV) (C := RX5) (T := TX5) (N := 17) hx hb hts k_2 hown hK.1 hP 0 rfl rfl 7 (by decide) k_3 (fun _ h9 => h9) rfl dX5_areSeveral_55 ?_
      refine lv_iload_n hx hb dX5_areSeveral_58 rfl (lv_at hl 2 rfl) ?_
      refine ld_i hx hb hK.1 hP 2 0 rfl rfl (ix_lit (by decide)) 1 (by decide) (v := gv 1) rfl dX5_areSeveral_59 ?_
      refine lv_imul hx hb dX5_areSeveral_60 ?_
      refine lv_iload hx hb dX5_areSeveral_61 (lv_at hl 0 rfl) ?_
      refine lv_iadd hx hb dX5_areSeveral_63 ?_
      refine ld_i hx hb hK.1 hP 1 0 rfl rfl (ix3l (hv 1 (by decide)) 2 (by decide)) (((3 * (gv 1)) + 2).toNatClampNeg) rfl (v := gp (((3 * (gv 1)) + 2).toNatClampNeg)) rfl dX5_areSeveral_64 ?_
      refine lv_icmp_ne (tgt := 72) hx hb dX5_areSeveral_65 (by decide) (fun c_56 => ?_) (fun c_56 => ?_)
      · skip
        refine lv_iconst (v := 0) hx hb dX5_areSeveral_72 (by decide) ?_
        refine lv_istore (lv' := [(4, .int 0), (5, .int 2), (3, .int 1), (2, .int 3), (1, .int 0), (0, .ref o)]) hx hb dX5_areSeveral_73 hl (by decide) rfl (fun ls hl => ?_)
        refine lv_iinc (v := 3) (lv' := [(5, .int 3), (4, .int 0), (3, .int 1), (2, .int 3), (1, .int 0), (0, .ref o)]) hx hb dX5_areSeveral_75 hl (k := 1) rfl (by decide) (by decide) rfl (fun ls hl => ?_)
        refine lv_goto (tgt := 22) hx hb dX5_areSeveral_78 (by decide) ?_
        refine lv_iload hx hb dX5_areSeveral_22 (lv_at hl 0 rfl) ?_
        refine lv_iconst (v := 3) hx hb dX5_areSeveral_24 (by decide) ?_
        refine lv_icmp_ge (tgt := 81) hx hb dX5_areSeveral_25 (by decide) (fun _ => ?_) (fun h => absurd (by decide) h)
        refine lv_iload_n hx hb dX5_areSeveral_81 rfl (lv_at hl 4 rfl) ?_
        refine lv_if_ne (tgt := 90) hx hb dX5_areSeveral_82 (by decide) (fun h => absurd (by decide) h) (fun _ => ?_)
        refine lv_iload hx hb dX5_areSeveral_85 (lv_at hl 1 rfl) ?_
        refine lv_if_eq (tgt := 94) hx hb dX5_areSeveral_87 (by decide) (fun _ => ?_) (fun h => absurd (by decide) h)
        refine lv_iconst (v := 0) hx hb dX5_areSeveral_94 (by decide) ?_
        refine lv_istore_n (lv' := [(1, .int 0), (5, .int 3), (4, .int 0), (3, .int 1), (2, .int 3), (0, .ref o)]) hx hb dX5_areSeveral_95 rfl hl (by decide) rfl (fun ls hl => ?_)
        have hq1 : z5_areSeveral_j7 gp gv = z5_areSeveral_j8 gp gv := by unfold z5_areSeveral_j7; rw [if_pos c_54, if_pos c_55, if_neg c_56]
        have hq : z5_areSeveral gp gv = z5_areSeveral_j8 gp gv := hj_22.symm.trans hq1
        exact jo_X5_areSeveral_23 hv hx hb hr hml hown hts hlk hP hK hq.symm ls (lv_sub hl [3, 4, 0, 5] rfl)
      · skip
        refine lv_iconst (v := 1) hx hb dX5_areSeveral_68 (by decide) ?_
        refine lv_goto (tgt := 73) hx hb dX5_areSeveral_69 (by decide) ?_
        refine lv_istore (lv' := [(4, .int 1), (5, .int 2), (3, .int 1), (2, .int 3), (1, .int 0), (0, .ref o)]) hx hb dX5_areSeveral_73 hl (by decide) rfl (fun ls hl => ?_)
        refine lv_iinc (v := 3) (lv' := [(5, .int 3), (4, .int 1), (3, .int 1), (2, .int 3), (1, .int 0), (0, .ref o)]) hx hb dX5_areSeveral_75 hl (k := 1) rfl (by decide) (by decide) rfl (fun ls hl => ?_)
        refine lv_goto (tgt := 22) hx hb dX5_areSeveral_78 (by decide) ?_
        refine lv_iload hx hb dX5_areSeveral_22 (lv_at hl 0 rfl) ?_
        refine lv_iconst (v := 3) hx hb dX5_areSeveral_24 (by decide) ?_
        refine lv_icmp_ge (tgt := 81) hx hb dX5_areSeveral_25 (by decide) (fun _ => ?_) (fun h => absurd (by decide) h)
        refine lv_iload_n hx hb dX5_areSeveral_81 rfl (lv_at hl 4 rfl) ?_
        refine lv_if_ne (tgt := 90) hx hb dX5_areSeveral_82 (by decide) (fun h => absurd (by decide) h) (fun _ => ?_)
        refine lv_iload hx hb dX5_areSeveral_85 (lv_at hl 1 rfl) ?_
        refine lv_if_eq (tgt := 94) hx hb dX5_areSeveral_87 (by decide) (fun h => absurd h (by decide)) (fun _ => ?_)
        refine lv_iconst (v := 1) hx hb dX5_areSeveral_90 (by decide) ?_
        refine lv_goto (tgt := 95) hx hb dX5_areSeveral_91 (by decide) ?_
        refine lv_istore_n (lv' := [(1, .int 1), (5, .int 3), (4, .int 1), (3, .int 1), (2, .int 3), (0, .ref o)]) hx hb dX5_areSeveral_95 rfl hl (by decide) rfl (fun ls hl => ?_)
        have hq1 : z5_areSeveral_j7 gp gv = 1 := by unfold z5_areSeveral_j7; rw [if_pos c_54, if_pos c_55, if_pos c_56]
        have hq : z5_areSeveral gp gv = 1 := hj_22.symm.trans hq1
        exact jo_X5_areSeveral_8 hv hx hb hr hml hown hts hlk hP hK hq ls (lv_sub hl [5, 0, 4, 3] rfl)
set_option maxHeartbeats 4000000 in
set_option maxRecDepth 100000 in
theorem jo_X5_areSeveral_21 {l : Launch} {D : va_G} {cI cJ : ClassId} {pG : Program} {eG : Env} {sG : State} {mG : MethodId} {below : List Frame} {meth : Method} {cG : Code} {o : Nat} {mP : Nat} {mL : Nat} {mC : Nat} {mN : Nat} {mF : Nat} {mR : Nat} {mD : Nat} {mV : Nat} {mX : Nat} {mA : Nat} {mK : Nat} {mT : Nat} {mU : Nat} {mH : Nat} {mI : Nat} {cm : Int32} {pm : Int32} {gp : Nat → Int32} {gv : Nat → Int32} (hv : ∀ n, n < 5 → ok_i (gv n)) (hx : pG.tables.exec = Jvm.exec) (hb : cG.code = cX5_areSeveral) (hr : meth.sig.returnType = some .boolean) (hml : cG.maxLocals = 7) (hown : sG.vm.findClass RX5 = some mG.cls) (hts : ∀ x ∈ wsX5_areSeveral, x.before ([.ref o] : List Value).toArray sG = true) (hlk : meth.locks = false) (hP : va_P D vwCl [kM o mP mL mC mN mF mR mD mV mX mA mK cm mT pm mU mH mI, kA mP cI 180 gp, kA mV cI 5 gv] sG.heap) (hK : gd_K D cI cJ sG) (hj_21 : z5_areSeveral_j6 gp gv = z5_areSeveral gp gv) (ls : Array Slot) (hl : lv_has ls 7 [(2, .int 2), (1, .int 0), (0, .ref o)]) : W pG l eG (headSpec wsX5_areSeveral ({ frames := 1, cells := 0, slots := 0, locals := 30 })).room sG mG ([.ref o] : List Value).toArray below meth cG sG.heap [] 0 0 (MQ below (vp_Si (fun r : Int32 => r = z5_areSeveral gp gv)) ([.ref o] : List Value).toArray sG 0 0 (fun _ => False)) (F0 mG 196 ls []) := by
  have k_1 := hts (.fieldLink RX5 7 "ConicRowsModel" "points" "[I") (by decide +kernel)
  have k_2 : ∀ w ∈ wsX50, w ∈ wsX5_areSeveral := by decide +kernel
  have k_3 := hts (.fieldLink RX5 32 "ConicRowsModel" "five" "[I") (by decide +kernel)
  refine lv_iinc (v := 3) (lv' := [(2, .int 3), (1, .int 0), (0, .ref o)]) hx hb dX5_areSeveral_196 hl (k := 0) rfl (by decide) (by decide) rfl (fun ls hl => ?_)
  refine lv_goto (tgt := 4) hx hb dX5_areSeveral_199 (by decide) ?_
  refine lv_iload_n hx hb dX5_areSeveral_4 rfl (lv_at hl 0 rfl) ?_
  refine lv_iconst (v := 5) hx hb dX5_areSeveral_5 (by decide) ?_
  refine lv_icmp_ge (tgt := 202) hx hb dX5_areSeveral_6 (by decide) (fun h => absurd h (by decide)) (fun _ => ?_)
  refine lv_iconst (v := 0) hx hb dX5_areSeveral_9 (by decide) ?_
  refine lv_istore_n (lv' := [(3, .int 0), (2, .int 3), (1, .int 0), (0, .ref o)]) hx hb dX5_areSeveral_10 rfl hl (by decide) rfl (fun ls hl => ?_)
  refine lv_iload_n hx hb dX5_areSeveral_11 rfl (lv_at hl 0 rfl) ?_
  refine lv_iload_n hx hb dX5_areSeveral_12 rfl (lv_at hl 1 rfl) ?_
  refine lv_icmp_ge (tgt := 102) hx hb dX5_areSeveral_13 (by decide) (fun h => absurd h (by decide)) (fun _ => ?_)
  refine lv_iconst (v := 1) hx hb dX5_areSeveral_16 (by decide) ?_
  refine lv_istore (lv' := [(4, .int 1), (3, .int 0), (2, .int 3), (1, .int 0), (0, .ref o)]) hx hb dX5_areSeveral_17 hl (by decide) rfl (fun ls hl => ?_)
  refine lv_iconst (v := 0) hx hb dX5_areSeveral_19 (by decide) ?_
  refine lv_istore (lv' := [(5, .int 0), (4, .int 1), (3, .int 0), (2, .int 3), (1, .int 0), (0, .ref o)]) hx hb dX5_areSeveral_20 hl (by decide) rfl (fun ls hl => ?_)
  refine lv_iload hx hb dX5_areSeveral_22 (lv_at hl 0 rfl) ?_
  refine lv_iconst (v := 3) hx hb dX5_areSeveral_24 (by decide) ?_
  refine lv_icmp_ge (tgt := 81) hx hb dX5_areSeveral_25 (by decide) (fun h => absurd h (by decide)) (fun _ => ?_)
  refine lv_iload hx hb dX5_areSeveral_28 (lv_at hl 1 rfl) ?_
  refine lv_if_eq (tgt := 72) hx hb dX5_areSeveral_30 (by decide) (fun h => absurd h (by decide)) (fun _ => ?_)
  refine lv_aload_n hx hb dX5_areSeveral_33 rfl (lv_at hl 5 rfl) ?_
  refine va_get (D := D) (ci := 5) (v := .ref mP) (C := RX5) (T := TX5) (N := 17) hx hb hts k_2 hown hK.1 hP 0 rfl rfl 0 (by decide) k_1 (fun _ h9 => h9) rfl dX5_areSeveral_34 ?_
  refine lv_iconst (v := 3) hx hb dX5_areSeveral_37 (by decide) ?_
  refine lv_aload_n hx hb dX5_areSeveral_38 rfl (lv_at hl 5 rfl) ?_
  refine va_get (D := D) (ci := 5) (v := .ref mV) (C := RX5) (T := TX5) (N := 17) hx hb hts k_2 hown hK.1 hP 0 rfl rfl 7 (by decide) k_3 (fun _ h9 => h9) rfl dX5_areSeveral_39 ?_
  refine lv_iload_n hx hb dX5_areSeveral_42 rfl (lv_at hl 3 rfl) ?_
  refine ld_i hx hb hK.1 hP 2 0 rfl rfl (ix_lit (by decide)) 3 (by decide) (v := gv 3) rfl dX5_areSeveral_43 ?_
  refine lv_imul hx hb dX5_areSeveral_44 ?_
  refine lv_iload hx hb dX5_areSeveral_45 (lv_at hl 0 rfl) ?_
  refine lv_iadd hx hb dX5_areSeveral_47 ?_
  refine ld_i hx hb hK.1 hP 1 0 rfl rfl (ix3l (hv 3 (by decide)) 0 (by decide)) (((3 * (gv 3)) + 0).toNatClampNeg) rfl (v := gp (((3 * (gv 3)) + 0).toNatClampNeg)) rfl dX5_areSeveral_48 ?_
  refine lv_aload_n hx hb dX5_areSeveral_49 rfl (lv_at hl 5 rfl) ?_
  refine va_get (D := D) (ci := 5) (v := .ref mP) (C := RX5) (T := TX5) (N := 17) hx hb hts k_2 hown hK.1 hP 0 rfl rfl 0 (by decide) k_1 (fun _ h9 => h9) rfl dX5_areSeveral_50 ?_
  refine lv_iconst (v := 3) hx hb dX5_areSeveral_53 (by decide) ?_
  refine lv_aload_n hx hb dX5_areSeveral_54 rfl (lv_at hl 5 rfl) ?_
  refine va_get (D := D) (ci := 5) (v := .ref mV) (C := RX5) (T := TX5) (N := 17) hx hb hts k_2 hown hK.1 hP 0 rfl rfl 7 (by decide) k_3 (fun _ h9 => h9) rfl dX5_areSeveral_55 ?_
  refine lv_iload_n hx hb dX5_areSeveral_58 rfl (lv_at hl 2 rfl) ?_
  refine ld_i hx hb hK.1 hP 2 0 rfl rfl (ix_lit (by decide)) 0 (by decide) (v := gv 0) rfl dX5_areSeveral_59 ?_
  refine lv_imul hx hb dX5_areSeveral_60 ?_
  refine lv_iload hx hb dX5_areSeveral_61 (lv_at hl 0 rfl) ?_
  refine lv_iadd hx hb dX5_areSeveral_63 ?_
  refine ld_i hx hb hK.1 hP 1 0 rfl rfl (ix3l (hv 0 (by decide)) 0 (by decide)) (((3 * (gv 0)) + 0).toNatClampNeg) rfl (v := gp (((3 * (gv 0)) + 0).toNatClampNeg)) rfl dX5_areSeveral_64 ?_
  refine lv_icmp_ne (tgt := 72) hx hb dX5_areSeveral_65 (by decide) (fun c_57 => ?_) (fun c_57 => ?_)
  · skip
    refine lv_iconst (v := 0) hx hb dX5_areSeveral_72 (by decide) ?_
    refine lv_istore (lv' := [(4, .int 0), (5, .int 0), (3, .int 0), (2, .int 3), (1, .int 0), (0, .ref o)]) hx hb dX5_areSeveral_73 hl (by decide) rfl (fun ls hl => ?_)
    refine lv_iinc (v := 1) (lv' := [(5, .int 1), (4, .int 0), (3, .int 0), (2, .int 3), (1, .int 0), (0, .ref o)]) hx hb dX5_areSeveral_75 hl (k := 1) rfl (by decide) (by decide) rfl (fun ls hl => ?_)
    refine lv_goto (tgt := 22) hx hb dX5_areSeveral_78 (by decide) ?_
    refine lv_iload hx hb dX5_areSeveral_22 (lv_at hl 0 rfl) ?_
    refine lv_iconst (v := 3) hx hb dX5_areSeveral_24 (by decide) ?_
    refine lv_icmp_ge (tgt := 81) hx hb dX5_areSeveral_25 (by decide) (fun h => absurd h (by decide)) (fun _ => ?_)
    refine lv_iload hx hb dX5_areSeveral_28 (lv_at hl 1 rfl) ?_
    refine lv_if_eq (tgt := 72) hx hb dX5_areSeveral_30 (by decide) (fun _ => ?_) (fun h => absurd (by decide) h)
    refine lv_iconst (v := 0) hx hb dX5_areSeveral_72 (by decide) ?_
    refine lv_istore (lv' := [(4, .int 0), (5, .int 1), (3, .int 0), (2, .int 3), (1, .int 0), (0, .ref o)]) hx hb dX5_areSeveral_73 hl (by decide) rfl (fun ls hl => ?_)
    refine lv_iinc (v := 2) (lv' := [(5, .int 2), (4, .int 0), (3, .int 0), (2, .int 3), (1, .int 0), (0, .ref o)]) hx hb dX5_areSeveral_75 hl (k := 1) rfl (by decide) (by decide) rfl (fun ls hl => ?_)
    refine lv_goto (tgt := 22) hx hb dX5_areSeveral_78 (by decide) ?_
    refine lv_iload hx hb dX5_areSeveral_22 (lv_at hl 0 rfl) ?_
    refine lv_iconst (v := 3) hx hb dX5_areSeveral_24 (by decide) ?_
    refine lv_icmp_ge (tgt := 81) hx hb dX5_areSeveral_25 (by decide) (fun h => absurd h (by decide)) (fun _ => ?_)
    refine lv_iload hx hb dX5_areSeveral_28 (lv_at hl 1 rfl) ?_
    refine lv_if_eq (tgt := 72) hx hb dX5_areSeveral_30 (by decide) (fun _ => ?_) (fun h => absurd (by decide) h)
    refine lv_iconst (v := 0) hx hb dX5_areSeveral_72 (by decide) ?_
    refine lv_istore (lv' := [(4, .int 0), (5, .int 2), (3, .int 0), (2, .int 3), (1, .int 0), (0, .ref o)]) hx hb dX5_areSeveral_73 hl (by decide) rfl (fun ls hl => ?_)
    refine lv_iinc (v := 3) (lv' := [(5, .int 3), (4, .int 0), (3, .int 0), (2, .int 3), (1, .int 0), (0, .ref o)]) hx hb dX5_areSeveral_75 hl (k := 1) rfl (by decide) (by decide) rfl (fun ls hl => ?_)
    refine lv_goto (tgt := 22) hx hb dX5_areSeveral_78 (by decide) ?_
    refine lv_iload hx hb dX5_areSeveral_22 (lv_at hl 0 rfl) ?_
    refine lv_iconst (v := 3) hx hb dX5_areSeveral_24 (by decide) ?_
    refine lv_icmp_ge (tgt := 81) hx hb dX5_areSeveral_25 (by decide) (fun _ => ?_) (fun h => absurd (by decide) h)
    refine lv_iload_n hx hb dX5_areSeveral_81 rfl (lv_at hl 4 rfl) ?_
    refine lv_if_ne (tgt := 90) hx hb dX5_areSeveral_82 (by decide) (fun h => absurd (by decide) h) (fun _ => ?_)
    refine lv_iload hx hb dX5_areSeveral_85 (lv_at hl 1 rfl) ?_
    refine lv_if_eq (tgt := 94) hx hb dX5_areSeveral_87 (by decide) (fun _ => ?_) (fun h => absurd (by decide) h)
    refine lv_iconst (v := 0) hx hb dX5_areSeveral_94 (by decide) ?_
    refine lv_istore_n (lv' := [(1, .int 0), (5, .int 3), (4, .int 0), (3, .int 0), (2, .int 3), (0, .ref o)]) hx hb dX5_areSeveral_95 rfl hl (by decide) rfl (fun ls hl => ?_)
    have hq1 : z5_areSeveral_j6 gp gv = z5_areSeveral_j7 gp gv := by unfold z5_areSeveral_j6; rw [if_neg c_57]
    have hq : z5_areSeveral gp gv = z5_areSeveral_j7 gp gv := hj_21.symm.trans hq1
    exact jo_X5_areSeveral_22 hv hx hb hr hml hown hts hlk hP hK hq.symm ls (lv_sub hl [3, 4, 0, 5] rfl)
  · skip
    refine lv_iconst (v := 1) hx hb dX5_areSeveral_68 (by decide) ?_
    refine lv_goto (tgt := 73) hx hb dX5_areSeveral_69 (by decide) ?_
    refine lv_istore (lv' := [(4, .int 1), (5, .int 0), (3, .int 0), (2, .int 3), (1, .int 0), (0, .ref o)]) hx hb dX5_areSeveral_73 hl (by decide) rfl (fun ls hl => ?_)
    refine lv_iinc (v := 1) (lv' := [(5, .int 1), (4, .int 1), (3, .int 0), (2, .int 3), (1, .int 0), (0, .ref o)]) hx hb dX5_areSeveral_75 hl (k := 1) rfl (by decide) (by decide) rfl (fun ls hl => ?_)
    refine lv_goto (tgt := 22) hx hb dX5_areSeveral_78 (by decide) ?_
    refine lv_iload hx hb dX5_areSeveral_22 (lv_at hl 0 rfl) ?_
    refine lv_iconst (v := 3) hx hb dX5_areSeveral_24 (by decide) ?_
    refine lv_icmp_ge (tgt := 81) hx hb dX5_areSeveral_25 (by decide) (fun h => absurd h (by decide)) (fun _ => ?_)
    refine lv_iload hx hb dX5_areSeveral_28 (lv_at hl 1 rfl) ?_
    refine lv_if_eq (tgt := 72) hx hb dX5_areSeveral_30 (by decide) (fun h => absurd h (by decide)) (fun _ => ?_)
    refine lv_aload_n hx hb dX5_areSeveral_33 rfl (lv_at hl 5 rfl) ?_
    refine va_get (D := D) (ci := 5) (v := .ref mP) (C := RX5) (T := TX5) (N := 17) hx hb hts k_2 hown hK.1 hP 0 rfl rfl 0 (by decide) k_1 (fun _ h9 => h9) rfl dX5_areSeveral_34 ?_
    refine lv_iconst (v := 3) hx hb dX5_areSeveral_37 (by decide) ?_
    refine lv_aload_n hx hb dX5_areSeveral_38 rfl (lv_at hl 5 rfl) ?_
    refine va_get (D := D) (ci := 5) (v := .ref mV) (C := RX5) (T := TX5) (N := 17) hx hb hts k_2 hown hK.1 hP 0 rfl rfl 7 (by decide) k_3 (fun _ h9 => h9) rfl dX5_areSeveral_39 ?_
    refine lv_iload_n hx hb dX5_areSeveral_42 rfl (lv_at hl 3 rfl) ?_
    refine ld_i hx hb hK.1 hP 2 0 rfl rfl (ix_lit (by decide)) 3 (by decide) (v := gv 3) rfl dX5_areSeveral_43 ?_
    refine lv_imul hx hb dX5_areSeveral_44 ?_
    refine lv_iload hx hb dX5_areSeveral_45 (lv_at hl 0 rfl) ?_
    refine lv_iadd hx hb dX5_areSeveral_47 ?_
    refine ld_i hx hb hK.1 hP 1 0 rfl rfl (ix3l (hv 3 (by decide)) 1 (by decide)) (((3 * (gv 3)) + 1).toNatClampNeg) rfl (v := gp (((3 * (gv 3)) + 1).toNatClampNeg)) rfl dX5_areSeveral_48 ?_
    refine lv_aload_n hx hb dX5_areSeveral_49 rfl (lv_at hl 5 rfl) ?_
    refine va_get (D := D) (ci := 5) (v := .ref mP) (C := RX5) (T := TX5) (N := 17) hx hb hts k_2 hown hK.1 hP 0 rfl rfl 0 (by decide) k_1 (fun _ h9 => h9) rfl dX5_areSeveral_50 ?_
    refine lv_iconst (v := 3) hx hb dX5_areSeveral_53 (by decide) ?_
    refine lv_aload_n hx hb dX5_areSeveral_54 rfl (lv_at hl 5 rfl) ?_
    refine va_get (D := D) (ci := 5) (v := .ref mV) (C := RX5) (T := TX5) (N := 17) hx hb hts k_2 hown hK.1 hP 0 rfl rfl 7 (by decide) k_3 (fun _ h9 => h9) rfl dX5_areSeveral_55 ?_
    refine lv_iload_n hx hb dX5_areSeveral_58 rfl (lv_at hl 2 rfl) ?_
    refine ld_i hx hb hK.1 hP 2 0 rfl rfl (ix_lit (by decide)) 0 (by decide) (v := gv 0) rfl dX5_areSeveral_59 ?_
    refine lv_imul hx hb dX5_areSeveral_60 ?_
    refine lv_iload hx hb dX5_areSeveral_61 (lv_at hl 0 rfl) ?_
    refine lv_iadd hx hb dX5_areSeveral_63 ?_
    refine ld_i hx hb hK.1 hP 1 0 rfl rfl (ix3l (hv 0 (by decide)) 1 (by decide)) (((3 * (gv 0)) + 1).toNatClampNeg) rfl (v := gp (((3 * (gv 0)) + 1).toNatClampNeg)) rfl dX5_areSeveral_64 ?_
    refine lv_icmp_ne (tgt := 72) hx hb dX5_areSeveral_65 (by decide) (fun c_58 => ?_) (fun c_58 => ?_)
    · skip
      refine lv_iconst (v := 0) hx hb dX5_areSeveral_72 (by decide) ?_
      refine lv_istore (lv' := [(4, .int 0), (5, .int 1), (3, .int 0), (2, .int 3), (1, .int 0), (0, .ref o)]) hx hb dX5_areSeveral_73 hl (by decide) rfl (fun ls hl => ?_)
      refine lv_iinc (v := 2) (lv' := [(5, .int 2), (4, .int 0), (3, .int 0), (2, .int 3), (1, .int 0), (0, .ref o)]) hx hb dX5_areSeveral_75 hl (k := 1) rfl (by decide) (by decide) rfl (fun ls hl => ?_)
      refine lv_goto (tgt := 22) hx hb dX5_areSeveral_78 (by decide) ?_
      refine lv_iload hx hb dX5_areSeveral_22 (lv_at hl 0 rfl) ?_
      refine lv_iconst (v := 3) hx hb dX5_areSeveral_24 (by decide) ?_
      refine lv_icmp_ge (tgt := 81) hx hb dX5_areSeveral_25 (by decide) (fun h => absurd h (by decide)) (fun _ => ?_)
      refine lv_iload hx hb dX5_areSeveral_28 (lv_at hl 1 rfl) ?_
      refine lv_if_eq (tgt := 72) hx hb dX5_areSeveral_30 (by decide) (fun _ => ?_) (fun h => absurd (by decide) h)
      refine lv_iconst (v := 0) hx hb dX5_areSeveral_72 (by decide) ?_
      refine lv_istore (lv' := [(4, .int 0), (5, .int 2), (3, .int 0), (2, .int 3), (1, .int 0), (0, .ref o)]) hx hb dX5_areSeveral_73 hl (by decide) rfl (fun ls hl => ?_)
      refine lv_iinc (v := 3) (lv' := [(5, .int 3), (4, .int 0), (3, .int 0), (2, .int 3), (1, .int 0), (0, .ref o)]) hx hb dX5_areSeveral_75 hl (k := 1) rfl (by decide) (by decide) rfl (fun ls hl => ?_)
      refine lv_goto (tgt := 22) hx hb dX5_areSeveral_78 (by decide) ?_
      refine lv_iload hx hb dX5_areSeveral_22 (lv_at hl 0 rfl) ?_
      refine lv_iconst (v := 3) hx hb dX5_areSeveral_24 (by decide) ?_
      refine lv_icmp_ge (tgt := 81) hx hb dX5_areSeveral_25 (by decide) (fun _ => ?_) (fun h => absurd (by decide) h)
      refine lv_iload_n hx hb dX5_areSeveral_81 rfl (lv_at hl 4 rfl) ?_
      refine lv_if_ne (tgt := 90) hx hb dX5_areSeveral_82 (by decide) (fun h => absurd (by decide) h) (fun _ => ?_)
      refine lv_iload hx hb dX5_areSeveral_85 (lv_at hl 1 rfl) ?_
      refine lv_if_eq (tgt := 94) hx hb dX5_areSeveral_87 (by decide) (fun _ => ?_) (fun h => absurd (by decide) h)
      refine lv_iconst (v := 0) hx hb dX5_areSeveral_94 (by decide) ?_
      refine lv_istore_n (lv' := [(1, .int 0), (5, .int 3), (4, .int 0), (3, .int 0), (2, .int 3), (0, .ref o)]) hx hb dX5_areSeveral_95 rfl hl (by decide) rfl (fun ls hl => ?_)
      have hq1 : z5_areSeveral_j6 gp gv = z5_areSeveral_j7 gp gv := by unfold z5_areSeveral_j6; rw [if_pos c_57, if_neg c_58]
      have hq : z5_areSeveral gp gv = z5_areSeveral_j7 gp gv := hj_21.symm.trans hq1
      exact jo_X5_areSeveral_22 hv hx hb hr hml hown hts hlk hP hK hq.symm ls (lv_sub hl [3, 4, 0, 5] rfl)
    · skip
      refine lv_iconst (v := 1) hx hb dX5_areSeveral_68 (by decide) ?_
      refine lv_goto (tgt := 73) hx hb dX5_areSeveral_69 (by decide) ?_
      refine lv_istore (lv' := [(4, .int 1), (5, .int 1), (3, .int 0), (2, .int 3), (1, .int 0), (0, .ref o)]) hx hb dX5_areSeveral_73 hl (by decide) rfl (fun ls hl => ?_)
      refine lv_iinc (v := 2) (lv' := [(5, .int 2), (4, .int 1), (3, .int 0), (2, .int 3), (1, .int 0), (0, .ref o)]) hx hb dX5_areSeveral_75 hl (k := 1) rfl (by decide) (by decide) rfl (fun ls hl => ?_)
      refine lv_goto (tgt := 22) hx hb dX5_areSeveral_78 (by decide) ?_
      refine lv_iload hx hb dX5_areSeveral_22 (lv_at hl 0 rfl) ?_
      refine lv_iconst (v := 3) hx hb dX5_areSeveral_24 (by decide) ?_
      refine lv_icmp_ge (tgt := 81) hx hb dX5_areSeveral_25 (by decide) (fun h => absurd h (by decide)) (fun _ => ?_)
      refine lv_iload hx hb dX5_areSeveral_28 (lv_at hl 1 rfl) ?_
      refine lv_if_eq (tgt := 72) hx hb dX5_areSeveral_30 (by decide) (fun h => absurd h (by decide)) (fun _ => ?_)
      refine lv_aload_n hx hb dX5_areSeveral_33 rfl (lv_at hl 5 rfl) ?_
      refine va_get (D := D) (ci := 5) (v := .ref mP) (C := RX5) (T := TX5) (N := 17) hx hb hts k_2 hown hK.1 hP 0 rfl rfl 0 (by decide) k_1 (fun _ h9 => h9) rfl dX5_areSeveral_34 ?_
      refine lv_iconst (v := 3) hx hb dX5_areSeveral_37 (by decide) ?_
      refine lv_aload_n hx hb dX5_areSeveral_38 rfl (lv_at hl 5 rfl) ?_
      refine va_get (D := D) (ci := 5) (v := .ref mV) (C := RX5) (T := TX5) (N := 17) hx hb hts k_2 hown hK.1 hP 0 rfl rfl 7 (by decide) k_3 (fun _ h9 => h9) rfl dX5_areSeveral_39 ?_
      refine lv_iload_n hx hb dX5_areSeveral_42 rfl (lv_at hl 3 rfl) ?_
      refine ld_i hx hb hK.1 hP 2 0 rfl rfl (ix_lit (by decide)) 3 (by decide) (v := gv 3) rfl dX5_areSeveral_43 ?_
      refine lv_imul hx hb dX5_areSeveral_44 ?_
      refine lv_iload hx hb dX5_areSeveral_45 (lv_at hl 0 rfl) ?_
      refine lv_iadd hx hb dX5_areSeveral_47 ?_
      refine ld_i hx hb hK.1 hP 1 0 rfl rfl (ix3l (hv 3 (by decide)) 2 (by decide)) (((3 * (gv 3)) + 2).toNatClampNeg) rfl (v := gp (((3 * (gv 3)) + 2).toNatClampNeg)) rfl dX5_areSeveral_48 ?_
      refine lv_aload_n hx hb dX5_areSeveral_49 rfl (lv_at hl 5 rfl) ?_
      refine va_get (D := D) (ci := 5) (v := .ref mP) (C := RX5) (T := TX5) (N := 17) hx hb hts k_2 hown hK.1 hP 0 rfl rfl 0 (by decide) k_1 (fun _ h9 => h9) rfl dX5_areSeveral_50 ?_
      refine lv_iconst (v := 3) hx hb dX5_areSeveral_53 (by decide) ?_
      refine lv_aload_n hx hb dX5_areSeveral_54 rfl (lv_at hl 5 rfl) ?_
      refine va_get (D := D) (ci := 5) (v := .ref mV) (C := RX5) (T := TX5) (N := 17) hx hb hts k_2 hown hK.1 hP 0 rfl rfl 7 (by decide) k_3 (fun _ h9 => h9) rfl dX5_areSeveral_55 ?_
      refine lv_iload_n hx hb dX5_areSeveral_58 rfl (lv_at hl 2 rfl) ?_
      refine ld_i hx hb hK.1 hP 2 0 rfl rfl (ix_lit (by decide)) 0 (by decide) (v := gv 0) rfl dX5_areSeveral_59 ?_
      refine lv_imul hx hb dX5_areSeveral_60 ?_
      refine lv_iload hx hb dX5_areSeveral_61 (lv_at hl 0 rfl) ?_
      refine lv_iadd hx hb dX5_areSeveral_63 ?_
      refine ld_i hx hb hK.1 hP 1 0 rfl rfl (ix3l (hv 0 (by decide)) 2 (by decide)) (((3 * (gv 0)) + 2).toNatClampNeg) rfl (v := gp (((3 * (gv 0)) + 2).toNatClampNeg)) rfl dX5_areSeveral_64 ?_
      refine lv_icmp_ne (tgt := 72) hx hb dX5_areSeveral_65 (by decide) (fun c_59 => ?_) (fun c_59 => ?_)
      · skip
        refine lv_iconst (v := 0) hx hb dX5_areSeveral_72 (by decide) ?_
        refine lv_istore (lv' := [(4, .int 0), (5, .int 2), (3, .int 0), (2, .int 3), (1, .int 0), (0, .ref o)]) hx hb dX5_areSeveral_73 hl (by decide) rfl (fun ls hl => ?_)
        refine lv_iinc (v := 3) (lv' := [(5, .int 3), (4, .int 0), (3, .int 0), (2, .int 3), (1, .int 0), (0, .ref o)]) hx hb dX5_areSeveral_75 hl (k := 1) rfl (by decide) (by decide) rfl (fun ls hl => ?_)
        refine lv_goto (tgt := 22) hx hb dX5_areSeveral_78 (by decide) ?_
        refine lv_iload hx hb dX5_areSeveral_22 (lv_at hl 0 rfl) ?_
        refine lv_iconst (v := 3) hx hb dX5_areSeveral_24 (by decide) ?_
        refine lv_icmp_ge (tgt := 81) hx hb dX5_areSeveral_25 (by decide) (fun _ => ?_) (fun h => absurd (by decide) h)
        refine lv_iload_n hx hb dX5_areSeveral_81 rfl (lv_at hl 4 rfl) ?_
        refine lv_if_ne (tgt := 90) hx hb dX5_areSeveral_82 (by decide) (fun h => absurd (by decide) h) (fun _ => ?_)
        refine lv_iload hx hb dX5_areSeveral_85 (lv_at hl 1 rfl) ?_
        refine lv_if_eq (tgt := 94) hx hb dX5_areSeveral_87 (by decide) (fun _ => ?_) (fun h => absurd (by decide) h)
        refine lv_iconst (v := 0) hx hb dX5_areSeveral_94 (by decide) ?_
        refine lv_istore_n (lv' := [(1, .int 0), (5, .int 3), (4, .int 0), (3, .int 0), (2, .int 3), (0, .ref o)]) hx hb dX5_areSeveral_95 rfl hl (by decide) rfl (fun ls hl => ?_)
        have hq1 : z5_areSeveral_j6 gp gv = z5_areSeveral_j7 gp gv := by unfold z5_areSeveral_j6; rw [if_pos c_57, if_pos c_58, if_neg c_59]
        have hq : z5_areSeveral gp gv = z5_areSeveral_j7 gp gv := hj_21.symm.trans hq1
        exact jo_X5_areSeveral_22 hv hx hb hr hml hown hts hlk hP hK hq.symm ls (lv_sub hl [3, 4, 0, 5] rfl)
      · skip
        refine lv_iconst (v := 1) hx hb dX5_areSeveral_68 (by decide) ?_
        refine lv_goto (tgt := 73) hx hb dX5_areSeveral_69 (by decide) ?_
        refine lv_istore (lv' := [(4, .int 1), (5, .int 2), (3, .int 0), (2, .int 3), (1, .int 0), (0, .ref o)]) hx hb dX5_areSeveral_73 hl (by decide) rfl (fun ls hl => ?_)
        refine lv_iinc (v := 3) (lv' := [(5, .int 3), (4, .int 1), (3, .int 0), (2, .int 3), (1, .int 0), (0, .ref o)]) hx hb dX5_areSeveral_75 hl (k := 1) rfl (by decide) (by decide) rfl (fun ls hl => ?_)
        refine lv_goto (tgt := 22) hx hb dX5_areSeveral_78 (by decide) ?_
        refine lv_iload hx hb dX5_areSeveral_22 (lv_at hl 0 rfl) ?_
        refine lv_iconst (v := 3) hx hb dX5_areSeveral_24 (by decide) ?_
        refine lv_icmp_ge (tgt := 81) hx hb dX5_areSeveral_25 (by decide) (fun _ => ?_) (fun h => absurd (by decide) h)
        refine lv_iload_n hx hb dX5_areSeveral_81 rfl (lv_at hl 4 rfl) ?_
        refine lv_if_ne (tgt := 90) hx hb dX5_areSeveral_82 (by decide) (fun h => absurd (by decide) h) (fun _ => ?_)
        refine lv_iload hx hb dX5_areSeveral_85 (lv_at hl 1 rfl) ?_
        refine lv_if_eq (tgt := 94) hx hb dX5_areSeveral_87 (by decide) (fun h => absurd h (by decide)) (fun _ => ?_)
        refine lv_iconst (v := 1) hx hb dX5_areSeveral_90 (by decide) ?_
        refine lv_goto (tgt := 95) hx hb dX5_areSeveral_91 (by decide) ?_
        refine lv_istore_n (lv' := [(1, .int 1), (5, .int 3), (4, .int 1), (3, .int 0), (2, .int 3), (0, .ref o)]) hx hb dX5_areSeveral_95 rfl hl (by decide) rfl (fun ls hl => ?_)
        have hq1 : z5_areSeveral_j6 gp gv = 1 := by unfold z5_areSeveral_j6; rw [if_pos c_57, if_pos c_58, if_pos c_59]
        have hq : z5_areSeveral gp gv = 1 := hj_21.symm.trans hq1
        exact jo_X5_areSeveral_9 hv hx hb hr hml hown hts hlk hP hK hq ls (lv_sub hl [5, 0, 4, 3] rfl)
set_option maxHeartbeats 4000000 in
set_option maxRecDepth 100000 in
theorem jo_X5_areSeveral_20 {l : Launch} {D : va_G} {cI cJ : ClassId} {pG : Program} {eG : Env} {sG : State} {mG : MethodId} {below : List Frame} {meth : Method} {cG : Code} {o : Nat} {mP : Nat} {mL : Nat} {mC : Nat} {mN : Nat} {mF : Nat} {mR : Nat} {mD : Nat} {mV : Nat} {mX : Nat} {mA : Nat} {mK : Nat} {mT : Nat} {mU : Nat} {mH : Nat} {mI : Nat} {cm : Int32} {pm : Int32} {gp : Nat → Int32} {gv : Nat → Int32} (hv : ∀ n, n < 5 → ok_i (gv n)) (hx : pG.tables.exec = Jvm.exec) (hb : cG.code = cX5_areSeveral) (hr : meth.sig.returnType = some .boolean) (hml : cG.maxLocals = 7) (hown : sG.vm.findClass RX5 = some mG.cls) (hts : ∀ x ∈ wsX5_areSeveral, x.before ([.ref o] : List Value).toArray sG = true) (hlk : meth.locks = false) (hP : va_P D vwCl [kM o mP mL mC mN mF mR mD mV mX mA mK cm mT pm mU mH mI, kA mP cI 180 gp, kA mV cI 5 gv] sG.heap) (hK : gd_K D cI cJ sG) (hj_20 : z5_areSeveral_j5 gp gv = z5_areSeveral gp gv) (ls : Array Slot) (hl : lv_has ls 7 [(3, .int 1), (2, .int 2), (1, .int 0), (0, .ref o)]) : W pG l eG (headSpec wsX5_areSeveral ({ frames := 1, cells := 0, slots := 0, locals := 30 })).room sG mG ([.ref o] : List Value).toArray below meth cG sG.heap [] 0 0 (MQ below (vp_Si (fun r : Int32 => r = z5_areSeveral gp gv)) ([.ref o] : List Value).toArray sG 0 0 (fun _ => False)) (F0 mG 96 ls []) := by
  have k_1 := hts (.fieldLink RX5 7 "ConicRowsModel" "points" "[I") (by decide +kernel)
  have k_2 : ∀ w ∈ wsX50, w ∈ wsX5_areSeveral := by decide +kernel
  have k_3 := hts (.fieldLink RX5 32 "ConicRowsModel" "five" "[I") (by decide +kernel)
  refine lv_iinc (v := 2) (lv' := [(3, .int 2), (2, .int 2), (1, .int 0), (0, .ref o)]) hx hb dX5_areSeveral_96 hl (k := 0) rfl (by decide) (by decide) rfl (fun ls hl => ?_)
  refine lv_goto (tgt := 11) hx hb dX5_areSeveral_99 (by decide) ?_
  refine lv_iload_n hx hb dX5_areSeveral_11 rfl (lv_at hl 0 rfl) ?_
  refine lv_iload_n hx hb dX5_areSeveral_12 rfl (lv_at hl 1 rfl) ?_
  refine lv_icmp_ge (tgt := 102) hx hb dX5_areSeveral_13 (by decide) (fun _ => ?_) (fun h => absurd (by decide) h)
  refine lv_iload_n hx hb dX5_areSeveral_102 rfl (lv_at hl 1 rfl) ?_
  refine lv_iconst (v := 1) hx hb dX5_areSeveral_103 (by decide) ?_
  refine lv_iadd hx hb dX5_areSeveral_104 ?_
  refine lv_eqi (v := 3) (by decide) ?_
  refine lv_iconst (v := 5) hx hb dX5_areSeveral_105 (by decide) ?_
  refine lv_irem hx hb dX5_areSeveral_106 (by decide) ?_
  refine lv_eqi (v := 3) (by decide) ?_
  refine lv_istore_n (lv' := [(3, .int 3), (2, .int 2), (1, .int 0), (0, .ref o)]) hx hb dX5_areSeveral_107 rfl hl (by decide) rfl (fun ls hl => ?_)
  refine lv_iload_n hx hb dX5_areSeveral_108 rfl (lv_at hl 1 rfl) ?_
  refine lv_iconst (v := 2) hx hb dX5_areSeveral_109 (by decide) ?_
  refine lv_iadd hx hb dX5_areSeveral_110 ?_
  refine lv_eqi (v := 4) (by decide) ?_
  refine lv_iconst (v := 5) hx hb dX5_areSeveral_111 (by decide) ?_
  refine lv_irem hx hb dX5_areSeveral_112 (by decide) ?_
  refine lv_eqi (v := 4) (by decide) ?_
  refine lv_istore (lv' := [(4, .int 4), (3, .int 3), (2, .int 2), (1, .int 0), (0, .ref o)]) hx hb dX5_areSeveral_113 hl (by decide) rfl (fun ls hl => ?_)
  refine lv_iload_n hx hb dX5_areSeveral_115 rfl (lv_at hl 2 rfl) ?_
  refine lv_iconst (v := 3) hx hb dX5_areSeveral_116 (by decide) ?_
  refine lv_iadd hx hb dX5_areSeveral_117 ?_
  refine lv_eqi (v := 5) (by decide) ?_
  refine lv_iconst (v := 5) hx hb dX5_areSeveral_118 (by decide) ?_
  refine lv_irem hx hb dX5_areSeveral_119 (by decide) ?_
  refine lv_eqi (v := 0) (by decide) ?_
  refine lv_istore (lv' := [(5, .int 0), (4, .int 4), (3, .int 3), (2, .int 2), (1, .int 0), (0, .ref o)]) hx hb dX5_areSeveral_120 hl (by decide) rfl (fun ls hl => ?_)
  refine lv_iload_n hx hb dX5_areSeveral_122 rfl (lv_at hl 3 rfl) ?_
  refine lv_iconst (v := 4) hx hb dX5_areSeveral_123 (by decide) ?_
  refine lv_iadd hx hb dX5_areSeveral_124 ?_
  refine lv_eqi (v := 6) (by decide) ?_
  refine lv_iconst (v := 5) hx hb dX5_areSeveral_125 (by decide) ?_
  refine lv_irem hx hb dX5_areSeveral_126 (by decide) ?_
  refine lv_eqi (v := 1) (by decide) ?_
  refine lv_istore (lv' := [(6, .int 1), (5, .int 0), (4, .int 4), (3, .int 3), (2, .int 2), (1, .int 0), (0, .ref o)]) hx hb dX5_areSeveral_127 hl (by decide) rfl (fun ls hl => ?_)
  refine lv_iload_n hx hb dX5_areSeveral_129 rfl (lv_at hl 5 rfl) ?_
  refine lv_if_ne (tgt := 190) hx hb dX5_areSeveral_130 (by decide) (fun h => absurd (by decide) h) (fun _ => ?_)
  refine lv_aload_n hx hb dX5_areSeveral_133 rfl (lv_at hl 6 rfl) ?_
  refine lv_iload_n hx hb dX5_areSeveral_134 rfl (lv_at hl 3 rfl) ?_
  refine lv_iload hx hb dX5_areSeveral_135 (lv_at hl 2 rfl) ?_
  refine lv_iload hx hb dX5_areSeveral_137 (lv_at hl 1 rfl) ?_
  have hPc := hP.sub (ws' := [kM o mP mL mC mN mF mR mD mV mX mA mK cm mT pm mU mH mI, kA mP cI 180 gp, kA mV cI 5 gv]) [0, 1, 2] rfl
  refine cr_l (va_runV (As := [.int 3, .int 4, .int 0]) (rest := []) ⟨hx, hb, hml, hown, hts⟩ (c_X5_spreadOf l D cI cJ o mP mL mC mN mF mR mD mV mX mA mK mT mU mH mI cm pm gp gv 3 4 0 (ix_lit (by decide)) (ix_lit (by decide)) (ix_lit (by decide)) hv) (cwV 3 hts gX5_areSeveral_X5_spreadOf rfl rfl rfl (by decide +kernel) ⟨Nat.le_of_ble_eq_true rfl, Nat.le_of_ble_eq_true rfl⟩) ⟨gd_blR, va_recv hK.1 hPc (ci := 5) (q0 := 0) rfl rfl, gd_prR hPc hK⟩ rfl rfl hl.1 rfl (lv_room (Nat.le_of_ble_eq_true rfl)) dX5_areSeveral_139 ⟨Nat.zero_le _, Nat.zero_le _⟩) (fun r_139 hw => ?_)
  subst hw
  clear hPc
  refine lv_lconst (v := 0) hx hb dX5_areSeveral_142 (by decide) ?_
  refine lb_ne (tgt := 194) hx hb dX5_areSeveral_143 rfl dX5_areSeveral_144 (by decide) (fun c_60 => ?_) (fun c_60 => ?_)
  · skip
    refine lv_iconst (v := 0) hx hb dX5_areSeveral_194 (by decide) ?_
    refine lv_istore_n (lv' := [(1, .int 0), (6, .int 1), (5, .int 0), (4, .int 4), (3, .int 3), (2, .int 2), (0, .ref o)]) hx hb dX5_areSeveral_195 rfl hl (by decide) rfl (fun ls hl => ?_)
    have hq1 : z5_areSeveral_j5 gp gv = z5_areSeveral_j6 gp gv := by unfold z5_areSeveral_j5; rw [if_neg c_60]
    have hq : z5_areSeveral gp gv = z5_areSeveral_j6 gp gv := hj_20.symm.trans hq1
    exact jo_X5_areSeveral_21 hv hx hb hr hml hown hts hlk hP hK hq.symm ls (lv_sub hl [5, 0, 6] rfl)
  · skip
    refine lv_aload_n hx hb dX5_areSeveral_147 rfl (lv_at hl 6 rfl) ?_
    refine lv_iload_n hx hb dX5_areSeveral_148 rfl (lv_at hl 3 rfl) ?_
    refine lv_iload hx hb dX5_areSeveral_149 (lv_at hl 2 rfl) ?_
    refine lv_iload hx hb dX5_areSeveral_151 (lv_at hl 0 rfl) ?_
    have hPc := hP.sub (ws' := [kM o mP mL mC mN mF mR mD mV mX mA mK cm mT pm mU mH mI, kA mP cI 180 gp, kA mV cI 5 gv]) [0, 1, 2] rfl
    refine cr_l (va_runV (As := [.int 3, .int 4, .int 1]) (rest := []) ⟨hx, hb, hml, hown, hts⟩ (c_X5_spreadOf l D cI cJ o mP mL mC mN mF mR mD mV mX mA mK mT mU mH mI cm pm gp gv 3 4 1 (ix_lit (by decide)) (ix_lit (by decide)) (ix_lit (by decide)) hv) (cwV 3 hts gX5_areSeveral_X5_spreadOf rfl rfl rfl (by decide +kernel) ⟨Nat.le_of_ble_eq_true rfl, Nat.le_of_ble_eq_true rfl⟩) ⟨gd_blR, va_recv hK.1 hPc (ci := 5) (q0 := 0) rfl rfl, gd_prR hPc hK⟩ rfl rfl hl.1 rfl (lv_room (Nat.le_of_ble_eq_true rfl)) dX5_areSeveral_153 ⟨Nat.zero_le _, Nat.zero_le _⟩) (fun r_153 hw => ?_)
    subst hw
    clear hPc
    refine lv_lconst (v := 0) hx hb dX5_areSeveral_156 (by decide) ?_
    refine lb_ne (tgt := 194) hx hb dX5_areSeveral_157 rfl dX5_areSeveral_158 (by decide) (fun c_61 => ?_) (fun c_61 => ?_)
    · skip
      refine lv_iconst (v := 0) hx hb dX5_areSeveral_194 (by decide) ?_
      refine lv_istore_n (lv' := [(1, .int 0), (6, .int 1), (5, .int 0), (4, .int 4), (3, .int 3), (2, .int 2), (0, .ref o)]) hx hb dX5_areSeveral_195 rfl hl (by decide) rfl (fun ls hl => ?_)
      have hq1 : z5_areSeveral_j5 gp gv = z5_areSeveral_j6 gp gv := by unfold z5_areSeveral_j5; rw [if_pos c_60, if_neg c_61]
      have hq : z5_areSeveral gp gv = z5_areSeveral_j6 gp gv := hj_20.symm.trans hq1
      exact jo_X5_areSeveral_21 hv hx hb hr hml hown hts hlk hP hK hq.symm ls (lv_sub hl [5, 0, 6] rfl)
    · skip
      refine lv_aload_n hx hb dX5_areSeveral_161 rfl (lv_at hl 6 rfl) ?_
      refine lv_iload hx hb dX5_areSeveral_162 (lv_at hl 2 rfl) ?_
      refine lv_iload hx hb dX5_areSeveral_164 (lv_at hl 1 rfl) ?_
      refine lv_iload hx hb dX5_areSeveral_166 (lv_at hl 0 rfl) ?_
      have hPc := hP.sub (ws' := [kM o mP mL mC mN mF mR mD mV mX mA mK cm mT pm mU mH mI, kA mP cI 180 gp, kA mV cI 5 gv]) [0, 1, 2] rfl
      refine cr_l (va_runV (As := [.int 4, .int 0, .int 1]) (rest := []) ⟨hx, hb, hml, hown, hts⟩ (c_X5_spreadOf l D cI cJ o mP mL mC mN mF mR mD mV mX mA mK mT mU mH mI cm pm gp gv 4 0 1 (ix_lit (by decide)) (ix_lit (by decide)) (ix_lit (by decide)) hv) (cwV 3 hts gX5_areSeveral_X5_spreadOf rfl rfl rfl (by decide +kernel) ⟨Nat.le_of_ble_eq_true rfl, Nat.le_of_ble_eq_true rfl⟩) ⟨gd_blR, va_recv hK.1 hPc (ci := 5) (q0 := 0) rfl rfl, gd_prR hPc hK⟩ rfl rfl hl.1 rfl (lv_room (Nat.le_of_ble_eq_true rfl)) dX5_areSeveral_168 ⟨Nat.zero_le _, Nat.zero_le _⟩) (fun r_168 hw => ?_)
      subst hw
      clear hPc
      refine lv_lconst (v := 0) hx hb dX5_areSeveral_171 (by decide) ?_
      refine lb_ne (tgt := 194) hx hb dX5_areSeveral_172 rfl dX5_areSeveral_173 (by decide) (fun c_62 => ?_) (fun c_62 => ?_)
      · skip
        refine lv_iconst (v := 0) hx hb dX5_areSeveral_194 (by decide) ?_
        refine lv_istore_n (lv' := [(1, .int 0), (6, .int 1), (5, .int 0), (4, .int 4), (3, .int 3), (2, .int 2), (0, .ref o)]) hx hb dX5_areSeveral_195 rfl hl (by decide) rfl (fun ls hl => ?_)
        have hq1 : z5_areSeveral_j5 gp gv = z5_areSeveral_j6 gp gv := by unfold z5_areSeveral_j5; rw [if_pos c_60, if_pos c_61, if_neg c_62]
        have hq : z5_areSeveral gp gv = z5_areSeveral_j6 gp gv := hj_20.symm.trans hq1
        exact jo_X5_areSeveral_21 hv hx hb hr hml hown hts hlk hP hK hq.symm ls (lv_sub hl [5, 0, 6] rfl)
      · skip
        refine lv_aload_n hx hb dX5_areSeveral_176 rfl (lv_at hl 6 rfl) ?_
        refine lv_iload_n hx hb dX5_areSeveral_177 rfl (lv_at hl 3 rfl) ?_
        refine lv_iload hx hb dX5_areSeveral_178 (lv_at hl 1 rfl) ?_
        refine lv_iload hx hb dX5_areSeveral_180 (lv_at hl 0 rfl) ?_
        have hPc := hP.sub (ws' := [kM o mP mL mC mN mF mR mD mV mX mA mK cm mT pm mU mH mI, kA mP cI 180 gp, kA mV cI 5 gv]) [0, 1, 2] rfl
        refine cr_l (va_runV (As := [.int 3, .int 0, .int 1]) (rest := []) ⟨hx, hb, hml, hown, hts⟩ (c_X5_spreadOf l D cI cJ o mP mL mC mN mF mR mD mV mX mA mK mT mU mH mI cm pm gp gv 3 0 1 (ix_lit (by decide)) (ix_lit (by decide)) (ix_lit (by decide)) hv) (cwV 3 hts gX5_areSeveral_X5_spreadOf rfl rfl rfl (by decide +kernel) ⟨Nat.le_of_ble_eq_true rfl, Nat.le_of_ble_eq_true rfl⟩) ⟨gd_blR, va_recv hK.1 hPc (ci := 5) (q0 := 0) rfl rfl, gd_prR hPc hK⟩ rfl rfl hl.1 rfl (lv_room (Nat.le_of_ble_eq_true rfl)) dX5_areSeveral_182 ⟨Nat.zero_le _, Nat.zero_le _⟩) (fun r_182 hw => ?_)
        subst hw
        clear hPc
        refine lv_lconst (v := 0) hx hb dX5_areSeveral_185 (by decide) ?_
        refine lb_ne (tgt := 194) hx hb dX5_areSeveral_186 rfl dX5_areSeveral_187 (by decide) (fun c_63 => ?_) (fun c_63 => ?_)
        · skip
          refine lv_iconst (v := 0) hx hb dX5_areSeveral_194 (by decide) ?_
          refine lv_istore_n (lv' := [(1, .int 0), (6, .int 1), (5, .int 0), (4, .int 4), (3, .int 3), (2, .int 2), (0, .ref o)]) hx hb dX5_areSeveral_195 rfl hl (by decide) rfl (fun ls hl => ?_)
          have hq1 : z5_areSeveral_j5 gp gv = z5_areSeveral_j6 gp gv := by unfold z5_areSeveral_j5; rw [if_pos c_60, if_pos c_61, if_pos c_62, if_neg c_63]
          have hq : z5_areSeveral gp gv = z5_areSeveral_j6 gp gv := hj_20.symm.trans hq1
          exact jo_X5_areSeveral_21 hv hx hb hr hml hown hts hlk hP hK hq.symm ls (lv_sub hl [5, 0, 6] rfl)
        · skip
          refine lv_iconst (v := 1) hx hb dX5_areSeveral_190 (by decide) ?_
          refine lv_goto (tgt := 195) hx hb dX5_areSeveral_191 (by decide) ?_
          refine lv_istore_n (lv' := [(1, .int 1), (6, .int 1), (5, .int 0), (4, .int 4), (3, .int 3), (2, .int 2), (0, .ref o)]) hx hb dX5_areSeveral_195 rfl hl (by decide) rfl (fun ls hl => ?_)
          have hq1 : z5_areSeveral_j5 gp gv = 1 := by unfold z5_areSeveral_j5; rw [if_pos c_60, if_pos c_61, if_pos c_62, if_pos c_63]
          have hq : z5_areSeveral gp gv = 1 := hj_20.symm.trans hq1
          exact jo_X5_areSeveral_10 hv hx hb hr hml hown hts hlk hP hK hq ls (lv_sub hl [6, 0, 5] rfl)
set_option maxHeartbeats 4000000 in
set_option maxRecDepth 100000 in
theorem jo_X5_areSeveral_19 {l : Launch} {D : va_G} {cI cJ : ClassId} {pG : Program} {eG : Env} {sG : State} {mG : MethodId} {below : List Frame} {meth : Method} {cG : Code} {o : Nat} {mP : Nat} {mL : Nat} {mC : Nat} {mN : Nat} {mF : Nat} {mR : Nat} {mD : Nat} {mV : Nat} {mX : Nat} {mA : Nat} {mK : Nat} {mT : Nat} {mU : Nat} {mH : Nat} {mI : Nat} {cm : Int32} {pm : Int32} {gp : Nat → Int32} {gv : Nat → Int32} (hv : ∀ n, n < 5 → ok_i (gv n)) (hx : pG.tables.exec = Jvm.exec) (hb : cG.code = cX5_areSeveral) (hr : meth.sig.returnType = some .boolean) (hml : cG.maxLocals = 7) (hown : sG.vm.findClass RX5 = some mG.cls) (hts : ∀ x ∈ wsX5_areSeveral, x.before ([.ref o] : List Value).toArray sG = true) (hlk : meth.locks = false) (hP : va_P D vwCl [kM o mP mL mC mN mF mR mD mV mX mA mK cm mT pm mU mH mI, kA mP cI 180 gp, kA mV cI 5 gv] sG.heap) (hK : gd_K D cI cJ sG) (hj_19 : z5_areSeveral_j4 gp gv = z5_areSeveral gp gv) (ls : Array Slot) (hl : lv_has ls 7 [(3, .int 0), (2, .int 2), (1, .int 0), (0, .ref o)]) : W pG l eG (headSpec wsX5_areSeveral ({ frames := 1, cells := 0, slots := 0, locals := 30 })).room sG mG ([.ref o] : List Value).toArray below meth cG sG.heap [] 0 0 (MQ below (vp_Si (fun r : Int32 => r = z5_areSeveral gp gv)) ([.ref o] : List Value).toArray sG 0 0 (fun _ => False)) (F0 mG 96 ls []) := by
  have k_1 := hts (.fieldLink RX5 7 "ConicRowsModel" "points" "[I") (by decide +kernel)
  have k_2 : ∀ w ∈ wsX50, w ∈ wsX5_areSeveral := by decide +kernel
  have k_3 := hts (.fieldLink RX5 32 "ConicRowsModel" "five" "[I") (by decide +kernel)
  refine lv_iinc (v := 1) (lv' := [(3, .int 1), (2, .int 2), (1, .int 0), (0, .ref o)]) hx hb dX5_areSeveral_96 hl (k := 0) rfl (by decide) (by decide) rfl (fun ls hl => ?_)
  refine lv_goto (tgt := 11) hx hb dX5_areSeveral_99 (by decide) ?_
  refine lv_iload_n hx hb dX5_areSeveral_11 rfl (lv_at hl 0 rfl) ?_
  refine lv_iload_n hx hb dX5_areSeveral_12 rfl (lv_at hl 1 rfl) ?_
  refine lv_icmp_ge (tgt := 102) hx hb dX5_areSeveral_13 (by decide) (fun h => absurd h (by decide)) (fun _ => ?_)
  refine lv_iconst (v := 1) hx hb dX5_areSeveral_16 (by decide) ?_
  refine lv_istore (lv' := [(4, .int 1), (3, .int 1), (2, .int 2), (1, .int 0), (0, .ref o)]) hx hb dX5_areSeveral_17 hl (by decide) rfl (fun ls hl => ?_)
  refine lv_iconst (v := 0) hx hb dX5_areSeveral_19 (by decide) ?_
  refine lv_istore (lv' := [(5, .int 0), (4, .int 1), (3, .int 1), (2, .int 2), (1, .int 0), (0, .ref o)]) hx hb dX5_areSeveral_20 hl (by decide) rfl (fun ls hl => ?_)
  refine lv_iload hx hb dX5_areSeveral_22 (lv_at hl 0 rfl) ?_
  refine lv_iconst (v := 3) hx hb dX5_areSeveral_24 (by decide) ?_
  refine lv_icmp_ge (tgt := 81) hx hb dX5_areSeveral_25 (by decide) (fun h => absurd h (by decide)) (fun _ => ?_)
  refine lv_iload hx hb dX5_areSeveral_28 (lv_at hl 1 rfl) ?_
  refine lv_if_eq (tgt := 72) hx hb dX5_areSeveral_30 (by decide) (fun h => absurd h (by decide)) (fun _ => ?_)
  refine lv_aload_n hx hb dX5_areSeveral_33 rfl (lv_at hl 5 rfl) ?_
  refine va_get (D := D) (ci := 5) (v := .ref mP) (C := RX5) (T := TX5) (N := 17) hx hb hts k_2 hown hK.1 hP 0 rfl rfl 0 (by decide) k_1 (fun _ h9 => h9) rfl dX5_areSeveral_34 ?_
  refine lv_iconst (v := 3) hx hb dX5_areSeveral_37 (by decide) ?_
  refine lv_aload_n hx hb dX5_areSeveral_38 rfl (lv_at hl 5 rfl) ?_
  refine va_get (D := D) (ci := 5) (v := .ref mV) (C := RX5) (T := TX5) (N := 17) hx hb hts k_2 hown hK.1 hP 0 rfl rfl 7 (by decide) k_3 (fun _ h9 => h9) rfl dX5_areSeveral_39 ?_
  refine lv_iload_n hx hb dX5_areSeveral_42 rfl (lv_at hl 3 rfl) ?_
  refine ld_i hx hb hK.1 hP 2 0 rfl rfl (ix_lit (by decide)) 2 (by decide) (v := gv 2) rfl dX5_areSeveral_43 ?_
  refine lv_imul hx hb dX5_areSeveral_44 ?_
  refine lv_iload hx hb dX5_areSeveral_45 (lv_at hl 0 rfl) ?_
  refine lv_iadd hx hb dX5_areSeveral_47 ?_
  refine ld_i hx hb hK.1 hP 1 0 rfl rfl (ix3l (hv 2 (by decide)) 0 (by decide)) (((3 * (gv 2)) + 0).toNatClampNeg) rfl (v := gp (((3 * (gv 2)) + 0).toNatClampNeg)) rfl dX5_areSeveral_48 ?_
  refine lv_aload_n hx hb dX5_areSeveral_49 rfl (lv_at hl 5 rfl) ?_
  refine va_get (D := D) (ci := 5) (v := .ref mP) (C := RX5) (T := TX5) (N := 17) hx hb hts k_2 hown hK.1 hP 0 rfl rfl 0 (by decide) k_1 (fun _ h9 => h9) rfl dX5_areSeveral_50 ?_
  refine lv_iconst (v := 3) hx hb dX5_areSeveral_53 (by decide) ?_
  refine lv_aload_n hx hb dX5_areSeveral_54 rfl (lv_at hl 5 rfl) ?_
  refine va_get (D := D) (ci := 5) (v := .ref mV) (C := RX5) (T := TX5) (N := 17) hx hb hts k_2 hown hK.1 hP 0 rfl rfl 7 (by decide) k_3 (fun _ h9 => h9) rfl dX5_areSeveral_55 ?_
  refine lv_iload_n hx hb dX5_areSeveral_58 rfl (lv_at hl 2 rfl) ?_
  refine ld_i hx hb hK.1 hP 2 0 rfl rfl (ix_lit (by decide)) 1 (by decide) (v := gv 1) rfl dX5_areSeveral_59 ?_
  refine lv_imul hx hb dX5_areSeveral_60 ?_
  refine lv_iload hx hb dX5_areSeveral_61 (lv_at hl 0 rfl) ?_
  refine lv_iadd hx hb dX5_areSeveral_63 ?_
  refine ld_i hx hb hK.1 hP 1 0 rfl rfl (ix3l (hv 1 (by decide)) 0 (by decide)) (((3 * (gv 1)) + 0).toNatClampNeg) rfl (v := gp (((3 * (gv 1)) + 0).toNatClampNeg)) rfl dX5_areSeveral_64 ?_
  refine lv_icmp_ne (tgt := 72) hx hb dX5_areSeveral_65 (by decide) (fun c_64 => ?_) (fun c_64 => ?_)
  · skip
    refine lv_iconst (v := 0) hx hb dX5_areSeveral_72 (by decide) ?_
    refine lv_istore (lv' := [(4, .int 0), (5, .int 0), (3, .int 1), (2, .int 2), (1, .int 0), (0, .ref o)]) hx hb dX5_areSeveral_73 hl (by decide) rfl (fun ls hl => ?_)
    refine lv_iinc (v := 1) (lv' := [(5, .int 1), (4, .int 0), (3, .int 1), (2, .int 2), (1, .int 0), (0, .ref o)]) hx hb dX5_areSeveral_75 hl (k := 1) rfl (by decide) (by decide) rfl (fun ls hl => ?_)
    refine lv_goto (tgt := 22) hx hb dX5_areSeveral_78 (by decide) ?_
    refine lv_iload hx hb dX5_areSeveral_22 (lv_at hl 0 rfl) ?_
    refine lv_iconst (v := 3) hx hb dX5_areSeveral_24 (by decide) ?_
    refine lv_icmp_ge (tgt := 81) hx hb dX5_areSeveral_25 (by decide) (fun h => absurd h (by decide)) (fun _ => ?_)
    refine lv_iload hx hb dX5_areSeveral_28 (lv_at hl 1 rfl) ?_
    refine lv_if_eq (tgt := 72) hx hb dX5_areSeveral_30 (by decide) (fun _ => ?_) (fun h => absurd (by decide) h)
    refine lv_iconst (v := 0) hx hb dX5_areSeveral_72 (by decide) ?_
    refine lv_istore (lv' := [(4, .int 0), (5, .int 1), (3, .int 1), (2, .int 2), (1, .int 0), (0, .ref o)]) hx hb dX5_areSeveral_73 hl (by decide) rfl (fun ls hl => ?_)
    refine lv_iinc (v := 2) (lv' := [(5, .int 2), (4, .int 0), (3, .int 1), (2, .int 2), (1, .int 0), (0, .ref o)]) hx hb dX5_areSeveral_75 hl (k := 1) rfl (by decide) (by decide) rfl (fun ls hl => ?_)
    refine lv_goto (tgt := 22) hx hb dX5_areSeveral_78 (by decide) ?_
    refine lv_iload hx hb dX5_areSeveral_22 (lv_at hl 0 rfl) ?_
    refine lv_iconst (v := 3) hx hb dX5_areSeveral_24 (by decide) ?_
    refine lv_icmp_ge (tgt := 81) hx hb dX5_areSeveral_25 (by decide) (fun h => absurd h (by decide)) (fun _ => ?_)
    refine lv_iload hx hb dX5_areSeveral_28 (lv_at hl 1 rfl) ?_
    refine lv_if_eq (tgt := 72) hx hb dX5_areSeveral_30 (by decide) (fun _ => ?_) (fun h => absurd (by decide) h)
    refine lv_iconst (v := 0) hx hb dX5_areSeveral_72 (by decide) ?_
    refine lv_istore (lv' := [(4, .int 0), (5, .int 2), (3, .int 1), (2, .int 2), (1, .int 0), (0, .ref o)]) hx hb dX5_areSeveral_73 hl (by decide) rfl (fun ls hl => ?_)
    refine lv_iinc (v := 3) (lv' := [(5, .int 3), (4, .int 0), (3, .int 1), (2, .int 2), (1, .int 0), (0, .ref o)]) hx hb dX5_areSeveral_75 hl (k := 1) rfl (by decide) (by decide) rfl (fun ls hl => ?_)
    refine lv_goto (tgt := 22) hx hb dX5_areSeveral_78 (by decide) ?_
    refine lv_iload hx hb dX5_areSeveral_22 (lv_at hl 0 rfl) ?_
    refine lv_iconst (v := 3) hx hb dX5_areSeveral_24 (by decide) ?_
    refine lv_icmp_ge (tgt := 81) hx hb dX5_areSeveral_25 (by decide) (fun _ => ?_) (fun h => absurd (by decide) h)
    refine lv_iload_n hx hb dX5_areSeveral_81 rfl (lv_at hl 4 rfl) ?_
    refine lv_if_ne (tgt := 90) hx hb dX5_areSeveral_82 (by decide) (fun h => absurd (by decide) h) (fun _ => ?_)
    refine lv_iload hx hb dX5_areSeveral_85 (lv_at hl 1 rfl) ?_
    refine lv_if_eq (tgt := 94) hx hb dX5_areSeveral_87 (by decide) (fun _ => ?_) (fun h => absurd (by decide) h)
    refine lv_iconst (v := 0) hx hb dX5_areSeveral_94 (by decide) ?_
    refine lv_istore_n (lv' := [(1, .int 0), (5, .int 3), (4, .int 0), (3, .int 1), (2, .int 2), (0, .ref o)]) hx hb dX5_areSeveral_95 rfl hl (by decide) rfl (fun ls hl => ?_)
    have hq1 : z5_areSeveral_j4 gp gv = z5_areSeveral_j5 gp gv := by unfold z5_areSeveral_j4; rw [if_neg c_64]
    have hq : z5_areSeveral gp gv = z5_areSeveral_j5 gp gv := hj_19.symm.trans hq1
    exact jo_X5_areSeveral_20 hv hx hb hr hml hown hts hlk hP hK hq.symm ls (lv_sub hl [3, 4, 0, 5] rfl)
  · skip
    refine lv_iconst (v := 1) hx hb dX5_areSeveral_68 (by decide) ?_
    refine lv_goto (tgt := 73) hx hb dX5_areSeveral_69 (by decide) ?_
    refine lv_istore (lv' := [(4, .int 1), (5, .int 0), (3, .int 1), (2, .int 2), (1, .int 0), (0, .ref o)]) hx hb dX5_areSeveral_73 hl (by decide) rfl (fun ls hl => ?_)
    refine lv_iinc (v := 1) (lv' := [(5, .int 1), (4, .int 1), (3, .int 1), (2, .int 2), (1, .int 0), (0, .ref o)]) hx hb dX5_areSeveral_75 hl (k := 1) rfl (by decide) (by decide) rfl (fun ls hl => ?_)
    refine lv_goto (tgt := 22) hx hb dX5_areSeveral_78 (by decide) ?_
    refine lv_iload hx hb dX5_areSeveral_22 (lv_at hl 0 rfl) ?_
    refine lv_iconst (v := 3) hx hb dX5_areSeveral_24 (by decide) ?_
    refine lv_icmp_ge (tgt := 81) hx hb dX5_areSeveral_25 (by decide) (fun h => absurd h (by decide)) (fun _ => ?_)
    refine lv_iload hx hb dX5_areSeveral_28 (lv_at hl 1 rfl) ?_
    refine lv_if_eq (tgt := 72) hx hb dX5_areSeveral_30 (by decide) (fun h => absurd h (by decide)) (fun _ => ?_)
    refine lv_aload_n hx hb dX5_areSeveral_33 rfl (lv_at hl 5 rfl) ?_
    refine va_get (D := D) (ci := 5) (v := .ref mP) (C := RX5) (T := TX5) (N := 17) hx hb hts k_2 hown hK.1 hP 0 rfl rfl 0 (by decide) k_1 (fun _ h9 => h9) rfl dX5_areSeveral_34 ?_
    refine lv_iconst (v := 3) hx hb dX5_areSeveral_37 (by decide) ?_
    refine lv_aload_n hx hb dX5_areSeveral_38 rfl (lv_at hl 5 rfl) ?_
    refine va_get (D := D) (ci := 5) (v := .ref mV) (C := RX5) (T := TX5) (N := 17) hx hb hts k_2 hown hK.1 hP 0 rfl rfl 7 (by decide) k_3 (fun _ h9 => h9) rfl dX5_areSeveral_39 ?_
    refine lv_iload_n hx hb dX5_areSeveral_42 rfl (lv_at hl 3 rfl) ?_
    refine ld_i hx hb hK.1 hP 2 0 rfl rfl (ix_lit (by decide)) 2 (by decide) (v := gv 2) rfl dX5_areSeveral_43 ?_
    refine lv_imul hx hb dX5_areSeveral_44 ?_
    refine lv_iload hx hb dX5_areSeveral_45 (lv_at hl 0 rfl) ?_
    refine lv_iadd hx hb dX5_areSeveral_47 ?_
    refine ld_i hx hb hK.1 hP 1 0 rfl rfl (ix3l (hv 2 (by decide)) 1 (by decide)) (((3 * (gv 2)) + 1).toNatClampNeg) rfl (v := gp (((3 * (gv 2)) + 1).toNatClampNeg)) rfl dX5_areSeveral_48 ?_
    refine lv_aload_n hx hb dX5_areSeveral_49 rfl (lv_at hl 5 rfl) ?_
    refine va_get (D := D) (ci := 5) (v := .ref mP) (C := RX5) (T := TX5) (N := 17) hx hb hts k_2 hown hK.1 hP 0 rfl rfl 0 (by decide) k_1 (fun _ h9 => h9) rfl dX5_areSeveral_50 ?_
    refine lv_iconst (v := 3) hx hb dX5_areSeveral_53 (by decide) ?_
    refine lv_aload_n hx hb dX5_areSeveral_54 rfl (lv_at hl 5 rfl) ?_
    refine va_get (D := D) (ci := 5) (v := .ref mV) (C := RX5) (T := TX5) (N := 17) hx hb hts k_2 hown hK.1 hP 0 rfl rfl 7 (by decide) k_3 (fun _ h9 => h9) rfl dX5_areSeveral_55 ?_
    refine lv_iload_n hx hb dX5_areSeveral_58 rfl (lv_at hl 2 rfl) ?_
    refine ld_i hx hb hK.1 hP 2 0 rfl rfl (ix_lit (by decide)) 1 (by decide) (v := gv 1) rfl dX5_areSeveral_59 ?_
    refine lv_imul hx hb dX5_areSeveral_60 ?_
    refine lv_iload hx hb dX5_areSeveral_61 (lv_at hl 0 rfl) ?_
    refine lv_iadd hx hb dX5_areSeveral_63 ?_
    refine ld_i hx hb hK.1 hP 1 0 rfl rfl (ix3l (hv 1 (by decide)) 1 (by decide)) (((3 * (gv 1)) + 1).toNatClampNeg) rfl (v := gp (((3 * (gv 1)) + 1).toNatClampNeg)) rfl dX5_areSeveral_64 ?_
    refine lv_icmp_ne (tgt := 72) hx hb dX5_areSeveral_65 (by decide) (fun c_65 => ?_) (fun c_65 => ?_)
    · skip
      refine lv_iconst (v := 0) hx hb dX5_areSeveral_72 (by decide) ?_
      refine lv_istore (lv' := [(4, .int 0), (5, .int 1), (3, .int 1), (2, .int 2), (1, .int 0), (0, .ref o)]) hx hb dX5_areSeveral_73 hl (by decide) rfl (fun ls hl => ?_)
      refine lv_iinc (v := 2) (lv' := [(5, .int 2), (4, .int 0), (3, .int 1), (2, .int 2), (1, .int 0), (0, .ref o)]) hx hb dX5_areSeveral_75 hl (k := 1) rfl (by decide) (by decide) rfl (fun ls hl => ?_)
      refine lv_goto (tgt := 22) hx hb dX5_areSeveral_78 (by decide) ?_
      refine lv_iload hx hb dX5_areSeveral_22 (lv_at hl 0 rfl) ?_
      refine lv_iconst (v := 3) hx hb dX5_areSeveral_24 (by decide) ?_
      refine lv_icmp_ge (tgt := 81) hx hb dX5_areSeveral_25 (by decide) (fun h => absurd h (by decide)) (fun _ => ?_)
      refine lv_iload hx hb dX5_areSeveral_28 (lv_at hl 1 rfl) ?_
      refine lv_if_eq (tgt := 72) hx hb dX5_areSeveral_30 (by decide) (fun _ => ?_) (fun h => absurd (by decide) h)
      refine lv_iconst (v := 0) hx hb dX5_areSeveral_72 (by decide) ?_
      refine lv_istore (lv' := [(4, .int 0), (5, .int 2), (3, .int 1), (2, .int 2), (1, .int 0), (0, .ref o)]) hx hb dX5_areSeveral_73 hl (by decide) rfl (fun ls hl => ?_)
      refine lv_iinc (v := 3) (lv' := [(5, .int 3), (4, .int 0), (3, .int 1), (2, .int 2), (1, .int 0), (0, .ref o)]) hx hb dX5_areSeveral_75 hl (k := 1) rfl (by decide) (by decide) rfl (fun ls hl => ?_)
      refine lv_goto (tgt := 22) hx hb dX5_areSeveral_78 (by decide) ?_
      refine lv_iload hx hb dX5_areSeveral_22 (lv_at hl 0 rfl) ?_
      refine lv_iconst (v := 3) hx hb dX5_areSeveral_24 (by decide) ?_
      refine lv_icmp_ge (tgt := 81) hx hb dX5_areSeveral_25 (by decide) (fun _ => ?_) (fun h => absurd (by decide) h)
      refine lv_iload_n hx hb dX5_areSeveral_81 rfl (lv_at hl 4 rfl) ?_
      refine lv_if_ne (tgt := 90) hx hb dX5_areSeveral_82 (by decide) (fun h => absurd (by decide) h) (fun _ => ?_)
      refine lv_iload hx hb dX5_areSeveral_85 (lv_at hl 1 rfl) ?_
      refine lv_if_eq (tgt := 94) hx hb dX5_areSeveral_87 (by decide) (fun _ => ?_) (fun h => absurd (by decide) h)
      refine lv_iconst (v := 0) hx hb dX5_areSeveral_94 (by decide) ?_
      refine lv_istore_n (lv' := [(1, .int 0), (5, .int 3), (4, .int 0), (3, .int 1), (2, .int 2), (0, .ref o)]) hx hb dX5_areSeveral_95 rfl hl (by decide) rfl (fun ls hl => ?_)
      have hq1 : z5_areSeveral_j4 gp gv = z5_areSeveral_j5 gp gv := by unfold z5_areSeveral_j4; rw [if_pos c_64, if_neg c_65]
      have hq : z5_areSeveral gp gv = z5_areSeveral_j5 gp gv := hj_19.symm.trans hq1
      exact jo_X5_areSeveral_20 hv hx hb hr hml hown hts hlk hP hK hq.symm ls (lv_sub hl [3, 4, 0, 5] rfl)
    · skip
      refine lv_iconst (v := 1) hx hb dX5_areSeveral_68 (by decide) ?_
      refine lv_goto (tgt := 73) hx hb dX5_areSeveral_69 (by decide) ?_
      refine lv_istore (lv' := [(4, .int 1), (5, .int 1), (3, .int 1), (2, .int 2), (1, .int 0), (0, .ref o)]) hx hb dX5_areSeveral_73 hl (by decide) rfl (fun ls hl => ?_)
      refine lv_iinc (v := 2) (lv' := [(5, .int 2), (4, .int 1), (3, .int 1), (2, .int 2), (1, .int 0), (0, .ref o)]) hx hb dX5_areSeveral_75 hl (k := 1) rfl (by decide) (by decide) rfl (fun ls hl => ?_)
      refine lv_goto (tgt := 22) hx hb dX5_areSeveral_78 (by decide) ?_
      refine lv_iload hx hb dX5_areSeveral_22 (lv_at hl 0 rfl) ?_
      refine lv_iconst (v := 3) hx hb dX5_areSeveral_24 (by decide) ?_
      refine lv_icmp_ge (tgt := 81) hx hb dX5_areSeveral_25 (by decide) (fun h => absurd h (by decide)) (fun _ => ?_)
      refine lv_iload hx hb dX5_areSeveral_28 (lv_at hl 1 rfl) ?_
      refine lv_if_eq (tgt := 72) hx hb dX5_areSeveral_30 (by decide) (fun h => absurd h (by decide)) (fun _ => ?_)
      refine lv_aload_n hx hb dX5_areSeveral_33 rfl (lv_at hl 5 rfl) ?_
      refine va_get (D := D) (ci := 5) (v := .ref mP) (C := RX5) (T := TX5) (N := 17) hx hb hts k_2 hown hK.1 hP 0 rfl rfl 0 (by decide) k_1 (fun _ h9 => h9) rfl dX5_areSeveral_34 ?_
      refine lv_iconst (v := 3) hx hb dX5_areSeveral_37 (by decide) ?_
      refine lv_aload_n hx hb dX5_areSeveral_38 rfl (lv_at hl 5 rfl) ?_
      refine va_get (D := D) (ci := 5) (v := .ref mV) (C := RX5) (T := TX5) (N := 17) hx hb hts k_2 hown hK.1 hP 0 rfl rfl 7 (by decide) k_3 (fun _ h9 => h9) rfl dX5_areSeveral_39 ?_
      refine lv_iload_n hx hb dX5_areSeveral_42 rfl (lv_at hl 3 rfl) ?_
      refine ld_i hx hb hK.1 hP 2 0 rfl rfl (ix_lit (by decide)) 2 (by decide) (v := gv 2) rfl dX5_areSeveral_43 ?_
      refine lv_imul hx hb dX5_areSeveral_44 ?_
      refine lv_iload hx hb dX5_areSeveral_45 (lv_at hl 0 rfl) ?_
      refine lv_iadd hx hb dX5_areSeveral_47 ?_
      refine ld_i hx hb hK.1 hP 1 0 rfl rfl (ix3l (hv 2 (by decide)) 2 (by decide)) (((3 * (gv 2)) + 2).toNatClampNeg) rfl (v := gp (((3 * (gv 2)) + 2).toNatClampNeg)) rfl dX5_areSeveral_48 ?_
      refine lv_aload_n hx hb dX5_areSeveral_49 rfl (lv_at hl 5 rfl) ?_
      refine va_get (D := D) (ci := 5) (v := .ref mP) (C := RX5) (T := TX5) (N := 17) hx hb hts k_2 hown hK.1 hP 0 rfl rfl 0 (by decide) k_1 (fun _ h9 => h9) rfl dX5_areSeveral_50 ?_
      refine lv_iconst (v := 3) hx hb dX5_areSeveral_53 (by decide) ?_
      refine lv_aload_n hx hb dX5_areSeveral_54 rfl (lv_at hl 5 rfl) ?_
      refine va_get (D := D) (ci := 5) (v := .ref mV) (C := RX5) (T := TX5) (N := 17) hx hb hts k_2 hown hK.1 hP 0 rfl rfl 7 (by decide) k_3 (fun _ h9 => h9) rfl dX5_areSeveral_55 ?_
      refine lv_iload_n hx hb dX5_areSeveral_58 rfl (lv_at hl 2 rfl) ?_
      refine ld_i hx hb hK.1 hP 2 0 rfl rfl (ix_lit (by decide)) 1 (by decide) (v := gv 1) rfl dX5_areSeveral_59 ?_
      refine lv_imul hx hb dX5_areSeveral_60 ?_
      refine lv_iload hx hb dX5_areSeveral_61 (lv_at hl 0 rfl) ?_
      refine lv_iadd hx hb dX5_areSeveral_63 ?_
      refine ld_i hx hb hK.1 hP 1 0 rfl rfl (ix3l (hv 1 (by decide)) 2 (by decide)) (((3 * (gv 1)) + 2).toNatClampNeg) rfl (v := gp (((3 * (gv 1)) + 2).toNatClampNeg)) rfl dX5_areSeveral_64 ?_
      refine lv_icmp_ne (tgt := 72) hx hb dX5_areSeveral_65 (by decide) (fun c_66 => ?_) (fun c_66 => ?_)
      · skip
        refine lv_iconst (v := 0) hx hb dX5_areSeveral_72 (by decide) ?_
        refine lv_istore (lv' := [(4, .int 0), (5, .int 2), (3, .int 1), (2, .int 2), (1, .int 0), (0, .ref o)]) hx hb dX5_areSeveral_73 hl (by decide) rfl (fun ls hl => ?_)
        refine lv_iinc (v := 3) (lv' := [(5, .int 3), (4, .int 0), (3, .int 1), (2, .int 2), (1, .int 0), (0, .ref o)]) hx hb dX5_areSeveral_75 hl (k := 1) rfl (by decide) (by decide) rfl (fun ls hl => ?_)
        refine lv_goto (tgt := 22) hx hb dX5_areSeveral_78 (by decide) ?_
        refine lv_iload hx hb dX5_areSeveral_22 (lv_at hl 0 rfl) ?_
        refine lv_iconst (v := 3) hx hb dX5_areSeveral_24 (by decide) ?_
        refine lv_icmp_ge (tgt := 81) hx hb dX5_areSeveral_25 (by decide) (fun _ => ?_) (fun h => absurd (by decide) h)
        refine lv_iload_n hx hb dX5_areSeveral_81 rfl (lv_at hl 4 rfl) ?_
        refine lv_if_ne (tgt := 90) hx hb dX5_areSeveral_82 (by decide) (fun h => absurd (by decide) h) (fun _ => ?_)
        refine lv_iload hx hb dX5_areSeveral_85 (lv_at hl 1 rfl) ?_
        refine lv_if_eq (tgt := 94) hx hb dX5_areSeveral_87 (by decide) (fun _ => ?_) (fun h => absurd (by decide) h)
        refine lv_iconst (v := 0) hx hb dX5_areSeveral_94 (by decide) ?_
        refine lv_istore_n (lv' := [(1, .int 0), (5, .int 3), (4, .int 0), (3, .int 1), (2, .int 2), (0, .ref o)]) hx hb dX5_areSeveral_95 rfl hl (by decide) rfl (fun ls hl => ?_)
        have hq1 : z5_areSeveral_j4 gp gv = z5_areSeveral_j5 gp gv := by unfold z5_areSeveral_j4; rw [if_pos c_64, if_pos c_65, if_neg c_66]
        have hq : z5_areSeveral gp gv = z5_areSeveral_j5 gp gv := hj_19.symm.trans hq1
        exact jo_X5_areSeveral_20 hv hx hb hr hml hown hts hlk hP hK hq.symm ls (lv_sub hl [3, 4, 0, 5] rfl)
      · skip
        refine lv_iconst (v := 1) hx hb dX5_areSeveral_68 (by decide) ?_
        refine lv_goto (tgt := 73) hx hb dX5_areSeveral_69 (by decide) ?_
        refine lv_istore (lv' := [(4, .int 1), (5, .int 2), (3, .int 1), (2, .int 2), (1, .int 0), (0, .ref o)]) hx hb dX5_areSeveral_73 hl (by decide) rfl (fun ls hl => ?_)
        refine lv_iinc (v := 3) (lv' := [(5, .int 3), (4, .int 1), (3, .int 1), (2, .int 2), (1, .int 0), (0, .ref o)]) hx hb dX5_areSeveral_75 hl (k := 1) rfl (by decide) (by decide) rfl (fun ls hl => ?_)
        refine lv_goto (tgt := 22) hx hb dX5_areSeveral_78 (by decide) ?_
        refine lv_iload hx hb dX5_areSeveral_22 (lv_at hl 0 rfl) ?_
        refine lv_iconst (v := 3) hx hb dX5_areSeveral_24 (by decide) ?_
        refine lv_icmp_ge (tgt := 81) hx hb dX5_areSeveral_25 (by decide) (fun _ => ?_) (fun h => absurd (by decide) h)
        refine lv_iload_n hx hb dX5_areSeveral_81 rfl (lv_at hl 4 rfl) ?_
        refine lv_if_ne (tgt := 90) hx hb dX5_areSeveral_82 (by decide) (fun h => absurd (by decide) h) (fun _ => ?_)
        refine lv_iload hx hb dX5_areSeveral_85 (lv_at hl 1 rfl) ?_
        refine lv_if_eq (tgt := 94) hx hb dX5_areSeveral_87 (by decide) (fun h => absurd h (by decide)) (fun _ => ?_)
        refine lv_iconst (v := 1) hx hb dX5_areSeveral_90 (by decide) ?_
        refine lv_goto (tgt := 95) hx hb dX5_areSeveral_91 (by decide) ?_
        refine lv_istore_n (lv' := [(1, .int 1), (5, .int 3), (4, .int 1), (3, .int 1), (2, .int 2), (0, .ref o)]) hx hb dX5_areSeveral_95 rfl hl (by decide) rfl (fun ls hl => ?_)
        have hq1 : z5_areSeveral_j4 gp gv = 1 := by unfold z5_areSeveral_j4; rw [if_pos c_64, if_pos c_65, if_pos c_66]
        have hq : z5_areSeveral gp gv = 1 := hj_19.symm.trans hq1
        exact jo_X5_areSeveral_11 hv hx hb hr hml hown hts hlk hP hK hq ls (lv_sub hl [5, 0, 4, 3] rfl)
set_option maxHeartbeats 4000000 in
set_option maxRecDepth 100000 in
theorem jo_X5_areSeveral_18 {l : Launch} {D : va_G} {cI cJ : ClassId} {pG : Program} {eG : Env} {sG : State} {mG : MethodId} {below : List Frame} {meth : Method} {cG : Code} {o : Nat} {mP : Nat} {mL : Nat} {mC : Nat} {mN : Nat} {mF : Nat} {mR : Nat} {mD : Nat} {mV : Nat} {mX : Nat} {mA : Nat} {mK : Nat} {mT : Nat} {mU : Nat} {mH : Nat} {mI : Nat} {cm : Int32} {pm : Int32} {gp : Nat → Int32} {gv : Nat → Int32} (hv : ∀ n, n < 5 → ok_i (gv n)) (hx : pG.tables.exec = Jvm.exec) (hb : cG.code = cX5_areSeveral) (hr : meth.sig.returnType = some .boolean) (hml : cG.maxLocals = 7) (hown : sG.vm.findClass RX5 = some mG.cls) (hts : ∀ x ∈ wsX5_areSeveral, x.before ([.ref o] : List Value).toArray sG = true) (hlk : meth.locks = false) (hP : va_P D vwCl [kM o mP mL mC mN mF mR mD mV mX mA mK cm mT pm mU mH mI, kA mP cI 180 gp, kA mV cI 5 gv] sG.heap) (hK : gd_K D cI cJ sG) (hj_18 : z5_areSeveral_j3 gp gv = z5_areSeveral gp gv) (ls : Array Slot) (hl : lv_has ls 7 [(2, .int 1), (1, .int 0), (0, .ref o)]) : W pG l eG (headSpec wsX5_areSeveral ({ frames := 1, cells := 0, slots := 0, locals := 30 })).room sG mG ([.ref o] : List Value).toArray below meth cG sG.heap [] 0 0 (MQ below (vp_Si (fun r : Int32 => r = z5_areSeveral gp gv)) ([.ref o] : List Value).toArray sG 0 0 (fun _ => False)) (F0 mG 196 ls []) := by
  have k_1 := hts (.fieldLink RX5 7 "ConicRowsModel" "points" "[I") (by decide +kernel)
  have k_2 : ∀ w ∈ wsX50, w ∈ wsX5_areSeveral := by decide +kernel
  have k_3 := hts (.fieldLink RX5 32 "ConicRowsModel" "five" "[I") (by decide +kernel)
  refine lv_iinc (v := 2) (lv' := [(2, .int 2), (1, .int 0), (0, .ref o)]) hx hb dX5_areSeveral_196 hl (k := 0) rfl (by decide) (by decide) rfl (fun ls hl => ?_)
  refine lv_goto (tgt := 4) hx hb dX5_areSeveral_199 (by decide) ?_
  refine lv_iload_n hx hb dX5_areSeveral_4 rfl (lv_at hl 0 rfl) ?_
  refine lv_iconst (v := 5) hx hb dX5_areSeveral_5 (by decide) ?_
  refine lv_icmp_ge (tgt := 202) hx hb dX5_areSeveral_6 (by decide) (fun h => absurd h (by decide)) (fun _ => ?_)
  refine lv_iconst (v := 0) hx hb dX5_areSeveral_9 (by decide) ?_
  refine lv_istore_n (lv' := [(3, .int 0), (2, .int 2), (1, .int 0), (0, .ref o)]) hx hb dX5_areSeveral_10 rfl hl (by decide) rfl (fun ls hl => ?_)
  refine lv_iload_n hx hb dX5_areSeveral_11 rfl (lv_at hl 0 rfl) ?_
  refine lv_iload_n hx hb dX5_areSeveral_12 rfl (lv_at hl 1 rfl) ?_
  refine lv_icmp_ge (tgt := 102) hx hb dX5_areSeveral_13 (by decide) (fun h => absurd h (by decide)) (fun _ => ?_)
  refine lv_iconst (v := 1) hx hb dX5_areSeveral_16 (by decide) ?_
  refine lv_istore (lv' := [(4, .int 1), (3, .int 0), (2, .int 2), (1, .int 0), (0, .ref o)]) hx hb dX5_areSeveral_17 hl (by decide) rfl (fun ls hl => ?_)
  refine lv_iconst (v := 0) hx hb dX5_areSeveral_19 (by decide) ?_
  refine lv_istore (lv' := [(5, .int 0), (4, .int 1), (3, .int 0), (2, .int 2), (1, .int 0), (0, .ref o)]) hx hb dX5_areSeveral_20 hl (by decide) rfl (fun ls hl => ?_)
  refine lv_iload hx hb dX5_areSeveral_22 (lv_at hl 0 rfl) ?_
  refine lv_iconst (v := 3) hx hb dX5_areSeveral_24 (by decide) ?_
  refine lv_icmp_ge (tgt := 81) hx hb dX5_areSeveral_25 (by decide) (fun h => absurd h (by decide)) (fun _ => ?_)
  refine lv_iload hx hb dX5_areSeveral_28 (lv_at hl 1 rfl) ?_
  refine lv_if_eq (tgt := 72) hx hb dX5_areSeveral_30 (by decide) (fun h => absurd h (by decide)) (fun _ => ?_)
  refine lv_aload_n hx hb dX5_areSeveral_33 rfl (lv_at hl 5 rfl) ?_
  refine va_get (D := D) (ci := 5) (v := .ref mP) (C := RX5) (T := TX5) (N := 17) hx hb hts k_2 hown hK.1 hP 0 rfl rfl 0 (by decide) k_1 (fun _ h9 => h9) rfl dX5_areSeveral_34 ?_
  refine lv_iconst (v := 3) hx hb dX5_areSeveral_37 (by decide) ?_
  refine lv_aload_n hx hb dX5_areSeveral_38 rfl (lv_at hl 5 rfl) ?_
  refine va_get (D := D) (ci := 5) (v := .ref mV) (C := RX5) (T := TX5) (N := 17) hx hb hts k_2 hown hK.1 hP 0 rfl rfl 7 (by decide) k_3 (fun _ h9 => h9) rfl dX5_areSeveral_39 ?_
  refine lv_iload_n hx hb dX5_areSeveral_42 rfl (lv_at hl 3 rfl) ?_
  refine ld_i hx hb hK.1 hP 2 0 rfl rfl (ix_lit (by decide)) 2 (by decide) (v := gv 2) rfl dX5_areSeveral_43 ?_
  refine lv_imul hx hb dX5_areSeveral_44 ?_
  refine lv_iload hx hb dX5_areSeveral_45 (lv_at hl 0 rfl) ?_
  refine lv_iadd hx hb dX5_areSeveral_47 ?_
  refine ld_i hx hb hK.1 hP 1 0 rfl rfl (ix3l (hv 2 (by decide)) 0 (by decide)) (((3 * (gv 2)) + 0).toNatClampNeg) rfl (v := gp (((3 * (gv 2)) + 0).toNatClampNeg)) rfl dX5_areSeveral_48 ?_
  refine lv_aload_n hx hb dX5_areSeveral_49 rfl (lv_at hl 5 rfl) ?_
  refine va_get (D := D) (ci := 5) (v := .ref mP) (C := RX5) (T := TX5) (N := 17) hx hb hts k_2 hown hK.1 hP 0 rfl rfl 0 (by decide) k_1 (fun _ h9 => h9) rfl dX5_areSeveral_50 ?_
  refine lv_iconst (v := 3) hx hb dX5_areSeveral_53 (by decide) ?_
  refine lv_aload_n hx hb dX5_areSeveral_54 rfl (lv_at hl 5 rfl) ?_
  refine va_get (D := D) (ci := 5) (v := .ref mV) (C := RX5) (T := TX5) (N := 17) hx hb hts k_2 hown hK.1 hP 0 rfl rfl 7 (by decide) k_3 (fun _ h9 => h9) rfl dX5_areSeveral_55 ?_
  refine lv_iload_n hx hb dX5_areSeveral_58 rfl (lv_at hl 2 rfl) ?_
  refine ld_i hx hb hK.1 hP 2 0 rfl rfl (ix_lit (by decide)) 0 (by decide) (v := gv 0) rfl dX5_areSeveral_59 ?_
  refine lv_imul hx hb dX5_areSeveral_60 ?_
  refine lv_iload hx hb dX5_areSeveral_61 (lv_at hl 0 rfl) ?_
  refine lv_iadd hx hb dX5_areSeveral_63 ?_
  refine ld_i hx hb hK.1 hP 1 0 rfl rfl (ix3l (hv 0 (by decide)) 0 (by decide)) (((3 * (gv 0)) + 0).toNatClampNeg) rfl (v := gp (((3 * (gv 0)) + 0).toNatClampNeg)) rfl dX5_areSeveral_64 ?_
  refine lv_icmp_ne (tgt := 72) hx hb dX5_areSeveral_65 (by decide) (fun c_67 => ?_) (fun c_67 => ?_)
  · skip
    refine lv_iconst (v := 0) hx hb dX5_areSeveral_72 (by decide) ?_
    refine lv_istore (lv' := [(4, .int 0), (5, .int 0), (3, .int 0), (2, .int 2), (1, .int 0), (0, .ref o)]) hx hb dX5_areSeveral_73 hl (by decide) rfl (fun ls hl => ?_)
    refine lv_iinc (v := 1) (lv' := [(5, .int 1), (4, .int 0), (3, .int 0), (2, .int 2), (1, .int 0), (0, .ref o)]) hx hb dX5_areSeveral_75 hl (k := 1) rfl (by decide) (by decide) rfl (fun ls hl => ?_)
    refine lv_goto (tgt := 22) hx hb dX5_areSeveral_78 (by decide) ?_
    refine lv_iload hx hb dX5_areSeveral_22 (lv_at hl 0 rfl) ?_
    refine lv_iconst (v := 3) hx hb dX5_areSeveral_24 (by decide) ?_
    refine lv_icmp_ge (tgt := 81) hx hb dX5_areSeveral_25 (by decide) (fun h => absurd h (by decide)) (fun _ => ?_)
    refine lv_iload hx hb dX5_areSeveral_28 (lv_at hl 1 rfl) ?_
    refine lv_if_eq (tgt := 72) hx hb dX5_areSeveral_30 (by decide) (fun _ => ?_) (fun h => absurd (by decide) h)
    refine lv_iconst (v := 0) hx hb dX5_areSeveral_72 (by decide) ?_
    refine lv_istore (lv' := [(4, .int 0), (5, .int 1), (3, .int 0), (2, .int 2), (1, .int 0), (0, .ref o)]) hx hb dX5_areSeveral_73 hl (by decide) rfl (fun ls hl => ?_)
    refine lv_iinc (v := 2) (lv' := [(5, .int 2), (4, .int 0), (3, .int 0), (2, .int 2), (1, .int 0), (0, .ref o)]) hx hb dX5_areSeveral_75 hl (k := 1) rfl (by decide) (by decide) rfl (fun ls hl => ?_)
    refine lv_goto (tgt := 22) hx hb dX5_areSeveral_78 (by decide) ?_
    refine lv_iload hx hb dX5_areSeveral_22 (lv_at hl 0 rfl) ?_
    refine lv_iconst (v := 3) hx hb dX5_areSeveral_24 (by decide) ?_
    refine lv_icmp_ge (tgt := 81) hx hb dX5_areSeveral_25 (by decide) (fun h => absurd h (by decide)) (fun _ => ?_)
    refine lv_iload hx hb dX5_areSeveral_28 (lv_at hl 1 rfl) ?_
    refine lv_if_eq (tgt := 72) hx hb dX5_areSeveral_30 (by decide) (fun _ => ?_) (fun h => absurd (by decide) h)
    refine lv_iconst (v := 0) hx hb dX5_areSeveral_72 (by decide) ?_
    refine lv_istore (lv' := [(4, .int 0), (5, .int 2), (3, .int 0), (2, .int 2), (1, .int 0), (0, .ref o)]) hx hb dX5_areSeveral_73 hl (by decide) rfl (fun ls hl => ?_)
    refine lv_iinc (v := 3) (lv' := [(5, .int 3), (4, .int 0), (3, .int 0), (2, .int 2), (1, .int 0), (0, .ref o)]) hx hb dX5_areSeveral_75 hl (k := 1) rfl (by decide) (by decide) rfl (fun ls hl => ?_)
    refine lv_goto (tgt := 22) hx hb dX5_areSeveral_78 (by decide) ?_
    refine lv_iload hx hb dX5_areSeveral_22 (lv_at hl 0 rfl) ?_
    refine lv_iconst (v := 3) hx hb dX5_areSeveral_24 (by decide) ?_
    refine lv_icmp_ge (tgt := 81) hx hb dX5_areSeveral_25 (by decide) (fun _ => ?_) (fun h => absurd (by decide) h)
    refine lv_iload_n hx hb dX5_areSeveral_81 rfl (lv_at hl 4 rfl) ?_
    refine lv_if_ne (tgt := 90) hx hb dX5_areSeveral_82 (by decide) (fun h => absurd (by decide) h) (fun _ => ?_)
    refine lv_iload hx hb dX5_areSeveral_85 (lv_at hl 1 rfl) ?_
    refine lv_if_eq (tgt := 94) hx hb dX5_areSeveral_87 (by decide) (fun _ => ?_) (fun h => absurd (by decide) h)
    refine lv_iconst (v := 0) hx hb dX5_areSeveral_94 (by decide) ?_
    refine lv_istore_n (lv' := [(1, .int 0), (5, .int 3), (4, .int 0), (3, .int 0), (2, .int 2), (0, .ref o)]) hx hb dX5_areSeveral_95 rfl hl (by decide) rfl (fun ls hl => ?_)
    have hq1 : z5_areSeveral_j3 gp gv = z5_areSeveral_j4 gp gv := by unfold z5_areSeveral_j3; rw [if_neg c_67]
    have hq : z5_areSeveral gp gv = z5_areSeveral_j4 gp gv := hj_18.symm.trans hq1
    exact jo_X5_areSeveral_19 hv hx hb hr hml hown hts hlk hP hK hq.symm ls (lv_sub hl [3, 4, 0, 5] rfl)
  · skip
    refine lv_iconst (v := 1) hx hb dX5_areSeveral_68 (by decide) ?_
    refine lv_goto (tgt := 73) hx hb dX5_areSeveral_69 (by decide) ?_
    refine lv_istore (lv' := [(4, .int 1), (5, .int 0), (3, .int 0), (2, .int 2), (1, .int 0), (0, .ref o)]) hx hb dX5_areSeveral_73 hl (by decide) rfl (fun ls hl => ?_)
    refine lv_iinc (v := 1) (lv' := [(5, .int 1), (4, .int 1), (3, .int 0), (2, .int 2), (1, .int 0), (0, .ref o)]) hx hb dX5_areSeveral_75 hl (k := 1) rfl (by decide) (by decide) rfl (fun ls hl => ?_)
    refine lv_goto (tgt := 22) hx hb dX5_areSeveral_78 (by decide) ?_
    refine lv_iload hx hb dX5_areSeveral_22 (lv_at hl 0 rfl) ?_
    refine lv_iconst (v := 3) hx hb dX5_areSeveral_24 (by decide) ?_
    refine lv_icmp_ge (tgt := 81) hx hb dX5_areSeveral_25 (by decide) (fun h => absurd h (by decide)) (fun _ => ?_)
    refine lv_iload hx hb dX5_areSeveral_28 (lv_at hl 1 rfl) ?_
    refine lv_if_eq (tgt := 72) hx hb dX5_areSeveral_30 (by decide) (fun h => absurd h (by decide)) (fun _ => ?_)
    refine lv_aload_n hx hb dX5_areSeveral_33 rfl (lv_at hl 5 rfl) ?_
    refine va_get (D := D) (ci := 5) (v := .ref mP) (C := RX5) (T := TX5) (N := 17) hx hb hts k_2 hown hK.1 hP 0 rfl rfl 0 (by decide) k_1 (fun _ h9 => h9) rfl dX5_areSeveral_34 ?_
    refine lv_iconst (v := 3) hx hb dX5_areSeveral_37 (by decide) ?_
    refine lv_aload_n hx hb dX5_areSeveral_38 rfl (lv_at hl 5 rfl) ?_
    refine va_get (D := D) (ci := 5) (v := .ref mV) (C := RX5) (T := TX5) (N := 17) hx hb hts k_2 hown hK.1 hP 0 rfl rfl 7 (by decide) k_3 (fun _ h9 => h9) rfl dX5_areSeveral_39 ?_
    refine lv_iload_n hx hb dX5_areSeveral_42 rfl (lv_at hl 3 rfl) ?_
    refine ld_i hx hb hK.1 hP 2 0 rfl rfl (ix_lit (by decide)) 2 (by decide) (v := gv 2) rfl dX5_areSeveral_43 ?_
    refine lv_imul hx hb dX5_areSeveral_44 ?_
    refine lv_iload hx hb dX5_areSeveral_45 (lv_at hl 0 rfl) ?_
    refine lv_iadd hx hb dX5_areSeveral_47 ?_
    refine ld_i hx hb hK.1 hP 1 0 rfl rfl (ix3l (hv 2 (by decide)) 1 (by decide)) (((3 * (gv 2)) + 1).toNatClampNeg) rfl (v := gp (((3 * (gv 2)) + 1).toNatClampNeg)) rfl dX5_areSeveral_48 ?_
    refine lv_aload_n hx hb dX5_areSeveral_49 rfl (lv_at hl 5 rfl) ?_
    refine va_get (D := D) (ci := 5) (v := .ref mP) (C := RX5) (T := TX5) (N := 17) hx hb hts k_2 hown hK.1 hP 0 rfl rfl 0 (by decide) k_1 (fun _ h9 => h9) rfl dX5_areSeveral_50 ?_
    refine lv_iconst (v := 3) hx hb dX5_areSeveral_53 (by decide) ?_
    refine lv_aload_n hx hb dX5_areSeveral_54 rfl (lv_at hl 5 rfl) ?_
    refine va_get (D := D) (ci := 5) (v := .ref mV) (C := RX5) (T := TX5) (N := 17) hx hb hts k_2 hown hK.1 hP 0 rfl rfl 7 (by decide) k_3 (fun _ h9 => h9) rfl dX5_areSeveral_55 ?_
    refine lv_iload_n hx hb dX5_areSeveral_58 rfl (lv_at hl 2 rfl) ?_
    refine ld_i hx hb hK.1 hP 2 0 rfl rfl (ix_lit (by decide)) 0 (by decide) (v := gv 0) rfl dX5_areSeveral_59 ?_
    refine lv_imul hx hb dX5_areSeveral_60 ?_
    refine lv_iload hx hb dX5_areSeveral_61 (lv_at hl 0 rfl) ?_
    refine lv_iadd hx hb dX5_areSeveral_63 ?_
    refine ld_i hx hb hK.1 hP 1 0 rfl rfl (ix3l (hv 0 (by decide)) 1 (by decide)) (((3 * (gv 0)) + 1).toNatClampNeg) rfl (v := gp (((3 * (gv 0)) + 1).toNatClampNeg)) rfl dX5_areSeveral_64 ?_
    refine lv_icmp_ne (tgt := 72) hx hb dX5_areSeveral_65 (by decide) (fun c_68 => ?_) (fun c_68 => ?_)
    · skip
      refine lv_iconst (v := 0) hx hb dX5_areSeveral_72 (by decide) ?_
      refine lv_istore (lv' := [(4, .int 0), (5, .int 1), (3, .int 0), (2, .int 2), (1, .int 0), (0, .ref o)]) hx hb dX5_areSeveral_73 hl (by decide) rfl (fun ls hl => ?_)
      refine lv_iinc (v := 2) (lv' := [(5, .int 2), (4, .int 0), (3, .int 0), (2, .int 2), (1, .int 0), (0, .ref o)]) hx hb dX5_areSeveral_75 hl (k := 1) rfl (by decide) (by decide) rfl (fun ls hl => ?_)
      refine lv_goto (tgt := 22) hx hb dX5_areSeveral_78 (by decide) ?_
      refine lv_iload hx hb dX5_areSeveral_22 (lv_at hl 0 rfl) ?_
      refine lv_iconst (v := 3) hx hb dX5_areSeveral_24 (by decide) ?_
      refine lv_icmp_ge (tgt := 81) hx hb dX5_areSeveral_25 (by decide) (fun h => absurd h (by decide)) (fun _ => ?_)
      refine lv_iload hx hb dX5_areSeveral_28 (lv_at hl 1 rfl) ?_
      refine lv_if_eq (tgt := 72) hx hb dX5_areSeveral_30 (by decide) (fun _ => ?_) (fun h => absurd (by decide) h)
      refine lv_iconst (v := 0) hx hb dX5_areSeveral_72 (by decide) ?_
      refine lv_istore (lv' := [(4, .int 0), (5, .int 2), (3, .int 0), (2, .int 2), (1, .int 0), (0, .ref o)]) hx hb dX5_areSeveral_73 hl (by decide) rfl (fun ls hl => ?_)
      refine lv_iinc (v := 3) (lv' := [(5, .int 3), (4, .int 0), (3, .int 0), (2, .int 2), (1, .int 0), (0, .ref o)]) hx hb dX5_areSeveral_75 hl (k := 1) rfl (by decide) (by decide) rfl (fun ls hl => ?_)
      refine lv_goto (tgt := 22) hx hb dX5_areSeveral_78 (by decide) ?_
      refine lv_iload hx hb dX5_areSeveral_22 (lv_at hl 0 rfl) ?_
      refine lv_iconst (v := 3) hx hb dX5_areSeveral_24 (by decide) ?_
      refine lv_icmp_ge (tgt := 81) hx hb dX5_areSeveral_25 (by decide) (fun _ => ?_) (fun h => absurd (by decide) h)
      refine lv_iload_n hx hb dX5_areSeveral_81 rfl (lv_at hl 4 rfl) ?_
      refine lv_if_ne (tgt := 90) hx hb dX5_areSeveral_82 (by decide) (fun h => absurd (by decide) h) (fun _ => ?_)
      refine lv_iload hx hb dX5_areSeveral_85 (lv_at hl 1 rfl) ?_
      refine lv_if_eq (tgt := 94) hx hb dX5_areSeveral_87 (by decide) (fun _ => ?_) (fun h => absurd (by decide) h)
      refine lv_iconst (v := 0) hx hb dX5_areSeveral_94 (by decide) ?_
      refine lv_istore_n (lv' := [(1, .int 0), (5, .int 3), (4, .int 0), (3, .int 0), (2, .int 2), (0, .ref o)]) hx hb dX5_areSeveral_95 rfl hl (by decide) rfl (fun ls hl => ?_)
      have hq1 : z5_areSeveral_j3 gp gv = z5_areSeveral_j4 gp gv := by unfold z5_areSeveral_j3; rw [if_pos c_67, if_neg c_68]
      have hq : z5_areSeveral gp gv = z5_areSeveral_j4 gp gv := hj_18.symm.trans hq1
      exact jo_X5_areSeveral_19 hv hx hb hr hml hown hts hlk hP hK hq.symm ls (lv_sub hl [3, 4, 0, 5] rfl)
    · skip
      refine lv_iconst (v := 1) hx hb dX5_areSeveral_68 (by decide) ?_
      refine lv_goto (tgt := 73) hx hb dX5_areSeveral_69 (by decide) ?_
      refine lv_istore (lv' := [(4, .int 1), (5, .int 1), (3, .int 0), (2, .int 2), (1, .int 0), (0, .ref o)]) hx hb dX5_areSeveral_73 hl (by decide) rfl (fun ls hl => ?_)
      refine lv_iinc (v := 2) (lv' := [(5, .int 2), (4, .int 1), (3, .int 0), (2, .int 2), (1, .int 0), (0, .ref o)]) hx hb dX5_areSeveral_75 hl (k := 1) rfl (by decide) (by decide) rfl (fun ls hl => ?_)
      refine lv_goto (tgt := 22) hx hb dX5_areSeveral_78 (by decide) ?_
      refine lv_iload hx hb dX5_areSeveral_22 (lv_at hl 0 rfl) ?_
      refine lv_iconst (v := 3) hx hb dX5_areSeveral_24 (by decide) ?_
      refine lv_icmp_ge (tgt := 81) hx hb dX5_areSeveral_25 (by decide) (fun h => absurd h (by decide)) (fun _ => ?_)
      refine lv_iload hx hb dX5_areSeveral_28 (lv_at hl 1 rfl) ?_
      refine lv_if_eq (tgt := 72) hx hb dX5_areSeveral_30 (by decide) (fun h => absurd h (by decide)) (fun _ => ?_)
      refine lv_aload_n hx hb dX5_areSeveral_33 rfl (lv_at hl 5 rfl) ?_
      refine va_get (D := D) (ci := 5) (v := .ref mP) (C := RX5) (T := TX5) (N := 17) hx hb hts k_2 hown hK.1 hP 0 rfl rfl 0 (by decide) k_1 (fun _ h9 => h9) rfl dX5_areSeveral_34 ?_
      refine lv_iconst (v := 3) hx hb dX5_areSeveral_37 (by decide) ?_
      refine lv_aload_n hx hb dX5_areSeveral_38 rfl (lv_at hl 5 rfl) ?_
      refine va_get (D := D) (ci := 5) (v := .ref mV) (C := RX5) (T := TX5) (N := 17) hx hb hts k_2 hown hK.1 hP 0 rfl rfl 7 (by decide) k_3 (fun _ h9 => h9) rfl dX5_areSeveral_39 ?_
      refine lv_iload_n hx hb dX5_areSeveral_42 rfl (lv_at hl 3 rfl) ?_
      refine ld_i hx hb hK.1 hP 2 0 rfl rfl (ix_lit (by decide)) 2 (by decide) (v := gv 2) rfl dX5_areSeveral_43 ?_
      refine lv_imul hx hb dX5_areSeveral_44 ?_
      refine lv_iload hx hb dX5_areSeveral_45 (lv_at hl 0 rfl) ?_
      refine lv_iadd hx hb dX5_areSeveral_47 ?_
      refine ld_i hx hb hK.1 hP 1 0 rfl rfl (ix3l (hv 2 (by decide)) 2 (by decide)) (((3 * (gv 2)) + 2).toNatClampNeg) rfl (v := gp (((3 * (gv 2)) + 2).toNatClampNeg)) rfl dX5_areSeveral_48 ?_
      refine lv_aload_n hx hb dX5_areSeveral_49 rfl (lv_at hl 5 rfl) ?_
      refine va_get (D := D) (ci := 5) (v := .ref mP) (C := RX5) (T := TX5) (N := 17) hx hb hts k_2 hown hK.1 hP 0 rfl rfl 0 (by decide) k_1 (fun _ h9 => h9) rfl dX5_areSeveral_50 ?_
      refine lv_iconst (v := 3) hx hb dX5_areSeveral_53 (by decide) ?_
      refine lv_aload_n hx hb dX5_areSeveral_54 rfl (lv_at hl 5 rfl) ?_
      refine va_get (D := D) (ci := 5) (v := .ref mV) (C := RX5) (T := TX5) (N := 17) hx hb hts k_2 hown hK.1 hP 0 rfl rfl 7 (by decide) k_3 (fun _ h9 => h9) rfl dX5_areSeveral_55 ?_
      refine lv_iload_n hx hb dX5_areSeveral_58 rfl (lv_at hl 2 rfl) ?_
      refine ld_i hx hb hK.1 hP 2 0 rfl rfl (ix_lit (by decide)) 0 (by decide) (v := gv 0) rfl dX5_areSeveral_59 ?_
      refine lv_imul hx hb dX5_areSeveral_60 ?_
      refine lv_iload hx hb dX5_areSeveral_61 (lv_at hl 0 rfl) ?_
      refine lv_iadd hx hb dX5_areSeveral_63 ?_
      refine ld_i hx hb hK.1 hP 1 0 rfl rfl (ix3l (hv 0 (by decide)) 2 (by decide)) (((3 * (gv 0)) + 2).toNatClampNeg) rfl (v := gp (((3 * (gv 0)) + 2).toNatClampNeg)) rfl dX5_areSeveral_64 ?_
      refine lv_icmp_ne (tgt := 72) hx hb dX5_areSeveral_65 (by decide) (fun c_69 => ?_) (fun c_69 => ?_)
      · skip
        refine lv_iconst (v := 0) hx hb dX5_areSeveral_72 (by decide) ?_
        refine lv_istore (lv' := [(4, .int 0), (5, .int 2), (3, .int 0), (2, .int 2), (1, .int 0), (0, .ref o)]) hx hb dX5_areSeveral_73 hl (by decide) rfl (fun ls hl => ?_)
        refine lv_iinc (v := 3) (lv' := [(5, .int 3), (4, .int 0), (3, .int 0), (2, .int 2), (1, .int 0), (0, .ref o)]) hx hb dX5_areSeveral_75 hl (k := 1) rfl (by decide) (by decide) rfl (fun ls hl => ?_)
        refine lv_goto (tgt := 22) hx hb dX5_areSeveral_78 (by decide) ?_
        refine lv_iload hx hb dX5_areSeveral_22 (lv_at hl 0 rfl) ?_
        refine lv_iconst (v := 3) hx hb dX5_areSeveral_24 (by decide) ?_
        refine lv_icmp_ge (tgt := 81) hx hb dX5_areSeveral_25 (by decide) (fun _ => ?_) (fun h => absurd (by decide) h)
        refine lv_iload_n hx hb dX5_areSeveral_81 rfl (lv_at hl 4 rfl) ?_
        refine lv_if_ne (tgt := 90) hx hb dX5_areSeveral_82 (by decide) (fun h => absurd (by decide) h) (fun _ => ?_)
        refine lv_iload hx hb dX5_areSeveral_85 (lv_at hl 1 rfl) ?_
        refine lv_if_eq (tgt := 94) hx hb dX5_areSeveral_87 (by decide) (fun _ => ?_) (fun h => absurd (by decide) h)
        refine lv_iconst (v := 0) hx hb dX5_areSeveral_94 (by decide) ?_
        refine lv_istore_n (lv' := [(1, .int 0), (5, .int 3), (4, .int 0), (3, .int 0), (2, .int 2), (0, .ref o)]) hx hb dX5_areSeveral_95 rfl hl (by decide) rfl (fun ls hl => ?_)
        have hq1 : z5_areSeveral_j3 gp gv = z5_areSeveral_j4 gp gv := by unfold z5_areSeveral_j3; rw [if_pos c_67, if_pos c_68, if_neg c_69]
        have hq : z5_areSeveral gp gv = z5_areSeveral_j4 gp gv := hj_18.symm.trans hq1
        exact jo_X5_areSeveral_19 hv hx hb hr hml hown hts hlk hP hK hq.symm ls (lv_sub hl [3, 4, 0, 5] rfl)
      · skip
        refine lv_iconst (v := 1) hx hb dX5_areSeveral_68 (by decide) ?_
        refine lv_goto (tgt := 73) hx hb dX5_areSeveral_69 (by decide) ?_
        refine lv_istore (lv' := [(4, .int 1), (5, .int 2), (3, .int 0), (2, .int 2), (1, .int 0), (0, .ref o)]) hx hb dX5_areSeveral_73 hl (by decide) rfl (fun ls hl => ?_)
        refine lv_iinc (v := 3) (lv' := [(5, .int 3), (4, .int 1), (3, .int 0), (2, .int 2), (1, .int 0), (0, .ref o)]) hx hb dX5_areSeveral_75 hl (k := 1) rfl (by decide) (by decide) rfl (fun ls hl => ?_)
        refine lv_goto (tgt := 22) hx hb dX5_areSeveral_78 (by decide) ?_
        refine lv_iload hx hb dX5_areSeveral_22 (lv_at hl 0 rfl) ?_
        refine lv_iconst (v := 3) hx hb dX5_areSeveral_24 (by decide) ?_
        refine lv_icmp_ge (tgt := 81) hx hb dX5_areSeveral_25 (by decide) (fun _ => ?_) (fun h => absurd (by decide) h)
        refine lv_iload_n hx hb dX5_areSeveral_81 rfl (lv_at hl 4 rfl) ?_
        refine lv_if_ne (tgt := 90) hx hb dX5_areSeveral_82 (by decide) (fun h => absurd (by decide) h) (fun _ => ?_)
        refine lv_iload hx hb dX5_areSeveral_85 (lv_at hl 1 rfl) ?_
        refine lv_if_eq (tgt := 94) hx hb dX5_areSeveral_87 (by decide) (fun h => absurd h (by decide)) (fun _ => ?_)
        refine lv_iconst (v := 1) hx hb dX5_areSeveral_90 (by decide) ?_
        refine lv_goto (tgt := 95) hx hb dX5_areSeveral_91 (by decide) ?_
        refine lv_istore_n (lv' := [(1, .int 1), (5, .int 3), (4, .int 1), (3, .int 0), (2, .int 2), (0, .ref o)]) hx hb dX5_areSeveral_95 rfl hl (by decide) rfl (fun ls hl => ?_)
        have hq1 : z5_areSeveral_j3 gp gv = 1 := by unfold z5_areSeveral_j3; rw [if_pos c_67, if_pos c_68, if_pos c_69]
        have hq : z5_areSeveral gp gv = 1 := hj_18.symm.trans hq1
        exact jo_X5_areSeveral_12 hv hx hb hr hml hown hts hlk hP hK hq ls (lv_sub hl [5, 0, 4, 3] rfl)
set_option maxHeartbeats 4000000 in
set_option maxRecDepth 100000 in
theorem jo_X5_areSeveral_17 {l : Launch} {D : va_G} {cI cJ : ClassId} {pG : Program} {eG : Env} {sG : State} {mG : MethodId} {below : List Frame} {meth : Method} {cG : Code} {o : Nat} {mP : Nat} {mL : Nat} {mC : Nat} {mN : Nat} {mF : Nat} {mR : Nat} {mD : Nat} {mV : Nat} {mX : Nat} {mA : Nat} {mK : Nat} {mT : Nat} {mU : Nat} {mH : Nat} {mI : Nat} {cm : Int32} {pm : Int32} {gp : Nat → Int32} {gv : Nat → Int32} (hv : ∀ n, n < 5 → ok_i (gv n)) (hx : pG.tables.exec = Jvm.exec) (hb : cG.code = cX5_areSeveral) (hr : meth.sig.returnType = some .boolean) (hml : cG.maxLocals = 7) (hown : sG.vm.findClass RX5 = some mG.cls) (hts : ∀ x ∈ wsX5_areSeveral, x.before ([.ref o] : List Value).toArray sG = true) (hlk : meth.locks = false) (hP : va_P D vwCl [kM o mP mL mC mN mF mR mD mV mX mA mK cm mT pm mU mH mI, kA mP cI 180 gp, kA mV cI 5 gv] sG.heap) (hK : gd_K D cI cJ sG) (hj_17 : z5_areSeveral_j2 gp gv = z5_areSeveral gp gv) (ls : Array Slot) (hl : lv_has ls 7 [(3, .int 0), (2, .int 1), (1, .int 0), (0, .ref o)]) : W pG l eG (headSpec wsX5_areSeveral ({ frames := 1, cells := 0, slots := 0, locals := 30 })).room sG mG ([.ref o] : List Value).toArray below meth cG sG.heap [] 0 0 (MQ below (vp_Si (fun r : Int32 => r = z5_areSeveral gp gv)) ([.ref o] : List Value).toArray sG 0 0 (fun _ => False)) (F0 mG 96 ls []) := by
  have k_1 := hts (.fieldLink RX5 7 "ConicRowsModel" "points" "[I") (by decide +kernel)
  have k_2 : ∀ w ∈ wsX50, w ∈ wsX5_areSeveral := by decide +kernel
  have k_3 := hts (.fieldLink RX5 32 "ConicRowsModel" "five" "[I") (by decide +kernel)
  refine lv_iinc (v := 1) (lv' := [(3, .int 1), (2, .int 1), (1, .int 0), (0, .ref o)]) hx hb dX5_areSeveral_96 hl (k := 0) rfl (by decide) (by decide) rfl (fun ls hl => ?_)
  refine lv_goto (tgt := 11) hx hb dX5_areSeveral_99 (by decide) ?_
  refine lv_iload_n hx hb dX5_areSeveral_11 rfl (lv_at hl 0 rfl) ?_
  refine lv_iload_n hx hb dX5_areSeveral_12 rfl (lv_at hl 1 rfl) ?_
  refine lv_icmp_ge (tgt := 102) hx hb dX5_areSeveral_13 (by decide) (fun _ => ?_) (fun h => absurd (by decide) h)
  refine lv_iload_n hx hb dX5_areSeveral_102 rfl (lv_at hl 1 rfl) ?_
  refine lv_iconst (v := 1) hx hb dX5_areSeveral_103 (by decide) ?_
  refine lv_iadd hx hb dX5_areSeveral_104 ?_
  refine lv_eqi (v := 2) (by decide) ?_
  refine lv_iconst (v := 5) hx hb dX5_areSeveral_105 (by decide) ?_
  refine lv_irem hx hb dX5_areSeveral_106 (by decide) ?_
  refine lv_eqi (v := 2) (by decide) ?_
  refine lv_istore_n (lv' := [(3, .int 2), (2, .int 1), (1, .int 0), (0, .ref o)]) hx hb dX5_areSeveral_107 rfl hl (by decide) rfl (fun ls hl => ?_)
  refine lv_iload_n hx hb dX5_areSeveral_108 rfl (lv_at hl 1 rfl) ?_
  refine lv_iconst (v := 2) hx hb dX5_areSeveral_109 (by decide) ?_
  refine lv_iadd hx hb dX5_areSeveral_110 ?_
  refine lv_eqi (v := 3) (by decide) ?_
  refine lv_iconst (v := 5) hx hb dX5_areSeveral_111 (by decide) ?_
  refine lv_irem hx hb dX5_areSeveral_112 (by decide) ?_
  refine lv_eqi (v := 3) (by decide) ?_
  refine lv_istore (lv' := [(4, .int 3), (3, .int 2), (2, .int 1), (1, .int 0), (0, .ref o)]) hx hb dX5_areSeveral_113 hl (by decide) rfl (fun ls hl => ?_)
  refine lv_iload_n hx hb dX5_areSeveral_115 rfl (lv_at hl 2 rfl) ?_
  refine lv_iconst (v := 3) hx hb dX5_areSeveral_116 (by decide) ?_
  refine lv_iadd hx hb dX5_areSeveral_117 ?_
  refine lv_eqi (v := 4) (by decide) ?_
  refine lv_iconst (v := 5) hx hb dX5_areSeveral_118 (by decide) ?_
  refine lv_irem hx hb dX5_areSeveral_119 (by decide) ?_
  refine lv_eqi (v := 4) (by decide) ?_
  refine lv_istore (lv' := [(5, .int 4), (4, .int 3), (3, .int 2), (2, .int 1), (1, .int 0), (0, .ref o)]) hx hb dX5_areSeveral_120 hl (by decide) rfl (fun ls hl => ?_)
  refine lv_iload_n hx hb dX5_areSeveral_122 rfl (lv_at hl 3 rfl) ?_
  refine lv_iconst (v := 4) hx hb dX5_areSeveral_123 (by decide) ?_
  refine lv_iadd hx hb dX5_areSeveral_124 ?_
  refine lv_eqi (v := 5) (by decide) ?_
  refine lv_iconst (v := 5) hx hb dX5_areSeveral_125 (by decide) ?_
  refine lv_irem hx hb dX5_areSeveral_126 (by decide) ?_
  refine lv_eqi (v := 0) (by decide) ?_
  refine lv_istore (lv' := [(6, .int 0), (5, .int 4), (4, .int 3), (3, .int 2), (2, .int 1), (1, .int 0), (0, .ref o)]) hx hb dX5_areSeveral_127 hl (by decide) rfl (fun ls hl => ?_)
  refine lv_iload_n hx hb dX5_areSeveral_129 rfl (lv_at hl 5 rfl) ?_
  refine lv_if_ne (tgt := 190) hx hb dX5_areSeveral_130 (by decide) (fun h => absurd (by decide) h) (fun _ => ?_)
  refine lv_aload_n hx hb dX5_areSeveral_133 rfl (lv_at hl 6 rfl) ?_
  refine lv_iload_n hx hb dX5_areSeveral_134 rfl (lv_at hl 3 rfl) ?_
  refine lv_iload hx hb dX5_areSeveral_135 (lv_at hl 2 rfl) ?_
  refine lv_iload hx hb dX5_areSeveral_137 (lv_at hl 1 rfl) ?_
  have hPc := hP.sub (ws' := [kM o mP mL mC mN mF mR mD mV mX mA mK cm mT pm mU mH mI, kA mP cI 180 gp, kA mV cI 5 gv]) [0, 1, 2] rfl
  refine cr_l (va_runV (As := [.int 2, .int 3, .int 4]) (rest := []) ⟨hx, hb, hml, hown, hts⟩ (c_X5_spreadOf l D cI cJ o mP mL mC mN mF mR mD mV mX mA mK mT mU mH mI cm pm gp gv 2 3 4 (ix_lit (by decide)) (ix_lit (by decide)) (ix_lit (by decide)) hv) (cwV 3 hts gX5_areSeveral_X5_spreadOf rfl rfl rfl (by decide +kernel) ⟨Nat.le_of_ble_eq_true rfl, Nat.le_of_ble_eq_true rfl⟩) ⟨gd_blR, va_recv hK.1 hPc (ci := 5) (q0 := 0) rfl rfl, gd_prR hPc hK⟩ rfl rfl hl.1 rfl (lv_room (Nat.le_of_ble_eq_true rfl)) dX5_areSeveral_139 ⟨Nat.zero_le _, Nat.zero_le _⟩) (fun r_139 hw => ?_)
  subst hw
  clear hPc
  refine lv_lconst (v := 0) hx hb dX5_areSeveral_142 (by decide) ?_
  refine lb_ne (tgt := 194) hx hb dX5_areSeveral_143 rfl dX5_areSeveral_144 (by decide) (fun c_70 => ?_) (fun c_70 => ?_)
  · skip
    refine lv_iconst (v := 0) hx hb dX5_areSeveral_194 (by decide) ?_
    refine lv_istore_n (lv' := [(1, .int 0), (6, .int 0), (5, .int 4), (4, .int 3), (3, .int 2), (2, .int 1), (0, .ref o)]) hx hb dX5_areSeveral_195 rfl hl (by decide) rfl (fun ls hl => ?_)
    have hq1 : z5_areSeveral_j2 gp gv = z5_areSeveral_j3 gp gv := by unfold z5_areSeveral_j2; rw [if_neg c_70]
    have hq : z5_areSeveral gp gv = z5_areSeveral_j3 gp gv := hj_17.symm.trans hq1
    exact jo_X5_areSeveral_18 hv hx hb hr hml hown hts hlk hP hK hq.symm ls (lv_sub hl [5, 0, 6] rfl)
  · skip
    refine lv_aload_n hx hb dX5_areSeveral_147 rfl (lv_at hl 6 rfl) ?_
    refine lv_iload_n hx hb dX5_areSeveral_148 rfl (lv_at hl 3 rfl) ?_
    refine lv_iload hx hb dX5_areSeveral_149 (lv_at hl 2 rfl) ?_
    refine lv_iload hx hb dX5_areSeveral_151 (lv_at hl 0 rfl) ?_
    have hPc := hP.sub (ws' := [kM o mP mL mC mN mF mR mD mV mX mA mK cm mT pm mU mH mI, kA mP cI 180 gp, kA mV cI 5 gv]) [0, 1, 2] rfl
    refine cr_l (va_runV (As := [.int 2, .int 3, .int 0]) (rest := []) ⟨hx, hb, hml, hown, hts⟩ (c_X5_spreadOf l D cI cJ o mP mL mC mN mF mR mD mV mX mA mK mT mU mH mI cm pm gp gv 2 3 0 (ix_lit (by decide)) (ix_lit (by decide)) (ix_lit (by decide)) hv) (cwV 3 hts gX5_areSeveral_X5_spreadOf rfl rfl rfl (by decide +kernel) ⟨Nat.le_of_ble_eq_true rfl, Nat.le_of_ble_eq_true rfl⟩) ⟨gd_blR, va_recv hK.1 hPc (ci := 5) (q0 := 0) rfl rfl, gd_prR hPc hK⟩ rfl rfl hl.1 rfl (lv_room (Nat.le_of_ble_eq_true rfl)) dX5_areSeveral_153 ⟨Nat.zero_le _, Nat.zero_le _⟩) (fun r_153 hw => ?_)
    subst hw
    clear hPc
    refine lv_lconst (v := 0) hx hb dX5_areSeveral_156 (by decide) ?_
    refine lb_ne (tgt := 194) hx hb dX5_areSeveral_157 rfl dX5_areSeveral_158 (by decide) (fun c_71 => ?_) (fun c_71 => ?_)
    · skip
      refine lv_iconst (v := 0) hx hb dX5_areSeveral_194 (by decide) ?_
      refine lv_istore_n (lv' := [(1, .int 0), (6, .int 0), (5, .int 4), (4, .int 3), (3, .int 2), (2, .int 1), (0, .ref o)]) hx hb dX5_areSeveral_195 rfl hl (by decide) rfl (fun ls hl => ?_)
      have hq1 : z5_areSeveral_j2 gp gv = z5_areSeveral_j3 gp gv := by unfold z5_areSeveral_j2; rw [if_pos c_70, if_neg c_71]
      have hq : z5_areSeveral gp gv = z5_areSeveral_j3 gp gv := hj_17.symm.trans hq1
      exact jo_X5_areSeveral_18 hv hx hb hr hml hown hts hlk hP hK hq.symm ls (lv_sub hl [5, 0, 6] rfl)
    · skip
      refine lv_aload_n hx hb dX5_areSeveral_161 rfl (lv_at hl 6 rfl) ?_
      refine lv_iload hx hb dX5_areSeveral_162 (lv_at hl 2 rfl) ?_
      refine lv_iload hx hb dX5_areSeveral_164 (lv_at hl 1 rfl) ?_
      refine lv_iload hx hb dX5_areSeveral_166 (lv_at hl 0 rfl) ?_
      have hPc := hP.sub (ws' := [kM o mP mL mC mN mF mR mD mV mX mA mK cm mT pm mU mH mI, kA mP cI 180 gp, kA mV cI 5 gv]) [0, 1, 2] rfl
      refine cr_l (va_runV (As := [.int 3, .int 4, .int 0]) (rest := []) ⟨hx, hb, hml, hown, hts⟩ (c_X5_spreadOf l D cI cJ o mP mL mC mN mF mR mD mV mX mA mK mT mU mH mI cm pm gp gv 3 4 0 (ix_lit (by decide)) (ix_lit (by decide)) (ix_lit (by decide)) hv) (cwV 3 hts gX5_areSeveral_X5_spreadOf rfl rfl rfl (by decide +kernel) ⟨Nat.le_of_ble_eq_true rfl, Nat.le_of_ble_eq_true rfl⟩) ⟨gd_blR, va_recv hK.1 hPc (ci := 5) (q0 := 0) rfl rfl, gd_prR hPc hK⟩ rfl rfl hl.1 rfl (lv_room (Nat.le_of_ble_eq_true rfl)) dX5_areSeveral_168 ⟨Nat.zero_le _, Nat.zero_le _⟩) (fun r_168 hw => ?_)
      subst hw
      clear hPc
      refine lv_lconst (v := 0) hx hb dX5_areSeveral_171 (by decide) ?_
      refine lb_ne (tgt := 194) hx hb dX5_areSeveral_172 rfl dX5_areSeveral_173 (by decide) (fun c_72 => ?_) (fun c_72 => ?_)
      · skip
        refine lv_iconst (v := 0) hx hb dX5_areSeveral_194 (by decide) ?_
        refine lv_istore_n (lv' := [(1, .int 0), (6, .int 0), (5, .int 4), (4, .int 3), (3, .int 2), (2, .int 1), (0, .ref o)]) hx hb dX5_areSeveral_195 rfl hl (by decide) rfl (fun ls hl => ?_)
        have hq1 : z5_areSeveral_j2 gp gv = z5_areSeveral_j3 gp gv := by unfold z5_areSeveral_j2; rw [if_pos c_70, if_pos c_71, if_neg c_72]
        have hq : z5_areSeveral gp gv = z5_areSeveral_j3 gp gv := hj_17.symm.trans hq1
        exact jo_X5_areSeveral_18 hv hx hb hr hml hown hts hlk hP hK hq.symm ls (lv_sub hl [5, 0, 6] rfl)
      · skip
        refine lv_aload_n hx hb dX5_areSeveral_176 rfl (lv_at hl 6 rfl) ?_
        refine lv_iload_n hx hb dX5_areSeveral_177 rfl (lv_at hl 3 rfl) ?_
        refine lv_iload hx hb dX5_areSeveral_178 (lv_at hl 1 rfl) ?_
        refine lv_iload hx hb dX5_areSeveral_180 (lv_at hl 0 rfl) ?_
        have hPc := hP.sub (ws' := [kM o mP mL mC mN mF mR mD mV mX mA mK cm mT pm mU mH mI, kA mP cI 180 gp, kA mV cI 5 gv]) [0, 1, 2] rfl
        refine cr_l (va_runV (As := [.int 2, .int 4, .int 0]) (rest := []) ⟨hx, hb, hml, hown, hts⟩ (c_X5_spreadOf l D cI cJ o mP mL mC mN mF mR mD mV mX mA mK mT mU mH mI cm pm gp gv 2 4 0 (ix_lit (by decide)) (ix_lit (by decide)) (ix_lit (by decide)) hv) (cwV 3 hts gX5_areSeveral_X5_spreadOf rfl rfl rfl (by decide +kernel) ⟨Nat.le_of_ble_eq_true rfl, Nat.le_of_ble_eq_true rfl⟩) ⟨gd_blR, va_recv hK.1 hPc (ci := 5) (q0 := 0) rfl rfl, gd_prR hPc hK⟩ rfl rfl hl.1 rfl (lv_room (Nat.le_of_ble_eq_true rfl)) dX5_areSeveral_182 ⟨Nat.zero_le _, Nat.zero_le _⟩) (fun r_182 hw => ?_)
        subst hw
        clear hPc
        refine lv_lconst (v := 0) hx hb dX5_areSeveral_185 (by decide) ?_
        refine lb_ne (tgt := 194) hx hb dX5_areSeveral_186 rfl dX5_areSeveral_187 (by decide) (fun c_73 => ?_) (fun c_73 => ?_)
        · skip
          refine lv_iconst (v := 0) hx hb dX5_areSeveral_194 (by decide) ?_
          refine lv_istore_n (lv' := [(1, .int 0), (6, .int 0), (5, .int 4), (4, .int 3), (3, .int 2), (2, .int 1), (0, .ref o)]) hx hb dX5_areSeveral_195 rfl hl (by decide) rfl (fun ls hl => ?_)
          have hq1 : z5_areSeveral_j2 gp gv = z5_areSeveral_j3 gp gv := by unfold z5_areSeveral_j2; rw [if_pos c_70, if_pos c_71, if_pos c_72, if_neg c_73]
          have hq : z5_areSeveral gp gv = z5_areSeveral_j3 gp gv := hj_17.symm.trans hq1
          exact jo_X5_areSeveral_18 hv hx hb hr hml hown hts hlk hP hK hq.symm ls (lv_sub hl [5, 0, 6] rfl)
        · skip
          refine lv_iconst (v := 1) hx hb dX5_areSeveral_190 (by decide) ?_
          refine lv_goto (tgt := 195) hx hb dX5_areSeveral_191 (by decide) ?_
          refine lv_istore_n (lv' := [(1, .int 1), (6, .int 0), (5, .int 4), (4, .int 3), (3, .int 2), (2, .int 1), (0, .ref o)]) hx hb dX5_areSeveral_195 rfl hl (by decide) rfl (fun ls hl => ?_)
          have hq1 : z5_areSeveral_j2 gp gv = 1 := by unfold z5_areSeveral_j2; rw [if_pos c_70, if_pos c_71, if_pos c_72, if_pos c_73]
          have hq : z5_areSeveral gp gv = 1 := hj_17.symm.trans hq1
          exact jo_X5_areSeveral_13 hv hx hb hr hml hown hts hlk hP hK hq ls (lv_sub hl [6, 0, 5] rfl)
set_option maxHeartbeats 4000000 in
set_option maxRecDepth 100000 in
theorem jo_X5_areSeveral_16 {l : Launch} {D : va_G} {cI cJ : ClassId} {pG : Program} {eG : Env} {sG : State} {mG : MethodId} {below : List Frame} {meth : Method} {cG : Code} {o : Nat} {mP : Nat} {mL : Nat} {mC : Nat} {mN : Nat} {mF : Nat} {mR : Nat} {mD : Nat} {mV : Nat} {mX : Nat} {mA : Nat} {mK : Nat} {mT : Nat} {mU : Nat} {mH : Nat} {mI : Nat} {cm : Int32} {pm : Int32} {gp : Nat → Int32} {gv : Nat → Int32} (hv : ∀ n, n < 5 → ok_i (gv n)) (hx : pG.tables.exec = Jvm.exec) (hb : cG.code = cX5_areSeveral) (hr : meth.sig.returnType = some .boolean) (hml : cG.maxLocals = 7) (hown : sG.vm.findClass RX5 = some mG.cls) (hts : ∀ x ∈ wsX5_areSeveral, x.before ([.ref o] : List Value).toArray sG = true) (hlk : meth.locks = false) (hP : va_P D vwCl [kM o mP mL mC mN mF mR mD mV mX mA mK cm mT pm mU mH mI, kA mP cI 180 gp, kA mV cI 5 gv] sG.heap) (hK : gd_K D cI cJ sG) (hj_16 : z5_areSeveral_j1 gp gv = z5_areSeveral gp gv) (ls : Array Slot) (hl : lv_has ls 7 [(2, .int 0), (1, .int 0), (0, .ref o)]) : W pG l eG (headSpec wsX5_areSeveral ({ frames := 1, cells := 0, slots := 0, locals := 30 })).room sG mG ([.ref o] : List Value).toArray below meth cG sG.heap [] 0 0 (MQ below (vp_Si (fun r : Int32 => r = z5_areSeveral gp gv)) ([.ref o] : List Value).toArray sG 0 0 (fun _ => False)) (F0 mG 196 ls []) := by
  have k_1 := hts (.fieldLink RX5 7 "ConicRowsModel" "points" "[I") (by decide +kernel)
  have k_2 : ∀ w ∈ wsX50, w ∈ wsX5_areSeveral := by decide +kernel
  have k_3 := hts (.fieldLink RX5 32 "ConicRowsModel" "five" "[I") (by decide +kernel)
  refine lv_iinc (v := 1) (lv' := [(2, .int 1), (1, .int 0), (0, .ref o)]) hx hb dX5_areSeveral_196 hl (k := 0) rfl (by decide) (by decide) rfl (fun ls hl => ?_)
  refine lv_goto (tgt := 4) hx hb dX5_areSeveral_199 (by decide) ?_
  refine lv_iload_n hx hb dX5_areSeveral_4 rfl (lv_at hl 0 rfl) ?_
  refine lv_iconst (v := 5) hx hb dX5_areSeveral_5 (by decide) ?_
  refine lv_icmp_ge (tgt := 202) hx hb dX5_areSeveral_6 (by decide) (fun h => absurd h (by decide)) (fun _ => ?_)
  refine lv_iconst (v := 0) hx hb dX5_areSeveral_9 (by decide) ?_
  refine lv_istore_n (lv' := [(3, .int 0), (2, .int 1), (1, .int 0), (0, .ref o)]) hx hb dX5_areSeveral_10 rfl hl (by decide) rfl (fun ls hl => ?_)
  refine lv_iload_n hx hb dX5_areSeveral_11 rfl (lv_at hl 0 rfl) ?_
  refine lv_iload_n hx hb dX5_areSeveral_12 rfl (lv_at hl 1 rfl) ?_
  refine lv_icmp_ge (tgt := 102) hx hb dX5_areSeveral_13 (by decide) (fun h => absurd h (by decide)) (fun _ => ?_)
  refine lv_iconst (v := 1) hx hb dX5_areSeveral_16 (by decide) ?_
  refine lv_istore (lv' := [(4, .int 1), (3, .int 0), (2, .int 1), (1, .int 0), (0, .ref o)]) hx hb dX5_areSeveral_17 hl (by decide) rfl (fun ls hl => ?_)
  refine lv_iconst (v := 0) hx hb dX5_areSeveral_19 (by decide) ?_
  refine lv_istore (lv' := [(5, .int 0), (4, .int 1), (3, .int 0), (2, .int 1), (1, .int 0), (0, .ref o)]) hx hb dX5_areSeveral_20 hl (by decide) rfl (fun ls hl => ?_)
  refine lv_iload hx hb dX5_areSeveral_22 (lv_at hl 0 rfl) ?_
  refine lv_iconst (v := 3) hx hb dX5_areSeveral_24 (by decide) ?_
  refine lv_icmp_ge (tgt := 81) hx hb dX5_areSeveral_25 (by decide) (fun h => absurd h (by decide)) (fun _ => ?_)
  refine lv_iload hx hb dX5_areSeveral_28 (lv_at hl 1 rfl) ?_
  refine lv_if_eq (tgt := 72) hx hb dX5_areSeveral_30 (by decide) (fun h => absurd h (by decide)) (fun _ => ?_)
  refine lv_aload_n hx hb dX5_areSeveral_33 rfl (lv_at hl 5 rfl) ?_
  refine va_get (D := D) (ci := 5) (v := .ref mP) (C := RX5) (T := TX5) (N := 17) hx hb hts k_2 hown hK.1 hP 0 rfl rfl 0 (by decide) k_1 (fun _ h9 => h9) rfl dX5_areSeveral_34 ?_
  refine lv_iconst (v := 3) hx hb dX5_areSeveral_37 (by decide) ?_
  refine lv_aload_n hx hb dX5_areSeveral_38 rfl (lv_at hl 5 rfl) ?_
  refine va_get (D := D) (ci := 5) (v := .ref mV) (C := RX5) (T := TX5) (N := 17) hx hb hts k_2 hown hK.1 hP 0 rfl rfl 7 (by decide) k_3 (fun _ h9 => h9) rfl dX5_areSeveral_39 ?_
  refine lv_iload_n hx hb dX5_areSeveral_42 rfl (lv_at hl 3 rfl) ?_
  refine ld_i hx hb hK.1 hP 2 0 rfl rfl (ix_lit (by decide)) 1 (by decide) (v := gv 1) rfl dX5_areSeveral_43 ?_
  refine lv_imul hx hb dX5_areSeveral_44 ?_
  refine lv_iload hx hb dX5_areSeveral_45 (lv_at hl 0 rfl) ?_
  refine lv_iadd hx hb dX5_areSeveral_47 ?_
  refine ld_i hx hb hK.1 hP 1 0 rfl rfl (ix3l (hv 1 (by decide)) 0 (by decide)) (((3 * (gv 1)) + 0).toNatClampNeg) rfl (v := gp (((3 * (gv 1)) + 0).toNatClampNeg)) rfl dX5_areSeveral_48 ?_
  refine lv_aload_n hx hb dX5_areSeveral_49 rfl (lv_at hl 5 rfl) ?_
  refine va_get (D := D) (ci := 5) (v := .ref mP) (C := RX5) (T := TX5) (N := 17) hx hb hts k_2 hown hK.1 hP 0 rfl rfl 0 (by decide) k_1 (fun _ h9 => h9) rfl dX5_areSeveral_50 ?_
  refine lv_iconst (v := 3) hx hb dX5_areSeveral_53 (by decide) ?_
  refine lv_aload_n hx hb dX5_areSeveral_54 rfl (lv_at hl 5 rfl) ?_
  refine va_get (D := D) (ci := 5) (v := .ref mV) (C := RX5) (T := TX5) (N := 17) hx hb hts k_2 hown hK.1 hP 0 rfl rfl 7 (by decide) k_3 (fun _ h9 => h9) rfl dX5_areSeveral_55 ?_
  refine lv_iload_n hx hb dX5_areSeveral_58 rfl (lv_at hl 2 rfl) ?_
  refine ld_i hx hb hK.1 hP 2 0 rfl rfl (ix_lit (by decide)) 0 (by decide) (v := gv 0) rfl dX5_areSeveral_59 ?_
  refine lv_imul hx hb dX5_areSeveral_60 ?_
  refine lv_iload hx hb dX5_areSeveral_61 (lv_at hl 0 rfl) ?_
  refine lv_iadd hx hb dX5_areSeveral_63 ?_
  refine ld_i hx hb hK.1 hP 1 0 rfl rfl (ix3l (hv 0 (by decide)) 0 (by decide)) (((3 * (gv 0)) + 0).toNatClampNeg) rfl (v := gp (((3 * (gv 0)) + 0).toNatClampNeg)) rfl dX5_areSeveral_64 ?_
  refine lv_icmp_ne (tgt := 72) hx hb dX5_areSeveral_65 (by decide) (fun c_74 => ?_) (fun c_74 => ?_)
  · skip
    refine lv_iconst (v := 0) hx hb dX5_areSeveral_72 (by decide) ?_
    refine lv_istore (lv' := [(4, .int 0), (5, .int 0), (3, .int 0), (2, .int 1), (1, .int 0), (0, .ref o)]) hx hb dX5_areSeveral_73 hl (by decide) rfl (fun ls hl => ?_)
    refine lv_iinc (v := 1) (lv' := [(5, .int 1), (4, .int 0), (3, .int 0), (2, .int 1), (1, .int 0), (0, .ref o)]) hx hb dX5_areSeveral_75 hl (k := 1) rfl (by decide) (by decide) rfl (fun ls hl => ?_)
    refine lv_goto (tgt := 22) hx hb dX5_areSeveral_78 (by decide) ?_
    refine lv_iload hx hb dX5_areSeveral_22 (lv_at hl 0 rfl) ?_
    refine lv_iconst (v := 3) hx hb dX5_areSeveral_24 (by decide) ?_
    refine lv_icmp_ge (tgt := 81) hx hb dX5_areSeveral_25 (by decide) (fun h => absurd h (by decide)) (fun _ => ?_)
    refine lv_iload hx hb dX5_areSeveral_28 (lv_at hl 1 rfl) ?_
    refine lv_if_eq (tgt := 72) hx hb dX5_areSeveral_30 (by decide) (fun _ => ?_) (fun h => absurd (by decide) h)
    refine lv_iconst (v := 0) hx hb dX5_areSeveral_72 (by decide) ?_
    refine lv_istore (lv' := [(4, .int 0), (5, .int 1), (3, .int 0), (2, .int 1), (1, .int 0), (0, .ref o)]) hx hb dX5_areSeveral_73 hl (by decide) rfl (fun ls hl => ?_)
    refine lv_iinc (v := 2) (lv' := [(5, .int 2), (4, .int 0), (3, .int 0), (2, .int 1), (1, .int 0), (0, .ref o)]) hx hb dX5_areSeveral_75 hl (k := 1) rfl (by decide) (by decide) rfl (fun ls hl => ?_)
    refine lv_goto (tgt := 22) hx hb dX5_areSeveral_78 (by decide) ?_
    refine lv_iload hx hb dX5_areSeveral_22 (lv_at hl 0 rfl) ?_
    refine lv_iconst (v := 3) hx hb dX5_areSeveral_24 (by decide) ?_
    refine lv_icmp_ge (tgt := 81) hx hb dX5_areSeveral_25 (by decide) (fun h => absurd h (by decide)) (fun _ => ?_)
    refine lv_iload hx hb dX5_areSeveral_28 (lv_at hl 1 rfl) ?_
    refine lv_if_eq (tgt := 72) hx hb dX5_areSeveral_30 (by decide) (fun _ => ?_) (fun h => absurd (by decide) h)
    refine lv_iconst (v := 0) hx hb dX5_areSeveral_72 (by decide) ?_
    refine lv_istore (lv' := [(4, .int 0), (5, .int 2), (3, .int 0), (2, .int 1), (1, .int 0), (0, .ref o)]) hx hb dX5_areSeveral_73 hl (by decide) rfl (fun ls hl => ?_)
    refine lv_iinc (v := 3) (lv' := [(5, .int 3), (4, .int 0), (3, .int 0), (2, .int 1), (1, .int 0), (0, .ref o)]) hx hb dX5_areSeveral_75 hl (k := 1) rfl (by decide) (by decide) rfl (fun ls hl => ?_)
    refine lv_goto (tgt := 22) hx hb dX5_areSeveral_78 (by decide) ?_
    refine lv_iload hx hb dX5_areSeveral_22 (lv_at hl 0 rfl) ?_
    refine lv_iconst (v := 3) hx hb dX5_areSeveral_24 (by decide) ?_
    refine lv_icmp_ge (tgt := 81) hx hb dX5_areSeveral_25 (by decide) (fun _ => ?_) (fun h => absurd (by decide) h)
    refine lv_iload_n hx hb dX5_areSeveral_81 rfl (lv_at hl 4 rfl) ?_
    refine lv_if_ne (tgt := 90) hx hb dX5_areSeveral_82 (by decide) (fun h => absurd (by decide) h) (fun _ => ?_)
    refine lv_iload hx hb dX5_areSeveral_85 (lv_at hl 1 rfl) ?_
    refine lv_if_eq (tgt := 94) hx hb dX5_areSeveral_87 (by decide) (fun _ => ?_) (fun h => absurd (by decide) h)
    refine lv_iconst (v := 0) hx hb dX5_areSeveral_94 (by decide) ?_
    refine lv_istore_n (lv' := [(1, .int 0), (5, .int 3), (4, .int 0), (3, .int 0), (2, .int 1), (0, .ref o)]) hx hb dX5_areSeveral_95 rfl hl (by decide) rfl (fun ls hl => ?_)
    have hq1 : z5_areSeveral_j1 gp gv = z5_areSeveral_j2 gp gv := by unfold z5_areSeveral_j1; rw [if_neg c_74]
    have hq : z5_areSeveral gp gv = z5_areSeveral_j2 gp gv := hj_16.symm.trans hq1
    exact jo_X5_areSeveral_17 hv hx hb hr hml hown hts hlk hP hK hq.symm ls (lv_sub hl [3, 4, 0, 5] rfl)
  · skip
    refine lv_iconst (v := 1) hx hb dX5_areSeveral_68 (by decide) ?_
    refine lv_goto (tgt := 73) hx hb dX5_areSeveral_69 (by decide) ?_
    refine lv_istore (lv' := [(4, .int 1), (5, .int 0), (3, .int 0), (2, .int 1), (1, .int 0), (0, .ref o)]) hx hb dX5_areSeveral_73 hl (by decide) rfl (fun ls hl => ?_)
    refine lv_iinc (v := 1) (lv' := [(5, .int 1), (4, .int 1), (3, .int 0), (2, .int 1), (1, .int 0), (0, .ref o)]) hx hb dX5_areSeveral_75 hl (k := 1) rfl (by decide) (by decide) rfl (fun ls hl => ?_)
    refine lv_goto (tgt := 22) hx hb dX5_areSeveral_78 (by decide) ?_
    refine lv_iload hx hb dX5_areSeveral_22 (lv_at hl 0 rfl) ?_
    refine lv_iconst (v := 3) hx hb dX5_areSeveral_24 (by decide) ?_
    refine lv_icmp_ge (tgt := 81) hx hb dX5_areSeveral_25 (by decide) (fun h => absurd h (by decide)) (fun _ => ?_)
    refine lv_iload hx hb dX5_areSeveral_28 (lv_at hl 1 rfl) ?_
    refine lv_if_eq (tgt := 72) hx hb dX5_areSeveral_30 (by decide) (fun h => absurd h (by decide)) (fun _ => ?_)
    refine lv_aload_n hx hb dX5_areSeveral_33 rfl (lv_at hl 5 rfl) ?_
    refine va_get (D := D) (ci := 5) (v := .ref mP) (C := RX5) (T := TX5) (N := 17) hx hb hts k_2 hown hK.1 hP 0 rfl rfl 0 (by decide) k_1 (fun _ h9 => h9) rfl dX5_areSeveral_34 ?_
    refine lv_iconst (v := 3) hx hb dX5_areSeveral_37 (by decide) ?_
    refine lv_aload_n hx hb dX5_areSeveral_38 rfl (lv_at hl 5 rfl) ?_
    refine va_get (D := D) (ci := 5) (v := .ref mV) (C := RX5) (T := TX5) (N := 17) hx hb hts k_2 hown hK.1 hP 0 rfl rfl 7 (by decide) k_3 (fun _ h9 => h9) rfl dX5_areSeveral_39 ?_
    refine lv_iload_n hx hb dX5_areSeveral_42 rfl (lv_at hl 3 rfl) ?_
    refine ld_i hx hb hK.1 hP 2 0 rfl rfl (ix_lit (by decide)) 1 (by decide) (v := gv 1) rfl dX5_areSeveral_43 ?_
    refine lv_imul hx hb dX5_areSeveral_44 ?_
    refine lv_iload hx hb dX5_areSeveral_45 (lv_at hl 0 rfl) ?_
    refine lv_iadd hx hb dX5_areSeveral_47 ?_
    refine ld_i hx hb hK.1 hP 1 0 rfl rfl (ix3l (hv 1 (by decide)) 1 (by decide)) (((3 * (gv 1)) + 1).toNatClampNeg) rfl (v := gp (((3 * (gv 1)) + 1).toNatClampNeg)) rfl dX5_areSeveral_48 ?_
    refine lv_aload_n hx hb dX5_areSeveral_49 rfl (lv_at hl 5 rfl) ?_
    refine va_get (D := D) (ci := 5) (v := .ref mP) (C := RX5) (T := TX5) (N := 17) hx hb hts k_2 hown hK.1 hP 0 rfl rfl 0 (by decide) k_1 (fun _ h9 => h9) rfl dX5_areSeveral_50 ?_
    refine lv_iconst (v := 3) hx hb dX5_areSeveral_53 (by decide) ?_
    refine lv_aload_n hx hb dX5_areSeveral_54 rfl (lv_at hl 5 rfl) ?_
    refine va_get (D := D) (ci := 5) (v := .ref mV) (C := RX5) (T := TX5) (N := 17) hx hb hts k_2 hown hK.1 hP 0 rfl rfl 7 (by decide) k_3 (fun _ h9 => h9) rfl dX5_areSeveral_55 ?_
    refine lv_iload_n hx hb dX5_areSeveral_58 rfl (lv_at hl 2 rfl) ?_
    refine ld_i hx hb hK.1 hP 2 0 rfl rfl (ix_lit (by decide)) 0 (by decide) (v := gv 0) rfl dX5_areSeveral_59 ?_
    refine lv_imul hx hb dX5_areSeveral_60 ?_
    refine lv_iload hx hb dX5_areSeveral_61 (lv_at hl 0 rfl) ?_
    refine lv_iadd hx hb dX5_areSeveral_63 ?_
    refine ld_i hx hb hK.1 hP 1 0 rfl rfl (ix3l (hv 0 (by decide)) 1 (by decide)) (((3 * (gv 0)) + 1).toNatClampNeg) rfl (v := gp (((3 * (gv 0)) + 1).toNatClampNeg)) rfl dX5_areSeveral_64 ?_
    refine lv_icmp_ne (tgt := 72) hx hb dX5_areSeveral_65 (by decide) (fun c_75 => ?_) (fun c_75 => ?_)
    · skip
      refine lv_iconst (v := 0) hx hb dX5_areSeveral_72 (by decide) ?_
      refine lv_istore (lv' := [(4, .int 0), (5, .int 1), (3, .int 0), (2, .int 1), (1, .int 0), (0, .ref o)]) hx hb dX5_areSeveral_73 hl (by decide) rfl (fun ls hl => ?_)
      refine lv_iinc (v := 2) (lv' := [(5, .int 2), (4, .int 0), (3, .int 0), (2, .int 1), (1, .int 0), (0, .ref o)]) hx hb dX5_areSeveral_75 hl (k := 1) rfl (by decide) (by decide) rfl (fun ls hl => ?_)
      refine lv_goto (tgt := 22) hx hb dX5_areSeveral_78 (by decide) ?_
      refine lv_iload hx hb dX5_areSeveral_22 (lv_at hl 0 rfl) ?_
      refine lv_iconst (v := 3) hx hb dX5_areSeveral_24 (by decide) ?_
      refine lv_icmp_ge (tgt := 81) hx hb dX5_areSeveral_25 (by decide) (fun h => absurd h (by decide)) (fun _ => ?_)
      refine lv_iload hx hb dX5_areSeveral_28 (lv_at hl 1 rfl) ?_
      refine lv_if_eq (tgt := 72) hx hb dX5_areSeveral_30 (by decide) (fun _ => ?_) (fun h => absurd (by decide) h)
      refine lv_iconst (v := 0) hx hb dX5_areSeveral_72 (by decide) ?_
      refine lv_istore (lv' := [(4, .int 0), (5, .int 2), (3, .int 0), (2, .int 1), (1, .int 0), (0, .ref o)]) hx hb dX5_areSeveral_73 hl (by decide) rfl (fun ls hl => ?_)
      refine lv_iinc (v := 3) (lv' := [(5, .int 3), (4, .int 0), (3, .int 0), (2, .int 1), (1, .int 0), (0, .ref o)]) hx hb dX5_areSeveral_75 hl (k := 1) rfl (by decide) (by decide) rfl (fun ls hl => ?_)
      refine lv_goto (tgt := 22) hx hb dX5_areSeveral_78 (by decide) ?_
      refine lv_iload hx hb dX5_areSeveral_22 (lv_at hl 0 rfl) ?_
      refine lv_iconst (v := 3) hx hb dX5_areSeveral_24 (by decide) ?_
      refine lv_icmp_ge (tgt := 81) hx hb dX5_areSeveral_25 (by decide) (fun _ => ?_) (fun h => absurd (by decide) h)
      refine lv_iload_n hx hb dX5_areSeveral_81 rfl (lv_at hl 4 rfl) ?_
      refine lv_if_ne (tgt := 90) hx hb dX5_areSeveral_82 (by decide) (fun h => absurd (by decide) h) (fun _ => ?_)
      refine lv_iload hx hb dX5_areSeveral_85 (lv_at hl 1 rfl) ?_
      refine lv_if_eq (tgt := 94) hx hb dX5_areSeveral_87 (by decide) (fun _ => ?_) (fun h => absurd (by decide) h)
      refine lv_iconst (v := 0) hx hb dX5_areSeveral_94 (by decide) ?_
      refine lv_istore_n (lv' := [(1, .int 0), (5, .int 3), (4, .int 0), (3, .int 0), (2, .int 1), (0, .ref o)]) hx hb dX5_areSeveral_95 rfl hl (by decide) rfl (fun ls hl => ?_)
      have hq1 : z5_areSeveral_j1 gp gv = z5_areSeveral_j2 gp gv := by unfold z5_areSeveral_j1; rw [if_pos c_74, if_neg c_75]
      have hq : z5_areSeveral gp gv = z5_areSeveral_j2 gp gv := hj_16.symm.trans hq1
      exact jo_X5_areSeveral_17 hv hx hb hr hml hown hts hlk hP hK hq.symm ls (lv_sub hl [3, 4, 0, 5] rfl)
    · skip
      refine lv_iconst (v := 1) hx hb dX5_areSeveral_68 (by decide) ?_
      refine lv_goto (tgt := 73) hx hb dX5_areSeveral_69 (by decide) ?_
      refine lv_istore (lv' := [(4, .int 1), (5, .int 1), (3, .int 0), (2, .int 1), (1, .int 0), (0, .ref o)]) hx hb dX5_areSeveral_73 hl (by decide) rfl (fun ls hl => ?_)
      refine lv_iinc (v := 2) (lv' := [(5, .int 2), (4, .int 1), (3, .int 0), (2, .int 1), (1, .int 0), (0, .ref o)]) hx hb dX5_areSeveral_75 hl (k := 1) rfl (by decide) (by decide) rfl (fun ls hl => ?_)
      refine lv_goto (tgt := 22) hx hb dX5_areSeveral_78 (by decide) ?_
      refine lv_iload hx hb dX5_areSeveral_22 (lv_at hl 0 rfl) ?_
      refine lv_iconst (v := 3) hx hb dX5_areSeveral_24 (by decide) ?_
      refine lv_icmp_ge (tgt := 81) hx hb dX5_areSeveral_25 (by decide) (fun h => absurd h (by decide)) (fun _ => ?_)
      refine lv_iload hx hb dX5_areSeveral_28 (lv_at hl 1 rfl) ?_
      refine lv_if_eq (tgt := 72) hx hb dX5_areSeveral_30 (by decide) (fun h => absurd h (by decide)) (fun _ => ?_)
      refine lv_aload_n hx hb dX5_areSeveral_33 rfl (lv_at hl 5 rfl) ?_
      refine va_get (D := D) (ci := 5) (v := .ref mP) (C := RX5) (T := TX5) (N := 17) hx hb hts k_2 hown hK.1 hP 0 rfl rfl 0 (by decide) k_1 (fun _ h9 => h9) rfl dX5_areSeveral_34 ?_
      refine lv_iconst (v := 3) hx hb dX5_areSeveral_37 (by decide) ?_
      refine lv_aload_n hx hb dX5_areSeveral_38 rfl (lv_at hl 5 rfl) ?_
      refine va_get (D := D) (ci := 5) (v := .ref mV) (C := RX5) (T := TX5) (N := 17) hx hb hts k_2 hown hK.1 hP 0 rfl rfl 7 (by decide) k_3 (fun _ h9 => h9) rfl dX5_areSeveral_39 ?_
      refine lv_iload_n hx hb dX5_areSeveral_42 rfl (lv_at hl 3 rfl) ?_
      refine ld_i hx hb hK.1 hP 2 0 rfl rfl (ix_lit (by decide)) 1 (by decide) (v := gv 1) rfl dX5_areSeveral_43 ?_
      refine lv_imul hx hb dX5_areSeveral_44 ?_
      refine lv_iload hx hb dX5_areSeveral_45 (lv_at hl 0 rfl) ?_
      refine lv_iadd hx hb dX5_areSeveral_47 ?_
      refine ld_i hx hb hK.1 hP 1 0 rfl rfl (ix3l (hv 1 (by decide)) 2 (by decide)) (((3 * (gv 1)) + 2).toNatClampNeg) rfl (v := gp (((3 * (gv 1)) + 2).toNatClampNeg)) rfl dX5_areSeveral_48 ?_
      refine lv_aload_n hx hb dX5_areSeveral_49 rfl (lv_at hl 5 rfl) ?_
      refine va_get (D := D) (ci := 5) (v := .ref mP) (C := RX5) (T := TX5) (N := 17) hx hb hts k_2 hown hK.1 hP 0 rfl rfl 0 (by decide) k_1 (fun _ h9 => h9) rfl dX5_areSeveral_50 ?_
      refine lv_iconst (v := 3) hx hb dX5_areSeveral_53 (by decide) ?_
      refine lv_aload_n hx hb dX5_areSeveral_54 rfl (lv_at hl 5 rfl) ?_
      refine va_get (D := D) (ci := 5) (v := .ref mV) (C := RX5) (T := TX5) (N := 17) hx hb hts k_2 hown hK.1 hP 0 rfl rfl 7 (by decide) k_3 (fun _ h9 => h9) rfl dX5_areSeveral_55 ?_
      refine lv_iload_n hx hb dX5_areSeveral_58 rfl (lv_at hl 2 rfl) ?_
      refine ld_i hx hb hK.1 hP 2 0 rfl rfl (ix_lit (by decide)) 0 (by decide) (v := gv 0) rfl dX5_areSeveral_59 ?_
      refine lv_imul hx hb dX5_areSeveral_60 ?_
      refine lv_iload hx hb dX5_areSeveral_61 (lv_at hl 0 rfl) ?_
      refine lv_iadd hx hb dX5_areSeveral_63 ?_
      refine ld_i hx hb hK.1 hP 1 0 rfl rfl (ix3l (hv 0 (by decide)) 2 (by decide)) (((3 * (gv 0)) + 2).toNatClampNeg) rfl (v := gp (((3 * (gv 0)) + 2).toNatClampNeg)) rfl dX5_areSeveral_64 ?_
      refine lv_icmp_ne (tgt := 72) hx hb dX5_areSeveral_65 (by decide) (fun c_76 => ?_) (fun c_76 => ?_)
      · skip
        refine lv_iconst (v := 0) hx hb dX5_areSeveral_72 (by decide) ?_
        refine lv_istore (lv' := [(4, .int 0), (5, .int 2), (3, .int 0), (2, .int 1), (1, .int 0), (0, .ref o)]) hx hb dX5_areSeveral_73 hl (by decide) rfl (fun ls hl => ?_)
        refine lv_iinc (v := 3) (lv' := [(5, .int 3), (4, .int 0), (3, .int 0), (2, .int 1), (1, .int 0), (0, .ref o)]) hx hb dX5_areSeveral_75 hl (k := 1) rfl (by decide) (by decide) rfl (fun ls hl => ?_)
        refine lv_goto (tgt := 22) hx hb dX5_areSeveral_78 (by decide) ?_
        refine lv_iload hx hb dX5_areSeveral_22 (lv_at hl 0 rfl) ?_
        refine lv_iconst (v := 3) hx hb dX5_areSeveral_24 (by decide) ?_
        refine lv_icmp_ge (tgt := 81) hx hb dX5_areSeveral_25 (by decide) (fun _ => ?_) (fun h => absurd (by decide) h)
        refine lv_iload_n hx hb dX5_areSeveral_81 rfl (lv_at hl 4 rfl) ?_
        refine lv_if_ne (tgt := 90) hx hb dX5_areSeveral_82 (by decide) (fun h => absurd (by decide) h) (fun _ => ?_)
        refine lv_iload hx hb dX5_areSeveral_85 (lv_at hl 1 rfl) ?_
        refine lv_if_eq (tgt := 94) hx hb dX5_areSeveral_87 (by decide) (fun _ => ?_) (fun h => absurd (by decide) h)
        refine lv_iconst (v := 0) hx hb dX5_areSeveral_94 (by decide) ?_
        refine lv_istore_n (lv' := [(1, .int 0), (5, .int 3), (4, .int 0), (3, .int 0), (2, .int 1), (0, .ref o)]) hx hb dX5_areSeveral_95 rfl hl (by decide) rfl (fun ls hl => ?_)
        have hq1 : z5_areSeveral_j1 gp gv = z5_areSeveral_j2 gp gv := by unfold z5_areSeveral_j1; rw [if_pos c_74, if_pos c_75, if_neg c_76]
        have hq : z5_areSeveral gp gv = z5_areSeveral_j2 gp gv := hj_16.symm.trans hq1
        exact jo_X5_areSeveral_17 hv hx hb hr hml hown hts hlk hP hK hq.symm ls (lv_sub hl [3, 4, 0, 5] rfl)
      · skip
        refine lv_iconst (v := 1) hx hb dX5_areSeveral_68 (by decide) ?_
        refine lv_goto (tgt := 73) hx hb dX5_areSeveral_69 (by decide) ?_
        refine lv_istore (lv' := [(4, .int 1), (5, .int 2), (3, .int 0), (2, .int 1), (1, .int 0), (0, .ref o)]) hx hb dX5_areSeveral_73 hl (by decide) rfl (fun ls hl => ?_)
        refine lv_iinc (v := 3) (lv' := [(5, .int 3), (4, .int 1), (3, .int 0), (2, .int 1), (1, .int 0), (0, .ref o)]) hx hb dX5_areSeveral_75 hl (k := 1) rfl (by decide) (by decide) rfl (fun ls hl => ?_)
        refine lv_goto (tgt := 22) hx hb dX5_areSeveral_78 (by decide) ?_
        refine lv_iload hx hb dX5_areSeveral_22 (lv_at hl 0 rfl) ?_
        refine lv_iconst (v := 3) hx hb dX5_areSeveral_24 (by decide) ?_
        refine lv_icmp_ge (tgt := 81) hx hb dX5_areSeveral_25 (by decide) (fun _ => ?_) (fun h => absurd (by decide) h)
        refine lv_iload_n hx hb dX5_areSeveral_81 rfl (lv_at hl 4 rfl) ?_
        refine lv_if_ne (tgt := 90) hx hb dX5_areSeveral_82 (by decide) (fun h => absurd (by decide) h) (fun _ => ?_)
        refine lv_iload hx hb dX5_areSeveral_85 (lv_at hl 1 rfl) ?_
        refine lv_if_eq (tgt := 94) hx hb dX5_areSeveral_87 (by decide) (fun h => absurd h (by decide)) (fun _ => ?_)
        refine lv_iconst (v := 1) hx hb dX5_areSeveral_90 (by decide) ?_
        refine lv_goto (tgt := 95) hx hb dX5_areSeveral_91 (by decide) ?_
        refine lv_istore_n (lv' := [(1, .int 1), (5, .int 3), (4, .int 1), (3, .int 0), (2, .int 1), (0, .ref o)]) hx hb dX5_areSeveral_95 rfl hl (by decide) rfl (fun ls hl => ?_)
        have hq1 : z5_areSeveral_j1 gp gv = 1 := by unfold z5_areSeveral_j1; rw [if_pos c_74, if_pos c_75, if_pos c_76]
        have hq : z5_areSeveral gp gv = 1 := hj_16.symm.trans hq1
        exact jo_X5_areSeveral_14 hv hx hb hr hml hown hts hlk hP hK hq ls (lv_sub hl [5, 0, 4, 3] rfl)
set_option maxHeartbeats 4000000 in
set_option maxRecDepth 100000 in
/-- X5.areSeveral -/
theorem c_X5_areSeveral (l : Launch) (D : va_G) (cI cJ : ClassId) (o : Nat) (mP : Nat) (mL : Nat) (mC : Nat) (mN : Nat) (mF : Nat) (mR : Nat) (mD : Nat) (mV : Nat) (mX : Nat) (mA : Nat) (mK : Nat) (mT : Nat) (mU : Nat) (mH : Nat) (mI : Nat) (cm : Int32) (pm : Int32) (gp : Nat → Int32) (gv : Nat → Int32) (hv : ∀ n, n < 5 → ok_i (gv n)) : mr_C l yX5_areSeveral wsX5_areSeveral ({ frames := 1, cells := 0, slots := 0, locals := 30 }) D cI cJ [.ref o] [kM o mP mL mC mN mF mR mD mV mX mA mK cm mT pm mU mH mI, kA mP cI 180 gp, kA mV cI 5 gv] (vp_Si (fun r : Int32 => r = z5_areSeveral gp gv)) := by
  refine mr_in (cc := cX5_areSeveral) (lv := [(0, .ref o)]) (by decide) rfl (Nat.le_of_ble_eq_true rfl) rfl ?_
  intro pG eG sG mG below meth cG ls hx hb hr hml hown hts hlk hP hK hl
  have hown : sG.vm.findClass RX5 = some mG.cls := hown
  have k_1 := hts (.fieldLink RX5 7 "ConicRowsModel" "points" "[I") (by decide +kernel)
  have k_2 : ∀ w ∈ wsX50, w ∈ wsX5_areSeveral := by decide +kernel
  have k_3 := hts (.fieldLink RX5 32 "ConicRowsModel" "five" "[I") (by decide +kernel)
  refine lv_iconst (v := 0) hx hb dX5_areSeveral_0 (by decide) ?_
  refine lv_istore_n (lv' := [(1, .int 0), (0, .ref o)]) hx hb dX5_areSeveral_1 rfl hl (by decide) rfl (fun ls hl => ?_)
  refine lv_iconst (v := 0) hx hb dX5_areSeveral_2 (by decide) ?_
  refine lv_istore_n (lv' := [(2, .int 0), (1, .int 0), (0, .ref o)]) hx hb dX5_areSeveral_3 rfl hl (by decide) rfl (fun ls hl => ?_)
  refine lv_iload_n hx hb dX5_areSeveral_4 rfl (lv_at hl 0 rfl) ?_
  refine lv_iconst (v := 5) hx hb dX5_areSeveral_5 (by decide) ?_
  refine lv_icmp_ge (tgt := 202) hx hb dX5_areSeveral_6 (by decide) (fun h => absurd h (by decide)) (fun _ => ?_)
  refine lv_iconst (v := 0) hx hb dX5_areSeveral_9 (by decide) ?_
  refine lv_istore_n (lv' := [(3, .int 0), (2, .int 0), (1, .int 0), (0, .ref o)]) hx hb dX5_areSeveral_10 rfl hl (by decide) rfl (fun ls hl => ?_)
  refine lv_iload_n hx hb dX5_areSeveral_11 rfl (lv_at hl 0 rfl) ?_
  refine lv_iload_n hx hb dX5_areSeveral_12 rfl (lv_at hl 1 rfl) ?_
  refine lv_icmp_ge (tgt := 102) hx hb dX5_areSeveral_13 (by decide) (fun _ => ?_) (fun h => absurd (by decide) h)
  refine lv_iload_n hx hb dX5_areSeveral_102 rfl (lv_at hl 1 rfl) ?_
  refine lv_iconst (v := 1) hx hb dX5_areSeveral_103 (by decide) ?_
  refine lv_iadd hx hb dX5_areSeveral_104 ?_
  refine lv_eqi (v := 1) (by decide) ?_
  refine lv_iconst (v := 5) hx hb dX5_areSeveral_105 (by decide) ?_
  refine lv_irem hx hb dX5_areSeveral_106 (by decide) ?_
  refine lv_eqi (v := 1) (by decide) ?_
  refine lv_istore_n (lv' := [(3, .int 1), (2, .int 0), (1, .int 0), (0, .ref o)]) hx hb dX5_areSeveral_107 rfl hl (by decide) rfl (fun ls hl => ?_)
  refine lv_iload_n hx hb dX5_areSeveral_108 rfl (lv_at hl 1 rfl) ?_
  refine lv_iconst (v := 2) hx hb dX5_areSeveral_109 (by decide) ?_
  refine lv_iadd hx hb dX5_areSeveral_110 ?_
  refine lv_eqi (v := 2) (by decide) ?_
  refine lv_iconst (v := 5) hx hb dX5_areSeveral_111 (by decide) ?_
  refine lv_irem hx hb dX5_areSeveral_112 (by decide) ?_
  refine lv_eqi (v := 2) (by decide) ?_
  refine lv_istore (lv' := [(4, .int 2), (3, .int 1), (2, .int 0), (1, .int 0), (0, .ref o)]) hx hb dX5_areSeveral_113 hl (by decide) rfl (fun ls hl => ?_)
  refine lv_iload_n hx hb dX5_areSeveral_115 rfl (lv_at hl 2 rfl) ?_
  refine lv_iconst (v := 3) hx hb dX5_areSeveral_116 (by decide) ?_
  refine lv_iadd hx hb dX5_areSeveral_117 ?_
  refine lv_eqi (v := 3) (by decide) ?_
  refine lv_iconst (v := 5) hx hb dX5_areSeveral_118 (by decide) ?_
  refine lv_irem hx hb dX5_areSeveral_119 (by decide) ?_
  refine lv_eqi (v := 3) (by decide) ?_
  refine lv_istore (lv' := [(5, .int 3), (4, .int 2), (3, .int 1), (2, .int 0), (1, .int 0), (0, .ref o)]) hx hb dX5_areSeveral_120 hl (by decide) rfl (fun ls hl => ?_)
  refine lv_iload_n hx hb dX5_areSeveral_122 rfl (lv_at hl 3 rfl) ?_
  refine lv_iconst (v := 4) hx hb dX5_areSeveral_123 (by decide) ?_
  refine lv_iadd hx hb dX5_areSeveral_124 ?_
  refine lv_eqi (v := 4) (by decide) ?_
  refine lv_iconst (v := 5) hx hb dX5_areSeveral_125 (by decide) ?_
  refine lv_irem hx hb dX5_areSeveral_126 (by decide) ?_
  refine lv_eqi (v := 4) (by decide) ?_
  refine lv_istore (lv' := [(6, .int 4), (5, .int 3), (4, .int 2), (3, .int 1), (2, .int 0), (1, .int 0), (0, .ref o)]) hx hb dX5_areSeveral_127 hl (by decide) rfl (fun ls hl => ?_)
  refine lv_iload_n hx hb dX5_areSeveral_129 rfl (lv_at hl 5 rfl) ?_
  refine lv_if_ne (tgt := 190) hx hb dX5_areSeveral_130 (by decide) (fun h => absurd (by decide) h) (fun _ => ?_)
  refine lv_aload_n hx hb dX5_areSeveral_133 rfl (lv_at hl 6 rfl) ?_
  refine lv_iload_n hx hb dX5_areSeveral_134 rfl (lv_at hl 3 rfl) ?_
  refine lv_iload hx hb dX5_areSeveral_135 (lv_at hl 2 rfl) ?_
  refine lv_iload hx hb dX5_areSeveral_137 (lv_at hl 1 rfl) ?_
  have hPc := hP.sub (ws' := [kM o mP mL mC mN mF mR mD mV mX mA mK cm mT pm mU mH mI, kA mP cI 180 gp, kA mV cI 5 gv]) [0, 1, 2] rfl
  refine cr_l (va_runV (As := [.int 1, .int 2, .int 3]) (rest := []) ⟨hx, hb, hml, hown, hts⟩ (c_X5_spreadOf l D cI cJ o mP mL mC mN mF mR mD mV mX mA mK mT mU mH mI cm pm gp gv 1 2 3 (ix_lit (by decide)) (ix_lit (by decide)) (ix_lit (by decide)) hv) (cwV 3 hts gX5_areSeveral_X5_spreadOf rfl rfl rfl (by decide +kernel) ⟨Nat.le_of_ble_eq_true rfl, Nat.le_of_ble_eq_true rfl⟩) ⟨gd_blR, va_recv hK.1 hPc (ci := 5) (q0 := 0) rfl rfl, gd_prR hPc hK⟩ rfl rfl hl.1 rfl (lv_room (Nat.le_of_ble_eq_true rfl)) dX5_areSeveral_139 ⟨Nat.zero_le _, Nat.zero_le _⟩) (fun r_139 hw => ?_)
  subst hw
  clear hPc
  refine lv_lconst (v := 0) hx hb dX5_areSeveral_142 (by decide) ?_
  refine lb_ne (tgt := 194) hx hb dX5_areSeveral_143 rfl dX5_areSeveral_144 (by decide) (fun c_77 => ?_) (fun c_77 => ?_)
  · skip
    refine lv_iconst (v := 0) hx hb dX5_areSeveral_194 (by decide) ?_
    refine lv_istore_n (lv' := [(1, .int 0), (6, .int 4), (5, .int 3), (4, .int 2), (3, .int 1), (2, .int 0), (0, .ref o)]) hx hb dX5_areSeveral_195 rfl hl (by decide) rfl (fun ls hl => ?_)
    have hq : z5_areSeveral gp gv = z5_areSeveral_j1 gp gv := by unfold z5_areSeveral; rw [if_neg c_77]
    exact jo_X5_areSeveral_16 hv hx hb hr hml hown hts hlk hP hK hq.symm ls (lv_sub hl [5, 0, 6] rfl)
  · skip
    refine lv_aload_n hx hb dX5_areSeveral_147 rfl (lv_at hl 6 rfl) ?_
    refine lv_iload_n hx hb dX5_areSeveral_148 rfl (lv_at hl 3 rfl) ?_
    refine lv_iload hx hb dX5_areSeveral_149 (lv_at hl 2 rfl) ?_
    refine lv_iload hx hb dX5_areSeveral_151 (lv_at hl 0 rfl) ?_
    have hPc := hP.sub (ws' := [kM o mP mL mC mN mF mR mD mV mX mA mK cm mT pm mU mH mI, kA mP cI 180 gp, kA mV cI 5 gv]) [0, 1, 2] rfl
    refine cr_l (va_runV (As := [.int 1, .int 2, .int 4]) (rest := []) ⟨hx, hb, hml, hown, hts⟩ (c_X5_spreadOf l D cI cJ o mP mL mC mN mF mR mD mV mX mA mK mT mU mH mI cm pm gp gv 1 2 4 (ix_lit (by decide)) (ix_lit (by decide)) (ix_lit (by decide)) hv) (cwV 3 hts gX5_areSeveral_X5_spreadOf rfl rfl rfl (by decide +kernel) ⟨Nat.le_of_ble_eq_true rfl, Nat.le_of_ble_eq_true rfl⟩) ⟨gd_blR, va_recv hK.1 hPc (ci := 5) (q0 := 0) rfl rfl, gd_prR hPc hK⟩ rfl rfl hl.1 rfl (lv_room (Nat.le_of_ble_eq_true rfl)) dX5_areSeveral_153 ⟨Nat.zero_le _, Nat.zero_le _⟩) (fun r_153 hw => ?_)
    subst hw
    clear hPc
    refine lv_lconst (v := 0) hx hb dX5_areSeveral_156 (by decide) ?_
    refine lb_ne (tgt := 194) hx hb dX5_areSeveral_157 rfl dX5_areSeveral_158 (by decide) (fun c_78 => ?_) (fun c_78 => ?_)
    · skip
      refine lv_iconst (v := 0) hx hb dX5_areSeveral_194 (by decide) ?_
      refine lv_istore_n (lv' := [(1, .int 0), (6, .int 4), (5, .int 3), (4, .int 2), (3, .int 1), (2, .int 0), (0, .ref o)]) hx hb dX5_areSeveral_195 rfl hl (by decide) rfl (fun ls hl => ?_)
      have hq : z5_areSeveral gp gv = z5_areSeveral_j1 gp gv := by unfold z5_areSeveral; rw [if_pos c_77, if_neg c_78]
      exact jo_X5_areSeveral_16 hv hx hb hr hml hown hts hlk hP hK hq.symm ls (lv_sub hl [5, 0, 6] rfl)
    · skip
      refine lv_aload_n hx hb dX5_areSeveral_161 rfl (lv_at hl 6 rfl) ?_
      refine lv_iload hx hb dX5_areSeveral_162 (lv_at hl 2 rfl) ?_
      refine lv_iload hx hb dX5_areSeveral_164 (lv_at hl 1 rfl) ?_
      refine lv_iload hx hb dX5_areSeveral_166 (lv_at hl 0 rfl) ?_
      have hPc := hP.sub (ws' := [kM o mP mL mC mN mF mR mD mV mX mA mK cm mT pm mU mH mI, kA mP cI 180 gp, kA mV cI 5 gv]) [0, 1, 2] rfl
      refine cr_l (va_runV (As := [.int 2, .int 3, .int 4]) (rest := []) ⟨hx, hb, hml, hown, hts⟩ (c_X5_spreadOf l D cI cJ o mP mL mC mN mF mR mD mV mX mA mK mT mU mH mI cm pm gp gv 2 3 4 (ix_lit (by decide)) (ix_lit (by decide)) (ix_lit (by decide)) hv) (cwV 3 hts gX5_areSeveral_X5_spreadOf rfl rfl rfl (by decide +kernel) ⟨Nat.le_of_ble_eq_true rfl, Nat.le_of_ble_eq_true rfl⟩) ⟨gd_blR, va_recv hK.1 hPc (ci := 5) (q0 := 0) rfl rfl, gd_prR hPc hK⟩ rfl rfl hl.1 rfl (lv_room (Nat.le_of_ble_eq_true rfl)) dX5_areSeveral_168 ⟨Nat.zero_le _, Nat.zero_le _⟩) (fun r_168 hw => ?_)
      subst hw
      clear hPc
      refine lv_lconst (v := 0) hx hb dX5_areSeveral_171 (by decide) ?_
      refine lb_ne (tgt := 194) hx hb dX5_areSeveral_172 rfl dX5_areSeveral_173 (by decide) (fun c_79 => ?_) (fun c_79 => ?_)
      · skip
        refine lv_iconst (v := 0) hx hb dX5_areSeveral_194 (by decide) ?_
        refine lv_istore_n (lv' := [(1, .int 0), (6, .int 4), (5, .int 3), (4, .int 2), (3, .int 1), (2, .int 0), (0, .ref o)]) hx hb dX5_areSeveral_195 rfl hl (by decide) rfl (fun ls hl => ?_)
        have hq : z5_areSeveral gp gv = z5_areSeveral_j1 gp gv := by unfold z5_areSeveral; rw [if_pos c_77, if_pos c_78, if_neg c_79]
        exact jo_X5_areSeveral_16 hv hx hb hr hml hown hts hlk hP hK hq.symm ls (lv_sub hl [5, 0, 6] rfl)
      · skip
        refine lv_aload_n hx hb dX5_areSeveral_176 rfl (lv_at hl 6 rfl) ?_
        refine lv_iload_n hx hb dX5_areSeveral_177 rfl (lv_at hl 3 rfl) ?_
        refine lv_iload hx hb dX5_areSeveral_178 (lv_at hl 1 rfl) ?_
        refine lv_iload hx hb dX5_areSeveral_180 (lv_at hl 0 rfl) ?_
        have hPc := hP.sub (ws' := [kM o mP mL mC mN mF mR mD mV mX mA mK cm mT pm mU mH mI, kA mP cI 180 gp, kA mV cI 5 gv]) [0, 1, 2] rfl
        refine cr_l (va_runV (As := [.int 1, .int 3, .int 4]) (rest := []) ⟨hx, hb, hml, hown, hts⟩ (c_X5_spreadOf l D cI cJ o mP mL mC mN mF mR mD mV mX mA mK mT mU mH mI cm pm gp gv 1 3 4 (ix_lit (by decide)) (ix_lit (by decide)) (ix_lit (by decide)) hv) (cwV 3 hts gX5_areSeveral_X5_spreadOf rfl rfl rfl (by decide +kernel) ⟨Nat.le_of_ble_eq_true rfl, Nat.le_of_ble_eq_true rfl⟩) ⟨gd_blR, va_recv hK.1 hPc (ci := 5) (q0 := 0) rfl rfl, gd_prR hPc hK⟩ rfl rfl hl.1 rfl (lv_room (Nat.le_of_ble_eq_true rfl)) dX5_areSeveral_182 ⟨Nat.zero_le _, Nat.zero_le _⟩) (fun r_182 hw => ?_)
        subst hw
        clear hPc
        refine lv_lconst (v := 0) hx hb dX5_areSeveral_185 (by decide) ?_
        refine lb_ne (tgt := 194) hx hb dX5_areSeveral_186 rfl dX5_areSeveral_187 (by decide) (fun c_80 => ?_) (fun c_80 => ?_)
        · skip
          refine lv_iconst (v := 0) hx hb dX5_areSeveral_194 (by decide) ?_
          refine lv_istore_n (lv' := [(1, .int 0), (6, .int 4), (5, .int 3), (4, .int 2), (3, .int 1), (2, .int 0), (0, .ref o)]) hx hb dX5_areSeveral_195 rfl hl (by decide) rfl (fun ls hl => ?_)
          have hq : z5_areSeveral gp gv = z5_areSeveral_j1 gp gv := by unfold z5_areSeveral; rw [if_pos c_77, if_pos c_78, if_pos c_79, if_neg c_80]
          exact jo_X5_areSeveral_16 hv hx hb hr hml hown hts hlk hP hK hq.symm ls (lv_sub hl [5, 0, 6] rfl)
        · skip
          refine lv_iconst (v := 1) hx hb dX5_areSeveral_190 (by decide) ?_
          refine lv_goto (tgt := 195) hx hb dX5_areSeveral_191 (by decide) ?_
          refine lv_istore_n (lv' := [(1, .int 1), (6, .int 4), (5, .int 3), (4, .int 2), (3, .int 1), (2, .int 0), (0, .ref o)]) hx hb dX5_areSeveral_195 rfl hl (by decide) rfl (fun ls hl => ?_)
          have hq : z5_areSeveral gp gv = 1 := by unfold z5_areSeveral; rw [if_pos c_77, if_pos c_78, if_pos c_79, if_pos c_80]
          exact jo_X5_areSeveral_15 hv hx hb hr hml hown hts hlk hP hK hq ls (lv_sub hl [6, 0, 5] rfl)
