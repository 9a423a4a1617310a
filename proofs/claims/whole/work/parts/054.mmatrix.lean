-- laid by wip/whole/gen
def z5_layMatrix_f1 (fx : Nat → Int64) (a : Int64) (b : Int64) (c : Int64) (d : Int64) (e : Int64) (f : Int64) : Nat → Int64 := vp_updL (vp_updL (vp_updL (vp_updL (vp_updL (vp_updL (vp_updL (vp_updL (vp_updL fx 0 (2 * a)) 1 b) 2 d) 3 b) 4 (2 * c)) 5 e) 6 d) 7 e) 8 (2 * f)
set_option maxHeartbeats 4000000 in
set_option maxRecDepth 100000 in
/-- X5.layMatrix -/
theorem c_X5_layMatrix (l : Launch) (D : va_G) (cI cJ : ClassId) (o : Nat) (mP : Nat) (mL : Nat) (mC : Nat) (mN : Nat) (mF : Nat) (mR : Nat) (mD : Nat) (mV : Nat) (mX : Nat) (mA : Nat) (mK : Nat) (mT : Nat) (mU : Nat) (mH : Nat) (mI : Nat) (cm : Int32) (pm : Int32) (fx : Nat → Int64) (a : Int64) (b : Int64) (c : Int64) (d : Int64) (e : Int64) (f : Int64) : mw_C l yX5_layMatrix wsX5_layMatrix ({ frames := 0, cells := 0, slots := 0, locals := 0 }) D cI cJ [.ref o, .long a, .long b, .long c, .long d, .long e, .long f] [kM o mP mL mC mN mF mR mD mV mX mA mK cm mT pm mU mH mI, kJ mX cJ 9 fx] (qe_v (fun _ : Unit => True) (fun uu => [kM o mP mL mC mN mF mR mD mV mX mA mK cm mT pm mU mH mI, kJ mX cJ 9 (z5_layMatrix_f1 fx a b c d e f)])) := by
  refine mw_in (cc := cX5_layMatrix) (lv := [(0, .ref o), (1, .long a), (3, .long b), (5, .long c), (7, .long d), (9, .long e), (11, .long f)]) (by decide) rfl (Nat.le_of_ble_eq_true rfl) rfl ?_
  intro pG eG sG mG below meth cG ls A hx hb hr hml hown hts hlk hin hP hK hD hA hS hl
  have hown : sG.vm.findClass RX5 = some mG.cls := hown
  have k_1 := hts (.fieldLink RX5 35 "ConicRowsModel" "matrix" "[J") (by decide +kernel)
  have k_2 : ∀ w ∈ wsX50, w ∈ wsX5_layMatrix := by decide +kernel
  have k_3 := hts (.constantLong RX5 95 (2)) (by decide +kernel)
  refine lv_aload_n hx hb dX5_layMatrix_0 rfl (lv_at hl 0 rfl) ?_
  refine va_get (D := D) (ci := 5) (v := .ref mX) (C := RX5) (T := TX5) (N := 17) hx hb hts k_2 hown hK.1 hP 0 rfl rfl 8 (by decide) k_1 (fun _ h9 => h9) rfl dX5_layMatrix_1 ?_
  refine lv_iconst (v := 0) hx hb dX5_layMatrix_4 (by decide) ?_
  refine lv_ldc2 hx hb hown k_3 dX5_layMatrix_5 ?_
  refine lv_lload_n hx hb dX5_layMatrix_8 rfl (lv_at hl 1 rfl) ?_
  refine lv_lmul hx hb dX5_layMatrix_9 ?_
  refine st_l hx hb hK.1 hP hD hS 1 1 rfl rfl (ix_lit (by decide)) 0 (by decide) dX5_layMatrix_10 (fun H locs hP hD hS => ?_)
  have hP : va_P D vwCl [kM o mP mL mC mN mF mR mD mV mX mA mK cm mT pm mU mH mI, kJ mX cJ 9 (vp_updL fx 0 (2 * a))] H := hP
  have hD : va_D A [kM o mP mL mC mN mF mR mD mV mX mA mK cm mT pm mU mH mI, kJ mX cJ 9 (vp_updL fx 0 (2 * a))] := hD
  refine lv_aload_n hx hb dX5_layMatrix_11 rfl (lv_at hl 0 rfl) ?_
  refine va_get (D := D) (ci := 5) (v := .ref mX) (C := RX5) (T := TX5) (N := 17) hx hb hts k_2 hown hK.1 hP 0 rfl rfl 8 (by decide) k_1 (fun _ h9 => h9) rfl dX5_layMatrix_12 ?_
  refine lv_iconst (v := 1) hx hb dX5_layMatrix_15 (by decide) ?_
  refine lv_lload_n hx hb dX5_layMatrix_16 rfl (lv_at hl 2 rfl) ?_
  refine st_l hx hb hK.1 hP hD hS 1 1 rfl rfl (ix_lit (by decide)) 1 (by decide) dX5_layMatrix_17 (fun H locs hP hD hS => ?_)
  have hP : va_P D vwCl [kM o mP mL mC mN mF mR mD mV mX mA mK cm mT pm mU mH mI, kJ mX cJ 9 (vp_updL (vp_updL fx 0 (2 * a)) 1 b)] H := hP
  have hD : va_D A [kM o mP mL mC mN mF mR mD mV mX mA mK cm mT pm mU mH mI, kJ mX cJ 9 (vp_updL (vp_updL fx 0 (2 * a)) 1 b)] := hD
  refine lv_aload_n hx hb dX5_layMatrix_18 rfl (lv_at hl 0 rfl) ?_
  refine va_get (D := D) (ci := 5) (v := .ref mX) (C := RX5) (T := TX5) (N := 17) hx hb hts k_2 hown hK.1 hP 0 rfl rfl 8 (by decide) k_1 (fun _ h9 => h9) rfl dX5_layMatrix_19 ?_
  refine lv_iconst (v := 2) hx hb dX5_layMatrix_22 (by decide) ?_
  refine lv_lload hx hb dX5_layMatrix_23 (lv_at hl 4 rfl) ?_
  refine st_l hx hb hK.1 hP hD hS 1 1 rfl rfl (ix_lit (by decide)) 2 (by decide) dX5_layMatrix_25 (fun H locs hP hD hS => ?_)
  have hP : va_P D vwCl [kM o mP mL mC mN mF mR mD mV mX mA mK cm mT pm mU mH mI, kJ mX cJ 9 (vp_updL (vp_updL (vp_updL fx 0 (2 * a)) 1 b) 2 d)] H := hP
  have hD : va_D A [kM o mP mL mC mN mF mR mD mV mX mA mK cm mT pm mU mH mI, kJ mX cJ 9 (vp_updL (vp_updL (vp_updL fx 0 (2 * a)) 1 b) 2 d)] := hD
  refine lv_aload_n hx hb dX5_layMatrix_26 rfl (lv_at hl 0 rfl) ?_
  refine va_get (D := D) (ci := 5) (v := .ref mX) (C := RX5) (T := TX5) (N := 17) hx hb hts k_2 hown hK.1 hP 0 rfl rfl 8 (by decide) k_1 (fun _ h9 => h9) rfl dX5_layMatrix_27 ?_
  refine lv_iconst (v := 3) hx hb dX5_layMatrix_30 (by decide) ?_
  refine lv_lload_n hx hb dX5_layMatrix_31 rfl (lv_at hl 2 rfl) ?_
  refine st_l hx hb hK.1 hP hD hS 1 1 rfl rfl (ix_lit (by decide)) 3 (by decide) dX5_layMatrix_32 (fun H locs hP hD hS => ?_)
  have hP : va_P D vwCl [kM o mP mL mC mN mF mR mD mV mX mA mK cm mT pm mU mH mI, kJ mX cJ 9 (vp_updL (vp_updL (vp_updL (vp_updL fx 0 (2 * a)) 1 b) 2 d) 3 b)] H := hP
  have hD : va_D A [kM o mP mL mC mN mF mR mD mV mX mA mK cm mT pm mU mH mI, kJ mX cJ 9 (vp_updL (vp_updL (vp_updL (vp_updL fx 0 (2 * a)) 1 b) 2 d) 3 b)] := hD
  refine lv_aload_n hx hb dX5_layMatrix_33 rfl (lv_at hl 0 rfl) ?_
  refine va_get (D := D) (ci := 5) (v := .ref mX) (C := RX5) (T := TX5) (N := 17) hx hb hts k_2 hown hK.1 hP 0 rfl rfl 8 (by decide) k_1 (fun _ h9 => h9) rfl dX5_layMatrix_34 ?_
  refine lv_iconst (v := 4) hx hb dX5_layMatrix_37 (by decide) ?_
  refine lv_ldc2 hx hb hown k_3 dX5_layMatrix_38 ?_
  refine lv_lload hx hb dX5_layMatrix_41 (lv_at hl 3 rfl) ?_
  refine lv_lmul hx hb dX5_layMatrix_43 ?_
  refine st_l hx hb hK.1 hP hD hS 1 1 rfl rfl (ix_lit (by decide)) 4 (by decide) dX5_layMatrix_44 (fun H locs hP hD hS => ?_)
  have hP : va_P D vwCl [kM o mP mL mC mN mF mR mD mV mX mA mK cm mT pm mU mH mI, kJ mX cJ 9 (vp_updL (vp_updL (vp_updL (vp_updL (vp_updL fx 0 (2 * a)) 1 b) 2 d) 3 b) 4 (2 * c))] H := hP
  have hD : va_D A [kM o mP mL mC mN mF mR mD mV mX mA mK cm mT pm mU mH mI, kJ mX cJ 9 (vp_updL (vp_updL (vp_updL (vp_updL (vp_updL fx 0 (2 * a)) 1 b) 2 d) 3 b) 4 (2 * c))] := hD
  refine lv_aload_n hx hb dX5_layMatrix_45 rfl (lv_at hl 0 rfl) ?_
  refine va_get (D := D) (ci := 5) (v := .ref mX) (C := RX5) (T := TX5) (N := 17) hx hb hts k_2 hown hK.1 hP 0 rfl rfl 8 (by decide) k_1 (fun _ h9 => h9) rfl dX5_layMatrix_46 ?_
  refine lv_iconst (v := 5) hx hb dX5_layMatrix_49 (by decide) ?_
  refine lv_lload hx hb dX5_layMatrix_50 (lv_at hl 5 rfl) ?_
  refine st_l hx hb hK.1 hP hD hS 1 1 rfl rfl (ix_lit (by decide)) 5 (by decide) dX5_layMatrix_52 (fun H locs hP hD hS => ?_)
  have hP : va_P D vwCl [kM o mP mL mC mN mF mR mD mV mX mA mK cm mT pm mU mH mI, kJ mX cJ 9 (vp_updL (vp_updL (vp_updL (vp_updL (vp_updL (vp_updL fx 0 (2 * a)) 1 b) 2 d) 3 b) 4 (2 * c)) 5 e)] H := hP
  have hD : va_D A [kM o mP mL mC mN mF mR mD mV mX mA mK cm mT pm mU mH mI, kJ mX cJ 9 (vp_updL (vp_updL (vp_updL (vp_updL (vp_updL (vp_updL fx 0 (2 * a)) 1 b) 2 d) 3 b) 4 (2 * c)) 5 e)] := hD
  refine lv_aload_n hx hb dX5_layMatrix_53 rfl (lv_at hl 0 rfl) ?_
  refine va_get (D := D) (ci := 5) (v := .ref mX) (C := RX5) (T := TX5) (N := 17) hx hb hts k_2 hown hK.1 hP 0 rfl rfl 8 (by decide) k_1 (fun _ h9 => h9) rfl dX5_layMatrix_54 ?_
  refine lv_bipush (v := 6) hx hb dX5_layMatrix_57 (by decide) ?_
  refine lv_lload hx hb dX5_layMatrix_59 (lv_at hl 4 rfl) ?_
  refine st_l hx hb hK.1 hP hD hS 1 1 rfl rfl (ix_lit (by decide)) 6 (by decide) dX5_layMatrix_61 (fun H locs hP hD hS => ?_)
  have hP : va_P D vwCl [kM o mP mL mC mN mF mR mD mV mX mA mK cm mT pm mU mH mI, kJ mX cJ 9 (vp_updL (vp_updL (vp_updL (vp_updL (vp_updL (vp_updL (vp_updL fx 0 (2 * a)) 1 b) 2 d) 3 b) 4 (2 * c)) 5 e) 6 d)] H := hP
  have hD : va_D A [kM o mP mL mC mN mF mR mD mV mX mA mK cm mT pm mU mH mI, kJ mX cJ 9 (vp_updL (vp_updL (vp_updL (vp_updL (vp_updL (vp_updL (vp_updL fx 0 (2 * a)) 1 b) 2 d) 3 b) 4 (2 * c)) 5 e) 6 d)] := hD
  refine lv_aload_n hx hb dX5_layMatrix_62 rfl (lv_at hl 0 rfl) ?_
  refine va_get (D := D) (ci := 5) (v := .ref mX) (C := RX5) (T := TX5) (N := 17) hx hb hts k_2 hown hK.1 hP 0 rfl rfl 8 (by decide) k_1 (fun _ h9 => h9) rfl dX5_layMatrix_63 ?_
  refine lv_bipush (v := 7) hx hb dX5_layMatrix_66 (by decide) ?_
  refine lv_lload hx hb dX5_layMatrix_68 (lv_at hl 5 rfl) ?_
  refine st_l hx hb hK.1 hP hD hS 1 1 rfl rfl (ix_lit (by decide)) 7 (by decide) dX5_layMatrix_70 (fun H locs hP hD hS => ?_)
  have hP : va_P D vwCl [kM o mP mL mC mN mF mR mD mV mX mA mK cm mT pm mU mH mI, kJ mX cJ 9 (vp_updL (vp_updL (vp_updL (vp_updL (vp_updL (vp_updL (vp_updL (vp_updL fx 0 (2 * a)) 1 b) 2 d) 3 b) 4 (2 * c)) 5 e) 6 d) 7 e)] H := hP
  have hD : va_D A [kM o mP mL mC mN mF mR mD mV mX mA mK cm mT pm mU mH mI, kJ mX cJ 9 (vp_updL (vp_updL (vp_updL (vp_updL (vp_updL (vp_updL (vp_updL (vp_updL fx 0 (2 * a)) 1 b) 2 d) 3 b) 4 (2 * c)) 5 e) 6 d) 7 e)] := hD
  refine lv_aload_n hx hb dX5_layMatrix_71 rfl (lv_at hl 0 rfl) ?_
  refine va_get (D := D) (ci := 5) (v := .ref mX) (C := RX5) (T := TX5) (N := 17) hx hb hts k_2 hown hK.1 hP 0 rfl rfl 8 (by decide) k_1 (fun _ h9 => h9) rfl dX5_layMatrix_72 ?_
  refine lv_bipush (v := 8) hx hb dX5_layMatrix_75 (by decide) ?_
  refine lv_ldc2 hx hb hown k_3 dX5_layMatrix_77 ?_
  refine lv_lload hx hb dX5_layMatrix_80 (lv_at hl 6 rfl) ?_
  refine lv_lmul hx hb dX5_layMatrix_82 ?_
  refine st_l hx hb hK.1 hP hD hS 1 1 rfl rfl (ix_lit (by decide)) 8 (by decide) dX5_layMatrix_83 (fun H locs hP hD hS => ?_)
  have hP : va_P D vwCl [kM o mP mL mC mN mF mR mD mV mX mA mK cm mT pm mU mH mI, kJ mX cJ 9 (vp_updL (vp_updL (vp_updL (vp_updL (vp_updL (vp_updL (vp_updL (vp_updL (vp_updL fx 0 (2 * a)) 1 b) 2 d) 3 b) 4 (2 * c)) 5 e) 6 d) 7 e) 8 (2 * f))] H := hP
  have hD : va_D A [kM o mP mL mC mN mF mR mD mV mX mA mK cm mT pm mU mH mI, kJ mX cJ 9 (vp_updL (vp_updL (vp_updL (vp_updL (vp_updL (vp_updL (vp_updL (vp_updL (vp_updL fx 0 (2 * a)) 1 b) 2 d) 3 b) 4 (2 * c)) 5 e) 6 d) 7 e) 8 (2 * f))] := hD
  have he_0 : z5_layMatrix_f1 fx a b c d e f = vp_updL (vp_updL (vp_updL (vp_updL (vp_updL (vp_updL (vp_updL (vp_updL (vp_updL fx 0 (2 * a)) 1 b) 2 d) 3 b) 4 (2 * c)) 5 e) 6 d) 7 e) 8 (2 * f) := by delta z5_layMatrix_f1; rfl
  exact rt_v (w1 := fun uu : Unit => [kM o mP mL mC mN mF mR mD mV mX mA mK cm mT pm mU mH mI, kJ mX cJ 9 (z5_layMatrix_f1 fx a b c d e f)]) hx hb hr hlk hS dX5_layMatrix_84 (()) trivial (by rw [he_0]; exact hP) (by rw [he_0]; exact hD)
def z5_layConic_v1 (gc : Nat → Int32) (fx : Nat → Int64) (c : Int32) : Nat → Int64 := z5_layMatrix_f1 fx ((gc ((6 * c).toNatClampNeg)).toInt64) ((gc (((6 * c) + 1).toNatClampNeg)).toInt64) ((gc (((6 * c) + 2).toNatClampNeg)).toInt64) ((gc (((6 * c) + 3).toNatClampNeg)).toInt64) ((gc (((6 * c) + 4).toNatClampNeg)).toInt64) ((gc (((6 * c) + 5).toNatClampNeg)).toInt64)
def z5_layConic_f2 (gc : Nat → Int32) (fx : Nat → Int64) (c : Int32) : Nat → Int64 := z5_layConic_v1 gc fx c
set_option maxHeartbeats 4000000 in
set_option maxRecDepth 100000 in
/-- X5.layConic -/
theorem c_X5_layConic (l : Launch) (D : va_G) (cI cJ : ClassId) (o : Nat) (mP : Nat) (mL : Nat) (mC : Nat) (mN : Nat) (mF : Nat) (mR : Nat) (mD : Nat) (mV : Nat) (mX : Nat) (mA : Nat) (mK : Nat) (mT : Nat) (mU : Nat) (mH : Nat) (mI : Nat) (cm : Int32) (pm : Int32) (gc : Nat → Int32) (fx : Nat → Int64) (c : Int32) (hc : ok_i c) : mw_C l yX5_layConic wsX5_layConic ({ frames := 1, cells := 0, slots := 0, locals := 32 }) D cI cJ [.ref o, .int c] [kM o mP mL mC mN mF mR mD mV mX mA mK cm mT pm mU mH mI, kA mC cI 360 gc, kJ mX cJ 9 fx] (qe_v (fun _ : Unit => True) (fun uu => [kM o mP mL mC mN mF mR mD mV mX mA mK cm mT pm mU mH mI, kA mC cI 360 gc, kJ mX cJ 9 (z5_layConic_f2 gc fx c)])) := by
  refine mw_in (cc := cX5_layConic) (lv := [(0, .ref o), (1, .int c)]) (by decide) rfl (Nat.le_of_ble_eq_true rfl) rfl ?_
  intro pG eG sG mG below meth cG ls A hx hb hr hml hown hts hlk hin hP hK hD hA hS hl
  have hown : sG.vm.findClass RX5 = some mG.cls := hown
  have k_1 := hts (.fieldLink RX5 16 "ConicRowsModel" "conics" "[I") (by decide +kernel)
  have k_2 : ∀ w ∈ wsX50, w ∈ wsX5_layConic := by decide +kernel
  refine lv_bipush (v := 6) hx hb dX5_layConic_0 (by decide) ?_
  refine lv_iload_n hx hb dX5_layConic_2 rfl (lv_at hl 1 rfl) ?_
  refine lv_imul hx hb dX5_layConic_3 ?_
  refine lv_istore_n (lv' := [(2, .int (6 * c)), (0, .ref o), (1, .int c)]) hx hb dX5_layConic_4 rfl hl (by decide) rfl (fun ls hl => ?_)
  refine lv_aload_n hx hb dX5_layConic_5 rfl (lv_at hl 1 rfl) ?_
  refine lv_aload_n hx hb dX5_layConic_6 rfl (lv_at hl 1 rfl) ?_
  refine va_get (D := D) (ci := 5) (v := .ref mC) (C := RX5) (T := TX5) (N := 17) hx hb hts k_2 hown hK.1 hP 0 rfl rfl 2 (by decide) k_1 (fun _ h9 => h9) rfl dX5_layConic_7 ?_
  refine lv_iload_n hx hb dX5_layConic_10 rfl (lv_at hl 0 rfl) ?_
  refine ld_i hx hb hK.1 hP 1 0 rfl rfl (ix6z hc) ((6 * c).toNatClampNeg) rfl (v := gc ((6 * c).toNatClampNeg)) rfl dX5_layConic_11 ?_
  refine lv_i2l hx hb dX5_layConic_12 rfl ?_
  refine lv_aload_n hx hb dX5_layConic_13 rfl (lv_at hl 1 rfl) ?_
  refine va_get (D := D) (ci := 5) (v := .ref mC) (C := RX5) (T := TX5) (N := 17) hx hb hts k_2 hown hK.1 hP 0 rfl rfl 2 (by decide) k_1 (fun _ h9 => h9) rfl dX5_layConic_14 ?_
  refine lv_iload_n hx hb dX5_layConic_17 rfl (lv_at hl 0 rfl) ?_
  refine lv_iconst (v := 1) hx hb dX5_layConic_18 (by decide) ?_
  refine lv_iadd hx hb dX5_layConic_19 ?_
  refine ld_i hx hb hK.1 hP 1 0 rfl rfl (ix6l hc 1 (by decide)) (((6 * c) + 1).toNatClampNeg) rfl (v := gc (((6 * c) + 1).toNatClampNeg)) rfl dX5_layConic_20 ?_
  refine lv_i2l hx hb dX5_layConic_21 rfl ?_
  refine lv_aload_n hx hb dX5_layConic_22 rfl (lv_at hl 1 rfl) ?_
  refine va_get (D := D) (ci := 5) (v := .ref mC) (C := RX5) (T := TX5) (N := 17) hx hb hts k_2 hown hK.1 hP 0 rfl rfl 2 (by decide) k_1 (fun _ h9 => h9) rfl dX5_layConic_23 ?_
  refine lv_iload_n hx hb dX5_layConic_26 rfl (lv_at hl 0 rfl) ?_
  refine lv_iconst (v := 2) hx hb dX5_layConic_27 (by decide) ?_
  refine lv_iadd hx hb dX5_layConic_28 ?_
  refine ld_i hx hb hK.1 hP 1 0 rfl rfl (ix6l hc 2 (by decide)) (((6 * c) + 2).toNatClampNeg) rfl (v := gc (((6 * c) + 2).toNatClampNeg)) rfl dX5_layConic_29 ?_
  refine lv_i2l hx hb dX5_layConic_30 rfl ?_
  refine lv_aload_n hx hb dX5_layConic_31 rfl (lv_at hl 1 rfl) ?_
  refine va_get (D := D) (ci := 5) (v := .ref mC) (C := RX5) (T := TX5) (N := 17) hx hb hts k_2 hown hK.1 hP 0 rfl rfl 2 (by decide) k_1 (fun _ h9 => h9) rfl dX5_layConic_32 ?_
  refine lv_iload_n hx hb dX5_layConic_35 rfl (lv_at hl 0 rfl) ?_
  refine lv_iconst (v := 3) hx hb dX5_layConic_36 (by decide) ?_
  refine lv_iadd hx hb dX5_layConic_37 ?_
  refine ld_i hx hb hK.1 hP 1 0 rfl rfl (ix6l hc 3 (by decide)) (((6 * c) + 3).toNatClampNeg) rfl (v := gc (((6 * c) + 3).toNatClampNeg)) rfl dX5_layConic_38 ?_
  refine lv_i2l hx hb dX5_layConic_39 rfl ?_
  refine lv_aload_n hx hb dX5_layConic_40 rfl (lv_at hl 1 rfl) ?_
  refine va_get (D := D) (ci := 5) (v := .ref mC) (C := RX5) (T := TX5) (N := 17) hx hb hts k_2 hown hK.1 hP 0 rfl rfl 2 (by decide) k_1 (fun _ h9 => h9) rfl dX5_layConic_41 ?_
  refine lv_iload_n hx hb dX5_layConic_44 rfl (lv_at hl 0 rfl) ?_
  refine lv_iconst (v := 4) hx hb dX5_layConic_45 (by decide) ?_
  refine lv_iadd hx hb dX5_layConic_46 ?_
  refine ld_i hx hb hK.1 hP 1 0 rfl rfl (ix6l hc 4 (by decide)) (((6 * c) + 4).toNatClampNeg) rfl (v := gc (((6 * c) + 4).toNatClampNeg)) rfl dX5_layConic_47 ?_
  refine lv_i2l hx hb dX5_layConic_48 rfl ?_
  refine lv_aload_n hx hb dX5_layConic_49 rfl (lv_at hl 1 rfl) ?_
  refine va_get (D := D) (ci := 5) (v := .ref mC) (C := RX5) (T := TX5) (N := 17) hx hb hts k_2 hown hK.1 hP 0 rfl rfl 2 (by decide) k_1 (fun _ h9 => h9) rfl dX5_layConic_50 ?_
  refine lv_iload_n hx hb dX5_layConic_53 rfl (lv_at hl 0 rfl) ?_
  refine lv_iconst (v := 5) hx hb dX5_layConic_54 (by decide) ?_
  refine lv_iadd hx hb dX5_layConic_55 ?_
  refine ld_i hx hb hK.1 hP 1 0 rfl rfl (ix6l hc 5 (by decide)) (((6 * c) + 5).toNatClampNeg) rfl (v := gc (((6 * c) + 5).toNatClampNeg)) rfl dX5_layConic_56 ?_
  refine lv_i2l hx hb dX5_layConic_57 rfl ?_
  have hPc := hP.sub (ws' := [kM o mP mL mC mN mF mR mD mV mX mA mK cm mT pm mU mH mI, kJ mX cJ 9 fx]) [0, 2] rfl
  have hDc := hD.sub (ws' := [kM o mP mL mC mN mF mR mD mV mX mA mK cm mT pm mU mH mI, kJ mX cJ 9 fx]) [0, 2] (by decide) rfl
  refine cl_v (wc := [kM o mP mL mC mN mF mR mD mV mX mA mK cm mT pm mU mH mI, kJ mX cJ 9 fx]) (wr := [kA mC cI 360 gc]) (w1 := fun uu : Unit => [kM o mP mL mC mN mF mR mD mV mX mA mK cm mT pm mU mH mI, kJ mX cJ 9 (z5_layMatrix_f1 fx ((gc ((6 * c).toNatClampNeg)).toInt64) ((gc (((6 * c) + 1).toNatClampNeg)).toInt64) ((gc (((6 * c) + 2).toNatClampNeg)).toInt64) ((gc (((6 * c) + 3).toNatClampNeg)).toInt64) ((gc (((6 * c) + 4).toNatClampNeg)).toInt64) ((gc (((6 * c) + 5).toNatClampNeg)).toInt64))]) (wn := fun uu : Unit => [kM o mP mL mC mN mF mR mD mV mX mA mK cm mT pm mU mH mI, kA mC cI 360 gc, kJ mX cJ 9 (z5_layMatrix_f1 fx ((gc ((6 * c).toNatClampNeg)).toInt64) ((gc (((6 * c) + 1).toNatClampNeg)).toInt64) ((gc (((6 * c) + 2).toNatClampNeg)).toInt64) ((gc (((6 * c) + 3).toNatClampNeg)).toInt64) ((gc (((6 * c) + 4).toNatClampNeg)).toInt64) ((gc (((6 * c) + 5).toNatClampNeg)).toInt64))]) (va_runV (As := [.long ((gc ((6 * c).toNatClampNeg)).toInt64), .long ((gc (((6 * c) + 1).toNatClampNeg)).toInt64), .long ((gc (((6 * c) + 2).toNatClampNeg)).toInt64), .long ((gc (((6 * c) + 3).toNatClampNeg)).toInt64), .long ((gc (((6 * c) + 4).toNatClampNeg)).toInt64), .long ((gc (((6 * c) + 5).toNatClampNeg)).toInt64)]) (rest := []) ⟨hx, hb, hml, hown, hts⟩ (c_X5_layMatrix l D cI cJ o mP mL mC mN mF mR mD mV mX mA mK mT mU mH mI cm pm fx ((gc ((6 * c).toNatClampNeg)).toInt64) ((gc (((6 * c) + 1).toNatClampNeg)).toInt64) ((gc (((6 * c) + 2).toNatClampNeg)).toInt64) ((gc (((6 * c) + 3).toNatClampNeg)).toInt64) ((gc (((6 * c) + 4).toNatClampNeg)).toInt64) ((gc (((6 * c) + 5).toNatClampNeg)).toInt64) _) (cwV 6 hts gX5_layConic_X5_layMatrix rfl rfl rfl (by decide +kernel) ⟨Nat.le_of_ble_eq_true rfl, Nat.le_of_ble_eq_true rfl⟩) ⟨gd_blP, va_recv hK.1 hPc (ci := 5) (q0 := 0) rfl rfl, gd_prP hPc hK hDc⟩ rfl rfl hl.1 rfl (lv_room (Nat.le_of_ble_eq_true rfl)) dX5_layConic_58 ⟨Nat.zero_le _, Nat.zero_le _⟩) hP hD hS hA [0, 2] [1] rfl rfl (by decide) (by decide) [1, 0, 2] (by decide) (fun _ => rfl) (fun uG H locs hw hP hD hS => ?_)
  have hP : va_P D vwCl [kM o mP mL mC mN mF mR mD mV mX mA mK cm mT pm mU mH mI, kA mC cI 360 gc, kJ mX cJ 9 (z5_layMatrix_f1 fx ((gc ((6 * c).toNatClampNeg)).toInt64) ((gc (((6 * c) + 1).toNatClampNeg)).toInt64) ((gc (((6 * c) + 2).toNatClampNeg)).toInt64) ((gc (((6 * c) + 3).toNatClampNeg)).toInt64) ((gc (((6 * c) + 4).toNatClampNeg)).toInt64) ((gc (((6 * c) + 5).toNatClampNeg)).toInt64))] H := hP
  have hD : va_D A [kM o mP mL mC mN mF mR mD mV mX mA mK cm mT pm mU mH mI, kA mC cI 360 gc, kJ mX cJ 9 (z5_layMatrix_f1 fx ((gc ((6 * c).toNatClampNeg)).toInt64) ((gc (((6 * c) + 1).toNatClampNeg)).toInt64) ((gc (((6 * c) + 2).toNatClampNeg)).toInt64) ((gc (((6 * c) + 3).toNatClampNeg)).toInt64) ((gc (((6 * c) + 4).toNatClampNeg)).toInt64) ((gc (((6 * c) + 5).toNatClampNeg)).toInt64))] := hD
  have ea_0 : z5_layMatrix_f1 fx ((gc ((6 * c).toNatClampNeg)).toInt64) ((gc (((6 * c) + 1).toNatClampNeg)).toInt64) ((gc (((6 * c) + 2).toNatClampNeg)).toInt64) ((gc (((6 * c) + 3).toNatClampNeg)).toInt64) ((gc (((6 * c) + 4).toNatClampNeg)).toInt64) ((gc (((6 * c) + 5).toNatClampNeg)).toInt64) = z5_layConic_v1 gc fx c := by delta z5_layConic_v1; rfl
  rw [ea_0] at hP hD
  clear ea_0
  clear hPc hDc
  have he_0 : z5_layConic_f2 gc fx c = z5_layConic_v1 gc fx c := by delta z5_layConic_f2; rfl
  exact rt_v (w1 := fun uu : Unit => [kM o mP mL mC mN mF mR mD mV mX mA mK cm mT pm mU mH mI, kA mC cI 360 gc, kJ mX cJ 9 (z5_layConic_f2 gc fx c)]) hx hb hr hlk hS dX5_layConic_61 (()) trivial (by rw [he_0]; exact hP) (by rw [he_0]; exact hD)
def z5_layAdjoint_f2 (fx : Nat → Int64) (fa : Nat → Int64) : Nat → Int64 := vp_updL (vp_updL (vp_updL (vp_updL (vp_updL (vp_updL (vp_updL (vp_updL (vp_updL fa 0 (((fx 4) * (fx 8)) - ((fx 5) * (fx 7)))) 3 (((fx 5) * (fx 6)) - ((fx 3) * (fx 8)))) 6 (((fx 3) * (fx 7)) - ((fx 4) * (fx 6)))) 1 (((fx 7) * (fx 2)) - ((fx 8) * (fx 1)))) 4 (((fx 8) * (fx 0)) - ((fx 6) * (fx 2)))) 7 (((fx 6) * (fx 1)) - ((fx 7) * (fx 0)))) 2 (((fx 1) * (fx 5)) - ((fx 2) * (fx 4)))) 5 (((fx 2) * (fx 3)) - ((fx 0) * (fx 5)))) 8 (((fx 0) * (fx 4)) - ((fx 1) * (fx 3)))
set_option maxHeartbeats 4000000 in
set_option maxRecDepth 100000 in
/-- X5.layAdjoint -/
theorem c_X5_layAdjoint (l : Launch) (D : va_G) (cI cJ : ClassId) (o : Nat) (mP : Nat) (mL : Nat) (mC : Nat) (mN : Nat) (mF : Nat) (mR : Nat) (mD : Nat) (mV : Nat) (mX : Nat) (mA : Nat) (mK : Nat) (mT : Nat) (mU : Nat) (mH : Nat) (mI : Nat) (cm : Int32) (pm : Int32) (fx : Nat → Int64) (fa : Nat → Int64) : mw_C l yX5_layAdjoint wsX5_layAdjoint ({ frames := 0, cells := 0, slots := 0, locals := 0 }) D cI cJ [.ref o] [kM o mP mL mC mN mF mR mD mV mX mA mK cm mT pm mU mH mI, kJ mX cJ 9 fx, kJ mA cJ 9 fa] (qe_v (fun _ : Unit => True) (fun uu => [kM o mP mL mC mN mF mR mD mV mX mA mK cm mT pm mU mH mI, kJ mX cJ 9 fx, kJ mA cJ 9 (z5_layAdjoint_f2 fx fa)])) := by
  refine mw_in (cc := cX5_layAdjoint) (lv := [(0, .ref o)]) (by decide) rfl (Nat.le_of_ble_eq_true rfl) rfl ?_
  intro pG eG sG mG below meth cG ls A hx hb hr hml hown hts hlk hin hP hK hD hA hS hl
  have hown : sG.vm.findClass RX5 = some mG.cls := hown
  have k_1 := hts (.fieldLink RX5 38 "ConicRowsModel" "adjoint" "[J") (by decide +kernel)
  have k_2 : ∀ w ∈ wsX50, w ∈ wsX5_layAdjoint := by decide +kernel
  have k_3 := hts (.fieldLink RX5 35 "ConicRowsModel" "matrix" "[J") (by decide +kernel)
  refine lv_iconst (v := 0) hx hb dX5_layAdjoint_0 (by decide) ?_
  refine lv_istore_n (lv' := [(1, .int 0), (0, .ref o)]) hx hb dX5_layAdjoint_1 rfl hl (by decide) rfl (fun ls hl => ?_)
  refine lv_iload_n hx hb dX5_layAdjoint_2 rfl (lv_at hl 0 rfl) ?_
  refine lv_iconst (v := 3) hx hb dX5_layAdjoint_3 (by decide) ?_
  refine lv_icmp_ge (tgt := 112) hx hb dX5_layAdjoint_4 (by decide) (fun h => absurd h (by decide)) (fun _ => ?_)
  refine lv_iconst (v := 0) hx hb dX5_layAdjoint_7 (by decide) ?_
  refine lv_istore_n (lv' := [(2, .int 0), (1, .int 0), (0, .ref o)]) hx hb dX5_layAdjoint_8 rfl hl (by decide) rfl (fun ls hl => ?_)
  refine lv_iload_n hx hb dX5_layAdjoint_9 rfl (lv_at hl 0 rfl) ?_
  refine lv_iconst (v := 3) hx hb dX5_layAdjoint_10 (by decide) ?_
  refine lv_icmp_ge (tgt := 106) hx hb dX5_layAdjoint_11 (by decide) (fun h => absurd h (by decide)) (fun _ => ?_)
  refine lv_iload_n hx hb dX5_layAdjoint_14 rfl (lv_at hl 1 rfl) ?_
  refine lv_iconst (v := 1) hx hb dX5_layAdjoint_15 (by decide) ?_
  refine lv_iadd hx hb dX5_layAdjoint_16 ?_
  refine lv_eqi (v := 1) (by decide) ?_
  refine lv_iconst (v := 3) hx hb dX5_layAdjoint_17 (by decide) ?_
  refine lv_irem hx hb dX5_layAdjoint_18 (by decide) ?_
  refine lv_eqi (v := 1) (by decide) ?_
  refine lv_istore_n (lv' := [(3, .int 1), (2, .int 0), (1, .int 0), (0, .ref o)]) hx hb dX5_layAdjoint_19 rfl hl (by decide) rfl (fun ls hl => ?_)
  refine lv_iload_n hx hb dX5_layAdjoint_20 rfl (lv_at hl 2 rfl) ?_
  refine lv_iconst (v := 2) hx hb dX5_layAdjoint_21 (by decide) ?_
  refine lv_iadd hx hb dX5_layAdjoint_22 ?_
  refine lv_eqi (v := 2) (by decide) ?_
  refine lv_iconst (v := 3) hx hb dX5_layAdjoint_23 (by decide) ?_
  refine lv_irem hx hb dX5_layAdjoint_24 (by decide) ?_
  refine lv_eqi (v := 2) (by decide) ?_
  refine lv_istore (lv' := [(4, .int 2), (3, .int 1), (2, .int 0), (1, .int 0), (0, .ref o)]) hx hb dX5_layAdjoint_25 hl (by decide) rfl (fun ls hl => ?_)
  refine lv_iload_n hx hb dX5_layAdjoint_27 rfl (lv_at hl 2 rfl) ?_
  refine lv_iconst (v := 1) hx hb dX5_layAdjoint_28 (by decide) ?_
  refine lv_iadd hx hb dX5_layAdjoint_29 ?_
  refine lv_eqi (v := 1) (by decide) ?_
  refine lv_iconst (v := 3) hx hb dX5_layAdjoint_30 (by decide) ?_
  refine lv_irem hx hb dX5_layAdjoint_31 (by decide) ?_
  refine lv_eqi (v := 1) (by decide) ?_
  refine lv_istore (lv' := [(5, .int 1), (4, .int 2), (3, .int 1), (2, .int 0), (1, .int 0), (0, .ref o)]) hx hb dX5_layAdjoint_32 hl (by decide) rfl (fun ls hl => ?_)
  refine lv_iload_n hx hb dX5_layAdjoint_34 rfl (lv_at hl 3 rfl) ?_
  refine lv_iconst (v := 2) hx hb dX5_layAdjoint_35 (by decide) ?_
  refine lv_iadd hx hb dX5_layAdjoint_36 ?_
  refine lv_eqi (v := 2) (by decide) ?_
  refine lv_iconst (v := 3) hx hb dX5_layAdjoint_37 (by decide) ?_
  refine lv_irem hx hb dX5_layAdjoint_38 (by decide) ?_
  refine lv_eqi (v := 2) (by decide) ?_
  refine lv_istore (lv' := [(6, .int 2), (5, .int 1), (4, .int 2), (3, .int 1), (2, .int 0), (1, .int 0), (0, .ref o)]) hx hb dX5_layAdjoint_39 hl (by decide) rfl (fun ls hl => ?_)
  refine lv_aload_n hx hb dX5_layAdjoint_41 rfl (lv_at hl 6 rfl) ?_
  refine va_get (D := D) (ci := 5) (v := .ref mA) (C := RX5) (T := TX5) (N := 17) hx hb hts k_2 hown hK.1 hP 0 rfl rfl 9 (by decide) k_1 (fun _ h9 => h9) rfl dX5_layAdjoint_42 ?_
  refine lv_iconst (v := 3) hx hb dX5_layAdjoint_45 (by decide) ?_
  refine lv_iload_n hx hb dX5_layAdjoint_46 rfl (lv_at hl 4 rfl) ?_
  refine lv_imul hx hb dX5_layAdjoint_47 ?_
  refine lv_eqi (v := 0) (by decide) ?_
  refine lv_iload_n hx hb dX5_layAdjoint_48 rfl (lv_at hl 5 rfl) ?_
  refine lv_iadd hx hb dX5_layAdjoint_49 ?_
  refine lv_eqi (v := 0) (by decide) ?_
  refine lv_aload_n hx hb dX5_layAdjoint_50 rfl (lv_at hl 6 rfl) ?_
  refine va_get (D := D) (ci := 5) (v := .ref mX) (C := RX5) (T := TX5) (N := 17) hx hb hts k_2 hown hK.1 hP 0 rfl rfl 8 (by decide) k_3 (fun _ h9 => h9) rfl dX5_layAdjoint_51 ?_
  refine lv_iconst (v := 3) hx hb dX5_layAdjoint_54 (by decide) ?_
  refine lv_iload_n hx hb dX5_layAdjoint_55 rfl (lv_at hl 3 rfl) ?_
  refine lv_imul hx hb dX5_layAdjoint_56 ?_
  refine lv_eqi (v := 3) (by decide) ?_
  refine lv_iload hx hb dX5_layAdjoint_57 (lv_at hl 1 rfl) ?_
  refine lv_iadd hx hb dX5_layAdjoint_59 ?_
  refine lv_eqi (v := 4) (by decide) ?_
  refine ld_l hx hb hK.1 hP 1 1 rfl rfl (ix_lit (by decide)) 4 (by decide) (v := fx 4) rfl dX5_layAdjoint_60 ?_
  refine lv_aload_n hx hb dX5_layAdjoint_61 rfl (lv_at hl 6 rfl) ?_
  refine va_get (D := D) (ci := 5) (v := .ref mX) (C := RX5) (T := TX5) (N := 17) hx hb hts k_2 hown hK.1 hP 0 rfl rfl 8 (by decide) k_3 (fun _ h9 => h9) rfl dX5_layAdjoint_62 ?_
  refine lv_iconst (v := 3) hx hb dX5_layAdjoint_65 (by decide) ?_
  refine lv_iload hx hb dX5_layAdjoint_66 (lv_at hl 2 rfl) ?_
  refine lv_imul hx hb dX5_layAdjoint_68 ?_
  refine lv_eqi (v := 6) (by decide) ?_
  refine lv_iload hx hb dX5_layAdjoint_69 (lv_at hl 0 rfl) ?_
  refine lv_iadd hx hb dX5_layAdjoint_71 ?_
  refine lv_eqi (v := 8) (by decide) ?_
  refine ld_l hx hb hK.1 hP 1 1 rfl rfl (ix_lit (by decide)) 8 (by decide) (v := fx 8) rfl dX5_layAdjoint_72 ?_
  refine lv_lmul hx hb dX5_layAdjoint_73 ?_
  refine lv_aload_n hx hb dX5_layAdjoint_74 rfl (lv_at hl 6 rfl) ?_
  refine va_get (D := D) (ci := 5) (v := .ref mX) (C := RX5) (T := TX5) (N := 17) hx hb hts k_2 hown hK.1 hP 0 rfl rfl 8 (by decide) k_3 (fun _ h9 => h9) rfl dX5_layAdjoint_75 ?_
  refine lv_iconst (v := 3) hx hb dX5_layAdjoint_78 (by decide) ?_
  refine lv_iload_n hx hb dX5_layAdjoint_79 rfl (lv_at hl 3 rfl) ?_
  refine lv_imul hx hb dX5_layAdjoint_80 ?_
  refine lv_eqi (v := 3) (by decide) ?_
  refine lv_iload hx hb dX5_layAdjoint_81 (lv_at hl 0 rfl) ?_
  refine lv_iadd hx hb dX5_layAdjoint_83 ?_
  refine lv_eqi (v := 5) (by decide) ?_
  refine ld_l hx hb hK.1 hP 1 1 rfl rfl (ix_lit (by decide)) 5 (by decide) (v := fx 5) rfl dX5_layAdjoint_84 ?_
  refine lv_aload_n hx hb dX5_layAdjoint_85 rfl (lv_at hl 6 rfl) ?_
  refine va_get (D := D) (ci := 5) (v := .ref mX) (C := RX5) (T := TX5) (N := 17) hx hb hts k_2 hown hK.1 hP 0 rfl rfl 8 (by decide) k_3 (fun _ h9 => h9) rfl dX5_layAdjoint_86 ?_
  refine lv_iconst (v := 3) hx hb dX5_layAdjoint_89 (by decide) ?_
  refine lv_iload hx hb dX5_layAdjoint_90 (lv_at hl 2 rfl) ?_
  refine lv_imul hx hb dX5_layAdjoint_92 ?_
  refine lv_eqi (v := 6) (by decide) ?_
  refine lv_iload hx hb dX5_layAdjoint_93 (lv_at hl 1 rfl) ?_
  refine lv_iadd hx hb dX5_layAdjoint_95 ?_
  refine lv_eqi (v := 7) (by decide) ?_
  refine ld_l hx hb hK.1 hP 1 1 rfl rfl (ix_lit (by decide)) 7 (by decide) (v := fx 7) rfl dX5_layAdjoint_96 ?_
  refine lv_lmul hx hb dX5_layAdjoint_97 ?_
  refine lv_lsub hx hb dX5_layAdjoint_98 ?_
  refine st_l hx hb hK.1 hP hD hS 2 1 rfl rfl (ix_lit (by decide)) 0 (by decide) dX5_layAdjoint_99 (fun H locs hP hD hS => ?_)
  have hP : va_P D vwCl [kM o mP mL mC mN mF mR mD mV mX mA mK cm mT pm mU mH mI, kJ mX cJ 9 fx, kJ mA cJ 9 (vp_updL fa 0 (((fx 4) * (fx 8)) - ((fx 5) * (fx 7))))] H := hP
  have hD : va_D A [kM o mP mL mC mN mF mR mD mV mX mA mK cm mT pm mU mH mI, kJ mX cJ 9 fx, kJ mA cJ 9 (vp_updL fa 0 (((fx 4) * (fx 8)) - ((fx 5) * (fx 7))))] := hD
  refine lv_iinc (v := 1) (lv' := [(2, .int 1), (6, .int 2), (5, .int 1), (4, .int 2), (3, .int 1), (1, .int 0), (0, .ref o)]) hx hb dX5_layAdjoint_100 hl (k := 4) rfl (by decide) (by decide) rfl (fun ls hl => ?_)
  refine lv_goto (tgt := 9) hx hb dX5_layAdjoint_103 (by decide) ?_
  refine lv_iload_n hx hb dX5_layAdjoint_9 rfl (lv_at hl 0 rfl) ?_
  refine lv_iconst (v := 3) hx hb dX5_layAdjoint_10 (by decide) ?_
  refine lv_icmp_ge (tgt := 106) hx hb dX5_layAdjoint_11 (by decide) (fun h => absurd h (by decide)) (fun _ => ?_)
  refine lv_iload_n hx hb dX5_layAdjoint_14 rfl (lv_at hl 5 rfl) ?_
  refine lv_iconst (v := 1) hx hb dX5_layAdjoint_15 (by decide) ?_
  refine lv_iadd hx hb dX5_layAdjoint_16 ?_
  refine lv_eqi (v := 1) (by decide) ?_
  refine lv_iconst (v := 3) hx hb dX5_layAdjoint_17 (by decide) ?_
  refine lv_irem hx hb dX5_layAdjoint_18 (by decide) ?_
  refine lv_eqi (v := 1) (by decide) ?_
  refine lv_istore_n (lv' := [(3, .int 1), (2, .int 1), (6, .int 2), (5, .int 1), (4, .int 2), (1, .int 0), (0, .ref o)]) hx hb dX5_layAdjoint_19 rfl hl (by decide) rfl (fun ls hl => ?_)
  refine lv_iload_n hx hb dX5_layAdjoint_20 rfl (lv_at hl 5 rfl) ?_
  refine lv_iconst (v := 2) hx hb dX5_layAdjoint_21 (by decide) ?_
  refine lv_iadd hx hb dX5_layAdjoint_22 ?_
  refine lv_eqi (v := 2) (by decide) ?_
  refine lv_iconst (v := 3) hx hb dX5_layAdjoint_23 (by decide) ?_
  refine lv_irem hx hb dX5_layAdjoint_24 (by decide) ?_
  refine lv_eqi (v := 2) (by decide) ?_
  refine lv_istore (lv' := [(4, .int 2), (3, .int 1), (2, .int 1), (6, .int 2), (5, .int 1), (1, .int 0), (0, .ref o)]) hx hb dX5_layAdjoint_25 hl (by decide) rfl (fun ls hl => ?_)
  refine lv_iload_n hx hb dX5_layAdjoint_27 rfl (lv_at hl 2 rfl) ?_
  refine lv_iconst (v := 1) hx hb dX5_layAdjoint_28 (by decide) ?_
  refine lv_iadd hx hb dX5_layAdjoint_29 ?_
  refine lv_eqi (v := 2) (by decide) ?_
  refine lv_iconst (v := 3) hx hb dX5_layAdjoint_30 (by decide) ?_
  refine lv_irem hx hb dX5_layAdjoint_31 (by decide) ?_
  refine lv_eqi (v := 2) (by decide) ?_
  refine lv_istore (lv' := [(5, .int 2), (4, .int 2), (3, .int 1), (2, .int 1), (6, .int 2), (1, .int 0), (0, .ref o)]) hx hb dX5_layAdjoint_32 hl (by decide) rfl (fun ls hl => ?_)
  refine lv_iload_n hx hb dX5_layAdjoint_34 rfl (lv_at hl 3 rfl) ?_
  refine lv_iconst (v := 2) hx hb dX5_layAdjoint_35 (by decide) ?_
  refine lv_iadd hx hb dX5_layAdjoint_36 ?_
  refine lv_eqi (v := 3) (by decide) ?_
  refine lv_iconst (v := 3) hx hb dX5_layAdjoint_37 (by decide) ?_
  refine lv_irem hx hb dX5_layAdjoint_38 (by decide) ?_
  refine lv_eqi (v := 0) (by decide) ?_
  refine lv_istore (lv' := [(6, .int 0), (5, .int 2), (4, .int 2), (3, .int 1), (2, .int 1), (1, .int 0), (0, .ref o)]) hx hb dX5_layAdjoint_39 hl (by decide) rfl (fun ls hl => ?_)
  refine lv_aload_n hx hb dX5_layAdjoint_41 rfl (lv_at hl 6 rfl) ?_
  refine va_get (D := D) (ci := 5) (v := .ref mA) (C := RX5) (T := TX5) (N := 17) hx hb hts k_2 hown hK.1 hP 0 rfl rfl 9 (by decide) k_1 (fun _ h9 => h9) rfl dX5_layAdjoint_42 ?_
  refine lv_iconst (v := 3) hx hb dX5_layAdjoint_45 (by decide) ?_
  refine lv_iload_n hx hb dX5_layAdjoint_46 rfl (lv_at hl 4 rfl) ?_
  refine lv_imul hx hb dX5_layAdjoint_47 ?_
  refine lv_eqi (v := 3) (by decide) ?_
  refine lv_iload_n hx hb dX5_layAdjoint_48 rfl (lv_at hl 5 rfl) ?_
  refine lv_iadd hx hb dX5_layAdjoint_49 ?_
  refine lv_eqi (v := 3) (by decide) ?_
  refine lv_aload_n hx hb dX5_layAdjoint_50 rfl (lv_at hl 6 rfl) ?_
  refine va_get (D := D) (ci := 5) (v := .ref mX) (C := RX5) (T := TX5) (N := 17) hx hb hts k_2 hown hK.1 hP 0 rfl rfl 8 (by decide) k_3 (fun _ h9 => h9) rfl dX5_layAdjoint_51 ?_
  refine lv_iconst (v := 3) hx hb dX5_layAdjoint_54 (by decide) ?_
  refine lv_iload_n hx hb dX5_layAdjoint_55 rfl (lv_at hl 3 rfl) ?_
  refine lv_imul hx hb dX5_layAdjoint_56 ?_
  refine lv_eqi (v := 3) (by decide) ?_
  refine lv_iload hx hb dX5_layAdjoint_57 (lv_at hl 1 rfl) ?_
  refine lv_iadd hx hb dX5_layAdjoint_59 ?_
  refine lv_eqi (v := 5) (by decide) ?_
  refine ld_l hx hb hK.1 hP 1 1 rfl rfl (ix_lit (by decide)) 5 (by decide) (v := fx 5) rfl dX5_layAdjoint_60 ?_
  refine lv_aload_n hx hb dX5_layAdjoint_61 rfl (lv_at hl 6 rfl) ?_
  refine va_get (D := D) (ci := 5) (v := .ref mX) (C := RX5) (T := TX5) (N := 17) hx hb hts k_2 hown hK.1 hP 0 rfl rfl 8 (by decide) k_3 (fun _ h9 => h9) rfl dX5_layAdjoint_62 ?_
  refine lv_iconst (v := 3) hx hb dX5_layAdjoint_65 (by decide) ?_
  refine lv_iload hx hb dX5_layAdjoint_66 (lv_at hl 2 rfl) ?_
  refine lv_imul hx hb dX5_layAdjoint_68 ?_
  refine lv_eqi (v := 6) (by decide) ?_
  refine lv_iload hx hb dX5_layAdjoint_69 (lv_at hl 0 rfl) ?_
  refine lv_iadd hx hb dX5_layAdjoint_71 ?_
  refine lv_eqi (v := 6) (by decide) ?_
  refine ld_l hx hb hK.1 hP 1 1 rfl rfl (ix_lit (by decide)) 6 (by decide) (v := fx 6) rfl dX5_layAdjoint_72 ?_
  refine lv_lmul hx hb dX5_layAdjoint_73 ?_
  refine lv_aload_n hx hb dX5_layAdjoint_74 rfl (lv_at hl 6 rfl) ?_
  refine va_get (D := D) (ci := 5) (v := .ref mX) (C := RX5) (T := TX5) (N := 17) hx hb hts k_2 hown hK.1 hP 0 rfl rfl 8 (by decide) k_3 (fun _ h9 => h9) rfl dX5_layAdjoint_75 ?_
  refine lv_iconst (v := 3) hx hb dX5_layAdjoint_78 (by decide) ?_
  refine lv_iload_n hx hb dX5_layAdjoint_79 rfl (lv_at hl 3 rfl) ?_
  refine lv_imul hx hb dX5_layAdjoint_80 ?_
  refine lv_eqi (v := 3) (by decide) ?_
  refine lv_iload hx hb dX5_layAdjoint_81 (lv_at hl 0 rfl) ?_
  refine lv_iadd hx hb dX5_layAdjoint_83 ?_
  refine lv_eqi (v := 3) (by decide) ?_
  refine ld_l hx hb hK.1 hP 1 1 rfl rfl (ix_lit (by decide)) 3 (by decide) (v := fx 3) rfl dX5_layAdjoint_84 ?_
  refine lv_aload_n hx hb dX5_layAdjoint_85 rfl (lv_at hl 6 rfl) ?_
  refine va_get (D := D) (ci := 5) (v := .ref mX) (C := RX5) (T := TX5) (N := 17) hx hb hts k_2 hown hK.1 hP 0 rfl rfl 8 (by decide) k_3 (fun _ h9 => h9) rfl dX5_layAdjoint_86 ?_
  refine lv_iconst (v := 3) hx hb dX5_layAdjoint_89 (by decide) ?_
  refine lv_iload hx hb dX5_layAdjoint_90 (lv_at hl 2 rfl) ?_
  refine lv_imul hx hb dX5_layAdjoint_92 ?_
  refine lv_eqi (v := 6) (by decide) ?_
  refine lv_iload hx hb dX5_layAdjoint_93 (lv_at hl 1 rfl) ?_
  refine lv_iadd hx hb dX5_layAdjoint_95 ?_
  refine lv_eqi (v := 8) (by decide) ?_
  refine ld_l hx hb hK.1 hP 1 1 rfl rfl (ix_lit (by decide)) 8 (by decide) (v := fx 8) rfl dX5_layAdjoint_96 ?_
  refine lv_lmul hx hb dX5_layAdjoint_97 ?_
  refine lv_lsub hx hb dX5_layAdjoint_98 ?_
  refine st_l hx hb hK.1 hP hD hS 2 1 rfl rfl (ix_lit (by decide)) 3 (by decide) dX5_layAdjoint_99 (fun H locs hP hD hS => ?_)
  have hP : va_P D vwCl [kM o mP mL mC mN mF mR mD mV mX mA mK cm mT pm mU mH mI, kJ mX cJ 9 fx, kJ mA cJ 9 (vp_updL (vp_updL fa 0 (((fx 4) * (fx 8)) - ((fx 5) * (fx 7)))) 3 (((fx 5) * (fx 6)) - ((fx 3) * (fx 8))))] H := hP
  have hD : va_D A [kM o mP mL mC mN mF mR mD mV mX mA mK cm mT pm mU mH mI, kJ mX cJ 9 fx, kJ mA cJ 9 (vp_updL (vp_updL fa 0 (((fx 4) * (fx 8)) - ((fx 5) * (fx 7)))) 3 (((fx 5) * (fx 6)) - ((fx 3) * (fx 8))))] := hD
  refine lv_iinc (v := 2) (lv' := [(2, .int 2), (6, .int 0), (5, .int 2), (4, .int 2), (3, .int 1), (1, .int 0), (0, .ref o)]) hx hb dX5_layAdjoint_100 hl (k := 4) rfl (by decide) (by decide) rfl (fun ls hl => ?_)
  refine lv_goto (tgt := 9) hx hb dX5_layAdjoint_103 (by decide) ?_
  refine lv_iload_n hx hb dX5_layAdjoint_9 rfl (lv_at hl 0 rfl) ?_
  refine lv_iconst (v := 3) hx hb dX5_layAdjoint_10 (by decide) ?_
  refine lv_icmp_ge (tgt := 106) hx hb dX5_layAdjoint_11 (by decide) (fun h => absurd h (by decide)) (fun _ => ?_)
  refine lv_iload_n hx hb dX5_layAdjoint_14 rfl (lv_at hl 5 rfl) ?_
  refine lv_iconst (v := 1) hx hb dX5_layAdjoint_15 (by decide) ?_
  refine lv_iadd hx hb dX5_layAdjoint_16 ?_
  refine lv_eqi (v := 1) (by decide) ?_
  refine lv_iconst (v := 3) hx hb dX5_layAdjoint_17 (by decide) ?_
  refine lv_irem hx hb dX5_layAdjoint_18 (by decide) ?_
  refine lv_eqi (v := 1) (by decide) ?_
  refine lv_istore_n (lv' := [(3, .int 1), (2, .int 2), (6, .int 0), (5, .int 2), (4, .int 2), (1, .int 0), (0, .ref o)]) hx hb dX5_layAdjoint_19 rfl hl (by decide) rfl (fun ls hl => ?_)
  refine lv_iload_n hx hb dX5_layAdjoint_20 rfl (lv_at hl 5 rfl) ?_
  refine lv_iconst (v := 2) hx hb dX5_layAdjoint_21 (by decide) ?_
  refine lv_iadd hx hb dX5_layAdjoint_22 ?_
  refine lv_eqi (v := 2) (by decide) ?_
  refine lv_iconst (v := 3) hx hb dX5_layAdjoint_23 (by decide) ?_
  refine lv_irem hx hb dX5_layAdjoint_24 (by decide) ?_
  refine lv_eqi (v := 2) (by decide) ?_
  refine lv_istore (lv' := [(4, .int 2), (3, .int 1), (2, .int 2), (6, .int 0), (5, .int 2), (1, .int 0), (0, .ref o)]) hx hb dX5_layAdjoint_25 hl (by decide) rfl (fun ls hl => ?_)
  refine lv_iload_n hx hb dX5_layAdjoint_27 rfl (lv_at hl 2 rfl) ?_
  refine lv_iconst (v := 1) hx hb dX5_layAdjoint_28 (by decide) ?_
  refine lv_iadd hx hb dX5_layAdjoint_29 ?_
  refine lv_eqi (v := 3) (by decide) ?_
  refine lv_iconst (v := 3) hx hb dX5_layAdjoint_30 (by decide) ?_
  refine lv_irem hx hb dX5_layAdjoint_31 (by decide) ?_
  refine lv_eqi (v := 0) (by decide) ?_
  refine lv_istore (lv' := [(5, .int 0), (4, .int 2), (3, .int 1), (2, .int 2), (6, .int 0), (1, .int 0), (0, .ref o)]) hx hb dX5_layAdjoint_32 hl (by decide) rfl (fun ls hl => ?_)
  refine lv_iload_n hx hb dX5_layAdjoint_34 rfl (lv_at hl 3 rfl) ?_
  refine lv_iconst (v := 2) hx hb dX5_layAdjoint_35 (by decide) ?_
  refine lv_iadd hx hb dX5_layAdjoint_36 ?_
  refine lv_eqi (v := 4) (by decide) ?_
  refine lv_iconst (v := 3) hx hb dX5_layAdjoint_37 (by decide) ?_
  refine lv_irem hx hb dX5_layAdjoint_38 (by decide) ?_
  refine lv_eqi (v := 1) (by decide) ?_
  refine lv_istore (lv' := [(6, .int 1), (5, .int 0), (4, .int 2), (3, .int 1), (2, .int 2), (1, .int 0), (0, .ref o)]) hx hb dX5_layAdjoint_39 hl (by decide) rfl (fun ls hl => ?_)
  refine lv_aload_n hx hb dX5_layAdjoint_41 rfl (lv_at hl 6 rfl) ?_
  refine va_get (D := D) (ci := 5) (v := .ref mA) (C := RX5) (T := TX5) (N := 17) hx hb hts k_2 hown hK.1 hP 0 rfl rfl 9 (by decide) k_1 (fun _ h9 => h9) rfl dX5_layAdjoint_42 ?_
  refine lv_iconst (v := 3) hx hb dX5_layAdjoint_45 (by decide) ?_
  refine lv_iload_n hx hb dX5_layAdjoint_46 rfl (lv_at hl 4 rfl) ?_
  refine lv_imul hx hb dX5_layAdjoint_47 ?_
  refine lv_eqi (v := 6) (by decide) ?_
  refine lv_iload_n hx hb dX5_layAdjoint_48 rfl (lv_at hl 5 rfl) ?_
  refine lv_iadd hx hb dX5_layAdjoint_49 ?_
  refine lv_eqi (v := 6) (by decide) ?_
  refine lv_aload_n hx hb dX5_layAdjoint_50 rfl (lv_at hl 6 rfl) ?_
  refine va_get (D := D) (ci := 5) (v := .ref mX) (C := RX5) (T := TX5) (N := 17) hx hb hts k_2 hown hK.1 hP 0 rfl rfl 8 (by decide) k_3 (fun _ h9 => h9) rfl dX5_layAdjoint_51 ?_
  refine lv_iconst (v := 3) hx hb dX5_layAdjoint_54 (by decide) ?_
  refine lv_iload_n hx hb dX5_layAdjoint_55 rfl (lv_at hl 3 rfl) ?_
  refine lv_imul hx hb dX5_layAdjoint_56 ?_
  refine lv_eqi (v := 3) (by decide) ?_
  refine lv_iload hx hb dX5_layAdjoint_57 (lv_at hl 1 rfl) ?_
  refine lv_iadd hx hb dX5_layAdjoint_59 ?_
  refine lv_eqi (v := 3) (by decide) ?_
  refine ld_l hx hb hK.1 hP 1 1 rfl rfl (ix_lit (by decide)) 3 (by decide) (v := fx 3) rfl dX5_layAdjoint_60 ?_
  refine lv_aload_n hx hb dX5_layAdjoint_61 rfl (lv_at hl 6 rfl) ?_
  refine va_get (D := D) (ci := 5) (v := .ref mX) (C := RX5) (T := TX5) (N := 17) hx hb hts k_2 hown hK.1 hP 0 rfl rfl 8 (by decide) k_3 (fun _ h9 => h9) rfl dX5_layAdjoint_62 ?_
  refine lv_iconst (v := 3) hx hb dX5_layAdjoint_65 (by decide) ?_
  refine lv_iload hx hb dX5_layAdjoint_66 (lv_at hl 2 rfl) ?_
  refine lv_imul hx hb dX5_layAdjoint_68 ?_
  refine lv_eqi (v := 6) (by decide) ?_
  refine lv_iload hx hb dX5_layAdjoint_69 (lv_at hl 0 rfl) ?_
  refine lv_iadd hx hb dX5_layAdjoint_71 ?_
  refine lv_eqi (v := 7) (by decide) ?_
  refine ld_l hx hb hK.1 hP 1 1 rfl rfl (ix_lit (by decide)) 7 (by decide) (v := fx 7) rfl dX5_layAdjoint_72 ?_
  refine lv_lmul hx hb dX5_layAdjoint_73 ?_
  refine lv_aload_n hx hb dX5_layAdjoint_74 rfl (lv_at hl 6 rfl) ?_
  refine va_get (D := D) (ci := 5) (v := .ref mX) (C := RX5) (T := TX5) (N := 17) hx hb hts k_2 hown hK.1 hP 0 rfl rfl 8 (by decide) k_3 (fun _ h9 => h9) rfl dX5_layAdjoint_75 ?_
  refine lv_iconst (v := 3) hx hb dX5_layAdjoint_78 (by decide) ?_
  refine lv_iload_n hx hb dX5_layAdjoint_79 rfl (lv_at hl 3 rfl) ?_
  refine lv_imul hx hb dX5_layAdjoint_80 ?_
  refine lv_eqi (v := 3) (by decide) ?_
  refine lv_iload hx hb dX5_layAdjoint_81 (lv_at hl 0 rfl) ?_
  refine lv_iadd hx hb dX5_layAdjoint_83 ?_
  refine lv_eqi (v := 4) (by decide) ?_
  refine ld_l hx hb hK.1 hP 1 1 rfl rfl (ix_lit (by decide)) 4 (by decide) (v := fx 4) rfl dX5_layAdjoint_84 ?_
  refine lv_aload_n hx hb dX5_layAdjoint_85 rfl (lv_at hl 6 rfl) ?_
  refine va_get (D := D) (ci := 5) (v := .ref mX) (C := RX5) (T := TX5) (N := 17) hx hb hts k_2 hown hK.1 hP 0 rfl rfl 8 (by decide) k_3 (fun _ h9 => h9) rfl dX5_layAdjoint_86 ?_
  refine lv_iconst (v := 3) hx hb dX5_layAdjoint_89 (by decide) ?_
  refine lv_iload hx hb dX5_layAdjoint_90 (lv_at hl 2 rfl) ?_
  refine lv_imul hx hb dX5_layAdjoint_92 ?_
  refine lv_eqi (v := 6) (by decide) ?_
  refine lv_iload hx hb dX5_layAdjoint_93 (lv_at hl 1 rfl) ?_
  refine lv_iadd hx hb dX5_layAdjoint_95 ?_
  refine lv_eqi (v := 6) (by decide) ?_
  refine ld_l hx hb hK.1 hP 1 1 rfl rfl (ix_lit (by decide)) 6 (by decide) (v := fx 6) rfl dX5_layAdjoint_96 ?_
  refine lv_lmul hx hb dX5_layAdjoint_97 ?_
  refine lv_lsub hx hb dX5_layAdjoint_98 ?_
  refine st_l hx hb hK.1 hP hD hS 2 1 rfl rfl (ix_lit (by decide)) 6 (by decide) dX5_layAdjoint_99 (fun H locs hP hD hS => ?_)
  have hP : va_P D vwCl [kM o mP mL mC mN mF mR mD mV mX mA mK cm mT pm mU mH mI, kJ mX cJ 9 fx, kJ mA cJ 9 (vp_updL (vp_updL (vp_updL fa 0 (((fx 4) * (fx 8)) - ((fx 5) * (fx 7)))) 3 (((fx 5) * (fx 6)) - ((fx 3) * (fx 8)))) 6 (((fx 3) * (fx 7)) - ((fx 4) * (fx 6))))] H := hP
  have hD : va_D A [kM o mP mL mC mN mF mR mD mV mX mA mK cm mT pm mU mH mI, kJ mX cJ 9 fx, kJ mA cJ 9 (vp_updL (vp_updL (vp_updL fa 0 (((fx 4) * (fx 8)) - ((fx 5) * (fx 7)))) 3 (((fx 5) * (fx 6)) - ((fx 3) * (fx 8)))) 6 (((fx 3) * (fx 7)) - ((fx 4) * (fx 6))))] := hD
  refine lv_iinc (v := 3) (lv' := [(2, .int 3), (6, .int 1), (5, .int 0), (4, .int 2), (3, .int 1), (1, .int 0), (0, .ref o)]) hx hb dX5_layAdjoint_100 hl (k := 4) rfl (by decide) (by decide) rfl (fun ls hl => ?_)
  refine lv_goto (tgt := 9) hx hb dX5_layAdjoint_103 (by decide) ?_
  refine lv_iload_n hx hb dX5_layAdjoint_9 rfl (lv_at hl 0 rfl) ?_
  refine lv_iconst (v := 3) hx hb dX5_layAdjoint_10 (by decide) ?_
  refine lv_icmp_ge (tgt := 106) hx hb dX5_layAdjoint_11 (by decide) (fun _ => ?_) (fun h => absurd (by decide) h)
  refine lv_iinc (v := 1) (lv' := [(1, .int 1), (2, .int 3), (6, .int 1), (5, .int 0), (4, .int 2), (3, .int 1), (0, .ref o)]) hx hb dX5_layAdjoint_106 hl (k := 5) rfl (by decide) (by decide) rfl (fun ls hl => ?_)
  refine lv_goto (tgt := 2) hx hb dX5_layAdjoint_109 (by decide) ?_
  refine lv_iload_n hx hb dX5_layAdjoint_2 rfl (lv_at hl 0 rfl) ?_
  refine lv_iconst (v := 3) hx hb dX5_layAdjoint_3 (by decide) ?_
  refine lv_icmp_ge (tgt := 112) hx hb dX5_layAdjoint_4 (by decide) (fun h => absurd h (by decide)) (fun _ => ?_)
  refine lv_iconst (v := 0) hx hb dX5_layAdjoint_7 (by decide) ?_
  refine lv_istore_n (lv' := [(2, .int 0), (1, .int 1), (6, .int 1), (5, .int 0), (4, .int 2), (3, .int 1), (0, .ref o)]) hx hb dX5_layAdjoint_8 rfl hl (by decide) rfl (fun ls hl => ?_)
  refine lv_iload_n hx hb dX5_layAdjoint_9 rfl (lv_at hl 0 rfl) ?_
  refine lv_iconst (v := 3) hx hb dX5_layAdjoint_10 (by decide) ?_
  refine lv_icmp_ge (tgt := 106) hx hb dX5_layAdjoint_11 (by decide) (fun h => absurd h (by decide)) (fun _ => ?_)
  refine lv_iload_n hx hb dX5_layAdjoint_14 rfl (lv_at hl 1 rfl) ?_
  refine lv_iconst (v := 1) hx hb dX5_layAdjoint_15 (by decide) ?_
  refine lv_iadd hx hb dX5_layAdjoint_16 ?_
  refine lv_eqi (v := 2) (by decide) ?_
  refine lv_iconst (v := 3) hx hb dX5_layAdjoint_17 (by decide) ?_
  refine lv_irem hx hb dX5_layAdjoint_18 (by decide) ?_
  refine lv_eqi (v := 2) (by decide) ?_
  refine lv_istore_n (lv' := [(3, .int 2), (2, .int 0), (1, .int 1), (6, .int 1), (5, .int 0), (4, .int 2), (0, .ref o)]) hx hb dX5_layAdjoint_19 rfl hl (by decide) rfl (fun ls hl => ?_)
  refine lv_iload_n hx hb dX5_layAdjoint_20 rfl (lv_at hl 2 rfl) ?_
  refine lv_iconst (v := 2) hx hb dX5_layAdjoint_21 (by decide) ?_
  refine lv_iadd hx hb dX5_layAdjoint_22 ?_
  refine lv_eqi (v := 3) (by decide) ?_
  refine lv_iconst (v := 3) hx hb dX5_layAdjoint_23 (by decide) ?_
  refine lv_irem hx hb dX5_layAdjoint_24 (by decide) ?_
  refine lv_eqi (v := 0) (by decide) ?_
  refine lv_istore (lv' := [(4, .int 0), (3, .int 2), (2, .int 0), (1, .int 1), (6, .int 1), (5, .int 0), (0, .ref o)]) hx hb dX5_layAdjoint_25 hl (by decide) rfl (fun ls hl => ?_)
  refine lv_iload_n hx hb dX5_layAdjoint_27 rfl (lv_at hl 2 rfl) ?_
  refine lv_iconst (v := 1) hx hb dX5_layAdjoint_28 (by decide) ?_
  refine lv_iadd hx hb dX5_layAdjoint_29 ?_
  refine lv_eqi (v := 1) (by decide) ?_
  refine lv_iconst (v := 3) hx hb dX5_layAdjoint_30 (by decide) ?_
  refine lv_irem hx hb dX5_layAdjoint_31 (by decide) ?_
  refine lv_eqi (v := 1) (by decide) ?_
  refine lv_istore (lv' := [(5, .int 1), (4, .int 0), (3, .int 2), (2, .int 0), (1, .int 1), (6, .int 1), (0, .ref o)]) hx hb dX5_layAdjoint_32 hl (by decide) rfl (fun ls hl => ?_)
  refine lv_iload_n hx hb dX5_layAdjoint_34 rfl (lv_at hl 3 rfl) ?_
  refine lv_iconst (v := 2) hx hb dX5_layAdjoint_35 (by decide) ?_
  refine lv_iadd hx hb dX5_layAdjoint_36 ?_
  refine lv_eqi (v := 2) (by decide) ?_
  refine lv_iconst (v := 3) hx hb dX5_layAdjoint_37 (by decide) ?_
  refine lv_irem hx hb dX5_layAdjoint_38 (by decide) ?_
  refine lv_eqi (v := 2) (by decide) ?_
  refine lv_istore (lv' := [(6, .int 2), (5, .int 1), (4, .int 0), (3, .int 2), (2, .int 0), (1, .int 1), (0, .ref o)]) hx hb dX5_layAdjoint_39 hl (by decide) rfl (fun ls hl => ?_)
  refine lv_aload_n hx hb dX5_layAdjoint_41 rfl (lv_at hl 6 rfl) ?_
  refine va_get (D := D) (ci := 5) (v := .ref mA) (C := RX5) (T := TX5) (N := 17) hx hb hts k_2 hown hK.1 hP 0 rfl rfl 9 (by decide) k_1 (fun _ h9 => h9) rfl dX5_layAdjoint_42 ?_
  refine lv_iconst (v := 3) hx hb dX5_layAdjoint_45 (by decide) ?_
  refine lv_iload_n hx hb dX5_layAdjoint_46 rfl (lv_at hl 4 rfl) ?_
  refine lv_imul hx hb dX5_layAdjoint_47 ?_
  refine lv_eqi (v := 0) (by decide) ?_
  refine lv_iload_n hx hb dX5_layAdjoint_48 rfl (lv_at hl 5 rfl) ?_
  refine lv_iadd hx hb dX5_layAdjoint_49 ?_
  refine lv_eqi (v := 1) (by decide) ?_
  refine lv_aload_n hx hb dX5_layAdjoint_50 rfl (lv_at hl 6 rfl) ?_
  refine va_get (D := D) (ci := 5) (v := .ref mX) (C := RX5) (T := TX5) (N := 17) hx hb hts k_2 hown hK.1 hP 0 rfl rfl 8 (by decide) k_3 (fun _ h9 => h9) rfl dX5_layAdjoint_51 ?_
  refine lv_iconst (v := 3) hx hb dX5_layAdjoint_54 (by decide) ?_
  refine lv_iload_n hx hb dX5_layAdjoint_55 rfl (lv_at hl 3 rfl) ?_
  refine lv_imul hx hb dX5_layAdjoint_56 ?_
  refine lv_eqi (v := 6) (by decide) ?_
  refine lv_iload hx hb dX5_layAdjoint_57 (lv_at hl 1 rfl) ?_
  refine lv_iadd hx hb dX5_layAdjoint_59 ?_
  refine lv_eqi (v := 7) (by decide) ?_
  refine ld_l hx hb hK.1 hP 1 1 rfl rfl (ix_lit (by decide)) 7 (by decide) (v := fx 7) rfl dX5_layAdjoint_60 ?_
  refine lv_aload_n hx hb dX5_layAdjoint_61 rfl (lv_at hl 6 rfl) ?_
  refine va_get (D := D) (ci := 5) (v := .ref mX) (C := RX5) (T := TX5) (N := 17) hx hb hts k_2 hown hK.1 hP 0 rfl rfl 8 (by decide) k_3 (fun _ h9 => h9) rfl dX5_layAdjoint_62 ?_
  refine lv_iconst (v := 3) hx hb dX5_layAdjoint_65 (by decide) ?_
  refine lv_iload hx hb dX5_layAdjoint_66 (lv_at hl 2 rfl) ?_
  refine lv_imul hx hb dX5_layAdjoint_68 ?_
  refine lv_eqi (v := 0) (by decide) ?_
  refine lv_iload hx hb dX5_layAdjoint_69 (lv_at hl 0 rfl) ?_
  refine lv_iadd hx hb dX5_layAdjoint_71 ?_
  refine lv_eqi (v := 2) (by decide) ?_
  refine ld_l hx hb hK.1 hP 1 1 rfl rfl (ix_lit (by decide)) 2 (by decide) (v := fx 2) rfl dX5_layAdjoint_72 ?_
  refine lv_lmul hx hb dX5_layAdjoint_73 ?_
  refine lv_aload_n hx hb dX5_layAdjoint_74 rfl (lv_at hl 6 rfl) ?_
  refine va_get (D := D) (ci := 5) (v := .ref mX) (C := RX5) (T := TX5) (N := 17) hx hb hts k_2 hown hK.1 hP 0 rfl rfl 8 (by decide) k_3 (fun _ h9 => h9) rfl dX5_layAdjoint_75 ?_
  refine lv_iconst (v := 3) hx hb dX5_layAdjoint_78 (by decide) ?_
  refine lv_iload_n hx hb dX5_layAdjoint_79 rfl (lv_at hl 3 rfl) ?_
  refine lv_imul hx hb dX5_layAdjoint_80 ?_
  refine lv_eqi (v := 6) (by decide) ?_
  refine lv_iload hx hb dX5_layAdjoint_81 (lv_at hl 0 rfl) ?_
  refine lv_iadd hx hb dX5_layAdjoint_83 ?_
  refine lv_eqi (v := 8) (by decide) ?_
  refine ld_l hx hb hK.1 hP 1 1 rfl rfl (ix_lit (by decide)) 8 (by decide) (v := fx 8) rfl dX5_layAdjoint_84 ?_
  refine lv_aload_n hx hb dX5_layAdjoint_85 rfl (lv_at hl 6 rfl) ?_
  refine va_get (D := D) (ci := 5) (v := .ref mX) (C := RX5) (T := TX5) (N := 17) hx hb hts k_2 hown hK.1 hP 0 rfl rfl 8 (by decide) k_3 (fun _ h9 => h9) rfl dX5_layAdjoint_86 ?_
  refine lv_iconst (v := 3) hx hb dX5_layAdjoint_89 (by decide) ?_
  refine lv_iload hx hb dX5_layAdjoint_90 (lv_at hl 2 rfl) ?_
  refine lv_imul hx hb dX5_layAdjoint_92 ?_
  refine lv_eqi (v := 0) (by decide) ?_
  refine lv_iload hx hb dX5_layAdjoint_93 (lv_at hl 1 rfl) ?_
  refine lv_iadd hx hb dX5_layAdjoint_95 ?_
  refine lv_eqi (v := 1) (by decide) ?_
  refine ld_l hx hb hK.1 hP 1 1 rfl rfl (ix_lit (by decide)) 1 (by decide) (v := fx 1) rfl dX5_layAdjoint_96 ?_
  refine lv_lmul hx hb dX5_layAdjoint_97 ?_
  refine lv_lsub hx hb dX5_layAdjoint_98 ?_
  refine st_l hx hb hK.1 hP hD hS 2 1 rfl rfl (ix_lit (by decide)) 1 (by decide) dX5_layAdjoint_99 (fun H locs hP hD hS => ?_)
  have hP : va_P D vwCl [kM o mP mL mC mN mF mR mD mV mX mA mK cm mT pm mU mH mI, kJ mX cJ 9 fx, kJ mA cJ 9 (vp_updL (vp_updL (vp_updL (vp_updL fa 0 (((fx 4) * (fx 8)) - ((fx 5) * (fx 7)))) 3 (((fx 5) * (fx 6)) - ((fx 3) * (fx 8)))) 6 (((fx 3) * (fx 7)) - ((fx 4) * (fx 6)))) 1 (((fx 7) * (fx 2)) - ((fx 8) * (fx 1))))] H := hP
  have hD : va_D A [kM o mP mL mC mN mF mR mD mV mX mA mK cm mT pm mU mH mI, kJ mX cJ 9 fx, kJ mA cJ 9 (vp_updL (vp_updL (vp_updL (vp_updL fa 0 (((fx 4) * (fx 8)) - ((fx 5) * (fx 7)))) 3 (((fx 5) * (fx 6)) - ((fx 3) * (fx 8)))) 6 (((fx 3) * (fx 7)) - ((fx 4) * (fx 6)))) 1 (((fx 7) * (fx 2)) - ((fx 8) * (fx 1))))] := hD
  refine lv_iinc (v := 1) (lv' := [(2, .int 1), (6, .int 2), (5, .int 1), (4, .int 0), (3, .int 2), (1, .int 1), (0, .ref o)]) hx hb dX5_layAdjoint_100 hl (k := 4) rfl (by decide) (by decide) rfl (fun ls hl => ?_)
  refine lv_goto (tgt := 9) hx hb dX5_layAdjoint_103 (by decide) ?_
  refine lv_iload_n hx hb dX5_layAdjoint_9 rfl (lv_at hl 0 rfl) ?_
  refine lv_iconst (v := 3) hx hb dX5_layAdjoint_10 (by decide) ?_
  refine lv_icmp_ge (tgt := 106) hx hb dX5_layAdjoint_11 (by decide) (fun h => absurd h (by decide)) (fun _ => ?_)
  refine lv_iload_n hx hb dX5_layAdjoint_14 rfl (lv_at hl 5 rfl) ?_
  refine lv_iconst (v := 1) hx hb dX5_layAdjoint_15 (by decide) ?_
  refine lv_iadd hx hb dX5_layAdjoint_16 ?_
  refine lv_eqi (v := 2) (by decide) ?_
  refine lv_iconst (v := 3) hx hb dX5_layAdjoint_17 (by decide) ?_
  refine lv_irem hx hb dX5_layAdjoint_18 (by decide) ?_
  refine lv_eqi (v := 2) (by decide) ?_
  refine lv_istore_n (lv' := [(3, .int 2), (2, .int 1), (6, .int 2), (5, .int 1), (4, .int 0), (1, .int 1), (0, .ref o)]) hx hb dX5_layAdjoint_19 rfl hl (by decide) rfl (fun ls hl => ?_)
  refine lv_iload_n hx hb dX5_layAdjoint_20 rfl (lv_at hl 5 rfl) ?_
  refine lv_iconst (v := 2) hx hb dX5_layAdjoint_21 (by decide) ?_
  refine lv_iadd hx hb dX5_layAdjoint_22 ?_
  refine lv_eqi (v := 3) (by decide) ?_
  refine lv_iconst (v := 3) hx hb dX5_layAdjoint_23 (by decide) ?_
  refine lv_irem hx hb dX5_layAdjoint_24 (by decide) ?_
  refine lv_eqi (v := 0) (by decide) ?_
  refine lv_istore (lv' := [(4, .int 0), (3, .int 2), (2, .int 1), (6, .int 2), (5, .int 1), (1, .int 1), (0, .ref o)]) hx hb dX5_layAdjoint_25 hl (by decide) rfl (fun ls hl => ?_)
  refine lv_iload_n hx hb dX5_layAdjoint_27 rfl (lv_at hl 2 rfl) ?_
  refine lv_iconst (v := 1) hx hb dX5_layAdjoint_28 (by decide) ?_
  refine lv_iadd hx hb dX5_layAdjoint_29 ?_
  refine lv_eqi (v := 2) (by decide) ?_
  refine lv_iconst (v := 3) hx hb dX5_layAdjoint_30 (by decide) ?_
  refine lv_irem hx hb dX5_layAdjoint_31 (by decide) ?_
  refine lv_eqi (v := 2) (by decide) ?_
  refine lv_istore (lv' := [(5, .int 2), (4, .int 0), (3, .int 2), (2, .int 1), (6, .int 2), (1, .int 1), (0, .ref o)]) hx hb dX5_layAdjoint_32 hl (by decide) rfl (fun ls hl => ?_)
  refine lv_iload_n hx hb dX5_layAdjoint_34 rfl (lv_at hl 3 rfl) ?_
  refine lv_iconst (v := 2) hx hb dX5_layAdjoint_35 (by decide) ?_
  refine lv_iadd hx hb dX5_layAdjoint_36 ?_
  refine lv_eqi (v := 3) (by decide) ?_
  refine lv_iconst (v := 3) hx hb dX5_layAdjoint_37 (by decide) ?_
  refine lv_irem hx hb dX5_layAdjoint_38 (by decide) ?_
  refine lv_eqi (v := 0) (by decide) ?_
  refine lv_istore (lv' := [(6, .int 0), (5, .int 2), (4, .int 0), (3, .int 2), (2, .int 1), (1, .int 1), (0, .ref o)]) hx hb dX5_layAdjoint_39 hl (by decide) rfl (fun ls hl => ?_)
  refine lv_aload_n hx hb dX5_layAdjoint_41 rfl (lv_at hl 6 rfl) ?_
  refine va_get (D := D) (ci := 5) (v := .ref mA) (C := RX5) (T := TX5) (N := 17) hx hb hts k_2 hown hK.1 hP 0 rfl rfl 9 (by decide) k_1 (fun _ h9 => h9) rfl dX5_layAdjoint_42 ?_
  refine lv_iconst (v := 3) hx hb dX5_layAdjoint_45 (by decide) ?_
  refine lv_iload_n hx hb dX5_layAdjoint_46 rfl (lv_at hl 4 rfl) ?_
  refine lv_imul hx hb dX5_layAdjoint_47 ?_
  refine lv_eqi (v := 3) (by decide) ?_
  refine lv_iload_n hx hb dX5_layAdjoint_48 rfl (lv_at hl 5 rfl) ?_
  refine lv_iadd hx hb dX5_layAdjoint_49 ?_
  refine lv_eqi (v := 4) (by decide) ?_
  refine lv_aload_n hx hb dX5_layAdjoint_50 rfl (lv_at hl 6 rfl) ?_
  refine va_get (D := D) (ci := 5) (v := .ref mX) (C := RX5) (T := TX5) (N := 17) hx hb hts k_2 hown hK.1 hP 0 rfl rfl 8 (by decide) k_3 (fun _ h9 => h9) rfl dX5_layAdjoint_51 ?_
  refine lv_iconst (v := 3) hx hb dX5_layAdjoint_54 (by decide) ?_
  refine lv_iload_n hx hb dX5_layAdjoint_55 rfl (lv_at hl 3 rfl) ?_
  refine lv_imul hx hb dX5_layAdjoint_56 ?_
  refine lv_eqi (v := 6) (by decide) ?_
  refine lv_iload hx hb dX5_layAdjoint_57 (lv_at hl 1 rfl) ?_
  refine lv_iadd hx hb dX5_layAdjoint_59 ?_
  refine lv_eqi (v := 8) (by decide) ?_
  refine ld_l hx hb hK.1 hP 1 1 rfl rfl (ix_lit (by decide)) 8 (by decide) (v := fx 8) rfl dX5_layAdjoint_60 ?_
  refine lv_aload_n hx hb dX5_layAdjoint_61 rfl (lv_at hl 6 rfl) ?_
  refine va_get (D := D) (ci := 5) (v := .ref mX) (C := RX5) (T := TX5) (N := 17) hx hb hts k_2 hown hK.1 hP 0 rfl rfl 8 (by decide) k_3 (fun _ h9 => h9) rfl dX5_layAdjoint_62 ?_
  refine lv_iconst (v := 3) hx hb dX5_layAdjoint_65 (by decide) ?_
  refine lv_iload hx hb dX5_layAdjoint_66 (lv_at hl 2 rfl) ?_
  refine lv_imul hx hb dX5_layAdjoint_68 ?_
  refine lv_eqi (v := 0) (by decide) ?_
  refine lv_iload hx hb dX5_layAdjoint_69 (lv_at hl 0 rfl) ?_
  refine lv_iadd hx hb dX5_layAdjoint_71 ?_
  refine lv_eqi (v := 0) (by decide) ?_
  refine ld_l hx hb hK.1 hP 1 1 rfl rfl (ix_lit (by decide)) 0 (by decide) (v := fx 0) rfl dX5_layAdjoint_72 ?_
  refine lv_lmul hx hb dX5_layAdjoint_73 ?_
  refine lv_aload_n hx hb dX5_layAdjoint_74 rfl (lv_at hl 6 rfl) ?_
  refine va_get (D := D) (ci := 5) (v := .ref mX) (C := RX5) (T := TX5) (N := 17) hx hb hts k_2 hown hK.1 hP 0 rfl rfl 8 (by decide) k_3 (fun _ h9 => h9) rfl dX5_layAdjoint_75 ?_
  refine lv_iconst (v := 3) hx hb dX5_layAdjoint_78 (by decide) ?_
  refine lv_iload_n hx hb dX5_layAdjoint_79 rfl (lv_at hl 3 rfl) ?_
  refine lv_imul hx hb dX5_layAdjoint_80 ?_
  refine lv_eqi (v := 6) (by decide) ?_
  refine lv_iload hx hb dX5_layAdjoint_81 (lv_at hl 0 rfl) ?_
  refine lv_iadd hx hb dX5_layAdjoint_83 ?_
  refine lv_eqi (v := 6) (by decide) ?_
  refine ld_l hx hb hK.1 hP 1 1 rfl rfl (ix_lit (by decide)) 6 (by decide) (v := fx 6) rfl dX5_layAdjoint_84 ?_
  refine lv_aload_n hx hb dX5_layAdjoint_85 rfl (lv_at hl 6 rfl) ?_
  refine va_get (D := D) (ci := 5) (v := .ref mX) (C := RX5) (T := TX5) (N := 17) hx hb hts k_2 hown hK.1 hP 0 rfl rfl 8 (by decide) k_3 (fun _ h9 => h9) rfl dX5_layAdjoint_86 ?_
  refine lv_iconst (v := 3) hx hb dX5_layAdjoint_89 (by decide) ?_
  refine lv_iload hx hb dX5_layAdjoint_90 (lv_at hl 2 rfl) ?_
  refine lv_imul hx hb dX5_layAdjoint_92 ?_
  refine lv_eqi (v := 0) (by decide) ?_
  refine lv_iload hx hb dX5_layAdjoint_93 (lv_at hl 1 rfl) ?_
  refine lv_iadd hx hb dX5_layAdjoint_95 ?_
  refine lv_eqi (v := 2) (by decide) ?_
  refine ld_l hx hb hK.1 hP 1 1 rfl rfl (ix_lit (by decide)) 2 (by decide) (v := fx 2) rfl dX5_layAdjoint_96 ?_
  refine lv_lmul hx hb dX5_layAdjoint_97 ?_
  refine lv_lsub hx hb dX5_layAdjoint_98 ?_
  refine st_l hx hb hK.1 hP hD hS 2 1 rfl rfl (ix_lit (by decide)) 4 (by decide) dX5_layAdjoint_99 (fun H locs hP hD hS => ?_)
  have hP : va_P D vwCl [kM o mP mL mC mN mF mR mD mV mX mA mK cm mT pm mU mH mI, kJ mX cJ 9 fx, kJ mA cJ 9 (vp_updL (vp_updL (vp_updL (vp_updL (vp_updL fa 0 (((fx 4) * (fx 8)) - ((fx 5) * (fx 7)))) 3 (((fx 5) * (fx 6)) - ((fx 3) * (fx 8)))) 6 (((fx 3) * (fx 7)) - ((fx 4) * (fx 6)))) 1 (((fx 7) * (fx 2)) - ((fx 8) * (fx 1)))) 4 (((fx 8) * (fx 0)) - ((fx 6) * (fx 2))))] H := hP
  have hD : va_D A [kM o mP mL mC mN mF mR mD mV mX mA mK cm mT pm mU mH mI, kJ mX cJ 9 fx, kJ mA cJ 9 (vp_updL (vp_updL (vp_updL (vp_updL (vp_updL fa 0 (((fx 4) * (fx 8)) - ((fx 5) * (fx 7)))) 3 (((fx 5) * (fx 6)) - ((fx 3) * (fx 8)))) 6 (((fx 3) * (fx 7)) - ((fx 4) * (fx 6)))) 1 (((fx 7) * (fx 2)) - ((fx 8) * (fx 1)))) 4 (((fx 8) * (fx 0)) - ((fx 6) * (fx 2))))] := hD
  refine lv_iinc (v := 2) (lv' := [(2, .int 2), (6, .int 0), (5, .int 2), (4, .int 0), (3, .int 2), (1, .int 1), (0, .ref o)]) hx hb dX5_layAdjoint_100 hl (k := 4) rfl (by decide) (by decide) rfl (fun ls hl => ?_)
  refine lv_goto (tgt := 9) hx hb dX5_layAdjoint_103 (by decide) ?_
  refine lv_iload_n hx hb dX5_layAdjoint_9 rfl (lv_at hl 0 rfl) ?_
  refine lv_iconst (v := 3) hx hb dX5_layAdjoint_10 (by decide) ?_
  refine lv_icmp_ge (tgt := 106) hx hb dX5_layAdjoint_11 (by decide) (fun h => absurd h (by decide)) (fun _ => ?_)
  refine lv_iload_n hx hb dX5_layAdjoint_14 rfl (lv_at hl 5 rfl) ?_
  refine lv_iconst (v := 1) hx hb dX5_layAdjoint_15 (by decide) ?_
  refine lv_iadd hx hb dX5_layAdjoint_16 ?_
  refine lv_eqi (v := 2) (by decide) ?_
  refine lv_iconst (v := 3) hx hb dX5_layAdjoint_17 (by decide) ?_
  refine lv_irem hx hb dX5_layAdjoint_18 (by decide) ?_
  refine lv_eqi (v := 2) (by decide) ?_
  refine lv_istore_n (lv' := [(3, .int 2), (2, .int 2), (6, .int 0), (5, .int 2), (4, .int 0), (1, .int 1), (0, .ref o)]) hx hb dX5_layAdjoint_19 rfl hl (by decide) rfl (fun ls hl => ?_)
  refine lv_iload_n hx hb dX5_layAdjoint_20 rfl (lv_at hl 5 rfl) ?_
  refine lv_iconst (v := 2) hx hb dX5_layAdjoint_21 (by decide) ?_
  refine lv_iadd hx hb dX5_layAdjoint_22 ?_
  refine lv_eqi (v := 3) (by decide) ?_
  refine lv_iconst (v := 3) hx hb dX5_layAdjoint_23 (by decide) ?_
  refine lv_irem hx hb dX5_layAdjoint_24 (by decide) ?_
  refine lv_eqi (v := 0) (by decide) ?_
  refine lv_istore (lv' := [(4, .int 0), (3, .int 2), (2, .int 2), (6, .int 0), (5, .int 2), (1, .int 1), (0, .ref o)]) hx hb dX5_layAdjoint_25 hl (by decide) rfl (fun ls hl => ?_)
  refine lv_iload_n hx hb dX5_layAdjoint_27 rfl (lv_at hl 2 rfl) ?_
  refine lv_iconst (v := 1) hx hb dX5_layAdjoint_28 (by decide) ?_
  refine lv_iadd hx hb dX5_layAdjoint_29 ?_
  refine lv_eqi (v := 3) (by decide) ?_
  refine lv_iconst (v := 3) hx hb dX5_layAdjoint_30 (by decide) ?_
  refine lv_irem hx hb dX5_layAdjoint_31 (by decide) ?_
  refine lv_eqi (v := 0) (by decide) ?_
  refine lv_istore (lv' := [(5, .int 0), (4, .int 0), (3, .int 2), (2, .int 2), (6, .int 0), (1, .int 1), (0, .ref o)]) hx hb dX5_layAdjoint_32 hl (by decide) rfl (fun ls hl => ?_)
  refine lv_iload_n hx hb dX5_layAdjoint_34 rfl (lv_at hl 3 rfl) ?_
  refine lv_iconst (v := 2) hx hb dX5_layAdjoint_35 (by decide) ?_
  refine lv_iadd hx hb dX5_layAdjoint_36 ?_
  refine lv_eqi (v := 4) (by decide) ?_
  refine lv_iconst (v := 3) hx hb dX5_layAdjoint_37 (by decide) ?_
  refine lv_irem hx hb dX5_layAdjoint_38 (by decide) ?_
  refine lv_eqi (v := 1) (by decide) ?_
  refine lv_istore (lv' := [(6, .int 1), (5, .int 0), (4, .int 0), (3, .int 2), (2, .int 2), (1, .int 1), (0, .ref o)]) hx hb dX5_layAdjoint_39 hl (by decide) rfl (fun ls hl => ?_)
  refine lv_aload_n hx hb dX5_layAdjoint_41 rfl (lv_at hl 6 rfl) ?_
  refine va_get (D := D) (ci := 5) (v := .ref mA) (C := RX5) (T := TX5) (N := 17) hx hb hts k_2 hown hK.1 hP 0 rfl rfl 9 (by decide) k_1 (fun _ h9 => h9) rfl dX5_layAdjoint_42 ?_
  refine lv_iconst (v := 3) hx hb dX5_layAdjoint_45 (by decide) ?_
  refine lv_iload_n hx hb dX5_layAdjoint_46 rfl (lv_at hl 4 rfl) ?_
  refine lv_imul hx hb dX5_layAdjoint_47 ?_
  refine lv_eqi (v := 6) (by decide) ?_
  refine lv_iload_n hx hb dX5_layAdjoint_48 rfl (lv_at hl 5 rfl) ?_
  refine lv_iadd hx hb dX5_layAdjoint_49 ?_
  refine lv_eqi (v := 7) (by decide) ?_
  refine lv_aload_n hx hb dX5_layAdjoint_50 rfl (lv_at hl 6 rfl) ?_
  refine va_get (D := D) (ci := 5) (v := .ref mX) (C := RX5) (T := TX5) (N := 17) hx hb hts k_2 hown hK.1 hP 0 rfl rfl 8 (by decide) k_3 (fun _ h9 => h9) rfl dX5_layAdjoint_51 ?_
  refine lv_iconst (v := 3) hx hb dX5_layAdjoint_54 (by decide) ?_
  refine lv_iload_n hx hb dX5_layAdjoint_55 rfl (lv_at hl 3 rfl) ?_
  refine lv_imul hx hb dX5_layAdjoint_56 ?_
  refine lv_eqi (v := 6) (by decide) ?_
  refine lv_iload hx hb dX5_layAdjoint_57 (lv_at hl 1 rfl) ?_
  refine lv_iadd hx hb dX5_layAdjoint_59 ?_
  refine lv_eqi (v := 6) (by decide) ?_
  refine ld_l hx hb hK.1 hP 1 1 rfl rfl (ix_lit (by decide)) 6 (by decide) (v := fx 6) rfl dX5_layAdjoint_60 ?_
  refine lv_aload_n hx hb dX5_layAdjoint_61 rfl (lv_at hl 6 rfl) ?_
  refine va_get (D := D) (ci := 5) (v := .ref mX) (C := RX5) (T := TX5) (N := 17) hx hb hts k_2 hown hK.1 hP 0 rfl rfl 8 (by decide) k_3 (fun _ h9 => h9) rfl dX5_layAdjoint_62 ?_
  refine lv_iconst (v := 3) hx hb dX5_layAdjoint_65 (by decide) ?_
  refine lv_iload hx hb dX5_layAdjoint_66 (lv_at hl 2 rfl) ?_
  refine lv_imul hx hb dX5_layAdjoint_68 ?_
  refine lv_eqi (v := 0) (by decide) ?_
  refine lv_iload hx hb dX5_layAdjoint_69 (lv_at hl 0 rfl) ?_
  refine lv_iadd hx hb dX5_layAdjoint_71 ?_
  refine lv_eqi (v := 1) (by decide) ?_
  refine ld_l hx hb hK.1 hP 1 1 rfl rfl (ix_lit (by decide)) 1 (by decide) (v := fx 1) rfl dX5_layAdjoint_72 ?_
  refine lv_lmul hx hb dX5_layAdjoint_73 ?_
  refine lv_aload_n hx hb dX5_layAdjoint_74 rfl (lv_at hl 6 rfl) ?_
  refine va_get (D := D) (ci := 5) (v := .ref mX) (C := RX5) (T := TX5) (N := 17) hx hb hts k_2 hown hK.1 hP 0 rfl rfl 8 (by decide) k_3 (fun _ h9 => h9) rfl dX5_layAdjoint_75 ?_
  refine lv_iconst (v := 3) hx hb dX5_layAdjoint_78 (by decide) ?_
  refine lv_iload_n hx hb dX5_layAdjoint_79 rfl (lv_at hl 3 rfl) ?_
  refine lv_imul hx hb dX5_layAdjoint_80 ?_
  refine lv_eqi (v := 6) (by decide) ?_
  refine lv_iload hx hb dX5_layAdjoint_81 (lv_at hl 0 rfl) ?_
  refine lv_iadd hx hb dX5_layAdjoint_83 ?_
  refine lv_eqi (v := 7) (by decide) ?_
  refine ld_l hx hb hK.1 hP 1 1 rfl rfl (ix_lit (by decide)) 7 (by decide) (v := fx 7) rfl dX5_layAdjoint_84 ?_
  refine lv_aload_n hx hb dX5_layAdjoint_85 rfl (lv_at hl 6 rfl) ?_
  refine va_get (D := D) (ci := 5) (v := .ref mX) (C := RX5) (T := TX5) (N := 17) hx hb hts k_2 hown hK.1 hP 0 rfl rfl 8 (by decide) k_3 (fun _ h9 => h9) rfl dX5_layAdjoint_86 ?_
  refine lv_iconst (v := 3) hx hb dX5_layAdjoint_89 (by decide) ?_
  refine lv_iload hx hb dX5_layAdjoint_90 (lv_at hl 2 rfl) ?_
  refine lv_imul hx hb dX5_layAdjoint_92 ?_
  refine lv_eqi (v := 0) (by decide) ?_
  refine lv_iload hx hb dX5_layAdjoint_93 (lv_at hl 1 rfl) ?_
  refine lv_iadd hx hb dX5_layAdjoint_95 ?_
  refine lv_eqi (v := 0) (by decide) ?_
  refine ld_l hx hb hK.1 hP 1 1 rfl rfl (ix_lit (by decide)) 0 (by decide) (v := fx 0) rfl dX5_layAdjoint_96 ?_
  refine lv_lmul hx hb dX5_layAdjoint_97 ?_
  refine lv_lsub hx hb dX5_layAdjoint_98 ?_
  refine st_l hx hb hK.1 hP hD hS 2 1 rfl rfl (ix_lit (by decide)) 7 (by decide) dX5_layAdjoint_99 (fun H locs hP hD hS => ?_)
  have hP : va_P D vwCl [kM o mP mL mC mN mF mR mD mV mX mA mK cm mT pm mU mH mI, kJ mX cJ 9 fx, kJ mA cJ 9 (vp_updL (vp_updL (vp_updL (vp_updL (vp_updL (vp_updL fa 0 (((fx 4) * (fx 8)) - ((fx 5) * (fx 7)))) 3 (((fx 5) * (fx 6)) - ((fx 3) * (fx 8)))) 6 (((fx 3) * (fx 7)) - ((fx 4) * (fx 6)))) 1 (((fx 7) * (fx 2)) - ((fx 8) * (fx 1)))) 4 (((fx 8) * (fx 0)) - ((fx 6) * (fx 2)))) 7 (((fx 6) * (fx 1)) - ((fx 7) * (fx 0))))] H := hP
  have hD : va_D A [kM o mP mL mC mN mF mR mD mV mX mA mK cm mT pm mU mH mI, kJ mX cJ 9 fx, kJ mA cJ 9 (vp_updL (vp_updL (vp_updL (vp_updL (vp_updL (vp_updL fa 0 (((fx 4) * (fx 8)) - ((fx 5) * (fx 7)))) 3 (((fx 5) * (fx 6)) - ((fx 3) * (fx 8)))) 6 (((fx 3) * (fx 7)) - ((fx 4) * (fx 6)))) 1 (((fx 7) * (fx 2)) - ((fx 8) * (fx 1)))) 4 (((fx 8) * (fx 0)) - ((fx 6) * (fx 2)))) 7 (((fx 6) * (fx 1)) - ((fx 7) * (fx 0))))] := hD
  refine lv_iinc (v := 3) (lv' := [(2, .int 3), (6, .int 1), (5, .int 0), (4, .int 0), (3, .int 2), (1, .int 1), (0, .ref o)]) hx hb dX5_layAdjoint_100 hl (k := 4) rfl (by decide) (by decide) rfl (fun ls hl => ?_)
  refine lv_goto (tgt := 9) hx hb dX5_layAdjoint_103 (by decide) ?_
  refine lv_iload_n hx hb dX5_layAdjoint_9 rfl (lv_at hl 0 rfl) ?_
  refine lv_iconst (v := 3) hx hb dX5_layAdjoint_10 (by decide) ?_
  refine lv_icmp_ge (tgt := 106) hx hb dX5_layAdjoint_11 (by decide) (fun _ => ?_) (fun h => absurd (by decide) h)
  refine lv_iinc (v := 2) (lv' := [(1, .int 2), (2, .int 3), (6, .int 1), (5, .int 0), (4, .int 0), (3, .int 2), (0, .ref o)]) hx hb dX5_layAdjoint_106 hl (k := 5) rfl (by decide) (by decide) rfl (fun ls hl => ?_)
  refine lv_goto (tgt := 2) hx hb dX5_layAdjoint_109 (by decide) ?_
  refine lv_iload_n hx hb dX5_layAdjoint_2 rfl (lv_at hl 0 rfl) ?_
  refine lv_iconst (v := 3) hx hb dX5_layAdjoint_3 (by decide) ?_
  refine lv_icmp_ge (tgt := 112) hx hb dX5_layAdjoint_4 (by decide) (fun h => absurd h (by decide)) (fun _ => ?_)
  refine lv_iconst (v := 0) hx hb dX5_layAdjoint_7 (by decide) ?_
  refine lv_istore_n (lv' := [(2, .int 0), (1, .int 2), (6, .int 1), (5, .int 0), (4, .int 0), (3, .int 2), (0, .ref o)]) hx hb dX5_layAdjoint_8 rfl hl (by decide) rfl (fun ls hl => ?_)
  refine lv_iload_n hx hb dX5_layAdjoint_9 rfl (lv_at hl 0 rfl) ?_
  refine lv_iconst (v := 3) hx hb dX5_layAdjoint_10 (by decide) ?_
  refine lv_icmp_ge (tgt := 106) hx hb dX5_layAdjoint_11 (by decide) (fun h => absurd h (by decide)) (fun _ => ?_)
  refine lv_iload_n hx hb dX5_layAdjoint_14 rfl (lv_at hl 1 rfl) ?_
  refine lv_iconst (v := 1) hx hb dX5_layAdjoint_15 (by decide) ?_
  refine lv_iadd hx hb dX5_layAdjoint_16 ?_
  refine lv_eqi (v := 3) (by decide) ?_
  refine lv_iconst (v := 3) hx hb dX5_layAdjoint_17 (by decide) ?_
  refine lv_irem hx hb dX5_layAdjoint_18 (by decide) ?_
  refine lv_eqi (v := 0) (by decide) ?_
  refine lv_istore_n (lv' := [(3, .int 0), (2, .int 0), (1, .int 2), (6, .int 1), (5, .int 0), (4, .int 0), (0, .ref o)]) hx hb dX5_layAdjoint_19 rfl hl (by decide) rfl (fun ls hl => ?_)
  refine lv_iload_n hx hb dX5_layAdjoint_20 rfl (lv_at hl 2 rfl) ?_
  refine lv_iconst (v := 2) hx hb dX5_layAdjoint_21 (by decide) ?_
  refine lv_iadd hx hb dX5_layAdjoint_22 ?_
  refine lv_eqi (v := 4) (by decide) ?_
  refine lv_iconst (v := 3) hx hb dX5_layAdjoint_23 (by decide) ?_
  refine lv_irem hx hb dX5_layAdjoint_24 (by decide) ?_
  refine lv_eqi (v := 1) (by decide) ?_
  refine lv_istore (lv' := [(4, .int 1), (3, .int 0), (2, .int 0), (1, .int 2), (6, .int 1), (5, .int 0), (0, .ref o)]) hx hb dX5_layAdjoint_25 hl (by decide) rfl (fun ls hl => ?_)
  refine lv_iload_n hx hb dX5_layAdjoint_27 rfl (lv_at hl 2 rfl) ?_
  refine lv_iconst (v := 1) hx hb dX5_layAdjoint_28 (by decide) ?_
  refine lv_iadd hx hb dX5_layAdjoint_29 ?_
  refine lv_eqi (v := 1) (by decide) ?_
  refine lv_iconst (v := 3) hx hb dX5_layAdjoint_30 (by decide) ?_
  refine lv_irem hx hb dX5_layAdjoint_31 (by decide) ?_
  refine lv_eqi (v := 1) (by decide) ?_
  refine lv_istore (lv' := [(5, .int 1), (4, .int 1), (3, .int 0), (2, .int 0), (1, .int 2), (6, .int 1), (0, .ref o)]) hx hb dX5_layAdjoint_32 hl (by decide) rfl (fun ls hl => ?_)
  refine lv_iload_n hx hb dX5_layAdjoint_34 rfl (lv_at hl 3 rfl) ?_
  refine lv_iconst (v := 2) hx hb dX5_layAdjoint_35 (by decide) ?_
  refine lv_iadd hx hb dX5_layAdjoint_36 ?_
  refine lv_eqi (v := 2) (by decide) ?_
  refine lv_iconst (v := 3) hx hb dX5_layAdjoint_37 (by decide) ?_
  refine lv_irem hx hb dX5_layAdjoint_38 (by decide) ?_
  refine lv_eqi (v := 2) (by decide) ?_
  refine lv_istore (lv' := [(6, .int 2), (5, .int 1), (4, .int 1), (3, .int 0), (2, .int 0), (1, .int 2), (0, .ref o)]) hx hb dX5_layAdjoint_39 hl (by decide) rfl (fun ls hl => ?_)
  refine lv_aload_n hx hb dX5_layAdjoint_41 rfl (lv_at hl 6 rfl) ?_
  refine va_get (D := D) (ci := 5) (v := .ref mA) (C := RX5) (T := TX5) (N := 17) hx hb hts k_2 hown hK.1 hP 0 rfl rfl 9 (by decide) k_1 (fun _ h9 => h9) rfl dX5_layAdjoint_42 ?_
  refine lv_iconst (v := 3) hx hb dX5_layAdjoint_45 (by decide) ?_
  refine lv_iload_n hx hb dX5_layAdjoint_46 rfl (lv_at hl 4 rfl) ?_
  refine lv_imul hx hb dX5_layAdjoint_47 ?_
  refine lv_eqi (v := 0) (by decide) ?_
  refine lv_iload_n hx hb dX5_layAdjoint_48 rfl (lv_at hl 5 rfl) ?_
  refine lv_iadd hx hb dX5_layAdjoint_49 ?_
  refine lv_eqi (v := 2) (by decide) ?_
  refine lv_aload_n hx hb dX5_layAdjoint_50 rfl (lv_at hl 6 rfl) ?_
  refine va_get (D := D) (ci := 5) (v := .ref mX) (C := RX5) (T := TX5) (N := 17) hx hb hts k_2 hown hK.1 hP 0 rfl rfl 8 (by decide) k_3 (fun _ h9 => h9) rfl dX5_layAdjoint_51 ?_
  refine lv_iconst (v := 3) hx hb dX5_layAdjoint_54 (by decide) ?_
  refine lv_iload_n hx hb dX5_layAdjoint_55 rfl (lv_at hl 3 rfl) ?_
  refine lv_imul hx hb dX5_layAdjoint_56 ?_
  refine lv_eqi (v := 0) (by decide) ?_
  refine lv_iload hx hb dX5_layAdjoint_57 (lv_at hl 1 rfl) ?_
  refine lv_iadd hx hb dX5_layAdjoint_59 ?_
  refine lv_eqi (v := 1) (by decide) ?_
  refine ld_l hx hb hK.1 hP 1 1 rfl rfl (ix_lit (by decide)) 1 (by decide) (v := fx 1) rfl dX5_layAdjoint_60 ?_
  refine lv_aload_n hx hb dX5_layAdjoint_61 rfl (lv_at hl 6 rfl) ?_
  refine va_get (D := D) (ci := 5) (v := .ref mX) (C := RX5) (T := TX5) (N := 17) hx hb hts k_2 hown hK.1 hP 0 rfl rfl 8 (by decide) k_3 (fun _ h9 => h9) rfl dX5_layAdjoint_62 ?_
  refine lv_iconst (v := 3) hx hb dX5_layAdjoint_65 (by decide) ?_
  refine lv_iload hx hb dX5_layAdjoint_66 (lv_at hl 2 rfl) ?_
  refine lv_imul hx hb dX5_layAdjoint_68 ?_
  refine lv_eqi (v := 3) (by decide) ?_
  refine lv_iload hx hb dX5_layAdjoint_69 (lv_at hl 0 rfl) ?_
  refine lv_iadd hx hb dX5_layAdjoint_71 ?_
  refine lv_eqi (v := 5) (by decide) ?_
  refine ld_l hx hb hK.1 hP 1 1 rfl rfl (ix_lit (by decide)) 5 (by decide) (v := fx 5) rfl dX5_layAdjoint_72 ?_
  refine lv_lmul hx hb dX5_layAdjoint_73 ?_
  refine lv_aload_n hx hb dX5_layAdjoint_74 rfl (lv_at hl 6 rfl) ?_
  refine va_get (D := D) (ci := 5) (v := .ref mX) (C := RX5) (T := TX5) (N := 17) hx hb hts k_2 hown hK.1 hP 0 rfl rfl 8 (by decide) k_3 (fun _ h9 => h9) rfl dX5_layAdjoint_75 ?_
  refine lv_iconst (v := 3) hx hb dX5_layAdjoint_78 (by decide) ?_
  refine lv_iload_n hx hb dX5_layAdjoint_79 rfl (lv_at hl 3 rfl) ?_
  refine lv_imul hx hb dX5_layAdjoint_80 ?_
  refine lv_eqi (v := 0) (by decide) ?_
  refine lv_iload hx hb dX5_layAdjoint_81 (lv_at hl 0 rfl) ?_
  refine lv_iadd hx hb dX5_layAdjoint_83 ?_
  refine lv_eqi (v := 2) (by decide) ?_
  refine ld_l hx hb hK.1 hP 1 1 rfl rfl (ix_lit (by decide)) 2 (by decide) (v := fx 2) rfl dX5_layAdjoint_84 ?_
  refine lv_aload_n hx hb dX5_layAdjoint_85 rfl (lv_at hl 6 rfl) ?_
  refine va_get (D := D) (ci := 5) (v := .ref mX) (C := RX5) (T := TX5) (N := 17) hx hb hts k_2 hown hK.1 hP 0 rfl rfl 8 (by decide) k_3 (fun _ h9 => h9) rfl dX5_layAdjoint_86 ?_
  refine lv_iconst (v := 3) hx hb dX5_layAdjoint_89 (by decide) ?_
  refine lv_iload hx hb dX5_layAdjoint_90 (lv_at hl 2 rfl) ?_
  refine lv_imul hx hb dX5_layAdjoint_92 ?_
  refine lv_eqi (v := 3) (by decide) ?_
  refine lv_iload hx hb dX5_layAdjoint_93 (lv_at hl 1 rfl) ?_
  refine lv_iadd hx hb dX5_layAdjoint_95 ?_
  refine lv_eqi (v := 4) (by decide) ?_
  refine ld_l hx hb hK.1 hP 1 1 rfl rfl (ix_lit (by decide)) 4 (by decide) (v := fx 4) rfl dX5_layAdjoint_96 ?_
  refine lv_lmul hx hb dX5_layAdjoint_97 ?_
  refine lv_lsub hx hb dX5_layAdjoint_98 ?_
  refine st_l hx hb hK.1 hP hD hS 2 1 rfl rfl (ix_lit (by decide)) 2 (by decide) dX5_layAdjoint_99 (fun H locs hP hD hS => ?_)
  have hP : va_P D vwCl [kM o mP mL mC mN mF mR mD mV mX mA mK cm mT pm mU mH mI, kJ mX cJ 9 fx, kJ mA cJ 9 (vp_updL (vp_updL (vp_updL (vp_updL (vp_updL (vp_updL (vp_updL fa 0 (((fx 4) * (fx 8)) - ((fx 5) * (fx 7)))) 3 (((fx 5) * (fx 6)) - ((fx 3) * (fx 8)))) 6 (((fx 3) * (fx 7)) - ((fx 4) * (fx 6)))) 1 (((fx 7) * (fx 2)) - ((fx 8) * (fx 1)))) 4 (((fx 8) * (fx 0)) - ((fx 6) * (fx 2)))) 7 (((fx 6) * (fx 1)) - ((fx 7) * (fx 0)))) 2 (((fx 1) * (fx 5)) - ((fx 2) * (fx 4))))] H := hP
  have hD : va_D A [kM o mP mL mC mN mF mR mD mV mX mA mK cm mT pm mU mH mI, kJ mX cJ 9 fx, kJ mA cJ 9 (vp_updL (vp_updL (vp_updL (vp_updL (vp_updL (vp_updL (vp_updL fa 0 (((fx 4) * (fx 8)) - ((fx 5) * (fx 7)))) 3 (((fx 5) * (fx 6)) - ((fx 3) * (fx 8)))) 6 (((fx 3) * (fx 7)) - ((fx 4) * (fx 6)))) 1 (((fx 7) * (fx 2)) - ((fx 8) * (fx 1)))) 4 (((fx 8) * (fx 0)) - ((fx 6) * (fx 2)))) 7 (((fx 6) * (fx 1)) - ((fx 7) * (fx 0)))) 2 (((fx 1) * (fx 5)) - ((fx 2) * (fx 4))))] := hD
  refine lv_iinc (v := 1) (lv' := [(2, .int 1), (6, .int 2), (5, .int 1), (4, .int 1), (3, .int 0), (1, .int 2), (0, .ref o)]) hx hb dX5_layAdjoint_100 hl (k := 4) rfl (by decide) (by decide) rfl (fun ls hl => ?_)
  refine lv_goto (tgt := 9) hx hb dX5_layAdjoint_103 (by decide) ?_
  refine lv_iload_n hx hb dX5_layAdjoint_9 rfl (lv_at hl 0 rfl) ?_
  refine lv_iconst (v := 3) hx hb dX5_layAdjoint_10 (by decide) ?_
  refine lv_icmp_ge (tgt := 106) hx hb dX5_layAdjoint_11 (by decide) (fun h => absurd h (by decide)) (fun _ => ?_)
  refine lv_iload_n hx hb dX5_layAdjoint_14 rfl (lv_at hl 5 rfl) ?_
  refine lv_iconst (v := 1) hx hb dX5_layAdjoint_15 (by decide) ?_
  refine lv_iadd hx hb dX5_layAdjoint_16 ?_
  refine lv_eqi (v := 3) (by decide) ?_
  refine lv_iconst (v := 3) hx hb dX5_layAdjoint_17 (by decide) ?_
  refine lv_irem hx hb dX5_layAdjoint_18 (by decide) ?_
  refine lv_eqi (v := 0) (by decide) ?_
  refine lv_istore_n (lv' := [(3, .int 0), (2, .int 1), (6, .int 2), (5, .int 1), (4, .int 1), (1, .int 2), (0, .ref o)]) hx hb dX5_layAdjoint_19 rfl hl (by decide) rfl (fun ls hl => ?_)
  refine lv_iload_n hx hb dX5_layAdjoint_20 rfl (lv_at hl 5 rfl) ?_
  refine lv_iconst (v := 2) hx hb dX5_layAdjoint_21 (by decide) ?_
  refine lv_iadd hx hb dX5_layAdjoint_22 ?_
  refine lv_eqi (v := 4) (by decide) ?_
  refine lv_iconst (v := 3) hx hb dX5_layAdjoint_23 (by decide) ?_
  refine lv_irem hx hb dX5_layAdjoint_24 (by decide) ?_
  refine lv_eqi (v := 1) (by decide) ?_
  refine lv_istore (lv' := [(4, .int 1), (3, .int 0), (2, .int 1), (6, .int 2), (5, .int 1), (1, .int 2), (0, .ref o)]) hx hb dX5_layAdjoint_25 hl (by decide) rfl (fun ls hl => ?_)
  refine lv_iload_n hx hb dX5_layAdjoint_27 rfl (lv_at hl 2 rfl) ?_
  refine lv_iconst (v := 1) hx hb dX5_layAdjoint_28 (by decide) ?_
  refine lv_iadd hx hb dX5_layAdjoint_29 ?_
  refine lv_eqi (v := 2) (by decide) ?_
  refine lv_iconst (v := 3) hx hb dX5_layAdjoint_30 (by decide) ?_
  refine lv_irem hx hb dX5_layAdjoint_31 (by decide) ?_
  refine lv_eqi (v := 2) (by decide) ?_
  refine lv_istore (lv' := [(5, .int 2), (4, .int 1), (3, .int 0), (2, .int 1), (6, .int 2), (1, .int 2), (0, .ref o)]) hx hb dX5_layAdjoint_32 hl (by decide) rfl (fun ls hl => ?_)
  refine lv_iload_n hx hb dX5_layAdjoint_34 rfl (lv_at hl 3 rfl) ?_
  refine lv_iconst (v := 2) hx hb dX5_layAdjoint_35 (by decide) ?_
  refine lv_iadd hx hb dX5_layAdjoint_36 ?_
  refine lv_eqi (v := 3) (by decide) ?_
  refine lv_iconst (v := 3) hx hb dX5_layAdjoint_37 (by decide) ?_
  refine lv_irem hx hb dX5_layAdjoint_38 (by decide) ?_
  refine lv_eqi (v := 0) (by decide) ?_
  refine lv_istore (lv' := [(6, .int 0), (5, .int 2), (4, .int 1), (3, .int 0), (2, .int 1), (1, .int 2), (0, .ref o)]) hx hb dX5_layAdjoint_39 hl (by decide) rfl (fun ls hl => ?_)
  refine lv_aload_n hx hb dX5_layAdjoint_41 rfl (lv_at hl 6 rfl) ?_
  refine va_get (D := D) (ci := 5) (v := .ref mA) (C := RX5) (T := TX5) (N := 17) hx hb hts k_2 hown hK.1 hP 0 rfl rfl 9 (by decide) k_1 (fun _ h9 => h9) rfl dX5_layAdjoint_42 ?_
  refine lv_iconst (v := 3) hx hb dX5_layAdjoint_45 (by decide) ?_
  refine lv_iload_n hx hb dX5_layAdjoint_46 rfl (lv_at hl 4 rfl) ?_
  refine lv_imul hx hb dX5_layAdjoint_47 ?_
  refine lv_eqi (v := 3) (by decide) ?_
  refine lv_iload_n hx hb dX5_layAdjoint_48 rfl (lv_at hl 5 rfl) ?_
  refine lv_iadd hx hb dX5_layAdjoint_49 ?_
  refine lv_eqi (v := 5) (by decide) ?_
  refine lv_aload_n hx hb dX5_layAdjoint_50 rfl (lv_at hl 6 rfl) ?_
  refine va_get (D := D) (ci := 5) (v := .ref mX) (C := RX5) (T := TX5) (N := 17) hx hb hts k_2 hown hK.1 hP 0 rfl rfl 8 (by decide) k_3 (fun _ h9 => h9) rfl dX5_layAdjoint_51 ?_
  refine lv_iconst (v := 3) hx hb dX5_layAdjoint_54 (by decide) ?_
  refine lv_iload_n hx hb dX5_layAdjoint_55 rfl (lv_at hl 3 rfl) ?_
  refine lv_imul hx hb dX5_layAdjoint_56 ?_
  refine lv_eqi (v := 0) (by decide) ?_
  refine lv_iload hx hb dX5_layAdjoint_57 (lv_at hl 1 rfl) ?_
  refine lv_iadd hx hb dX5_layAdjoint_59 ?_
  refine lv_eqi (v := 2) (by decide) ?_
  refine ld_l hx hb hK.1 hP 1 1 rfl rfl (ix_lit (by decide)) 2 (by decide) (v := fx 2) rfl dX5_layAdjoint_60 ?_
  refine lv_aload_n hx hb dX5_layAdjoint_61 rfl (lv_at hl 6 rfl) ?_
  refine va_get (D := D) (ci := 5) (v := .ref mX) (C := RX5) (T := TX5) (N := 17) hx hb hts k_2 hown hK.1 hP 0 rfl rfl 8 (by decide) k_3 (fun _ h9 => h9) rfl dX5_layAdjoint_62 ?_
  refine lv_iconst (v := 3) hx hb dX5_layAdjoint_65 (by decide) ?_
  refine lv_iload hx hb dX5_layAdjoint_66 (lv_at hl 2 rfl) ?_
  refine lv_imul hx hb dX5_layAdjoint_68 ?_
  refine lv_eqi (v := 3) (by decide) ?_
  refine lv_iload hx hb dX5_layAdjoint_69 (lv_at hl 0 rfl) ?_
  refine lv_iadd hx hb dX5_layAdjoint_71 ?_
  refine lv_eqi (v := 3) (by decide) ?_
  refine ld_l hx hb hK.1 hP 1 1 rfl rfl (ix_lit (by decide)) 3 (by decide) (v := fx 3) rfl dX5_layAdjoint_72 ?_
  refine lv_lmul hx hb dX5_layAdjoint_73 ?_
  refine lv_aload_n hx hb dX5_layAdjoint_74 rfl (lv_at hl 6 rfl) ?_
  refine va_get (D := D) (ci := 5) (v := .ref mX) (C := RX5) (T := TX5) (N := 17) hx hb hts k_2 hown hK.1 hP 0 rfl rfl 8 (by decide) k_3 (fun _ h9 => h9) rfl dX5_layAdjoint_75 ?_
  refine lv_iconst (v := 3) hx hb dX5_layAdjoint_78 (by decide) ?_
  refine lv_iload_n hx hb dX5_layAdjoint_79 rfl (lv_at hl 3 rfl) ?_
  refine lv_imul hx hb dX5_layAdjoint_80 ?_
  refine lv_eqi (v := 0) (by decide) ?_
  refine lv_iload hx hb dX5_layAdjoint_81 (lv_at hl 0 rfl) ?_
  refine lv_iadd hx hb dX5_layAdjoint_83 ?_
  refine lv_eqi (v := 0) (by decide) ?_
  refine ld_l hx hb hK.1 hP 1 1 rfl rfl (ix_lit (by decide)) 0 (by decide) (v := fx 0) rfl dX5_layAdjoint_84 ?_
  refine lv_aload_n hx hb dX5_layAdjoint_85 rfl (lv_at hl 6 rfl) ?_
  refine va_get (D := D) (ci := 5) (v := .ref mX) (C := RX5) (T := TX5) (N := 17) hx hb hts k_2 hown hK.1 hP 0 rfl rfl 8 (by decide) k_3 (fun _ h9 => h9) rfl dX5_layAdjoint_86 ?_
  refine lv_iconst (v := 3) hx hb dX5_layAdjoint_89 (by decide) ?_
  refine lv_iload hx hb dX5_layAdjoint_90 (lv_at hl 2 rfl) ?_
  refine lv_imul hx hb dX5_layAdjoint_92 ?_
  refine lv_eqi (v := 3) (by decide) ?_
  refine lv_iload hx hb dX5_layAdjoint_93 (lv_at hl 1 rfl) ?_
  refine lv_iadd hx hb dX5_layAdjoint_95 ?_
  refine lv_eqi (v := 5) (by decide) ?_
  refine ld_l hx hb hK.1 hP 1 1 rfl rfl (ix_lit (by decide)) 5 (by decide) (v := fx 5) rfl dX5_layAdjoint_96 ?_
  refine lv_lmul hx hb dX5_layAdjoint_97 ?_
  refine lv_lsub hx hb dX5_layAdjoint_98 ?_
  refine st_l hx hb hK.1 hP hD hS 2 1 rfl rfl (ix_lit (by decide)) 5 (by decide) dX5_layAdjoint_99 (fun H locs hP hD hS => ?_)
  have hP : va_P D vwCl [kM o mP mL mC mN mF mR mD mV mX mA mK cm mT pm mU mH mI, kJ mX cJ 9 fx, kJ mA cJ 9 (vp_updL (vp_updL (vp_updL (vp_updL (vp_updL (vp_updL (vp_updL (vp_updL fa 0 (((fx 4) * (fx 8)) - ((fx 5) * (fx 7)))) 3 (((fx 5) * (fx 6)) - ((fx 3) * (fx 8)))) 6 (((fx 3) * (fx 7)) - ((fx 4) * (fx 6)))) 1 (((fx 7) * (fx 2)) - ((fx 8) * (fx 1)))) 4 (((fx 8) * (fx 0)) - ((fx 6) * (fx 2)))) 7 (((fx 6) * (fx 1)) - ((fx 7) * (fx 0)))) 2 (((fx 1) * (fx 5)) - ((fx 2) * (fx 4)))) 5 (((fx 2) * (fx 3)) - ((fx 0) * (fx 5))))] H := hP
  have hD : va_D A [kM o mP mL mC mN mF mR mD mV mX mA mK cm mT pm mU mH mI, kJ mX cJ 9 fx, kJ mA cJ 9 (vp_updL (vp_updL (vp_updL (vp_updL (vp_updL (vp_updL (vp_updL (vp_updL fa 0 (((fx 4) * (fx 8)) - ((fx 5) * (fx 7)))) 3 (((fx 5) * (fx 6)) - ((fx 3) * (fx 8)))) 6 (((fx 3) * (fx 7)) - ((fx 4) * (fx 6)))) 1 (((fx 7) * (fx 2)) - ((fx 8) * (fx 1)))) 4 (((fx 8) * (fx 0)) - ((fx 6) * (fx 2)))) 7 (((fx 6) * (fx 1)) - ((fx 7) * (fx 0)))) 2 (((fx 1) * (fx 5)) - ((fx 2) * (fx 4)))) 5 (((fx 2) * (fx 3)) - ((fx 0) * (fx 5))))] := hD
  refine lv_iinc (v := 2) (lv' := [(2, .int 2), (6, .int 0), (5, .int 2), (4, .int 1), (3, .int 0), (1, .int 2), (0, .ref o)]) hx hb dX5_layAdjoint_100 hl (k := 4) rfl (by decide) (by decide) rfl (fun ls hl => ?_)
  refine lv_goto (tgt := 9) hx hb dX5_layAdjoint_103 (by decide) ?_
  refine lv_iload_n hx hb dX5_layAdjoint_9 rfl (lv_at hl 0 rfl) ?_
  refine lv_iconst (v := 3) hx hb dX5_layAdjoint_10 (by decide) ?_
  refine lv_icmp_ge (tgt := 106) hx hb dX5_layAdjoint_11 (by decide) (fun h => absurd h (by decide)) (fun _ => ?_)
  refine lv_iload_n hx hb dX5_layAdjoint_14 rfl (lv_at hl 5 rfl) ?_
  refine lv_iconst (v := 1) hx hb dX5_layAdjoint_15 (by decide) ?_
  refine lv_iadd hx hb dX5_layAdjoint_16 ?_
  refine lv_eqi (v := 3) (by decide) ?_
  refine lv_iconst (v := 3) hx hb dX5_layAdjoint_17 (by decide) ?_
  refine lv_irem hx hb dX5_layAdjoint_18 (by decide) ?_
  refine lv_eqi (v := 0) (by decide) ?_
  refine lv_istore_n (lv' := [(3, .int 0), (2, .int 2), (6, .int 0), (5, .int 2), (4, .int 1), (1, .int 2), (0, .ref o)]) hx hb dX5_layAdjoint_19 rfl hl (by decide) rfl (fun ls hl => ?_)
  refine lv_iload_n hx hb dX5_layAdjoint_20 rfl (lv_at hl 5 rfl) ?_
  refine lv_iconst (v := 2) hx hb dX5_layAdjoint_21 (by decide) ?_
  refine lv_iadd hx hb dX5_layAdjoint_22 ?_
  refine lv_eqi (v := 4) (by decide) ?_
  refine lv_iconst (v := 3) hx hb dX5_layAdjoint_23 (by decide) ?_
  refine lv_irem hx hb dX5_layAdjoint_24 (by decide) ?_
  refine lv_eqi (v := 1) (by decide) ?_
  refine lv_istore (lv' := [(4, .int 1), (3, .int 0), (2, .int 2), (6, .int 0), (5, .int 2), (1, .int 2), (0, .ref o)]) hx hb dX5_layAdjoint_25 hl (by decide) rfl (fun ls hl => ?_)
  refine lv_iload_n hx hb dX5_layAdjoint_27 rfl (lv_at hl 2 rfl) ?_
  refine lv_iconst (v := 1) hx hb dX5_layAdjoint_28 (by decide) ?_
  refine lv_iadd hx hb dX5_layAdjoint_29 ?_
  refine lv_eqi (v := 3) (by decide) ?_
  refine lv_iconst (v := 3) hx hb dX5_layAdjoint_30 (by decide) ?_
  refine lv_irem hx hb dX5_layAdjoint_31 (by decide) ?_
  refine lv_eqi (v := 0) (by decide) ?_
  refine lv_istore (lv' := [(5, .int 0), (4, .int 1), (3, .int 0), (2, .int 2), (6, .int 0), (1, .int 2), (0, .ref o)]) hx hb dX5_layAdjoint_32 hl (by decide) rfl (fun ls hl => ?_)
  refine lv_iload_n hx hb dX5_layAdjoint_34 rfl (lv_at hl 3 rfl) ?_
  refine lv_iconst (v := 2) hx hb dX5_layAdjoint_35 (by decide) ?_
  refine lv_iadd hx hb dX5_layAdjoint_36 ?_
  refine lv_eqi (v := 4) (by decide) ?_
  refine lv_iconst (v := 3) hx hb dX5_layAdjoint_37 (by decide) ?_
  refine lv_irem hx hb dX5_layAdjoint_38 (by decide) ?_
  refine lv_eqi (v := 1) (by decide) ?_
  refine lv_istore (lv' := [(6, .int 1), (5, .int 0), (4, .int 1), (3, .int 0), (2, .int 2), (1, .int 2), (0, .ref o)]) hx hb dX5_layAdjoint_39 hl (by decide) rfl (fun ls hl => ?_)
  refine lv_aload_n hx hb dX5_layAdjoint_41 rfl (lv_at hl 6 rfl) ?_
  refine va_get (D := D) (ci := 5) (v := .ref mA) (C := RX5) (T := TX5) (N := 17) hx hb hts k_2 hown hK.1 hP 0 rfl rfl 9 (by decide) k_1 (fun _ h9 => h9) rfl dX5_layAdjoint_42 ?_
  refine lv_iconst (v := 3) hx hb dX5_layAdjoint_45 (by decide) ?_
  refine lv_iload_n hx hb dX5_layAdjoint_46 rfl (lv_at hl 4 rfl) ?_
  refine lv_imul hx hb dX5_layAdjoint_47 ?_
  refine lv_eqi (v := 6) (by decide) ?_
  refine lv_iload_n hx hb dX5_layAdjoint_48 rfl (lv_at hl 5 rfl) ?_
  refine lv_iadd hx hb dX5_layAdjoint_49 ?_
  refine lv_eqi (v := 8) (by decide) ?_
  refine lv_aload_n hx hb dX5_layAdjoint_50 rfl (lv_at hl 6 rfl) ?_
  refine va_get (D := D) (ci := 5) (v := .ref mX) (C := RX5) (T := TX5) (N := 17) hx hb hts k_2 hown hK.1 hP 0 rfl rfl 8 (by decide) k_3 (fun _ h9 => h9) rfl dX5_layAdjoint_51 ?_
  refine lv_iconst (v := 3) hx hb dX5_layAdjoint_54 (by decide) ?_
  refine lv_iload_n hx hb dX5_layAdjoint_55 rfl (lv_at hl 3 rfl) ?_
  refine lv_imul hx hb dX5_layAdjoint_56 ?_
  refine lv_eqi (v := 0) (by decide) ?_
  refine lv_iload hx hb dX5_layAdjoint_57 (lv_at hl 1 rfl) ?_
  refine lv_iadd hx hb dX5_layAdjoint_59 ?_
  refine lv_eqi (v := 0) (by decide) ?_
  refine ld_l hx hb hK.1 hP 1 1 rfl rfl (ix_lit (by decide)) 0 (by decide) (v := fx 0) rfl dX5_layAdjoint_60 ?_
  refine lv_aload_n hx hb dX5_layAdjoint_61 rfl (lv_at hl 6 rfl) ?_
  refine va_get (D := D) (ci := 5) (v := .ref mX) (C := RX5) (T := TX5) (N := 17) hx hb hts k_2 hown hK.1 hP 0 rfl rfl 8 (by decide) k_3 (fun _ h9 => h9) rfl dX5_layAdjoint_62 ?_
  refine lv_iconst (v := 3) hx hb dX5_layAdjoint_65 (by decide) ?_
  refine lv_iload hx hb dX5_layAdjoint_66 (lv_at hl 2 rfl) ?_
  refine lv_imul hx hb dX5_layAdjoint_68 ?_
  refine lv_eqi (v := 3) (by decide) ?_
  refine lv_iload hx hb dX5_layAdjoint_69 (lv_at hl 0 rfl) ?_
  refine lv_iadd hx hb dX5_layAdjoint_71 ?_
  refine lv_eqi (v := 4) (by decide) ?_
  refine ld_l hx hb hK.1 hP 1 1 rfl rfl (ix_lit (by decide)) 4 (by decide) (v := fx 4) rfl dX5_layAdjoint_72 ?_
  refine lv_lmul hx hb dX5_layAdjoint_73 ?_
  refine lv_aload_n hx hb dX5_layAdjoint_74 rfl (lv_at hl 6 rfl) ?_
  refine va_get (D := D) (ci := 5) (v := .ref mX) (C := RX5) (T := TX5) (N := 17) hx hb hts k_2 hown hK.1 hP 0 rfl rfl 8 (by decide) k_3 (fun _ h9 => h9) rfl dX5_layAdjoint_75 ?_
  refine lv_iconst (v := 3) hx hb dX5_layAdjoint_78 (by decide) ?_
  refine lv_iload_n hx hb dX5_layAdjoint_79 rfl (lv_at hl 3 rfl) ?_
  refine lv_imul hx hb dX5_layAdjoint_80 ?_
  refine lv_eqi (v := 0) (by decide) ?_
  refine lv_iload hx hb dX5_layAdjoint_81 (lv_at hl 0 rfl) ?_
  refine lv_iadd hx hb dX5_layAdjoint_83 ?_
  refine lv_eqi (v := 1) (by decide) ?_
  refine ld_l hx hb hK.1 hP 1 1 rfl rfl (ix_lit (by decide)) 1 (by decide) (v := fx 1) rfl dX5_layAdjoint_84 ?_
  refine lv_aload_n hx hb dX5_layAdjoint_85 rfl (lv_at hl 6 rfl) ?_
  refine va_get (D := D) (ci := 5) (v := .ref mX) (C := RX5) (T := TX5) (N := 17) hx hb hts k_2 hown hK.1 hP 0 rfl rfl 8 (by decide) k_3 (fun _ h9 => h9) rfl dX5_layAdjoint_86 ?_
  refine lv_iconst (v := 3) hx hb dX5_layAdjoint_89 (by decide) ?_
  refine lv_iload hx hb dX5_layAdjoint_90 (lv_at hl 2 rfl) ?_
  refine lv_imul hx hb dX5_layAdjoint_92 ?_
  refine lv_eqi (v := 3) (by decide) ?_
  refine lv_iload hx hb dX5_layAdjoint_93 (lv_at hl 1 rfl) ?_
  refine lv_iadd hx hb dX5_layAdjoint_95 ?_
  refine lv_eqi (v := 3) (by decide) ?_
  refine ld_l hx hb hK.1 hP 1 1 rfl rfl (ix_lit (by decide)) 3 (by decide) (v := fx 3) rfl dX5_layAdjoint_96 ?_
  refine lv_lmul hx hb dX5_layAdjoint_97 ?_
  refine lv_lsub hx hb dX5_layAdjoint_98 ?_
  refine st_l hx hb hK.1 hP hD hS 2 1 rfl rfl (ix_lit (by decide)) 8 (by decide) dX5_layAdjoint_99 (fun H locs hP hD hS => ?_)
  have hP : va_P D vwCl [kM o mP mL mC mN mF mR mD mV mX mA mK cm mT pm mU mH mI, kJ mX cJ 9 fx, kJ mA cJ 9 (vp_updL (vp_updL (vp_updL (vp_updL (vp_updL (vp_updL (vp_updL (vp_updL (vp_updL fa 0 (((fx 4) * (fx 8)) - ((fx 5) * (fx 7)))) 3 (((fx 5) * (fx 6)) - ((fx 3) * (fx 8)))) 6 (((fx 3) * (fx 7)) - ((fx 4) * (fx 6)))) 1 (((fx 7) * (fx 2)) - ((fx 8) * (fx 1)))) 4 (((fx 8) * (fx 0)) - ((fx 6) * (fx 2)))) 7 (((fx 6) * (fx 1)) - ((fx 7) * (fx 0)))) 2 (((fx 1) * (fx 5)) - ((fx 2) * (fx 4)))) 5 (((fx 2) * (fx 3)) - ((fx 0) * (fx 5)))) 8 (((fx 0) * (fx 4)) - ((fx 1) * (fx 3))))] H := hP
  have hD : va_D A [kM o mP mL mC mN mF mR mD mV mX mA mK cm mT pm mU mH mI, kJ mX cJ 9 fx, kJ mA cJ 9 (vp_updL (vp_updL (vp_updL (vp_updL (vp_updL (vp_updL (vp_updL (vp_updL (vp_updL fa 0 (((fx 4) * (fx 8)) - ((fx 5) * (fx 7)))) 3 (((fx 5) * (fx 6)) - ((fx 3) * (fx 8)))) 6 (((fx 3) * (fx 7)) - ((fx 4) * (fx 6)))) 1 (((fx 7) * (fx 2)) - ((fx 8) * (fx 1)))) 4 (((fx 8) * (fx 0)) - ((fx 6) * (fx 2)))) 7 (((fx 6) * (fx 1)) - ((fx 7) * (fx 0)))) 2 (((fx 1) * (fx 5)) - ((fx 2) * (fx 4)))) 5 (((fx 2) * (fx 3)) - ((fx 0) * (fx 5)))) 8 (((fx 0) * (fx 4)) - ((fx 1) * (fx 3))))] := hD
  refine lv_iinc (v := 3) (lv' := [(2, .int 3), (6, .int 1), (5, .int 0), (4, .int 1), (3, .int 0), (1, .int 2), (0, .ref o)]) hx hb dX5_layAdjoint_100 hl (k := 4) rfl (by decide) (by decide) rfl (fun ls hl => ?_)
  refine lv_goto (tgt := 9) hx hb dX5_layAdjoint_103 (by decide) ?_
  refine lv_iload_n hx hb dX5_layAdjoint_9 rfl (lv_at hl 0 rfl) ?_
  refine lv_iconst (v := 3) hx hb dX5_layAdjoint_10 (by decide) ?_
  refine lv_icmp_ge (tgt := 106) hx hb dX5_layAdjoint_11 (by decide) (fun _ => ?_) (fun h => absurd (by decide) h)
  refine lv_iinc (v := 3) (lv' := [(1, .int 3), (2, .int 3), (6, .int 1), (5, .int 0), (4, .int 1), (3, .int 0), (0, .ref o)]) hx hb dX5_layAdjoint_106 hl (k := 5) rfl (by decide) (by decide) rfl (fun ls hl => ?_)
  refine lv_goto (tgt := 2) hx hb dX5_layAdjoint_109 (by decide) ?_
  refine lv_iload_n hx hb dX5_layAdjoint_2 rfl (lv_at hl 0 rfl) ?_
  refine lv_iconst (v := 3) hx hb dX5_layAdjoint_3 (by decide) ?_
  refine lv_icmp_ge (tgt := 112) hx hb dX5_layAdjoint_4 (by decide) (fun _ => ?_) (fun h => absurd (by decide) h)
  have he_0 : z5_layAdjoint_f2 fx fa = vp_updL (vp_updL (vp_updL (vp_updL (vp_updL (vp_updL (vp_updL (vp_updL (vp_updL fa 0 (((fx 4) * (fx 8)) - ((fx 5) * (fx 7)))) 3 (((fx 5) * (fx 6)) - ((fx 3) * (fx 8)))) 6 (((fx 3) * (fx 7)) - ((fx 4) * (fx 6)))) 1 (((fx 7) * (fx 2)) - ((fx 8) * (fx 1)))) 4 (((fx 8) * (fx 0)) - ((fx 6) * (fx 2)))) 7 (((fx 6) * (fx 1)) - ((fx 7) * (fx 0)))) 2 (((fx 1) * (fx 5)) - ((fx 2) * (fx 4)))) 5 (((fx 2) * (fx 3)) - ((fx 0) * (fx 5)))) 8 (((fx 0) * (fx 4)) - ((fx 1) * (fx 3))) := by delta z5_layAdjoint_f2; rfl
  exact rt_v (w1 := fun uu : Unit => [kM o mP mL mC mN mF mR mD mV mX mA mK cm mT pm mU mH mI, kJ mX cJ 9 fx, kJ mA cJ 9 (z5_layAdjoint_f2 fx fa)]) hx hb hr hlk hS dX5_layAdjoint_112 (()) trivial (by rw [he_0]; exact hP) (by rw [he_0]; exact hD)
def z5_det (fx : Nat → Int64) (fa : Nat → Int64) : Int64 := ((((fx 0) * ((z5_layAdjoint_f2 fx fa) 0)) + ((fx 1) * ((z5_layAdjoint_f2 fx fa) 3))) + ((fx 2) * ((z5_layAdjoint_f2 fx fa) 6))) / 2
def z5_det_f2 (fx : Nat → Int64) (fa : Nat → Int64) : Nat → Int64 := z5_layAdjoint_f2 fx fa
set_option maxHeartbeats 4000000 in
set_option maxRecDepth 100000 in
/-- X5.det -/
theorem c_X5_det (l : Launch) (D : va_G) (cI cJ : ClassId) (o : Nat) (mP : Nat) (mL : Nat) (mC : Nat) (mN : Nat) (mF : Nat) (mR : Nat) (mD : Nat) (mV : Nat) (mX : Nat) (mA : Nat) (mK : Nat) (mT : Nat) (mU : Nat) (mH : Nat) (mI : Nat) (cm : Int32) (pm : Int32) (fx : Nat → Int64) (fa : Nat → Int64) : mw_C l yX5_det wsX5_det ({ frames := 1, cells := 0, slots := 0, locals := 26 }) D cI cJ [.ref o] [kM o mP mL mC mN mF mR mD mV mX mA mK cm mT pm mU mH mI, kJ mX cJ 9 fx, kJ mA cJ 9 fa] (qe_l (fun (r : Int64) (_ : Unit) => r = z5_det fx fa) (fun uu => [kM o mP mL mC mN mF mR mD mV mX mA mK cm mT pm mU mH mI, kJ mX cJ 9 fx, kJ mA cJ 9 (z5_det_f2 fx fa)])) := by
  refine mw_in (cc := cX5_det) (lv := [(0, .ref o)]) (by decide) rfl (Nat.le_of_ble_eq_true rfl) rfl ?_
  intro pG eG sG mG below meth cG ls A hx hb hr hml hown hts hlk hin hP hK hD hA hS hl
  have hown : sG.vm.findClass RX5 = some mG.cls := hown
  have k_1 := hts (.fieldLink RX5 35 "ConicRowsModel" "matrix" "[J") (by decide +kernel)
  have k_2 : ∀ w ∈ wsX50, w ∈ wsX5_det := by decide +kernel
  have k_3 := hts (.fieldLink RX5 38 "ConicRowsModel" "adjoint" "[J") (by decide +kernel)
  have k_4 := hts (.constantLong RX5 95 (2)) (by decide +kernel)
  refine lv_aload_n hx hb dX5_det_0 rfl (lv_at hl 0 rfl) ?_
  have hPc := hP.sub (ws' := [kM o mP mL mC mN mF mR mD mV mX mA mK cm mT pm mU mH mI, kJ mX cJ 9 fx, kJ mA cJ 9 fa]) [0, 1, 2] rfl
  have hDc := hD.sub (ws' := [kM o mP mL mC mN mF mR mD mV mX mA mK cm mT pm mU mH mI, kJ mX cJ 9 fx, kJ mA cJ 9 fa]) [0, 1, 2] (by decide) rfl
  refine cl_v (wc := [kM o mP mL mC mN mF mR mD mV mX mA mK cm mT pm mU mH mI, kJ mX cJ 9 fx, kJ mA cJ 9 fa]) (wr := []) (w1 := fun uu : Unit => [kM o mP mL mC mN mF mR mD mV mX mA mK cm mT pm mU mH mI, kJ mX cJ 9 fx, kJ mA cJ 9 (z5_layAdjoint_f2 fx fa)]) (wn := fun uu : Unit => [kM o mP mL mC mN mF mR mD mV mX mA mK cm mT pm mU mH mI, kJ mX cJ 9 fx, kJ mA cJ 9 (z5_layAdjoint_f2 fx fa)]) (va_runV (As := []) (rest := []) ⟨hx, hb, hml, hown, hts⟩ (c_X5_layAdjoint l D cI cJ o mP mL mC mN mF mR mD mV mX mA mK mT mU mH mI cm pm fx fa _) (cwV 0 hts gX5_det_X5_layAdjoint rfl rfl rfl (by decide +kernel) ⟨Nat.le_of_ble_eq_true rfl, Nat.le_of_ble_eq_true rfl⟩) ⟨gd_blP, va_recv hK.1 hPc (ci := 5) (q0 := 0) rfl rfl, gd_prP hPc hK hDc⟩ rfl rfl hl.1 rfl (lv_room (Nat.le_of_ble_eq_true rfl)) dX5_det_1 ⟨Nat.zero_le _, Nat.zero_le _⟩) hP hD hS hA [0, 1, 2] [] rfl rfl (by decide) (by decide) [0, 1, 2] (by decide) (fun _ => rfl) (fun uG H locs hw hP hD hS => ?_)
  have hP : va_P D vwCl [kM o mP mL mC mN mF mR mD mV mX mA mK cm mT pm mU mH mI, kJ mX cJ 9 fx, kJ mA cJ 9 (z5_layAdjoint_f2 fx fa)] H := hP
  have hD : va_D A [kM o mP mL mC mN mF mR mD mV mX mA mK cm mT pm mU mH mI, kJ mX cJ 9 fx, kJ mA cJ 9 (z5_layAdjoint_f2 fx fa)] := hD
  clear hPc hDc
  refine lv_aload_n hx hb dX5_det_4 rfl (lv_at hl 0 rfl) ?_
  refine va_get (D := D) (ci := 5) (v := .ref mX) (C := RX5) (T := TX5) (N := 17) hx hb hts k_2 hown hK.1 hP 0 rfl rfl 8 (by decide) k_1 (fun _ h9 => h9) rfl dX5_det_5 ?_
  refine lv_iconst (v := 0) hx hb dX5_det_8 (by decide) ?_
  refine ld_l hx hb hK.1 hP 1 1 rfl rfl (ix_lit (by decide)) 0 (by decide) (v := fx 0) rfl dX5_det_9 ?_
  refine lv_aload_n hx hb dX5_det_10 rfl (lv_at hl 0 rfl) ?_
  refine va_get (D := D) (ci := 5) (v := .ref mA) (C := RX5) (T := TX5) (N := 17) hx hb hts k_2 hown hK.1 hP 0 rfl rfl 9 (by decide) k_3 (fun _ h9 => h9) rfl dX5_det_11 ?_
  refine lv_iconst (v := 0) hx hb dX5_det_14 (by decide) ?_
  refine ld_l hx hb hK.1 hP 2 1 rfl rfl (ix_lit (by decide)) 0 (by decide) (v := (z5_layAdjoint_f2 fx fa) 0) rfl dX5_det_15 ?_
  refine lv_lmul hx hb dX5_det_16 ?_
  refine lv_aload_n hx hb dX5_det_17 rfl (lv_at hl 0 rfl) ?_
  refine va_get (D := D) (ci := 5) (v := .ref mX) (C := RX5) (T := TX5) (N := 17) hx hb hts k_2 hown hK.1 hP 0 rfl rfl 8 (by decide) k_1 (fun _ h9 => h9) rfl dX5_det_18 ?_
  refine lv_iconst (v := 1) hx hb dX5_det_21 (by decide) ?_
  refine ld_l hx hb hK.1 hP 1 1 rfl rfl (ix_lit (by decide)) 1 (by decide) (v := fx 1) rfl dX5_det_22 ?_
  refine lv_aload_n hx hb dX5_det_23 rfl (lv_at hl 0 rfl) ?_
  refine va_get (D := D) (ci := 5) (v := .ref mA) (C := RX5) (T := TX5) (N := 17) hx hb hts k_2 hown hK.1 hP 0 rfl rfl 9 (by decide) k_3 (fun _ h9 => h9) rfl dX5_det_24 ?_
  refine lv_iconst (v := 3) hx hb dX5_det_27 (by decide) ?_
  refine ld_l hx hb hK.1 hP 2 1 rfl rfl (ix_lit (by decide)) 3 (by decide) (v := (z5_layAdjoint_f2 fx fa) 3) rfl dX5_det_28 ?_
  refine lv_lmul hx hb dX5_det_29 ?_
  refine lv_ladd hx hb dX5_det_30 ?_
  refine lv_aload_n hx hb dX5_det_31 rfl (lv_at hl 0 rfl) ?_
  refine va_get (D := D) (ci := 5) (v := .ref mX) (C := RX5) (T := TX5) (N := 17) hx hb hts k_2 hown hK.1 hP 0 rfl rfl 8 (by decide) k_1 (fun _ h9 => h9) rfl dX5_det_32 ?_
  refine lv_iconst (v := 2) hx hb dX5_det_35 (by decide) ?_
  refine ld_l hx hb hK.1 hP 1 1 rfl rfl (ix_lit (by decide)) 2 (by decide) (v := fx 2) rfl dX5_det_36 ?_
  refine lv_aload_n hx hb dX5_det_37 rfl (lv_at hl 0 rfl) ?_
  refine va_get (D := D) (ci := 5) (v := .ref mA) (C := RX5) (T := TX5) (N := 17) hx hb hts k_2 hown hK.1 hP 0 rfl rfl 9 (by decide) k_3 (fun _ h9 => h9) rfl dX5_det_38 ?_
  refine lv_bipush (v := 6) hx hb dX5_det_41 (by decide) ?_
  refine ld_l hx hb hK.1 hP 2 1 rfl rfl (ix_lit (by decide)) 6 (by decide) (v := (z5_layAdjoint_f2 fx fa) 6) rfl dX5_det_43 ?_
  refine lv_lmul hx hb dX5_det_44 ?_
  refine lv_ladd hx hb dX5_det_45 ?_
  refine lv_ldc2 hx hb hown k_4 dX5_det_46 ?_
  refine lv_ldiv hx hb dX5_det_49 (by decide) ?_
  have he_1 : z5_det_f2 fx fa = z5_layAdjoint_f2 fx fa := by delta z5_det_f2; rfl
  exact rt_l (w1 := fun uu : Unit => [kM o mP mL mC mN mF mR mD mV mX mA mK cm mT pm mU mH mI, kJ mX cJ 9 fx, kJ mA cJ 9 (z5_det_f2 fx fa)]) hx hb hr hlk hS dX5_det_50 (()) rfl (by rw [he_1]; exact hP) (by rw [he_1]; exact hD)
def z5_detOf (gc : Nat → Int32) (fx : Nat → Int64) (fa : Nat → Int64) (c : Int32) : Int64 := z5_det (z5_layConic_f2 gc fx c) fa
def z5_detOf_f2 (gc : Nat → Int32) (fx : Nat → Int64) (c : Int32) : Nat → Int64 := (z5_layConic_f2 gc fx c)
def z5_detOf_f3 (gc : Nat → Int32) (fx : Nat → Int64) (fa : Nat → Int64) (c : Int32) : Nat → Int64 := z5_det_f2 (z5_layConic_f2 gc fx c) fa
set_option maxHeartbeats 4000000 in
set_option maxRecDepth 100000 in
/-- X5.detOf -/
theorem c_X5_detOf (l : Launch) (D : va_G) (cI cJ : ClassId) (o : Nat) (mP : Nat) (mL : Nat) (mC : Nat) (mN : Nat) (mF : Nat) (mR : Nat) (mD : Nat) (mV : Nat) (mX : Nat) (mA : Nat) (mK : Nat) (mT : Nat) (mU : Nat) (mH : Nat) (mI : Nat) (cm : Int32) (pm : Int32) (gc : Nat → Int32) (fx : Nat → Int64) (fa : Nat → Int64) (c : Int32) (hc : ok_i c) : mw_C l yX5_detOf wsX5_detOf ({ frames := 2, cells := 0, slots := 0, locals := 54 }) D cI cJ [.ref o, .int c] [kM o mP mL mC mN mF mR mD mV mX mA mK cm mT pm mU mH mI, kA mC cI 360 gc, kJ mX cJ 9 fx, kJ mA cJ 9 fa] (qe_l (fun (r : Int64) (_ : Unit) => r = z5_detOf gc fx fa c) (fun uu => [kM o mP mL mC mN mF mR mD mV mX mA mK cm mT pm mU mH mI, kA mC cI 360 gc, kJ mX cJ 9 (z5_detOf_f2 gc fx c), kJ mA cJ 9 (z5_detOf_f3 gc fx fa c)])) := by
  refine mw_in (cc := cX5_detOf) (lv := [(0, .ref o), (1, .int c)]) (by decide) rfl (Nat.le_of_ble_eq_true rfl) rfl ?_
  intro pG eG sG mG below meth cG ls A hx hb hr hml hown hts hlk hin hP hK hD hA hS hl
  have hown : sG.vm.findClass RX5 = some mG.cls := hown
  refine lv_aload_n hx hb dX5_detOf_0 rfl (lv_at hl 0 rfl) ?_
  refine lv_iload_n hx hb dX5_detOf_1 rfl (lv_at hl 1 rfl) ?_
  have hPc := hP.sub (ws' := [kM o mP mL mC mN mF mR mD mV mX mA mK cm mT pm mU mH mI, kA mC cI 360 gc, kJ mX cJ 9 fx]) [0, 1, 2] rfl
  have hDc := hD.sub (ws' := [kM o mP mL mC mN mF mR mD mV mX mA mK cm mT pm mU mH mI, kA mC cI 360 gc, kJ mX cJ 9 fx]) [0, 1, 2] (by decide) rfl
  refine cl_v (wc := [kM o mP mL mC mN mF mR mD mV mX mA mK cm mT pm mU mH mI, kA mC cI 360 gc, kJ mX cJ 9 fx]) (wr := [kJ mA cJ 9 fa]) (w1 := fun uu : Unit => [kM o mP mL mC mN mF mR mD mV mX mA mK cm mT pm mU mH mI, kA mC cI 360 gc, kJ mX cJ 9 (z5_layConic_f2 gc fx c)]) (wn := fun uu : Unit => [kM o mP mL mC mN mF mR mD mV mX mA mK cm mT pm mU mH mI, kA mC cI 360 gc, kJ mX cJ 9 (z5_layConic_f2 gc fx c), kJ mA cJ 9 fa]) (va_runV (As := [.int c]) (rest := []) ⟨hx, hb, hml, hown, hts⟩ (c_X5_layConic l D cI cJ o mP mL mC mN mF mR mD mV mX mA mK mT mU mH mI cm pm gc fx c hc _) (cwV 1 hts gX5_detOf_X5_layConic rfl rfl rfl (by decide +kernel) ⟨Nat.le_of_ble_eq_true rfl, Nat.le_of_ble_eq_true rfl⟩) ⟨gd_blP, va_recv hK.1 hPc (ci := 5) (q0 := 0) rfl rfl, gd_prP hPc hK hDc⟩ rfl rfl hl.1 rfl (lv_room (Nat.le_of_ble_eq_true rfl)) dX5_detOf_2 ⟨Nat.zero_le _, Nat.zero_le _⟩) hP hD hS hA [0, 1, 2] [3] rfl rfl (by decide) (by decide) [1, 2, 3, 0] (by decide) (fun _ => rfl) (fun uG H locs hw hP hD hS => ?_)
  have hP : va_P D vwCl [kM o mP mL mC mN mF mR mD mV mX mA mK cm mT pm mU mH mI, kA mC cI 360 gc, kJ mX cJ 9 (z5_layConic_f2 gc fx c), kJ mA cJ 9 fa] H := hP
  have hD : va_D A [kM o mP mL mC mN mF mR mD mV mX mA mK cm mT pm mU mH mI, kA mC cI 360 gc, kJ mX cJ 9 (z5_layConic_f2 gc fx c), kJ mA cJ 9 fa] := hD
  clear hPc hDc
  refine lv_aload_n hx hb dX5_detOf_5 rfl (lv_at hl 0 rfl) ?_
  have hPc := hP.sub (ws' := [kM o mP mL mC mN mF mR mD mV mX mA mK cm mT pm mU mH mI, kJ mX cJ 9 (z5_layConic_f2 gc fx c), kJ mA cJ 9 fa]) [0, 2, 3] rfl
  have hDc := hD.sub (ws' := [kM o mP mL mC mN mF mR mD mV mX mA mK cm mT pm mU mH mI, kJ mX cJ 9 (z5_layConic_f2 gc fx c), kJ mA cJ 9 fa]) [0, 2, 3] (by decide) rfl
  refine cl_l (wc := [kM o mP mL mC mN mF mR mD mV mX mA mK cm mT pm mU mH mI, kJ mX cJ 9 (z5_layConic_f2 gc fx c), kJ mA cJ 9 fa]) (wr := [kA mC cI 360 gc]) (w1 := fun uu : Unit => [kM o mP mL mC mN mF mR mD mV mX mA mK cm mT pm mU mH mI, kJ mX cJ 9 (z5_layConic_f2 gc fx c), kJ mA cJ 9 (z5_det_f2 (z5_layConic_f2 gc fx c) fa)]) (wn := fun uu : Unit => [kM o mP mL mC mN mF mR mD mV mX mA mK cm mT pm mU mH mI, kA mC cI 360 gc, kJ mX cJ 9 (z5_layConic_f2 gc fx c), kJ mA cJ 9 (z5_det_f2 (z5_layConic_f2 gc fx c) fa)]) (va_runV (As := []) (rest := []) ⟨hx, hb, hml, hown, hts⟩ (c_X5_det l D cI cJ o mP mL mC mN mF mR mD mV mX mA mK mT mU mH mI cm pm (z5_layConic_f2 gc fx c) fa _) (cwV 0 hts gX5_detOf_X5_det rfl rfl rfl (by decide +kernel) ⟨Nat.le_of_ble_eq_true rfl, Nat.le_of_ble_eq_true rfl⟩) ⟨gd_blP, va_recv hK.1 hPc (ci := 5) (q0 := 0) rfl rfl, gd_prP hPc hK hDc⟩ rfl rfl hl.1 rfl (lv_room (Nat.le_of_ble_eq_true rfl)) dX5_detOf_6 ⟨Nat.zero_le _, Nat.zero_le _⟩) hP hD hS hA [0, 2, 3] [1] rfl rfl (by decide) (by decide) [1, 0, 2, 3] (by decide) (fun _ => rfl) (fun r_6 uG H locs hw hP hD hS => ?_)
  have hP : va_P D vwCl [kM o mP mL mC mN mF mR mD mV mX mA mK cm mT pm mU mH mI, kA mC cI 360 gc, kJ mX cJ 9 (z5_layConic_f2 gc fx c), kJ mA cJ 9 (z5_det_f2 (z5_layConic_f2 gc fx c) fa)] H := hP
  have hD : va_D A [kM o mP mL mC mN mF mR mD mV mX mA mK cm mT pm mU mH mI, kA mC cI 360 gc, kJ mX cJ 9 (z5_layConic_f2 gc fx c), kJ mA cJ 9 (z5_det_f2 (z5_layConic_f2 gc fx c) fa)] := hD
  subst hw
  clear hPc hDc
  have he_1 : z5_detOf_f2 gc fx c = (z5_layConic_f2 gc fx c) := by delta z5_detOf_f2; rfl
  have he_2 : z5_detOf_f3 gc fx fa c = z5_det_f2 (z5_layConic_f2 gc fx c) fa := by delta z5_detOf_f3; rfl
  exact rt_l (w1 := fun uu : Unit => [kM o mP mL mC mN mF mR mD mV mX mA mK cm mT pm mU mH mI, kA mC cI 360 gc, kJ mX cJ 9 (z5_detOf_f2 gc fx c), kJ mA cJ 9 (z5_detOf_f3 gc fx fa c)]) hx hb hr hlk hS dX5_detOf_9 (()) rfl (by rw [he_1, he_2]; exact hP) (by rw [he_1, he_2]; exact hD)
def z5_discOf (gc : Nat → Int32) (fx : Nat → Int64) (c : Int32) : Int64 := (((z5_layConic_f2 gc fx c) 1) * ((z5_layConic_f2 gc fx c) 1)) - (((z5_layConic_f2 gc fx c) 0) * ((z5_layConic_f2 gc fx c) 4))
def z5_discOf_f2 (gc : Nat → Int32) (fx : Nat → Int64) (c : Int32) : Nat → Int64 := z5_layConic_f2 gc fx c
set_option maxHeartbeats 4000000 in
set_option maxRecDepth 100000 in
/-- X5.discOf -/
theorem c_X5_discOf (l : Launch) (D : va_G) (cI cJ : ClassId) (o : Nat) (mP : Nat) (mL : Nat) (mC : Nat) (mN : Nat) (mF : Nat) (mR : Nat) (mD : Nat) (mV : Nat) (mX : Nat) (mA : Nat) (mK : Nat) (mT : Nat) (mU : Nat) (mH : Nat) (mI : Nat) (cm : Int32) (pm : Int32) (gc : Nat → Int32) (fx : Nat → Int64) (c : Int32) (hc : ok_i c) : mw_C l yX5_discOf wsX5_discOf ({ frames := 2, cells := 0, slots := 0, locals := 54 }) D cI cJ [.ref o, .int c] [kM o mP mL mC mN mF mR mD mV mX mA mK cm mT pm mU mH mI, kA mC cI 360 gc, kJ mX cJ 9 fx] (qe_l (fun (r : Int64) (_ : Unit) => r = z5_discOf gc fx c) (fun uu => [kM o mP mL mC mN mF mR mD mV mX mA mK cm mT pm mU mH mI, kA mC cI 360 gc, kJ mX cJ 9 (z5_discOf_f2 gc fx c)])) := by
  refine mw_in (cc := cX5_discOf) (lv := [(0, .ref o), (1, .int c)]) (by decide) rfl (Nat.le_of_ble_eq_true rfl) rfl ?_
  intro pG eG sG mG below meth cG ls A hx hb hr hml hown hts hlk hin hP hK hD hA hS hl
  have hown : sG.vm.findClass RX5 = some mG.cls := hown
  have k_1 := hts (.fieldLink RX5 35 "ConicRowsModel" "matrix" "[J") (by decide +kernel)
  have k_2 : ∀ w ∈ wsX50, w ∈ wsX5_discOf := by decide +kernel
  refine lv_aload_n hx hb dX5_discOf_0 rfl (lv_at hl 0 rfl) ?_
  refine lv_iload_n hx hb dX5_discOf_1 rfl (lv_at hl 1 rfl) ?_
  have hPc := hP.sub (ws' := [kM o mP mL mC mN mF mR mD mV mX mA mK cm mT pm mU mH mI, kA mC cI 360 gc, kJ mX cJ 9 fx]) [0, 1, 2] rfl
  have hDc := hD.sub (ws' := [kM o mP mL mC mN mF mR mD mV mX mA mK cm mT pm mU mH mI, kA mC cI 360 gc, kJ mX cJ 9 fx]) [0, 1, 2] (by decide) rfl
  refine cl_v (wc := [kM o mP mL mC mN mF mR mD mV mX mA mK cm mT pm mU mH mI, kA mC cI 360 gc, kJ mX cJ 9 fx]) (wr := []) (w1 := fun uu : Unit => [kM o mP mL mC mN mF mR mD mV mX mA mK cm mT pm mU mH mI, kA mC cI 360 gc, kJ mX cJ 9 (z5_layConic_f2 gc fx c)]) (wn := fun uu : Unit => [kM o mP mL mC mN mF mR mD mV mX mA mK cm mT pm mU mH mI, kA mC cI 360 gc, kJ mX cJ 9 (z5_layConic_f2 gc fx c)]) (va_runV (As := [.int c]) (rest := []) ⟨hx, hb, hml, hown, hts⟩ (c_X5_layConic l D cI cJ o mP mL mC mN mF mR mD mV mX mA mK mT mU mH mI cm pm gc fx c hc _) (cwV 1 hts gX5_discOf_X5_layConic rfl rfl rfl (by decide +kernel) ⟨Nat.le_of_ble_eq_true rfl, Nat.le_of_ble_eq_true rfl⟩) ⟨gd_blP, va_recv hK.1 hPc (ci := 5) (q0 := 0) rfl rfl, gd_prP hPc hK hDc⟩ rfl rfl hl.1 rfl (lv_room (Nat.le_of_ble_eq_true rfl)) dX5_discOf_2 ⟨Nat.zero_le _, Nat.zero_le _⟩) hP hD hS hA [0, 1, 2] [] rfl rfl (by decide) (by decide) [0, 1, 2] (by decide) (fun _ => rfl) (fun uG H locs hw hP hD hS => ?_)
  have hP : va_P D vwCl [kM o mP mL mC mN mF mR mD mV mX mA mK cm mT pm mU mH mI, kA mC cI 360 gc, kJ mX cJ 9 (z5_layConic_f2 gc fx c)] H := hP
  have hD : va_D A [kM o mP mL mC mN mF mR mD mV mX mA mK cm mT pm mU mH mI, kA mC cI 360 gc, kJ mX cJ 9 (z5_layConic_f2 gc fx c)] := hD
  clear hPc hDc
  refine lv_aload_n hx hb dX5_discOf_5 rfl (lv_at hl 0 rfl) ?_
  refine va_get (D := D) (ci := 5) (v := .ref mX) (C := RX5) (T := TX5) (N := 17) hx hb hts k_2 hown hK.1 hP 0 rfl rfl 8 (by decide) k_1 (fun _ h9 => h9) rfl dX5_discOf_6 ?_
  refine lv_iconst (v := 1) hx hb dX5_discOf_9 (by decide) ?_
  refine ld_l hx hb hK.1 hP 2 1 rfl rfl (ix_lit (by decide)) 1 (by decide) (v := (z5_layConic_f2 gc fx c) 1) rfl dX5_discOf_10 ?_
  refine lv_aload_n hx hb dX5_discOf_11 rfl (lv_at hl 0 rfl) ?_
  refine va_get (D := D) (ci := 5) (v := .ref mX) (C := RX5) (T := TX5) (N := 17) hx hb hts k_2 hown hK.1 hP 0 rfl rfl 8 (by decide) k_1 (fun _ h9 => h9) rfl dX5_discOf_12 ?_
  refine lv_iconst (v := 1) hx hb dX5_discOf_15 (by decide) ?_
  refine ld_l hx hb hK.1 hP 2 1 rfl rfl (ix_lit (by decide)) 1 (by decide) (v := (z5_layConic_f2 gc fx c) 1) rfl dX5_discOf_16 ?_
  refine lv_lmul hx hb dX5_discOf_17 ?_
  refine lv_aload_n hx hb dX5_discOf_18 rfl (lv_at hl 0 rfl) ?_
  refine va_get (D := D) (ci := 5) (v := .ref mX) (C := RX5) (T := TX5) (N := 17) hx hb hts k_2 hown hK.1 hP 0 rfl rfl 8 (by decide) k_1 (fun _ h9 => h9) rfl dX5_discOf_19 ?_
  refine lv_iconst (v := 0) hx hb dX5_discOf_22 (by decide) ?_
  refine ld_l hx hb hK.1 hP 2 1 rfl rfl (ix_lit (by decide)) 0 (by decide) (v := (z5_layConic_f2 gc fx c) 0) rfl dX5_discOf_23 ?_
  refine lv_aload_n hx hb dX5_discOf_24 rfl (lv_at hl 0 rfl) ?_
  refine va_get (D := D) (ci := 5) (v := .ref mX) (C := RX5) (T := TX5) (N := 17) hx hb hts k_2 hown hK.1 hP 0 rfl rfl 8 (by decide) k_1 (fun _ h9 => h9) rfl dX5_discOf_25 ?_
  refine lv_iconst (v := 4) hx hb dX5_discOf_28 (by decide) ?_
  refine ld_l hx hb hK.1 hP 2 1 rfl rfl (ix_lit (by decide)) 4 (by decide) (v := (z5_layConic_f2 gc fx c) 4) rfl dX5_discOf_29 ?_
  refine lv_lmul hx hb dX5_discOf_30 ?_
  refine lv_lsub hx hb dX5_discOf_31 ?_
  have he_1 : z5_discOf_f2 gc fx c = z5_layConic_f2 gc fx c := by delta z5_discOf_f2; rfl
  exact rt_l (w1 := fun uu : Unit => [kM o mP mL mC mN mF mR mD mV mX mA mK cm mT pm mU mH mI, kA mC cI 360 gc, kJ mX cJ 9 (z5_discOf_f2 gc fx c)]) hx hb hr hlk hS dX5_discOf_32 (()) rfl (by rw [he_1]; exact hP) (by rw [he_1]; exact hD)
