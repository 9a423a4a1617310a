-- laid by wip/whole/gen
def z5_kind_v1 (gc : Nat → Int32) (c : Int32) : Int64 := ((((gc (((6 * c) + 3).toNatClampNeg)).toInt64) * ((gc (((6 * c) + 3).toNatClampNeg)).toInt64)) + (((gc (((6 * c) + 4).toNatClampNeg)).toInt64) * ((gc (((6 * c) + 4).toNatClampNeg)).toInt64))) - ((4 * (((gc ((6 * c).toNatClampNeg)) + (gc (((6 * c) + 2).toNatClampNeg))).toInt64)) * ((gc (((6 * c) + 5).toNatClampNeg)).toInt64))
def z5_kind (gm : Nat → Int32) (gc : Nat → Int32) (fx : Nat → Int64) (fa : Nat → Int64) (c : Int32) : Int32 := if (z5_isOf_2 gm c) = 0 then (-1000002) else if (z5_detOf gc fx fa c) = 0 then if (z5_discOf gc (z5_detOf_f2 gc fx c) c) = 0 then if (gc ((6 * c).toNatClampNeg)) = 0 then if (gc (((6 * c) + 1).toNatClampNeg)) = 0 then if (gc (((6 * c) + 2).toNatClampNeg)) = 0 then if ((gc (((6 * c) + 3).toNatClampNeg)).toInt64) = 0 then if ((gc (((6 * c) + 4).toNatClampNeg)).toInt64) = 0 then 10 else 9 else 9 else if (z5_kind_v1 gc c) ≤ 0 then if (z5_kind_v1 gc c) = 0 then 6 else 8 else 5 else if (z5_kind_v1 gc c) ≤ 0 then if (z5_kind_v1 gc c) = 0 then 6 else 8 else 5 else if (z5_kind_v1 gc c) ≤ 0 then if (z5_kind_v1 gc c) = 0 then 6 else 8 else 5 else if (z5_discOf gc (z5_detOf_f2 gc fx c) c) ≤ 0 then 7 else 4 else if (z5_discOf gc (z5_detOf_f2 gc fx c) c) ≤ 0 then if (z5_discOf gc (z5_detOf_f2 gc fx c) c) = 0 then 2 else if (((gc ((6 * c).toNatClampNeg)) + (gc (((6 * c) + 2).toNatClampNeg))).toInt64) ≤ 0 then if 0 ≤ (z5_detOf gc fx fa c) then 0 else 1 else if 0 ≤ (z5_detOf gc fx fa c) then 1 else 0 else 3
set_option maxHeartbeats 4000000 in
set_option maxRecDepth 100000 in
/-- X5.kind -/
theorem c_X5_kind (l : Launch) (D : va_G) (cI cJ : ClassId) (o : Nat) (mP : Nat) (mL : Nat) (mC : Nat) (mN : Nat) (mF : Nat) (mR : Nat) (mD : Nat) (mV : Nat) (mX : Nat) (mA : Nat) (mK : Nat) (mT : Nat) (mU : Nat) (mH : Nat) (mI : Nat) (cm : Int32) (pm : Int32) (gm : Nat → Int32) (gc : Nat → Int32) (fx : Nat → Int64) (fa : Nat → Int64) (c : Int32) (hm2 : n_ok (gm 2)) : mw_C l yX5_kind wsX5_kind ({ frames := 3, cells := 0, slots := 0, locals := 75 }) D cI cJ [.ref o, .int c] [kM o mP mL mC mN mF mR mD mV mX mA mK cm mT pm mU mH mI, kA mN cI 3 gm, kA mC cI 360 gc, kJ mX cJ 9 fx, kJ mA cJ 9 fa] (qe_i (fun (r : Int32) (_ : (Nat → Int64) × (Nat → Int64)) => r = z5_kind gm gc fx fa c) (fun uu => [kM o mP mL mC mN mF mR mD mV mX mA mK cm mT pm mU mH mI, kA mN cI 3 gm, kA mC cI 360 gc, kJ mX cJ 9 uu.1, kJ mA cJ 9 uu.2])) := by
  refine mw_in (cc := cX5_kind) (lv := [(0, .ref o), (1, .int c)]) (by decide) rfl (Nat.le_of_ble_eq_true rfl) rfl ?_
  intro pG eG sG mG below meth cG ls A hx hb hr hml hown hts hlk hin hP hK hD hA hS hl
  have hown : sG.vm.findClass RX5 = some mG.cls := hown
  have k_1 := hts (.fieldLink RX5 16 "ConicRowsModel" "conics" "[I") (by decide +kernel)
  have k_2 : ∀ w ∈ wsX50, w ∈ wsX5_kind := by decide +kernel
  have k_3 := hts (.constantLong RX5 164 (4)) (by decide +kernel)
  have k_4 := hts (.constant RX5 101 (-1000002)) (by decide +kernel)
  refine lv_aload_n hx hb dX5_kind_0 rfl (lv_at hl 0 rfl) ?_
  refine lv_iconst (v := 2) hx hb dX5_kind_1 (by decide) ?_
  refine lv_iload_n hx hb dX5_kind_2 rfl (lv_at hl 1 rfl) ?_
  have hPc := hP.sub (ws' := [kM o mP mL mC mN mF mR mD mV mX mA mK cm mT pm mU mH mI, kA mN cI 3 gm]) [0, 1] rfl
  refine cr_i (va_runV (As := [.int 2, .int c]) (rest := []) ⟨hx, hb, hml, hown, hts⟩ (c_X5_isOf_2 l D cI cJ o mP mL mC mN mF mR mD mV mX mA mK mT mU mH mI cm pm gm c) (cwV 2 hts gX5_kind_X5_isOf rfl rfl rfl (by decide +kernel) ⟨Nat.le_of_ble_eq_true rfl, Nat.le_of_ble_eq_true rfl⟩) ⟨gd_blR, va_recv hK.1 hPc (ci := 5) (q0 := 0) rfl rfl, gd_prR hPc hK⟩ rfl rfl hl.1 rfl (lv_room (Nat.le_of_ble_eq_true rfl)) dX5_kind_3 ⟨Nat.zero_le _, Nat.zero_le _⟩) (fun r_3 hw => ?_)
  subst hw
  clear hPc
  refine lv_if_ne (tgt := 12) hx hb dX5_kind_6 (by decide) (fun c_1 => ?_) (fun c_1 => ?_)
  · skip
    refine lv_bipush (v := 6) hx hb dX5_kind_12 (by decide) ?_
    refine lv_iload_n hx hb dX5_kind_14 rfl (lv_at hl 1 rfl) ?_
    refine lv_imul hx hb dX5_kind_15 ?_
    refine lv_istore_n (lv' := [(2, .int (6 * c)), (0, .ref o), (1, .int c)]) hx hb dX5_kind_16 rfl hl (by decide) rfl (fun ls hl => ?_)
    refine lv_aload_n hx hb dX5_kind_17 rfl (lv_at hl 1 rfl) ?_
    refine va_get (D := D) (ci := 5) (v := .ref mC) (C := RX5) (T := TX5) (N := 17) hx hb hts k_2 hown hK.1 hP 0 rfl rfl 2 (by decide) k_1 (fun _ h9 => h9) rfl dX5_kind_18 ?_
    refine lv_iload_n hx hb dX5_kind_21 rfl (lv_at hl 0 rfl) ?_
    refine ld_i hx hb hK.1 hP 2 0 rfl rfl (ix6z (ok_of hm2 c_1)) ((6 * c).toNatClampNeg) rfl (v := gc ((6 * c).toNatClampNeg)) rfl dX5_kind_22 ?_
    refine lv_aload_n hx hb dX5_kind_23 rfl (lv_at hl 1 rfl) ?_
    refine va_get (D := D) (ci := 5) (v := .ref mC) (C := RX5) (T := TX5) (N := 17) hx hb hts k_2 hown hK.1 hP 0 rfl rfl 2 (by decide) k_1 (fun _ h9 => h9) rfl dX5_kind_24 ?_
    refine lv_iload_n hx hb dX5_kind_27 rfl (lv_at hl 0 rfl) ?_
    refine lv_iconst (v := 2) hx hb dX5_kind_28 (by decide) ?_
    refine lv_iadd hx hb dX5_kind_29 ?_
    refine ld_i hx hb hK.1 hP 2 0 rfl rfl (ix6l (ok_of hm2 c_1) 2 (by decide)) (((6 * c) + 2).toNatClampNeg) rfl (v := gc (((6 * c) + 2).toNatClampNeg)) rfl dX5_kind_30 ?_
    refine lv_iadd hx hb dX5_kind_31 ?_
    refine lv_i2l hx hb dX5_kind_32 rfl ?_
    refine lv_lstore_n (lv' := [(3, .long (((gc ((6 * c).toNatClampNeg)) + (gc (((6 * c) + 2).toNatClampNeg))).toInt64)), (2, .int (6 * c)), (0, .ref o), (1, .int c)]) hx hb dX5_kind_33 rfl hl (by decide) rfl (fun ls hl => ?_)
    refine lv_aload_n hx hb dX5_kind_34 rfl (lv_at hl 2 rfl) ?_
    refine lv_iload_n hx hb dX5_kind_35 rfl (lv_at hl 3 rfl) ?_
    have hPc := hP.sub (ws' := [kM o mP mL mC mN mF mR mD mV mX mA mK cm mT pm mU mH mI, kA mC cI 360 gc, kJ mX cJ 9 fx, kJ mA cJ 9 fa]) [0, 2, 3, 4] rfl
    have hDc := hD.sub (ws' := [kM o mP mL mC mN mF mR mD mV mX mA mK cm mT pm mU mH mI, kA mC cI 360 gc, kJ mX cJ 9 fx, kJ mA cJ 9 fa]) [0, 2, 3, 4] (by decide) rfl
    refine cl_l (wc := [kM o mP mL mC mN mF mR mD mV mX mA mK cm mT pm mU mH mI, kA mC cI 360 gc, kJ mX cJ 9 fx, kJ mA cJ 9 fa]) (wr := [kA mN cI 3 gm]) (w1 := fun uu : Unit => [kM o mP mL mC mN mF mR mD mV mX mA mK cm mT pm mU mH mI, kA mC cI 360 gc, kJ mX cJ 9 (z5_detOf_f2 gc fx c), kJ mA cJ 9 (z5_detOf_f3 gc fx fa c)]) (wn := fun uu : Unit => [kM o mP mL mC mN mF mR mD mV mX mA mK cm mT pm mU mH mI, kA mN cI 3 gm, kA mC cI 360 gc, kJ mX cJ 9 (z5_detOf_f2 gc fx c), kJ mA cJ 9 (z5_detOf_f3 gc fx fa c)]) (va_runV (As := [.int c]) (rest := []) ⟨hx, hb, hml, hown, hts⟩ (c_X5_detOf l D cI cJ o mP mL mC mN mF mR mD mV mX mA mK mT mU mH mI cm pm gc fx fa c (ok_of hm2 c_1) _) (cwV 1 hts gX5_kind_X5_detOf rfl rfl rfl (by decide +kernel) ⟨Nat.le_of_ble_eq_true rfl, Nat.le_of_ble_eq_true rfl⟩) ⟨gd_blP, va_recv hK.1 hPc (ci := 5) (q0 := 0) rfl rfl, gd_prP hPc hK hDc⟩ rfl rfl hl.1 rfl (lv_room (Nat.le_of_ble_eq_true rfl)) dX5_kind_36 ⟨Nat.zero_le _, Nat.zero_le _⟩) hP hD hS hA [0, 2, 3, 4] [1] rfl rfl (by decide) (by decide) [1, 0, 2, 3, 4] (by decide) (fun _ => rfl) (fun r_36 uG H locs hw hP hD hS => ?_)
    have hP : va_P D vwCl [kM o mP mL mC mN mF mR mD mV mX mA mK cm mT pm mU mH mI, kA mN cI 3 gm, kA mC cI 360 gc, kJ mX cJ 9 (z5_detOf_f2 gc fx c), kJ mA cJ 9 (z5_detOf_f3 gc fx fa c)] H := hP
    have hD : va_D A [kM o mP mL mC mN mF mR mD mV mX mA mK cm mT pm mU mH mI, kA mN cI 3 gm, kA mC cI 360 gc, kJ mX cJ 9 (z5_detOf_f2 gc fx c), kJ mA cJ 9 (z5_detOf_f3 gc fx fa c)] := hD
    subst hw
    clear hPc hDc
    refine lv_lstore (lv' := [(5, .long (z5_detOf gc fx fa c)), (3, .long (((gc ((6 * c).toNatClampNeg)) + (gc (((6 * c) + 2).toNatClampNeg))).toInt64)), (2, .int (6 * c)), (0, .ref o), (1, .int c)]) hx hb dX5_kind_39 hl (by decide) rfl (fun ls hl => ?_)
    refine lv_aload_n hx hb dX5_kind_41 rfl (lv_at hl 3 rfl) ?_
    refine lv_iload_n hx hb dX5_kind_42 rfl (lv_at hl 4 rfl) ?_
    have hPc := hP.sub (ws' := [kM o mP mL mC mN mF mR mD mV mX mA mK cm mT pm mU mH mI, kA mC cI 360 gc, kJ mX cJ 9 (z5_detOf_f2 gc fx c)]) [0, 2, 3] rfl
    have hDc := hD.sub (ws' := [kM o mP mL mC mN mF mR mD mV mX mA mK cm mT pm mU mH mI, kA mC cI 360 gc, kJ mX cJ 9 (z5_detOf_f2 gc fx c)]) [0, 2, 3] (by decide) rfl
    refine cl_l (wc := [kM o mP mL mC mN mF mR mD mV mX mA mK cm mT pm mU mH mI, kA mC cI 360 gc, kJ mX cJ 9 (z5_detOf_f2 gc fx c)]) (wr := [kA mN cI 3 gm, kJ mA cJ 9 (z5_detOf_f3 gc fx fa c)]) (w1 := fun uu : Unit => [kM o mP mL mC mN mF mR mD mV mX mA mK cm mT pm mU mH mI, kA mC cI 360 gc, kJ mX cJ 9 (z5_discOf_f2 gc (z5_detOf_f2 gc fx c) c)]) (wn := fun uu : Unit => [kM o mP mL mC mN mF mR mD mV mX mA mK cm mT pm mU mH mI, kA mN cI 3 gm, kA mC cI 360 gc, kJ mX cJ 9 (z5_discOf_f2 gc (z5_detOf_f2 gc fx c) c), kJ mA cJ 9 (z5_detOf_f3 gc fx fa c)]) (va_runV (As := [.int c]) (rest := []) ⟨hx, hb, hml, hown, hts⟩ (c_X5_discOf l D cI cJ o mP mL mC mN mF mR mD mV mX mA mK mT mU mH mI cm pm gc (z5_detOf_f2 gc fx c) c (ok_of hm2 c_1) _) (cwV 1 hts gX5_kind_X5_discOf rfl rfl rfl (by decide +kernel) ⟨Nat.le_of_ble_eq_true rfl, Nat.le_of_ble_eq_true rfl⟩) ⟨gd_blP, va_recv hK.1 hPc (ci := 5) (q0 := 0) rfl rfl, gd_prP hPc hK hDc⟩ rfl rfl hl.1 rfl (lv_room (Nat.le_of_ble_eq_true rfl)) dX5_kind_43 ⟨Nat.zero_le _, Nat.zero_le _⟩) hP hD hS hA [0, 2, 3] [1, 4] rfl rfl (by decide) (by decide) [2, 0, 3, 4, 1] (by decide) (fun _ => rfl) (fun r_43 uG H locs hw hP hD hS => ?_)
    have hP : va_P D vwCl [kM o mP mL mC mN mF mR mD mV mX mA mK cm mT pm mU mH mI, kA mN cI 3 gm, kA mC cI 360 gc, kJ mX cJ 9 (z5_discOf_f2 gc (z5_detOf_f2 gc fx c) c), kJ mA cJ 9 (z5_detOf_f3 gc fx fa c)] H := hP
    have hD : va_D A [kM o mP mL mC mN mF mR mD mV mX mA mK cm mT pm mU mH mI, kA mN cI 3 gm, kA mC cI 360 gc, kJ mX cJ 9 (z5_discOf_f2 gc (z5_detOf_f2 gc fx c) c), kJ mA cJ 9 (z5_detOf_f3 gc fx fa c)] := hD
    subst hw
    clear hPc hDc
    refine lv_lstore (lv' := [(7, .long (z5_discOf gc (z5_detOf_f2 gc fx c) c)), (5, .long (z5_detOf gc fx fa c)), (3, .long (((gc ((6 * c).toNatClampNeg)) + (gc (((6 * c) + 2).toNatClampNeg))).toInt64)), (2, .int (6 * c)), (0, .ref o), (1, .int c)]) hx hb dX5_kind_46 hl (by decide) rfl (fun ls hl => ?_)
    refine lv_lload hx hb dX5_kind_48 (lv_at hl 1 rfl) ?_
    refine lv_lconst (v := 0) hx hb dX5_kind_50 (by decide) ?_
    refine lb_eq (tgt := 109) hx hb dX5_kind_51 rfl dX5_kind_52 (by decide) (fun c_2 => ?_) (fun c_2 => ?_)
    · skip
      refine lv_lload hx hb dX5_kind_109 (lv_at hl 0 rfl) ?_
      refine lv_lconst (v := 0) hx hb dX5_kind_111 (by decide) ?_
      refine lb_eq (tgt := 130) hx hb dX5_kind_112 rfl dX5_kind_113 (by decide) (fun c_3 => ?_) (fun c_3 => ?_)
      · skip
        refine lv_aload_n hx hb dX5_kind_130 rfl (lv_at hl 4 rfl) ?_
        refine va_get (D := D) (ci := 5) (v := .ref mC) (C := RX5) (T := TX5) (N := 17) hx hb hts k_2 hown hK.1 hP 0 rfl rfl 2 (by decide) k_1 (fun _ h9 => h9) rfl dX5_kind_131 ?_
        refine lv_iload_n hx hb dX5_kind_134 rfl (lv_at hl 3 rfl) ?_
        refine lv_iconst (v := 3) hx hb dX5_kind_135 (by decide) ?_
        refine lv_iadd hx hb dX5_kind_136 ?_
        refine ld_i hx hb hK.1 hP 2 0 rfl rfl (ix6l (ok_of hm2 c_1) 3 (by decide)) (((6 * c) + 3).toNatClampNeg) rfl (v := gc (((6 * c) + 3).toNatClampNeg)) rfl dX5_kind_137 ?_
        refine lv_i2l hx hb dX5_kind_138 rfl ?_
        refine lv_lstore (lv' := [(9, .long ((gc (((6 * c) + 3).toNatClampNeg)).toInt64)), (7, .long (z5_discOf gc (z5_detOf_f2 gc fx c) c)), (5, .long (z5_detOf gc fx fa c)), (3, .long (((gc ((6 * c).toNatClampNeg)) + (gc (((6 * c) + 2).toNatClampNeg))).toInt64)), (2, .int (6 * c)), (0, .ref o), (1, .int c)]) hx hb dX5_kind_139 hl (by decide) rfl (fun ls hl => ?_)
        refine lv_aload_n hx hb dX5_kind_141 rfl (lv_at hl 5 rfl) ?_
        refine va_get (D := D) (ci := 5) (v := .ref mC) (C := RX5) (T := TX5) (N := 17) hx hb hts k_2 hown hK.1 hP 0 rfl rfl 2 (by decide) k_1 (fun _ h9 => h9) rfl dX5_kind_142 ?_
        refine lv_iload_n hx hb dX5_kind_145 rfl (lv_at hl 4 rfl) ?_
        refine lv_iconst (v := 4) hx hb dX5_kind_146 (by decide) ?_
        refine lv_iadd hx hb dX5_kind_147 ?_
        refine ld_i hx hb hK.1 hP 2 0 rfl rfl (ix6l (ok_of hm2 c_1) 4 (by decide)) (((6 * c) + 4).toNatClampNeg) rfl (v := gc (((6 * c) + 4).toNatClampNeg)) rfl dX5_kind_148 ?_
        refine lv_i2l hx hb dX5_kind_149 rfl ?_
        refine lv_lstore (lv' := [(11, .long ((gc (((6 * c) + 4).toNatClampNeg)).toInt64)), (9, .long ((gc (((6 * c) + 3).toNatClampNeg)).toInt64)), (7, .long (z5_discOf gc (z5_detOf_f2 gc fx c) c)), (5, .long (z5_detOf gc fx fa c)), (3, .long (((gc ((6 * c).toNatClampNeg)) + (gc (((6 * c) + 2).toNatClampNeg))).toInt64)), (2, .int (6 * c)), (0, .ref o), (1, .int c)]) hx hb dX5_kind_150 hl (by decide) rfl (fun ls hl => ?_)
        refine lv_aload_n hx hb dX5_kind_152 rfl (lv_at hl 6 rfl) ?_
        refine va_get (D := D) (ci := 5) (v := .ref mC) (C := RX5) (T := TX5) (N := 17) hx hb hts k_2 hown hK.1 hP 0 rfl rfl 2 (by decide) k_1 (fun _ h9 => h9) rfl dX5_kind_153 ?_
        refine lv_iload_n hx hb dX5_kind_156 rfl (lv_at hl 5 rfl) ?_
        refine ld_i hx hb hK.1 hP 2 0 rfl rfl (ix6z (ok_of hm2 c_1)) ((6 * c).toNatClampNeg) rfl (v := gc ((6 * c).toNatClampNeg)) rfl dX5_kind_157 ?_
        refine lv_if_ne (tgt := 205) hx hb dX5_kind_158 (by decide) (fun c_4 => ?_) (fun c_4 => ?_)
        · skip
          refine lv_lload hx hb dX5_kind_205 (lv_at hl 1 rfl) ?_
          refine lv_lload hx hb dX5_kind_207 (lv_at hl 1 rfl) ?_
          refine lv_lmul hx hb dX5_kind_209 ?_
          refine lv_lload hx hb dX5_kind_210 (lv_at hl 0 rfl) ?_
          refine lv_lload hx hb dX5_kind_212 (lv_at hl 0 rfl) ?_
          refine lv_lmul hx hb dX5_kind_214 ?_
          refine lv_ladd hx hb dX5_kind_215 ?_
          refine lv_ldc2 hx hb hown k_3 dX5_kind_216 ?_
          refine lv_lload_n hx hb dX5_kind_219 rfl (lv_at hl 4 rfl) ?_
          refine lv_lmul hx hb dX5_kind_220 ?_
          refine lv_aload_n hx hb dX5_kind_221 rfl (lv_at hl 6 rfl) ?_
          refine va_get (D := D) (ci := 5) (v := .ref mC) (C := RX5) (T := TX5) (N := 17) hx hb hts k_2 hown hK.1 hP 0 rfl rfl 2 (by decide) k_1 (fun _ h9 => h9) rfl dX5_kind_222 ?_
          refine lv_iload_n hx hb dX5_kind_225 rfl (lv_at hl 5 rfl) ?_
          refine lv_iconst (v := 5) hx hb dX5_kind_226 (by decide) ?_
          refine lv_iadd hx hb dX5_kind_227 ?_
          refine ld_i hx hb hK.1 hP 2 0 rfl rfl (ix6l (ok_of hm2 c_1) 5 (by decide)) (((6 * c) + 5).toNatClampNeg) rfl (v := gc (((6 * c) + 5).toNatClampNeg)) rfl dX5_kind_228 ?_
          refine lv_i2l hx hb dX5_kind_229 rfl ?_
          refine lv_lmul hx hb dX5_kind_230 ?_
          refine lv_lsub hx hb dX5_kind_231 ?_
          refine lv_eql (v := z5_kind_v1 gc c) (by delta z5_kind_v1; rfl) ?_
          refine lv_lstore (lv' := [(13, .long (z5_kind_v1 gc c)), (11, .long ((gc (((6 * c) + 4).toNatClampNeg)).toInt64)), (9, .long ((gc (((6 * c) + 3).toNatClampNeg)).toInt64)), (7, .long (z5_discOf gc (z5_detOf_f2 gc fx c) c)), (5, .long (z5_detOf gc fx fa c)), (3, .long (((gc ((6 * c).toNatClampNeg)) + (gc (((6 * c) + 2).toNatClampNeg))).toInt64)), (2, .int (6 * c)), (0, .ref o), (1, .int c)]) hx hb dX5_kind_232 hl (by decide) rfl (fun ls hl => ?_)
          refine lv_lload hx hb dX5_kind_234 (lv_at hl 0 rfl) ?_
          refine lv_lconst (v := 0) hx hb dX5_kind_236 (by decide) ?_
          refine lb_le (tgt := 245) hx hb dX5_kind_237 rfl dX5_kind_238 (by decide) (fun c_5 => ?_) (fun c_5 => ?_)
          · skip
            refine lv_lload hx hb dX5_kind_245 (lv_at hl 0 rfl) ?_
            refine lv_lconst (v := 0) hx hb dX5_kind_247 (by decide) ?_
            refine lb_ne (tgt := 257) hx hb dX5_kind_248 rfl dX5_kind_249 (by decide) (fun c_6 => ?_) (fun c_6 => ?_)
            · skip
              refine lv_bipush (v := 8) hx hb dX5_kind_257 (by decide) ?_
              have he : z5_kind gm gc fx fa c = 8 := by unfold z5_kind; rw [if_neg c_1, if_pos c_2, if_pos c_3, if_neg c_4, if_pos c_5, if_neg c_6]
              exact rt_i (w1 := fun uu : (Nat → Int64) × (Nat → Int64) => [kM o mP mL mC mN mF mR mD mV mX mA mK cm mT pm mU mH mI, kA mN cI 3 gm, kA mC cI 360 gc, kJ mX cJ 9 uu.1, kJ mA cJ 9 uu.2]) hx hb hr hlk hS dX5_kind_259 ((z5_discOf_f2 gc (z5_detOf_f2 gc fx c) c, z5_detOf_f3 gc fx fa c)) he.symm (by (try dsimp only); exact hP) (by (try dsimp only); exact hD)
            · skip
              refine lv_bipush (v := 6) hx hb dX5_kind_252 (by decide) ?_
              refine lv_goto (tgt := 259) hx hb dX5_kind_254 (by decide) ?_
              have he : z5_kind gm gc fx fa c = 6 := by unfold z5_kind; rw [if_neg c_1, if_pos c_2, if_pos c_3, if_neg c_4, if_pos c_5, if_pos c_6]
              exact rt_i (w1 := fun uu : (Nat → Int64) × (Nat → Int64) => [kM o mP mL mC mN mF mR mD mV mX mA mK cm mT pm mU mH mI, kA mN cI 3 gm, kA mC cI 360 gc, kJ mX cJ 9 uu.1, kJ mA cJ 9 uu.2]) hx hb hr hlk hS dX5_kind_259 ((z5_discOf_f2 gc (z5_detOf_f2 gc fx c) c, z5_detOf_f3 gc fx fa c)) he.symm (by (try dsimp only); exact hP) (by (try dsimp only); exact hD)
          · skip
            refine lv_iconst (v := 5) hx hb dX5_kind_241 (by decide) ?_
            refine lv_goto (tgt := 259) hx hb dX5_kind_242 (by decide) ?_
            have he : z5_kind gm gc fx fa c = 5 := by unfold z5_kind; rw [if_neg c_1, if_pos c_2, if_pos c_3, if_neg c_4, if_neg c_5]
            exact rt_i (w1 := fun uu : (Nat → Int64) × (Nat → Int64) => [kM o mP mL mC mN mF mR mD mV mX mA mK cm mT pm mU mH mI, kA mN cI 3 gm, kA mC cI 360 gc, kJ mX cJ 9 uu.1, kJ mA cJ 9 uu.2]) hx hb hr hlk hS dX5_kind_259 ((z5_discOf_f2 gc (z5_detOf_f2 gc fx c) c, z5_detOf_f3 gc fx fa c)) he.symm (by (try dsimp only); exact hP) (by (try dsimp only); exact hD)
        · skip
          refine lv_aload_n hx hb dX5_kind_161 rfl (lv_at hl 6 rfl) ?_
          refine va_get (D := D) (ci := 5) (v := .ref mC) (C := RX5) (T := TX5) (N := 17) hx hb hts k_2 hown hK.1 hP 0 rfl rfl 2 (by decide) k_1 (fun _ h9 => h9) rfl dX5_kind_162 ?_
          refine lv_iload_n hx hb dX5_kind_165 rfl (lv_at hl 5 rfl) ?_
          refine lv_iconst (v := 1) hx hb dX5_kind_166 (by decide) ?_
          refine lv_iadd hx hb dX5_kind_167 ?_
          refine ld_i hx hb hK.1 hP 2 0 rfl rfl (ix6l (ok_of hm2 c_1) 1 (by decide)) (((6 * c) + 1).toNatClampNeg) rfl (v := gc (((6 * c) + 1).toNatClampNeg)) rfl dX5_kind_168 ?_
          refine lv_if_ne (tgt := 205) hx hb dX5_kind_169 (by decide) (fun c_7 => ?_) (fun c_7 => ?_)
          · skip
            refine lv_lload hx hb dX5_kind_205 (lv_at hl 1 rfl) ?_
            refine lv_lload hx hb dX5_kind_207 (lv_at hl 1 rfl) ?_
            refine lv_lmul hx hb dX5_kind_209 ?_
            refine lv_lload hx hb dX5_kind_210 (lv_at hl 0 rfl) ?_
            refine lv_lload hx hb dX5_kind_212 (lv_at hl 0 rfl) ?_
            refine lv_lmul hx hb dX5_kind_214 ?_
            refine lv_ladd hx hb dX5_kind_215 ?_
            refine lv_ldc2 hx hb hown k_3 dX5_kind_216 ?_
            refine lv_lload_n hx hb dX5_kind_219 rfl (lv_at hl 4 rfl) ?_
            refine lv_lmul hx hb dX5_kind_220 ?_
            refine lv_aload_n hx hb dX5_kind_221 rfl (lv_at hl 6 rfl) ?_
            refine va_get (D := D) (ci := 5) (v := .ref mC) (C := RX5) (T := TX5) (N := 17) hx hb hts k_2 hown hK.1 hP 0 rfl rfl 2 (by decide) k_1 (fun _ h9 => h9) rfl dX5_kind_222 ?_
            refine lv_iload_n hx hb dX5_kind_225 rfl (lv_at hl 5 rfl) ?_
            refine lv_iconst (v := 5) hx hb dX5_kind_226 (by decide) ?_
            refine lv_iadd hx hb dX5_kind_227 ?_
            refine ld_i hx hb hK.1 hP 2 0 rfl rfl (ix6l (ok_of hm2 c_1) 5 (by decide)) (((6 * c) + 5).toNatClampNeg) rfl (v := gc (((6 * c) + 5).toNatClampNeg)) rfl dX5_kind_228 ?_
            refine lv_i2l hx hb dX5_kind_229 rfl ?_
            refine lv_lmul hx hb dX5_kind_230 ?_
            refine lv_lsub hx hb dX5_kind_231 ?_
            refine lv_eql (v := z5_kind_v1 gc c) (by delta z5_kind_v1; rfl) ?_
            refine lv_lstore (lv' := [(13, .long (z5_kind_v1 gc c)), (11, .long ((gc (((6 * c) + 4).toNatClampNeg)).toInt64)), (9, .long ((gc (((6 * c) + 3).toNatClampNeg)).toInt64)), (7, .long (z5_discOf gc (z5_detOf_f2 gc fx c) c)), (5, .long (z5_detOf gc fx fa c)), (3, .long (((gc ((6 * c).toNatClampNeg)) + (gc (((6 * c) + 2).toNatClampNeg))).toInt64)), (2, .int (6 * c)), (0, .ref o), (1, .int c)]) hx hb dX5_kind_232 hl (by decide) rfl (fun ls hl => ?_)
            refine lv_lload hx hb dX5_kind_234 (lv_at hl 0 rfl) ?_
            refine lv_lconst (v := 0) hx hb dX5_kind_236 (by decide) ?_
            refine lb_le (tgt := 245) hx hb dX5_kind_237 rfl dX5_kind_238 (by decide) (fun c_8 => ?_) (fun c_8 => ?_)
            · skip
              refine lv_lload hx hb dX5_kind_245 (lv_at hl 0 rfl) ?_
              refine lv_lconst (v := 0) hx hb dX5_kind_247 (by decide) ?_
              refine lb_ne (tgt := 257) hx hb dX5_kind_248 rfl dX5_kind_249 (by decide) (fun c_9 => ?_) (fun c_9 => ?_)
              · skip
                refine lv_bipush (v := 8) hx hb dX5_kind_257 (by decide) ?_
                have he : z5_kind gm gc fx fa c = 8 := by unfold z5_kind; rw [if_neg c_1, if_pos c_2, if_pos c_3, if_pos c_4, if_neg c_7, if_pos c_8, if_neg c_9]
                exact rt_i (w1 := fun uu : (Nat → Int64) × (Nat → Int64) => [kM o mP mL mC mN mF mR mD mV mX mA mK cm mT pm mU mH mI, kA mN cI 3 gm, kA mC cI 360 gc, kJ mX cJ 9 uu.1, kJ mA cJ 9 uu.2]) hx hb hr hlk hS dX5_kind_259 ((z5_discOf_f2 gc (z5_detOf_f2 gc fx c) c, z5_detOf_f3 gc fx fa c)) he.symm (by (try dsimp only); exact hP) (by (try dsimp only); exact hD)
              · skip
                refine lv_bipush (v := 6) hx hb dX5_kind_252 (by decide) ?_
                refine lv_goto (tgt := 259) hx hb dX5_kind_254 (by decide) ?_
                have he : z5_kind gm gc fx fa c = 6 := by unfold z5_kind; rw [if_neg c_1, if_pos c_2, if_pos c_3, if_pos c_4, if_neg c_7, if_pos c_8, if_pos c_9]
                exact rt_i (w1 := fun uu : (Nat → Int64) × (Nat → Int64) => [kM o mP mL mC mN mF mR mD mV mX mA mK cm mT pm mU mH mI, kA mN cI 3 gm, kA mC cI 360 gc, kJ mX cJ 9 uu.1, kJ mA cJ 9 uu.2]) hx hb hr hlk hS dX5_kind_259 ((z5_discOf_f2 gc (z5_detOf_f2 gc fx c) c, z5_detOf_f3 gc fx fa c)) he.symm (by (try dsimp only); exact hP) (by (try dsimp only); exact hD)
            · skip
              refine lv_iconst (v := 5) hx hb dX5_kind_241 (by decide) ?_
              refine lv_goto (tgt := 259) hx hb dX5_kind_242 (by decide) ?_
              have he : z5_kind gm gc fx fa c = 5 := by unfold z5_kind; rw [if_neg c_1, if_pos c_2, if_pos c_3, if_pos c_4, if_neg c_7, if_neg c_8]
              exact rt_i (w1 := fun uu : (Nat → Int64) × (Nat → Int64) => [kM o mP mL mC mN mF mR mD mV mX mA mK cm mT pm mU mH mI, kA mN cI 3 gm, kA mC cI 360 gc, kJ mX cJ 9 uu.1, kJ mA cJ 9 uu.2]) hx hb hr hlk hS dX5_kind_259 ((z5_discOf_f2 gc (z5_detOf_f2 gc fx c) c, z5_detOf_f3 gc fx fa c)) he.symm (by (try dsimp only); exact hP) (by (try dsimp only); exact hD)
          · skip
            refine lv_aload_n hx hb dX5_kind_172 rfl (lv_at hl 6 rfl) ?_
            refine va_get (D := D) (ci := 5) (v := .ref mC) (C := RX5) (T := TX5) (N := 17) hx hb hts k_2 hown hK.1 hP 0 rfl rfl 2 (by decide) k_1 (fun _ h9 => h9) rfl dX5_kind_173 ?_
            refine lv_iload_n hx hb dX5_kind_176 rfl (lv_at hl 5 rfl) ?_
            refine lv_iconst (v := 2) hx hb dX5_kind_177 (by decide) ?_
            refine lv_iadd hx hb dX5_kind_178 ?_
            refine ld_i hx hb hK.1 hP 2 0 rfl rfl (ix6l (ok_of hm2 c_1) 2 (by decide)) (((6 * c) + 2).toNatClampNeg) rfl (v := gc (((6 * c) + 2).toNatClampNeg)) rfl dX5_kind_179 ?_
            refine lv_if_ne (tgt := 205) hx hb dX5_kind_180 (by decide) (fun c_10 => ?_) (fun c_10 => ?_)
            · skip
              refine lv_lload hx hb dX5_kind_205 (lv_at hl 1 rfl) ?_
              refine lv_lload hx hb dX5_kind_207 (lv_at hl 1 rfl) ?_
              refine lv_lmul hx hb dX5_kind_209 ?_
              refine lv_lload hx hb dX5_kind_210 (lv_at hl 0 rfl) ?_
              refine lv_lload hx hb dX5_kind_212 (lv_at hl 0 rfl) ?_
              refine lv_lmul hx hb dX5_kind_214 ?_
              refine lv_ladd hx hb dX5_kind_215 ?_
              refine lv_ldc2 hx hb hown k_3 dX5_kind_216 ?_
              refine lv_lload_n hx hb dX5_kind_219 rfl (lv_at hl 4 rfl) ?_
              refine lv_lmul hx hb dX5_kind_220 ?_
              refine lv_aload_n hx hb dX5_kind_221 rfl (lv_at hl 6 rfl) ?_
              refine va_get (D := D) (ci := 5) (v := .ref mC) (C := RX5) (T := TX5) (N := 17) hx hb hts k_2 hown hK.1 hP 0 rfl rfl 2 (by decide) k_1 (fun _ h9 => h9) rfl dX5_kind_222 ?_
              refine lv_iload_n hx hb dX5_kind_225 rfl (lv_at hl 5 rfl) ?_
              refine lv_iconst (v := 5) hx hb dX5_kind_226 (by decide) ?_
              refine lv_iadd hx hb dX5_kind_227 ?_
              refine ld_i hx hb hK.1 hP 2 0 rfl rfl (ix6l (ok_of hm2 c_1) 5 (by decide)) (((6 * c) + 5).toNatClampNeg) rfl (v := gc (((6 * c) + 5).toNatClampNeg)) rfl dX5_kind_228 ?_
              refine lv_i2l hx hb dX5_kind_229 rfl ?_
              refine lv_lmul hx hb dX5_kind_230 ?_
              refine lv_lsub hx hb dX5_kind_231 ?_
              refine lv_eql (v := z5_kind_v1 gc c) (by delta z5_kind_v1; rfl) ?_
              refine lv_lstore (lv' := [(13, .long (z5_kind_v1 gc c)), (11, .long ((gc (((6 * c) + 4).toNatClampNeg)).toInt64)), (9, .long ((gc (((6 * c) + 3).toNatClampNeg)).toInt64)), (7, .long (z5_discOf gc (z5_detOf_f2 gc fx c) c)), (5, .long (z5_detOf gc fx fa c)), (3, .long (((gc ((6 * c).toNatClampNeg)) + (gc (((6 * c) + 2).toNatClampNeg))).toInt64)), (2, .int (6 * c)), (0, .ref o), (1, .int c)]) hx hb dX5_kind_232 hl (by decide) rfl (fun ls hl => ?_)
              refine lv_lload hx hb dX5_kind_234 (lv_at hl 0 rfl) ?_
              refine lv_lconst (v := 0) hx hb dX5_kind_236 (by decide) ?_
              refine lb_le (tgt := 245) hx hb dX5_kind_237 rfl dX5_kind_238 (by decide) (fun c_11 => ?_) (fun c_11 => ?_)
              · skip
                refine lv_lload hx hb dX5_kind_245 (lv_at hl 0 rfl) ?_
                refine lv_lconst (v := 0) hx hb dX5_kind_247 (by decide) ?_
                refine lb_ne (tgt := 257) hx hb dX5_kind_248 rfl dX5_kind_249 (by decide) (fun c_12 => ?_) (fun c_12 => ?_)
                · skip
                  refine lv_bipush (v := 8) hx hb dX5_kind_257 (by decide) ?_
                  have he : z5_kind gm gc fx fa c = 8 := by unfold z5_kind; rw [if_neg c_1, if_pos c_2, if_pos c_3, if_pos c_4, if_pos c_7, if_neg c_10, if_pos c_11, if_neg c_12]
                  exact rt_i (w1 := fun uu : (Nat → Int64) × (Nat → Int64) => [kM o mP mL mC mN mF mR mD mV mX mA mK cm mT pm mU mH mI, kA mN cI 3 gm, kA mC cI 360 gc, kJ mX cJ 9 uu.1, kJ mA cJ 9 uu.2]) hx hb hr hlk hS dX5_kind_259 ((z5_discOf_f2 gc (z5_detOf_f2 gc fx c) c, z5_detOf_f3 gc fx fa c)) he.symm (by (try dsimp only); exact hP) (by (try dsimp only); exact hD)
                · skip
                  refine lv_bipush (v := 6) hx hb dX5_kind_252 (by decide) ?_
                  refine lv_goto (tgt := 259) hx hb dX5_kind_254 (by decide) ?_
                  have he : z5_kind gm gc fx fa c = 6 := by unfold z5_kind; rw [if_neg c_1, if_pos c_2, if_pos c_3, if_pos c_4, if_pos c_7, if_neg c_10, if_pos c_11, if_pos c_12]
                  exact rt_i (w1 := fun uu : (Nat → Int64) × (Nat → Int64) => [kM o mP mL mC mN mF mR mD mV mX mA mK cm mT pm mU mH mI, kA mN cI 3 gm, kA mC cI 360 gc, kJ mX cJ 9 uu.1, kJ mA cJ 9 uu.2]) hx hb hr hlk hS dX5_kind_259 ((z5_discOf_f2 gc (z5_detOf_f2 gc fx c) c, z5_detOf_f3 gc fx fa c)) he.symm (by (try dsimp only); exact hP) (by (try dsimp only); exact hD)
              · skip
                refine lv_iconst (v := 5) hx hb dX5_kind_241 (by decide) ?_
                refine lv_goto (tgt := 259) hx hb dX5_kind_242 (by decide) ?_
                have he : z5_kind gm gc fx fa c = 5 := by unfold z5_kind; rw [if_neg c_1, if_pos c_2, if_pos c_3, if_pos c_4, if_pos c_7, if_neg c_10, if_neg c_11]
                exact rt_i (w1 := fun uu : (Nat → Int64) × (Nat → Int64) => [kM o mP mL mC mN mF mR mD mV mX mA mK cm mT pm mU mH mI, kA mN cI 3 gm, kA mC cI 360 gc, kJ mX cJ 9 uu.1, kJ mA cJ 9 uu.2]) hx hb hr hlk hS dX5_kind_259 ((z5_discOf_f2 gc (z5_detOf_f2 gc fx c) c, z5_detOf_f3 gc fx fa c)) he.symm (by (try dsimp only); exact hP) (by (try dsimp only); exact hD)
            · skip
              refine lv_lload hx hb dX5_kind_183 (lv_at hl 1 rfl) ?_
              refine lv_lconst (v := 0) hx hb dX5_kind_185 (by decide) ?_
              refine lb_ne (tgt := 202) hx hb dX5_kind_186 rfl dX5_kind_187 (by decide) (fun c_13 => ?_) (fun c_13 => ?_)
              · skip
                refine lv_bipush (v := 9) hx hb dX5_kind_202 (by decide) ?_
                have he : z5_kind gm gc fx fa c = 9 := by unfold z5_kind; rw [if_neg c_1, if_pos c_2, if_pos c_3, if_pos c_4, if_pos c_7, if_pos c_10, if_neg c_13]
                exact rt_i (w1 := fun uu : (Nat → Int64) × (Nat → Int64) => [kM o mP mL mC mN mF mR mD mV mX mA mK cm mT pm mU mH mI, kA mN cI 3 gm, kA mC cI 360 gc, kJ mX cJ 9 uu.1, kJ mA cJ 9 uu.2]) hx hb hr hlk hS dX5_kind_204 ((z5_discOf_f2 gc (z5_detOf_f2 gc fx c) c, z5_detOf_f3 gc fx fa c)) he.symm (by (try dsimp only); exact hP) (by (try dsimp only); exact hD)
              · skip
                refine lv_lload hx hb dX5_kind_190 (lv_at hl 0 rfl) ?_
                refine lv_lconst (v := 0) hx hb dX5_kind_192 (by decide) ?_
                refine lb_ne (tgt := 202) hx hb dX5_kind_193 rfl dX5_kind_194 (by decide) (fun c_14 => ?_) (fun c_14 => ?_)
                · skip
                  refine lv_bipush (v := 9) hx hb dX5_kind_202 (by decide) ?_
                  have he : z5_kind gm gc fx fa c = 9 := by unfold z5_kind; rw [if_neg c_1, if_pos c_2, if_pos c_3, if_pos c_4, if_pos c_7, if_pos c_10, if_pos c_13, if_neg c_14]
                  exact rt_i (w1 := fun uu : (Nat → Int64) × (Nat → Int64) => [kM o mP mL mC mN mF mR mD mV mX mA mK cm mT pm mU mH mI, kA mN cI 3 gm, kA mC cI 360 gc, kJ mX cJ 9 uu.1, kJ mA cJ 9 uu.2]) hx hb hr hlk hS dX5_kind_204 ((z5_discOf_f2 gc (z5_detOf_f2 gc fx c) c, z5_detOf_f3 gc fx fa c)) he.symm (by (try dsimp only); exact hP) (by (try dsimp only); exact hD)
                · skip
                  refine lv_bipush (v := 10) hx hb dX5_kind_197 (by decide) ?_
                  refine lv_goto (tgt := 204) hx hb dX5_kind_199 (by decide) ?_
                  have he : z5_kind gm gc fx fa c = 10 := by unfold z5_kind; rw [if_neg c_1, if_pos c_2, if_pos c_3, if_pos c_4, if_pos c_7, if_pos c_10, if_pos c_13, if_pos c_14]
                  exact rt_i (w1 := fun uu : (Nat → Int64) × (Nat → Int64) => [kM o mP mL mC mN mF mR mD mV mX mA mK cm mT pm mU mH mI, kA mN cI 3 gm, kA mC cI 360 gc, kJ mX cJ 9 uu.1, kJ mA cJ 9 uu.2]) hx hb hr hlk hS dX5_kind_204 ((z5_discOf_f2 gc (z5_detOf_f2 gc fx c) c, z5_detOf_f3 gc fx fa c)) he.symm (by (try dsimp only); exact hP) (by (try dsimp only); exact hD)
      · skip
        refine lv_lload hx hb dX5_kind_116 (lv_at hl 0 rfl) ?_
        refine lv_lconst (v := 0) hx hb dX5_kind_118 (by decide) ?_
        refine lb_le (tgt := 127) hx hb dX5_kind_119 rfl dX5_kind_120 (by decide) (fun c_15 => ?_) (fun c_15 => ?_)
        · skip
          refine lv_bipush (v := 7) hx hb dX5_kind_127 (by decide) ?_
          have he : z5_kind gm gc fx fa c = 7 := by unfold z5_kind; rw [if_neg c_1, if_pos c_2, if_neg c_3, if_pos c_15]
          exact rt_i (w1 := fun uu : (Nat → Int64) × (Nat → Int64) => [kM o mP mL mC mN mF mR mD mV mX mA mK cm mT pm mU mH mI, kA mN cI 3 gm, kA mC cI 360 gc, kJ mX cJ 9 uu.1, kJ mA cJ 9 uu.2]) hx hb hr hlk hS dX5_kind_129 ((z5_discOf_f2 gc (z5_detOf_f2 gc fx c) c, z5_detOf_f3 gc fx fa c)) he.symm (by (try dsimp only); exact hP) (by (try dsimp only); exact hD)
        · skip
          refine lv_iconst (v := 4) hx hb dX5_kind_123 (by decide) ?_
          refine lv_goto (tgt := 129) hx hb dX5_kind_124 (by decide) ?_
          have he : z5_kind gm gc fx fa c = 4 := by unfold z5_kind; rw [if_neg c_1, if_pos c_2, if_neg c_3, if_neg c_15]
          exact rt_i (w1 := fun uu : (Nat → Int64) × (Nat → Int64) => [kM o mP mL mC mN mF mR mD mV mX mA mK cm mT pm mU mH mI, kA mN cI 3 gm, kA mC cI 360 gc, kJ mX cJ 9 uu.1, kJ mA cJ 9 uu.2]) hx hb hr hlk hS dX5_kind_129 ((z5_discOf_f2 gc (z5_detOf_f2 gc fx c) c, z5_detOf_f3 gc fx fa c)) he.symm (by (try dsimp only); exact hP) (by (try dsimp only); exact hD)
    · skip
      refine lv_lload hx hb dX5_kind_55 (lv_at hl 0 rfl) ?_
      refine lv_lconst (v := 0) hx hb dX5_kind_57 (by decide) ?_
      refine lb_le (tgt := 66) hx hb dX5_kind_58 rfl dX5_kind_59 (by decide) (fun c_16 => ?_) (fun c_16 => ?_)
      · skip
        refine lv_lload hx hb dX5_kind_66 (lv_at hl 0 rfl) ?_
        refine lv_lconst (v := 0) hx hb dX5_kind_68 (by decide) ?_
        refine lb_ne (tgt := 77) hx hb dX5_kind_69 rfl dX5_kind_70 (by decide) (fun c_17 => ?_) (fun c_17 => ?_)
        · skip
          refine lv_lload_n hx hb dX5_kind_77 rfl (lv_at hl 2 rfl) ?_
          refine lv_lconst (v := 0) hx hb dX5_kind_78 (by decide) ?_
          refine lb_le (tgt := 87) hx hb dX5_kind_79 rfl dX5_kind_80 (by decide) (fun c_18 => ?_) (fun c_18 => ?_)
          · skip
            refine lv_iconst (v := 0) hx hb dX5_kind_87 (by decide) ?_
            refine lv_lload hx hb dX5_kind_88 (lv_at hl 1 rfl) ?_
            refine lv_lconst (v := 0) hx hb dX5_kind_90 (by decide) ?_
            refine lb_ge (tgt := 99) hx hb dX5_kind_91 rfl dX5_kind_92 (by decide) (fun c_19 => ?_) (fun c_19 => ?_)
            · skip
              refine lv_iconst (v := 0) hx hb dX5_kind_99 (by decide) ?_
              refine lv_icmp_ne (tgt := 107) hx hb dX5_kind_100 (by decide) (fun h => absurd (by decide) h) (fun _ => ?_)
              refine lv_iconst (v := 0) hx hb dX5_kind_103 (by decide) ?_
              refine lv_goto (tgt := 108) hx hb dX5_kind_104 (by decide) ?_
              have he : z5_kind gm gc fx fa c = 0 := by unfold z5_kind; rw [if_neg c_1, if_neg c_2, if_pos c_16, if_neg c_17, if_pos c_18, if_pos c_19]
              exact rt_i (w1 := fun uu : (Nat → Int64) × (Nat → Int64) => [kM o mP mL mC mN mF mR mD mV mX mA mK cm mT pm mU mH mI, kA mN cI 3 gm, kA mC cI 360 gc, kJ mX cJ 9 uu.1, kJ mA cJ 9 uu.2]) hx hb hr hlk hS dX5_kind_108 ((z5_discOf_f2 gc (z5_detOf_f2 gc fx c) c, z5_detOf_f3 gc fx fa c)) he.symm (by (try dsimp only); exact hP) (by (try dsimp only); exact hD)
            · skip
              refine lv_iconst (v := 1) hx hb dX5_kind_95 (by decide) ?_
              refine lv_goto (tgt := 100) hx hb dX5_kind_96 (by decide) ?_
              refine lv_icmp_ne (tgt := 107) hx hb dX5_kind_100 (by decide) (fun _ => ?_) (fun h => absurd h (by decide))
              refine lv_iconst (v := 1) hx hb dX5_kind_107 (by decide) ?_
              have he : z5_kind gm gc fx fa c = 1 := by unfold z5_kind; rw [if_neg c_1, if_neg c_2, if_pos c_16, if_neg c_17, if_pos c_18, if_neg c_19]
              exact rt_i (w1 := fun uu : (Nat → Int64) × (Nat → Int64) => [kM o mP mL mC mN mF mR mD mV mX mA mK cm mT pm mU mH mI, kA mN cI 3 gm, kA mC cI 360 gc, kJ mX cJ 9 uu.1, kJ mA cJ 9 uu.2]) hx hb hr hlk hS dX5_kind_108 ((z5_discOf_f2 gc (z5_detOf_f2 gc fx c) c, z5_detOf_f3 gc fx fa c)) he.symm (by (try dsimp only); exact hP) (by (try dsimp only); exact hD)
          · skip
            refine lv_iconst (v := 1) hx hb dX5_kind_83 (by decide) ?_
            refine lv_goto (tgt := 88) hx hb dX5_kind_84 (by decide) ?_
            refine lv_lload hx hb dX5_kind_88 (lv_at hl 1 rfl) ?_
            refine lv_lconst (v := 0) hx hb dX5_kind_90 (by decide) ?_
            refine lb_ge (tgt := 99) hx hb dX5_kind_91 rfl dX5_kind_92 (by decide) (fun c_20 => ?_) (fun c_20 => ?_)
            · skip
              refine lv_iconst (v := 0) hx hb dX5_kind_99 (by decide) ?_
              refine lv_icmp_ne (tgt := 107) hx hb dX5_kind_100 (by decide) (fun _ => ?_) (fun h => absurd h (by decide))
              refine lv_iconst (v := 1) hx hb dX5_kind_107 (by decide) ?_
              have he : z5_kind gm gc fx fa c = 1 := by unfold z5_kind; rw [if_neg c_1, if_neg c_2, if_pos c_16, if_neg c_17, if_neg c_18, if_pos c_20]
              exact rt_i (w1 := fun uu : (Nat → Int64) × (Nat → Int64) => [kM o mP mL mC mN mF mR mD mV mX mA mK cm mT pm mU mH mI, kA mN cI 3 gm, kA mC cI 360 gc, kJ mX cJ 9 uu.1, kJ mA cJ 9 uu.2]) hx hb hr hlk hS dX5_kind_108 ((z5_discOf_f2 gc (z5_detOf_f2 gc fx c) c, z5_detOf_f3 gc fx fa c)) he.symm (by (try dsimp only); exact hP) (by (try dsimp only); exact hD)
            · skip
              refine lv_iconst (v := 1) hx hb dX5_kind_95 (by decide) ?_
              refine lv_goto (tgt := 100) hx hb dX5_kind_96 (by decide) ?_
              refine lv_icmp_ne (tgt := 107) hx hb dX5_kind_100 (by decide) (fun h => absurd (by decide) h) (fun _ => ?_)
              refine lv_iconst (v := 0) hx hb dX5_kind_103 (by decide) ?_
              refine lv_goto (tgt := 108) hx hb dX5_kind_104 (by decide) ?_
              have he : z5_kind gm gc fx fa c = 0 := by unfold z5_kind; rw [if_neg c_1, if_neg c_2, if_pos c_16, if_neg c_17, if_neg c_18, if_neg c_20]
              exact rt_i (w1 := fun uu : (Nat → Int64) × (Nat → Int64) => [kM o mP mL mC mN mF mR mD mV mX mA mK cm mT pm mU mH mI, kA mN cI 3 gm, kA mC cI 360 gc, kJ mX cJ 9 uu.1, kJ mA cJ 9 uu.2]) hx hb hr hlk hS dX5_kind_108 ((z5_discOf_f2 gc (z5_detOf_f2 gc fx c) c, z5_detOf_f3 gc fx fa c)) he.symm (by (try dsimp only); exact hP) (by (try dsimp only); exact hD)
        · skip
          refine lv_iconst (v := 2) hx hb dX5_kind_73 (by decide) ?_
          refine lv_goto (tgt := 108) hx hb dX5_kind_74 (by decide) ?_
          have he : z5_kind gm gc fx fa c = 2 := by unfold z5_kind; rw [if_neg c_1, if_neg c_2, if_pos c_16, if_pos c_17]
          exact rt_i (w1 := fun uu : (Nat → Int64) × (Nat → Int64) => [kM o mP mL mC mN mF mR mD mV mX mA mK cm mT pm mU mH mI, kA mN cI 3 gm, kA mC cI 360 gc, kJ mX cJ 9 uu.1, kJ mA cJ 9 uu.2]) hx hb hr hlk hS dX5_kind_108 ((z5_discOf_f2 gc (z5_detOf_f2 gc fx c) c, z5_detOf_f3 gc fx fa c)) he.symm (by (try dsimp only); exact hP) (by (try dsimp only); exact hD)
      · skip
        refine lv_iconst (v := 3) hx hb dX5_kind_62 (by decide) ?_
        refine lv_goto (tgt := 108) hx hb dX5_kind_63 (by decide) ?_
        have he : z5_kind gm gc fx fa c = 3 := by unfold z5_kind; rw [if_neg c_1, if_neg c_2, if_neg c_16]
        exact rt_i (w1 := fun uu : (Nat → Int64) × (Nat → Int64) => [kM o mP mL mC mN mF mR mD mV mX mA mK cm mT pm mU mH mI, kA mN cI 3 gm, kA mC cI 360 gc, kJ mX cJ 9 uu.1, kJ mA cJ 9 uu.2]) hx hb hr hlk hS dX5_kind_108 ((z5_discOf_f2 gc (z5_detOf_f2 gc fx c) c, z5_detOf_f3 gc fx fa c)) he.symm (by (try dsimp only); exact hP) (by (try dsimp only); exact hD)
  · skip
    refine lv_ldc hx hb hown k_4 dX5_kind_9 ?_
    have he : z5_kind gm gc fx fa c = (-1000002) := by unfold z5_kind; rw [if_pos c_1]
    exact rt_i (w1 := fun uu : (Nat → Int64) × (Nat → Int64) => [kM o mP mL mC mN mF mR mD mV mX mA mK cm mT pm mU mH mI, kA mN cI 3 gm, kA mC cI 360 gc, kJ mX cJ 9 uu.1, kJ mA cJ 9 uu.2]) hx hb hr hlk hS dX5_kind_11 ((fx, fa)) he.symm (by (try dsimp only); exact hP) (by (try dsimp only); exact hD)
def z5_told (gm : Nat → Int32) (gc : Nat → Int32) (fx : Nat → Int64) (fa : Nat → Int64) (c : Int32) (w : Int32) : Int64 := if (z5_isOf_2 gm c) = 0 then (-1000002) else if w = 0 then z5_detOf gc fx fa c else if w = 1 then z5_discOf gc fx c else (-1000003)
set_option maxHeartbeats 4000000 in
set_option maxRecDepth 100000 in
/-- X5.told -/
theorem c_X5_told (l : Launch) (D : va_G) (cI cJ : ClassId) (o : Nat) (mP : Nat) (mL : Nat) (mC : Nat) (mN : Nat) (mF : Nat) (mR : Nat) (mD : Nat) (mV : Nat) (mX : Nat) (mA : Nat) (mK : Nat) (mT : Nat) (mU : Nat) (mH : Nat) (mI : Nat) (cm : Int32) (pm : Int32) (gm : Nat → Int32) (gc : Nat → Int32) (fx : Nat → Int64) (fa : Nat → Int64) (c : Int32) (w : Int32) (hm2 : n_ok (gm 2)) : mw_C l yX5_told wsX5_told ({ frames := 3, cells := 0, slots := 0, locals := 75 }) D cI cJ [.ref o, .int c, .int w] [kM o mP mL mC mN mF mR mD mV mX mA mK cm mT pm mU mH mI, kA mN cI 3 gm, kA mC cI 360 gc, kJ mX cJ 9 fx, kJ mA cJ 9 fa] (qe_l (fun (r : Int64) (_ : (Nat → Int64) × (Nat → Int64)) => r = z5_told gm gc fx fa c w) (fun uu => [kM o mP mL mC mN mF mR mD mV mX mA mK cm mT pm mU mH mI, kA mN cI 3 gm, kA mC cI 360 gc, kJ mX cJ 9 uu.1, kJ mA cJ 9 uu.2])) := by
  refine mw_in (cc := cX5_told) (lv := [(0, .ref o), (1, .int c), (2, .int w)]) (by decide) rfl (Nat.le_of_ble_eq_true rfl) rfl ?_
  intro pG eG sG mG below meth cG ls A hx hb hr hml hown hts hlk hin hP hK hD hA hS hl
  have hown : sG.vm.findClass RX5 = some mG.cls := hown
  have k_1 := hts (.constantLong RX5 168 (-1000003)) (by decide +kernel)
  have k_2 := hts (.constantLong RX5 166 (-1000002)) (by decide +kernel)
  refine lv_aload_n hx hb dX5_told_0 rfl (lv_at hl 0 rfl) ?_
  refine lv_iconst (v := 2) hx hb dX5_told_1 (by decide) ?_
  refine lv_iload_n hx hb dX5_told_2 rfl (lv_at hl 1 rfl) ?_
  have hPc := hP.sub (ws' := [kM o mP mL mC mN mF mR mD mV mX mA mK cm mT pm mU mH mI, kA mN cI 3 gm]) [0, 1] rfl
  refine cr_i (va_runV (As := [.int 2, .int c]) (rest := []) ⟨hx, hb, hml, hown, hts⟩ (c_X5_isOf_2 l D cI cJ o mP mL mC mN mF mR mD mV mX mA mK mT mU mH mI cm pm gm c) (cwV 2 hts gX5_told_X5_isOf rfl rfl rfl (by decide +kernel) ⟨Nat.le_of_ble_eq_true rfl, Nat.le_of_ble_eq_true rfl⟩) ⟨gd_blR, va_recv hK.1 hPc (ci := 5) (q0 := 0) rfl rfl, gd_prR hPc hK⟩ rfl rfl hl.1 rfl (lv_room (Nat.le_of_ble_eq_true rfl)) dX5_told_3 ⟨Nat.zero_le _, Nat.zero_le _⟩) (fun r_3 hw => ?_)
  subst hw
  clear hPc
  refine lv_if_ne (tgt := 13) hx hb dX5_told_6 (by decide) (fun c_1 => ?_) (fun c_1 => ?_)
  · skip
    refine lv_iload_n hx hb dX5_told_13 rfl (lv_at hl 2 rfl) ?_
    refine lv_if_ne (tgt := 25) hx hb dX5_told_14 (by decide) (fun c_2 => ?_) (fun c_2 => ?_)
    · skip
      refine lv_iload_n hx hb dX5_told_25 rfl (lv_at hl 2 rfl) ?_
      refine lv_iconst (v := 1) hx hb dX5_told_26 (by decide) ?_
      refine lv_icmp_ne (tgt := 38) hx hb dX5_told_27 (by decide) (fun c_3 => ?_) (fun c_3 => ?_)
      · skip
        refine lv_ldc2 hx hb hown k_1 dX5_told_38 ?_
        have he : z5_told gm gc fx fa c w = (-1000003) := by unfold z5_told; rw [if_neg c_1, if_neg c_2, if_neg c_3]
        exact rt_l (w1 := fun uu : (Nat → Int64) × (Nat → Int64) => [kM o mP mL mC mN mF mR mD mV mX mA mK cm mT pm mU mH mI, kA mN cI 3 gm, kA mC cI 360 gc, kJ mX cJ 9 uu.1, kJ mA cJ 9 uu.2]) hx hb hr hlk hS dX5_told_41 ((fx, fa)) he.symm (by (try dsimp only); exact hP) (by (try dsimp only); exact hD)
      · skip
        refine lv_aload_n hx hb dX5_told_30 rfl (lv_at hl 0 rfl) ?_
        refine lv_iload_n hx hb dX5_told_31 rfl (lv_at hl 1 rfl) ?_
        have hPc := hP.sub (ws' := [kM o mP mL mC mN mF mR mD mV mX mA mK cm mT pm mU mH mI, kA mC cI 360 gc, kJ mX cJ 9 fx]) [0, 2, 3] rfl
        have hDc := hD.sub (ws' := [kM o mP mL mC mN mF mR mD mV mX mA mK cm mT pm mU mH mI, kA mC cI 360 gc, kJ mX cJ 9 fx]) [0, 2, 3] (by decide) rfl
        refine cl_l (wc := [kM o mP mL mC mN mF mR mD mV mX mA mK cm mT pm mU mH mI, kA mC cI 360 gc, kJ mX cJ 9 fx]) (wr := [kA mN cI 3 gm, kJ mA cJ 9 fa]) (w1 := fun uu : Unit => [kM o mP mL mC mN mF mR mD mV mX mA mK cm mT pm mU mH mI, kA mC cI 360 gc, kJ mX cJ 9 (z5_discOf_f2 gc fx c)]) (wn := fun uu : Unit => [kM o mP mL mC mN mF mR mD mV mX mA mK cm mT pm mU mH mI, kA mN cI 3 gm, kA mC cI 360 gc, kJ mX cJ 9 (z5_discOf_f2 gc fx c), kJ mA cJ 9 fa]) (va_runV (As := [.int c]) (rest := []) ⟨hx, hb, hml, hown, hts⟩ (c_X5_discOf l D cI cJ o mP mL mC mN mF mR mD mV mX mA mK mT mU mH mI cm pm gc fx c (ok_of hm2 c_1) _) (cwV 1 hts gX5_told_X5_discOf rfl rfl rfl (by decide +kernel) ⟨Nat.le_of_ble_eq_true rfl, Nat.le_of_ble_eq_true rfl⟩) ⟨gd_blP, va_recv hK.1 hPc (ci := 5) (q0 := 0) rfl rfl, gd_prP hPc hK hDc⟩ rfl rfl hl.1 rfl (lv_room (Nat.le_of_ble_eq_true rfl)) dX5_told_32 ⟨Nat.zero_le _, Nat.zero_le _⟩) hP hD hS hA [0, 2, 3] [1, 4] rfl rfl (by decide) (by decide) [2, 0, 3, 4, 1] (by decide) (fun _ => rfl) (fun r_32 uG H locs hw hP hD hS => ?_)
        have hP : va_P D vwCl [kM o mP mL mC mN mF mR mD mV mX mA mK cm mT pm mU mH mI, kA mN cI 3 gm, kA mC cI 360 gc, kJ mX cJ 9 (z5_discOf_f2 gc fx c), kJ mA cJ 9 fa] H := hP
        have hD : va_D A [kM o mP mL mC mN mF mR mD mV mX mA mK cm mT pm mU mH mI, kA mN cI 3 gm, kA mC cI 360 gc, kJ mX cJ 9 (z5_discOf_f2 gc fx c), kJ mA cJ 9 fa] := hD
        subst hw
        clear hPc hDc
        refine lv_goto (tgt := 41) hx hb dX5_told_35 (by decide) ?_
        have he : z5_told gm gc fx fa c w = z5_discOf gc fx c := by unfold z5_told; rw [if_neg c_1, if_neg c_2, if_pos c_3]
        exact rt_l (w1 := fun uu : (Nat → Int64) × (Nat → Int64) => [kM o mP mL mC mN mF mR mD mV mX mA mK cm mT pm mU mH mI, kA mN cI 3 gm, kA mC cI 360 gc, kJ mX cJ 9 uu.1, kJ mA cJ 9 uu.2]) hx hb hr hlk hS dX5_told_41 ((z5_discOf_f2 gc fx c, fa)) he.symm (by (try dsimp only); exact hP) (by (try dsimp only); exact hD)
    · skip
      refine lv_aload_n hx hb dX5_told_17 rfl (lv_at hl 0 rfl) ?_
      refine lv_iload_n hx hb dX5_told_18 rfl (lv_at hl 1 rfl) ?_
      have hPc := hP.sub (ws' := [kM o mP mL mC mN mF mR mD mV mX mA mK cm mT pm mU mH mI, kA mC cI 360 gc, kJ mX cJ 9 fx, kJ mA cJ 9 fa]) [0, 2, 3, 4] rfl
      have hDc := hD.sub (ws' := [kM o mP mL mC mN mF mR mD mV mX mA mK cm mT pm mU mH mI, kA mC cI 360 gc, kJ mX cJ 9 fx, kJ mA cJ 9 fa]) [0, 2, 3, 4] (by decide) rfl
      refine cl_l (wc := [kM o mP mL mC mN mF mR mD mV mX mA mK cm mT pm mU mH mI, kA mC cI 360 gc, kJ mX cJ 9 fx, kJ mA cJ 9 fa]) (wr := [kA mN cI 3 gm]) (w1 := fun uu : Unit => [kM o mP mL mC mN mF mR mD mV mX mA mK cm mT pm mU mH mI, kA mC cI 360 gc, kJ mX cJ 9 (z5_detOf_f2 gc fx c), kJ mA cJ 9 (z5_detOf_f3 gc fx fa c)]) (wn := fun uu : Unit => [kM o mP mL mC mN mF mR mD mV mX mA mK cm mT pm mU mH mI, kA mN cI 3 gm, kA mC cI 360 gc, kJ mX cJ 9 (z5_detOf_f2 gc fx c), kJ mA cJ 9 (z5_detOf_f3 gc fx fa c)]) (va_runV (As := [.int c]) (rest := []) ⟨hx, hb, hml, hown, hts⟩ (c_X5_detOf l D cI cJ o mP mL mC mN mF mR mD mV mX mA mK mT mU mH mI cm pm gc fx fa c (ok_of hm2 c_1) _) (cwV 1 hts gX5_told_X5_detOf rfl rfl rfl (by decide +kernel) ⟨Nat.le_of_ble_eq_true rfl, Nat.le_of_ble_eq_true rfl⟩) ⟨gd_blP, va_recv hK.1 hPc (ci := 5) (q0 := 0) rfl rfl, gd_prP hPc hK hDc⟩ rfl rfl hl.1 rfl (lv_room (Nat.le_of_ble_eq_true rfl)) dX5_told_19 ⟨Nat.zero_le _, Nat.zero_le _⟩) hP hD hS hA [0, 2, 3, 4] [1] rfl rfl (by decide) (by decide) [1, 0, 2, 3, 4] (by decide) (fun _ => rfl) (fun r_19 uG H locs hw hP hD hS => ?_)
      have hP : va_P D vwCl [kM o mP mL mC mN mF mR mD mV mX mA mK cm mT pm mU mH mI, kA mN cI 3 gm, kA mC cI 360 gc, kJ mX cJ 9 (z5_detOf_f2 gc fx c), kJ mA cJ 9 (z5_detOf_f3 gc fx fa c)] H := hP
      have hD : va_D A [kM o mP mL mC mN mF mR mD mV mX mA mK cm mT pm mU mH mI, kA mN cI 3 gm, kA mC cI 360 gc, kJ mX cJ 9 (z5_detOf_f2 gc fx c), kJ mA cJ 9 (z5_detOf_f3 gc fx fa c)] := hD
      subst hw
      clear hPc hDc
      refine lv_goto (tgt := 41) hx hb dX5_told_22 (by decide) ?_
      have he : z5_told gm gc fx fa c w = z5_detOf gc fx fa c := by unfold z5_told; rw [if_neg c_1, if_pos c_2]
      exact rt_l (w1 := fun uu : (Nat → Int64) × (Nat → Int64) => [kM o mP mL mC mN mF mR mD mV mX mA mK cm mT pm mU mH mI, kA mN cI 3 gm, kA mC cI 360 gc, kJ mX cJ 9 uu.1, kJ mA cJ 9 uu.2]) hx hb hr hlk hS dX5_told_41 ((z5_detOf_f2 gc fx c, z5_detOf_f3 gc fx fa c)) he.symm (by (try dsimp only); exact hP) (by (try dsimp only); exact hD)
  · skip
    refine lv_ldc2 hx hb hown k_2 dX5_told_9 ?_
    have he : z5_told gm gc fx fa c w = (-1000002) := by unfold z5_told; rw [if_pos c_1]
    exact rt_l (w1 := fun uu : (Nat → Int64) × (Nat → Int64) => [kM o mP mL mC mN mF mR mD mV mX mA mK cm mT pm mU mH mI, kA mN cI 3 gm, kA mC cI 360 gc, kJ mX cJ 9 uu.1, kJ mA cJ 9 uu.2]) hx hb hr hlk hS dX5_told_12 ((fx, fa)) he.symm (by (try dsimp only); exact hP) (by (try dsimp only); exact hD)
def z5_round (gm : Nat → Int32) (gc : Nat → Int32) (c : Int32) : Int32 := if (z5_isOf_2 gm c) = 0 then (-1000002) else if (gc (((6 * c) + 1).toNatClampNeg)) = 0 then if (gc ((6 * c).toNatClampNeg)) = (gc (((6 * c) + 2).toNatClampNeg)) then if (gc ((6 * c).toNatClampNeg)) = 0 then if ((gc ((6 * c).toNatClampNeg)) + (gc (((6 * c) + 2).toNatClampNeg))) = 0 then 0 else 0 else 1 else if ((gc ((6 * c).toNatClampNeg)) + (gc (((6 * c) + 2).toNatClampNeg))) = 0 then if (gc ((6 * c).toNatClampNeg)) = 0 then 0 else 2 else 0 else if ((gc ((6 * c).toNatClampNeg)) + (gc (((6 * c) + 2).toNatClampNeg))) = 0 then if (gc ((6 * c).toNatClampNeg)) = 0 then 2 else 2 else 0
set_option maxHeartbeats 4000000 in
set_option maxRecDepth 100000 in
/-- X5.round -/
theorem c_X5_round (l : Launch) (D : va_G) (cI cJ : ClassId) (o : Nat) (mP : Nat) (mL : Nat) (mC : Nat) (mN : Nat) (mF : Nat) (mR : Nat) (mD : Nat) (mV : Nat) (mX : Nat) (mA : Nat) (mK : Nat) (mT : Nat) (mU : Nat) (mH : Nat) (mI : Nat) (cm : Int32) (pm : Int32) (gm : Nat → Int32) (gc : Nat → Int32) (c : Int32) (hm2 : n_ok (gm 2)) : mr_C l yX5_round wsX5_round ({ frames := 2, cells := 0, slots := 0, locals := 47 }) D cI cJ [.ref o, .int c] [kM o mP mL mC mN mF mR mD mV mX mA mK cm mT pm mU mH mI, kA mN cI 3 gm, kA mC cI 360 gc] (vp_Si (fun r : Int32 => r = z5_round gm gc c)) := by
  refine mr_in (cc := cX5_round) (lv := [(0, .ref o), (1, .int c)]) (by decide) rfl (Nat.le_of_ble_eq_true rfl) rfl ?_
  intro pG eG sG mG below meth cG ls hx hb hr hml hown hts hlk hP hK hl
  have hown : sG.vm.findClass RX5 = some mG.cls := hown
  have k_1 := hts (.fieldLink RX5 16 "ConicRowsModel" "conics" "[I") (by decide +kernel)
  have k_2 : ∀ w ∈ wsX50, w ∈ wsX5_round := by decide +kernel
  have k_3 := hts (.constant RX5 101 (-1000002)) (by decide +kernel)
  refine lv_aload_n hx hb dX5_round_0 rfl (lv_at hl 0 rfl) ?_
  refine lv_iconst (v := 2) hx hb dX5_round_1 (by decide) ?_
  refine lv_iload_n hx hb dX5_round_2 rfl (lv_at hl 1 rfl) ?_
  have hPc := hP.sub (ws' := [kM o mP mL mC mN mF mR mD mV mX mA mK cm mT pm mU mH mI, kA mN cI 3 gm]) [0, 1] rfl
  refine cr_i (va_runV (As := [.int 2, .int c]) (rest := []) ⟨hx, hb, hml, hown, hts⟩ (c_X5_isOf_2 l D cI cJ o mP mL mC mN mF mR mD mV mX mA mK mT mU mH mI cm pm gm c) (cwV 2 hts gX5_round_X5_isOf rfl rfl rfl (by decide +kernel) ⟨Nat.le_of_ble_eq_true rfl, Nat.le_of_ble_eq_true rfl⟩) ⟨gd_blR, va_recv hK.1 hPc (ci := 5) (q0 := 0) rfl rfl, gd_prR hPc hK⟩ rfl rfl hl.1 rfl (lv_room (Nat.le_of_ble_eq_true rfl)) dX5_round_3 ⟨Nat.zero_le _, Nat.zero_le _⟩) (fun r_3 hw => ?_)
  subst hw
  clear hPc
  refine lv_if_ne (tgt := 12) hx hb dX5_round_6 (by decide) (fun c_1 => ?_) (fun c_1 => ?_)
  · skip
    refine lv_aload_n hx hb dX5_round_12 rfl (lv_at hl 0 rfl) ?_
    refine va_get (D := D) (ci := 5) (v := .ref mC) (C := RX5) (T := TX5) (N := 17) hx hb hts k_2 hown hK.1 hP 0 rfl rfl 2 (by decide) k_1 (fun _ h9 => h9) rfl dX5_round_13 ?_
    refine lv_bipush (v := 6) hx hb dX5_round_16 (by decide) ?_
    refine lv_iload_n hx hb dX5_round_18 rfl (lv_at hl 1 rfl) ?_
    refine lv_imul hx hb dX5_round_19 ?_
    refine ld_i hx hb hK.1 hP 2 0 rfl rfl (ix6z (ok_of hm2 c_1)) ((6 * c).toNatClampNeg) rfl (v := gc ((6 * c).toNatClampNeg)) rfl dX5_round_20 ?_
    refine lv_istore_n (lv' := [(2, .int (gc ((6 * c).toNatClampNeg))), (0, .ref o), (1, .int c)]) hx hb dX5_round_21 rfl hl (by decide) rfl (fun ls hl => ?_)
    refine lv_aload_n hx hb dX5_round_22 rfl (lv_at hl 1 rfl) ?_
    refine va_get (D := D) (ci := 5) (v := .ref mC) (C := RX5) (T := TX5) (N := 17) hx hb hts k_2 hown hK.1 hP 0 rfl rfl 2 (by decide) k_1 (fun _ h9 => h9) rfl dX5_round_23 ?_
    refine lv_bipush (v := 6) hx hb dX5_round_26 (by decide) ?_
    refine lv_iload_n hx hb dX5_round_28 rfl (lv_at hl 2 rfl) ?_
    refine lv_imul hx hb dX5_round_29 ?_
    refine lv_iconst (v := 1) hx hb dX5_round_30 (by decide) ?_
    refine lv_iadd hx hb dX5_round_31 ?_
    refine ld_i hx hb hK.1 hP 2 0 rfl rfl (ix6l (ok_of hm2 c_1) 1 (by decide)) (((6 * c) + 1).toNatClampNeg) rfl (v := gc (((6 * c) + 1).toNatClampNeg)) rfl dX5_round_32 ?_
    refine lv_istore_n (lv' := [(3, .int (gc (((6 * c) + 1).toNatClampNeg))), (2, .int (gc ((6 * c).toNatClampNeg))), (0, .ref o), (1, .int c)]) hx hb dX5_round_33 rfl hl (by decide) rfl (fun ls hl => ?_)
    refine lv_aload_n hx hb dX5_round_34 rfl (lv_at hl 2 rfl) ?_
    refine va_get (D := D) (ci := 5) (v := .ref mC) (C := RX5) (T := TX5) (N := 17) hx hb hts k_2 hown hK.1 hP 0 rfl rfl 2 (by decide) k_1 (fun _ h9 => h9) rfl dX5_round_35 ?_
    refine lv_bipush (v := 6) hx hb dX5_round_38 (by decide) ?_
    refine lv_iload_n hx hb dX5_round_40 rfl (lv_at hl 3 rfl) ?_
    refine lv_imul hx hb dX5_round_41 ?_
    refine lv_iconst (v := 2) hx hb dX5_round_42 (by decide) ?_
    refine lv_iadd hx hb dX5_round_43 ?_
    refine ld_i hx hb hK.1 hP 2 0 rfl rfl (ix6l (ok_of hm2 c_1) 2 (by decide)) (((6 * c) + 2).toNatClampNeg) rfl (v := gc (((6 * c) + 2).toNatClampNeg)) rfl dX5_round_44 ?_
    refine lv_istore (lv' := [(4, .int (gc (((6 * c) + 2).toNatClampNeg))), (3, .int (gc (((6 * c) + 1).toNatClampNeg))), (2, .int (gc ((6 * c).toNatClampNeg))), (0, .ref o), (1, .int c)]) hx hb dX5_round_45 hl (by decide) rfl (fun ls hl => ?_)
    refine lv_iload_n hx hb dX5_round_47 rfl (lv_at hl 1 rfl) ?_
    refine lv_if_ne (tgt := 63) hx hb dX5_round_48 (by decide) (fun c_2 => ?_) (fun c_2 => ?_)
    · skip
      refine lv_iload_n hx hb dX5_round_63 rfl (lv_at hl 2 rfl) ?_
      refine lv_iload hx hb dX5_round_64 (lv_at hl 0 rfl) ?_
      refine lv_iadd hx hb dX5_round_66 ?_
      refine lv_if_ne (tgt := 82) hx hb dX5_round_67 (by decide) (fun c_3 => ?_) (fun c_3 => ?_)
      · skip
        refine lv_iconst (v := 0) hx hb dX5_round_82 (by decide) ?_
        have he : z5_round gm gc c = 0 := by unfold z5_round; rw [if_neg c_1, if_neg c_2, if_neg c_3]
        exact rr_i hx hb hr hlk dX5_round_83 he.symm
      · skip
        refine lv_iload_n hx hb dX5_round_70 rfl (lv_at hl 2 rfl) ?_
        refine lv_if_ne (tgt := 78) hx hb dX5_round_71 (by decide) (fun c_4 => ?_) (fun c_4 => ?_)
        · skip
          refine lv_iconst (v := 2) hx hb dX5_round_78 (by decide) ?_
          refine lv_goto (tgt := 83) hx hb dX5_round_79 (by decide) ?_
          have he : z5_round gm gc c = 2 := by unfold z5_round; rw [if_neg c_1, if_neg c_2, if_pos c_3, if_neg c_4]
          exact rr_i hx hb hr hlk dX5_round_83 he.symm
        · skip
          refine lv_iload_n hx hb dX5_round_74 rfl (lv_at hl 1 rfl) ?_
          refine lv_if_eq (tgt := 82) hx hb dX5_round_75 (by decide) (fun h => absurd h c_2) (fun _ => ?_)
          refine lv_iconst (v := 2) hx hb dX5_round_78 (by decide) ?_
          refine lv_goto (tgt := 83) hx hb dX5_round_79 (by decide) ?_
          have he : z5_round gm gc c = 2 := by unfold z5_round; rw [if_neg c_1, if_neg c_2, if_pos c_3, if_pos c_4]
          exact rr_i hx hb hr hlk dX5_round_83 he.symm
    · skip
      refine lv_iload_n hx hb dX5_round_51 rfl (lv_at hl 2 rfl) ?_
      refine lv_iload hx hb dX5_round_52 (lv_at hl 0 rfl) ?_
      refine lv_icmp_ne (tgt := 63) hx hb dX5_round_54 (by decide) (fun c_5 => ?_) (fun c_5 => ?_)
      · skip
        refine lv_iload_n hx hb dX5_round_63 rfl (lv_at hl 2 rfl) ?_
        refine lv_iload hx hb dX5_round_64 (lv_at hl 0 rfl) ?_
        refine lv_iadd hx hb dX5_round_66 ?_
        refine lv_if_ne (tgt := 82) hx hb dX5_round_67 (by decide) (fun c_6 => ?_) (fun c_6 => ?_)
        · skip
          refine lv_iconst (v := 0) hx hb dX5_round_82 (by decide) ?_
          have he : z5_round gm gc c = 0 := by unfold z5_round; rw [if_neg c_1, if_pos c_2, if_neg c_5, if_neg c_6]
          exact rr_i hx hb hr hlk dX5_round_83 he.symm
        · skip
          refine lv_iload_n hx hb dX5_round_70 rfl (lv_at hl 2 rfl) ?_
          refine lv_if_ne (tgt := 78) hx hb dX5_round_71 (by decide) (fun c_7 => ?_) (fun c_7 => ?_)
          · skip
            refine lv_iconst (v := 2) hx hb dX5_round_78 (by decide) ?_
            refine lv_goto (tgt := 83) hx hb dX5_round_79 (by decide) ?_
            have he : z5_round gm gc c = 2 := by unfold z5_round; rw [if_neg c_1, if_pos c_2, if_neg c_5, if_pos c_6, if_neg c_7]
            exact rr_i hx hb hr hlk dX5_round_83 he.symm
          · skip
            refine lv_iload_n hx hb dX5_round_74 rfl (lv_at hl 1 rfl) ?_
            refine lv_if_eq (tgt := 82) hx hb dX5_round_75 (by decide) (fun _ => ?_) (fun h => absurd c_2 h)
            refine lv_iconst (v := 0) hx hb dX5_round_82 (by decide) ?_
            have he : z5_round gm gc c = 0 := by unfold z5_round; rw [if_neg c_1, if_pos c_2, if_neg c_5, if_pos c_6, if_pos c_7]
            exact rr_i hx hb hr hlk dX5_round_83 he.symm
      · skip
        refine lv_iload_n hx hb dX5_round_57 rfl (lv_at hl 2 rfl) ?_
        refine lv_if_eq (tgt := 63) hx hb dX5_round_58 (by decide) (fun c_8 => ?_) (fun c_8 => ?_)
        · skip
          refine lv_iload_n hx hb dX5_round_63 rfl (lv_at hl 2 rfl) ?_
          refine lv_iload hx hb dX5_round_64 (lv_at hl 0 rfl) ?_
          refine lv_iadd hx hb dX5_round_66 ?_
          refine lv_if_ne (tgt := 82) hx hb dX5_round_67 (by decide) (fun c_9 => ?_) (fun c_9 => ?_)
          · skip
            refine lv_iconst (v := 0) hx hb dX5_round_82 (by decide) ?_
            have he : z5_round gm gc c = 0 := by unfold z5_round; rw [if_neg c_1, if_pos c_2, if_pos c_5, if_pos c_8, if_neg c_9]
            exact rr_i hx hb hr hlk dX5_round_83 he.symm
          · skip
            refine lv_iload_n hx hb dX5_round_70 rfl (lv_at hl 2 rfl) ?_
            refine lv_if_ne (tgt := 78) hx hb dX5_round_71 (by decide) (fun h => absurd c_8 h) (fun _ => ?_)
            refine lv_iload_n hx hb dX5_round_74 rfl (lv_at hl 1 rfl) ?_
            refine lv_if_eq (tgt := 82) hx hb dX5_round_75 (by decide) (fun _ => ?_) (fun h => absurd c_2 h)
            refine lv_iconst (v := 0) hx hb dX5_round_82 (by decide) ?_
            have he : z5_round gm gc c = 0 := by unfold z5_round; rw [if_neg c_1, if_pos c_2, if_pos c_5, if_pos c_8, if_pos c_9]
            exact rr_i hx hb hr hlk dX5_round_83 he.symm
        · skip
          refine lv_iconst (v := 1) hx hb dX5_round_61 (by decide) ?_
          have he : z5_round gm gc c = 1 := by unfold z5_round; rw [if_neg c_1, if_pos c_2, if_pos c_5, if_neg c_8]
          exact rr_i hx hb hr hlk dX5_round_62 he.symm
  · skip
    refine lv_ldc hx hb hown k_3 dX5_round_9 ?_
    have he : z5_round gm gc c = (-1000002) := by unfold z5_round; rw [if_pos c_1]
    exact rr_i hx hb hr hlk dX5_round_11 he.symm
