set_option maxHeartbeats 4000000 in
set_option maxRecDepth 100000 in
/-- X5.split -/
theorem c_X5_split_n (l : Launch) (D : va_G) (cI cJ : ClassId) (o : Nat) (mP : Nat) (mL : Nat) (mC : Nat) (mN : Nat) (mF : Nat) (mR : Nat) (mD : Nat) (mV : Nat) (mX : Nat) (mA : Nat) (mK : Nat) (mT : Nat) (mU : Nat) (mH : Nat) (mI : Nat) (cm : Int32) (pm : Int32) (gm : Nat → Int32) (gc : Nat → Int32) (fx : Nat → Int64) (fa : Nat → Int64) (ft : Nat → Int64) (fi : Nat → Int64) (c : Int32) (hm2 : n_ok (gm 2)) (hq : z5_isOf_2 gm c = 0) : mw_C l yX5_split wsX5_split ({ frames := 4, cells := 0, slots := 0, locals := 108 }) D cI cJ [.ref o, .int c] [kM o mP mL mC mN mF mR mD mV mX mA mK cm mT pm mU mH mI, kA mN cI 3 gm, kA mC cI 360 gc, kJ mX cJ 9 fx, kJ mA cJ 9 fa, kJ mT cJ 6 ft, kJ mI cJ 3 fi] (qe_i (fun (r : Int32) (_ : (Nat → Int64) × (Nat → Int64) × (Nat → Int64)) => r = (z5_split pm gm gc fx fa ft fi c).1) (fun uu => [kM o mP mL mC mN mF mR mD mV mX mA mK cm mT ((z5_split pm gm gc fx fa ft fi c).2.1) mU mH mI, kA mN cI 3 gm, kA mC cI 360 gc, kJ mX cJ 9 uu.1, kJ mA cJ 9 uu.2.1, kJ mT cJ 6 ((z5_split pm gm gc fx fa ft fi c).2.2), kJ mI cJ 3 uu.2.2])) := by
  refine mw_in (cc := cX5_split) (lv := [(0, .ref o), (1, .int c)]) (by decide) rfl (Nat.le_of_ble_eq_true rfl) rfl ?_
  intro pG eG sG mG below meth cG ls A hx hb hr hml hown hts hlk hin hP hK hD hA hS hl
  have hown : sG.vm.findClass RX5 = some mG.cls := hown
  have k_1 := hts (.fieldLink RX5 209 "ConicRowsModel" "partMany" "I") (by decide +kernel)
  have k_2 : ∀ w ∈ wsX50, w ∈ wsX5_split := by decide +kernel
  have k_3 := hts (.constant RX5 122 (-1000001)) (by decide +kernel)
  have k_4 := hts (.fieldLink RX5 38 "ConicRowsModel" "adjoint" "[J") (by decide +kernel)
  have k_5 := hts (.constant RX5 106 (-1000004)) (by decide +kernel)
  have k_6 := hts (.constant RX5 101 (-1000002)) (by decide +kernel)
  refine lv_aload_n hx hb dX5_split_0 rfl (lv_at hl 0 rfl) ?_
  refine lv_iconst (v := 2) hx hb dX5_split_1 (by decide) ?_
  refine lv_iload_n hx hb dX5_split_2 rfl (lv_at hl 1 rfl) ?_
  have hPc := hP.sub (ws' := [kM o mP mL mC mN mF mR mD mV mX mA mK cm mT pm mU mH mI, kA mN cI 3 gm]) [0, 1] rfl
  refine cr_i (va_runV (As := [.int 2, .int c]) (rest := []) ⟨hx, hb, hml, hown, hts⟩ (c_X5_isOf_2 l D cI cJ o mP mL mC mN mF mR mD mV mX mA mK mT mU mH mI cm pm gm c) (cwV 2 hts gX5_split_X5_isOf rfl rfl rfl (by decide +kernel) ⟨Nat.le_of_ble_eq_true rfl, Nat.le_of_ble_eq_true rfl⟩) ⟨gd_blR, va_recv hK.1 hPc (ci := 5) (q0 := 0) rfl rfl, gd_prR hPc hK⟩ rfl rfl hl.1 rfl (lv_room (Nat.le_of_ble_eq_true rfl)) dX5_split_3 ⟨Nat.zero_le _, Nat.zero_le _⟩) (fun r_3 hw => ?_)
  subst hw
  clear hPc
  refine lv_if_ne (tgt := 12) hx hb dX5_split_6 (by decide) (fun c_1 => ?_) (fun c_1 => ?_)
  · exact absurd hq c_1
  · skip
    refine lv_ldc hx hb hown k_6 dX5_split_9 ?_
    have he : z5_split pm gm gc fx fa ft fi c = ((-1000002), pm, ft) := by unfold z5_split; rw [if_pos c_1]
    have he_0 : (z5_split pm gm gc fx fa ft fi c).1 = (-1000002) := by rw [he]
    have he_1 : (z5_split pm gm gc fx fa ft fi c).2.1 = pm := by rw [he]
    have he_2 : (z5_split pm gm gc fx fa ft fi c).2.2 = ft := by rw [he]
    exact rt_i (w1 := fun uu : (Nat → Int64) × (Nat → Int64) × (Nat → Int64) => [kM o mP mL mC mN mF mR mD mV mX mA mK cm mT ((z5_split pm gm gc fx fa ft fi c).2.1) mU mH mI, kA mN cI 3 gm, kA mC cI 360 gc, kJ mX cJ 9 uu.1, kJ mA cJ 9 uu.2.1, kJ mT cJ 6 ((z5_split pm gm gc fx fa ft fi c).2.2), kJ mI cJ 3 uu.2.2]) hx hb hr hlk hS dX5_split_11 ((fx, fa, fi)) he_0.symm (by (try dsimp only); rw [he_1, he_2]; exact hP) (by (try dsimp only); rw [he_1, he_2]; exact hD)
set_option maxHeartbeats 4000000 in
set_option maxRecDepth 100000 in
/-- X5.cross -/
theorem c_X5_cross_n (l : Launch) (D : va_G) (cI cJ : ClassId) (o : Nat) (mP : Nat) (mL : Nat) (mC : Nat) (mN : Nat) (mF : Nat) (mR : Nat) (mD : Nat) (mV : Nat) (mX : Nat) (mA : Nat) (mK : Nat) (mT : Nat) (mU : Nat) (mH : Nat) (mI : Nat) (cm : Int32) (pm : Int32) (gm : Nat → Int32) (gl : Nat → Int32) (gc : Nat → Int32) (fx : Nat → Int64) (fk : Nat → Int64) (fg : Nat → Int64) (fh : Nat → Int64) (fi : Nat → Int64) (c : Int32) (i : Int32) (hm1 : n_ok (gm 1)) (hm2 : n_ok (gm 2)) (hq : z5_isOf_2 gm c = 0 ∨ z5_isOf_1 gm i = 0) : mw_C l yX5_cross wsX5_cross ({ frames := 3, cells := 0, slots := 0, locals := 83 }) D cI cJ [.ref o, .int c, .int i] [kM o mP mL mC mN mF mR mD mV mX mA mK cm mT pm mU mH mI, kA mN cI 3 gm, kA mL cI 180 gl, kA mC cI 360 gc, kJ mX cJ 9 fx, kJ mK cJ 6 fk, kJ mU cJ 3 fg, kJ mH cJ 3 fh, kJ mI cJ 3 fi] (qe_i (fun (r : Int32) (_ : (Nat → Int64) × (Nat → Int64) × (Nat → Int64) × (Nat → Int64)) => r = (z5_cross cm gm gl gc fx fk fg fh fi c i).1) (fun uu => [kM o mP mL mC mN mF mR mD mV mX mA mK ((z5_cross cm gm gl gc fx fk fg fh fi c i).2.1) mT pm mU mH mI, kA mN cI 3 gm, kA mL cI 180 gl, kA mC cI 360 gc, kJ mX cJ 9 uu.1, kJ mK cJ 6 ((z5_cross cm gm gl gc fx fk fg fh fi c i).2.2), kJ mU cJ 3 uu.2.1, kJ mH cJ 3 uu.2.2.1, kJ mI cJ 3 uu.2.2.2])) := by
  refine mw_in (cc := cX5_cross) (lv := [(0, .ref o), (1, .int c), (2, .int i)]) (by decide) rfl (Nat.le_of_ble_eq_true rfl) rfl ?_
  intro pG eG sG mG below meth cG ls A hx hb hr hml hown hts hlk hin hP hK hD hA hS hl
  have hown : sG.vm.findClass RX5 = some mG.cls := hown
  have k_1 := hts (.constant RX5 101 (-1000002)) (by decide +kernel)
  have k_2 := hts (.fieldLink RX5 188 "ConicRowsModel" "crossMany" "I") (by decide +kernel)
  have k_3 : ∀ w ∈ wsX50, w ∈ wsX5_cross := by decide +kernel
  have k_4 := hts (.fieldLink RX5 47 "ConicRowsModel" "first" "[J") (by decide +kernel)
  have k_5 := hts (.fieldLink RX5 50 "ConicRowsModel" "second" "[J") (by decide +kernel)
  have k_6 := hts (.fieldLink RX5 35 "ConicRowsModel" "matrix" "[J") (by decide +kernel)
  have k_7 := hts (.constantLong RX5 164 (4)) (by decide +kernel)
  have k_8 := hts (.constantLong RX5 95 (2)) (by decide +kernel)
  have k_9 := hts (.fieldLink RX5 41 "ConicRowsModel" "crossings" "[J") (by decide +kernel)
  refine lv_aload_n hx hb dX5_cross_0 rfl (lv_at hl 0 rfl) ?_
  refine lv_iconst (v := 2) hx hb dX5_cross_1 (by decide) ?_
  refine lv_iload_n hx hb dX5_cross_2 rfl (lv_at hl 1 rfl) ?_
  have hPc := hP.sub (ws' := [kM o mP mL mC mN mF mR mD mV mX mA mK cm mT pm mU mH mI, kA mN cI 3 gm]) [0, 1] rfl
  refine cr_i (va_runV (As := [.int 2, .int c]) (rest := []) ⟨hx, hb, hml, hown, hts⟩ (c_X5_isOf_2 l D cI cJ o mP mL mC mN mF mR mD mV mX mA mK mT mU mH mI cm pm gm c) (cwV 2 hts gX5_cross_X5_isOf rfl rfl rfl (by decide +kernel) ⟨Nat.le_of_ble_eq_true rfl, Nat.le_of_ble_eq_true rfl⟩) ⟨gd_blR, va_recv hK.1 hPc (ci := 5) (q0 := 0) rfl rfl, gd_prR hPc hK⟩ rfl rfl hl.1 rfl (lv_room (Nat.le_of_ble_eq_true rfl)) dX5_cross_3 ⟨Nat.zero_le _, Nat.zero_le _⟩) (fun r_3 hw => ?_)
  subst hw
  clear hPc
  refine lv_if_eq (tgt := 18) hx hb dX5_cross_6 (by decide) (fun c_1 => ?_) (fun c_1 => ?_)
  · skip
    refine lv_ldc hx hb hown k_1 dX5_cross_18 ?_
    have he : z5_cross cm gm gl gc fx fk fg fh fi c i = ((-1000002), cm, fk) := by unfold z5_cross; rw [if_pos c_1]
    have he_0 : (z5_cross cm gm gl gc fx fk fg fh fi c i).1 = (-1000002) := by rw [he]
    have he_1 : (z5_cross cm gm gl gc fx fk fg fh fi c i).2.1 = cm := by rw [he]
    have he_2 : (z5_cross cm gm gl gc fx fk fg fh fi c i).2.2 = fk := by rw [he]
    exact rt_i (w1 := fun uu : (Nat → Int64) × (Nat → Int64) × (Nat → Int64) × (Nat → Int64) => [kM o mP mL mC mN mF mR mD mV mX mA mK ((z5_cross cm gm gl gc fx fk fg fh fi c i).2.1) mT pm mU mH mI, kA mN cI 3 gm, kA mL cI 180 gl, kA mC cI 360 gc, kJ mX cJ 9 uu.1, kJ mK cJ 6 ((z5_cross cm gm gl gc fx fk fg fh fi c i).2.2), kJ mU cJ 3 uu.2.1, kJ mH cJ 3 uu.2.2.1, kJ mI cJ 3 uu.2.2.2]) hx hb hr hlk hS dX5_cross_20 ((fx, fg, fh, fi)) he_0.symm (by (try dsimp only); rw [he_1, he_2]; exact hP) (by (try dsimp only); rw [he_1, he_2]; exact hD)
  · skip
    refine lv_aload_n hx hb dX5_cross_9 rfl (lv_at hl 0 rfl) ?_
    refine lv_iconst (v := 1) hx hb dX5_cross_10 (by decide) ?_
    refine lv_iload_n hx hb dX5_cross_11 rfl (lv_at hl 2 rfl) ?_
    have hPc := hP.sub (ws' := [kM o mP mL mC mN mF mR mD mV mX mA mK cm mT pm mU mH mI, kA mN cI 3 gm]) [0, 1] rfl
    refine cr_i (va_runV (As := [.int 1, .int i]) (rest := []) ⟨hx, hb, hml, hown, hts⟩ (c_X5_isOf_1 l D cI cJ o mP mL mC mN mF mR mD mV mX mA mK mT mU mH mI cm pm gm i) (cwV 2 hts gX5_cross_X5_isOf rfl rfl rfl (by decide +kernel) ⟨Nat.le_of_ble_eq_true rfl, Nat.le_of_ble_eq_true rfl⟩) ⟨gd_blR, va_recv hK.1 hPc (ci := 5) (q0 := 0) rfl rfl, gd_prR hPc hK⟩ rfl rfl hl.1 rfl (lv_room (Nat.le_of_ble_eq_true rfl)) dX5_cross_12 ⟨Nat.zero_le _, Nat.zero_le _⟩) (fun r_12 hw => ?_)
    subst hw
    clear hPc
    refine lv_if_ne (tgt := 21) hx hb dX5_cross_15 (by decide) (fun c_2 => ?_) (fun c_2 => ?_)
    · exact absurd hq (fun h => h.elim c_1 c_2)
    · skip
      refine lv_ldc hx hb hown k_1 dX5_cross_18 ?_
      have he : z5_cross cm gm gl gc fx fk fg fh fi c i = ((-1000002), cm, fk) := by unfold z5_cross; rw [if_neg c_1, if_pos c_2]
      have he_0 : (z5_cross cm gm gl gc fx fk fg fh fi c i).1 = (-1000002) := by rw [he]
      have he_1 : (z5_cross cm gm gl gc fx fk fg fh fi c i).2.1 = cm := by rw [he]
      have he_2 : (z5_cross cm gm gl gc fx fk fg fh fi c i).2.2 = fk := by rw [he]
      exact rt_i (w1 := fun uu : (Nat → Int64) × (Nat → Int64) × (Nat → Int64) × (Nat → Int64) => [kM o mP mL mC mN mF mR mD mV mX mA mK ((z5_cross cm gm gl gc fx fk fg fh fi c i).2.1) mT pm mU mH mI, kA mN cI 3 gm, kA mL cI 180 gl, kA mC cI 360 gc, kJ mX cJ 9 uu.1, kJ mK cJ 6 ((z5_cross cm gm gl gc fx fk fg fh fi c i).2.2), kJ mU cJ 3 uu.2.1, kJ mH cJ 3 uu.2.2.1, kJ mI cJ 3 uu.2.2.2]) hx hb hr hlk hS dX5_cross_20 ((fx, fg, fh, fi)) he_0.symm (by (try dsimp only); rw [he_1, he_2]; exact hP) (by (try dsimp only); rw [he_1, he_2]; exact hD)

