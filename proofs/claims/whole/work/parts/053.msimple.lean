-- laid by wip/whole/gen
def z5_point (gm : Nat → Int32) (ff : Nat → Int64) (gp : Nat → Int32) (x : Int32) (y : Int32) (z : Int32) : Int32 := (z5_told3_0 gm ff gp x y z).1
def z5_point_f1 (gm : Nat → Int32) (ff : Nat → Int64) (gp : Nat → Int32) (x : Int32) (y : Int32) (z : Int32) : Nat → Int32 := (z5_told3_0 gm ff gp x y z).2.1
def z5_point_f3 (gm : Nat → Int32) (ff : Nat → Int64) (gp : Nat → Int32) (x : Int32) (y : Int32) (z : Int32) : Nat → Int32 := (z5_told3_0 gm ff gp x y z).2.2
set_option maxHeartbeats 4000000 in
set_option maxRecDepth 100000 in
/-- X5.point -/
theorem c_X5_point (l : Launch) (D : va_G) (cI cJ : ClassId) (o : Nat) (mP : Nat) (mL : Nat) (mC : Nat) (mN : Nat) (mF : Nat) (mR : Nat) (mD : Nat) (mV : Nat) (mX : Nat) (mA : Nat) (mK : Nat) (mT : Nat) (mU : Nat) (mH : Nat) (mI : Nat) (cm : Int32) (pm : Int32) (gm : Nat → Int32) (ff : Nat → Int64) (gp : Nat → Int32) (x : Int32) (y : Int32) (z : Int32) (hm0 : n_ok (gm 0)) : mw_C l yX5_point wsX5_point ({ frames := 4, cells := 0, slots := 0, locals := 104 }) D cI cJ [.ref o, .int x, .int y, .int z] [kM o mP mL mC mN mF mR mD mV mX mA mK cm mT pm mU mH mI, kA mN cI 3 gm, kJ mF cJ 6 ff, kA mP cI 180 gp] (qe_i (fun (r : Int32) (_ : (Nat → Int64)) => r = z5_point gm ff gp x y z) (fun uu => [kM o mP mL mC mN mF mR mD mV mX mA mK cm mT pm mU mH mI, kA mN cI 3 (z5_point_f1 gm ff gp x y z), kJ mF cJ 6 uu, kA mP cI 180 (z5_point_f3 gm ff gp x y z)])) := by
  refine mw_in (cc := cX5_point) (lv := [(0, .ref o), (1, .int x), (2, .int y), (3, .int z)]) (by decide) rfl (Nat.le_of_ble_eq_true rfl) rfl ?_
  intro pG eG sG mG below meth cG ls A hx hb hr hml hown hts hlk hin hP hK hD hA hS hl
  have hown : sG.vm.findClass RX5 = some mG.cls := hown
  refine lv_aload_n hx hb dX5_point_0 rfl (lv_at hl 0 rfl) ?_
  refine lv_iconst (v := 0) hx hb dX5_point_1 (by decide) ?_
  refine lv_iload_n hx hb dX5_point_2 rfl (lv_at hl 1 rfl) ?_
  refine lv_iload_n hx hb dX5_point_3 rfl (lv_at hl 2 rfl) ?_
  refine lv_iload_n hx hb dX5_point_4 rfl (lv_at hl 3 rfl) ?_
  have hPc := hP.sub (ws' := [kM o mP mL mC mN mF mR mD mV mX mA mK cm mT pm mU mH mI, kA mN cI 3 gm, kJ mF cJ 6 ff, kA mP cI 180 gp]) [0, 1, 2, 3] rfl
  have hDc := hD.sub (ws' := [kM o mP mL mC mN mF mR mD mV mX mA mK cm mT pm mU mH mI, kA mN cI 3 gm, kJ mF cJ 6 ff, kA mP cI 180 gp]) [0, 1, 2, 3] (by decide) rfl
  refine cl_i (wc := [kM o mP mL mC mN mF mR mD mV mX mA mK cm mT pm mU mH mI, kA mN cI 3 gm, kJ mF cJ 6 ff, kA mP cI 180 gp]) (wr := []) (w1 := fun uu : (Nat → Int64) => [kM o mP mL mC mN mF mR mD mV mX mA mK cm mT pm mU mH mI, kA mN cI 3 ((z5_told3_0 gm ff gp x y z).2.1), kJ mF cJ 6 uu, kA mP cI 180 ((z5_told3_0 gm ff gp x y z).2.2)]) (wn := fun uu : (Nat → Int64) => [kM o mP mL mC mN mF mR mD mV mX mA mK cm mT pm mU mH mI, kA mN cI 3 ((z5_told3_0 gm ff gp x y z).2.1), kJ mF cJ 6 uu, kA mP cI 180 ((z5_told3_0 gm ff gp x y z).2.2)]) (va_runV (As := [.int 0, .int x, .int y, .int z]) (rest := []) ⟨hx, hb, hml, hown, hts⟩ (c_X5_told3_0 l D cI cJ o mP mL mC mN mF mR mD mV mX mA mK mT mU mH mI cm pm gm ff gp x y z hm0 _) (cwV 4 hts gX5_point_X5_told3 rfl rfl rfl (by decide +kernel) ⟨Nat.le_of_ble_eq_true rfl, Nat.le_of_ble_eq_true rfl⟩) ⟨gd_blP, va_recv hK.1 hPc (ci := 5) (q0 := 0) rfl rfl, gd_prP hPc hK hDc⟩ rfl rfl hl.1 rfl (lv_room (Nat.le_of_ble_eq_true rfl)) dX5_point_5 ⟨Nat.zero_le _, Nat.zero_le _⟩) hP hD hS hA [0, 1, 2, 3] [] rfl rfl (by decide) (by decide) [0, 1, 2, 3] (by decide) (fun _ => rfl) (fun r_5 uG H locs hw hP hD hS => ?_)
  obtain ⟨y_5_0_1, rfl⟩ : ∃ z, z = uG := ⟨_, rfl⟩
  have hP : va_P D vwCl [kM o mP mL mC mN mF mR mD mV mX mA mK cm mT pm mU mH mI, kA mN cI 3 ((z5_told3_0 gm ff gp x y z).2.1), kJ mF cJ 6 y_5_0_1, kA mP cI 180 ((z5_told3_0 gm ff gp x y z).2.2)] H := hP
  have hD : va_D A [kM o mP mL mC mN mF mR mD mV mX mA mK cm mT pm mU mH mI, kA mN cI 3 ((z5_told3_0 gm ff gp x y z).2.1), kJ mF cJ 6 y_5_0_1, kA mP cI 180 ((z5_told3_0 gm ff gp x y z).2.2)] := hD
  subst hw
  clear hPc hDc
  have he_1 : z5_point_f1 gm ff gp x y z = (z5_told3_0 gm ff gp x y z).2.1 := by delta z5_point_f1; rfl
  have he_2 : z5_point_f3 gm ff gp x y z = (z5_told3_0 gm ff gp x y z).2.2 := by delta z5_point_f3; rfl
  exact rt_i (w1 := fun uu : (Nat → Int64) => [kM o mP mL mC mN mF mR mD mV mX mA mK cm mT pm mU mH mI, kA mN cI 3 (z5_point_f1 gm ff gp x y z), kJ mF cJ 6 uu, kA mP cI 180 (z5_point_f3 gm ff gp x y z)]) hx hb hr hlk hS dX5_point_8 (y_5_0_1) rfl (by (try dsimp only); rw [he_1, he_2]; exact hP) (by (try dsimp only); rw [he_1, he_2]; exact hD)
def z5_line (gm : Nat → Int32) (ff : Nat → Int64) (gl : Nat → Int32) (x : Int32) (y : Int32) (z : Int32) : Int32 := (z5_told3_1 gm ff gl x y z).1
def z5_line_f1 (gm : Nat → Int32) (ff : Nat → Int64) (gl : Nat → Int32) (x : Int32) (y : Int32) (z : Int32) : Nat → Int32 := (z5_told3_1 gm ff gl x y z).2.1
def z5_line_f3 (gm : Nat → Int32) (ff : Nat → Int64) (gl : Nat → Int32) (x : Int32) (y : Int32) (z : Int32) : Nat → Int32 := (z5_told3_1 gm ff gl x y z).2.2
set_option maxHeartbeats 4000000 in
set_option maxRecDepth 100000 in
/-- X5.line -/
theorem c_X5_line (l : Launch) (D : va_G) (cI cJ : ClassId) (o : Nat) (mP : Nat) (mL : Nat) (mC : Nat) (mN : Nat) (mF : Nat) (mR : Nat) (mD : Nat) (mV : Nat) (mX : Nat) (mA : Nat) (mK : Nat) (mT : Nat) (mU : Nat) (mH : Nat) (mI : Nat) (cm : Int32) (pm : Int32) (gm : Nat → Int32) (ff : Nat → Int64) (gl : Nat → Int32) (x : Int32) (y : Int32) (z : Int32) (hm1 : n_ok (gm 1)) : mw_C l yX5_line wsX5_line ({ frames := 4, cells := 0, slots := 0, locals := 104 }) D cI cJ [.ref o, .int x, .int y, .int z] [kM o mP mL mC mN mF mR mD mV mX mA mK cm mT pm mU mH mI, kA mN cI 3 gm, kJ mF cJ 6 ff, kA mL cI 180 gl] (qe_i (fun (r : Int32) (_ : (Nat → Int64)) => r = z5_line gm ff gl x y z) (fun uu => [kM o mP mL mC mN mF mR mD mV mX mA mK cm mT pm mU mH mI, kA mN cI 3 (z5_line_f1 gm ff gl x y z), kJ mF cJ 6 uu, kA mL cI 180 (z5_line_f3 gm ff gl x y z)])) := by
  refine mw_in (cc := cX5_line) (lv := [(0, .ref o), (1, .int x), (2, .int y), (3, .int z)]) (by decide) rfl (Nat.le_of_ble_eq_true rfl) rfl ?_
  intro pG eG sG mG below meth cG ls A hx hb hr hml hown hts hlk hin hP hK hD hA hS hl
  have hown : sG.vm.findClass RX5 = some mG.cls := hown
  refine lv_aload_n hx hb dX5_line_0 rfl (lv_at hl 0 rfl) ?_
  refine lv_iconst (v := 1) hx hb dX5_line_1 (by decide) ?_
  refine lv_iload_n hx hb dX5_line_2 rfl (lv_at hl 1 rfl) ?_
  refine lv_iload_n hx hb dX5_line_3 rfl (lv_at hl 2 rfl) ?_
  refine lv_iload_n hx hb dX5_line_4 rfl (lv_at hl 3 rfl) ?_
  have hPc := hP.sub (ws' := [kM o mP mL mC mN mF mR mD mV mX mA mK cm mT pm mU mH mI, kA mN cI 3 gm, kJ mF cJ 6 ff, kA mL cI 180 gl]) [0, 1, 2, 3] rfl
  have hDc := hD.sub (ws' := [kM o mP mL mC mN mF mR mD mV mX mA mK cm mT pm mU mH mI, kA mN cI 3 gm, kJ mF cJ 6 ff, kA mL cI 180 gl]) [0, 1, 2, 3] (by decide) rfl
  refine cl_i (wc := [kM o mP mL mC mN mF mR mD mV mX mA mK cm mT pm mU mH mI, kA mN cI 3 gm, kJ mF cJ 6 ff, kA mL cI 180 gl]) (wr := []) (w1 := fun uu : (Nat → Int64) => [kM o mP mL mC mN mF mR mD mV mX mA mK cm mT pm mU mH mI, kA mN cI 3 ((z5_told3_1 gm ff gl x y z).2.1), kJ mF cJ 6 uu, kA mL cI 180 ((z5_told3_1 gm ff gl x y z).2.2)]) (wn := fun uu : (Nat → Int64) => [kM o mP mL mC mN mF mR mD mV mX mA mK cm mT pm mU mH mI, kA mN cI 3 ((z5_told3_1 gm ff gl x y z).2.1), kJ mF cJ 6 uu, kA mL cI 180 ((z5_told3_1 gm ff gl x y z).2.2)]) (va_runV (As := [.int 1, .int x, .int y, .int z]) (rest := []) ⟨hx, hb, hml, hown, hts⟩ (c_X5_told3_1 l D cI cJ o mP mL mC mN mF mR mD mV mX mA mK mT mU mH mI cm pm gm ff gl x y z hm1 _) (cwV 4 hts gX5_line_X5_told3 rfl rfl rfl (by decide +kernel) ⟨Nat.le_of_ble_eq_true rfl, Nat.le_of_ble_eq_true rfl⟩) ⟨gd_blP, va_recv hK.1 hPc (ci := 5) (q0 := 0) rfl rfl, gd_prP hPc hK hDc⟩ rfl rfl hl.1 rfl (lv_room (Nat.le_of_ble_eq_true rfl)) dX5_line_5 ⟨Nat.zero_le _, Nat.zero_le _⟩) hP hD hS hA [0, 1, 2, 3] [] rfl rfl (by decide) (by decide) [0, 1, 2, 3] (by decide) (fun _ => rfl) (fun r_5 uG H locs hw hP hD hS => ?_)
  obtain ⟨y_5_0_1, rfl⟩ : ∃ z, z = uG := ⟨_, rfl⟩
  have hP : va_P D vwCl [kM o mP mL mC mN mF mR mD mV mX mA mK cm mT pm mU mH mI, kA mN cI 3 ((z5_told3_1 gm ff gl x y z).2.1), kJ mF cJ 6 y_5_0_1, kA mL cI 180 ((z5_told3_1 gm ff gl x y z).2.2)] H := hP
  have hD : va_D A [kM o mP mL mC mN mF mR mD mV mX mA mK cm mT pm mU mH mI, kA mN cI 3 ((z5_told3_1 gm ff gl x y z).2.1), kJ mF cJ 6 y_5_0_1, kA mL cI 180 ((z5_told3_1 gm ff gl x y z).2.2)] := hD
  subst hw
  clear hPc hDc
  have he_1 : z5_line_f1 gm ff gl x y z = (z5_told3_1 gm ff gl x y z).2.1 := by delta z5_line_f1; rfl
  have he_2 : z5_line_f3 gm ff gl x y z = (z5_told3_1 gm ff gl x y z).2.2 := by delta z5_line_f3; rfl
  exact rt_i (w1 := fun uu : (Nat → Int64) => [kM o mP mL mC mN mF mR mD mV mX mA mK cm mT pm mU mH mI, kA mN cI 3 (z5_line_f1 gm ff gl x y z), kJ mF cJ 6 uu, kA mL cI 180 (z5_line_f3 gm ff gl x y z)]) hx hb hr hlk hS dX5_line_8 (y_5_0_1) rfl (by (try dsimp only); rw [he_1, he_2]; exact hP) (by (try dsimp only); rw [he_1, he_2]; exact hD)
def z5_conic_v1 (gm : Nat → Int32) (ff : Nat → Int64) (gc : Nat → Int32) (a : Int32) (b : Int32) (c : Int32) (d : Int32) (e : Int32) (f : Int32) : Nat → Int32 := (z5_keep_2 gm (vp_updL (vp_updL (vp_updL (vp_updL (vp_updL (vp_updL ff 0 a.toInt64) 1 b.toInt64) 2 c.toInt64) 3 d.toInt64) 4 e.toInt64) 5 f.toInt64) gc (-1000003)).2.1
def z5_conic_v2 (gm : Nat → Int32) (ff : Nat → Int64) (gc : Nat → Int32) (a : Int32) (b : Int32) (c : Int32) (d : Int32) (e : Int32) (f : Int32) : Nat → Int32 := (z5_keep_2 gm (vp_updL (vp_updL (vp_updL (vp_updL (vp_updL (vp_updL ff 0 a.toInt64) 1 b.toInt64) 2 c.toInt64) 3 d.toInt64) 4 e.toInt64) 5 f.toInt64) gc (-1000003)).2.2
def z5_conic_v3 (gm : Nat → Int32) (ff : Nat → Int64) (gc : Nat → Int32) (a : Int32) (b : Int32) (c : Int32) (d : Int32) (e : Int32) (f : Int32) : Int32 := (z5_keep_2 gm (vp_updL (vp_updL (vp_updL (vp_updL (vp_updL (vp_updL ff 0 a.toInt64) 1 b.toInt64) 2 c.toInt64) 3 d.toInt64) 4 e.toInt64) 5 f.toInt64) gc (-1000003)).1
def z5_conic (gm : Nat → Int32) (ff : Nat → Int64) (gc : Nat → Int32) (a : Int32) (b : Int32) (c : Int32) (d : Int32) (e : Int32) (f : Int32) : Int32 × (Nat → Int32) × (Nat → Int32) := if (z5_isNear a.toInt64) = 0 then ((-1000003), gm, gc) else if (z5_isNear b.toInt64) = 0 then ((-1000003), gm, gc) else if (z5_isNear c.toInt64) = 0 then ((-1000003), gm, gc) else if (z5_isNear d.toInt64) = 0 then ((-1000003), gm, gc) else if (z5_isNear e.toInt64) = 0 then ((-1000003), gm, gc) else if (z5_isNear f.toInt64) = 0 then ((-1000003), gm, gc) else (z5_conic_v3 gm ff gc a b c d e f, z5_conic_v1 gm ff gc a b c d e f, z5_conic_v2 gm ff gc a b c d e f)
set_option maxHeartbeats 4000000 in
set_option maxRecDepth 100000 in
/-- X5.conic -/
theorem c_X5_conic (l : Launch) (D : va_G) (cI cJ : ClassId) (o : Nat) (mP : Nat) (mL : Nat) (mC : Nat) (mN : Nat) (mF : Nat) (mR : Nat) (mD : Nat) (mV : Nat) (mX : Nat) (mA : Nat) (mK : Nat) (mT : Nat) (mU : Nat) (mH : Nat) (mI : Nat) (cm : Int32) (pm : Int32) (gm : Nat → Int32) (ff : Nat → Int64) (gc : Nat → Int32) (a : Int32) (b : Int32) (c : Int32) (d : Int32) (e : Int32) (f : Int32) (hm2 : n_ok (gm 2)) : mw_C l yX5_conic wsX5_conic ({ frames := 3, cells := 0, slots := 0, locals := 80 }) D cI cJ [.ref o, .int a, .int b, .int c, .int d, .int e, .int f] [kM o mP mL mC mN mF mR mD mV mX mA mK cm mT pm mU mH mI, kA mN cI 3 gm, kJ mF cJ 6 ff, kA mC cI 360 gc] (qe_i (fun (r : Int32) (_ : (Nat → Int64)) => r = (z5_conic gm ff gc a b c d e f).1) (fun uu => [kM o mP mL mC mN mF mR mD mV mX mA mK cm mT pm mU mH mI, kA mN cI 3 ((z5_conic gm ff gc a b c d e f).2.1), kJ mF cJ 6 uu, kA mC cI 360 ((z5_conic gm ff gc a b c d e f).2.2)])) := by
  refine mw_in (cc := cX5_conic) (lv := [(0, .ref o), (1, .int a), (2, .int b), (3, .int c), (4, .int d), (5, .int e), (6, .int f)]) (by decide) rfl (Nat.le_of_ble_eq_true rfl) rfl ?_
  intro pG eG sG mG below meth cG ls A hx hb hr hml hown hts hlk hin hP hK hD hA hS hl
  have hown : sG.vm.findClass RX5 = some mG.cls := hown
  have k_1 := hts (.constant RX5 86 (-1000003)) (by decide +kernel)
  have k_2 := hts (.fieldLink RX5 22 "ConicRowsModel" "fresh" "[J") (by decide +kernel)
  have k_3 : ∀ w ∈ wsX50, w ∈ wsX5_conic := by decide +kernel
  refine lv_iload_n hx hb dX5_conic_0 rfl (lv_at hl 1 rfl) ?_
  refine lv_i2l hx hb dX5_conic_1 rfl ?_
  have hPc := hP.sub (ws' := []) [] rfl
  refine cr_i (va_runS (As := [.long a.toInt64]) (rest := []) ⟨hx, hb, hml, hown, hts⟩ (c_X5_isNear l D cI cJ a.toInt64) (va_cwS 1 hts gX5_conic_X5_isNear rfl rfl rfl (by decide +kernel) ⟨Nat.le_of_ble_eq_true rfl, Nat.le_of_ble_eq_true rfl⟩) ⟨gd_blR, gd_prR hPc hK⟩ rfl rfl hl.1 rfl (lv_room (Nat.le_of_ble_eq_true rfl)) dX5_conic_2 ⟨Nat.zero_le _, Nat.zero_le _⟩) (fun r_2 hw => ?_)
  subst hw
  clear hPc
  refine lv_if_eq (tgt := 51) hx hb dX5_conic_5 (by decide) (fun c_1 => ?_) (fun c_1 => ?_)
  · skip
    refine lv_ldc hx hb hown k_1 dX5_conic_51 ?_
    have he : z5_conic gm ff gc a b c d e f = ((-1000003), gm, gc) := by unfold z5_conic; rw [if_pos c_1]
    have he_0 : (z5_conic gm ff gc a b c d e f).1 = (-1000003) := by rw [he]
    have he_1 : (z5_conic gm ff gc a b c d e f).2.1 = gm := by rw [he]
    have he_2 : (z5_conic gm ff gc a b c d e f).2.2 = gc := by rw [he]
    exact rt_i (w1 := fun uu : (Nat → Int64) => [kM o mP mL mC mN mF mR mD mV mX mA mK cm mT pm mU mH mI, kA mN cI 3 ((z5_conic gm ff gc a b c d e f).2.1), kJ mF cJ 6 uu, kA mC cI 360 ((z5_conic gm ff gc a b c d e f).2.2)]) hx hb hr hlk hS dX5_conic_53 (ff) he_0.symm (by (try dsimp only); rw [he_1, he_2]; exact hP) (by (try dsimp only); rw [he_1, he_2]; exact hD)
  · skip
    refine lv_iload_n hx hb dX5_conic_8 rfl (lv_at hl 2 rfl) ?_
    refine lv_i2l hx hb dX5_conic_9 rfl ?_
    have hPc := hP.sub (ws' := []) [] rfl
    refine cr_i (va_runS (As := [.long b.toInt64]) (rest := []) ⟨hx, hb, hml, hown, hts⟩ (c_X5_isNear l D cI cJ b.toInt64) (va_cwS 1 hts gX5_conic_X5_isNear rfl rfl rfl (by decide +kernel) ⟨Nat.le_of_ble_eq_true rfl, Nat.le_of_ble_eq_true rfl⟩) ⟨gd_blR, gd_prR hPc hK⟩ rfl rfl hl.1 rfl (lv_room (Nat.le_of_ble_eq_true rfl)) dX5_conic_10 ⟨Nat.zero_le _, Nat.zero_le _⟩) (fun r_10 hw => ?_)
    subst hw
    clear hPc
    refine lv_if_eq (tgt := 51) hx hb dX5_conic_13 (by decide) (fun c_2 => ?_) (fun c_2 => ?_)
    · skip
      refine lv_ldc hx hb hown k_1 dX5_conic_51 ?_
      have he : z5_conic gm ff gc a b c d e f = ((-1000003), gm, gc) := by unfold z5_conic; rw [if_neg c_1, if_pos c_2]
      have he_0 : (z5_conic gm ff gc a b c d e f).1 = (-1000003) := by rw [he]
      have he_1 : (z5_conic gm ff gc a b c d e f).2.1 = gm := by rw [he]
      have he_2 : (z5_conic gm ff gc a b c d e f).2.2 = gc := by rw [he]
      exact rt_i (w1 := fun uu : (Nat → Int64) => [kM o mP mL mC mN mF mR mD mV mX mA mK cm mT pm mU mH mI, kA mN cI 3 ((z5_conic gm ff gc a b c d e f).2.1), kJ mF cJ 6 uu, kA mC cI 360 ((z5_conic gm ff gc a b c d e f).2.2)]) hx hb hr hlk hS dX5_conic_53 (ff) he_0.symm (by (try dsimp only); rw [he_1, he_2]; exact hP) (by (try dsimp only); rw [he_1, he_2]; exact hD)
    · skip
      refine lv_iload_n hx hb dX5_conic_16 rfl (lv_at hl 3 rfl) ?_
      refine lv_i2l hx hb dX5_conic_17 rfl ?_
      have hPc := hP.sub (ws' := []) [] rfl
      refine cr_i (va_runS (As := [.long c.toInt64]) (rest := []) ⟨hx, hb, hml, hown, hts⟩ (c_X5_isNear l D cI cJ c.toInt64) (va_cwS 1 hts gX5_conic_X5_isNear rfl rfl rfl (by decide +kernel) ⟨Nat.le_of_ble_eq_true rfl, Nat.le_of_ble_eq_true rfl⟩) ⟨gd_blR, gd_prR hPc hK⟩ rfl rfl hl.1 rfl (lv_room (Nat.le_of_ble_eq_true rfl)) dX5_conic_18 ⟨Nat.zero_le _, Nat.zero_le _⟩) (fun r_18 hw => ?_)
      subst hw
      clear hPc
      refine lv_if_eq (tgt := 51) hx hb dX5_conic_21 (by decide) (fun c_3 => ?_) (fun c_3 => ?_)
      · skip
        refine lv_ldc hx hb hown k_1 dX5_conic_51 ?_
        have he : z5_conic gm ff gc a b c d e f = ((-1000003), gm, gc) := by unfold z5_conic; rw [if_neg c_1, if_neg c_2, if_pos c_3]
        have he_0 : (z5_conic gm ff gc a b c d e f).1 = (-1000003) := by rw [he]
        have he_1 : (z5_conic gm ff gc a b c d e f).2.1 = gm := by rw [he]
        have he_2 : (z5_conic gm ff gc a b c d e f).2.2 = gc := by rw [he]
        exact rt_i (w1 := fun uu : (Nat → Int64) => [kM o mP mL mC mN mF mR mD mV mX mA mK cm mT pm mU mH mI, kA mN cI 3 ((z5_conic gm ff gc a b c d e f).2.1), kJ mF cJ 6 uu, kA mC cI 360 ((z5_conic gm ff gc a b c d e f).2.2)]) hx hb hr hlk hS dX5_conic_53 (ff) he_0.symm (by (try dsimp only); rw [he_1, he_2]; exact hP) (by (try dsimp only); rw [he_1, he_2]; exact hD)
      · skip
        refine lv_iload hx hb dX5_conic_24 (lv_at hl 4 rfl) ?_
        refine lv_i2l hx hb dX5_conic_26 rfl ?_
        have hPc := hP.sub (ws' := []) [] rfl
        refine cr_i (va_runS (As := [.long d.toInt64]) (rest := []) ⟨hx, hb, hml, hown, hts⟩ (c_X5_isNear l D cI cJ d.toInt64) (va_cwS 1 hts gX5_conic_X5_isNear rfl rfl rfl (by decide +kernel) ⟨Nat.le_of_ble_eq_true rfl, Nat.le_of_ble_eq_true rfl⟩) ⟨gd_blR, gd_prR hPc hK⟩ rfl rfl hl.1 rfl (lv_room (Nat.le_of_ble_eq_true rfl)) dX5_conic_27 ⟨Nat.zero_le _, Nat.zero_le _⟩) (fun r_27 hw => ?_)
        subst hw
        clear hPc
        refine lv_if_eq (tgt := 51) hx hb dX5_conic_30 (by decide) (fun c_4 => ?_) (fun c_4 => ?_)
        · skip
          refine lv_ldc hx hb hown k_1 dX5_conic_51 ?_
          have he : z5_conic gm ff gc a b c d e f = ((-1000003), gm, gc) := by unfold z5_conic; rw [if_neg c_1, if_neg c_2, if_neg c_3, if_pos c_4]
          have he_0 : (z5_conic gm ff gc a b c d e f).1 = (-1000003) := by rw [he]
          have he_1 : (z5_conic gm ff gc a b c d e f).2.1 = gm := by rw [he]
          have he_2 : (z5_conic gm ff gc a b c d e f).2.2 = gc := by rw [he]
          exact rt_i (w1 := fun uu : (Nat → Int64) => [kM o mP mL mC mN mF mR mD mV mX mA mK cm mT pm mU mH mI, kA mN cI 3 ((z5_conic gm ff gc a b c d e f).2.1), kJ mF cJ 6 uu, kA mC cI 360 ((z5_conic gm ff gc a b c d e f).2.2)]) hx hb hr hlk hS dX5_conic_53 (ff) he_0.symm (by (try dsimp only); rw [he_1, he_2]; exact hP) (by (try dsimp only); rw [he_1, he_2]; exact hD)
        · skip
          refine lv_iload hx hb dX5_conic_33 (lv_at hl 5 rfl) ?_
          refine lv_i2l hx hb dX5_conic_35 rfl ?_
          have hPc := hP.sub (ws' := []) [] rfl
          refine cr_i (va_runS (As := [.long e.toInt64]) (rest := []) ⟨hx, hb, hml, hown, hts⟩ (c_X5_isNear l D cI cJ e.toInt64) (va_cwS 1 hts gX5_conic_X5_isNear rfl rfl rfl (by decide +kernel) ⟨Nat.le_of_ble_eq_true rfl, Nat.le_of_ble_eq_true rfl⟩) ⟨gd_blR, gd_prR hPc hK⟩ rfl rfl hl.1 rfl (lv_room (Nat.le_of_ble_eq_true rfl)) dX5_conic_36 ⟨Nat.zero_le _, Nat.zero_le _⟩) (fun r_36 hw => ?_)
          subst hw
          clear hPc
          refine lv_if_eq (tgt := 51) hx hb dX5_conic_39 (by decide) (fun c_5 => ?_) (fun c_5 => ?_)
          · skip
            refine lv_ldc hx hb hown k_1 dX5_conic_51 ?_
            have he : z5_conic gm ff gc a b c d e f = ((-1000003), gm, gc) := by unfold z5_conic; rw [if_neg c_1, if_neg c_2, if_neg c_3, if_neg c_4, if_pos c_5]
            have he_0 : (z5_conic gm ff gc a b c d e f).1 = (-1000003) := by rw [he]
            have he_1 : (z5_conic gm ff gc a b c d e f).2.1 = gm := by rw [he]
            have he_2 : (z5_conic gm ff gc a b c d e f).2.2 = gc := by rw [he]
            exact rt_i (w1 := fun uu : (Nat → Int64) => [kM o mP mL mC mN mF mR mD mV mX mA mK cm mT pm mU mH mI, kA mN cI 3 ((z5_conic gm ff gc a b c d e f).2.1), kJ mF cJ 6 uu, kA mC cI 360 ((z5_conic gm ff gc a b c d e f).2.2)]) hx hb hr hlk hS dX5_conic_53 (ff) he_0.symm (by (try dsimp only); rw [he_1, he_2]; exact hP) (by (try dsimp only); rw [he_1, he_2]; exact hD)
          · skip
            refine lv_iload hx hb dX5_conic_42 (lv_at hl 6 rfl) ?_
            refine lv_i2l hx hb dX5_conic_44 rfl ?_
            have hPc := hP.sub (ws' := []) [] rfl
            refine cr_i (va_runS (As := [.long f.toInt64]) (rest := []) ⟨hx, hb, hml, hown, hts⟩ (c_X5_isNear l D cI cJ f.toInt64) (va_cwS 1 hts gX5_conic_X5_isNear rfl rfl rfl (by decide +kernel) ⟨Nat.le_of_ble_eq_true rfl, Nat.le_of_ble_eq_true rfl⟩) ⟨gd_blR, gd_prR hPc hK⟩ rfl rfl hl.1 rfl (lv_room (Nat.le_of_ble_eq_true rfl)) dX5_conic_45 ⟨Nat.zero_le _, Nat.zero_le _⟩) (fun r_45 hw => ?_)
            subst hw
            clear hPc
            refine lv_if_ne (tgt := 54) hx hb dX5_conic_48 (by decide) (fun c_6 => ?_) (fun c_6 => ?_)
            · skip
              refine lv_aload_n hx hb dX5_conic_54 rfl (lv_at hl 0 rfl) ?_
              refine va_get (D := D) (ci := 5) (v := .ref mF) (C := RX5) (T := TX5) (N := 17) hx hb hts k_3 hown hK.1 hP 0 rfl rfl 4 (by decide) k_2 (fun _ h9 => h9) rfl dX5_conic_55 ?_
              refine lv_iconst (v := 0) hx hb dX5_conic_58 (by decide) ?_
              refine lv_iload_n hx hb dX5_conic_59 rfl (lv_at hl 1 rfl) ?_
              refine lv_i2l hx hb dX5_conic_60 rfl ?_
              refine st_l hx hb hK.1 hP hD hS 2 1 rfl rfl (ix_lit (by decide)) 0 (by decide) dX5_conic_61 (fun H locs hP hD hS => ?_)
              have hP : va_P D vwCl [kM o mP mL mC mN mF mR mD mV mX mA mK cm mT pm mU mH mI, kA mN cI 3 gm, kJ mF cJ 6 (vp_updL ff 0 a.toInt64), kA mC cI 360 gc] H := hP
              have hD : va_D A [kM o mP mL mC mN mF mR mD mV mX mA mK cm mT pm mU mH mI, kA mN cI 3 gm, kJ mF cJ 6 (vp_updL ff 0 a.toInt64), kA mC cI 360 gc] := hD
              refine lv_aload_n hx hb dX5_conic_62 rfl (lv_at hl 0 rfl) ?_
              refine va_get (D := D) (ci := 5) (v := .ref mF) (C := RX5) (T := TX5) (N := 17) hx hb hts k_3 hown hK.1 hP 0 rfl rfl 4 (by decide) k_2 (fun _ h9 => h9) rfl dX5_conic_63 ?_
              refine lv_iconst (v := 1) hx hb dX5_conic_66 (by decide) ?_
              refine lv_iload_n hx hb dX5_conic_67 rfl (lv_at hl 2 rfl) ?_
              refine lv_i2l hx hb dX5_conic_68 rfl ?_
              refine st_l hx hb hK.1 hP hD hS 2 1 rfl rfl (ix_lit (by decide)) 1 (by decide) dX5_conic_69 (fun H locs hP hD hS => ?_)
              have hP : va_P D vwCl [kM o mP mL mC mN mF mR mD mV mX mA mK cm mT pm mU mH mI, kA mN cI 3 gm, kJ mF cJ 6 (vp_updL (vp_updL ff 0 a.toInt64) 1 b.toInt64), kA mC cI 360 gc] H := hP
              have hD : va_D A [kM o mP mL mC mN mF mR mD mV mX mA mK cm mT pm mU mH mI, kA mN cI 3 gm, kJ mF cJ 6 (vp_updL (vp_updL ff 0 a.toInt64) 1 b.toInt64), kA mC cI 360 gc] := hD
              refine lv_aload_n hx hb dX5_conic_70 rfl (lv_at hl 0 rfl) ?_
              refine va_get (D := D) (ci := 5) (v := .ref mF) (C := RX5) (T := TX5) (N := 17) hx hb hts k_3 hown hK.1 hP 0 rfl rfl 4 (by decide) k_2 (fun _ h9 => h9) rfl dX5_conic_71 ?_
              refine lv_iconst (v := 2) hx hb dX5_conic_74 (by decide) ?_
              refine lv_iload_n hx hb dX5_conic_75 rfl (lv_at hl 3 rfl) ?_
              refine lv_i2l hx hb dX5_conic_76 rfl ?_
              refine st_l hx hb hK.1 hP hD hS 2 1 rfl rfl (ix_lit (by decide)) 2 (by decide) dX5_conic_77 (fun H locs hP hD hS => ?_)
              have hP : va_P D vwCl [kM o mP mL mC mN mF mR mD mV mX mA mK cm mT pm mU mH mI, kA mN cI 3 gm, kJ mF cJ 6 (vp_updL (vp_updL (vp_updL ff 0 a.toInt64) 1 b.toInt64) 2 c.toInt64), kA mC cI 360 gc] H := hP
              have hD : va_D A [kM o mP mL mC mN mF mR mD mV mX mA mK cm mT pm mU mH mI, kA mN cI 3 gm, kJ mF cJ 6 (vp_updL (vp_updL (vp_updL ff 0 a.toInt64) 1 b.toInt64) 2 c.toInt64), kA mC cI 360 gc] := hD
              refine lv_aload_n hx hb dX5_conic_78 rfl (lv_at hl 0 rfl) ?_
              refine va_get (D := D) (ci := 5) (v := .ref mF) (C := RX5) (T := TX5) (N := 17) hx hb hts k_3 hown hK.1 hP 0 rfl rfl 4 (by decide) k_2 (fun _ h9 => h9) rfl dX5_conic_79 ?_
              refine lv_iconst (v := 3) hx hb dX5_conic_82 (by decide) ?_
              refine lv_iload hx hb dX5_conic_83 (lv_at hl 4 rfl) ?_
              refine lv_i2l hx hb dX5_conic_85 rfl ?_
              refine st_l hx hb hK.1 hP hD hS 2 1 rfl rfl (ix_lit (by decide)) 3 (by decide) dX5_conic_86 (fun H locs hP hD hS => ?_)
              have hP : va_P D vwCl [kM o mP mL mC mN mF mR mD mV mX mA mK cm mT pm mU mH mI, kA mN cI 3 gm, kJ mF cJ 6 (vp_updL (vp_updL (vp_updL (vp_updL ff 0 a.toInt64) 1 b.toInt64) 2 c.toInt64) 3 d.toInt64), kA mC cI 360 gc] H := hP
              have hD : va_D A [kM o mP mL mC mN mF mR mD mV mX mA mK cm mT pm mU mH mI, kA mN cI 3 gm, kJ mF cJ 6 (vp_updL (vp_updL (vp_updL (vp_updL ff 0 a.toInt64) 1 b.toInt64) 2 c.toInt64) 3 d.toInt64), kA mC cI 360 gc] := hD
              refine lv_aload_n hx hb dX5_conic_87 rfl (lv_at hl 0 rfl) ?_
              refine va_get (D := D) (ci := 5) (v := .ref mF) (C := RX5) (T := TX5) (N := 17) hx hb hts k_3 hown hK.1 hP 0 rfl rfl 4 (by decide) k_2 (fun _ h9 => h9) rfl dX5_conic_88 ?_
              refine lv_iconst (v := 4) hx hb dX5_conic_91 (by decide) ?_
              refine lv_iload hx hb dX5_conic_92 (lv_at hl 5 rfl) ?_
              refine lv_i2l hx hb dX5_conic_94 rfl ?_
              refine st_l hx hb hK.1 hP hD hS 2 1 rfl rfl (ix_lit (by decide)) 4 (by decide) dX5_conic_95 (fun H locs hP hD hS => ?_)
              have hP : va_P D vwCl [kM o mP mL mC mN mF mR mD mV mX mA mK cm mT pm mU mH mI, kA mN cI 3 gm, kJ mF cJ 6 (vp_updL (vp_updL (vp_updL (vp_updL (vp_updL ff 0 a.toInt64) 1 b.toInt64) 2 c.toInt64) 3 d.toInt64) 4 e.toInt64), kA mC cI 360 gc] H := hP
              have hD : va_D A [kM o mP mL mC mN mF mR mD mV mX mA mK cm mT pm mU mH mI, kA mN cI 3 gm, kJ mF cJ 6 (vp_updL (vp_updL (vp_updL (vp_updL (vp_updL ff 0 a.toInt64) 1 b.toInt64) 2 c.toInt64) 3 d.toInt64) 4 e.toInt64), kA mC cI 360 gc] := hD
              refine lv_aload_n hx hb dX5_conic_96 rfl (lv_at hl 0 rfl) ?_
              refine va_get (D := D) (ci := 5) (v := .ref mF) (C := RX5) (T := TX5) (N := 17) hx hb hts k_3 hown hK.1 hP 0 rfl rfl 4 (by decide) k_2 (fun _ h9 => h9) rfl dX5_conic_97 ?_
              refine lv_iconst (v := 5) hx hb dX5_conic_100 (by decide) ?_
              refine lv_iload hx hb dX5_conic_101 (lv_at hl 6 rfl) ?_
              refine lv_i2l hx hb dX5_conic_103 rfl ?_
              refine st_l hx hb hK.1 hP hD hS 2 1 rfl rfl (ix_lit (by decide)) 5 (by decide) dX5_conic_104 (fun H locs hP hD hS => ?_)
              have hP : va_P D vwCl [kM o mP mL mC mN mF mR mD mV mX mA mK cm mT pm mU mH mI, kA mN cI 3 gm, kJ mF cJ 6 (vp_updL (vp_updL (vp_updL (vp_updL (vp_updL (vp_updL ff 0 a.toInt64) 1 b.toInt64) 2 c.toInt64) 3 d.toInt64) 4 e.toInt64) 5 f.toInt64), kA mC cI 360 gc] H := hP
              have hD : va_D A [kM o mP mL mC mN mF mR mD mV mX mA mK cm mT pm mU mH mI, kA mN cI 3 gm, kJ mF cJ 6 (vp_updL (vp_updL (vp_updL (vp_updL (vp_updL (vp_updL ff 0 a.toInt64) 1 b.toInt64) 2 c.toInt64) 3 d.toInt64) 4 e.toInt64) 5 f.toInt64), kA mC cI 360 gc] := hD
              refine lv_aload_n hx hb dX5_conic_105 rfl (lv_at hl 0 rfl) ?_
              refine lv_iconst (v := 2) hx hb dX5_conic_106 (by decide) ?_
              refine lv_ldc hx hb hown k_1 dX5_conic_107 ?_
              have hPc := hP.sub (ws' := [kM o mP mL mC mN mF mR mD mV mX mA mK cm mT pm mU mH mI, kA mN cI 3 gm, kJ mF cJ 6 (vp_updL (vp_updL (vp_updL (vp_updL (vp_updL (vp_updL ff 0 a.toInt64) 1 b.toInt64) 2 c.toInt64) 3 d.toInt64) 4 e.toInt64) 5 f.toInt64), kA mC cI 360 gc]) [0, 1, 2, 3] rfl
              have hDc := hD.sub (ws' := [kM o mP mL mC mN mF mR mD mV mX mA mK cm mT pm mU mH mI, kA mN cI 3 gm, kJ mF cJ 6 (vp_updL (vp_updL (vp_updL (vp_updL (vp_updL (vp_updL ff 0 a.toInt64) 1 b.toInt64) 2 c.toInt64) 3 d.toInt64) 4 e.toInt64) 5 f.toInt64), kA mC cI 360 gc]) [0, 1, 2, 3] (by decide) rfl
              refine cl_i (wc := [kM o mP mL mC mN mF mR mD mV mX mA mK cm mT pm mU mH mI, kA mN cI 3 gm, kJ mF cJ 6 (vp_updL (vp_updL (vp_updL (vp_updL (vp_updL (vp_updL ff 0 a.toInt64) 1 b.toInt64) 2 c.toInt64) 3 d.toInt64) 4 e.toInt64) 5 f.toInt64), kA mC cI 360 gc]) (wr := []) (w1 := fun uu : (Nat → Int64) => [kM o mP mL mC mN mF mR mD mV mX mA mK cm mT pm mU mH mI, kA mN cI 3 ((z5_keep_2 gm (vp_updL (vp_updL (vp_updL (vp_updL (vp_updL (vp_updL ff 0 a.toInt64) 1 b.toInt64) 2 c.toInt64) 3 d.toInt64) 4 e.toInt64) 5 f.toInt64) gc (-1000003)).2.1), kJ mF cJ 6 uu, kA mC cI 360 ((z5_keep_2 gm (vp_updL (vp_updL (vp_updL (vp_updL (vp_updL (vp_updL ff 0 a.toInt64) 1 b.toInt64) 2 c.toInt64) 3 d.toInt64) 4 e.toInt64) 5 f.toInt64) gc (-1000003)).2.2)]) (wn := fun uu : (Nat → Int64) => [kM o mP mL mC mN mF mR mD mV mX mA mK cm mT pm mU mH mI, kA mN cI 3 ((z5_keep_2 gm (vp_updL (vp_updL (vp_updL (vp_updL (vp_updL (vp_updL ff 0 a.toInt64) 1 b.toInt64) 2 c.toInt64) 3 d.toInt64) 4 e.toInt64) 5 f.toInt64) gc (-1000003)).2.1), kJ mF cJ 6 uu, kA mC cI 360 ((z5_keep_2 gm (vp_updL (vp_updL (vp_updL (vp_updL (vp_updL (vp_updL ff 0 a.toInt64) 1 b.toInt64) 2 c.toInt64) 3 d.toInt64) 4 e.toInt64) 5 f.toInt64) gc (-1000003)).2.2)]) (va_runV (As := [.int 2, .int (-1000003)]) (rest := []) ⟨hx, hb, hml, hown, hts⟩ (c_X5_keep_2 l D cI cJ o mP mL mC mN mF mR mD mV mX mA mK mT mU mH mI cm pm gm (vp_updL (vp_updL (vp_updL (vp_updL (vp_updL (vp_updL ff 0 a.toInt64) 1 b.toInt64) 2 c.toInt64) 3 d.toInt64) 4 e.toInt64) 5 f.toInt64) gc (-1000003) hm2 _) (cwV 2 hts gX5_conic_X5_keep rfl rfl rfl (by decide +kernel) ⟨Nat.le_of_ble_eq_true rfl, Nat.le_of_ble_eq_true rfl⟩) ⟨gd_blP, va_recv hK.1 hPc (ci := 5) (q0 := 0) rfl rfl, gd_prP hPc hK hDc⟩ rfl rfl hl.1 rfl (lv_room (Nat.le_of_ble_eq_true rfl)) dX5_conic_109 ⟨Nat.zero_le _, Nat.zero_le _⟩) hP hD hS hA [0, 1, 2, 3] [] rfl rfl (by decide) (by decide) [0, 1, 2, 3] (by decide) (fun _ => rfl) (fun r_109 uG H locs hw hP hD hS => ?_)
              obtain ⟨y_109_0_1, rfl⟩ : ∃ z, z = uG := ⟨_, rfl⟩
              have hP : va_P D vwCl [kM o mP mL mC mN mF mR mD mV mX mA mK cm mT pm mU mH mI, kA mN cI 3 ((z5_keep_2 gm (vp_updL (vp_updL (vp_updL (vp_updL (vp_updL (vp_updL ff 0 a.toInt64) 1 b.toInt64) 2 c.toInt64) 3 d.toInt64) 4 e.toInt64) 5 f.toInt64) gc (-1000003)).2.1), kJ mF cJ 6 y_109_0_1, kA mC cI 360 ((z5_keep_2 gm (vp_updL (vp_updL (vp_updL (vp_updL (vp_updL (vp_updL ff 0 a.toInt64) 1 b.toInt64) 2 c.toInt64) 3 d.toInt64) 4 e.toInt64) 5 f.toInt64) gc (-1000003)).2.2)] H := hP
              have hD : va_D A [kM o mP mL mC mN mF mR mD mV mX mA mK cm mT pm mU mH mI, kA mN cI 3 ((z5_keep_2 gm (vp_updL (vp_updL (vp_updL (vp_updL (vp_updL (vp_updL ff 0 a.toInt64) 1 b.toInt64) 2 c.toInt64) 3 d.toInt64) 4 e.toInt64) 5 f.toInt64) gc (-1000003)).2.1), kJ mF cJ 6 y_109_0_1, kA mC cI 360 ((z5_keep_2 gm (vp_updL (vp_updL (vp_updL (vp_updL (vp_updL (vp_updL ff 0 a.toInt64) 1 b.toInt64) 2 c.toInt64) 3 d.toInt64) 4 e.toInt64) 5 f.toInt64) gc (-1000003)).2.2)] := hD
              have ea_0 : (z5_keep_2 gm (vp_updL (vp_updL (vp_updL (vp_updL (vp_updL (vp_updL ff 0 a.toInt64) 1 b.toInt64) 2 c.toInt64) 3 d.toInt64) 4 e.toInt64) 5 f.toInt64) gc (-1000003)).2.1 = z5_conic_v1 gm ff gc a b c d e f := by delta z5_conic_v1; rfl
              have ea_1 : (z5_keep_2 gm (vp_updL (vp_updL (vp_updL (vp_updL (vp_updL (vp_updL ff 0 a.toInt64) 1 b.toInt64) 2 c.toInt64) 3 d.toInt64) 4 e.toInt64) 5 f.toInt64) gc (-1000003)).2.2 = z5_conic_v2 gm ff gc a b c d e f := by delta z5_conic_v2; rfl
              rw [ea_0, ea_1] at hP hD
              clear ea_0 ea_1
              subst hw
              refine lv_eqi (v := z5_conic_v3 gm ff gc a b c d e f) (by delta z5_conic_v3; rfl) ?_
              clear hPc hDc
              have he : z5_conic gm ff gc a b c d e f = (z5_conic_v3 gm ff gc a b c d e f, z5_conic_v1 gm ff gc a b c d e f, z5_conic_v2 gm ff gc a b c d e f) := by unfold z5_conic; rw [if_neg c_1, if_neg c_2, if_neg c_3, if_neg c_4, if_neg c_5, if_neg c_6]
              have he_0 : (z5_conic gm ff gc a b c d e f).1 = z5_conic_v3 gm ff gc a b c d e f := by rw [he]
              have he_1 : (z5_conic gm ff gc a b c d e f).2.1 = z5_conic_v1 gm ff gc a b c d e f := by rw [he]
              have he_2 : (z5_conic gm ff gc a b c d e f).2.2 = z5_conic_v2 gm ff gc a b c d e f := by rw [he]
              exact rt_i (w1 := fun uu : (Nat → Int64) => [kM o mP mL mC mN mF mR mD mV mX mA mK cm mT pm mU mH mI, kA mN cI 3 ((z5_conic gm ff gc a b c d e f).2.1), kJ mF cJ 6 uu, kA mC cI 360 ((z5_conic gm ff gc a b c d e f).2.2)]) hx hb hr hlk hS dX5_conic_112 (y_109_0_1) he_0.symm (by (try dsimp only); rw [he_1, he_2]; exact hP) (by (try dsimp only); rw [he_1, he_2]; exact hD)
            · skip
              refine lv_ldc hx hb hown k_1 dX5_conic_51 ?_
              have he : z5_conic gm ff gc a b c d e f = ((-1000003), gm, gc) := by unfold z5_conic; rw [if_neg c_1, if_neg c_2, if_neg c_3, if_neg c_4, if_neg c_5, if_pos c_6]
              have he_0 : (z5_conic gm ff gc a b c d e f).1 = (-1000003) := by rw [he]
              have he_1 : (z5_conic gm ff gc a b c d e f).2.1 = gm := by rw [he]
              have he_2 : (z5_conic gm ff gc a b c d e f).2.2 = gc := by rw [he]
              exact rt_i (w1 := fun uu : (Nat → Int64) => [kM o mP mL mC mN mF mR mD mV mX mA mK cm mT pm mU mH mI, kA mN cI 3 ((z5_conic gm ff gc a b c d e f).2.1), kJ mF cJ 6 uu, kA mC cI 360 ((z5_conic gm ff gc a b c d e f).2.2)]) hx hb hr hlk hS dX5_conic_53 (ff) he_0.symm (by (try dsimp only); rw [he_1, he_2]; exact hP) (by (try dsimp only); rw [he_1, he_2]; exact hD)
def z5_count (gm : Nat → Int32) (s : Int32) : Int32 := if s = 0 then gm 0 else if s = 1 then gm 1 else if s = 2 then gm 2 else (-1000003)
set_option maxHeartbeats 4000000 in
set_option maxRecDepth 100000 in
/-- X5.count -/
theorem c_X5_count (l : Launch) (D : va_G) (cI cJ : ClassId) (o : Nat) (mP : Nat) (mL : Nat) (mC : Nat) (mN : Nat) (mF : Nat) (mR : Nat) (mD : Nat) (mV : Nat) (mX : Nat) (mA : Nat) (mK : Nat) (mT : Nat) (mU : Nat) (mH : Nat) (mI : Nat) (cm : Int32) (pm : Int32) (gm : Nat → Int32) (s : Int32) : mr_C l yX5_count wsX5_count ({ frames := 1, cells := 0, slots := 0, locals := 25 }) D cI cJ [.ref o, .int s] [kM o mP mL mC mN mF mR mD mV mX mA mK cm mT pm mU mH mI, kA mN cI 3 gm] (vp_Si (fun r : Int32 => r = z5_count gm s)) := by
  refine mr_in (cc := cX5_count) (lv := [(0, .ref o), (1, .int s)]) (by decide) rfl (Nat.le_of_ble_eq_true rfl) rfl ?_
  intro pG eG sG mG below meth cG ls hx hb hr hml hown hts hlk hP hK hl
  have hown : sG.vm.findClass RX5 = some mG.cls := hown
  have k_1 := hts (.constantLong RX5 95 (2)) (by decide +kernel)
  have k_2 := hts (.fieldLink RX5 19 "ConicRowsModel" "many" "[I") (by decide +kernel)
  have k_3 : ∀ w ∈ wsX50, w ∈ wsX5_count := by decide +kernel
  have k_4 := hts (.constant RX5 86 (-1000003)) (by decide +kernel)
  by_cases c_1 : s = 0
  · subst c_1
    refine lv_iload_n hx hb dX5_count_0 rfl (lv_at hl 1 rfl) ?_
    refine lv_i2l (v := 0) hx hb dX5_count_1 (by decide) ?_
    refine lv_lconst (v := 0) hx hb dX5_count_2 (by decide) ?_
    refine lv_ldc2 hx hb hown k_1 dX5_count_3 ?_
    have hPc := hP.sub (ws' := []) [] rfl
    refine cr_i (va_runS (As := [.long 0, .long 0, .long 2]) (rest := []) ⟨hx, hb, hml, hown, hts⟩ (c_X5_in l D cI cJ 0 0 2) (va_cwS 3 hts gX5_count_X5_in rfl rfl rfl (by decide +kernel) ⟨Nat.le_of_ble_eq_true rfl, Nat.le_of_ble_eq_true rfl⟩) ⟨gd_blR, gd_prR hPc hK⟩ rfl rfl hl.1 rfl (lv_room (Nat.le_of_ble_eq_true rfl)) dX5_count_6 ⟨Nat.zero_le _, Nat.zero_le _⟩) (fun r_6 hw => ?_)
    subst hw
    clear hPc
    refine lv_eqi (v := 1) (by decide) ?_
    refine lv_if_eq (tgt := 21) hx hb dX5_count_9 (by decide) (fun h => absurd h (by decide)) (fun _ => ?_)
    refine lv_aload_n hx hb dX5_count_12 rfl (lv_at hl 0 rfl) ?_
    refine va_get (D := D) (ci := 5) (v := .ref mN) (C := RX5) (T := TX5) (N := 17) hx hb hts k_3 hown hK.1 hP 0 rfl rfl 3 (by decide) k_2 (fun _ h9 => h9) rfl dX5_count_13 ?_
    refine lv_iload_n hx hb dX5_count_16 rfl (lv_at hl 1 rfl) ?_
    refine ld_i hx hb hK.1 hP 1 0 rfl rfl (ix_lit (by decide)) 0 (by decide) (v := gm 0) rfl dX5_count_17 ?_
    refine lv_goto (tgt := 23) hx hb dX5_count_18 (by decide) ?_
    have he : z5_count gm 0 = gm 0 := by unfold z5_count; rw [if_pos rfl]
    exact rr_i hx hb hr hlk dX5_count_23 he.symm
  · skip
    by_cases c_2 : s = 1
    · subst c_2
      refine lv_iload_n hx hb dX5_count_0 rfl (lv_at hl 1 rfl) ?_
      refine lv_i2l (v := 1) hx hb dX5_count_1 (by decide) ?_
      refine lv_lconst (v := 0) hx hb dX5_count_2 (by decide) ?_
      refine lv_ldc2 hx hb hown k_1 dX5_count_3 ?_
      have hPc := hP.sub (ws' := []) [] rfl
      refine cr_i (va_runS (As := [.long 1, .long 0, .long 2]) (rest := []) ⟨hx, hb, hml, hown, hts⟩ (c_X5_in l D cI cJ 1 0 2) (va_cwS 3 hts gX5_count_X5_in rfl rfl rfl (by decide +kernel) ⟨Nat.le_of_ble_eq_true rfl, Nat.le_of_ble_eq_true rfl⟩) ⟨gd_blR, gd_prR hPc hK⟩ rfl rfl hl.1 rfl (lv_room (Nat.le_of_ble_eq_true rfl)) dX5_count_6 ⟨Nat.zero_le _, Nat.zero_le _⟩) (fun r_6 hw => ?_)
      subst hw
      clear hPc
      refine lv_eqi (v := 1) (by decide) ?_
      refine lv_if_eq (tgt := 21) hx hb dX5_count_9 (by decide) (fun h => absurd h (by decide)) (fun _ => ?_)
      refine lv_aload_n hx hb dX5_count_12 rfl (lv_at hl 0 rfl) ?_
      refine va_get (D := D) (ci := 5) (v := .ref mN) (C := RX5) (T := TX5) (N := 17) hx hb hts k_3 hown hK.1 hP 0 rfl rfl 3 (by decide) k_2 (fun _ h9 => h9) rfl dX5_count_13 ?_
      refine lv_iload_n hx hb dX5_count_16 rfl (lv_at hl 1 rfl) ?_
      refine ld_i hx hb hK.1 hP 1 0 rfl rfl (ix_lit (by decide)) 1 (by decide) (v := gm 1) rfl dX5_count_17 ?_
      refine lv_goto (tgt := 23) hx hb dX5_count_18 (by decide) ?_
      have he : z5_count gm 1 = gm 1 := by unfold z5_count; rw [if_neg c_1, if_pos rfl]
      exact rr_i hx hb hr hlk dX5_count_23 he.symm
    · skip
      by_cases c_3 : s = 2
      · subst c_3
        refine lv_iload_n hx hb dX5_count_0 rfl (lv_at hl 1 rfl) ?_
        refine lv_i2l (v := 2) hx hb dX5_count_1 (by decide) ?_
        refine lv_lconst (v := 0) hx hb dX5_count_2 (by decide) ?_
        refine lv_ldc2 hx hb hown k_1 dX5_count_3 ?_
        have hPc := hP.sub (ws' := []) [] rfl
        refine cr_i (va_runS (As := [.long 2, .long 0, .long 2]) (rest := []) ⟨hx, hb, hml, hown, hts⟩ (c_X5_in l D cI cJ 2 0 2) (va_cwS 3 hts gX5_count_X5_in rfl rfl rfl (by decide +kernel) ⟨Nat.le_of_ble_eq_true rfl, Nat.le_of_ble_eq_true rfl⟩) ⟨gd_blR, gd_prR hPc hK⟩ rfl rfl hl.1 rfl (lv_room (Nat.le_of_ble_eq_true rfl)) dX5_count_6 ⟨Nat.zero_le _, Nat.zero_le _⟩) (fun r_6 hw => ?_)
        subst hw
        clear hPc
        refine lv_eqi (v := 1) (by decide) ?_
        refine lv_if_eq (tgt := 21) hx hb dX5_count_9 (by decide) (fun h => absurd h (by decide)) (fun _ => ?_)
        refine lv_aload_n hx hb dX5_count_12 rfl (lv_at hl 0 rfl) ?_
        refine va_get (D := D) (ci := 5) (v := .ref mN) (C := RX5) (T := TX5) (N := 17) hx hb hts k_3 hown hK.1 hP 0 rfl rfl 3 (by decide) k_2 (fun _ h9 => h9) rfl dX5_count_13 ?_
        refine lv_iload_n hx hb dX5_count_16 rfl (lv_at hl 1 rfl) ?_
        refine ld_i hx hb hK.1 hP 1 0 rfl rfl (ix_lit (by decide)) 2 (by decide) (v := gm 2) rfl dX5_count_17 ?_
        refine lv_goto (tgt := 23) hx hb dX5_count_18 (by decide) ?_
        have he : z5_count gm 2 = gm 2 := by unfold z5_count; rw [if_neg c_1, if_neg c_2, if_pos rfl]
        exact rr_i hx hb hr hlk dX5_count_23 he.symm
      · skip
        refine lv_iload_n hx hb dX5_count_0 rfl (lv_at hl 1 rfl) ?_
        refine lv_i2l hx hb dX5_count_1 rfl ?_
        refine lv_lconst (v := 0) hx hb dX5_count_2 (by decide) ?_
        refine lv_ldc2 hx hb hown k_1 dX5_count_3 ?_
        have hPc := hP.sub (ws' := []) [] rfl
        refine cr_i (va_runS (As := [.long s.toInt64, .long 0, .long 2]) (rest := []) ⟨hx, hb, hml, hown, hts⟩ (c_X5_in l D cI cJ s.toInt64 0 2) (va_cwS 3 hts gX5_count_X5_in rfl rfl rfl (by decide +kernel) ⟨Nat.le_of_ble_eq_true rfl, Nat.le_of_ble_eq_true rfl⟩) ⟨gd_blR, gd_prR hPc hK⟩ rfl rfl hl.1 rfl (lv_room (Nat.le_of_ble_eq_true rfl)) dX5_count_6 ⟨Nat.zero_le _, Nat.zero_le _⟩) (fun r_6 hw => ?_)
        subst hw
        clear hPc
        refine lv_if_eq (tgt := 21) hx hb dX5_count_9 (by decide) (fun _ => ?_) (fun h => absurd (in_out c_1 c_2 c_3) h)
        refine lv_ldc hx hb hown k_4 dX5_count_21 ?_
        have he : z5_count gm s = (-1000003) := by unfold z5_count; rw [if_neg c_1, if_neg c_2, if_neg c_3]
        exact rr_i hx hb hr hlk dX5_count_23 he.symm
def z5_number (gm : Nat → Int32) (gp : Nat → Int32) (gl : Nat → Int32) (gc : Nat → Int32) (s : Int32) (i : Int32) (k : Int32) : Int32 := if s = 0 then if (z5_isOf_0 gm i) = 0 then (-1000002) else if (z5_in k.toInt64 0 2) = 0 then (-1000003) else z5_numberOf_0 gp i k else if s = 1 then if (z5_isOf_1 gm i) = 0 then (-1000002) else if (z5_in k.toInt64 0 2) = 0 then (-1000003) else z5_numberOf_1 gl i k else if s = 2 then if (z5_isOf_2 gm i) = 0 then (-1000002) else if (z5_in k.toInt64 0 5) = 0 then (-1000003) else z5_numberOf_2 gc i k else (-1000003)
set_option maxHeartbeats 4000000 in
set_option maxRecDepth 100000 in
/-- X5.number -/
theorem c_X5_number (l : Launch) (D : va_G) (cI cJ : ClassId) (o : Nat) (mP : Nat) (mL : Nat) (mC : Nat) (mN : Nat) (mF : Nat) (mR : Nat) (mD : Nat) (mV : Nat) (mX : Nat) (mA : Nat) (mK : Nat) (mT : Nat) (mU : Nat) (mH : Nat) (mI : Nat) (cm : Int32) (pm : Int32) (gm : Nat → Int32) (gp : Nat → Int32) (gl : Nat → Int32) (gc : Nat → Int32) (s : Int32) (i : Int32) (k : Int32) (hm0 : n_ok (gm 0)) (hm1 : n_ok (gm 1)) (hm2 : n_ok (gm 2)) : mr_C l yX5_number wsX5_number ({ frames := 2, cells := 0, slots := 0, locals := 47 }) D cI cJ [.ref o, .int s, .int i, .int k] [kM o mP mL mC mN mF mR mD mV mX mA mK cm mT pm mU mH mI, kA mN cI 3 gm, kA mP cI 180 gp, kA mL cI 180 gl, kA mC cI 360 gc] (vp_Si (fun r : Int32 => r = z5_number gm gp gl gc s i k)) := by
  refine mr_in (cc := cX5_number) (lv := [(0, .ref o), (1, .int s), (2, .int i), (3, .int k)]) (by decide) rfl (Nat.le_of_ble_eq_true rfl) rfl ?_
  intro pG eG sG mG below meth cG ls hx hb hr hml hown hts hlk hP hK hl
  have hown : sG.vm.findClass RX5 = some mG.cls := hown
  have k_1 := hts (.constantLong RX5 95 (2)) (by decide +kernel)
  have k_2 := hts (.constant RX5 86 (-1000003)) (by decide +kernel)
  have k_3 := hts (.constant RX5 101 (-1000002)) (by decide +kernel)
  by_cases c_1 : s = 0
  · subst c_1
    refine lv_iload_n hx hb dX5_number_0 rfl (lv_at hl 1 rfl) ?_
    refine lv_i2l (v := 0) hx hb dX5_number_1 (by decide) ?_
    refine lv_lconst (v := 0) hx hb dX5_number_2 (by decide) ?_
    refine lv_ldc2 hx hb hown k_1 dX5_number_3 ?_
    have hPc := hP.sub (ws' := []) [] rfl
    refine cr_i (va_runS (As := [.long 0, .long 0, .long 2]) (rest := []) ⟨hx, hb, hml, hown, hts⟩ (c_X5_in l D cI cJ 0 0 2) (va_cwS 3 hts gX5_number_X5_in rfl rfl rfl (by decide +kernel) ⟨Nat.le_of_ble_eq_true rfl, Nat.le_of_ble_eq_true rfl⟩) ⟨gd_blR, gd_prR hPc hK⟩ rfl rfl hl.1 rfl (lv_room (Nat.le_of_ble_eq_true rfl)) dX5_number_6 ⟨Nat.zero_le _, Nat.zero_le _⟩) (fun r_6 hw => ?_)
    subst hw
    clear hPc
    refine lv_eqi (v := 1) (by decide) ?_
    refine lv_if_ne (tgt := 15) hx hb dX5_number_9 (by decide) (fun _ => ?_) (fun h => absurd h (by decide))
    refine lv_aload_n hx hb dX5_number_15 rfl (lv_at hl 0 rfl) ?_
    refine lv_iload_n hx hb dX5_number_16 rfl (lv_at hl 1 rfl) ?_
    refine lv_iload_n hx hb dX5_number_17 rfl (lv_at hl 2 rfl) ?_
    have hPc := hP.sub (ws' := [kM o mP mL mC mN mF mR mD mV mX mA mK cm mT pm mU mH mI, kA mN cI 3 gm]) [0, 1] rfl
    refine cr_i (va_runV (As := [.int 0, .int i]) (rest := []) ⟨hx, hb, hml, hown, hts⟩ (c_X5_isOf_0 l D cI cJ o mP mL mC mN mF mR mD mV mX mA mK mT mU mH mI cm pm gm i) (cwV 2 hts gX5_number_X5_isOf rfl rfl rfl (by decide +kernel) ⟨Nat.le_of_ble_eq_true rfl, Nat.le_of_ble_eq_true rfl⟩) ⟨gd_blR, va_recv hK.1 hPc (ci := 5) (q0 := 0) rfl rfl, gd_prR hPc hK⟩ rfl rfl hl.1 rfl (lv_room (Nat.le_of_ble_eq_true rfl)) dX5_number_18 ⟨Nat.zero_le _, Nat.zero_le _⟩) (fun r_18 hw => ?_)
    subst hw
    clear hPc
    refine lv_if_ne (tgt := 27) hx hb dX5_number_21 (by decide) (fun c_2 => ?_) (fun c_2 => ?_)
    · skip
      refine lv_iload_n hx hb dX5_number_27 rfl (lv_at hl 3 rfl) ?_
      refine lv_i2l hx hb dX5_number_28 rfl ?_
      refine lv_lconst (v := 0) hx hb dX5_number_29 (by decide) ?_
      refine lv_iload_n hx hb dX5_number_30 rfl (lv_at hl 1 rfl) ?_
      have hPc := hP.sub (ws' := []) [] rfl
      refine cr_i (va_runS (As := [.int 0]) (rest := [.long 0, .long k.toInt64]) ⟨hx, hb, hml, hown, hts⟩ (c_X5_wide l D cI cJ 0) (va_cwS 1 hts gX5_number_X5_wide rfl rfl rfl (by decide +kernel) ⟨Nat.le_of_ble_eq_true rfl, Nat.le_of_ble_eq_true rfl⟩) ⟨gd_blR, gd_prR hPc hK⟩ rfl rfl hl.1 rfl (lv_room (Nat.le_of_ble_eq_true rfl)) dX5_number_31 ⟨Nat.zero_le _, Nat.zero_le _⟩) (fun r_31 hw => ?_)
      subst hw
      clear hPc
      refine lv_eqi (v := 3) (by decide) ?_
      refine lv_iconst (v := 1) hx hb dX5_number_34 (by decide) ?_
      refine lv_isub hx hb dX5_number_35 ?_
      refine lv_eqi (v := 2) (by decide) ?_
      refine lv_i2l (v := 2) hx hb dX5_number_36 (by decide) ?_
      have hPc := hP.sub (ws' := []) [] rfl
      refine cr_i (va_runS (As := [.long k.toInt64, .long 0, .long 2]) (rest := []) ⟨hx, hb, hml, hown, hts⟩ (c_X5_in l D cI cJ k.toInt64 0 2) (va_cwS 3 hts gX5_number_X5_in rfl rfl rfl (by decide +kernel) ⟨Nat.le_of_ble_eq_true rfl, Nat.le_of_ble_eq_true rfl⟩) ⟨gd_blR, gd_prR hPc hK⟩ rfl rfl hl.1 rfl (lv_room (Nat.le_of_ble_eq_true rfl)) dX5_number_37 ⟨Nat.zero_le _, Nat.zero_le _⟩) (fun r_37 hw => ?_)
      subst hw
      clear hPc
      refine lv_if_eq (tgt := 53) hx hb dX5_number_40 (by decide) (fun c_3 => ?_) (fun c_3 => ?_)
      · skip
        refine lv_ldc hx hb hown k_2 dX5_number_53 ?_
        have he : z5_number gm gp gl gc 0 i k = (-1000003) := by unfold z5_number; rw [if_pos rfl, if_neg c_2, if_pos c_3]
        exact rr_i hx hb hr hlk dX5_number_55 he.symm
      · skip
        refine lv_aload_n hx hb dX5_number_43 rfl (lv_at hl 0 rfl) ?_
        refine lv_iload_n hx hb dX5_number_44 rfl (lv_at hl 1 rfl) ?_
        refine lv_iload_n hx hb dX5_number_45 rfl (lv_at hl 2 rfl) ?_
        refine lv_iload_n hx hb dX5_number_46 rfl (lv_at hl 3 rfl) ?_
        have hPc := hP.sub (ws' := [kM o mP mL mC mN mF mR mD mV mX mA mK cm mT pm mU mH mI, kA mP cI 180 gp]) [0, 2] rfl
        refine cr_i (va_runV (As := [.int 0, .int i, .int k]) (rest := []) ⟨hx, hb, hml, hown, hts⟩ (c_X5_numberOf_0 l D cI cJ o mP mL mC mN mF mR mD mV mX mA mK mT mU mH mI cm pm gp i k (ok_of hm0 c_2) (k_of3 c_3)) (cwV 3 hts gX5_number_X5_numberOf rfl rfl rfl (by decide +kernel) ⟨Nat.le_of_ble_eq_true rfl, Nat.le_of_ble_eq_true rfl⟩) ⟨gd_blR, va_recv hK.1 hPc (ci := 5) (q0 := 0) rfl rfl, gd_prR hPc hK⟩ rfl rfl hl.1 rfl (lv_room (Nat.le_of_ble_eq_true rfl)) dX5_number_47 ⟨Nat.zero_le _, Nat.zero_le _⟩) (fun r_47 hw => ?_)
        subst hw
        clear hPc
        refine lv_goto (tgt := 55) hx hb dX5_number_50 (by decide) ?_
        have he : z5_number gm gp gl gc 0 i k = z5_numberOf_0 gp i k := by unfold z5_number; rw [if_pos rfl, if_neg c_2, if_neg c_3]
        exact rr_i hx hb hr hlk dX5_number_55 he.symm
    · skip
      refine lv_ldc hx hb hown k_3 dX5_number_24 ?_
      have he : z5_number gm gp gl gc 0 i k = (-1000002) := by unfold z5_number; rw [if_pos rfl, if_pos c_2]
      exact rr_i hx hb hr hlk dX5_number_26 he.symm
  · skip
    by_cases c_4 : s = 1
    · subst c_4
      refine lv_iload_n hx hb dX5_number_0 rfl (lv_at hl 1 rfl) ?_
      refine lv_i2l (v := 1) hx hb dX5_number_1 (by decide) ?_
      refine lv_lconst (v := 0) hx hb dX5_number_2 (by decide) ?_
      refine lv_ldc2 hx hb hown k_1 dX5_number_3 ?_
      have hPc := hP.sub (ws' := []) [] rfl
      refine cr_i (va_runS (As := [.long 1, .long 0, .long 2]) (rest := []) ⟨hx, hb, hml, hown, hts⟩ (c_X5_in l D cI cJ 1 0 2) (va_cwS 3 hts gX5_number_X5_in rfl rfl rfl (by decide +kernel) ⟨Nat.le_of_ble_eq_true rfl, Nat.le_of_ble_eq_true rfl⟩) ⟨gd_blR, gd_prR hPc hK⟩ rfl rfl hl.1 rfl (lv_room (Nat.le_of_ble_eq_true rfl)) dX5_number_6 ⟨Nat.zero_le _, Nat.zero_le _⟩) (fun r_6 hw => ?_)
      subst hw
      clear hPc
      refine lv_eqi (v := 1) (by decide) ?_
      refine lv_if_ne (tgt := 15) hx hb dX5_number_9 (by decide) (fun _ => ?_) (fun h => absurd h (by decide))
      refine lv_aload_n hx hb dX5_number_15 rfl (lv_at hl 0 rfl) ?_
      refine lv_iload_n hx hb dX5_number_16 rfl (lv_at hl 1 rfl) ?_
      refine lv_iload_n hx hb dX5_number_17 rfl (lv_at hl 2 rfl) ?_
      have hPc := hP.sub (ws' := [kM o mP mL mC mN mF mR mD mV mX mA mK cm mT pm mU mH mI, kA mN cI 3 gm]) [0, 1] rfl
      refine cr_i (va_runV (As := [.int 1, .int i]) (rest := []) ⟨hx, hb, hml, hown, hts⟩ (c_X5_isOf_1 l D cI cJ o mP mL mC mN mF mR mD mV mX mA mK mT mU mH mI cm pm gm i) (cwV 2 hts gX5_number_X5_isOf rfl rfl rfl (by decide +kernel) ⟨Nat.le_of_ble_eq_true rfl, Nat.le_of_ble_eq_true rfl⟩) ⟨gd_blR, va_recv hK.1 hPc (ci := 5) (q0 := 0) rfl rfl, gd_prR hPc hK⟩ rfl rfl hl.1 rfl (lv_room (Nat.le_of_ble_eq_true rfl)) dX5_number_18 ⟨Nat.zero_le _, Nat.zero_le _⟩) (fun r_18 hw => ?_)
      subst hw
      clear hPc
      refine lv_if_ne (tgt := 27) hx hb dX5_number_21 (by decide) (fun c_5 => ?_) (fun c_5 => ?_)
      · skip
        refine lv_iload_n hx hb dX5_number_27 rfl (lv_at hl 3 rfl) ?_
        refine lv_i2l hx hb dX5_number_28 rfl ?_
        refine lv_lconst (v := 0) hx hb dX5_number_29 (by decide) ?_
        refine lv_iload_n hx hb dX5_number_30 rfl (lv_at hl 1 rfl) ?_
        have hPc := hP.sub (ws' := []) [] rfl
        refine cr_i (va_runS (As := [.int 1]) (rest := [.long 0, .long k.toInt64]) ⟨hx, hb, hml, hown, hts⟩ (c_X5_wide l D cI cJ 1) (va_cwS 1 hts gX5_number_X5_wide rfl rfl rfl (by decide +kernel) ⟨Nat.le_of_ble_eq_true rfl, Nat.le_of_ble_eq_true rfl⟩) ⟨gd_blR, gd_prR hPc hK⟩ rfl rfl hl.1 rfl (lv_room (Nat.le_of_ble_eq_true rfl)) dX5_number_31 ⟨Nat.zero_le _, Nat.zero_le _⟩) (fun r_31 hw => ?_)
        subst hw
        clear hPc
        refine lv_eqi (v := 3) (by decide) ?_
        refine lv_iconst (v := 1) hx hb dX5_number_34 (by decide) ?_
        refine lv_isub hx hb dX5_number_35 ?_
        refine lv_eqi (v := 2) (by decide) ?_
        refine lv_i2l (v := 2) hx hb dX5_number_36 (by decide) ?_
        have hPc := hP.sub (ws' := []) [] rfl
        refine cr_i (va_runS (As := [.long k.toInt64, .long 0, .long 2]) (rest := []) ⟨hx, hb, hml, hown, hts⟩ (c_X5_in l D cI cJ k.toInt64 0 2) (va_cwS 3 hts gX5_number_X5_in rfl rfl rfl (by decide +kernel) ⟨Nat.le_of_ble_eq_true rfl, Nat.le_of_ble_eq_true rfl⟩) ⟨gd_blR, gd_prR hPc hK⟩ rfl rfl hl.1 rfl (lv_room (Nat.le_of_ble_eq_true rfl)) dX5_number_37 ⟨Nat.zero_le _, Nat.zero_le _⟩) (fun r_37 hw => ?_)
        subst hw
        clear hPc
        refine lv_if_eq (tgt := 53) hx hb dX5_number_40 (by decide) (fun c_6 => ?_) (fun c_6 => ?_)
        · skip
          refine lv_ldc hx hb hown k_2 dX5_number_53 ?_
          have he : z5_number gm gp gl gc 1 i k = (-1000003) := by unfold z5_number; rw [if_neg c_1, if_pos rfl, if_neg c_5, if_pos c_6]
          exact rr_i hx hb hr hlk dX5_number_55 he.symm
        · skip
          refine lv_aload_n hx hb dX5_number_43 rfl (lv_at hl 0 rfl) ?_
          refine lv_iload_n hx hb dX5_number_44 rfl (lv_at hl 1 rfl) ?_
          refine lv_iload_n hx hb dX5_number_45 rfl (lv_at hl 2 rfl) ?_
          refine lv_iload_n hx hb dX5_number_46 rfl (lv_at hl 3 rfl) ?_
          have hPc := hP.sub (ws' := [kM o mP mL mC mN mF mR mD mV mX mA mK cm mT pm mU mH mI, kA mL cI 180 gl]) [0, 3] rfl
          refine cr_i (va_runV (As := [.int 1, .int i, .int k]) (rest := []) ⟨hx, hb, hml, hown, hts⟩ (c_X5_numberOf_1 l D cI cJ o mP mL mC mN mF mR mD mV mX mA mK mT mU mH mI cm pm gl i k (ok_of hm1 c_5) (k_of3 c_6)) (cwV 3 hts gX5_number_X5_numberOf rfl rfl rfl (by decide +kernel) ⟨Nat.le_of_ble_eq_true rfl, Nat.le_of_ble_eq_true rfl⟩) ⟨gd_blR, va_recv hK.1 hPc (ci := 5) (q0 := 0) rfl rfl, gd_prR hPc hK⟩ rfl rfl hl.1 rfl (lv_room (Nat.le_of_ble_eq_true rfl)) dX5_number_47 ⟨Nat.zero_le _, Nat.zero_le _⟩) (fun r_47 hw => ?_)
          subst hw
          clear hPc
          refine lv_goto (tgt := 55) hx hb dX5_number_50 (by decide) ?_
          have he : z5_number gm gp gl gc 1 i k = z5_numberOf_1 gl i k := by unfold z5_number; rw [if_neg c_1, if_pos rfl, if_neg c_5, if_neg c_6]
          exact rr_i hx hb hr hlk dX5_number_55 he.symm
      · skip
        refine lv_ldc hx hb hown k_3 dX5_number_24 ?_
        have he : z5_number gm gp gl gc 1 i k = (-1000002) := by unfold z5_number; rw [if_neg c_1, if_pos rfl, if_pos c_5]
        exact rr_i hx hb hr hlk dX5_number_26 he.symm
    · skip
      by_cases c_7 : s = 2
      · subst c_7
        refine lv_iload_n hx hb dX5_number_0 rfl (lv_at hl 1 rfl) ?_
        refine lv_i2l (v := 2) hx hb dX5_number_1 (by decide) ?_
        refine lv_lconst (v := 0) hx hb dX5_number_2 (by decide) ?_
        refine lv_ldc2 hx hb hown k_1 dX5_number_3 ?_
        have hPc := hP.sub (ws' := []) [] rfl
        refine cr_i (va_runS (As := [.long 2, .long 0, .long 2]) (rest := []) ⟨hx, hb, hml, hown, hts⟩ (c_X5_in l D cI cJ 2 0 2) (va_cwS 3 hts gX5_number_X5_in rfl rfl rfl (by decide +kernel) ⟨Nat.le_of_ble_eq_true rfl, Nat.le_of_ble_eq_true rfl⟩) ⟨gd_blR, gd_prR hPc hK⟩ rfl rfl hl.1 rfl (lv_room (Nat.le_of_ble_eq_true rfl)) dX5_number_6 ⟨Nat.zero_le _, Nat.zero_le _⟩) (fun r_6 hw => ?_)
        subst hw
        clear hPc
        refine lv_eqi (v := 1) (by decide) ?_
        refine lv_if_ne (tgt := 15) hx hb dX5_number_9 (by decide) (fun _ => ?_) (fun h => absurd h (by decide))
        refine lv_aload_n hx hb dX5_number_15 rfl (lv_at hl 0 rfl) ?_
        refine lv_iload_n hx hb dX5_number_16 rfl (lv_at hl 1 rfl) ?_
        refine lv_iload_n hx hb dX5_number_17 rfl (lv_at hl 2 rfl) ?_
        have hPc := hP.sub (ws' := [kM o mP mL mC mN mF mR mD mV mX mA mK cm mT pm mU mH mI, kA mN cI 3 gm]) [0, 1] rfl
        refine cr_i (va_runV (As := [.int 2, .int i]) (rest := []) ⟨hx, hb, hml, hown, hts⟩ (c_X5_isOf_2 l D cI cJ o mP mL mC mN mF mR mD mV mX mA mK mT mU mH mI cm pm gm i) (cwV 2 hts gX5_number_X5_isOf rfl rfl rfl (by decide +kernel) ⟨Nat.le_of_ble_eq_true rfl, Nat.le_of_ble_eq_true rfl⟩) ⟨gd_blR, va_recv hK.1 hPc (ci := 5) (q0 := 0) rfl rfl, gd_prR hPc hK⟩ rfl rfl hl.1 rfl (lv_room (Nat.le_of_ble_eq_true rfl)) dX5_number_18 ⟨Nat.zero_le _, Nat.zero_le _⟩) (fun r_18 hw => ?_)
        subst hw
        clear hPc
        refine lv_if_ne (tgt := 27) hx hb dX5_number_21 (by decide) (fun c_8 => ?_) (fun c_8 => ?_)
        · skip
          refine lv_iload_n hx hb dX5_number_27 rfl (lv_at hl 3 rfl) ?_
          refine lv_i2l hx hb dX5_number_28 rfl ?_
          refine lv_lconst (v := 0) hx hb dX5_number_29 (by decide) ?_
          refine lv_iload_n hx hb dX5_number_30 rfl (lv_at hl 1 rfl) ?_
          have hPc := hP.sub (ws' := []) [] rfl
          refine cr_i (va_runS (As := [.int 2]) (rest := [.long 0, .long k.toInt64]) ⟨hx, hb, hml, hown, hts⟩ (c_X5_wide l D cI cJ 2) (va_cwS 1 hts gX5_number_X5_wide rfl rfl rfl (by decide +kernel) ⟨Nat.le_of_ble_eq_true rfl, Nat.le_of_ble_eq_true rfl⟩) ⟨gd_blR, gd_prR hPc hK⟩ rfl rfl hl.1 rfl (lv_room (Nat.le_of_ble_eq_true rfl)) dX5_number_31 ⟨Nat.zero_le _, Nat.zero_le _⟩) (fun r_31 hw => ?_)
          subst hw
          clear hPc
          refine lv_eqi (v := 6) (by decide) ?_
          refine lv_iconst (v := 1) hx hb dX5_number_34 (by decide) ?_
          refine lv_isub hx hb dX5_number_35 ?_
          refine lv_eqi (v := 5) (by decide) ?_
          refine lv_i2l (v := 5) hx hb dX5_number_36 (by decide) ?_
          have hPc := hP.sub (ws' := []) [] rfl
          refine cr_i (va_runS (As := [.long k.toInt64, .long 0, .long 5]) (rest := []) ⟨hx, hb, hml, hown, hts⟩ (c_X5_in l D cI cJ k.toInt64 0 5) (va_cwS 3 hts gX5_number_X5_in rfl rfl rfl (by decide +kernel) ⟨Nat.le_of_ble_eq_true rfl, Nat.le_of_ble_eq_true rfl⟩) ⟨gd_blR, gd_prR hPc hK⟩ rfl rfl hl.1 rfl (lv_room (Nat.le_of_ble_eq_true rfl)) dX5_number_37 ⟨Nat.zero_le _, Nat.zero_le _⟩) (fun r_37 hw => ?_)
          subst hw
          clear hPc
          refine lv_if_eq (tgt := 53) hx hb dX5_number_40 (by decide) (fun c_9 => ?_) (fun c_9 => ?_)
          · skip
            refine lv_ldc hx hb hown k_2 dX5_number_53 ?_
            have he : z5_number gm gp gl gc 2 i k = (-1000003) := by unfold z5_number; rw [if_neg c_1, if_neg c_4, if_pos rfl, if_neg c_8, if_pos c_9]
            exact rr_i hx hb hr hlk dX5_number_55 he.symm
          · skip
            refine lv_aload_n hx hb dX5_number_43 rfl (lv_at hl 0 rfl) ?_
            refine lv_iload_n hx hb dX5_number_44 rfl (lv_at hl 1 rfl) ?_
            refine lv_iload_n hx hb dX5_number_45 rfl (lv_at hl 2 rfl) ?_
            refine lv_iload_n hx hb dX5_number_46 rfl (lv_at hl 3 rfl) ?_
            have hPc := hP.sub (ws' := [kM o mP mL mC mN mF mR mD mV mX mA mK cm mT pm mU mH mI, kA mC cI 360 gc]) [0, 4] rfl
            refine cr_i (va_runV (As := [.int 2, .int i, .int k]) (rest := []) ⟨hx, hb, hml, hown, hts⟩ (c_X5_numberOf_2 l D cI cJ o mP mL mC mN mF mR mD mV mX mA mK mT mU mH mI cm pm gc i k (ok_of hm2 c_8) (k_of6 c_9)) (cwV 3 hts gX5_number_X5_numberOf rfl rfl rfl (by decide +kernel) ⟨Nat.le_of_ble_eq_true rfl, Nat.le_of_ble_eq_true rfl⟩) ⟨gd_blR, va_recv hK.1 hPc (ci := 5) (q0 := 0) rfl rfl, gd_prR hPc hK⟩ rfl rfl hl.1 rfl (lv_room (Nat.le_of_ble_eq_true rfl)) dX5_number_47 ⟨Nat.zero_le _, Nat.zero_le _⟩) (fun r_47 hw => ?_)
            subst hw
            clear hPc
            refine lv_goto (tgt := 55) hx hb dX5_number_50 (by decide) ?_
            have he : z5_number gm gp gl gc 2 i k = z5_numberOf_2 gc i k := by unfold z5_number; rw [if_neg c_1, if_neg c_4, if_pos rfl, if_neg c_8, if_neg c_9]
            exact rr_i hx hb hr hlk dX5_number_55 he.symm
        · skip
          refine lv_ldc hx hb hown k_3 dX5_number_24 ?_
          have he : z5_number gm gp gl gc 2 i k = (-1000002) := by unfold z5_number; rw [if_neg c_1, if_neg c_4, if_pos rfl, if_pos c_8]
          exact rr_i hx hb hr hlk dX5_number_26 he.symm
      · skip
        refine lv_iload_n hx hb dX5_number_0 rfl (lv_at hl 1 rfl) ?_
        refine lv_i2l hx hb dX5_number_1 rfl ?_
        refine lv_lconst (v := 0) hx hb dX5_number_2 (by decide) ?_
        refine lv_ldc2 hx hb hown k_1 dX5_number_3 ?_
        have hPc := hP.sub (ws' := []) [] rfl
        refine cr_i (va_runS (As := [.long s.toInt64, .long 0, .long 2]) (rest := []) ⟨hx, hb, hml, hown, hts⟩ (c_X5_in l D cI cJ s.toInt64 0 2) (va_cwS 3 hts gX5_number_X5_in rfl rfl rfl (by decide +kernel) ⟨Nat.le_of_ble_eq_true rfl, Nat.le_of_ble_eq_true rfl⟩) ⟨gd_blR, gd_prR hPc hK⟩ rfl rfl hl.1 rfl (lv_room (Nat.le_of_ble_eq_true rfl)) dX5_number_6 ⟨Nat.zero_le _, Nat.zero_le _⟩) (fun r_6 hw => ?_)
        subst hw
        clear hPc
        refine lv_if_ne (tgt := 15) hx hb dX5_number_9 (by decide) (fun h => absurd (in_out c_1 c_4 c_7) h) (fun _ => ?_)
        refine lv_ldc hx hb hown k_2 dX5_number_12 ?_
        have he : z5_number gm gp gl gc s i k = (-1000003) := by unfold z5_number; rw [if_neg c_1, if_neg c_4, if_neg c_7]
        exact rr_i hx hb hr hlk dX5_number_14 he.symm
def z5_crossed_0_v1 (gm : Nat → Int32) (ff : Nat → Int64) (gp : Nat → Int32) (gl : Nat → Int32) (i : Int32) (j : Int32) : Nat → Int32 := (z5_keep_1 gm (vp_updL (vp_updL (vp_updL ff 0 ((((z5_numberOf_0 gp i 1).toInt64) * ((z5_numberOf_0 gp j 2).toInt64)) - (((z5_numberOf_0 gp i 2).toInt64) * ((z5_numberOf_0 gp j 1).toInt64)))) 1 ((((z5_numberOf_0 gp i 2).toInt64) * ((z5_numberOf_0 gp j 0).toInt64)) - (((z5_numberOf_0 gp i 0).toInt64) * ((z5_numberOf_0 gp j 2).toInt64)))) 2 ((((z5_numberOf_0 gp i 0).toInt64) * ((z5_numberOf_0 gp j 1).toInt64)) - (((z5_numberOf_0 gp i 1).toInt64) * ((z5_numberOf_0 gp j 0).toInt64)))) gl (-1000004)).2.1
def z5_crossed_0_v2 (gm : Nat → Int32) (ff : Nat → Int64) (gp : Nat → Int32) (gl : Nat → Int32) (i : Int32) (j : Int32) : Nat → Int32 := (z5_keep_1 gm (vp_updL (vp_updL (vp_updL ff 0 ((((z5_numberOf_0 gp i 1).toInt64) * ((z5_numberOf_0 gp j 2).toInt64)) - (((z5_numberOf_0 gp i 2).toInt64) * ((z5_numberOf_0 gp j 1).toInt64)))) 1 ((((z5_numberOf_0 gp i 2).toInt64) * ((z5_numberOf_0 gp j 0).toInt64)) - (((z5_numberOf_0 gp i 0).toInt64) * ((z5_numberOf_0 gp j 2).toInt64)))) 2 ((((z5_numberOf_0 gp i 0).toInt64) * ((z5_numberOf_0 gp j 1).toInt64)) - (((z5_numberOf_0 gp i 1).toInt64) * ((z5_numberOf_0 gp j 0).toInt64)))) gl (-1000004)).2.2
def z5_crossed_0_v3 (gm : Nat → Int32) (ff : Nat → Int64) (gp : Nat → Int32) (gl : Nat → Int32) (i : Int32) (j : Int32) : Int32 := (z5_keep_1 gm (vp_updL (vp_updL (vp_updL ff 0 ((((z5_numberOf_0 gp i 1).toInt64) * ((z5_numberOf_0 gp j 2).toInt64)) - (((z5_numberOf_0 gp i 2).toInt64) * ((z5_numberOf_0 gp j 1).toInt64)))) 1 ((((z5_numberOf_0 gp i 2).toInt64) * ((z5_numberOf_0 gp j 0).toInt64)) - (((z5_numberOf_0 gp i 0).toInt64) * ((z5_numberOf_0 gp j 2).toInt64)))) 2 ((((z5_numberOf_0 gp i 0).toInt64) * ((z5_numberOf_0 gp j 1).toInt64)) - (((z5_numberOf_0 gp i 1).toInt64) * ((z5_numberOf_0 gp j 0).toInt64)))) gl (-1000004)).1
def z5_crossed_0 (gm : Nat → Int32) (ff : Nat → Int64) (gp : Nat → Int32) (gl : Nat → Int32) (i : Int32) (j : Int32) : Int32 × (Nat → Int32) × (Nat → Int32) := if (z5_isOf_0 gm i) = 0 then ((-1000002), gm, gl) else if (z5_isOf_0 gm j) = 0 then ((-1000002), gm, gl) else (z5_crossed_0_v3 gm ff gp gl i j, z5_crossed_0_v1 gm ff gp gl i j, z5_crossed_0_v2 gm ff gp gl i j)
set_option maxHeartbeats 4000000 in
set_option maxRecDepth 100000 in
/-- X5.crossed -/
theorem c_X5_crossed_0 (l : Launch) (D : va_G) (cI cJ : ClassId) (o : Nat) (mP : Nat) (mL : Nat) (mC : Nat) (mN : Nat) (mF : Nat) (mR : Nat) (mD : Nat) (mV : Nat) (mX : Nat) (mA : Nat) (mK : Nat) (mT : Nat) (mU : Nat) (mH : Nat) (mI : Nat) (cm : Int32) (pm : Int32) (gm : Nat → Int32) (ff : Nat → Int64) (gp : Nat → Int32) (gl : Nat → Int32) (i : Int32) (j : Int32) (hm0 : n_ok (gm 0)) (hm1 : n_ok (gm 1)) : mw_C l yX5_crossed wsX5_crossed ({ frames := 3, cells := 0, slots := 0, locals := 80 }) D cI cJ [.ref o, .int 0, .int i, .int j] [kM o mP mL mC mN mF mR mD mV mX mA mK cm mT pm mU mH mI, kA mN cI 3 gm, kJ mF cJ 6 ff, kA mP cI 180 gp, kA mL cI 180 gl] (qe_i (fun (r : Int32) (_ : (Nat → Int64)) => r = (z5_crossed_0 gm ff gp gl i j).1) (fun uu => [kM o mP mL mC mN mF mR mD mV mX mA mK cm mT pm mU mH mI, kA mN cI 3 ((z5_crossed_0 gm ff gp gl i j).2.1), kJ mF cJ 6 uu, kA mP cI 180 gp, kA mL cI 180 ((z5_crossed_0 gm ff gp gl i j).2.2)])) := by
  refine mw_in (cc := cX5_crossed) (lv := [(0, .ref o), (1, .int 0), (2, .int i), (3, .int j)]) (by decide) rfl (Nat.le_of_ble_eq_true rfl) rfl ?_
  intro pG eG sG mG below meth cG ls A hx hb hr hml hown hts hlk hin hP hK hD hA hS hl
  have hown : sG.vm.findClass RX5 = some mG.cls := hown
  have k_1 := hts (.constant RX5 101 (-1000002)) (by decide +kernel)
  have k_2 := hts (.fieldLink RX5 22 "ConicRowsModel" "fresh" "[J") (by decide +kernel)
  have k_3 : ∀ w ∈ wsX50, w ∈ wsX5_crossed := by decide +kernel
  have k_4 := hts (.constant RX5 106 (-1000004)) (by decide +kernel)
  refine lv_aload_n hx hb dX5_crossed_0 rfl (lv_at hl 0 rfl) ?_
  refine lv_iload_n hx hb dX5_crossed_1 rfl (lv_at hl 1 rfl) ?_
  refine lv_iload_n hx hb dX5_crossed_2 rfl (lv_at hl 2 rfl) ?_
  have hPc := hP.sub (ws' := [kM o mP mL mC mN mF mR mD mV mX mA mK cm mT pm mU mH mI, kA mN cI 3 gm]) [0, 1] rfl
  refine cr_i (va_runV (As := [.int 0, .int i]) (rest := []) ⟨hx, hb, hml, hown, hts⟩ (c_X5_isOf_0 l D cI cJ o mP mL mC mN mF mR mD mV mX mA mK mT mU mH mI cm pm gm i) (cwV 2 hts gX5_crossed_X5_isOf rfl rfl rfl (by decide +kernel) ⟨Nat.le_of_ble_eq_true rfl, Nat.le_of_ble_eq_true rfl⟩) ⟨gd_blR, va_recv hK.1 hPc (ci := 5) (q0 := 0) rfl rfl, gd_prR hPc hK⟩ rfl rfl hl.1 rfl (lv_room (Nat.le_of_ble_eq_true rfl)) dX5_crossed_3 ⟨Nat.zero_le _, Nat.zero_le _⟩) (fun r_3 hw => ?_)
  subst hw
  clear hPc
  refine lv_if_eq (tgt := 18) hx hb dX5_crossed_6 (by decide) (fun c_1 => ?_) (fun c_1 => ?_)
  · skip
    refine lv_ldc hx hb hown k_1 dX5_crossed_18 ?_
    have he : z5_crossed_0 gm ff gp gl i j = ((-1000002), gm, gl) := by unfold z5_crossed_0; rw [if_pos c_1]
    have he_0 : (z5_crossed_0 gm ff gp gl i j).1 = (-1000002) := by rw [he]
    have he_1 : (z5_crossed_0 gm ff gp gl i j).2.1 = gm := by rw [he]
    have he_2 : (z5_crossed_0 gm ff gp gl i j).2.2 = gl := by rw [he]
    exact rt_i (w1 := fun uu : (Nat → Int64) => [kM o mP mL mC mN mF mR mD mV mX mA mK cm mT pm mU mH mI, kA mN cI 3 ((z5_crossed_0 gm ff gp gl i j).2.1), kJ mF cJ 6 uu, kA mP cI 180 gp, kA mL cI 180 ((z5_crossed_0 gm ff gp gl i j).2.2)]) hx hb hr hlk hS dX5_crossed_20 (ff) he_0.symm (by (try dsimp only); rw [he_1, he_2]; exact hP) (by (try dsimp only); rw [he_1, he_2]; exact hD)
  · skip
    refine lv_aload_n hx hb dX5_crossed_9 rfl (lv_at hl 0 rfl) ?_
    refine lv_iload_n hx hb dX5_crossed_10 rfl (lv_at hl 1 rfl) ?_
    refine lv_iload_n hx hb dX5_crossed_11 rfl (lv_at hl 3 rfl) ?_
    have hPc := hP.sub (ws' := [kM o mP mL mC mN mF mR mD mV mX mA mK cm mT pm mU mH mI, kA mN cI 3 gm]) [0, 1] rfl
    refine cr_i (va_runV (As := [.int 0, .int j]) (rest := []) ⟨hx, hb, hml, hown, hts⟩ (c_X5_isOf_0 l D cI cJ o mP mL mC mN mF mR mD mV mX mA mK mT mU mH mI cm pm gm j) (cwV 2 hts gX5_crossed_X5_isOf rfl rfl rfl (by decide +kernel) ⟨Nat.le_of_ble_eq_true rfl, Nat.le_of_ble_eq_true rfl⟩) ⟨gd_blR, va_recv hK.1 hPc (ci := 5) (q0 := 0) rfl rfl, gd_prR hPc hK⟩ rfl rfl hl.1 rfl (lv_room (Nat.le_of_ble_eq_true rfl)) dX5_crossed_12 ⟨Nat.zero_le _, Nat.zero_le _⟩) (fun r_12 hw => ?_)
    subst hw
    clear hPc
    refine lv_if_ne (tgt := 21) hx hb dX5_crossed_15 (by decide) (fun c_2 => ?_) (fun c_2 => ?_)
    · skip
      refine lv_iconst (v := 0) hx hb dX5_crossed_21 (by decide) ?_
      refine lv_istore (lv' := [(4, .int 0), (0, .ref o), (1, .int 0), (2, .int i), (3, .int j)]) hx hb dX5_crossed_22 hl (by decide) rfl (fun ls hl => ?_)
      refine lv_iload hx hb dX5_crossed_24 (lv_at hl 0 rfl) ?_
      refine lv_iconst (v := 3) hx hb dX5_crossed_26 (by decide) ?_
      refine lv_icmp_ge (tgt := 98) hx hb dX5_crossed_27 (by decide) (fun h => absurd h (by decide)) (fun _ => ?_)
      refine lv_iload hx hb dX5_crossed_30 (lv_at hl 0 rfl) ?_
      refine lv_iconst (v := 1) hx hb dX5_crossed_32 (by decide) ?_
      refine lv_iadd hx hb dX5_crossed_33 ?_
      refine lv_eqi (v := 1) (by decide) ?_
      refine lv_iconst (v := 3) hx hb dX5_crossed_34 (by decide) ?_
      refine lv_irem hx hb dX5_crossed_35 (by decide) ?_
      refine lv_eqi (v := 1) (by decide) ?_
      refine lv_istore (lv' := [(5, .int 1), (4, .int 0), (0, .ref o), (1, .int 0), (2, .int i), (3, .int j)]) hx hb dX5_crossed_36 hl (by decide) rfl (fun ls hl => ?_)
      refine lv_iload hx hb dX5_crossed_38 (lv_at hl 1 rfl) ?_
      refine lv_iconst (v := 2) hx hb dX5_crossed_40 (by decide) ?_
      refine lv_iadd hx hb dX5_crossed_41 ?_
      refine lv_eqi (v := 2) (by decide) ?_
      refine lv_iconst (v := 3) hx hb dX5_crossed_42 (by decide) ?_
      refine lv_irem hx hb dX5_crossed_43 (by decide) ?_
      refine lv_eqi (v := 2) (by decide) ?_
      refine lv_istore (lv' := [(6, .int 2), (5, .int 1), (4, .int 0), (0, .ref o), (1, .int 0), (2, .int i), (3, .int j)]) hx hb dX5_crossed_44 hl (by decide) rfl (fun ls hl => ?_)
      refine lv_aload_n hx hb dX5_crossed_46 rfl (lv_at hl 3 rfl) ?_
      refine va_get (D := D) (ci := 5) (v := .ref mF) (C := RX5) (T := TX5) (N := 17) hx hb hts k_3 hown hK.1 hP 0 rfl rfl 4 (by decide) k_2 (fun _ h9 => h9) rfl dX5_crossed_47 ?_
      refine lv_iload hx hb dX5_crossed_50 (lv_at hl 2 rfl) ?_
      refine lv_aload_n hx hb dX5_crossed_52 rfl (lv_at hl 3 rfl) ?_
      refine lv_iload_n hx hb dX5_crossed_53 rfl (lv_at hl 4 rfl) ?_
      refine lv_iload_n hx hb dX5_crossed_54 rfl (lv_at hl 5 rfl) ?_
      refine lv_iload hx hb dX5_crossed_55 (lv_at hl 1 rfl) ?_
      have hPc := hP.sub (ws' := [kM o mP mL mC mN mF mR mD mV mX mA mK cm mT pm mU mH mI, kA mP cI 180 gp]) [0, 3] rfl
      refine cr_i (va_runV (As := [.int 0, .int i, .int 1]) (rest := [.int 0, .ref mF]) ⟨hx, hb, hml, hown, hts⟩ (c_X5_numberOf_0 l D cI cJ o mP mL mC mN mF mR mD mV mX mA mK mT mU mH mI cm pm gp i 1 (ok_of hm0 c_1) (by decide)) (cwV 3 hts gX5_crossed_X5_numberOf rfl rfl rfl (by decide +kernel) ⟨Nat.le_of_ble_eq_true rfl, Nat.le_of_ble_eq_true rfl⟩) ⟨gd_blR, va_recv hK.1 hPc (ci := 5) (q0 := 0) rfl rfl, gd_prR hPc hK⟩ rfl rfl hl.1 rfl (lv_room (Nat.le_of_ble_eq_true rfl)) dX5_crossed_57 ⟨Nat.zero_le _, Nat.zero_le _⟩) (fun r_57 hw => ?_)
      subst hw
      clear hPc
      refine lv_i2l hx hb dX5_crossed_60 rfl ?_
      refine lv_aload_n hx hb dX5_crossed_61 rfl (lv_at hl 3 rfl) ?_
      refine lv_iload_n hx hb dX5_crossed_62 rfl (lv_at hl 4 rfl) ?_
      refine lv_iload_n hx hb dX5_crossed_63 rfl (lv_at hl 6 rfl) ?_
      refine lv_iload hx hb dX5_crossed_64 (lv_at hl 0 rfl) ?_
      have hPc := hP.sub (ws' := [kM o mP mL mC mN mF mR mD mV mX mA mK cm mT pm mU mH mI, kA mP cI 180 gp]) [0, 3] rfl
      refine cr_i (va_runV (As := [.int 0, .int j, .int 2]) (rest := [.long ((z5_numberOf_0 gp i 1).toInt64), .int 0, .ref mF]) ⟨hx, hb, hml, hown, hts⟩ (c_X5_numberOf_0 l D cI cJ o mP mL mC mN mF mR mD mV mX mA mK mT mU mH mI cm pm gp j 2 (ok_of hm0 c_2) (by decide)) (cwV 3 hts gX5_crossed_X5_numberOf rfl rfl rfl (by decide +kernel) ⟨Nat.le_of_ble_eq_true rfl, Nat.le_of_ble_eq_true rfl⟩) ⟨gd_blR, va_recv hK.1 hPc (ci := 5) (q0 := 0) rfl rfl, gd_prR hPc hK⟩ rfl rfl hl.1 rfl (lv_room (Nat.le_of_ble_eq_true rfl)) dX5_crossed_66 ⟨Nat.zero_le _, Nat.zero_le _⟩) (fun r_66 hw => ?_)
      subst hw
      clear hPc
      refine lv_i2l hx hb dX5_crossed_69 rfl ?_
      refine lv_lmul hx hb dX5_crossed_70 ?_
      refine lv_aload_n hx hb dX5_crossed_71 rfl (lv_at hl 3 rfl) ?_
      refine lv_iload_n hx hb dX5_crossed_72 rfl (lv_at hl 4 rfl) ?_
      refine lv_iload_n hx hb dX5_crossed_73 rfl (lv_at hl 5 rfl) ?_
      refine lv_iload hx hb dX5_crossed_74 (lv_at hl 0 rfl) ?_
      have hPc := hP.sub (ws' := [kM o mP mL mC mN mF mR mD mV mX mA mK cm mT pm mU mH mI, kA mP cI 180 gp]) [0, 3] rfl
      refine cr_i (va_runV (As := [.int 0, .int i, .int 2]) (rest := [.long (((z5_numberOf_0 gp i 1).toInt64) * ((z5_numberOf_0 gp j 2).toInt64)), .int 0, .ref mF]) ⟨hx, hb, hml, hown, hts⟩ (c_X5_numberOf_0 l D cI cJ o mP mL mC mN mF mR mD mV mX mA mK mT mU mH mI cm pm gp i 2 (ok_of hm0 c_1) (by decide)) (cwV 3 hts gX5_crossed_X5_numberOf rfl rfl rfl (by decide +kernel) ⟨Nat.le_of_ble_eq_true rfl, Nat.le_of_ble_eq_true rfl⟩) ⟨gd_blR, va_recv hK.1 hPc (ci := 5) (q0 := 0) rfl rfl, gd_prR hPc hK⟩ rfl rfl hl.1 rfl (lv_room (Nat.le_of_ble_eq_true rfl)) dX5_crossed_76 ⟨Nat.zero_le _, Nat.zero_le _⟩) (fun r_76 hw => ?_)
      subst hw
      clear hPc
      refine lv_i2l hx hb dX5_crossed_79 rfl ?_
      refine lv_aload_n hx hb dX5_crossed_80 rfl (lv_at hl 3 rfl) ?_
      refine lv_iload_n hx hb dX5_crossed_81 rfl (lv_at hl 4 rfl) ?_
      refine lv_iload_n hx hb dX5_crossed_82 rfl (lv_at hl 6 rfl) ?_
      refine lv_iload hx hb dX5_crossed_83 (lv_at hl 1 rfl) ?_
      have hPc := hP.sub (ws' := [kM o mP mL mC mN mF mR mD mV mX mA mK cm mT pm mU mH mI, kA mP cI 180 gp]) [0, 3] rfl
      refine cr_i (va_runV (As := [.int 0, .int j, .int 1]) (rest := [.long ((z5_numberOf_0 gp i 2).toInt64), .long (((z5_numberOf_0 gp i 1).toInt64) * ((z5_numberOf_0 gp j 2).toInt64)), .int 0, .ref mF]) ⟨hx, hb, hml, hown, hts⟩ (c_X5_numberOf_0 l D cI cJ o mP mL mC mN mF mR mD mV mX mA mK mT mU mH mI cm pm gp j 1 (ok_of hm0 c_2) (by decide)) (cwV 3 hts gX5_crossed_X5_numberOf rfl rfl rfl (by decide +kernel) ⟨Nat.le_of_ble_eq_true rfl, Nat.le_of_ble_eq_true rfl⟩) ⟨gd_blR, va_recv hK.1 hPc (ci := 5) (q0 := 0) rfl rfl, gd_prR hPc hK⟩ rfl rfl hl.1 rfl (lv_room (Nat.le_of_ble_eq_true rfl)) dX5_crossed_85 ⟨Nat.zero_le _, Nat.zero_le _⟩) (fun r_85 hw => ?_)
      subst hw
      clear hPc
      refine lv_i2l hx hb dX5_crossed_88 rfl ?_
      refine lv_lmul hx hb dX5_crossed_89 ?_
      refine lv_lsub hx hb dX5_crossed_90 ?_
      refine st_l hx hb hK.1 hP hD hS 2 1 rfl rfl (ix_lit (by decide)) 0 (by decide) dX5_crossed_91 (fun H locs hP hD hS => ?_)
      have hP : va_P D vwCl [kM o mP mL mC mN mF mR mD mV mX mA mK cm mT pm mU mH mI, kA mN cI 3 gm, kJ mF cJ 6 (vp_updL ff 0 ((((z5_numberOf_0 gp i 1).toInt64) * ((z5_numberOf_0 gp j 2).toInt64)) - (((z5_numberOf_0 gp i 2).toInt64) * ((z5_numberOf_0 gp j 1).toInt64)))), kA mP cI 180 gp, kA mL cI 180 gl] H := hP
      have hD : va_D A [kM o mP mL mC mN mF mR mD mV mX mA mK cm mT pm mU mH mI, kA mN cI 3 gm, kJ mF cJ 6 (vp_updL ff 0 ((((z5_numberOf_0 gp i 1).toInt64) * ((z5_numberOf_0 gp j 2).toInt64)) - (((z5_numberOf_0 gp i 2).toInt64) * ((z5_numberOf_0 gp j 1).toInt64)))), kA mP cI 180 gp, kA mL cI 180 gl] := hD
      refine lv_iinc (v := 1) (lv' := [(4, .int 1), (6, .int 2), (5, .int 1), (0, .ref o), (1, .int 0), (2, .int i), (3, .int j)]) hx hb dX5_crossed_92 hl (k := 2) rfl (by decide) (by decide) rfl (fun ls hl => ?_)
      refine lv_goto (tgt := 24) hx hb dX5_crossed_95 (by decide) ?_
      refine lv_iload hx hb dX5_crossed_24 (lv_at hl 0 rfl) ?_
      refine lv_iconst (v := 3) hx hb dX5_crossed_26 (by decide) ?_
      refine lv_icmp_ge (tgt := 98) hx hb dX5_crossed_27 (by decide) (fun h => absurd h (by decide)) (fun _ => ?_)
      refine lv_iload hx hb dX5_crossed_30 (lv_at hl 0 rfl) ?_
      refine lv_iconst (v := 1) hx hb dX5_crossed_32 (by decide) ?_
      refine lv_iadd hx hb dX5_crossed_33 ?_
      refine lv_eqi (v := 2) (by decide) ?_
      refine lv_iconst (v := 3) hx hb dX5_crossed_34 (by decide) ?_
      refine lv_irem hx hb dX5_crossed_35 (by decide) ?_
      refine lv_eqi (v := 2) (by decide) ?_
      refine lv_istore (lv' := [(5, .int 2), (4, .int 1), (6, .int 2), (0, .ref o), (1, .int 0), (2, .int i), (3, .int j)]) hx hb dX5_crossed_36 hl (by decide) rfl (fun ls hl => ?_)
      refine lv_iload hx hb dX5_crossed_38 (lv_at hl 1 rfl) ?_
      refine lv_iconst (v := 2) hx hb dX5_crossed_40 (by decide) ?_
      refine lv_iadd hx hb dX5_crossed_41 ?_
      refine lv_eqi (v := 3) (by decide) ?_
      refine lv_iconst (v := 3) hx hb dX5_crossed_42 (by decide) ?_
      refine lv_irem hx hb dX5_crossed_43 (by decide) ?_
      refine lv_eqi (v := 0) (by decide) ?_
      refine lv_istore (lv' := [(6, .int 0), (5, .int 2), (4, .int 1), (0, .ref o), (1, .int 0), (2, .int i), (3, .int j)]) hx hb dX5_crossed_44 hl (by decide) rfl (fun ls hl => ?_)
      refine lv_aload_n hx hb dX5_crossed_46 rfl (lv_at hl 3 rfl) ?_
      refine va_get (D := D) (ci := 5) (v := .ref mF) (C := RX5) (T := TX5) (N := 17) hx hb hts k_3 hown hK.1 hP 0 rfl rfl 4 (by decide) k_2 (fun _ h9 => h9) rfl dX5_crossed_47 ?_
      refine lv_iload hx hb dX5_crossed_50 (lv_at hl 2 rfl) ?_
      refine lv_aload_n hx hb dX5_crossed_52 rfl (lv_at hl 3 rfl) ?_
      refine lv_iload_n hx hb dX5_crossed_53 rfl (lv_at hl 4 rfl) ?_
      refine lv_iload_n hx hb dX5_crossed_54 rfl (lv_at hl 5 rfl) ?_
      refine lv_iload hx hb dX5_crossed_55 (lv_at hl 1 rfl) ?_
      have hPc := hP.sub (ws' := [kM o mP mL mC mN mF mR mD mV mX mA mK cm mT pm mU mH mI, kA mP cI 180 gp]) [0, 3] rfl
      refine cr_i (va_runV (As := [.int 0, .int i, .int 2]) (rest := [.int 1, .ref mF]) ⟨hx, hb, hml, hown, hts⟩ (c_X5_numberOf_0 l D cI cJ o mP mL mC mN mF mR mD mV mX mA mK mT mU mH mI cm pm gp i 2 (ok_of hm0 c_1) (by decide)) (cwV 3 hts gX5_crossed_X5_numberOf rfl rfl rfl (by decide +kernel) ⟨Nat.le_of_ble_eq_true rfl, Nat.le_of_ble_eq_true rfl⟩) ⟨gd_blR, va_recv hK.1 hPc (ci := 5) (q0 := 0) rfl rfl, gd_prR hPc hK⟩ rfl rfl hl.1 rfl (lv_room (Nat.le_of_ble_eq_true rfl)) dX5_crossed_57 ⟨Nat.zero_le _, Nat.zero_le _⟩) (fun r_57 hw => ?_)
      subst hw
      clear hPc
      refine lv_i2l hx hb dX5_crossed_60 rfl ?_
      refine lv_aload_n hx hb dX5_crossed_61 rfl (lv_at hl 3 rfl) ?_
      refine lv_iload_n hx hb dX5_crossed_62 rfl (lv_at hl 4 rfl) ?_
      refine lv_iload_n hx hb dX5_crossed_63 rfl (lv_at hl 6 rfl) ?_
      refine lv_iload hx hb dX5_crossed_64 (lv_at hl 0 rfl) ?_
      have hPc := hP.sub (ws' := [kM o mP mL mC mN mF mR mD mV mX mA mK cm mT pm mU mH mI, kA mP cI 180 gp]) [0, 3] rfl
      refine cr_i (va_runV (As := [.int 0, .int j, .int 0]) (rest := [.long ((z5_numberOf_0 gp i 2).toInt64), .int 1, .ref mF]) ⟨hx, hb, hml, hown, hts⟩ (c_X5_numberOf_0 l D cI cJ o mP mL mC mN mF mR mD mV mX mA mK mT mU mH mI cm pm gp j 0 (ok_of hm0 c_2) (by decide)) (cwV 3 hts gX5_crossed_X5_numberOf rfl rfl rfl (by decide +kernel) ⟨Nat.le_of_ble_eq_true rfl, Nat.le_of_ble_eq_true rfl⟩) ⟨gd_blR, va_recv hK.1 hPc (ci := 5) (q0 := 0) rfl rfl, gd_prR hPc hK⟩ rfl rfl hl.1 rfl (lv_room (Nat.le_of_ble_eq_true rfl)) dX5_crossed_66 ⟨Nat.zero_le _, Nat.zero_le _⟩) (fun r_66 hw => ?_)
      subst hw
      clear hPc
      refine lv_i2l hx hb dX5_crossed_69 rfl ?_
      refine lv_lmul hx hb dX5_crossed_70 ?_
      refine lv_aload_n hx hb dX5_crossed_71 rfl (lv_at hl 3 rfl) ?_
      refine lv_iload_n hx hb dX5_crossed_72 rfl (lv_at hl 4 rfl) ?_
      refine lv_iload_n hx hb dX5_crossed_73 rfl (lv_at hl 5 rfl) ?_
      refine lv_iload hx hb dX5_crossed_74 (lv_at hl 0 rfl) ?_
      have hPc := hP.sub (ws' := [kM o mP mL mC mN mF mR mD mV mX mA mK cm mT pm mU mH mI, kA mP cI 180 gp]) [0, 3] rfl
      refine cr_i (va_runV (As := [.int 0, .int i, .int 0]) (rest := [.long (((z5_numberOf_0 gp i 2).toInt64) * ((z5_numberOf_0 gp j 0).toInt64)), .int 1, .ref mF]) ⟨hx, hb, hml, hown, hts⟩ (c_X5_numberOf_0 l D cI cJ o mP mL mC mN mF mR mD mV mX mA mK mT mU mH mI cm pm gp i 0 (ok_of hm0 c_1) (by decide)) (cwV 3 hts gX5_crossed_X5_numberOf rfl rfl rfl (by decide +kernel) ⟨Nat.le_of_ble_eq_true rfl, Nat.le_of_ble_eq_true rfl⟩) ⟨gd_blR, va_recv hK.1 hPc (ci := 5) (q0 := 0) rfl rfl, gd_prR hPc hK⟩ rfl rfl hl.1 rfl (lv_room (Nat.le_of_ble_eq_true rfl)) dX5_crossed_76 ⟨Nat.zero_le _, Nat.zero_le _⟩) (fun r_76 hw => ?_)
      subst hw
      clear hPc
      refine lv_i2l hx hb dX5_crossed_79 rfl ?_
      refine lv_aload_n hx hb dX5_crossed_80 rfl (lv_at hl 3 rfl) ?_
      refine lv_iload_n hx hb dX5_crossed_81 rfl (lv_at hl 4 rfl) ?_
      refine lv_iload_n hx hb dX5_crossed_82 rfl (lv_at hl 6 rfl) ?_
      refine lv_iload hx hb dX5_crossed_83 (lv_at hl 1 rfl) ?_
      have hPc := hP.sub (ws' := [kM o mP mL mC mN mF mR mD mV mX mA mK cm mT pm mU mH mI, kA mP cI 180 gp]) [0, 3] rfl
      refine cr_i (va_runV (As := [.int 0, .int j, .int 2]) (rest := [.long ((z5_numberOf_0 gp i 0).toInt64), .long (((z5_numberOf_0 gp i 2).toInt64) * ((z5_numberOf_0 gp j 0).toInt64)), .int 1, .ref mF]) ⟨hx, hb, hml, hown, hts⟩ (c_X5_numberOf_0 l D cI cJ o mP mL mC mN mF mR mD mV mX mA mK mT mU mH mI cm pm gp j 2 (ok_of hm0 c_2) (by decide)) (cwV 3 hts gX5_crossed_X5_numberOf rfl rfl rfl (by decide +kernel) ⟨Nat.le_of_ble_eq_true rfl, Nat.le_of_ble_eq_true rfl⟩) ⟨gd_blR, va_recv hK.1 hPc (ci := 5) (q0 := 0) rfl rfl, gd_prR hPc hK⟩ rfl rfl hl.1 rfl (lv_room (Nat.le_of_ble_eq_true rfl)) dX5_crossed_85 ⟨Nat.zero_le _, Nat.zero_le _⟩) (fun r_85 hw => ?_)
      subst hw
      clear hPc
      refine lv_i2l hx hb dX5_crossed_88 rfl ?_
      refine lv_lmul hx hb dX5_crossed_89 ?_
      refine lv_lsub hx hb dX5_crossed_90 ?_
      refine st_l hx hb hK.1 hP hD hS 2 1 rfl rfl (ix_lit (by decide)) 1 (by decide) dX5_crossed_91 (fun H locs hP hD hS => ?_)
      have hP : va_P D vwCl [kM o mP mL mC mN mF mR mD mV mX mA mK cm mT pm mU mH mI, kA mN cI 3 gm, kJ mF cJ 6 (vp_updL (vp_updL ff 0 ((((z5_numberOf_0 gp i 1).toInt64) * ((z5_numberOf_0 gp j 2).toInt64)) - (((z5_numberOf_0 gp i 2).toInt64) * ((z5_numberOf_0 gp j 1).toInt64)))) 1 ((((z5_numberOf_0 gp i 2).toInt64) * ((z5_numberOf_0 gp j 0).toInt64)) - (((z5_numberOf_0 gp i 0).toInt64) * ((z5_numberOf_0 gp j 2).toInt64)))), kA mP cI 180 gp, kA mL cI 180 gl] H := hP
      have hD : va_D A [kM o mP mL mC mN mF mR mD mV mX mA mK cm mT pm mU mH mI, kA mN cI 3 gm, kJ mF cJ 6 (vp_updL (vp_updL ff 0 ((((z5_numberOf_0 gp i 1).toInt64) * ((z5_numberOf_0 gp j 2).toInt64)) - (((z5_numberOf_0 gp i 2).toInt64) * ((z5_numberOf_0 gp j 1).toInt64)))) 1 ((((z5_numberOf_0 gp i 2).toInt64) * ((z5_numberOf_0 gp j 0).toInt64)) - (((z5_numberOf_0 gp i 0).toInt64) * ((z5_numberOf_0 gp j 2).toInt64)))), kA mP cI 180 gp, kA mL cI 180 gl] := hD
      refine lv_iinc (v := 2) (lv' := [(4, .int 2), (6, .int 0), (5, .int 2), (0, .ref o), (1, .int 0), (2, .int i), (3, .int j)]) hx hb dX5_crossed_92 hl (k := 2) rfl (by decide) (by decide) rfl (fun ls hl => ?_)
      refine lv_goto (tgt := 24) hx hb dX5_crossed_95 (by decide) ?_
      refine lv_iload hx hb dX5_crossed_24 (lv_at hl 0 rfl) ?_
      refine lv_iconst (v := 3) hx hb dX5_crossed_26 (by decide) ?_
      refine lv_icmp_ge (tgt := 98) hx hb dX5_crossed_27 (by decide) (fun h => absurd h (by decide)) (fun _ => ?_)
      refine lv_iload hx hb dX5_crossed_30 (lv_at hl 0 rfl) ?_
      refine lv_iconst (v := 1) hx hb dX5_crossed_32 (by decide) ?_
      refine lv_iadd hx hb dX5_crossed_33 ?_
      refine lv_eqi (v := 3) (by decide) ?_
      refine lv_iconst (v := 3) hx hb dX5_crossed_34 (by decide) ?_
      refine lv_irem hx hb dX5_crossed_35 (by decide) ?_
      refine lv_eqi (v := 0) (by decide) ?_
      refine lv_istore (lv' := [(5, .int 0), (4, .int 2), (6, .int 0), (0, .ref o), (1, .int 0), (2, .int i), (3, .int j)]) hx hb dX5_crossed_36 hl (by decide) rfl (fun ls hl => ?_)
      refine lv_iload hx hb dX5_crossed_38 (lv_at hl 1 rfl) ?_
      refine lv_iconst (v := 2) hx hb dX5_crossed_40 (by decide) ?_
      refine lv_iadd hx hb dX5_crossed_41 ?_
      refine lv_eqi (v := 4) (by decide) ?_
      refine lv_iconst (v := 3) hx hb dX5_crossed_42 (by decide) ?_
      refine lv_irem hx hb dX5_crossed_43 (by decide) ?_
      refine lv_eqi (v := 1) (by decide) ?_
      refine lv_istore (lv' := [(6, .int 1), (5, .int 0), (4, .int 2), (0, .ref o), (1, .int 0), (2, .int i), (3, .int j)]) hx hb dX5_crossed_44 hl (by decide) rfl (fun ls hl => ?_)
      refine lv_aload_n hx hb dX5_crossed_46 rfl (lv_at hl 3 rfl) ?_
      refine va_get (D := D) (ci := 5) (v := .ref mF) (C := RX5) (T := TX5) (N := 17) hx hb hts k_3 hown hK.1 hP 0 rfl rfl 4 (by decide) k_2 (fun _ h9 => h9) rfl dX5_crossed_47 ?_
      refine lv_iload hx hb dX5_crossed_50 (lv_at hl 2 rfl) ?_
      refine lv_aload_n hx hb dX5_crossed_52 rfl (lv_at hl 3 rfl) ?_
      refine lv_iload_n hx hb dX5_crossed_53 rfl (lv_at hl 4 rfl) ?_
      refine lv_iload_n hx hb dX5_crossed_54 rfl (lv_at hl 5 rfl) ?_
      refine lv_iload hx hb dX5_crossed_55 (lv_at hl 1 rfl) ?_
      have hPc := hP.sub (ws' := [kM o mP mL mC mN mF mR mD mV mX mA mK cm mT pm mU mH mI, kA mP cI 180 gp]) [0, 3] rfl
      refine cr_i (va_runV (As := [.int 0, .int i, .int 0]) (rest := [.int 2, .ref mF]) ⟨hx, hb, hml, hown, hts⟩ (c_X5_numberOf_0 l D cI cJ o mP mL mC mN mF mR mD mV mX mA mK mT mU mH mI cm pm gp i 0 (ok_of hm0 c_1) (by decide)) (cwV 3 hts gX5_crossed_X5_numberOf rfl rfl rfl (by decide +kernel) ⟨Nat.le_of_ble_eq_true rfl, Nat.le_of_ble_eq_true rfl⟩) ⟨gd_blR, va_recv hK.1 hPc (ci := 5) (q0 := 0) rfl rfl, gd_prR hPc hK⟩ rfl rfl hl.1 rfl (lv_room (Nat.le_of_ble_eq_true rfl)) dX5_crossed_57 ⟨Nat.zero_le _, Nat.zero_le _⟩) (fun r_57 hw => ?_)
      subst hw
      clear hPc
      refine lv_i2l hx hb dX5_crossed_60 rfl ?_
      refine lv_aload_n hx hb dX5_crossed_61 rfl (lv_at hl 3 rfl) ?_
      refine lv_iload_n hx hb dX5_crossed_62 rfl (lv_at hl 4 rfl) ?_
      refine lv_iload_n hx hb dX5_crossed_63 rfl (lv_at hl 6 rfl) ?_
      refine lv_iload hx hb dX5_crossed_64 (lv_at hl 0 rfl) ?_
      have hPc := hP.sub (ws' := [kM o mP mL mC mN mF mR mD mV mX mA mK cm mT pm mU mH mI, kA mP cI 180 gp]) [0, 3] rfl
      refine cr_i (va_runV (As := [.int 0, .int j, .int 1]) (rest := [.long ((z5_numberOf_0 gp i 0).toInt64), .int 2, .ref mF]) ⟨hx, hb, hml, hown, hts⟩ (c_X5_numberOf_0 l D cI cJ o mP mL mC mN mF mR mD mV mX mA mK mT mU mH mI cm pm gp j 1 (ok_of hm0 c_2) (by decide)) (cwV 3 hts gX5_crossed_X5_numberOf rfl rfl rfl (by decide +kernel) ⟨Nat.le_of_ble_eq_true rfl, Nat.le_of_ble_eq_true rfl⟩) ⟨gd_blR, va_recv hK.1 hPc (ci := 5) (q0 := 0) rfl rfl, gd_prR hPc hK⟩ rfl rfl hl.1 rfl (lv_room (Nat.le_of_ble_eq_true rfl)) dX5_crossed_66 ⟨Nat.zero_le _, Nat.zero_le _⟩) (fun r_66 hw => ?_)
      subst hw
      clear hPc
      refine lv_i2l hx hb dX5_crossed_69 rfl ?_
      refine lv_lmul hx hb dX5_crossed_70 ?_
      refine lv_aload_n hx hb dX5_crossed_71 rfl (lv_at hl 3 rfl) ?_
      refine lv_iload_n hx hb dX5_crossed_72 rfl (lv_at hl 4 rfl) ?_
      refine lv_iload_n hx hb dX5_crossed_73 rfl (lv_at hl 5 rfl) ?_
      refine lv_iload hx hb dX5_crossed_74 (lv_at hl 0 rfl) ?_
      have hPc := hP.sub (ws' := [kM o mP mL mC mN mF mR mD mV mX mA mK cm mT pm mU mH mI, kA mP cI 180 gp]) [0, 3] rfl
      refine cr_i (va_runV (As := [.int 0, .int i, .int 1]) (rest := [.long (((z5_numberOf_0 gp i 0).toInt64) * ((z5_numberOf_0 gp j 1).toInt64)), .int 2, .ref mF]) ⟨hx, hb, hml, hown, hts⟩ (c_X5_numberOf_0 l D cI cJ o mP mL mC mN mF mR mD mV mX mA mK mT mU mH mI cm pm gp i 1 (ok_of hm0 c_1) (by decide)) (cwV 3 hts gX5_crossed_X5_numberOf rfl rfl rfl (by decide +kernel) ⟨Nat.le_of_ble_eq_true rfl, Nat.le_of_ble_eq_true rfl⟩) ⟨gd_blR, va_recv hK.1 hPc (ci := 5) (q0 := 0) rfl rfl, gd_prR hPc hK⟩ rfl rfl hl.1 rfl (lv_room (Nat.le_of_ble_eq_true rfl)) dX5_crossed_76 ⟨Nat.zero_le _, Nat.zero_le _⟩) (fun r_76 hw => ?_)
      subst hw
      clear hPc
      refine lv_i2l hx hb dX5_crossed_79 rfl ?_
      refine lv_aload_n hx hb dX5_crossed_80 rfl (lv_at hl 3 rfl) ?_
      refine lv_iload_n hx hb dX5_crossed_81 rfl (lv_at hl 4 rfl) ?_
      refine lv_iload_n hx hb dX5_crossed_82 rfl (lv_at hl 6 rfl) ?_
      refine lv_iload hx hb dX5_crossed_83 (lv_at hl 1 rfl) ?_
      have hPc := hP.sub (ws' := [kM o mP mL mC mN mF mR mD mV mX mA mK cm mT pm mU mH mI, kA mP cI 180 gp]) [0, 3] rfl
      refine cr_i (va_runV (As := [.int 0, .int j, .int 0]) (rest := [.long ((z5_numberOf_0 gp i 1).toInt64), .long (((z5_numberOf_0 gp i 0).toInt64) * ((z5_numberOf_0 gp j 1).toInt64)), .int 2, .ref mF]) ⟨hx, hb, hml, hown, hts⟩ (c_X5_numberOf_0 l D cI cJ o mP mL mC mN mF mR mD mV mX mA mK mT mU mH mI cm pm gp j 0 (ok_of hm0 c_2) (by decide)) (cwV 3 hts gX5_crossed_X5_numberOf rfl rfl rfl (by decide +kernel) ⟨Nat.le_of_ble_eq_true rfl, Nat.le_of_ble_eq_true rfl⟩) ⟨gd_blR, va_recv hK.1 hPc (ci := 5) (q0 := 0) rfl rfl, gd_prR hPc hK⟩ rfl rfl hl.1 rfl (lv_room (Nat.le_of_ble_eq_true rfl)) dX5_crossed_85 ⟨Nat.zero_le _, Nat.zero_le _⟩) (fun r_85 hw => ?_)
      subst hw
      clear hPc
      refine lv_i2l hx hb dX5_crossed_88 rfl ?_
      refine lv_lmul hx hb dX5_crossed_89 ?_
      refine lv_lsub hx hb dX5_crossed_90 ?_
      refine st_l hx hb hK.1 hP hD hS 2 1 rfl rfl (ix_lit (by decide)) 2 (by decide) dX5_crossed_91 (fun H locs hP hD hS => ?_)
      have hP : va_P D vwCl [kM o mP mL mC mN mF mR mD mV mX mA mK cm mT pm mU mH mI, kA mN cI 3 gm, kJ mF cJ 6 (vp_updL (vp_updL (vp_updL ff 0 ((((z5_numberOf_0 gp i 1).toInt64) * ((z5_numberOf_0 gp j 2).toInt64)) - (((z5_numberOf_0 gp i 2).toInt64) * ((z5_numberOf_0 gp j 1).toInt64)))) 1 ((((z5_numberOf_0 gp i 2).toInt64) * ((z5_numberOf_0 gp j 0).toInt64)) - (((z5_numberOf_0 gp i 0).toInt64) * ((z5_numberOf_0 gp j 2).toInt64)))) 2 ((((z5_numberOf_0 gp i 0).toInt64) * ((z5_numberOf_0 gp j 1).toInt64)) - (((z5_numberOf_0 gp i 1).toInt64) * ((z5_numberOf_0 gp j 0).toInt64)))), kA mP cI 180 gp, kA mL cI 180 gl] H := hP
      have hD : va_D A [kM o mP mL mC mN mF mR mD mV mX mA mK cm mT pm mU mH mI, kA mN cI 3 gm, kJ mF cJ 6 (vp_updL (vp_updL (vp_updL ff 0 ((((z5_numberOf_0 gp i 1).toInt64) * ((z5_numberOf_0 gp j 2).toInt64)) - (((z5_numberOf_0 gp i 2).toInt64) * ((z5_numberOf_0 gp j 1).toInt64)))) 1 ((((z5_numberOf_0 gp i 2).toInt64) * ((z5_numberOf_0 gp j 0).toInt64)) - (((z5_numberOf_0 gp i 0).toInt64) * ((z5_numberOf_0 gp j 2).toInt64)))) 2 ((((z5_numberOf_0 gp i 0).toInt64) * ((z5_numberOf_0 gp j 1).toInt64)) - (((z5_numberOf_0 gp i 1).toInt64) * ((z5_numberOf_0 gp j 0).toInt64)))), kA mP cI 180 gp, kA mL cI 180 gl] := hD
      refine lv_iinc (v := 3) (lv' := [(4, .int 3), (6, .int 1), (5, .int 0), (0, .ref o), (1, .int 0), (2, .int i), (3, .int j)]) hx hb dX5_crossed_92 hl (k := 2) rfl (by decide) (by decide) rfl (fun ls hl => ?_)
      refine lv_goto (tgt := 24) hx hb dX5_crossed_95 (by decide) ?_
      refine lv_iload hx hb dX5_crossed_24 (lv_at hl 0 rfl) ?_
      refine lv_iconst (v := 3) hx hb dX5_crossed_26 (by decide) ?_
      refine lv_icmp_ge (tgt := 98) hx hb dX5_crossed_27 (by decide) (fun _ => ?_) (fun h => absurd (by decide) h)
      refine lv_aload_n hx hb dX5_crossed_98 rfl (lv_at hl 3 rfl) ?_
      refine lv_iconst (v := 1) hx hb dX5_crossed_99 (by decide) ?_
      refine lv_iload_n hx hb dX5_crossed_100 rfl (lv_at hl 4 rfl) ?_
      refine lv_isub hx hb dX5_crossed_101 ?_
      refine lv_eqi (v := 1) (by decide) ?_
      refine lv_ldc hx hb hown k_4 dX5_crossed_102 ?_
      have hPc := hP.sub (ws' := [kM o mP mL mC mN mF mR mD mV mX mA mK cm mT pm mU mH mI, kA mN cI 3 gm, kJ mF cJ 6 (vp_updL (vp_updL (vp_updL ff 0 ((((z5_numberOf_0 gp i 1).toInt64) * ((z5_numberOf_0 gp j 2).toInt64)) - (((z5_numberOf_0 gp i 2).toInt64) * ((z5_numberOf_0 gp j 1).toInt64)))) 1 ((((z5_numberOf_0 gp i 2).toInt64) * ((z5_numberOf_0 gp j 0).toInt64)) - (((z5_numberOf_0 gp i 0).toInt64) * ((z5_numberOf_0 gp j 2).toInt64)))) 2 ((((z5_numberOf_0 gp i 0).toInt64) * ((z5_numberOf_0 gp j 1).toInt64)) - (((z5_numberOf_0 gp i 1).toInt64) * ((z5_numberOf_0 gp j 0).toInt64)))), kA mL cI 180 gl]) [0, 1, 2, 4] rfl
      have hDc := hD.sub (ws' := [kM o mP mL mC mN mF mR mD mV mX mA mK cm mT pm mU mH mI, kA mN cI 3 gm, kJ mF cJ 6 (vp_updL (vp_updL (vp_updL ff 0 ((((z5_numberOf_0 gp i 1).toInt64) * ((z5_numberOf_0 gp j 2).toInt64)) - (((z5_numberOf_0 gp i 2).toInt64) * ((z5_numberOf_0 gp j 1).toInt64)))) 1 ((((z5_numberOf_0 gp i 2).toInt64) * ((z5_numberOf_0 gp j 0).toInt64)) - (((z5_numberOf_0 gp i 0).toInt64) * ((z5_numberOf_0 gp j 2).toInt64)))) 2 ((((z5_numberOf_0 gp i 0).toInt64) * ((z5_numberOf_0 gp j 1).toInt64)) - (((z5_numberOf_0 gp i 1).toInt64) * ((z5_numberOf_0 gp j 0).toInt64)))), kA mL cI 180 gl]) [0, 1, 2, 4] (by decide) rfl
      refine cl_i (wc := [kM o mP mL mC mN mF mR mD mV mX mA mK cm mT pm mU mH mI, kA mN cI 3 gm, kJ mF cJ 6 (vp_updL (vp_updL (vp_updL ff 0 ((((z5_numberOf_0 gp i 1).toInt64) * ((z5_numberOf_0 gp j 2).toInt64)) - (((z5_numberOf_0 gp i 2).toInt64) * ((z5_numberOf_0 gp j 1).toInt64)))) 1 ((((z5_numberOf_0 gp i 2).toInt64) * ((z5_numberOf_0 gp j 0).toInt64)) - (((z5_numberOf_0 gp i 0).toInt64) * ((z5_numberOf_0 gp j 2).toInt64)))) 2 ((((z5_numberOf_0 gp i 0).toInt64) * ((z5_numberOf_0 gp j 1).toInt64)) - (((z5_numberOf_0 gp i 1).toInt64) * ((z5_numberOf_0 gp j 0).toInt64)))), kA mL cI 180 gl]) (wr := [kA mP cI 180 gp]) (w1 := fun uu : (Nat → Int64) => [kM o mP mL mC mN mF mR mD mV mX mA mK cm mT pm mU mH mI, kA mN cI 3 ((z5_keep_1 gm (vp_updL (vp_updL (vp_updL ff 0 ((((z5_numberOf_0 gp i 1).toInt64) * ((z5_numberOf_0 gp j 2).toInt64)) - (((z5_numberOf_0 gp i 2).toInt64) * ((z5_numberOf_0 gp j 1).toInt64)))) 1 ((((z5_numberOf_0 gp i 2).toInt64) * ((z5_numberOf_0 gp j 0).toInt64)) - (((z5_numberOf_0 gp i 0).toInt64) * ((z5_numberOf_0 gp j 2).toInt64)))) 2 ((((z5_numberOf_0 gp i 0).toInt64) * ((z5_numberOf_0 gp j 1).toInt64)) - (((z5_numberOf_0 gp i 1).toInt64) * ((z5_numberOf_0 gp j 0).toInt64)))) gl (-1000004)).2.1), kJ mF cJ 6 uu, kA mL cI 180 ((z5_keep_1 gm (vp_updL (vp_updL (vp_updL ff 0 ((((z5_numberOf_0 gp i 1).toInt64) * ((z5_numberOf_0 gp j 2).toInt64)) - (((z5_numberOf_0 gp i 2).toInt64) * ((z5_numberOf_0 gp j 1).toInt64)))) 1 ((((z5_numberOf_0 gp i 2).toInt64) * ((z5_numberOf_0 gp j 0).toInt64)) - (((z5_numberOf_0 gp i 0).toInt64) * ((z5_numberOf_0 gp j 2).toInt64)))) 2 ((((z5_numberOf_0 gp i 0).toInt64) * ((z5_numberOf_0 gp j 1).toInt64)) - (((z5_numberOf_0 gp i 1).toInt64) * ((z5_numberOf_0 gp j 0).toInt64)))) gl (-1000004)).2.2)]) (wn := fun uu : (Nat → Int64) => [kM o mP mL mC mN mF mR mD mV mX mA mK cm mT pm mU mH mI, kA mN cI 3 ((z5_keep_1 gm (vp_updL (vp_updL (vp_updL ff 0 ((((z5_numberOf_0 gp i 1).toInt64) * ((z5_numberOf_0 gp j 2).toInt64)) - (((z5_numberOf_0 gp i 2).toInt64) * ((z5_numberOf_0 gp j 1).toInt64)))) 1 ((((z5_numberOf_0 gp i 2).toInt64) * ((z5_numberOf_0 gp j 0).toInt64)) - (((z5_numberOf_0 gp i 0).toInt64) * ((z5_numberOf_0 gp j 2).toInt64)))) 2 ((((z5_numberOf_0 gp i 0).toInt64) * ((z5_numberOf_0 gp j 1).toInt64)) - (((z5_numberOf_0 gp i 1).toInt64) * ((z5_numberOf_0 gp j 0).toInt64)))) gl (-1000004)).2.1), kJ mF cJ 6 uu, kA mP cI 180 gp, kA mL cI 180 ((z5_keep_1 gm (vp_updL (vp_updL (vp_updL ff 0 ((((z5_numberOf_0 gp i 1).toInt64) * ((z5_numberOf_0 gp j 2).toInt64)) - (((z5_numberOf_0 gp i 2).toInt64) * ((z5_numberOf_0 gp j 1).toInt64)))) 1 ((((z5_numberOf_0 gp i 2).toInt64) * ((z5_numberOf_0 gp j 0).toInt64)) - (((z5_numberOf_0 gp i 0).toInt64) * ((z5_numberOf_0 gp j 2).toInt64)))) 2 ((((z5_numberOf_0 gp i 0).toInt64) * ((z5_numberOf_0 gp j 1).toInt64)) - (((z5_numberOf_0 gp i 1).toInt64) * ((z5_numberOf_0 gp j 0).toInt64)))) gl (-1000004)).2.2)]) (va_runV (As := [.int 1, .int (-1000004)]) (rest := []) ⟨hx, hb, hml, hown, hts⟩ (c_X5_keep_1 l D cI cJ o mP mL mC mN mF mR mD mV mX mA mK mT mU mH mI cm pm gm (vp_updL (vp_updL (vp_updL ff 0 ((((z5_numberOf_0 gp i 1).toInt64) * ((z5_numberOf_0 gp j 2).toInt64)) - (((z5_numberOf_0 gp i 2).toInt64) * ((z5_numberOf_0 gp j 1).toInt64)))) 1 ((((z5_numberOf_0 gp i 2).toInt64) * ((z5_numberOf_0 gp j 0).toInt64)) - (((z5_numberOf_0 gp i 0).toInt64) * ((z5_numberOf_0 gp j 2).toInt64)))) 2 ((((z5_numberOf_0 gp i 0).toInt64) * ((z5_numberOf_0 gp j 1).toInt64)) - (((z5_numberOf_0 gp i 1).toInt64) * ((z5_numberOf_0 gp j 0).toInt64)))) gl (-1000004) hm1 _) (cwV 2 hts gX5_crossed_X5_keep rfl rfl rfl (by decide +kernel) ⟨Nat.le_of_ble_eq_true rfl, Nat.le_of_ble_eq_true rfl⟩) ⟨gd_blP, va_recv hK.1 hPc (ci := 5) (q0 := 0) rfl rfl, gd_prP hPc hK hDc⟩ rfl rfl hl.1 rfl (lv_room (Nat.le_of_ble_eq_true rfl)) dX5_crossed_104 ⟨Nat.zero_le _, Nat.zero_le _⟩) hP hD hS hA [0, 1, 2, 4] [3] rfl rfl (by decide) (by decide) [1, 2, 3, 0, 4] (by decide) (fun _ => rfl) (fun r_104 uG H locs hw hP hD hS => ?_)
      obtain ⟨y_104_0_1, rfl⟩ : ∃ z, z = uG := ⟨_, rfl⟩
      have hP : va_P D vwCl [kM o mP mL mC mN mF mR mD mV mX mA mK cm mT pm mU mH mI, kA mN cI 3 ((z5_keep_1 gm (vp_updL (vp_updL (vp_updL ff 0 ((((z5_numberOf_0 gp i 1).toInt64) * ((z5_numberOf_0 gp j 2).toInt64)) - (((z5_numberOf_0 gp i 2).toInt64) * ((z5_numberOf_0 gp j 1).toInt64)))) 1 ((((z5_numberOf_0 gp i 2).toInt64) * ((z5_numberOf_0 gp j 0).toInt64)) - (((z5_numberOf_0 gp i 0).toInt64) * ((z5_numberOf_0 gp j 2).toInt64)))) 2 ((((z5_numberOf_0 gp i 0).toInt64) * ((z5_numberOf_0 gp j 1).toInt64)) - (((z5_numberOf_0 gp i 1).toInt64) * ((z5_numberOf_0 gp j 0).toInt64)))) gl (-1000004)).2.1), kJ mF cJ 6 y_104_0_1, kA mP cI 180 gp, kA mL cI 180 ((z5_keep_1 gm (vp_updL (vp_updL (vp_updL ff 0 ((((z5_numberOf_0 gp i 1).toInt64) * ((z5_numberOf_0 gp j 2).toInt64)) - (((z5_numberOf_0 gp i 2).toInt64) * ((z5_numberOf_0 gp j 1).toInt64)))) 1 ((((z5_numberOf_0 gp i 2).toInt64) * ((z5_numberOf_0 gp j 0).toInt64)) - (((z5_numberOf_0 gp i 0).toInt64) * ((z5_numberOf_0 gp j 2).toInt64)))) 2 ((((z5_numberOf_0 gp i 0).toInt64) * ((z5_numberOf_0 gp j 1).toInt64)) - (((z5_numberOf_0 gp i 1).toInt64) * ((z5_numberOf_0 gp j 0).toInt64)))) gl (-1000004)).2.2)] H := hP
      have hD : va_D A [kM o mP mL mC mN mF mR mD mV mX mA mK cm mT pm mU mH mI, kA mN cI 3 ((z5_keep_1 gm (vp_updL (vp_updL (vp_updL ff 0 ((((z5_numberOf_0 gp i 1).toInt64) * ((z5_numberOf_0 gp j 2).toInt64)) - (((z5_numberOf_0 gp i 2).toInt64) * ((z5_numberOf_0 gp j 1).toInt64)))) 1 ((((z5_numberOf_0 gp i 2).toInt64) * ((z5_numberOf_0 gp j 0).toInt64)) - (((z5_numberOf_0 gp i 0).toInt64) * ((z5_numberOf_0 gp j 2).toInt64)))) 2 ((((z5_numberOf_0 gp i 0).toInt64) * ((z5_numberOf_0 gp j 1).toInt64)) - (((z5_numberOf_0 gp i 1).toInt64) * ((z5_numberOf_0 gp j 0).toInt64)))) gl (-1000004)).2.1), kJ mF cJ 6 y_104_0_1, kA mP cI 180 gp, kA mL cI 180 ((z5_keep_1 gm (vp_updL (vp_updL (vp_updL ff 0 ((((z5_numberOf_0 gp i 1).toInt64) * ((z5_numberOf_0 gp j 2).toInt64)) - (((z5_numberOf_0 gp i 2).toInt64) * ((z5_numberOf_0 gp j 1).toInt64)))) 1 ((((z5_numberOf_0 gp i 2).toInt64) * ((z5_numberOf_0 gp j 0).toInt64)) - (((z5_numberOf_0 gp i 0).toInt64) * ((z5_numberOf_0 gp j 2).toInt64)))) 2 ((((z5_numberOf_0 gp i 0).toInt64) * ((z5_numberOf_0 gp j 1).toInt64)) - (((z5_numberOf_0 gp i 1).toInt64) * ((z5_numberOf_0 gp j 0).toInt64)))) gl (-1000004)).2.2)] := hD
      have ea_0 : (z5_keep_1 gm (vp_updL (vp_updL (vp_updL ff 0 ((((z5_numberOf_0 gp i 1).toInt64) * ((z5_numberOf_0 gp j 2).toInt64)) - (((z5_numberOf_0 gp i 2).toInt64) * ((z5_numberOf_0 gp j 1).toInt64)))) 1 ((((z5_numberOf_0 gp i 2).toInt64) * ((z5_numberOf_0 gp j 0).toInt64)) - (((z5_numberOf_0 gp i 0).toInt64) * ((z5_numberOf_0 gp j 2).toInt64)))) 2 ((((z5_numberOf_0 gp i 0).toInt64) * ((z5_numberOf_0 gp j 1).toInt64)) - (((z5_numberOf_0 gp i 1).toInt64) * ((z5_numberOf_0 gp j 0).toInt64)))) gl (-1000004)).2.1 = z5_crossed_0_v1 gm ff gp gl i j := by delta z5_crossed_0_v1; rfl
      have ea_1 : (z5_keep_1 gm (vp_updL (vp_updL (vp_updL ff 0 ((((z5_numberOf_0 gp i 1).toInt64) * ((z5_numberOf_0 gp j 2).toInt64)) - (((z5_numberOf_0 gp i 2).toInt64) * ((z5_numberOf_0 gp j 1).toInt64)))) 1 ((((z5_numberOf_0 gp i 2).toInt64) * ((z5_numberOf_0 gp j 0).toInt64)) - (((z5_numberOf_0 gp i 0).toInt64) * ((z5_numberOf_0 gp j 2).toInt64)))) 2 ((((z5_numberOf_0 gp i 0).toInt64) * ((z5_numberOf_0 gp j 1).toInt64)) - (((z5_numberOf_0 gp i 1).toInt64) * ((z5_numberOf_0 gp j 0).toInt64)))) gl (-1000004)).2.2 = z5_crossed_0_v2 gm ff gp gl i j := by delta z5_crossed_0_v2; rfl
      rw [ea_0, ea_1] at hP hD
      clear ea_0 ea_1
      subst hw
      refine lv_eqi (v := z5_crossed_0_v3 gm ff gp gl i j) (by delta z5_crossed_0_v3; rfl) ?_
      clear hPc hDc
      have he : z5_crossed_0 gm ff gp gl i j = (z5_crossed_0_v3 gm ff gp gl i j, z5_crossed_0_v1 gm ff gp gl i j, z5_crossed_0_v2 gm ff gp gl i j) := by unfold z5_crossed_0; rw [if_neg c_1, if_neg c_2]
      have he_0 : (z5_crossed_0 gm ff gp gl i j).1 = z5_crossed_0_v3 gm ff gp gl i j := by rw [he]
      have he_1 : (z5_crossed_0 gm ff gp gl i j).2.1 = z5_crossed_0_v1 gm ff gp gl i j := by rw [he]
      have he_2 : (z5_crossed_0 gm ff gp gl i j).2.2 = z5_crossed_0_v2 gm ff gp gl i j := by rw [he]
      exact rt_i (w1 := fun uu : (Nat → Int64) => [kM o mP mL mC mN mF mR mD mV mX mA mK cm mT pm mU mH mI, kA mN cI 3 ((z5_crossed_0 gm ff gp gl i j).2.1), kJ mF cJ 6 uu, kA mP cI 180 gp, kA mL cI 180 ((z5_crossed_0 gm ff gp gl i j).2.2)]) hx hb hr hlk hS dX5_crossed_107 (y_104_0_1) he_0.symm (by (try dsimp only); rw [he_1, he_2]; exact hP) (by (try dsimp only); rw [he_1, he_2]; exact hD)
    · skip
      refine lv_ldc hx hb hown k_1 dX5_crossed_18 ?_
      have he : z5_crossed_0 gm ff gp gl i j = ((-1000002), gm, gl) := by unfold z5_crossed_0; rw [if_neg c_1, if_pos c_2]
      have he_0 : (z5_crossed_0 gm ff gp gl i j).1 = (-1000002) := by rw [he]
      have he_1 : (z5_crossed_0 gm ff gp gl i j).2.1 = gm := by rw [he]
      have he_2 : (z5_crossed_0 gm ff gp gl i j).2.2 = gl := by rw [he]
      exact rt_i (w1 := fun uu : (Nat → Int64) => [kM o mP mL mC mN mF mR mD mV mX mA mK cm mT pm mU mH mI, kA mN cI 3 ((z5_crossed_0 gm ff gp gl i j).2.1), kJ mF cJ 6 uu, kA mP cI 180 gp, kA mL cI 180 ((z5_crossed_0 gm ff gp gl i j).2.2)]) hx hb hr hlk hS dX5_crossed_20 (ff) he_0.symm (by (try dsimp only); rw [he_1, he_2]; exact hP) (by (try dsimp only); rw [he_1, he_2]; exact hD)
def z5_crossed_1_v1 (gm : Nat → Int32) (ff : Nat → Int64) (gp : Nat → Int32) (gl : Nat → Int32) (i : Int32) (j : Int32) : Nat → Int32 := (z5_keep_0 gm (vp_updL (vp_updL (vp_updL ff 0 ((((z5_numberOf_1 gl i 1).toInt64) * ((z5_numberOf_1 gl j 2).toInt64)) - (((z5_numberOf_1 gl i 2).toInt64) * ((z5_numberOf_1 gl j 1).toInt64)))) 1 ((((z5_numberOf_1 gl i 2).toInt64) * ((z5_numberOf_1 gl j 0).toInt64)) - (((z5_numberOf_1 gl i 0).toInt64) * ((z5_numberOf_1 gl j 2).toInt64)))) 2 ((((z5_numberOf_1 gl i 0).toInt64) * ((z5_numberOf_1 gl j 1).toInt64)) - (((z5_numberOf_1 gl i 1).toInt64) * ((z5_numberOf_1 gl j 0).toInt64)))) gp (-1000004)).2.1
def z5_crossed_1_v2 (gm : Nat → Int32) (ff : Nat → Int64) (gp : Nat → Int32) (gl : Nat → Int32) (i : Int32) (j : Int32) : Nat → Int32 := (z5_keep_0 gm (vp_updL (vp_updL (vp_updL ff 0 ((((z5_numberOf_1 gl i 1).toInt64) * ((z5_numberOf_1 gl j 2).toInt64)) - (((z5_numberOf_1 gl i 2).toInt64) * ((z5_numberOf_1 gl j 1).toInt64)))) 1 ((((z5_numberOf_1 gl i 2).toInt64) * ((z5_numberOf_1 gl j 0).toInt64)) - (((z5_numberOf_1 gl i 0).toInt64) * ((z5_numberOf_1 gl j 2).toInt64)))) 2 ((((z5_numberOf_1 gl i 0).toInt64) * ((z5_numberOf_1 gl j 1).toInt64)) - (((z5_numberOf_1 gl i 1).toInt64) * ((z5_numberOf_1 gl j 0).toInt64)))) gp (-1000004)).2.2
def z5_crossed_1_v3 (gm : Nat → Int32) (ff : Nat → Int64) (gp : Nat → Int32) (gl : Nat → Int32) (i : Int32) (j : Int32) : Int32 := (z5_keep_0 gm (vp_updL (vp_updL (vp_updL ff 0 ((((z5_numberOf_1 gl i 1).toInt64) * ((z5_numberOf_1 gl j 2).toInt64)) - (((z5_numberOf_1 gl i 2).toInt64) * ((z5_numberOf_1 gl j 1).toInt64)))) 1 ((((z5_numberOf_1 gl i 2).toInt64) * ((z5_numberOf_1 gl j 0).toInt64)) - (((z5_numberOf_1 gl i 0).toInt64) * ((z5_numberOf_1 gl j 2).toInt64)))) 2 ((((z5_numberOf_1 gl i 0).toInt64) * ((z5_numberOf_1 gl j 1).toInt64)) - (((z5_numberOf_1 gl i 1).toInt64) * ((z5_numberOf_1 gl j 0).toInt64)))) gp (-1000004)).1
def z5_crossed_1 (gm : Nat → Int32) (ff : Nat → Int64) (gp : Nat → Int32) (gl : Nat → Int32) (i : Int32) (j : Int32) : Int32 × (Nat → Int32) × (Nat → Int32) := if (z5_isOf_1 gm i) = 0 then ((-1000002), gm, gp) else if (z5_isOf_1 gm j) = 0 then ((-1000002), gm, gp) else (z5_crossed_1_v3 gm ff gp gl i j, z5_crossed_1_v1 gm ff gp gl i j, z5_crossed_1_v2 gm ff gp gl i j)
set_option maxHeartbeats 4000000 in
set_option maxRecDepth 100000 in
/-- X5.crossed -/
theorem c_X5_crossed_1 (l : Launch) (D : va_G) (cI cJ : ClassId) (o : Nat) (mP : Nat) (mL : Nat) (mC : Nat) (mN : Nat) (mF : Nat) (mR : Nat) (mD : Nat) (mV : Nat) (mX : Nat) (mA : Nat) (mK : Nat) (mT : Nat) (mU : Nat) (mH : Nat) (mI : Nat) (cm : Int32) (pm : Int32) (gm : Nat → Int32) (ff : Nat → Int64) (gp : Nat → Int32) (gl : Nat → Int32) (i : Int32) (j : Int32) (hm0 : n_ok (gm 0)) (hm1 : n_ok (gm 1)) : mw_C l yX5_crossed wsX5_crossed ({ frames := 3, cells := 0, slots := 0, locals := 80 }) D cI cJ [.ref o, .int 1, .int i, .int j] [kM o mP mL mC mN mF mR mD mV mX mA mK cm mT pm mU mH mI, kA mN cI 3 gm, kJ mF cJ 6 ff, kA mP cI 180 gp, kA mL cI 180 gl] (qe_i (fun (r : Int32) (_ : (Nat → Int64)) => r = (z5_crossed_1 gm ff gp gl i j).1) (fun uu => [kM o mP mL mC mN mF mR mD mV mX mA mK cm mT pm mU mH mI, kA mN cI 3 ((z5_crossed_1 gm ff gp gl i j).2.1), kJ mF cJ 6 uu, kA mP cI 180 ((z5_crossed_1 gm ff gp gl i j).2.2), kA mL cI 180 gl])) := by
  refine mw_in (cc := cX5_crossed) (lv := [(0, .ref o), (1, .int 1), (2, .int i), (3, .int j)]) (by decide) rfl (Nat.le_of_ble_eq_true rfl) rfl ?_
  intro pG eG sG mG below meth cG ls A hx hb hr hml hown hts hlk hin hP hK hD hA hS hl
  have hown : sG.vm.findClass RX5 = some mG.cls := hown
  have k_1 := hts (.constant RX5 101 (-1000002)) (by decide +kernel)
  have k_2 := hts (.fieldLink RX5 22 "ConicRowsModel" "fresh" "[J") (by decide +kernel)
  have k_3 : ∀ w ∈ wsX50, w ∈ wsX5_crossed := by decide +kernel
  have k_4 := hts (.constant RX5 106 (-1000004)) (by decide +kernel)
  refine lv_aload_n hx hb dX5_crossed_0 rfl (lv_at hl 0 rfl) ?_
  refine lv_iload_n hx hb dX5_crossed_1 rfl (lv_at hl 1 rfl) ?_
  refine lv_iload_n hx hb dX5_crossed_2 rfl (lv_at hl 2 rfl) ?_
  have hPc := hP.sub (ws' := [kM o mP mL mC mN mF mR mD mV mX mA mK cm mT pm mU mH mI, kA mN cI 3 gm]) [0, 1] rfl
  refine cr_i (va_runV (As := [.int 1, .int i]) (rest := []) ⟨hx, hb, hml, hown, hts⟩ (c_X5_isOf_1 l D cI cJ o mP mL mC mN mF mR mD mV mX mA mK mT mU mH mI cm pm gm i) (cwV 2 hts gX5_crossed_X5_isOf rfl rfl rfl (by decide +kernel) ⟨Nat.le_of_ble_eq_true rfl, Nat.le_of_ble_eq_true rfl⟩) ⟨gd_blR, va_recv hK.1 hPc (ci := 5) (q0 := 0) rfl rfl, gd_prR hPc hK⟩ rfl rfl hl.1 rfl (lv_room (Nat.le_of_ble_eq_true rfl)) dX5_crossed_3 ⟨Nat.zero_le _, Nat.zero_le _⟩) (fun r_3 hw => ?_)
  subst hw
  clear hPc
  refine lv_if_eq (tgt := 18) hx hb dX5_crossed_6 (by decide) (fun c_1 => ?_) (fun c_1 => ?_)
  · skip
    refine lv_ldc hx hb hown k_1 dX5_crossed_18 ?_
    have he : z5_crossed_1 gm ff gp gl i j = ((-1000002), gm, gp) := by unfold z5_crossed_1; rw [if_pos c_1]
    have he_0 : (z5_crossed_1 gm ff gp gl i j).1 = (-1000002) := by rw [he]
    have he_1 : (z5_crossed_1 gm ff gp gl i j).2.1 = gm := by rw [he]
    have he_2 : (z5_crossed_1 gm ff gp gl i j).2.2 = gp := by rw [he]
    exact rt_i (w1 := fun uu : (Nat → Int64) => [kM o mP mL mC mN mF mR mD mV mX mA mK cm mT pm mU mH mI, kA mN cI 3 ((z5_crossed_1 gm ff gp gl i j).2.1), kJ mF cJ 6 uu, kA mP cI 180 ((z5_crossed_1 gm ff gp gl i j).2.2), kA mL cI 180 gl]) hx hb hr hlk hS dX5_crossed_20 (ff) he_0.symm (by (try dsimp only); rw [he_1, he_2]; exact hP) (by (try dsimp only); rw [he_1, he_2]; exact hD)
  · skip
    refine lv_aload_n hx hb dX5_crossed_9 rfl (lv_at hl 0 rfl) ?_
    refine lv_iload_n hx hb dX5_crossed_10 rfl (lv_at hl 1 rfl) ?_
    refine lv_iload_n hx hb dX5_crossed_11 rfl (lv_at hl 3 rfl) ?_
    have hPc := hP.sub (ws' := [kM o mP mL mC mN mF mR mD mV mX mA mK cm mT pm mU mH mI, kA mN cI 3 gm]) [0, 1] rfl
    refine cr_i (va_runV (As := [.int 1, .int j]) (rest := []) ⟨hx, hb, hml, hown, hts⟩ (c_X5_isOf_1 l D cI cJ o mP mL mC mN mF mR mD mV mX mA mK mT mU mH mI cm pm gm j) (cwV 2 hts gX5_crossed_X5_isOf rfl rfl rfl (by decide +kernel) ⟨Nat.le_of_ble_eq_true rfl, Nat.le_of_ble_eq_true rfl⟩) ⟨gd_blR, va_recv hK.1 hPc (ci := 5) (q0 := 0) rfl rfl, gd_prR hPc hK⟩ rfl rfl hl.1 rfl (lv_room (Nat.le_of_ble_eq_true rfl)) dX5_crossed_12 ⟨Nat.zero_le _, Nat.zero_le _⟩) (fun r_12 hw => ?_)
    subst hw
    clear hPc
    refine lv_if_ne (tgt := 21) hx hb dX5_crossed_15 (by decide) (fun c_2 => ?_) (fun c_2 => ?_)
    · skip
      refine lv_iconst (v := 0) hx hb dX5_crossed_21 (by decide) ?_
      refine lv_istore (lv' := [(4, .int 0), (0, .ref o), (1, .int 1), (2, .int i), (3, .int j)]) hx hb dX5_crossed_22 hl (by decide) rfl (fun ls hl => ?_)
      refine lv_iload hx hb dX5_crossed_24 (lv_at hl 0 rfl) ?_
      refine lv_iconst (v := 3) hx hb dX5_crossed_26 (by decide) ?_
      refine lv_icmp_ge (tgt := 98) hx hb dX5_crossed_27 (by decide) (fun h => absurd h (by decide)) (fun _ => ?_)
      refine lv_iload hx hb dX5_crossed_30 (lv_at hl 0 rfl) ?_
      refine lv_iconst (v := 1) hx hb dX5_crossed_32 (by decide) ?_
      refine lv_iadd hx hb dX5_crossed_33 ?_
      refine lv_eqi (v := 1) (by decide) ?_
      refine lv_iconst (v := 3) hx hb dX5_crossed_34 (by decide) ?_
      refine lv_irem hx hb dX5_crossed_35 (by decide) ?_
      refine lv_eqi (v := 1) (by decide) ?_
      refine lv_istore (lv' := [(5, .int 1), (4, .int 0), (0, .ref o), (1, .int 1), (2, .int i), (3, .int j)]) hx hb dX5_crossed_36 hl (by decide) rfl (fun ls hl => ?_)
      refine lv_iload hx hb dX5_crossed_38 (lv_at hl 1 rfl) ?_
      refine lv_iconst (v := 2) hx hb dX5_crossed_40 (by decide) ?_
      refine lv_iadd hx hb dX5_crossed_41 ?_
      refine lv_eqi (v := 2) (by decide) ?_
      refine lv_iconst (v := 3) hx hb dX5_crossed_42 (by decide) ?_
      refine lv_irem hx hb dX5_crossed_43 (by decide) ?_
      refine lv_eqi (v := 2) (by decide) ?_
      refine lv_istore (lv' := [(6, .int 2), (5, .int 1), (4, .int 0), (0, .ref o), (1, .int 1), (2, .int i), (3, .int j)]) hx hb dX5_crossed_44 hl (by decide) rfl (fun ls hl => ?_)
      refine lv_aload_n hx hb dX5_crossed_46 rfl (lv_at hl 3 rfl) ?_
      refine va_get (D := D) (ci := 5) (v := .ref mF) (C := RX5) (T := TX5) (N := 17) hx hb hts k_3 hown hK.1 hP 0 rfl rfl 4 (by decide) k_2 (fun _ h9 => h9) rfl dX5_crossed_47 ?_
      refine lv_iload hx hb dX5_crossed_50 (lv_at hl 2 rfl) ?_
      refine lv_aload_n hx hb dX5_crossed_52 rfl (lv_at hl 3 rfl) ?_
      refine lv_iload_n hx hb dX5_crossed_53 rfl (lv_at hl 4 rfl) ?_
      refine lv_iload_n hx hb dX5_crossed_54 rfl (lv_at hl 5 rfl) ?_
      refine lv_iload hx hb dX5_crossed_55 (lv_at hl 1 rfl) ?_
      have hPc := hP.sub (ws' := [kM o mP mL mC mN mF mR mD mV mX mA mK cm mT pm mU mH mI, kA mL cI 180 gl]) [0, 4] rfl
      refine cr_i (va_runV (As := [.int 1, .int i, .int 1]) (rest := [.int 0, .ref mF]) ⟨hx, hb, hml, hown, hts⟩ (c_X5_numberOf_1 l D cI cJ o mP mL mC mN mF mR mD mV mX mA mK mT mU mH mI cm pm gl i 1 (ok_of hm1 c_1) (by decide)) (cwV 3 hts gX5_crossed_X5_numberOf rfl rfl rfl (by decide +kernel) ⟨Nat.le_of_ble_eq_true rfl, Nat.le_of_ble_eq_true rfl⟩) ⟨gd_blR, va_recv hK.1 hPc (ci := 5) (q0 := 0) rfl rfl, gd_prR hPc hK⟩ rfl rfl hl.1 rfl (lv_room (Nat.le_of_ble_eq_true rfl)) dX5_crossed_57 ⟨Nat.zero_le _, Nat.zero_le _⟩) (fun r_57 hw => ?_)
      subst hw
      clear hPc
      refine lv_i2l hx hb dX5_crossed_60 rfl ?_
      refine lv_aload_n hx hb dX5_crossed_61 rfl (lv_at hl 3 rfl) ?_
      refine lv_iload_n hx hb dX5_crossed_62 rfl (lv_at hl 4 rfl) ?_
      refine lv_iload_n hx hb dX5_crossed_63 rfl (lv_at hl 6 rfl) ?_
      refine lv_iload hx hb dX5_crossed_64 (lv_at hl 0 rfl) ?_
      have hPc := hP.sub (ws' := [kM o mP mL mC mN mF mR mD mV mX mA mK cm mT pm mU mH mI, kA mL cI 180 gl]) [0, 4] rfl
      refine cr_i (va_runV (As := [.int 1, .int j, .int 2]) (rest := [.long ((z5_numberOf_1 gl i 1).toInt64), .int 0, .ref mF]) ⟨hx, hb, hml, hown, hts⟩ (c_X5_numberOf_1 l D cI cJ o mP mL mC mN mF mR mD mV mX mA mK mT mU mH mI cm pm gl j 2 (ok_of hm1 c_2) (by decide)) (cwV 3 hts gX5_crossed_X5_numberOf rfl rfl rfl (by decide +kernel) ⟨Nat.le_of_ble_eq_true rfl, Nat.le_of_ble_eq_true rfl⟩) ⟨gd_blR, va_recv hK.1 hPc (ci := 5) (q0 := 0) rfl rfl, gd_prR hPc hK⟩ rfl rfl hl.1 rfl (lv_room (Nat.le_of_ble_eq_true rfl)) dX5_crossed_66 ⟨Nat.zero_le _, Nat.zero_le _⟩) (fun r_66 hw => ?_)
      subst hw
      clear hPc
      refine lv_i2l hx hb dX5_crossed_69 rfl ?_
      refine lv_lmul hx hb dX5_crossed_70 ?_
      refine lv_aload_n hx hb dX5_crossed_71 rfl (lv_at hl 3 rfl) ?_
      refine lv_iload_n hx hb dX5_crossed_72 rfl (lv_at hl 4 rfl) ?_
      refine lv_iload_n hx hb dX5_crossed_73 rfl (lv_at hl 5 rfl) ?_
      refine lv_iload hx hb dX5_crossed_74 (lv_at hl 0 rfl) ?_
      have hPc := hP.sub (ws' := [kM o mP mL mC mN mF mR mD mV mX mA mK cm mT pm mU mH mI, kA mL cI 180 gl]) [0, 4] rfl
      refine cr_i (va_runV (As := [.int 1, .int i, .int 2]) (rest := [.long (((z5_numberOf_1 gl i 1).toInt64) * ((z5_numberOf_1 gl j 2).toInt64)), .int 0, .ref mF]) ⟨hx, hb, hml, hown, hts⟩ (c_X5_numberOf_1 l D cI cJ o mP mL mC mN mF mR mD mV mX mA mK mT mU mH mI cm pm gl i 2 (ok_of hm1 c_1) (by decide)) (cwV 3 hts gX5_crossed_X5_numberOf rfl rfl rfl (by decide +kernel) ⟨Nat.le_of_ble_eq_true rfl, Nat.le_of_ble_eq_true rfl⟩) ⟨gd_blR, va_recv hK.1 hPc (ci := 5) (q0 := 0) rfl rfl, gd_prR hPc hK⟩ rfl rfl hl.1 rfl (lv_room (Nat.le_of_ble_eq_true rfl)) dX5_crossed_76 ⟨Nat.zero_le _, Nat.zero_le _⟩) (fun r_76 hw => ?_)
      subst hw
      clear hPc
      refine lv_i2l hx hb dX5_crossed_79 rfl ?_
      refine lv_aload_n hx hb dX5_crossed_80 rfl (lv_at hl 3 rfl) ?_
      refine lv_iload_n hx hb dX5_crossed_81 rfl (lv_at hl 4 rfl) ?_
      refine lv_iload_n hx hb dX5_crossed_82 rfl (lv_at hl 6 rfl) ?_
      refine lv_iload hx hb dX5_crossed_83 (lv_at hl 1 rfl) ?_
      have hPc := hP.sub (ws' := [kM o mP mL mC mN mF mR mD mV mX mA mK cm mT pm mU mH mI, kA mL cI 180 gl]) [0, 4] rfl
      refine cr_i (va_runV (As := [.int 1, .int j, .int 1]) (rest := [.long ((z5_numberOf_1 gl i 2).toInt64), .long (((z5_numberOf_1 gl i 1).toInt64) * ((z5_numberOf_1 gl j 2).toInt64)), .int 0, .ref mF]) ⟨hx, hb, hml, hown, hts⟩ (c_X5_numberOf_1 l D cI cJ o mP mL mC mN mF mR mD mV mX mA mK mT mU mH mI cm pm gl j 1 (ok_of hm1 c_2) (by decide)) (cwV 3 hts gX5_crossed_X5_numberOf rfl rfl rfl (by decide +kernel) ⟨Nat.le_of_ble_eq_true rfl, Nat.le_of_ble_eq_true rfl⟩) ⟨gd_blR, va_recv hK.1 hPc (ci := 5) (q0 := 0) rfl rfl, gd_prR hPc hK⟩ rfl rfl hl.1 rfl (lv_room (Nat.le_of_ble_eq_true rfl)) dX5_crossed_85 ⟨Nat.zero_le _, Nat.zero_le _⟩) (fun r_85 hw => ?_)
      subst hw
      clear hPc
      refine lv_i2l hx hb dX5_crossed_88 rfl ?_
      refine lv_lmul hx hb dX5_crossed_89 ?_
      refine lv_lsub hx hb dX5_crossed_90 ?_
      refine st_l hx hb hK.1 hP hD hS 2 1 rfl rfl (ix_lit (by decide)) 0 (by decide) dX5_crossed_91 (fun H locs hP hD hS => ?_)
      have hP : va_P D vwCl [kM o mP mL mC mN mF mR mD mV mX mA mK cm mT pm mU mH mI, kA mN cI 3 gm, kJ mF cJ 6 (vp_updL ff 0 ((((z5_numberOf_1 gl i 1).toInt64) * ((z5_numberOf_1 gl j 2).toInt64)) - (((z5_numberOf_1 gl i 2).toInt64) * ((z5_numberOf_1 gl j 1).toInt64)))), kA mP cI 180 gp, kA mL cI 180 gl] H := hP
      have hD : va_D A [kM o mP mL mC mN mF mR mD mV mX mA mK cm mT pm mU mH mI, kA mN cI 3 gm, kJ mF cJ 6 (vp_updL ff 0 ((((z5_numberOf_1 gl i 1).toInt64) * ((z5_numberOf_1 gl j 2).toInt64)) - (((z5_numberOf_1 gl i 2).toInt64) * ((z5_numberOf_1 gl j 1).toInt64)))), kA mP cI 180 gp, kA mL cI 180 gl] := hD
      refine lv_iinc (v := 1) (lv' := [(4, .int 1), (6, .int 2), (5, .int 1), (0, .ref o), (1, .int 1), (2, .int i), (3, .int j)]) hx hb dX5_crossed_92 hl (k := 2) rfl (by decide) (by decide) rfl (fun ls hl => ?_)
      refine lv_goto (tgt := 24) hx hb dX5_crossed_95 (by decide) ?_
      refine lv_iload hx hb dX5_crossed_24 (lv_at hl 0 rfl) ?_
      refine lv_iconst (v := 3) hx hb dX5_crossed_26 (by decide) ?_
      refine lv_icmp_ge (tgt := 98) hx hb dX5_crossed_27 (by decide) (fun h => absurd h (by decide)) (fun _ => ?_)
      refine lv_iload hx hb dX5_crossed_30 (lv_at hl 0 rfl) ?_
      refine lv_iconst (v := 1) hx hb dX5_crossed_32 (by decide) ?_
      refine lv_iadd hx hb dX5_crossed_33 ?_
      refine lv_eqi (v := 2) (by decide) ?_
      refine lv_iconst (v := 3) hx hb dX5_crossed_34 (by decide) ?_
      refine lv_irem hx hb dX5_crossed_35 (by decide) ?_
      refine lv_eqi (v := 2) (by decide) ?_
      refine lv_istore (lv' := [(5, .int 2), (4, .int 1), (6, .int 2), (0, .ref o), (1, .int 1), (2, .int i), (3, .int j)]) hx hb dX5_crossed_36 hl (by decide) rfl (fun ls hl => ?_)
      refine lv_iload hx hb dX5_crossed_38 (lv_at hl 1 rfl) ?_
      refine lv_iconst (v := 2) hx hb dX5_crossed_40 (by decide) ?_
      refine lv_iadd hx hb dX5_crossed_41 ?_
      refine lv_eqi (v := 3) (by decide) ?_
      refine lv_iconst (v := 3) hx hb dX5_crossed_42 (by decide) ?_
      refine lv_irem hx hb dX5_crossed_43 (by decide) ?_
      refine lv_eqi (v := 0) (by decide) ?_
      refine lv_istore (lv' := [(6, .int 0), (5, .int 2), (4, .int 1), (0, .ref o), (1, .int 1), (2, .int i), (3, .int j)]) hx hb dX5_crossed_44 hl (by decide) rfl (fun ls hl => ?_)
      refine lv_aload_n hx hb dX5_crossed_46 rfl (lv_at hl 3 rfl) ?_
      refine va_get (D := D) (ci := 5) (v := .ref mF) (C := RX5) (T := TX5) (N := 17) hx hb hts k_3 hown hK.1 hP 0 rfl rfl 4 (by decide) k_2 (fun _ h9 => h9) rfl dX5_crossed_47 ?_
      refine lv_iload hx hb dX5_crossed_50 (lv_at hl 2 rfl) ?_
      refine lv_aload_n hx hb dX5_crossed_52 rfl (lv_at hl 3 rfl) ?_
      refine lv_iload_n hx hb dX5_crossed_53 rfl (lv_at hl 4 rfl) ?_
      refine lv_iload_n hx hb dX5_crossed_54 rfl (lv_at hl 5 rfl) ?_
      refine lv_iload hx hb dX5_crossed_55 (lv_at hl 1 rfl) ?_
      have hPc := hP.sub (ws' := [kM o mP mL mC mN mF mR mD mV mX mA mK cm mT pm mU mH mI, kA mL cI 180 gl]) [0, 4] rfl
      refine cr_i (va_runV (As := [.int 1, .int i, .int 2]) (rest := [.int 1, .ref mF]) ⟨hx, hb, hml, hown, hts⟩ (c_X5_numberOf_1 l D cI cJ o mP mL mC mN mF mR mD mV mX mA mK mT mU mH mI cm pm gl i 2 (ok_of hm1 c_1) (by decide)) (cwV 3 hts gX5_crossed_X5_numberOf rfl rfl rfl (by decide +kernel) ⟨Nat.le_of_ble_eq_true rfl, Nat.le_of_ble_eq_true rfl⟩) ⟨gd_blR, va_recv hK.1 hPc (ci := 5) (q0 := 0) rfl rfl, gd_prR hPc hK⟩ rfl rfl hl.1 rfl (lv_room (Nat.le_of_ble_eq_true rfl)) dX5_crossed_57 ⟨Nat.zero_le _, Nat.zero_le _⟩) (fun r_57 hw => ?_)
      subst hw
      clear hPc
      refine lv_i2l hx hb dX5_crossed_60 rfl ?_
      refine lv_aload_n hx hb dX5_crossed_61 rfl (lv_at hl 3 rfl) ?_
      refine lv_iload_n hx hb dX5_crossed_62 rfl (lv_at hl 4 rfl) ?_
      refine lv_iload_n hx hb dX5_crossed_63 rfl (lv_at hl 6 rfl) ?_
      refine lv_iload hx hb dX5_crossed_64 (lv_at hl 0 rfl) ?_
      have hPc := hP.sub (ws' := [kM o mP mL mC mN mF mR mD mV mX mA mK cm mT pm mU mH mI, kA mL cI 180 gl]) [0, 4] rfl
      refine cr_i (va_runV (As := [.int 1, .int j, .int 0]) (rest := [.long ((z5_numberOf_1 gl i 2).toInt64), .int 1, .ref mF]) ⟨hx, hb, hml, hown, hts⟩ (c_X5_numberOf_1 l D cI cJ o mP mL mC mN mF mR mD mV mX mA mK mT mU mH mI cm pm gl j 0 (ok_of hm1 c_2) (by decide)) (cwV 3 hts gX5_crossed_X5_numberOf rfl rfl rfl (by decide +kernel) ⟨Nat.le_of_ble_eq_true rfl, Nat.le_of_ble_eq_true rfl⟩) ⟨gd_blR, va_recv hK.1 hPc (ci := 5) (q0 := 0) rfl rfl, gd_prR hPc hK⟩ rfl rfl hl.1 rfl (lv_room (Nat.le_of_ble_eq_true rfl)) dX5_crossed_66 ⟨Nat.zero_le _, Nat.zero_le _⟩) (fun r_66 hw => ?_)
      subst hw
      clear hPc
      refine lv_i2l hx hb dX5_crossed_69 rfl ?_
      refine lv_lmul hx hb dX5_crossed_70 ?_
      refine lv_aload_n hx hb dX5_crossed_71 rfl (lv_at hl 3 rfl) ?_
      refine lv_iload_n hx hb dX5_crossed_72 rfl (lv_at hl 4 rfl) ?_
      refine lv_iload_n hx hb dX5_crossed_73 rfl (lv_at hl 5 rfl) ?_
      refine lv_iload hx hb dX5_crossed_74 (lv_at hl 0 rfl) ?_
      have hPc := hP.sub (ws' := [kM o mP mL mC mN mF mR mD mV mX mA mK cm mT pm mU mH mI, kA mL cI 180 gl]) [0, 4] rfl
      refine cr_i (va_runV (As := [.int 1, .int i, .int 0]) (rest := [.long (((z5_numberOf_1 gl i 2).toInt64) * ((z5_numberOf_1 gl j 0).toInt64)), .int 1, .ref mF]) ⟨hx, hb, hml, hown, hts⟩ (c_X5_numberOf_1 l D cI cJ o mP mL mC mN mF mR mD mV mX mA mK mT mU mH mI cm pm gl i 0 (ok_of hm1 c_1) (by decide)) (cwV 3 hts gX5_crossed_X5_numberOf rfl rfl rfl (by decide +kernel) ⟨Nat.le_of_ble_eq_true rfl, Nat.le_of_ble_eq_true rfl⟩) ⟨gd_blR, va_recv hK.1 hPc (ci := 5) (q0 := 0) rfl rfl, gd_prR hPc hK⟩ rfl rfl hl.1 rfl (lv_room (Nat.le_of_ble_eq_true rfl)) dX5_crossed_76 ⟨Nat.zero_le _, Nat.zero_le _⟩) (fun r_76 hw => ?_)
      subst hw
      clear hPc
      refine lv_i2l hx hb dX5_crossed_79 rfl ?_
      refine lv_aload_n hx hb dX5_crossed_80 rfl (lv_at hl 3 rfl) ?_
      refine lv_iload_n hx hb dX5_crossed_81 rfl (lv_at hl 4 rfl) ?_
      refine lv_iload_n hx hb dX5_crossed_82 rfl (lv_at hl 6 rfl) ?_
      refine lv_iload hx hb dX5_crossed_83 (lv_at hl 1 rfl) ?_
      have hPc := hP.sub (ws' := [kM o mP mL mC mN mF mR mD mV mX mA mK cm mT pm mU mH mI, kA mL cI 180 gl]) [0, 4] rfl
      refine cr_i (va_runV (As := [.int 1, .int j, .int 2]) (rest := [.long ((z5_numberOf_1 gl i 0).toInt64), .long (((z5_numberOf_1 gl i 2).toInt64) * ((z5_numberOf_1 gl j 0).toInt64)), .int 1, .ref mF]) ⟨hx, hb, hml, hown, hts⟩ (c_X5_numberOf_1 l D cI cJ o mP mL mC mN mF mR mD mV mX mA mK mT mU mH mI cm pm gl j 2 (ok_of hm1 c_2) (by decide)) (cwV 3 hts gX5_crossed_X5_numberOf rfl rfl rfl (by decide +kernel) ⟨Nat.le_of_ble_eq_true rfl, Nat.le_of_ble_eq_true rfl⟩) ⟨gd_blR, va_recv hK.1 hPc (ci := 5) (q0 := 0) rfl rfl, gd_prR hPc hK⟩ rfl rfl hl.1 rfl (lv_room (Nat.le_of_ble_eq_true rfl)) dX5_crossed_85 ⟨Nat.zero_le _, Nat.zero_le _⟩) (fun r_85 hw => ?_)
      subst hw
      clear hPc
      refine lv_i2l hx hb dX5_crossed_88 rfl ?_
      refine lv_lmul hx hb dX5_crossed_89 ?_
      refine lv_lsub hx hb dX5_crossed_90 ?_
      refine st_l hx hb hK.1 hP hD hS 2 1 rfl rfl (ix_lit (by decide)) 1 (by decide) dX5_crossed_91 (fun H locs hP hD hS => ?_)
      have hP : va_P D vwCl [kM o mP mL mC mN mF mR mD mV mX mA mK cm mT pm mU mH mI, kA mN cI 3 gm, kJ mF cJ 6 (vp_updL (vp_updL ff 0 ((((z5_numberOf_1 gl i 1).toInt64) * ((z5_numberOf_1 gl j 2).toInt64)) - (((z5_numberOf_1 gl i 2).toInt64) * ((z5_numberOf_1 gl j 1).toInt64)))) 1 ((((z5_numberOf_1 gl i 2).toInt64) * ((z5_numberOf_1 gl j 0).toInt64)) - (((z5_numberOf_1 gl i 0).toInt64) * ((z5_numberOf_1 gl j 2).toInt64)))), kA mP cI 180 gp, kA mL cI 180 gl] H := hP
      have hD : va_D A [kM o mP mL mC mN mF mR mD mV mX mA mK cm mT pm mU mH mI, kA mN cI 3 gm, kJ mF cJ 6 (vp_updL (vp_updL ff 0 ((((z5_numberOf_1 gl i 1).toInt64) * ((z5_numberOf_1 gl j 2).toInt64)) - (((z5_numberOf_1 gl i 2).toInt64) * ((z5_numberOf_1 gl j 1).toInt64)))) 1 ((((z5_numberOf_1 gl i 2).toInt64) * ((z5_numberOf_1 gl j 0).toInt64)) - (((z5_numberOf_1 gl i 0).toInt64) * ((z5_numberOf_1 gl j 2).toInt64)))), kA mP cI 180 gp, kA mL cI 180 gl] := hD
      refine lv_iinc (v := 2) (lv' := [(4, .int 2), (6, .int 0), (5, .int 2), (0, .ref o), (1, .int 1), (2, .int i), (3, .int j)]) hx hb dX5_crossed_92 hl (k := 2) rfl (by decide) (by decide) rfl (fun ls hl => ?_)
      refine lv_goto (tgt := 24) hx hb dX5_crossed_95 (by decide) ?_
      refine lv_iload hx hb dX5_crossed_24 (lv_at hl 0 rfl) ?_
      refine lv_iconst (v := 3) hx hb dX5_crossed_26 (by decide) ?_
      refine lv_icmp_ge (tgt := 98) hx hb dX5_crossed_27 (by decide) (fun h => absurd h (by decide)) (fun _ => ?_)
      refine lv_iload hx hb dX5_crossed_30 (lv_at hl 0 rfl) ?_
      refine lv_iconst (v := 1) hx hb dX5_crossed_32 (by decide) ?_
      refine lv_iadd hx hb dX5_crossed_33 ?_
      refine lv_eqi (v := 3) (by decide) ?_
      refine lv_iconst (v := 3) hx hb dX5_crossed_34 (by decide) ?_
      refine lv_irem hx hb dX5_crossed_35 (by decide) ?_
      refine lv_eqi (v := 0) (by decide) ?_
      refine lv_istore (lv' := [(5, .int 0), (4, .int 2), (6, .int 0), (0, .ref o), (1, .int 1), (2, .int i), (3, .int j)]) hx hb dX5_crossed_36 hl (by decide) rfl (fun ls hl => ?_)
      refine lv_iload hx hb dX5_crossed_38 (lv_at hl 1 rfl) ?_
      refine lv_iconst (v := 2) hx hb dX5_crossed_40 (by decide) ?_
      refine lv_iadd hx hb dX5_crossed_41 ?_
      refine lv_eqi (v := 4) (by decide) ?_
      refine lv_iconst (v := 3) hx hb dX5_crossed_42 (by decide) ?_
      refine lv_irem hx hb dX5_crossed_43 (by decide) ?_
      refine lv_eqi (v := 1) (by decide) ?_
      refine lv_istore (lv' := [(6, .int 1), (5, .int 0), (4, .int 2), (0, .ref o), (1, .int 1), (2, .int i), (3, .int j)]) hx hb dX5_crossed_44 hl (by decide) rfl (fun ls hl => ?_)
      refine lv_aload_n hx hb dX5_crossed_46 rfl (lv_at hl 3 rfl) ?_
      refine va_get (D := D) (ci := 5) (v := .ref mF) (C := RX5) (T := TX5) (N := 17) hx hb hts k_3 hown hK.1 hP 0 rfl rfl 4 (by decide) k_2 (fun _ h9 => h9) rfl dX5_crossed_47 ?_
      refine lv_iload hx hb dX5_crossed_50 (lv_at hl 2 rfl) ?_
      refine lv_aload_n hx hb dX5_crossed_52 rfl (lv_at hl 3 rfl) ?_
      refine lv_iload_n hx hb dX5_crossed_53 rfl (lv_at hl 4 rfl) ?_
      refine lv_iload_n hx hb dX5_crossed_54 rfl (lv_at hl 5 rfl) ?_
      refine lv_iload hx hb dX5_crossed_55 (lv_at hl 1 rfl) ?_
      have hPc := hP.sub (ws' := [kM o mP mL mC mN mF mR mD mV mX mA mK cm mT pm mU mH mI, kA mL cI 180 gl]) [0, 4] rfl
      refine cr_i (va_runV (As := [.int 1, .int i, .int 0]) (rest := [.int 2, .ref mF]) ⟨hx, hb, hml, hown, hts⟩ (c_X5_numberOf_1 l D cI cJ o mP mL mC mN mF mR mD mV mX mA mK mT mU mH mI cm pm gl i 0 (ok_of hm1 c_1) (by decide)) (cwV 3 hts gX5_crossed_X5_numberOf rfl rfl rfl (by decide +kernel) ⟨Nat.le_of_ble_eq_true rfl, Nat.le_of_ble_eq_true rfl⟩) ⟨gd_blR, va_recv hK.1 hPc (ci := 5) (q0 := 0) rfl rfl, gd_prR hPc hK⟩ rfl rfl hl.1 rfl (lv_room (Nat.le_of_ble_eq_true rfl)) dX5_crossed_57 ⟨Nat.zero_le _, Nat.zero_le _⟩) (fun r_57 hw => ?_)
      subst hw
      clear hPc
      refine lv_i2l hx hb dX5_crossed_60 rfl ?_
      refine lv_aload_n hx hb dX5_crossed_61 rfl (lv_at hl 3 rfl) ?_
      refine lv_iload_n hx hb dX5_crossed_62 rfl (lv_at hl 4 rfl) ?_
      refine lv_iload_n hx hb dX5_crossed_63 rfl (lv_at hl 6 rfl) ?_
      refine lv_iload hx hb dX5_crossed_64 (lv_at hl 0 rfl) ?_
      have hPc := hP.sub (ws' := [kM o mP mL mC mN mF mR mD mV mX mA mK cm mT pm mU mH mI, kA mL cI 180 gl]) [0, 4] rfl
      refine cr_i (va_runV (As := [.int 1, .int j, .int 1]) (rest := [.long ((z5_numberOf_1 gl i 0).toInt64), .int 2, .ref mF]) ⟨hx, hb, hml, hown, hts⟩ (c_X5_numberOf_1 l D cI cJ o mP mL mC mN mF mR mD mV mX mA mK mT mU mH mI cm pm gl j 1 (ok_of hm1 c_2) (by decide)) (cwV 3 hts gX5_crossed_X5_numberOf rfl rfl rfl (by decide +kernel) ⟨Nat.le_of_ble_eq_true rfl, Nat.le_of_ble_eq_true rfl⟩) ⟨gd_blR, va_recv hK.1 hPc (ci := 5) (q0 := 0) rfl rfl, gd_prR hPc hK⟩ rfl rfl hl.1 rfl (lv_room (Nat.le_of_ble_eq_true rfl)) dX5_crossed_66 ⟨Nat.zero_le _, Nat.zero_le _⟩) (fun r_66 hw => ?_)
      subst hw
      clear hPc
      refine lv_i2l hx hb dX5_crossed_69 rfl ?_
      refine lv_lmul hx hb dX5_crossed_70 ?_
      refine lv_aload_n hx hb dX5_crossed_71 rfl (lv_at hl 3 rfl) ?_
      refine lv_iload_n hx hb dX5_crossed_72 rfl (lv_at hl 4 rfl) ?_
      refine lv_iload_n hx hb dX5_crossed_73 rfl (lv_at hl 5 rfl) ?_
      refine lv_iload hx hb dX5_crossed_74 (lv_at hl 0 rfl) ?_
      have hPc := hP.sub (ws' := [kM o mP mL mC mN mF mR mD mV mX mA mK cm mT pm mU mH mI, kA mL cI 180 gl]) [0, 4] rfl
      refine cr_i (va_runV (As := [.int 1, .int i, .int 1]) (rest := [.long (((z5_numberOf_1 gl i 0).toInt64) * ((z5_numberOf_1 gl j 1).toInt64)), .int 2, .ref mF]) ⟨hx, hb, hml, hown, hts⟩ (c_X5_numberOf_1 l D cI cJ o mP mL mC mN mF mR mD mV mX mA mK mT mU mH mI cm pm gl i 1 (ok_of hm1 c_1) (by decide)) (cwV 3 hts gX5_crossed_X5_numberOf rfl rfl rfl (by decide +kernel) ⟨Nat.le_of_ble_eq_true rfl, Nat.le_of_ble_eq_true rfl⟩) ⟨gd_blR, va_recv hK.1 hPc (ci := 5) (q0 := 0) rfl rfl, gd_prR hPc hK⟩ rfl rfl hl.1 rfl (lv_room (Nat.le_of_ble_eq_true rfl)) dX5_crossed_76 ⟨Nat.zero_le _, Nat.zero_le _⟩) (fun r_76 hw => ?_)
      subst hw
      clear hPc
      refine lv_i2l hx hb dX5_crossed_79 rfl ?_
      refine lv_aload_n hx hb dX5_crossed_80 rfl (lv_at hl 3 rfl) ?_
      refine lv_iload_n hx hb dX5_crossed_81 rfl (lv_at hl 4 rfl) ?_
      refine lv_iload_n hx hb dX5_crossed_82 rfl (lv_at hl 6 rfl) ?_
      refine lv_iload hx hb dX5_crossed_83 (lv_at hl 1 rfl) ?_
      have hPc := hP.sub (ws' := [kM o mP mL mC mN mF mR mD mV mX mA mK cm mT pm mU mH mI, kA mL cI 180 gl]) [0, 4] rfl
      refine cr_i (va_runV (As := [.int 1, .int j, .int 0]) (rest := [.long ((z5_numberOf_1 gl i 1).toInt64), .long (((z5_numberOf_1 gl i 0).toInt64) * ((z5_numberOf_1 gl j 1).toInt64)), .int 2, .ref mF]) ⟨hx, hb, hml, hown, hts⟩ (c_X5_numberOf_1 l D cI cJ o mP mL mC mN mF mR mD mV mX mA mK mT mU mH mI cm pm gl j 0 (ok_of hm1 c_2) (by decide)) (cwV 3 hts gX5_crossed_X5_numberOf rfl rfl rfl (by decide +kernel) ⟨Nat.le_of_ble_eq_true rfl, Nat.le_of_ble_eq_true rfl⟩) ⟨gd_blR, va_recv hK.1 hPc (ci := 5) (q0 := 0) rfl rfl, gd_prR hPc hK⟩ rfl rfl hl.1 rfl (lv_room (Nat.le_of_ble_eq_true rfl)) dX5_crossed_85 ⟨Nat.zero_le _, Nat.zero_le _⟩) (fun r_85 hw => ?_)
      subst hw
      clear hPc
      refine lv_i2l hx hb dX5_crossed_88 rfl ?_
      refine lv_lmul hx hb dX5_crossed_89 ?_
      refine lv_lsub hx hb dX5_crossed_90 ?_
      refine st_l hx hb hK.1 hP hD hS 2 1 rfl rfl (ix_lit (by decide)) 2 (by decide) dX5_crossed_91 (fun H locs hP hD hS => ?_)
      have hP : va_P D vwCl [kM o mP mL mC mN mF mR mD mV mX mA mK cm mT pm mU mH mI, kA mN cI 3 gm, kJ mF cJ 6 (vp_updL (vp_updL (vp_updL ff 0 ((((z5_numberOf_1 gl i 1).toInt64) * ((z5_numberOf_1 gl j 2).toInt64)) - (((z5_numberOf_1 gl i 2).toInt64) * ((z5_numberOf_1 gl j 1).toInt64)))) 1 ((((z5_numberOf_1 gl i 2).toInt64) * ((z5_numberOf_1 gl j 0).toInt64)) - (((z5_numberOf_1 gl i 0).toInt64) * ((z5_numberOf_1 gl j 2).toInt64)))) 2 ((((z5_numberOf_1 gl i 0).toInt64) * ((z5_numberOf_1 gl j 1).toInt64)) - (((z5_numberOf_1 gl i 1).toInt64) * ((z5_numberOf_1 gl j 0).toInt64)))), kA mP cI 180 gp, kA mL cI 180 gl] H := hP
      have hD : va_D A [kM o mP mL mC mN mF mR mD mV mX mA mK cm mT pm mU mH mI, kA mN cI 3 gm, kJ mF cJ 6 (vp_updL (vp_updL (vp_updL ff 0 ((((z5_numberOf_1 gl i 1).toInt64) * ((z5_numberOf_1 gl j 2).toInt64)) - (((z5_numberOf_1 gl i 2).toInt64) * ((z5_numberOf_1 gl j 1).toInt64)))) 1 ((((z5_numberOf_1 gl i 2).toInt64) * ((z5_numberOf_1 gl j 0).toInt64)) - (((z5_numberOf_1 gl i 0).toInt64) * ((z5_numberOf_1 gl j 2).toInt64)))) 2 ((((z5_numberOf_1 gl i 0).toInt64) * ((z5_numberOf_1 gl j 1).toInt64)) - (((z5_numberOf_1 gl i 1).toInt64) * ((z5_numberOf_1 gl j 0).toInt64)))), kA mP cI 180 gp, kA mL cI 180 gl] := hD
      refine lv_iinc (v := 3) (lv' := [(4, .int 3), (6, .int 1), (5, .int 0), (0, .ref o), (1, .int 1), (2, .int i), (3, .int j)]) hx hb dX5_crossed_92 hl (k := 2) rfl (by decide) (by decide) rfl (fun ls hl => ?_)
      refine lv_goto (tgt := 24) hx hb dX5_crossed_95 (by decide) ?_
      refine lv_iload hx hb dX5_crossed_24 (lv_at hl 0 rfl) ?_
      refine lv_iconst (v := 3) hx hb dX5_crossed_26 (by decide) ?_
      refine lv_icmp_ge (tgt := 98) hx hb dX5_crossed_27 (by decide) (fun _ => ?_) (fun h => absurd (by decide) h)
      refine lv_aload_n hx hb dX5_crossed_98 rfl (lv_at hl 3 rfl) ?_
      refine lv_iconst (v := 1) hx hb dX5_crossed_99 (by decide) ?_
      refine lv_iload_n hx hb dX5_crossed_100 rfl (lv_at hl 4 rfl) ?_
      refine lv_isub hx hb dX5_crossed_101 ?_
      refine lv_eqi (v := 0) (by decide) ?_
      refine lv_ldc hx hb hown k_4 dX5_crossed_102 ?_
      have hPc := hP.sub (ws' := [kM o mP mL mC mN mF mR mD mV mX mA mK cm mT pm mU mH mI, kA mN cI 3 gm, kJ mF cJ 6 (vp_updL (vp_updL (vp_updL ff 0 ((((z5_numberOf_1 gl i 1).toInt64) * ((z5_numberOf_1 gl j 2).toInt64)) - (((z5_numberOf_1 gl i 2).toInt64) * ((z5_numberOf_1 gl j 1).toInt64)))) 1 ((((z5_numberOf_1 gl i 2).toInt64) * ((z5_numberOf_1 gl j 0).toInt64)) - (((z5_numberOf_1 gl i 0).toInt64) * ((z5_numberOf_1 gl j 2).toInt64)))) 2 ((((z5_numberOf_1 gl i 0).toInt64) * ((z5_numberOf_1 gl j 1).toInt64)) - (((z5_numberOf_1 gl i 1).toInt64) * ((z5_numberOf_1 gl j 0).toInt64)))), kA mP cI 180 gp]) [0, 1, 2, 3] rfl
      have hDc := hD.sub (ws' := [kM o mP mL mC mN mF mR mD mV mX mA mK cm mT pm mU mH mI, kA mN cI 3 gm, kJ mF cJ 6 (vp_updL (vp_updL (vp_updL ff 0 ((((z5_numberOf_1 gl i 1).toInt64) * ((z5_numberOf_1 gl j 2).toInt64)) - (((z5_numberOf_1 gl i 2).toInt64) * ((z5_numberOf_1 gl j 1).toInt64)))) 1 ((((z5_numberOf_1 gl i 2).toInt64) * ((z5_numberOf_1 gl j 0).toInt64)) - (((z5_numberOf_1 gl i 0).toInt64) * ((z5_numberOf_1 gl j 2).toInt64)))) 2 ((((z5_numberOf_1 gl i 0).toInt64) * ((z5_numberOf_1 gl j 1).toInt64)) - (((z5_numberOf_1 gl i 1).toInt64) * ((z5_numberOf_1 gl j 0).toInt64)))), kA mP cI 180 gp]) [0, 1, 2, 3] (by decide) rfl
      refine cl_i (wc := [kM o mP mL mC mN mF mR mD mV mX mA mK cm mT pm mU mH mI, kA mN cI 3 gm, kJ mF cJ 6 (vp_updL (vp_updL (vp_updL ff 0 ((((z5_numberOf_1 gl i 1).toInt64) * ((z5_numberOf_1 gl j 2).toInt64)) - (((z5_numberOf_1 gl i 2).toInt64) * ((z5_numberOf_1 gl j 1).toInt64)))) 1 ((((z5_numberOf_1 gl i 2).toInt64) * ((z5_numberOf_1 gl j 0).toInt64)) - (((z5_numberOf_1 gl i 0).toInt64) * ((z5_numberOf_1 gl j 2).toInt64)))) 2 ((((z5_numberOf_1 gl i 0).toInt64) * ((z5_numberOf_1 gl j 1).toInt64)) - (((z5_numberOf_1 gl i 1).toInt64) * ((z5_numberOf_1 gl j 0).toInt64)))), kA mP cI 180 gp]) (wr := [kA mL cI 180 gl]) (w1 := fun uu : (Nat → Int64) => [kM o mP mL mC mN mF mR mD mV mX mA mK cm mT pm mU mH mI, kA mN cI 3 ((z5_keep_0 gm (vp_updL (vp_updL (vp_updL ff 0 ((((z5_numberOf_1 gl i 1).toInt64) * ((z5_numberOf_1 gl j 2).toInt64)) - (((z5_numberOf_1 gl i 2).toInt64) * ((z5_numberOf_1 gl j 1).toInt64)))) 1 ((((z5_numberOf_1 gl i 2).toInt64) * ((z5_numberOf_1 gl j 0).toInt64)) - (((z5_numberOf_1 gl i 0).toInt64) * ((z5_numberOf_1 gl j 2).toInt64)))) 2 ((((z5_numberOf_1 gl i 0).toInt64) * ((z5_numberOf_1 gl j 1).toInt64)) - (((z5_numberOf_1 gl i 1).toInt64) * ((z5_numberOf_1 gl j 0).toInt64)))) gp (-1000004)).2.1), kJ mF cJ 6 uu, kA mP cI 180 ((z5_keep_0 gm (vp_updL (vp_updL (vp_updL ff 0 ((((z5_numberOf_1 gl i 1).toInt64) * ((z5_numberOf_1 gl j 2).toInt64)) - (((z5_numberOf_1 gl i 2).toInt64) * ((z5_numberOf_1 gl j 1).toInt64)))) 1 ((((z5_numberOf_1 gl i 2).toInt64) * ((z5_numberOf_1 gl j 0).toInt64)) - (((z5_numberOf_1 gl i 0).toInt64) * ((z5_numberOf_1 gl j 2).toInt64)))) 2 ((((z5_numberOf_1 gl i 0).toInt64) * ((z5_numberOf_1 gl j 1).toInt64)) - (((z5_numberOf_1 gl i 1).toInt64) * ((z5_numberOf_1 gl j 0).toInt64)))) gp (-1000004)).2.2)]) (wn := fun uu : (Nat → Int64) => [kM o mP mL mC mN mF mR mD mV mX mA mK cm mT pm mU mH mI, kA mN cI 3 ((z5_keep_0 gm (vp_updL (vp_updL (vp_updL ff 0 ((((z5_numberOf_1 gl i 1).toInt64) * ((z5_numberOf_1 gl j 2).toInt64)) - (((z5_numberOf_1 gl i 2).toInt64) * ((z5_numberOf_1 gl j 1).toInt64)))) 1 ((((z5_numberOf_1 gl i 2).toInt64) * ((z5_numberOf_1 gl j 0).toInt64)) - (((z5_numberOf_1 gl i 0).toInt64) * ((z5_numberOf_1 gl j 2).toInt64)))) 2 ((((z5_numberOf_1 gl i 0).toInt64) * ((z5_numberOf_1 gl j 1).toInt64)) - (((z5_numberOf_1 gl i 1).toInt64) * ((z5_numberOf_1 gl j 0).toInt64)))) gp (-1000004)).2.1), kJ mF cJ 6 uu, kA mP cI 180 ((z5_keep_0 gm (vp_updL (vp_updL (vp_updL ff 0 ((((z5_numberOf_1 gl i 1).toInt64) * ((z5_numberOf_1 gl j 2).toInt64)) - (((z5_numberOf_1 gl i 2).toInt64) * ((z5_numberOf_1 gl j 1).toInt64)))) 1 ((((z5_numberOf_1 gl i 2).toInt64) * ((z5_numberOf_1 gl j 0).toInt64)) - (((z5_numberOf_1 gl i 0).toInt64) * ((z5_numberOf_1 gl j 2).toInt64)))) 2 ((((z5_numberOf_1 gl i 0).toInt64) * ((z5_numberOf_1 gl j 1).toInt64)) - (((z5_numberOf_1 gl i 1).toInt64) * ((z5_numberOf_1 gl j 0).toInt64)))) gp (-1000004)).2.2), kA mL cI 180 gl]) (va_runV (As := [.int 0, .int (-1000004)]) (rest := []) ⟨hx, hb, hml, hown, hts⟩ (c_X5_keep_0 l D cI cJ o mP mL mC mN mF mR mD mV mX mA mK mT mU mH mI cm pm gm (vp_updL (vp_updL (vp_updL ff 0 ((((z5_numberOf_1 gl i 1).toInt64) * ((z5_numberOf_1 gl j 2).toInt64)) - (((z5_numberOf_1 gl i 2).toInt64) * ((z5_numberOf_1 gl j 1).toInt64)))) 1 ((((z5_numberOf_1 gl i 2).toInt64) * ((z5_numberOf_1 gl j 0).toInt64)) - (((z5_numberOf_1 gl i 0).toInt64) * ((z5_numberOf_1 gl j 2).toInt64)))) 2 ((((z5_numberOf_1 gl i 0).toInt64) * ((z5_numberOf_1 gl j 1).toInt64)) - (((z5_numberOf_1 gl i 1).toInt64) * ((z5_numberOf_1 gl j 0).toInt64)))) gp (-1000004) hm0 _) (cwV 2 hts gX5_crossed_X5_keep rfl rfl rfl (by decide +kernel) ⟨Nat.le_of_ble_eq_true rfl, Nat.le_of_ble_eq_true rfl⟩) ⟨gd_blP, va_recv hK.1 hPc (ci := 5) (q0 := 0) rfl rfl, gd_prP hPc hK hDc⟩ rfl rfl hl.1 rfl (lv_room (Nat.le_of_ble_eq_true rfl)) dX5_crossed_104 ⟨Nat.zero_le _, Nat.zero_le _⟩) hP hD hS hA [0, 1, 2, 3] [4] rfl rfl (by decide) (by decide) [1, 2, 3, 4, 0] (by decide) (fun _ => rfl) (fun r_104 uG H locs hw hP hD hS => ?_)
      obtain ⟨y_104_0_1, rfl⟩ : ∃ z, z = uG := ⟨_, rfl⟩
      have hP : va_P D vwCl [kM o mP mL mC mN mF mR mD mV mX mA mK cm mT pm mU mH mI, kA mN cI 3 ((z5_keep_0 gm (vp_updL (vp_updL (vp_updL ff 0 ((((z5_numberOf_1 gl i 1).toInt64) * ((z5_numberOf_1 gl j 2).toInt64)) - (((z5_numberOf_1 gl i 2).toInt64) * ((z5_numberOf_1 gl j 1).toInt64)))) 1 ((((z5_numberOf_1 gl i 2).toInt64) * ((z5_numberOf_1 gl j 0).toInt64)) - (((z5_numberOf_1 gl i 0).toInt64) * ((z5_numberOf_1 gl j 2).toInt64)))) 2 ((((z5_numberOf_1 gl i 0).toInt64) * ((z5_numberOf_1 gl j 1).toInt64)) - (((z5_numberOf_1 gl i 1).toInt64) * ((z5_numberOf_1 gl j 0).toInt64)))) gp (-1000004)).2.1), kJ mF cJ 6 y_104_0_1, kA mP cI 180 ((z5_keep_0 gm (vp_updL (vp_updL (vp_updL ff 0 ((((z5_numberOf_1 gl i 1).toInt64) * ((z5_numberOf_1 gl j 2).toInt64)) - (((z5_numberOf_1 gl i 2).toInt64) * ((z5_numberOf_1 gl j 1).toInt64)))) 1 ((((z5_numberOf_1 gl i 2).toInt64) * ((z5_numberOf_1 gl j 0).toInt64)) - (((z5_numberOf_1 gl i 0).toInt64) * ((z5_numberOf_1 gl j 2).toInt64)))) 2 ((((z5_numberOf_1 gl i 0).toInt64) * ((z5_numberOf_1 gl j 1).toInt64)) - (((z5_numberOf_1 gl i 1).toInt64) * ((z5_numberOf_1 gl j 0).toInt64)))) gp (-1000004)).2.2), kA mL cI 180 gl] H := hP
      have hD : va_D A [kM o mP mL mC mN mF mR mD mV mX mA mK cm mT pm mU mH mI, kA mN cI 3 ((z5_keep_0 gm (vp_updL (vp_updL (vp_updL ff 0 ((((z5_numberOf_1 gl i 1).toInt64) * ((z5_numberOf_1 gl j 2).toInt64)) - (((z5_numberOf_1 gl i 2).toInt64) * ((z5_numberOf_1 gl j 1).toInt64)))) 1 ((((z5_numberOf_1 gl i 2).toInt64) * ((z5_numberOf_1 gl j 0).toInt64)) - (((z5_numberOf_1 gl i 0).toInt64) * ((z5_numberOf_1 gl j 2).toInt64)))) 2 ((((z5_numberOf_1 gl i 0).toInt64) * ((z5_numberOf_1 gl j 1).toInt64)) - (((z5_numberOf_1 gl i 1).toInt64) * ((z5_numberOf_1 gl j 0).toInt64)))) gp (-1000004)).2.1), kJ mF cJ 6 y_104_0_1, kA mP cI 180 ((z5_keep_0 gm (vp_updL (vp_updL (vp_updL ff 0 ((((z5_numberOf_1 gl i 1).toInt64) * ((z5_numberOf_1 gl j 2).toInt64)) - (((z5_numberOf_1 gl i 2).toInt64) * ((z5_numberOf_1 gl j 1).toInt64)))) 1 ((((z5_numberOf_1 gl i 2).toInt64) * ((z5_numberOf_1 gl j 0).toInt64)) - (((z5_numberOf_1 gl i 0).toInt64) * ((z5_numberOf_1 gl j 2).toInt64)))) 2 ((((z5_numberOf_1 gl i 0).toInt64) * ((z5_numberOf_1 gl j 1).toInt64)) - (((z5_numberOf_1 gl i 1).toInt64) * ((z5_numberOf_1 gl j 0).toInt64)))) gp (-1000004)).2.2), kA mL cI 180 gl] := hD
      have ea_0 : (z5_keep_0 gm (vp_updL (vp_updL (vp_updL ff 0 ((((z5_numberOf_1 gl i 1).toInt64) * ((z5_numberOf_1 gl j 2).toInt64)) - (((z5_numberOf_1 gl i 2).toInt64) * ((z5_numberOf_1 gl j 1).toInt64)))) 1 ((((z5_numberOf_1 gl i 2).toInt64) * ((z5_numberOf_1 gl j 0).toInt64)) - (((z5_numberOf_1 gl i 0).toInt64) * ((z5_numberOf_1 gl j 2).toInt64)))) 2 ((((z5_numberOf_1 gl i 0).toInt64) * ((z5_numberOf_1 gl j 1).toInt64)) - (((z5_numberOf_1 gl i 1).toInt64) * ((z5_numberOf_1 gl j 0).toInt64)))) gp (-1000004)).2.1 = z5_crossed_1_v1 gm ff gp gl i j := by delta z5_crossed_1_v1; rfl
      have ea_1 : (z5_keep_0 gm (vp_updL (vp_updL (vp_updL ff 0 ((((z5_numberOf_1 gl i 1).toInt64) * ((z5_numberOf_1 gl j 2).toInt64)) - (((z5_numberOf_1 gl i 2).toInt64) * ((z5_numberOf_1 gl j 1).toInt64)))) 1 ((((z5_numberOf_1 gl i 2).toInt64) * ((z5_numberOf_1 gl j 0).toInt64)) - (((z5_numberOf_1 gl i 0).toInt64) * ((z5_numberOf_1 gl j 2).toInt64)))) 2 ((((z5_numberOf_1 gl i 0).toInt64) * ((z5_numberOf_1 gl j 1).toInt64)) - (((z5_numberOf_1 gl i 1).toInt64) * ((z5_numberOf_1 gl j 0).toInt64)))) gp (-1000004)).2.2 = z5_crossed_1_v2 gm ff gp gl i j := by delta z5_crossed_1_v2; rfl
      rw [ea_0, ea_1] at hP hD
      clear ea_0 ea_1
      subst hw
      refine lv_eqi (v := z5_crossed_1_v3 gm ff gp gl i j) (by delta z5_crossed_1_v3; rfl) ?_
      clear hPc hDc
      have he : z5_crossed_1 gm ff gp gl i j = (z5_crossed_1_v3 gm ff gp gl i j, z5_crossed_1_v1 gm ff gp gl i j, z5_crossed_1_v2 gm ff gp gl i j) := by unfold z5_crossed_1; rw [if_neg c_1, if_neg c_2]
      have he_0 : (z5_crossed_1 gm ff gp gl i j).1 = z5_crossed_1_v3 gm ff gp gl i j := by rw [he]
      have he_1 : (z5_crossed_1 gm ff gp gl i j).2.1 = z5_crossed_1_v1 gm ff gp gl i j := by rw [he]
      have he_2 : (z5_crossed_1 gm ff gp gl i j).2.2 = z5_crossed_1_v2 gm ff gp gl i j := by rw [he]
      exact rt_i (w1 := fun uu : (Nat → Int64) => [kM o mP mL mC mN mF mR mD mV mX mA mK cm mT pm mU mH mI, kA mN cI 3 ((z5_crossed_1 gm ff gp gl i j).2.1), kJ mF cJ 6 uu, kA mP cI 180 ((z5_crossed_1 gm ff gp gl i j).2.2), kA mL cI 180 gl]) hx hb hr hlk hS dX5_crossed_107 (y_104_0_1) he_0.symm (by (try dsimp only); rw [he_1, he_2]; exact hP) (by (try dsimp only); rw [he_1, he_2]; exact hD)
    · skip
      refine lv_ldc hx hb hown k_1 dX5_crossed_18 ?_
      have he : z5_crossed_1 gm ff gp gl i j = ((-1000002), gm, gp) := by unfold z5_crossed_1; rw [if_neg c_1, if_pos c_2]
      have he_0 : (z5_crossed_1 gm ff gp gl i j).1 = (-1000002) := by rw [he]
      have he_1 : (z5_crossed_1 gm ff gp gl i j).2.1 = gm := by rw [he]
      have he_2 : (z5_crossed_1 gm ff gp gl i j).2.2 = gp := by rw [he]
      exact rt_i (w1 := fun uu : (Nat → Int64) => [kM o mP mL mC mN mF mR mD mV mX mA mK cm mT pm mU mH mI, kA mN cI 3 ((z5_crossed_1 gm ff gp gl i j).2.1), kJ mF cJ 6 uu, kA mP cI 180 ((z5_crossed_1 gm ff gp gl i j).2.2), kA mL cI 180 gl]) hx hb hr hlk hS dX5_crossed_20 (ff) he_0.symm (by (try dsimp only); rw [he_1, he_2]; exact hP) (by (try dsimp only); rw [he_1, he_2]; exact hD)
def z5_join (gm : Nat → Int32) (ff : Nat → Int64) (gp : Nat → Int32) (gl : Nat → Int32) (i : Int32) (j : Int32) : Int32 := (z5_crossed_0 gm ff gp gl i j).1
def z5_join_f1 (gm : Nat → Int32) (ff : Nat → Int64) (gp : Nat → Int32) (gl : Nat → Int32) (i : Int32) (j : Int32) : Nat → Int32 := (z5_crossed_0 gm ff gp gl i j).2.1
def z5_join_f4 (gm : Nat → Int32) (ff : Nat → Int64) (gp : Nat → Int32) (gl : Nat → Int32) (i : Int32) (j : Int32) : Nat → Int32 := (z5_crossed_0 gm ff gp gl i j).2.2
set_option maxHeartbeats 4000000 in
set_option maxRecDepth 100000 in
/-- X5.join -/
theorem c_X5_join (l : Launch) (D : va_G) (cI cJ : ClassId) (o : Nat) (mP : Nat) (mL : Nat) (mC : Nat) (mN : Nat) (mF : Nat) (mR : Nat) (mD : Nat) (mV : Nat) (mX : Nat) (mA : Nat) (mK : Nat) (mT : Nat) (mU : Nat) (mH : Nat) (mI : Nat) (cm : Int32) (pm : Int32) (gm : Nat → Int32) (ff : Nat → Int64) (gp : Nat → Int32) (gl : Nat → Int32) (i : Int32) (j : Int32) (hm0 : n_ok (gm 0)) (hm1 : n_ok (gm 1)) : mw_C l yX5_join wsX5_join ({ frames := 4, cells := 0, slots := 0, locals := 106 }) D cI cJ [.ref o, .int i, .int j] [kM o mP mL mC mN mF mR mD mV mX mA mK cm mT pm mU mH mI, kA mN cI 3 gm, kJ mF cJ 6 ff, kA mP cI 180 gp, kA mL cI 180 gl] (qe_i (fun (r : Int32) (_ : (Nat → Int64)) => r = z5_join gm ff gp gl i j) (fun uu => [kM o mP mL mC mN mF mR mD mV mX mA mK cm mT pm mU mH mI, kA mN cI 3 (z5_join_f1 gm ff gp gl i j), kJ mF cJ 6 uu, kA mP cI 180 gp, kA mL cI 180 (z5_join_f4 gm ff gp gl i j)])) := by
  refine mw_in (cc := cX5_join) (lv := [(0, .ref o), (1, .int i), (2, .int j)]) (by decide) rfl (Nat.le_of_ble_eq_true rfl) rfl ?_
  intro pG eG sG mG below meth cG ls A hx hb hr hml hown hts hlk hin hP hK hD hA hS hl
  have hown : sG.vm.findClass RX5 = some mG.cls := hown
  refine lv_aload_n hx hb dX5_join_0 rfl (lv_at hl 0 rfl) ?_
  refine lv_iconst (v := 0) hx hb dX5_join_1 (by decide) ?_
  refine lv_iload_n hx hb dX5_join_2 rfl (lv_at hl 1 rfl) ?_
  refine lv_iload_n hx hb dX5_join_3 rfl (lv_at hl 2 rfl) ?_
  have hPc := hP.sub (ws' := [kM o mP mL mC mN mF mR mD mV mX mA mK cm mT pm mU mH mI, kA mN cI 3 gm, kJ mF cJ 6 ff, kA mP cI 180 gp, kA mL cI 180 gl]) [0, 1, 2, 3, 4] rfl
  have hDc := hD.sub (ws' := [kM o mP mL mC mN mF mR mD mV mX mA mK cm mT pm mU mH mI, kA mN cI 3 gm, kJ mF cJ 6 ff, kA mP cI 180 gp, kA mL cI 180 gl]) [0, 1, 2, 3, 4] (by decide) rfl
  refine cl_i (wc := [kM o mP mL mC mN mF mR mD mV mX mA mK cm mT pm mU mH mI, kA mN cI 3 gm, kJ mF cJ 6 ff, kA mP cI 180 gp, kA mL cI 180 gl]) (wr := []) (w1 := fun uu : (Nat → Int64) => [kM o mP mL mC mN mF mR mD mV mX mA mK cm mT pm mU mH mI, kA mN cI 3 ((z5_crossed_0 gm ff gp gl i j).2.1), kJ mF cJ 6 uu, kA mP cI 180 gp, kA mL cI 180 ((z5_crossed_0 gm ff gp gl i j).2.2)]) (wn := fun uu : (Nat → Int64) => [kM o mP mL mC mN mF mR mD mV mX mA mK cm mT pm mU mH mI, kA mN cI 3 ((z5_crossed_0 gm ff gp gl i j).2.1), kJ mF cJ 6 uu, kA mP cI 180 gp, kA mL cI 180 ((z5_crossed_0 gm ff gp gl i j).2.2)]) (va_runV (As := [.int 0, .int i, .int j]) (rest := []) ⟨hx, hb, hml, hown, hts⟩ (c_X5_crossed_0 l D cI cJ o mP mL mC mN mF mR mD mV mX mA mK mT mU mH mI cm pm gm ff gp gl i j hm0 hm1 _) (cwV 3 hts gX5_join_X5_crossed rfl rfl rfl (by decide +kernel) ⟨Nat.le_of_ble_eq_true rfl, Nat.le_of_ble_eq_true rfl⟩) ⟨gd_blP, va_recv hK.1 hPc (ci := 5) (q0 := 0) rfl rfl, gd_prP hPc hK hDc⟩ rfl rfl hl.1 rfl (lv_room (Nat.le_of_ble_eq_true rfl)) dX5_join_4 ⟨Nat.zero_le _, Nat.zero_le _⟩) hP hD hS hA [0, 1, 2, 3, 4] [] rfl rfl (by decide) (by decide) [0, 1, 2, 3, 4] (by decide) (fun _ => rfl) (fun r_4 uG H locs hw hP hD hS => ?_)
  obtain ⟨y_4_0_1, rfl⟩ : ∃ z, z = uG := ⟨_, rfl⟩
  have hP : va_P D vwCl [kM o mP mL mC mN mF mR mD mV mX mA mK cm mT pm mU mH mI, kA mN cI 3 ((z5_crossed_0 gm ff gp gl i j).2.1), kJ mF cJ 6 y_4_0_1, kA mP cI 180 gp, kA mL cI 180 ((z5_crossed_0 gm ff gp gl i j).2.2)] H := hP
  have hD : va_D A [kM o mP mL mC mN mF mR mD mV mX mA mK cm mT pm mU mH mI, kA mN cI 3 ((z5_crossed_0 gm ff gp gl i j).2.1), kJ mF cJ 6 y_4_0_1, kA mP cI 180 gp, kA mL cI 180 ((z5_crossed_0 gm ff gp gl i j).2.2)] := hD
  subst hw
  clear hPc hDc
  have he_1 : z5_join_f1 gm ff gp gl i j = (z5_crossed_0 gm ff gp gl i j).2.1 := by delta z5_join_f1; rfl
  have he_2 : z5_join_f4 gm ff gp gl i j = (z5_crossed_0 gm ff gp gl i j).2.2 := by delta z5_join_f4; rfl
  exact rt_i (w1 := fun uu : (Nat → Int64) => [kM o mP mL mC mN mF mR mD mV mX mA mK cm mT pm mU mH mI, kA mN cI 3 (z5_join_f1 gm ff gp gl i j), kJ mF cJ 6 uu, kA mP cI 180 gp, kA mL cI 180 (z5_join_f4 gm ff gp gl i j)]) hx hb hr hlk hS dX5_join_7 (y_4_0_1) rfl (by (try dsimp only); rw [he_1, he_2]; exact hP) (by (try dsimp only); rw [he_1, he_2]; exact hD)
def z5_meet (gm : Nat → Int32) (ff : Nat → Int64) (gp : Nat → Int32) (gl : Nat → Int32) (i : Int32) (j : Int32) : Int32 := (z5_crossed_1 gm ff gp gl i j).1
def z5_meet_f1 (gm : Nat → Int32) (ff : Nat → Int64) (gp : Nat → Int32) (gl : Nat → Int32) (i : Int32) (j : Int32) : Nat → Int32 := (z5_crossed_1 gm ff gp gl i j).2.1
def z5_meet_f3 (gm : Nat → Int32) (ff : Nat → Int64) (gp : Nat → Int32) (gl : Nat → Int32) (i : Int32) (j : Int32) : Nat → Int32 := (z5_crossed_1 gm ff gp gl i j).2.2
set_option maxHeartbeats 4000000 in
set_option maxRecDepth 100000 in
/-- X5.meet -/
theorem c_X5_meet (l : Launch) (D : va_G) (cI cJ : ClassId) (o : Nat) (mP : Nat) (mL : Nat) (mC : Nat) (mN : Nat) (mF : Nat) (mR : Nat) (mD : Nat) (mV : Nat) (mX : Nat) (mA : Nat) (mK : Nat) (mT : Nat) (mU : Nat) (mH : Nat) (mI : Nat) (cm : Int32) (pm : Int32) (gm : Nat → Int32) (ff : Nat → Int64) (gp : Nat → Int32) (gl : Nat → Int32) (i : Int32) (j : Int32) (hm0 : n_ok (gm 0)) (hm1 : n_ok (gm 1)) : mw_C l yX5_meet wsX5_meet ({ frames := 4, cells := 0, slots := 0, locals := 106 }) D cI cJ [.ref o, .int i, .int j] [kM o mP mL mC mN mF mR mD mV mX mA mK cm mT pm mU mH mI, kA mN cI 3 gm, kJ mF cJ 6 ff, kA mP cI 180 gp, kA mL cI 180 gl] (qe_i (fun (r : Int32) (_ : (Nat → Int64)) => r = z5_meet gm ff gp gl i j) (fun uu => [kM o mP mL mC mN mF mR mD mV mX mA mK cm mT pm mU mH mI, kA mN cI 3 (z5_meet_f1 gm ff gp gl i j), kJ mF cJ 6 uu, kA mP cI 180 (z5_meet_f3 gm ff gp gl i j), kA mL cI 180 gl])) := by
  refine mw_in (cc := cX5_meet) (lv := [(0, .ref o), (1, .int i), (2, .int j)]) (by decide) rfl (Nat.le_of_ble_eq_true rfl) rfl ?_
  intro pG eG sG mG below meth cG ls A hx hb hr hml hown hts hlk hin hP hK hD hA hS hl
  have hown : sG.vm.findClass RX5 = some mG.cls := hown
  refine lv_aload_n hx hb dX5_meet_0 rfl (lv_at hl 0 rfl) ?_
  refine lv_iconst (v := 1) hx hb dX5_meet_1 (by decide) ?_
  refine lv_iload_n hx hb dX5_meet_2 rfl (lv_at hl 1 rfl) ?_
  refine lv_iload_n hx hb dX5_meet_3 rfl (lv_at hl 2 rfl) ?_
  have hPc := hP.sub (ws' := [kM o mP mL mC mN mF mR mD mV mX mA mK cm mT pm mU mH mI, kA mN cI 3 gm, kJ mF cJ 6 ff, kA mP cI 180 gp, kA mL cI 180 gl]) [0, 1, 2, 3, 4] rfl
  have hDc := hD.sub (ws' := [kM o mP mL mC mN mF mR mD mV mX mA mK cm mT pm mU mH mI, kA mN cI 3 gm, kJ mF cJ 6 ff, kA mP cI 180 gp, kA mL cI 180 gl]) [0, 1, 2, 3, 4] (by decide) rfl
  refine cl_i (wc := [kM o mP mL mC mN mF mR mD mV mX mA mK cm mT pm mU mH mI, kA mN cI 3 gm, kJ mF cJ 6 ff, kA mP cI 180 gp, kA mL cI 180 gl]) (wr := []) (w1 := fun uu : (Nat → Int64) => [kM o mP mL mC mN mF mR mD mV mX mA mK cm mT pm mU mH mI, kA mN cI 3 ((z5_crossed_1 gm ff gp gl i j).2.1), kJ mF cJ 6 uu, kA mP cI 180 ((z5_crossed_1 gm ff gp gl i j).2.2), kA mL cI 180 gl]) (wn := fun uu : (Nat → Int64) => [kM o mP mL mC mN mF mR mD mV mX mA mK cm mT pm mU mH mI, kA mN cI 3 ((z5_crossed_1 gm ff gp gl i j).2.1), kJ mF cJ 6 uu, kA mP cI 180 ((z5_crossed_1 gm ff gp gl i j).2.2), kA mL cI 180 gl]) (va_runV (As := [.int 1, .int i, .int j]) (rest := []) ⟨hx, hb, hml, hown, hts⟩ (c_X5_crossed_1 l D cI cJ o mP mL mC mN mF mR mD mV mX mA mK mT mU mH mI cm pm gm ff gp gl i j hm0 hm1 _) (cwV 3 hts gX5_meet_X5_crossed rfl rfl rfl (by decide +kernel) ⟨Nat.le_of_ble_eq_true rfl, Nat.le_of_ble_eq_true rfl⟩) ⟨gd_blP, va_recv hK.1 hPc (ci := 5) (q0 := 0) rfl rfl, gd_prP hPc hK hDc⟩ rfl rfl hl.1 rfl (lv_room (Nat.le_of_ble_eq_true rfl)) dX5_meet_4 ⟨Nat.zero_le _, Nat.zero_le _⟩) hP hD hS hA [0, 1, 2, 3, 4] [] rfl rfl (by decide) (by decide) [0, 1, 2, 3, 4] (by decide) (fun _ => rfl) (fun r_4 uG H locs hw hP hD hS => ?_)
  obtain ⟨y_4_0_1, rfl⟩ : ∃ z, z = uG := ⟨_, rfl⟩
  have hP : va_P D vwCl [kM o mP mL mC mN mF mR mD mV mX mA mK cm mT pm mU mH mI, kA mN cI 3 ((z5_crossed_1 gm ff gp gl i j).2.1), kJ mF cJ 6 y_4_0_1, kA mP cI 180 ((z5_crossed_1 gm ff gp gl i j).2.2), kA mL cI 180 gl] H := hP
  have hD : va_D A [kM o mP mL mC mN mF mR mD mV mX mA mK cm mT pm mU mH mI, kA mN cI 3 ((z5_crossed_1 gm ff gp gl i j).2.1), kJ mF cJ 6 y_4_0_1, kA mP cI 180 ((z5_crossed_1 gm ff gp gl i j).2.2), kA mL cI 180 gl] := hD
  subst hw
  clear hPc hDc
  have he_1 : z5_meet_f1 gm ff gp gl i j = (z5_crossed_1 gm ff gp gl i j).2.1 := by delta z5_meet_f1; rfl
  have he_2 : z5_meet_f3 gm ff gp gl i j = (z5_crossed_1 gm ff gp gl i j).2.2 := by delta z5_meet_f3; rfl
  exact rt_i (w1 := fun uu : (Nat → Int64) => [kM o mP mL mC mN mF mR mD mV mX mA mK cm mT pm mU mH mI, kA mN cI 3 (z5_meet_f1 gm ff gp gl i j), kJ mF cJ 6 uu, kA mP cI 180 (z5_meet_f3 gm ff gp gl i j), kA mL cI 180 gl]) hx hb hr hlk hS dX5_meet_7 (y_4_0_1) rfl (by (try dsimp only); rw [he_1, he_2]; exact hP) (by (try dsimp only); rw [he_1, he_2]; exact hD)
def z5_valueAt (gc : Nat → Int32) (c : Int32) (x : Int64) (y : Int64) (z : Int64) : Int64 := ((((((((gc ((6 * c).toNatClampNeg)).toInt64) * x) * x) + ((((gc (((6 * c) + 1).toNatClampNeg)).toInt64) * x) * y)) + ((((gc (((6 * c) + 2).toNatClampNeg)).toInt64) * y) * y)) + ((((gc (((6 * c) + 3).toNatClampNeg)).toInt64) * x) * z)) + ((((gc (((6 * c) + 4).toNatClampNeg)).toInt64) * y) * z)) + ((((gc (((6 * c) + 5).toNatClampNeg)).toInt64) * z) * z)
set_option maxHeartbeats 4000000 in
set_option maxRecDepth 100000 in
/-- X5.valueAt -/
theorem c_X5_valueAt (l : Launch) (D : va_G) (cI cJ : ClassId) (o : Nat) (mP : Nat) (mL : Nat) (mC : Nat) (mN : Nat) (mF : Nat) (mR : Nat) (mD : Nat) (mV : Nat) (mX : Nat) (mA : Nat) (mK : Nat) (mT : Nat) (mU : Nat) (mH : Nat) (mI : Nat) (cm : Int32) (pm : Int32) (gc : Nat → Int32) (c : Int32) (x : Int64) (y : Int64) (z : Int64) (hc : ok_i c) : mr_C l yX5_valueAt wsX5_valueAt ({ frames := 0, cells := 0, slots := 0, locals := 0 }) D cI cJ [.ref o, .int c, .long x, .long y, .long z] [kM o mP mL mC mN mF mR mD mV mX mA mK cm mT pm mU mH mI, kA mC cI 360 gc] (vp_Sl (fun r : Int64 => r = z5_valueAt gc c x y z)) := by
  refine mr_in (cc := cX5_valueAt) (lv := [(0, .ref o), (1, .int c), (2, .long x), (4, .long y), (6, .long z)]) (by decide) rfl (Nat.le_of_ble_eq_true rfl) rfl ?_
  intro pG eG sG mG below meth cG ls hx hb hr hml hown hts hlk hP hK hl
  have hown : sG.vm.findClass RX5 = some mG.cls := hown
  have k_1 := hts (.fieldLink RX5 16 "ConicRowsModel" "conics" "[I") (by decide +kernel)
  have k_2 : ∀ w ∈ wsX50, w ∈ wsX5_valueAt := by decide +kernel
  refine lv_bipush (v := 6) hx hb dX5_valueAt_0 (by decide) ?_
  refine lv_iload_n hx hb dX5_valueAt_2 rfl (lv_at hl 1 rfl) ?_
  refine lv_imul hx hb dX5_valueAt_3 ?_
  refine lv_istore (lv' := [(8, .int (6 * c)), (0, .ref o), (1, .int c), (2, .long x), (4, .long y), (6, .long z)]) hx hb dX5_valueAt_4 hl (by decide) rfl (fun ls hl => ?_)
  refine lv_aload_n hx hb dX5_valueAt_6 rfl (lv_at hl 1 rfl) ?_
  refine va_get (D := D) (ci := 5) (v := .ref mC) (C := RX5) (T := TX5) (N := 17) hx hb hts k_2 hown hK.1 hP 0 rfl rfl 2 (by decide) k_1 (fun _ h9 => h9) rfl dX5_valueAt_7 ?_
  refine lv_iload hx hb dX5_valueAt_10 (lv_at hl 0 rfl) ?_
  refine ld_i hx hb hK.1 hP 1 0 rfl rfl (ix6z hc) ((6 * c).toNatClampNeg) rfl (v := gc ((6 * c).toNatClampNeg)) rfl dX5_valueAt_12 ?_
  refine lv_i2l hx hb dX5_valueAt_13 rfl ?_
  refine lv_lload_n hx hb dX5_valueAt_14 rfl (lv_at hl 3 rfl) ?_
  refine lv_lmul hx hb dX5_valueAt_15 ?_
  refine lv_lload_n hx hb dX5_valueAt_16 rfl (lv_at hl 3 rfl) ?_
  refine lv_lmul hx hb dX5_valueAt_17 ?_
  refine lv_aload_n hx hb dX5_valueAt_18 rfl (lv_at hl 1 rfl) ?_
  refine va_get (D := D) (ci := 5) (v := .ref mC) (C := RX5) (T := TX5) (N := 17) hx hb hts k_2 hown hK.1 hP 0 rfl rfl 2 (by decide) k_1 (fun _ h9 => h9) rfl dX5_valueAt_19 ?_
  refine lv_iload hx hb dX5_valueAt_22 (lv_at hl 0 rfl) ?_
  refine lv_iconst (v := 1) hx hb dX5_valueAt_24 (by decide) ?_
  refine lv_iadd hx hb dX5_valueAt_25 ?_
  refine ld_i hx hb hK.1 hP 1 0 rfl rfl (ix6l hc 1 (by decide)) (((6 * c) + 1).toNatClampNeg) rfl (v := gc (((6 * c) + 1).toNatClampNeg)) rfl dX5_valueAt_26 ?_
  refine lv_i2l hx hb dX5_valueAt_27 rfl ?_
  refine lv_lload_n hx hb dX5_valueAt_28 rfl (lv_at hl 3 rfl) ?_
  refine lv_lmul hx hb dX5_valueAt_29 ?_
  refine lv_lload hx hb dX5_valueAt_30 (lv_at hl 4 rfl) ?_
  refine lv_lmul hx hb dX5_valueAt_32 ?_
  refine lv_ladd hx hb dX5_valueAt_33 ?_
  refine lv_aload_n hx hb dX5_valueAt_34 rfl (lv_at hl 1 rfl) ?_
  refine va_get (D := D) (ci := 5) (v := .ref mC) (C := RX5) (T := TX5) (N := 17) hx hb hts k_2 hown hK.1 hP 0 rfl rfl 2 (by decide) k_1 (fun _ h9 => h9) rfl dX5_valueAt_35 ?_
  refine lv_iload hx hb dX5_valueAt_38 (lv_at hl 0 rfl) ?_
  refine lv_iconst (v := 2) hx hb dX5_valueAt_40 (by decide) ?_
  refine lv_iadd hx hb dX5_valueAt_41 ?_
  refine ld_i hx hb hK.1 hP 1 0 rfl rfl (ix6l hc 2 (by decide)) (((6 * c) + 2).toNatClampNeg) rfl (v := gc (((6 * c) + 2).toNatClampNeg)) rfl dX5_valueAt_42 ?_
  refine lv_i2l hx hb dX5_valueAt_43 rfl ?_
  refine lv_lload hx hb dX5_valueAt_44 (lv_at hl 4 rfl) ?_
  refine lv_lmul hx hb dX5_valueAt_46 ?_
  refine lv_lload hx hb dX5_valueAt_47 (lv_at hl 4 rfl) ?_
  refine lv_lmul hx hb dX5_valueAt_49 ?_
  refine lv_ladd hx hb dX5_valueAt_50 ?_
  refine lv_aload_n hx hb dX5_valueAt_51 rfl (lv_at hl 1 rfl) ?_
  refine va_get (D := D) (ci := 5) (v := .ref mC) (C := RX5) (T := TX5) (N := 17) hx hb hts k_2 hown hK.1 hP 0 rfl rfl 2 (by decide) k_1 (fun _ h9 => h9) rfl dX5_valueAt_52 ?_
  refine lv_iload hx hb dX5_valueAt_55 (lv_at hl 0 rfl) ?_
  refine lv_iconst (v := 3) hx hb dX5_valueAt_57 (by decide) ?_
  refine lv_iadd hx hb dX5_valueAt_58 ?_
  refine ld_i hx hb hK.1 hP 1 0 rfl rfl (ix6l hc 3 (by decide)) (((6 * c) + 3).toNatClampNeg) rfl (v := gc (((6 * c) + 3).toNatClampNeg)) rfl dX5_valueAt_59 ?_
  refine lv_i2l hx hb dX5_valueAt_60 rfl ?_
  refine lv_lload_n hx hb dX5_valueAt_61 rfl (lv_at hl 3 rfl) ?_
  refine lv_lmul hx hb dX5_valueAt_62 ?_
  refine lv_lload hx hb dX5_valueAt_63 (lv_at hl 5 rfl) ?_
  refine lv_lmul hx hb dX5_valueAt_65 ?_
  refine lv_ladd hx hb dX5_valueAt_66 ?_
  refine lv_aload_n hx hb dX5_valueAt_67 rfl (lv_at hl 1 rfl) ?_
  refine va_get (D := D) (ci := 5) (v := .ref mC) (C := RX5) (T := TX5) (N := 17) hx hb hts k_2 hown hK.1 hP 0 rfl rfl 2 (by decide) k_1 (fun _ h9 => h9) rfl dX5_valueAt_68 ?_
  refine lv_iload hx hb dX5_valueAt_71 (lv_at hl 0 rfl) ?_
  refine lv_iconst (v := 4) hx hb dX5_valueAt_73 (by decide) ?_
  refine lv_iadd hx hb dX5_valueAt_74 ?_
  refine ld_i hx hb hK.1 hP 1 0 rfl rfl (ix6l hc 4 (by decide)) (((6 * c) + 4).toNatClampNeg) rfl (v := gc (((6 * c) + 4).toNatClampNeg)) rfl dX5_valueAt_75 ?_
  refine lv_i2l hx hb dX5_valueAt_76 rfl ?_
  refine lv_lload hx hb dX5_valueAt_77 (lv_at hl 4 rfl) ?_
  refine lv_lmul hx hb dX5_valueAt_79 ?_
  refine lv_lload hx hb dX5_valueAt_80 (lv_at hl 5 rfl) ?_
  refine lv_lmul hx hb dX5_valueAt_82 ?_
  refine lv_ladd hx hb dX5_valueAt_83 ?_
  refine lv_aload_n hx hb dX5_valueAt_84 rfl (lv_at hl 1 rfl) ?_
  refine va_get (D := D) (ci := 5) (v := .ref mC) (C := RX5) (T := TX5) (N := 17) hx hb hts k_2 hown hK.1 hP 0 rfl rfl 2 (by decide) k_1 (fun _ h9 => h9) rfl dX5_valueAt_85 ?_
  refine lv_iload hx hb dX5_valueAt_88 (lv_at hl 0 rfl) ?_
  refine lv_iconst (v := 5) hx hb dX5_valueAt_90 (by decide) ?_
  refine lv_iadd hx hb dX5_valueAt_91 ?_
  refine ld_i hx hb hK.1 hP 1 0 rfl rfl (ix6l hc 5 (by decide)) (((6 * c) + 5).toNatClampNeg) rfl (v := gc (((6 * c) + 5).toNatClampNeg)) rfl dX5_valueAt_92 ?_
  refine lv_i2l hx hb dX5_valueAt_93 rfl ?_
  refine lv_lload hx hb dX5_valueAt_94 (lv_at hl 5 rfl) ?_
  refine lv_lmul hx hb dX5_valueAt_96 ?_
  refine lv_lload hx hb dX5_valueAt_97 (lv_at hl 5 rfl) ?_
  refine lv_lmul hx hb dX5_valueAt_99 ?_
  refine lv_ladd hx hb dX5_valueAt_100 ?_
  exact rr_l hx hb hr hlk dX5_valueAt_101 rfl
def z5_valueOf_v1 (gc : Nat → Int32) (gp : Nat → Int32) (c : Int32) (p : Int32) : Int64 := z5_valueAt gc c ((gp ((3 * p).toNatClampNeg)).toInt64) ((gp (((3 * p) + 1).toNatClampNeg)).toInt64) ((gp (((3 * p) + 2).toNatClampNeg)).toInt64)
def z5_valueOf (gc : Nat → Int32) (gp : Nat → Int32) (c : Int32) (p : Int32) : Int64 := z5_valueOf_v1 gc gp c p
set_option maxHeartbeats 4000000 in
set_option maxRecDepth 100000 in
/-- X5.valueOf -/
theorem c_X5_valueOf (l : Launch) (D : va_G) (cI cJ : ClassId) (o : Nat) (mP : Nat) (mL : Nat) (mC : Nat) (mN : Nat) (mF : Nat) (mR : Nat) (mD : Nat) (mV : Nat) (mX : Nat) (mA : Nat) (mK : Nat) (mT : Nat) (mU : Nat) (mH : Nat) (mI : Nat) (cm : Int32) (pm : Int32) (gc : Nat → Int32) (gp : Nat → Int32) (c : Int32) (p : Int32) (hc : ok_i c) (hp : ok_i p) : mr_C l yX5_valueOf wsX5_valueOf ({ frames := 1, cells := 0, slots := 0, locals := 28 }) D cI cJ [.ref o, .int c, .int p] [kM o mP mL mC mN mF mR mD mV mX mA mK cm mT pm mU mH mI, kA mC cI 360 gc, kA mP cI 180 gp] (vp_Sl (fun r : Int64 => r = z5_valueOf gc gp c p)) := by
  refine mr_in (cc := cX5_valueOf) (lv := [(0, .ref o), (1, .int c), (2, .int p)]) (by decide) rfl (Nat.le_of_ble_eq_true rfl) rfl ?_
  intro pG eG sG mG below meth cG ls hx hb hr hml hown hts hlk hP hK hl
  have hown : sG.vm.findClass RX5 = some mG.cls := hown
  have k_1 := hts (.fieldLink RX5 7 "ConicRowsModel" "points" "[I") (by decide +kernel)
  have k_2 : ∀ w ∈ wsX50, w ∈ wsX5_valueOf := by decide +kernel
  refine lv_aload_n hx hb dX5_valueOf_0 rfl (lv_at hl 0 rfl) ?_
  refine lv_iload_n hx hb dX5_valueOf_1 rfl (lv_at hl 1 rfl) ?_
  refine lv_aload_n hx hb dX5_valueOf_2 rfl (lv_at hl 0 rfl) ?_
  refine va_get (D := D) (ci := 5) (v := .ref mP) (C := RX5) (T := TX5) (N := 17) hx hb hts k_2 hown hK.1 hP 0 rfl rfl 0 (by decide) k_1 (fun _ h9 => h9) rfl dX5_valueOf_3 ?_
  refine lv_iconst (v := 3) hx hb dX5_valueOf_6 (by decide) ?_
  refine lv_iload_n hx hb dX5_valueOf_7 rfl (lv_at hl 2 rfl) ?_
  refine lv_imul hx hb dX5_valueOf_8 ?_
  refine ld_i hx hb hK.1 hP 2 0 rfl rfl (ix3z hp) ((3 * p).toNatClampNeg) rfl (v := gp ((3 * p).toNatClampNeg)) rfl dX5_valueOf_9 ?_
  refine lv_i2l hx hb dX5_valueOf_10 rfl ?_
  refine lv_aload_n hx hb dX5_valueOf_11 rfl (lv_at hl 0 rfl) ?_
  refine va_get (D := D) (ci := 5) (v := .ref mP) (C := RX5) (T := TX5) (N := 17) hx hb hts k_2 hown hK.1 hP 0 rfl rfl 0 (by decide) k_1 (fun _ h9 => h9) rfl dX5_valueOf_12 ?_
  refine lv_iconst (v := 3) hx hb dX5_valueOf_15 (by decide) ?_
  refine lv_iload_n hx hb dX5_valueOf_16 rfl (lv_at hl 2 rfl) ?_
  refine lv_imul hx hb dX5_valueOf_17 ?_
  refine lv_iconst (v := 1) hx hb dX5_valueOf_18 (by decide) ?_
  refine lv_iadd hx hb dX5_valueOf_19 ?_
  refine ld_i hx hb hK.1 hP 2 0 rfl rfl (ix3l hp 1 (by decide)) (((3 * p) + 1).toNatClampNeg) rfl (v := gp (((3 * p) + 1).toNatClampNeg)) rfl dX5_valueOf_20 ?_
  refine lv_i2l hx hb dX5_valueOf_21 rfl ?_
  refine lv_aload_n hx hb dX5_valueOf_22 rfl (lv_at hl 0 rfl) ?_
  refine va_get (D := D) (ci := 5) (v := .ref mP) (C := RX5) (T := TX5) (N := 17) hx hb hts k_2 hown hK.1 hP 0 rfl rfl 0 (by decide) k_1 (fun _ h9 => h9) rfl dX5_valueOf_23 ?_
  refine lv_iconst (v := 3) hx hb dX5_valueOf_26 (by decide) ?_
  refine lv_iload_n hx hb dX5_valueOf_27 rfl (lv_at hl 2 rfl) ?_
  refine lv_imul hx hb dX5_valueOf_28 ?_
  refine lv_iconst (v := 2) hx hb dX5_valueOf_29 (by decide) ?_
  refine lv_iadd hx hb dX5_valueOf_30 ?_
  refine ld_i hx hb hK.1 hP 2 0 rfl rfl (ix3l hp 2 (by decide)) (((3 * p) + 2).toNatClampNeg) rfl (v := gp (((3 * p) + 2).toNatClampNeg)) rfl dX5_valueOf_31 ?_
  refine lv_i2l hx hb dX5_valueOf_32 rfl ?_
  have hPc := hP.sub (ws' := [kM o mP mL mC mN mF mR mD mV mX mA mK cm mT pm mU mH mI, kA mC cI 360 gc]) [0, 1] rfl
  refine cr_l (va_runV (As := [.int c, .long ((gp ((3 * p).toNatClampNeg)).toInt64), .long ((gp (((3 * p) + 1).toNatClampNeg)).toInt64), .long ((gp (((3 * p) + 2).toNatClampNeg)).toInt64)]) (rest := []) ⟨hx, hb, hml, hown, hts⟩ (c_X5_valueAt l D cI cJ o mP mL mC mN mF mR mD mV mX mA mK mT mU mH mI cm pm gc c ((gp ((3 * p).toNatClampNeg)).toInt64) ((gp (((3 * p) + 1).toNatClampNeg)).toInt64) ((gp (((3 * p) + 2).toNatClampNeg)).toInt64) hc) (cwV 4 hts gX5_valueOf_X5_valueAt rfl rfl rfl (by decide +kernel) ⟨Nat.le_of_ble_eq_true rfl, Nat.le_of_ble_eq_true rfl⟩) ⟨gd_blR, va_recv hK.1 hPc (ci := 5) (q0 := 0) rfl rfl, gd_prR hPc hK⟩ rfl rfl hl.1 rfl (lv_room (Nat.le_of_ble_eq_true rfl)) dX5_valueOf_33 ⟨Nat.zero_le _, Nat.zero_le _⟩) (fun r_33 hw => ?_)
  subst hw
  clear hPc
  refine lv_eql (v := z5_valueOf_v1 gc gp c p) (by delta z5_valueOf_v1; rfl) ?_
  exact rr_l hx hb hr hlk dX5_valueOf_36 rfl
def z5_on_v1 (gp : Nat → Int32) (gl : Nat → Int32) (i : Int32) (p : Int32) : Int64 := (0 + (((gl (((3 * i) + 0).toNatClampNeg)).toInt64) * ((gp (((3 * p) + 0).toNatClampNeg)).toInt64))) + (((gl (((3 * i) + 1).toNatClampNeg)).toInt64) * ((gp (((3 * p) + 1).toNatClampNeg)).toInt64))
def z5_on_v2 (gp : Nat → Int32) (gl : Nat → Int32) (i : Int32) (p : Int32) : Int64 := (z5_on_v1 gp gl i p) + (((gl (((3 * i) + 2).toNatClampNeg)).toInt64) * ((gp (((3 * p) + 2).toNatClampNeg)).toInt64))
def z5_on (gm : Nat → Int32) (gp : Nat → Int32) (gl : Nat → Int32) (gc : Nat → Int32) (s : Int32) (i : Int32) (p : Int32) : Int32 := if s = 1 then if (z5_isOf_1 gm i) = 0 then (-1000002) else if (z5_isOf_0 gm p) = 0 then (-1000002) else if (z5_on_v2 gp gl i p) = 0 then 1 else 0 else if s = 2 then if (z5_isOf_2 gm i) = 0 then (-1000002) else if (z5_isOf_0 gm p) = 0 then (-1000002) else if (z5_valueOf gc gp i p) = 0 then 1 else 0 else (-1000003)
set_option maxHeartbeats 4000000 in
set_option maxRecDepth 100000 in
/-- X5.on -/
theorem c_X5_on (l : Launch) (D : va_G) (cI cJ : ClassId) (o : Nat) (mP : Nat) (mL : Nat) (mC : Nat) (mN : Nat) (mF : Nat) (mR : Nat) (mD : Nat) (mV : Nat) (mX : Nat) (mA : Nat) (mK : Nat) (mT : Nat) (mU : Nat) (mH : Nat) (mI : Nat) (cm : Int32) (pm : Int32) (gm : Nat → Int32) (gp : Nat → Int32) (gl : Nat → Int32) (gc : Nat → Int32) (s : Int32) (i : Int32) (p : Int32) (hm0 : n_ok (gm 0)) (hm1 : n_ok (gm 1)) (hm2 : n_ok (gm 2)) : mr_C l yX5_on wsX5_on ({ frames := 2, cells := 0, slots := 0, locals := 50 }) D cI cJ [.ref o, .int s, .int i, .int p] [kM o mP mL mC mN mF mR mD mV mX mA mK cm mT pm mU mH mI, kA mN cI 3 gm, kA mP cI 180 gp, kA mL cI 180 gl, kA mC cI 360 gc] (vp_Si (fun r : Int32 => r = z5_on gm gp gl gc s i p)) := by
  refine mr_in (cc := cX5_on) (lv := [(0, .ref o), (1, .int s), (2, .int i), (3, .int p)]) (by decide) rfl (Nat.le_of_ble_eq_true rfl) rfl ?_
  intro pG eG sG mG below meth cG ls hx hb hr hml hown hts hlk hP hK hl
  have hown : sG.vm.findClass RX5 = some mG.cls := hown
  have k_1 := hts (.constantLong RX5 95 (2)) (by decide +kernel)
  have k_2 := hts (.constant RX5 101 (-1000002)) (by decide +kernel)
  have k_3 := hts (.fieldLink RX5 13 "ConicRowsModel" "lines" "[I") (by decide +kernel)
  have k_4 : ∀ w ∈ wsX50, w ∈ wsX5_on := by decide +kernel
  have k_5 := hts (.fieldLink RX5 7 "ConicRowsModel" "points" "[I") (by decide +kernel)
  have k_6 := hts (.constant RX5 86 (-1000003)) (by decide +kernel)
  by_cases c_1 : s = 1
  · subst c_1
    refine lv_iload_n hx hb dX5_on_0 rfl (lv_at hl 1 rfl) ?_
    refine lv_i2l (v := 1) hx hb dX5_on_1 (by decide) ?_
    refine lv_lconst (v := 1) hx hb dX5_on_2 (by decide) ?_
    refine lv_ldc2 hx hb hown k_1 dX5_on_3 ?_
    have hPc := hP.sub (ws' := []) [] rfl
    refine cr_i (va_runS (As := [.long 1, .long 1, .long 2]) (rest := []) ⟨hx, hb, hml, hown, hts⟩ (c_X5_in l D cI cJ 1 1 2) (va_cwS 3 hts gX5_on_X5_in rfl rfl rfl (by decide +kernel) ⟨Nat.le_of_ble_eq_true rfl, Nat.le_of_ble_eq_true rfl⟩) ⟨gd_blR, gd_prR hPc hK⟩ rfl rfl hl.1 rfl (lv_room (Nat.le_of_ble_eq_true rfl)) dX5_on_6 ⟨Nat.zero_le _, Nat.zero_le _⟩) (fun r_6 hw => ?_)
    subst hw
    clear hPc
    refine lv_eqi (v := 1) (by decide) ?_
    refine lv_if_ne (tgt := 15) hx hb dX5_on_9 (by decide) (fun _ => ?_) (fun h => absurd h (by decide))
    refine lv_aload_n hx hb dX5_on_15 rfl (lv_at hl 0 rfl) ?_
    refine lv_iload_n hx hb dX5_on_16 rfl (lv_at hl 1 rfl) ?_
    refine lv_iload_n hx hb dX5_on_17 rfl (lv_at hl 2 rfl) ?_
    have hPc := hP.sub (ws' := [kM o mP mL mC mN mF mR mD mV mX mA mK cm mT pm mU mH mI, kA mN cI 3 gm]) [0, 1] rfl
    refine cr_i (va_runV (As := [.int 1, .int i]) (rest := []) ⟨hx, hb, hml, hown, hts⟩ (c_X5_isOf_1 l D cI cJ o mP mL mC mN mF mR mD mV mX mA mK mT mU mH mI cm pm gm i) (cwV 2 hts gX5_on_X5_isOf rfl rfl rfl (by decide +kernel) ⟨Nat.le_of_ble_eq_true rfl, Nat.le_of_ble_eq_true rfl⟩) ⟨gd_blR, va_recv hK.1 hPc (ci := 5) (q0 := 0) rfl rfl, gd_prR hPc hK⟩ rfl rfl hl.1 rfl (lv_room (Nat.le_of_ble_eq_true rfl)) dX5_on_18 ⟨Nat.zero_le _, Nat.zero_le _⟩) (fun r_18 hw => ?_)
    subst hw
    clear hPc
    refine lv_if_eq (tgt := 33) hx hb dX5_on_21 (by decide) (fun c_2 => ?_) (fun c_2 => ?_)
    · skip
      refine lv_ldc hx hb hown k_2 dX5_on_33 ?_
      have he : z5_on gm gp gl gc 1 i p = (-1000002) := by unfold z5_on; rw [if_pos rfl, if_pos c_2]
      exact rr_i hx hb hr hlk dX5_on_35 he.symm
    · skip
      refine lv_aload_n hx hb dX5_on_24 rfl (lv_at hl 0 rfl) ?_
      refine lv_iconst (v := 0) hx hb dX5_on_25 (by decide) ?_
      refine lv_iload_n hx hb dX5_on_26 rfl (lv_at hl 3 rfl) ?_
      have hPc := hP.sub (ws' := [kM o mP mL mC mN mF mR mD mV mX mA mK cm mT pm mU mH mI, kA mN cI 3 gm]) [0, 1] rfl
      refine cr_i (va_runV (As := [.int 0, .int p]) (rest := []) ⟨hx, hb, hml, hown, hts⟩ (c_X5_isOf_0 l D cI cJ o mP mL mC mN mF mR mD mV mX mA mK mT mU mH mI cm pm gm p) (cwV 2 hts gX5_on_X5_isOf rfl rfl rfl (by decide +kernel) ⟨Nat.le_of_ble_eq_true rfl, Nat.le_of_ble_eq_true rfl⟩) ⟨gd_blR, va_recv hK.1 hPc (ci := 5) (q0 := 0) rfl rfl, gd_prR hPc hK⟩ rfl rfl hl.1 rfl (lv_room (Nat.le_of_ble_eq_true rfl)) dX5_on_27 ⟨Nat.zero_le _, Nat.zero_le _⟩) (fun r_27 hw => ?_)
      subst hw
      clear hPc
      refine lv_if_ne (tgt := 36) hx hb dX5_on_30 (by decide) (fun c_3 => ?_) (fun c_3 => ?_)
      · skip
        refine lv_lconst (v := 0) hx hb dX5_on_36 (by decide) ?_
        refine lv_lstore (lv' := [(4, .long 0), (0, .ref o), (1, .int 1), (2, .int i), (3, .int p)]) hx hb dX5_on_37 hl (by decide) rfl (fun ls hl => ?_)
        refine lv_iconst (v := 0) hx hb dX5_on_39 (by decide) ?_
        refine lv_istore (lv' := [(6, .int 0), (4, .long 0), (0, .ref o), (1, .int 1), (2, .int i), (3, .int p)]) hx hb dX5_on_40 hl (by decide) rfl (fun ls hl => ?_)
        refine lv_iload hx hb dX5_on_42 (lv_at hl 0 rfl) ?_
        refine lv_iconst (v := 3) hx hb dX5_on_44 (by decide) ?_
        refine lv_icmp_ge (tgt := 89) hx hb dX5_on_45 (by decide) (fun h => absurd h (by decide)) (fun _ => ?_)
        refine lv_iload_n hx hb dX5_on_48 rfl (lv_at hl 3 rfl) ?_
        refine lv_iconst (v := 1) hx hb dX5_on_49 (by decide) ?_
        refine lv_icmp_ne (tgt := 89) hx hb dX5_on_50 (by decide) (fun h => absurd (by decide) h) (fun _ => ?_)
        refine lv_lload hx hb dX5_on_53 (lv_at hl 1 rfl) ?_
        refine lv_aload_n hx hb dX5_on_55 rfl (lv_at hl 2 rfl) ?_
        refine va_get (D := D) (ci := 5) (v := .ref mL) (C := RX5) (T := TX5) (N := 17) hx hb hts k_4 hown hK.1 hP 0 rfl rfl 1 (by decide) k_3 (fun _ h9 => h9) rfl dX5_on_56 ?_
        refine lv_iconst (v := 3) hx hb dX5_on_59 (by decide) ?_
        refine lv_iload_n hx hb dX5_on_60 rfl (lv_at hl 4 rfl) ?_
        refine lv_imul hx hb dX5_on_61 ?_
        refine lv_iload hx hb dX5_on_62 (lv_at hl 0 rfl) ?_
        refine lv_iadd hx hb dX5_on_64 ?_
        refine ld_i hx hb hK.1 hP 3 0 rfl rfl (ix3l (ok_of hm1 c_2) 0 (by decide)) (((3 * i) + 0).toNatClampNeg) rfl (v := gl (((3 * i) + 0).toNatClampNeg)) rfl dX5_on_65 ?_
        refine lv_i2l hx hb dX5_on_66 rfl ?_
        refine lv_aload_n hx hb dX5_on_67 rfl (lv_at hl 2 rfl) ?_
        refine va_get (D := D) (ci := 5) (v := .ref mP) (C := RX5) (T := TX5) (N := 17) hx hb hts k_4 hown hK.1 hP 0 rfl rfl 0 (by decide) k_5 (fun _ h9 => h9) rfl dX5_on_68 ?_
        refine lv_iconst (v := 3) hx hb dX5_on_71 (by decide) ?_
        refine lv_iload_n hx hb dX5_on_72 rfl (lv_at hl 5 rfl) ?_
        refine lv_imul hx hb dX5_on_73 ?_
        refine lv_iload hx hb dX5_on_74 (lv_at hl 0 rfl) ?_
        refine lv_iadd hx hb dX5_on_76 ?_
        refine ld_i hx hb hK.1 hP 2 0 rfl rfl (ix3l (ok_of hm0 c_3) 0 (by decide)) (((3 * p) + 0).toNatClampNeg) rfl (v := gp (((3 * p) + 0).toNatClampNeg)) rfl dX5_on_77 ?_
        refine lv_i2l hx hb dX5_on_78 rfl ?_
        refine lv_lmul hx hb dX5_on_79 ?_
        refine lv_ladd hx hb dX5_on_80 ?_
        refine lv_lstore (lv' := [(4, .long (0 + (((gl (((3 * i) + 0).toNatClampNeg)).toInt64) * ((gp (((3 * p) + 0).toNatClampNeg)).toInt64)))), (6, .int 0), (0, .ref o), (1, .int 1), (2, .int i), (3, .int p)]) hx hb dX5_on_81 hl (by decide) rfl (fun ls hl => ?_)
        refine lv_iinc (v := 1) (lv' := [(6, .int 1), (4, .long (0 + (((gl (((3 * i) + 0).toNatClampNeg)).toInt64) * ((gp (((3 * p) + 0).toNatClampNeg)).toInt64)))), (0, .ref o), (1, .int 1), (2, .int i), (3, .int p)]) hx hb dX5_on_83 hl (k := 1) rfl (by decide) (by decide) rfl (fun ls hl => ?_)
        refine lv_goto (tgt := 42) hx hb dX5_on_86 (by decide) ?_
        refine lv_iload hx hb dX5_on_42 (lv_at hl 0 rfl) ?_
        refine lv_iconst (v := 3) hx hb dX5_on_44 (by decide) ?_
        refine lv_icmp_ge (tgt := 89) hx hb dX5_on_45 (by decide) (fun h => absurd h (by decide)) (fun _ => ?_)
        refine lv_iload_n hx hb dX5_on_48 rfl (lv_at hl 3 rfl) ?_
        refine lv_iconst (v := 1) hx hb dX5_on_49 (by decide) ?_
        refine lv_icmp_ne (tgt := 89) hx hb dX5_on_50 (by decide) (fun h => absurd (by decide) h) (fun _ => ?_)
        refine lv_lload hx hb dX5_on_53 (lv_at hl 1 rfl) ?_
        refine lv_aload_n hx hb dX5_on_55 rfl (lv_at hl 2 rfl) ?_
        refine va_get (D := D) (ci := 5) (v := .ref mL) (C := RX5) (T := TX5) (N := 17) hx hb hts k_4 hown hK.1 hP 0 rfl rfl 1 (by decide) k_3 (fun _ h9 => h9) rfl dX5_on_56 ?_
        refine lv_iconst (v := 3) hx hb dX5_on_59 (by decide) ?_
        refine lv_iload_n hx hb dX5_on_60 rfl (lv_at hl 4 rfl) ?_
        refine lv_imul hx hb dX5_on_61 ?_
        refine lv_iload hx hb dX5_on_62 (lv_at hl 0 rfl) ?_
        refine lv_iadd hx hb dX5_on_64 ?_
        refine ld_i hx hb hK.1 hP 3 0 rfl rfl (ix3l (ok_of hm1 c_2) 1 (by decide)) (((3 * i) + 1).toNatClampNeg) rfl (v := gl (((3 * i) + 1).toNatClampNeg)) rfl dX5_on_65 ?_
        refine lv_i2l hx hb dX5_on_66 rfl ?_
        refine lv_aload_n hx hb dX5_on_67 rfl (lv_at hl 2 rfl) ?_
        refine va_get (D := D) (ci := 5) (v := .ref mP) (C := RX5) (T := TX5) (N := 17) hx hb hts k_4 hown hK.1 hP 0 rfl rfl 0 (by decide) k_5 (fun _ h9 => h9) rfl dX5_on_68 ?_
        refine lv_iconst (v := 3) hx hb dX5_on_71 (by decide) ?_
        refine lv_iload_n hx hb dX5_on_72 rfl (lv_at hl 5 rfl) ?_
        refine lv_imul hx hb dX5_on_73 ?_
        refine lv_iload hx hb dX5_on_74 (lv_at hl 0 rfl) ?_
        refine lv_iadd hx hb dX5_on_76 ?_
        refine ld_i hx hb hK.1 hP 2 0 rfl rfl (ix3l (ok_of hm0 c_3) 1 (by decide)) (((3 * p) + 1).toNatClampNeg) rfl (v := gp (((3 * p) + 1).toNatClampNeg)) rfl dX5_on_77 ?_
        refine lv_i2l hx hb dX5_on_78 rfl ?_
        refine lv_lmul hx hb dX5_on_79 ?_
        refine lv_ladd hx hb dX5_on_80 ?_
        refine lv_eql (v := z5_on_v1 gp gl i p) (by delta z5_on_v1; rfl) ?_
        refine lv_lstore (lv' := [(4, .long (z5_on_v1 gp gl i p)), (6, .int 1), (0, .ref o), (1, .int 1), (2, .int i), (3, .int p)]) hx hb dX5_on_81 hl (by decide) rfl (fun ls hl => ?_)
        refine lv_iinc (v := 2) (lv' := [(6, .int 2), (4, .long (z5_on_v1 gp gl i p)), (0, .ref o), (1, .int 1), (2, .int i), (3, .int p)]) hx hb dX5_on_83 hl (k := 1) rfl (by decide) (by decide) rfl (fun ls hl => ?_)
        refine lv_goto (tgt := 42) hx hb dX5_on_86 (by decide) ?_
        refine lv_iload hx hb dX5_on_42 (lv_at hl 0 rfl) ?_
        refine lv_iconst (v := 3) hx hb dX5_on_44 (by decide) ?_
        refine lv_icmp_ge (tgt := 89) hx hb dX5_on_45 (by decide) (fun h => absurd h (by decide)) (fun _ => ?_)
        refine lv_iload_n hx hb dX5_on_48 rfl (lv_at hl 3 rfl) ?_
        refine lv_iconst (v := 1) hx hb dX5_on_49 (by decide) ?_
        refine lv_icmp_ne (tgt := 89) hx hb dX5_on_50 (by decide) (fun h => absurd (by decide) h) (fun _ => ?_)
        refine lv_lload hx hb dX5_on_53 (lv_at hl 1 rfl) ?_
        refine lv_aload_n hx hb dX5_on_55 rfl (lv_at hl 2 rfl) ?_
        refine va_get (D := D) (ci := 5) (v := .ref mL) (C := RX5) (T := TX5) (N := 17) hx hb hts k_4 hown hK.1 hP 0 rfl rfl 1 (by decide) k_3 (fun _ h9 => h9) rfl dX5_on_56 ?_
        refine lv_iconst (v := 3) hx hb dX5_on_59 (by decide) ?_
        refine lv_iload_n hx hb dX5_on_60 rfl (lv_at hl 4 rfl) ?_
        refine lv_imul hx hb dX5_on_61 ?_
        refine lv_iload hx hb dX5_on_62 (lv_at hl 0 rfl) ?_
        refine lv_iadd hx hb dX5_on_64 ?_
        refine ld_i hx hb hK.1 hP 3 0 rfl rfl (ix3l (ok_of hm1 c_2) 2 (by decide)) (((3 * i) + 2).toNatClampNeg) rfl (v := gl (((3 * i) + 2).toNatClampNeg)) rfl dX5_on_65 ?_
        refine lv_i2l hx hb dX5_on_66 rfl ?_
        refine lv_aload_n hx hb dX5_on_67 rfl (lv_at hl 2 rfl) ?_
        refine va_get (D := D) (ci := 5) (v := .ref mP) (C := RX5) (T := TX5) (N := 17) hx hb hts k_4 hown hK.1 hP 0 rfl rfl 0 (by decide) k_5 (fun _ h9 => h9) rfl dX5_on_68 ?_
        refine lv_iconst (v := 3) hx hb dX5_on_71 (by decide) ?_
        refine lv_iload_n hx hb dX5_on_72 rfl (lv_at hl 5 rfl) ?_
        refine lv_imul hx hb dX5_on_73 ?_
        refine lv_iload hx hb dX5_on_74 (lv_at hl 0 rfl) ?_
        refine lv_iadd hx hb dX5_on_76 ?_
        refine ld_i hx hb hK.1 hP 2 0 rfl rfl (ix3l (ok_of hm0 c_3) 2 (by decide)) (((3 * p) + 2).toNatClampNeg) rfl (v := gp (((3 * p) + 2).toNatClampNeg)) rfl dX5_on_77 ?_
        refine lv_i2l hx hb dX5_on_78 rfl ?_
        refine lv_lmul hx hb dX5_on_79 ?_
        refine lv_ladd hx hb dX5_on_80 ?_
        refine lv_eql (v := z5_on_v2 gp gl i p) (by delta z5_on_v2; rfl) ?_
        refine lv_lstore (lv' := [(4, .long (z5_on_v2 gp gl i p)), (6, .int 2), (0, .ref o), (1, .int 1), (2, .int i), (3, .int p)]) hx hb dX5_on_81 hl (by decide) rfl (fun ls hl => ?_)
        refine lv_iinc (v := 3) (lv' := [(6, .int 3), (4, .long (z5_on_v2 gp gl i p)), (0, .ref o), (1, .int 1), (2, .int i), (3, .int p)]) hx hb dX5_on_83 hl (k := 1) rfl (by decide) (by decide) rfl (fun ls hl => ?_)
        refine lv_goto (tgt := 42) hx hb dX5_on_86 (by decide) ?_
        refine lv_iload hx hb dX5_on_42 (lv_at hl 0 rfl) ?_
        refine lv_iconst (v := 3) hx hb dX5_on_44 (by decide) ?_
        refine lv_icmp_ge (tgt := 89) hx hb dX5_on_45 (by decide) (fun _ => ?_) (fun h => absurd (by decide) h)
        refine lv_iload_n hx hb dX5_on_89 rfl (lv_at hl 3 rfl) ?_
        refine lv_iconst (v := 2) hx hb dX5_on_90 (by decide) ?_
        refine lv_icmp_ne (tgt := 103) hx hb dX5_on_91 (by decide) (fun _ => ?_) (fun h => absurd h (by decide))
        refine lv_lload hx hb dX5_on_103 (lv_at hl 1 rfl) ?_
        refine lv_lstore (lv' := [(4, .long (z5_on_v2 gp gl i p)), (6, .int 3), (0, .ref o), (1, .int 1), (2, .int i), (3, .int p)]) hx hb dX5_on_105 hl (by decide) rfl (fun ls hl => ?_)
        refine lv_lload hx hb dX5_on_107 (lv_at hl 0 rfl) ?_
        refine lv_lconst (v := 0) hx hb dX5_on_109 (by decide) ?_
        refine lb_ne (tgt := 118) hx hb dX5_on_110 rfl dX5_on_111 (by decide) (fun c_4 => ?_) (fun c_4 => ?_)
        · skip
          refine lv_iconst (v := 0) hx hb dX5_on_118 (by decide) ?_
          have he : z5_on gm gp gl gc 1 i p = 0 := by unfold z5_on; rw [if_pos rfl, if_neg c_2, if_neg c_3, if_neg c_4]
          exact rr_i hx hb hr hlk dX5_on_119 he.symm
        · skip
          refine lv_iconst (v := 1) hx hb dX5_on_114 (by decide) ?_
          refine lv_goto (tgt := 119) hx hb dX5_on_115 (by decide) ?_
          have he : z5_on gm gp gl gc 1 i p = 1 := by unfold z5_on; rw [if_pos rfl, if_neg c_2, if_neg c_3, if_pos c_4]
          exact rr_i hx hb hr hlk dX5_on_119 he.symm
      · skip
        refine lv_ldc hx hb hown k_2 dX5_on_33 ?_
        have he : z5_on gm gp gl gc 1 i p = (-1000002) := by unfold z5_on; rw [if_pos rfl, if_neg c_2, if_pos c_3]
        exact rr_i hx hb hr hlk dX5_on_35 he.symm
  · skip
    by_cases c_5 : s = 2
    · subst c_5
      refine lv_iload_n hx hb dX5_on_0 rfl (lv_at hl 1 rfl) ?_
      refine lv_i2l (v := 2) hx hb dX5_on_1 (by decide) ?_
      refine lv_lconst (v := 1) hx hb dX5_on_2 (by decide) ?_
      refine lv_ldc2 hx hb hown k_1 dX5_on_3 ?_
      have hPc := hP.sub (ws' := []) [] rfl
      refine cr_i (va_runS (As := [.long 2, .long 1, .long 2]) (rest := []) ⟨hx, hb, hml, hown, hts⟩ (c_X5_in l D cI cJ 2 1 2) (va_cwS 3 hts gX5_on_X5_in rfl rfl rfl (by decide +kernel) ⟨Nat.le_of_ble_eq_true rfl, Nat.le_of_ble_eq_true rfl⟩) ⟨gd_blR, gd_prR hPc hK⟩ rfl rfl hl.1 rfl (lv_room (Nat.le_of_ble_eq_true rfl)) dX5_on_6 ⟨Nat.zero_le _, Nat.zero_le _⟩) (fun r_6 hw => ?_)
      subst hw
      clear hPc
      refine lv_eqi (v := 1) (by decide) ?_
      refine lv_if_ne (tgt := 15) hx hb dX5_on_9 (by decide) (fun _ => ?_) (fun h => absurd h (by decide))
      refine lv_aload_n hx hb dX5_on_15 rfl (lv_at hl 0 rfl) ?_
      refine lv_iload_n hx hb dX5_on_16 rfl (lv_at hl 1 rfl) ?_
      refine lv_iload_n hx hb dX5_on_17 rfl (lv_at hl 2 rfl) ?_
      have hPc := hP.sub (ws' := [kM o mP mL mC mN mF mR mD mV mX mA mK cm mT pm mU mH mI, kA mN cI 3 gm]) [0, 1] rfl
      refine cr_i (va_runV (As := [.int 2, .int i]) (rest := []) ⟨hx, hb, hml, hown, hts⟩ (c_X5_isOf_2 l D cI cJ o mP mL mC mN mF mR mD mV mX mA mK mT mU mH mI cm pm gm i) (cwV 2 hts gX5_on_X5_isOf rfl rfl rfl (by decide +kernel) ⟨Nat.le_of_ble_eq_true rfl, Nat.le_of_ble_eq_true rfl⟩) ⟨gd_blR, va_recv hK.1 hPc (ci := 5) (q0 := 0) rfl rfl, gd_prR hPc hK⟩ rfl rfl hl.1 rfl (lv_room (Nat.le_of_ble_eq_true rfl)) dX5_on_18 ⟨Nat.zero_le _, Nat.zero_le _⟩) (fun r_18 hw => ?_)
      subst hw
      clear hPc
      refine lv_if_eq (tgt := 33) hx hb dX5_on_21 (by decide) (fun c_6 => ?_) (fun c_6 => ?_)
      · skip
        refine lv_ldc hx hb hown k_2 dX5_on_33 ?_
        have he : z5_on gm gp gl gc 2 i p = (-1000002) := by unfold z5_on; rw [if_neg c_1, if_pos rfl, if_pos c_6]
        exact rr_i hx hb hr hlk dX5_on_35 he.symm
      · skip
        refine lv_aload_n hx hb dX5_on_24 rfl (lv_at hl 0 rfl) ?_
        refine lv_iconst (v := 0) hx hb dX5_on_25 (by decide) ?_
        refine lv_iload_n hx hb dX5_on_26 rfl (lv_at hl 3 rfl) ?_
        have hPc := hP.sub (ws' := [kM o mP mL mC mN mF mR mD mV mX mA mK cm mT pm mU mH mI, kA mN cI 3 gm]) [0, 1] rfl
        refine cr_i (va_runV (As := [.int 0, .int p]) (rest := []) ⟨hx, hb, hml, hown, hts⟩ (c_X5_isOf_0 l D cI cJ o mP mL mC mN mF mR mD mV mX mA mK mT mU mH mI cm pm gm p) (cwV 2 hts gX5_on_X5_isOf rfl rfl rfl (by decide +kernel) ⟨Nat.le_of_ble_eq_true rfl, Nat.le_of_ble_eq_true rfl⟩) ⟨gd_blR, va_recv hK.1 hPc (ci := 5) (q0 := 0) rfl rfl, gd_prR hPc hK⟩ rfl rfl hl.1 rfl (lv_room (Nat.le_of_ble_eq_true rfl)) dX5_on_27 ⟨Nat.zero_le _, Nat.zero_le _⟩) (fun r_27 hw => ?_)
        subst hw
        clear hPc
        refine lv_if_ne (tgt := 36) hx hb dX5_on_30 (by decide) (fun c_7 => ?_) (fun c_7 => ?_)
        · skip
          refine lv_lconst (v := 0) hx hb dX5_on_36 (by decide) ?_
          refine lv_lstore (lv' := [(4, .long 0), (0, .ref o), (1, .int 2), (2, .int i), (3, .int p)]) hx hb dX5_on_37 hl (by decide) rfl (fun ls hl => ?_)
          refine lv_iconst (v := 0) hx hb dX5_on_39 (by decide) ?_
          refine lv_istore (lv' := [(6, .int 0), (4, .long 0), (0, .ref o), (1, .int 2), (2, .int i), (3, .int p)]) hx hb dX5_on_40 hl (by decide) rfl (fun ls hl => ?_)
          refine lv_iload hx hb dX5_on_42 (lv_at hl 0 rfl) ?_
          refine lv_iconst (v := 3) hx hb dX5_on_44 (by decide) ?_
          refine lv_icmp_ge (tgt := 89) hx hb dX5_on_45 (by decide) (fun h => absurd h (by decide)) (fun _ => ?_)
          refine lv_iload_n hx hb dX5_on_48 rfl (lv_at hl 3 rfl) ?_
          refine lv_iconst (v := 1) hx hb dX5_on_49 (by decide) ?_
          refine lv_icmp_ne (tgt := 89) hx hb dX5_on_50 (by decide) (fun _ => ?_) (fun h => absurd h (by decide))
          refine lv_iload_n hx hb dX5_on_89 rfl (lv_at hl 3 rfl) ?_
          refine lv_iconst (v := 2) hx hb dX5_on_90 (by decide) ?_
          refine lv_icmp_ne (tgt := 103) hx hb dX5_on_91 (by decide) (fun h => absurd (by decide) h) (fun _ => ?_)
          refine lv_aload_n hx hb dX5_on_94 rfl (lv_at hl 2 rfl) ?_
          refine lv_iload_n hx hb dX5_on_95 rfl (lv_at hl 4 rfl) ?_
          refine lv_iload_n hx hb dX5_on_96 rfl (lv_at hl 5 rfl) ?_
          have hPc := hP.sub (ws' := [kM o mP mL mC mN mF mR mD mV mX mA mK cm mT pm mU mH mI, kA mC cI 360 gc, kA mP cI 180 gp]) [0, 4, 2] rfl
          refine cr_l (va_runV (As := [.int i, .int p]) (rest := []) ⟨hx, hb, hml, hown, hts⟩ (c_X5_valueOf l D cI cJ o mP mL mC mN mF mR mD mV mX mA mK mT mU mH mI cm pm gc gp i p (ok_of hm2 c_6) (ok_of hm0 c_7)) (cwV 2 hts gX5_on_X5_valueOf rfl rfl rfl (by decide +kernel) ⟨Nat.le_of_ble_eq_true rfl, Nat.le_of_ble_eq_true rfl⟩) ⟨gd_blR, va_recv hK.1 hPc (ci := 5) (q0 := 0) rfl rfl, gd_prR hPc hK⟩ rfl rfl hl.1 rfl (lv_room (Nat.le_of_ble_eq_true rfl)) dX5_on_97 ⟨Nat.zero_le _, Nat.zero_le _⟩) (fun r_97 hw => ?_)
          subst hw
          clear hPc
          refine lv_goto (tgt := 105) hx hb dX5_on_100 (by decide) ?_
          refine lv_lstore (lv' := [(4, .long (z5_valueOf gc gp i p)), (6, .int 0), (0, .ref o), (1, .int 2), (2, .int i), (3, .int p)]) hx hb dX5_on_105 hl (by decide) rfl (fun ls hl => ?_)
          refine lv_lload hx hb dX5_on_107 (lv_at hl 0 rfl) ?_
          refine lv_lconst (v := 0) hx hb dX5_on_109 (by decide) ?_
          refine lb_ne (tgt := 118) hx hb dX5_on_110 rfl dX5_on_111 (by decide) (fun c_8 => ?_) (fun c_8 => ?_)
          · skip
            refine lv_iconst (v := 0) hx hb dX5_on_118 (by decide) ?_
            have he : z5_on gm gp gl gc 2 i p = 0 := by unfold z5_on; rw [if_neg c_1, if_pos rfl, if_neg c_6, if_neg c_7, if_neg c_8]
            exact rr_i hx hb hr hlk dX5_on_119 he.symm
          · skip
            refine lv_iconst (v := 1) hx hb dX5_on_114 (by decide) ?_
            refine lv_goto (tgt := 119) hx hb dX5_on_115 (by decide) ?_
            have he : z5_on gm gp gl gc 2 i p = 1 := by unfold z5_on; rw [if_neg c_1, if_pos rfl, if_neg c_6, if_neg c_7, if_pos c_8]
            exact rr_i hx hb hr hlk dX5_on_119 he.symm
        · skip
          refine lv_ldc hx hb hown k_2 dX5_on_33 ?_
          have he : z5_on gm gp gl gc 2 i p = (-1000002) := by unfold z5_on; rw [if_neg c_1, if_pos rfl, if_neg c_6, if_pos c_7]
          exact rr_i hx hb hr hlk dX5_on_35 he.symm
    · skip
      refine lv_iload_n hx hb dX5_on_0 rfl (lv_at hl 1 rfl) ?_
      refine lv_i2l hx hb dX5_on_1 rfl ?_
      refine lv_lconst (v := 1) hx hb dX5_on_2 (by decide) ?_
      refine lv_ldc2 hx hb hown k_1 dX5_on_3 ?_
      have hPc := hP.sub (ws' := []) [] rfl
      refine cr_i (va_runS (As := [.long s.toInt64, .long 1, .long 2]) (rest := []) ⟨hx, hb, hml, hown, hts⟩ (c_X5_in l D cI cJ s.toInt64 1 2) (va_cwS 3 hts gX5_on_X5_in rfl rfl rfl (by decide +kernel) ⟨Nat.le_of_ble_eq_true rfl, Nat.le_of_ble_eq_true rfl⟩) ⟨gd_blR, gd_prR hPc hK⟩ rfl rfl hl.1 rfl (lv_room (Nat.le_of_ble_eq_true rfl)) dX5_on_6 ⟨Nat.zero_le _, Nat.zero_le _⟩) (fun r_6 hw => ?_)
      subst hw
      clear hPc
      refine lv_if_ne (tgt := 15) hx hb dX5_on_9 (by decide) (fun h => absurd (in_out2 c_1 c_5) h) (fun _ => ?_)
      refine lv_ldc hx hb hown k_6 dX5_on_12 ?_
      have he : z5_on gm gp gl gc s i p = (-1000003) := by unfold z5_on; rw [if_neg c_1, if_neg c_5]
      exact rr_i hx hb hr hlk dX5_on_14 he.symm
