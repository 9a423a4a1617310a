-- laid by wip/whole/gen
def z4_point (np : Int32) (gp : Nat → Int32) (x : Int32) (y : Int32) (z : Int32) : Int32 := (z4_keepGiven 3 np gp x y z).1
def z4_point_size1 (np : Int32) (gp : Nat → Int32) (x : Int32) (y : Int32) (z : Int32) : Int32 := (z4_keepGiven 3 np gp x y z).2.1
def z4_point_f2 (np : Int32) (gp : Nat → Int32) (x : Int32) (y : Int32) (z : Int32) : Nat → Int32 := (z4_keepGiven 3 np gp x y z).2.2
set_option maxHeartbeats 4000000 in
set_option maxRecDepth 100000 in
/-- X4.point -/
theorem c_X4_point (l : Launch) (D : va_G) (cI cJ : ClassId) (o : Nat) (oP : Nat) (oL : Nat) (oC : Nat) (oX : Nat) (oY : Nat) (oF : Nat) (oS : Nat) (oT : Nat) (oM : Nat) (fL : Nat) (fR : Nat) (fN : Nat) (fM : Nat) (oR : Nat) (qp : Nat) (np : Int32) (gp : Nat → Int32) (x4 : Int64) (y4 : Int64) (z4 : Int64) (x : Int32) (y : Int32) (z : Int32) (hsp : sh_ok 3 180 np) : mw_C l yX4_point wsX4_point ({ frames := 4, cells := 0, slots := 0, locals := 97 }) D cI cJ [.ref o, .int x, .int y, .int z] [kC o oP oL oC oX oY oF oS oT oM fL fR fN fM oR, kS oP 3 qp np, kA qp cI 180 gp, kT oM x4 y4 z4] (qe_i (fun (r : Int32) (_ : Int64 × Int64 × Int64) => r = z4_point np gp x y z) (fun uu => [kC o oP oL oC oX oY oF oS oT oM fL fR fN fM oR, kS oP 3 qp (z4_point_size1 np gp x y z), kA qp cI 180 (z4_point_f2 np gp x y z), kT oM uu.1 uu.2.1 uu.2.2])) := by
  refine mw_in (cc := cX4_point) (lv := [(0, .ref o), (1, .int x), (2, .int y), (3, .int z)]) (by decide) rfl (Nat.le_of_ble_eq_true rfl) rfl ?_
  intro pG eG sG mG below meth cG ls A hx hb hr hml hown hts hlk hin hP hK hD hA hS hl
  have hown : sG.vm.findClass RX4 = some mG.cls := hown
  have k_1 := hts (.fieldLink RX4 14 "ConicRows" "points" "LConicRows$Shelf;") (by decide +kernel)
  have k_2 : ∀ w ∈ wsX40, w ∈ wsX4_point := by decide +kernel
  refine lv_aload_n hx hb dX4_point_0 rfl (lv_at hl 0 rfl) ?_
  refine lv_aload_n hx hb dX4_point_1 rfl (lv_at hl 0 rfl) ?_
  refine va_get (D := D) (ci := 4) (v := .ref oP) (C := RX4) (T := TX4) (N := 14) hx hb hts k_2 hown hK.1 hP 0 rfl rfl 0 (by decide) k_1 (fun _ h9 => h9) rfl dX4_point_2 ?_
  refine lv_iload_n hx hb dX4_point_5 rfl (lv_at hl 1 rfl) ?_
  refine lv_iload_n hx hb dX4_point_6 rfl (lv_at hl 2 rfl) ?_
  refine lv_iload_n hx hb dX4_point_7 rfl (lv_at hl 3 rfl) ?_
  have hPc := hP.sub (ws' := [kC o oP oL oC oX oY oF oS oT oM fL fR fN fM oR, kS oP 3 qp np, kA qp cI 180 gp, kT oM x4 y4 z4]) [0, 1, 2, 3] rfl
  have hDc := hD.sub (ws' := [kC o oP oL oC oX oY oF oS oT oM fL fR fN fM oR, kS oP 3 qp np, kA qp cI 180 gp, kT oM x4 y4 z4]) [0, 1, 2, 3] (by decide) rfl
  refine cl_i (wc := [kC o oP oL oC oX oY oF oS oT oM fL fR fN fM oR, kS oP 3 qp np, kA qp cI 180 gp, kT oM x4 y4 z4]) (wr := []) (w1 := fun uu : Int64 × Int64 × Int64 => [kC o oP oL oC oX oY oF oS oT oM fL fR fN fM oR, kS oP 3 qp ((z4_keepGiven 3 np gp x y z).2.1), kA qp cI 180 ((z4_keepGiven 3 np gp x y z).2.2), kT oM uu.1 uu.2.1 uu.2.2]) (wn := fun uu : Int64 × Int64 × Int64 => [kC o oP oL oC oX oY oF oS oT oM fL fR fN fM oR, kS oP 3 qp ((z4_keepGiven 3 np gp x y z).2.1), kA qp cI 180 ((z4_keepGiven 3 np gp x y z).2.2), kT oM uu.1 uu.2.1 uu.2.2]) (va_runV (As := [.ref oP, .int x, .int y, .int z]) (rest := []) ⟨hx, hb, hml, hown, hts⟩ (c_X4_keepGiven l D cI cJ o oP oL oC oX oY oF oS oT oM fL fR fN fM oR oP qp 180 3 np gp x4 y4 z4 x y z hsp _) (cwV 4 hts gX4_point_X4_keepGiven rfl rfl rfl (by decide +kernel) ⟨Nat.le_of_ble_eq_true rfl, Nat.le_of_ble_eq_true rfl⟩) ⟨gd_blP, va_recv hK.1 hPc (ci := 4) (q0 := 0) rfl rfl, gd_prP hPc hK hDc⟩ rfl rfl hl.1 rfl (lv_room (Nat.le_of_ble_eq_true rfl)) dX4_point_8 ⟨Nat.zero_le _, Nat.zero_le _⟩) hP hD hS hA [0, 1, 2, 3] [] rfl rfl (by decide) (by decide) [0, 1, 2, 3] (by decide) (fun _ => rfl) (fun r_8 uG H locs hw hP hD hS => ?_)
  obtain ⟨y_8_0_1, y_8_1_2, y_8_2_3⟩ := uG
  have hP : va_P D vwCl [kC o oP oL oC oX oY oF oS oT oM fL fR fN fM oR, kS oP 3 qp ((z4_keepGiven 3 np gp x y z).2.1), kA qp cI 180 ((z4_keepGiven 3 np gp x y z).2.2), kT oM y_8_0_1 y_8_1_2 y_8_2_3] H := hP
  have hD : va_D A [kC o oP oL oC oX oY oF oS oT oM fL fR fN fM oR, kS oP 3 qp ((z4_keepGiven 3 np gp x y z).2.1), kA qp cI 180 ((z4_keepGiven 3 np gp x y z).2.2), kT oM y_8_0_1 y_8_1_2 y_8_2_3] := hD
  subst hw
  clear hPc hDc
  have he_1 : z4_point_size1 np gp x y z = (z4_keepGiven 3 np gp x y z).2.1 := by delta z4_point_size1; rfl
  have he_2 : z4_point_f2 np gp x y z = (z4_keepGiven 3 np gp x y z).2.2 := by delta z4_point_f2; rfl
  exact rt_i (w1 := fun uu : Int64 × Int64 × Int64 => [kC o oP oL oC oX oY oF oS oT oM fL fR fN fM oR, kS oP 3 qp (z4_point_size1 np gp x y z), kA qp cI 180 (z4_point_f2 np gp x y z), kT oM uu.1 uu.2.1 uu.2.2]) hx hb hr hlk hS dX4_point_11 ((y_8_0_1, y_8_1_2, y_8_2_3)) rfl (by dsimp only; rw [he_1, he_2]; exact hP) (by dsimp only; rw [he_1, he_2]; exact hD)
def z4_line (nl : Int32) (gl : Nat → Int32) (x : Int32) (y : Int32) (z : Int32) : Int32 := (z4_keepGiven 3 nl gl x y z).1
def z4_line_size1 (nl : Int32) (gl : Nat → Int32) (x : Int32) (y : Int32) (z : Int32) : Int32 := (z4_keepGiven 3 nl gl x y z).2.1
def z4_line_f2 (nl : Int32) (gl : Nat → Int32) (x : Int32) (y : Int32) (z : Int32) : Nat → Int32 := (z4_keepGiven 3 nl gl x y z).2.2
set_option maxHeartbeats 4000000 in
set_option maxRecDepth 100000 in
/-- X4.line -/
theorem c_X4_line (l : Launch) (D : va_G) (cI cJ : ClassId) (o : Nat) (oP : Nat) (oL : Nat) (oC : Nat) (oX : Nat) (oY : Nat) (oF : Nat) (oS : Nat) (oT : Nat) (oM : Nat) (fL : Nat) (fR : Nat) (fN : Nat) (fM : Nat) (oR : Nat) (ql : Nat) (nl : Int32) (gl : Nat → Int32) (x4 : Int64) (y4 : Int64) (z4 : Int64) (x : Int32) (y : Int32) (z : Int32) (hsl : sh_ok 3 180 nl) : mw_C l yX4_line wsX4_line ({ frames := 4, cells := 0, slots := 0, locals := 97 }) D cI cJ [.ref o, .int x, .int y, .int z] [kC o oP oL oC oX oY oF oS oT oM fL fR fN fM oR, kS oL 3 ql nl, kA ql cI 180 gl, kT oM x4 y4 z4] (qe_i (fun (r : Int32) (_ : Int64 × Int64 × Int64) => r = z4_line nl gl x y z) (fun uu => [kC o oP oL oC oX oY oF oS oT oM fL fR fN fM oR, kS oL 3 ql (z4_line_size1 nl gl x y z), kA ql cI 180 (z4_line_f2 nl gl x y z), kT oM uu.1 uu.2.1 uu.2.2])) := by
  refine mw_in (cc := cX4_line) (lv := [(0, .ref o), (1, .int x), (2, .int y), (3, .int z)]) (by decide) rfl (Nat.le_of_ble_eq_true rfl) rfl ?_
  intro pG eG sG mG below meth cG ls A hx hb hr hml hown hts hlk hin hP hK hD hA hS hl
  have hown : sG.vm.findClass RX4 = some mG.cls := hown
  have k_1 := hts (.fieldLink RX4 18 "ConicRows" "lines" "LConicRows$Shelf;") (by decide +kernel)
  have k_2 : ∀ w ∈ wsX40, w ∈ wsX4_line := by decide +kernel
  refine lv_aload_n hx hb dX4_line_0 rfl (lv_at hl 0 rfl) ?_
  refine lv_aload_n hx hb dX4_line_1 rfl (lv_at hl 0 rfl) ?_
  refine va_get (D := D) (ci := 4) (v := .ref oL) (C := RX4) (T := TX4) (N := 14) hx hb hts k_2 hown hK.1 hP 0 rfl rfl 1 (by decide) k_1 (fun _ h9 => h9) rfl dX4_line_2 ?_
  refine lv_iload_n hx hb dX4_line_5 rfl (lv_at hl 1 rfl) ?_
  refine lv_iload_n hx hb dX4_line_6 rfl (lv_at hl 2 rfl) ?_
  refine lv_iload_n hx hb dX4_line_7 rfl (lv_at hl 3 rfl) ?_
  have hPc := hP.sub (ws' := [kC o oP oL oC oX oY oF oS oT oM fL fR fN fM oR, kS oL 3 ql nl, kA ql cI 180 gl, kT oM x4 y4 z4]) [0, 1, 2, 3] rfl
  have hDc := hD.sub (ws' := [kC o oP oL oC oX oY oF oS oT oM fL fR fN fM oR, kS oL 3 ql nl, kA ql cI 180 gl, kT oM x4 y4 z4]) [0, 1, 2, 3] (by decide) rfl
  refine cl_i (wc := [kC o oP oL oC oX oY oF oS oT oM fL fR fN fM oR, kS oL 3 ql nl, kA ql cI 180 gl, kT oM x4 y4 z4]) (wr := []) (w1 := fun uu : Int64 × Int64 × Int64 => [kC o oP oL oC oX oY oF oS oT oM fL fR fN fM oR, kS oL 3 ql ((z4_keepGiven 3 nl gl x y z).2.1), kA ql cI 180 ((z4_keepGiven 3 nl gl x y z).2.2), kT oM uu.1 uu.2.1 uu.2.2]) (wn := fun uu : Int64 × Int64 × Int64 => [kC o oP oL oC oX oY oF oS oT oM fL fR fN fM oR, kS oL 3 ql ((z4_keepGiven 3 nl gl x y z).2.1), kA ql cI 180 ((z4_keepGiven 3 nl gl x y z).2.2), kT oM uu.1 uu.2.1 uu.2.2]) (va_runV (As := [.ref oL, .int x, .int y, .int z]) (rest := []) ⟨hx, hb, hml, hown, hts⟩ (c_X4_keepGiven l D cI cJ o oP oL oC oX oY oF oS oT oM fL fR fN fM oR oL ql 180 3 nl gl x4 y4 z4 x y z hsl _) (cwV 4 hts gX4_line_X4_keepGiven rfl rfl rfl (by decide +kernel) ⟨Nat.le_of_ble_eq_true rfl, Nat.le_of_ble_eq_true rfl⟩) ⟨gd_blP, va_recv hK.1 hPc (ci := 4) (q0 := 0) rfl rfl, gd_prP hPc hK hDc⟩ rfl rfl hl.1 rfl (lv_room (Nat.le_of_ble_eq_true rfl)) dX4_line_8 ⟨Nat.zero_le _, Nat.zero_le _⟩) hP hD hS hA [0, 1, 2, 3] [] rfl rfl (by decide) (by decide) [0, 1, 2, 3] (by decide) (fun _ => rfl) (fun r_8 uG H locs hw hP hD hS => ?_)
  obtain ⟨y_8_0_1, y_8_1_2, y_8_2_3⟩ := uG
  have hP : va_P D vwCl [kC o oP oL oC oX oY oF oS oT oM fL fR fN fM oR, kS oL 3 ql ((z4_keepGiven 3 nl gl x y z).2.1), kA ql cI 180 ((z4_keepGiven 3 nl gl x y z).2.2), kT oM y_8_0_1 y_8_1_2 y_8_2_3] H := hP
  have hD : va_D A [kC o oP oL oC oX oY oF oS oT oM fL fR fN fM oR, kS oL 3 ql ((z4_keepGiven 3 nl gl x y z).2.1), kA ql cI 180 ((z4_keepGiven 3 nl gl x y z).2.2), kT oM y_8_0_1 y_8_1_2 y_8_2_3] := hD
  subst hw
  clear hPc hDc
  have he_1 : z4_line_size1 nl gl x y z = (z4_keepGiven 3 nl gl x y z).2.1 := by delta z4_line_size1; rfl
  have he_2 : z4_line_f2 nl gl x y z = (z4_keepGiven 3 nl gl x y z).2.2 := by delta z4_line_f2; rfl
  exact rt_i (w1 := fun uu : Int64 × Int64 × Int64 => [kC o oP oL oC oX oY oF oS oT oM fL fR fN fM oR, kS oL 3 ql (z4_line_size1 nl gl x y z), kA ql cI 180 (z4_line_f2 nl gl x y z), kT oM uu.1 uu.2.1 uu.2.2]) hx hb hr hlk hS dX4_line_11 ((y_8_0_1, y_8_1_2, y_8_2_3)) rfl (by dsimp only; rw [he_1, he_2]; exact hP) (by dsimp only; rw [he_1, he_2]; exact hD)
def z4_conic (nc : Int32) (gc : Nat → Int32) (a : Int32) (b : Int32) (c : Int32) (d : Int32) (e : Int32) (f : Int32) : Int32 × Int32 × (Nat → Int32) := if (z0_isWithin a.toInt64 b.toInt64 c.toInt64 d.toInt64 e.toInt64 f.toInt64 1000) = 0 then ((-1000003), nc, gc) else if (z0_isZero a.toInt64 b.toInt64 c.toInt64 d.toInt64 e.toInt64 f.toInt64) = 0 then ((z2_keepForm 6 nc gc a.toInt64 b.toInt64 c.toInt64 d.toInt64 e.toInt64 f.toInt64).1, (z2_keepForm 6 nc gc a.toInt64 b.toInt64 c.toInt64 d.toInt64 e.toInt64 f.toInt64).2.1, (z2_keepForm 6 nc gc a.toInt64 b.toInt64 c.toInt64 d.toInt64 e.toInt64 f.toInt64).2.2.1) else ((-1000003), nc, gc)
set_option maxHeartbeats 4000000 in
set_option maxRecDepth 100000 in
/-- X4.conic -/
theorem c_X4_conic (l : Launch) (D : va_G) (cI cJ : ClassId) (o : Nat) (oP : Nat) (oL : Nat) (oC : Nat) (oX : Nat) (oY : Nat) (oF : Nat) (oS : Nat) (oT : Nat) (oM : Nat) (fL : Nat) (fR : Nat) (fN : Nat) (fM : Nat) (oR : Nat) (qc : Nat) (nc : Int32) (gc : Nat → Int32) (a8 : Int64) (b8 : Int64) (c8 : Int64) (d8 : Int64) (e8 : Int64) (f8 : Int64) (a : Int32) (b : Int32) (c : Int32) (d : Int32) (e : Int32) (f : Int32) (hsc : sh_ok 6 360 nc) : mw_C l yX4_conic wsX4_conic ({ frames := 3, cells := 0, slots := 0, locals := 73 }) D cI cJ [.ref o, .int a, .int b, .int c, .int d, .int e, .int f] [kC o oP oL oC oX oY oF oS oT oM fL fR fN fM oR, kS oC 6 qc nc, kA qc cI 360 gc, kF fM a8 b8 c8 d8 e8 f8] (qe_i (fun (r : Int32) (_ : Int64 × Int64 × Int64 × Int64 × Int64 × Int64) => r = (z4_conic nc gc a b c d e f).1) (fun uu => [kC o oP oL oC oX oY oF oS oT oM fL fR fN fM oR, kS oC 6 qc ((z4_conic nc gc a b c d e f).2.1), kA qc cI 360 ((z4_conic nc gc a b c d e f).2.2), kF fM uu.1 uu.2.1 uu.2.2.1 uu.2.2.2.1 uu.2.2.2.2.1 uu.2.2.2.2.2])) := by
  refine mw_in (cc := cX4_conic) (lv := [(0, .ref o), (1, .int a), (2, .int b), (3, .int c), (4, .int d), (5, .int e), (6, .int f)]) (by decide) rfl (Nat.le_of_ble_eq_true rfl) rfl ?_
  intro pG eG sG mG below meth cG ls A hx hb hr hml hown hts hlk hin hP hK hD hA hS hl
  have hown : sG.vm.findClass RX4 = some mG.cls := hown
  have k_1 := hts (.fieldLink RX4 63 "ConicRows" "madeForm" "LConicRows$Form;") (by decide +kernel)
  have k_2 : ∀ w ∈ wsX40, w ∈ wsX4_conic := by decide +kernel
  have k_3 := hts (.constantLong RX4 81 (1000)) (by decide +kernel)
  have k_4 := hts (.constant RX4 91 (-1000003)) (by decide +kernel)
  have k_5 := hts (.fieldLink RX4 21 "ConicRows" "conics" "LConicRows$Shelf;") (by decide +kernel)
  refine lv_aload_n hx hb dX4_conic_0 rfl (lv_at hl 0 rfl) ?_
  refine va_get (D := D) (ci := 4) (v := .ref fM) (C := RX4) (T := TX4) (N := 14) hx hb hts k_2 hown hK.1 hP 0 rfl rfl 12 (by decide) k_1 (fun _ h9 => h9) rfl dX4_conic_1 ?_
  refine lv_iload_n hx hb dX4_conic_4 rfl (lv_at hl 1 rfl) ?_
  refine lv_i2l hx hb dX4_conic_5 rfl ?_
  refine lv_iload_n hx hb dX4_conic_6 rfl (lv_at hl 2 rfl) ?_
  refine lv_i2l hx hb dX4_conic_7 rfl ?_
  refine lv_iload_n hx hb dX4_conic_8 rfl (lv_at hl 3 rfl) ?_
  refine lv_i2l hx hb dX4_conic_9 rfl ?_
  have hPc := hP.sub (ws' := [kF fM a8 b8 c8 d8 e8 f8]) [3] rfl
  have hDc := hD.sub (ws' := [kF fM a8 b8 c8 d8 e8 f8]) [3] (by decide) rfl
  refine cl_v (wc := [kF fM a8 b8 c8 d8 e8 f8]) (wr := [kC o oP oL oC oX oY oF oS oT oM fL fR fN fM oR, kS oC 6 qc nc, kA qc cI 360 gc]) (w1 := fun uu : Unit => [kF fM a.toInt64 b.toInt64 c.toInt64 d8 e8 f8]) (wn := fun uu : Unit => [kC o oP oL oC oX oY oF oS oT oM fL fR fN fM oR, kS oC 6 qc nc, kA qc cI 360 gc, kF fM a.toInt64 b.toInt64 c.toInt64 d8 e8 f8]) (va_runV (As := [.long a.toInt64, .long b.toInt64, .long c.toInt64]) (rest := []) ⟨hx, hb, hml, hown, hts⟩ (c_X0_setQuadratic l D cI cJ fM a8 b8 c8 d8 e8 f8 a.toInt64 b.toInt64 c.toInt64 _) (cwV 3 hts gX4_conic_X0_setQuadratic rfl rfl rfl (by decide +kernel) ⟨Nat.le_of_ble_eq_true rfl, Nat.le_of_ble_eq_true rfl⟩) ⟨gd_blP, va_recv hK.1 hPc (ci := 0) (q0 := 0) rfl rfl, gd_prP hPc hK hDc⟩ rfl rfl hl.1 rfl (lv_room (Nat.le_of_ble_eq_true rfl)) dX4_conic_10 ⟨Nat.zero_le _, Nat.zero_le _⟩) hP hD hS hA [3] [0, 1, 2] rfl rfl (by decide) (by decide) [0, 1, 2, 3] (by decide) (fun _ => rfl) (fun uG H locs hw hP hD hS => ?_)
  have hP : va_P D vwCl [kC o oP oL oC oX oY oF oS oT oM fL fR fN fM oR, kS oC 6 qc nc, kA qc cI 360 gc, kF fM a.toInt64 b.toInt64 c.toInt64 d8 e8 f8] H := hP
  have hD : va_D A [kC o oP oL oC oX oY oF oS oT oM fL fR fN fM oR, kS oC 6 qc nc, kA qc cI 360 gc, kF fM a.toInt64 b.toInt64 c.toInt64 d8 e8 f8] := hD
  clear hPc hDc
  refine lv_aload_n hx hb dX4_conic_13 rfl (lv_at hl 0 rfl) ?_
  refine va_get (D := D) (ci := 4) (v := .ref fM) (C := RX4) (T := TX4) (N := 14) hx hb hts k_2 hown hK.1 hP 0 rfl rfl 12 (by decide) k_1 (fun _ h9 => h9) rfl dX4_conic_14 ?_
  refine lv_iload hx hb dX4_conic_17 (lv_at hl 4 rfl) ?_
  refine lv_i2l hx hb dX4_conic_19 rfl ?_
  refine lv_iload hx hb dX4_conic_20 (lv_at hl 5 rfl) ?_
  refine lv_i2l hx hb dX4_conic_22 rfl ?_
  refine lv_iload hx hb dX4_conic_23 (lv_at hl 6 rfl) ?_
  refine lv_i2l hx hb dX4_conic_25 rfl ?_
  have hPc := hP.sub (ws' := [kF fM a.toInt64 b.toInt64 c.toInt64 d8 e8 f8]) [3] rfl
  have hDc := hD.sub (ws' := [kF fM a.toInt64 b.toInt64 c.toInt64 d8 e8 f8]) [3] (by decide) rfl
  refine cl_v (wc := [kF fM a.toInt64 b.toInt64 c.toInt64 d8 e8 f8]) (wr := [kC o oP oL oC oX oY oF oS oT oM fL fR fN fM oR, kS oC 6 qc nc, kA qc cI 360 gc]) (w1 := fun uu : Unit => [kF fM a.toInt64 b.toInt64 c.toInt64 d.toInt64 e.toInt64 f.toInt64]) (wn := fun uu : Unit => [kC o oP oL oC oX oY oF oS oT oM fL fR fN fM oR, kS oC 6 qc nc, kA qc cI 360 gc, kF fM a.toInt64 b.toInt64 c.toInt64 d.toInt64 e.toInt64 f.toInt64]) (va_runV (As := [.long d.toInt64, .long e.toInt64, .long f.toInt64]) (rest := []) ⟨hx, hb, hml, hown, hts⟩ (c_X0_setRest l D cI cJ fM a.toInt64 b.toInt64 c.toInt64 d8 e8 f8 d.toInt64 e.toInt64 f.toInt64 _) (cwV 3 hts gX4_conic_X0_setRest rfl rfl rfl (by decide +kernel) ⟨Nat.le_of_ble_eq_true rfl, Nat.le_of_ble_eq_true rfl⟩) ⟨gd_blP, va_recv hK.1 hPc (ci := 0) (q0 := 0) rfl rfl, gd_prP hPc hK hDc⟩ rfl rfl hl.1 rfl (lv_room (Nat.le_of_ble_eq_true rfl)) dX4_conic_26 ⟨Nat.zero_le _, Nat.zero_le _⟩) hP hD hS hA [3] [0, 1, 2] rfl rfl (by decide) (by decide) [0, 1, 2, 3] (by decide) (fun _ => rfl) (fun uG H locs hw hP hD hS => ?_)
  have hP : va_P D vwCl [kC o oP oL oC oX oY oF oS oT oM fL fR fN fM oR, kS oC 6 qc nc, kA qc cI 360 gc, kF fM a.toInt64 b.toInt64 c.toInt64 d.toInt64 e.toInt64 f.toInt64] H := hP
  have hD : va_D A [kC o oP oL oC oX oY oF oS oT oM fL fR fN fM oR, kS oC 6 qc nc, kA qc cI 360 gc, kF fM a.toInt64 b.toInt64 c.toInt64 d.toInt64 e.toInt64 f.toInt64] := hD
  clear hPc hDc
  refine lv_aload_n hx hb dX4_conic_29 rfl (lv_at hl 0 rfl) ?_
  refine va_get (D := D) (ci := 4) (v := .ref fM) (C := RX4) (T := TX4) (N := 14) hx hb hts k_2 hown hK.1 hP 0 rfl rfl 12 (by decide) k_1 (fun _ h9 => h9) rfl dX4_conic_30 ?_
  refine lv_ldc2 hx hb hown k_3 dX4_conic_33 ?_
  have hPc := hP.sub (ws' := [kF fM a.toInt64 b.toInt64 c.toInt64 d.toInt64 e.toInt64 f.toInt64]) [3] rfl
  refine cr_i (va_runV (As := [.long 1000]) (rest := []) ⟨hx, hb, hml, hown, hts⟩ (c_X0_isWithin l D cI cJ fM a.toInt64 b.toInt64 c.toInt64 d.toInt64 e.toInt64 f.toInt64 1000) (cwV 1 hts gX4_conic_X0_isWithin rfl rfl rfl (by decide +kernel) ⟨Nat.le_of_ble_eq_true rfl, Nat.le_of_ble_eq_true rfl⟩) ⟨gd_blR, va_recv hK.1 hPc (ci := 0) (q0 := 0) rfl rfl, gd_prR hPc hK⟩ rfl rfl hl.1 rfl (lv_room (Nat.le_of_ble_eq_true rfl)) dX4_conic_36 ⟨Nat.zero_le _, Nat.zero_le _⟩) (fun r_36 hw => ?_)
  subst hw
  clear hPc
  refine lv_if_eq (tgt := 52) hx hb dX4_conic_39 (by decide) (fun c_1 => ?_) (fun c_1 => ?_)
  · skip
    refine lv_ldc hx hb hown k_4 dX4_conic_52 ?_
    have he : z4_conic nc gc a b c d e f = ((-1000003), nc, gc) := by unfold z4_conic; rw [if_pos c_1]
    have he_0 : (z4_conic nc gc a b c d e f).1 = (-1000003) := by rw [he]
    have he_1 : (z4_conic nc gc a b c d e f).2.1 = nc := by rw [he]
    have he_2 : (z4_conic nc gc a b c d e f).2.2 = gc := by rw [he]
    exact rt_i (w1 := fun uu : Int64 × Int64 × Int64 × Int64 × Int64 × Int64 => [kC o oP oL oC oX oY oF oS oT oM fL fR fN fM oR, kS oC 6 qc ((z4_conic nc gc a b c d e f).2.1), kA qc cI 360 ((z4_conic nc gc a b c d e f).2.2), kF fM uu.1 uu.2.1 uu.2.2.1 uu.2.2.2.1 uu.2.2.2.2.1 uu.2.2.2.2.2]) hx hb hr hlk hS dX4_conic_54 ((a.toInt64, b.toInt64, c.toInt64, d.toInt64, e.toInt64, f.toInt64)) he_0.symm (by dsimp only; rw [he_1, he_2]; exact hP) (by dsimp only; rw [he_1, he_2]; exact hD)
  · skip
    refine lv_aload_n hx hb dX4_conic_42 rfl (lv_at hl 0 rfl) ?_
    refine va_get (D := D) (ci := 4) (v := .ref fM) (C := RX4) (T := TX4) (N := 14) hx hb hts k_2 hown hK.1 hP 0 rfl rfl 12 (by decide) k_1 (fun _ h9 => h9) rfl dX4_conic_43 ?_
    have hPc := hP.sub (ws' := [kF fM a.toInt64 b.toInt64 c.toInt64 d.toInt64 e.toInt64 f.toInt64]) [3] rfl
    refine cr_i (va_runV (As := []) (rest := []) ⟨hx, hb, hml, hown, hts⟩ (c_X0_isZero l D cI cJ fM a.toInt64 b.toInt64 c.toInt64 d.toInt64 e.toInt64 f.toInt64) (cwV 0 hts gX4_conic_X0_isZero rfl rfl rfl (by decide +kernel) ⟨Nat.le_of_ble_eq_true rfl, Nat.le_of_ble_eq_true rfl⟩) ⟨gd_blR, va_recv hK.1 hPc (ci := 0) (q0 := 0) rfl rfl, gd_prR hPc hK⟩ rfl rfl hl.1 rfl (lv_room (Nat.le_of_ble_eq_true rfl)) dX4_conic_46 ⟨Nat.zero_le _, Nat.zero_le _⟩) (fun r_46 hw => ?_)
    subst hw
    clear hPc
    refine lv_if_eq (tgt := 55) hx hb dX4_conic_49 (by decide) (fun c_2 => ?_) (fun c_2 => ?_)
    · skip
      refine lv_aload_n hx hb dX4_conic_55 rfl (lv_at hl 0 rfl) ?_
      refine va_get (D := D) (ci := 4) (v := .ref oC) (C := RX4) (T := TX4) (N := 14) hx hb hts k_2 hown hK.1 hP 0 rfl rfl 2 (by decide) k_5 (fun _ h9 => h9) rfl dX4_conic_56 ?_
      refine lv_aload_n hx hb dX4_conic_59 rfl (lv_at hl 0 rfl) ?_
      refine va_get (D := D) (ci := 4) (v := .ref fM) (C := RX4) (T := TX4) (N := 14) hx hb hts k_2 hown hK.1 hP 0 rfl rfl 12 (by decide) k_1 (fun _ h9 => h9) rfl dX4_conic_60 ?_
      have hPc := hP.sub (ws' := [kS oC 6 qc nc, kA qc cI 360 gc, kF fM a.toInt64 b.toInt64 c.toInt64 d.toInt64 e.toInt64 f.toInt64]) [1, 2, 3] rfl
      have hDc := hD.sub (ws' := [kS oC 6 qc nc, kA qc cI 360 gc, kF fM a.toInt64 b.toInt64 c.toInt64 d.toInt64 e.toInt64 f.toInt64]) [1, 2, 3] (by decide) rfl
      refine cl_i (wc := [kS oC 6 qc nc, kA qc cI 360 gc, kF fM a.toInt64 b.toInt64 c.toInt64 d.toInt64 e.toInt64 f.toInt64]) (wr := [kC o oP oL oC oX oY oF oS oT oM fL fR fN fM oR]) (w1 := fun uu : Unit => [kS oC 6 qc ((z2_keepForm 6 nc gc a.toInt64 b.toInt64 c.toInt64 d.toInt64 e.toInt64 f.toInt64).2.1), kA qc cI 360 ((z2_keepForm 6 nc gc a.toInt64 b.toInt64 c.toInt64 d.toInt64 e.toInt64 f.toInt64).2.2.1), kF fM ((z2_keepForm 6 nc gc a.toInt64 b.toInt64 c.toInt64 d.toInt64 e.toInt64 f.toInt64).2.2.2.1) ((z2_keepForm 6 nc gc a.toInt64 b.toInt64 c.toInt64 d.toInt64 e.toInt64 f.toInt64).2.2.2.2.1) ((z2_keepForm 6 nc gc a.toInt64 b.toInt64 c.toInt64 d.toInt64 e.toInt64 f.toInt64).2.2.2.2.2.1) ((z2_keepForm 6 nc gc a.toInt64 b.toInt64 c.toInt64 d.toInt64 e.toInt64 f.toInt64).2.2.2.2.2.2.1) ((z2_keepForm 6 nc gc a.toInt64 b.toInt64 c.toInt64 d.toInt64 e.toInt64 f.toInt64).2.2.2.2.2.2.2.1) ((z2_keepForm 6 nc gc a.toInt64 b.toInt64 c.toInt64 d.toInt64 e.toInt64 f.toInt64).2.2.2.2.2.2.2.2)]) (wn := fun uu : Unit => [kC o oP oL oC oX oY oF oS oT oM fL fR fN fM oR, kS oC 6 qc ((z2_keepForm 6 nc gc a.toInt64 b.toInt64 c.toInt64 d.toInt64 e.toInt64 f.toInt64).2.1), kA qc cI 360 ((z2_keepForm 6 nc gc a.toInt64 b.toInt64 c.toInt64 d.toInt64 e.toInt64 f.toInt64).2.2.1), kF fM ((z2_keepForm 6 nc gc a.toInt64 b.toInt64 c.toInt64 d.toInt64 e.toInt64 f.toInt64).2.2.2.1) ((z2_keepForm 6 nc gc a.toInt64 b.toInt64 c.toInt64 d.toInt64 e.toInt64 f.toInt64).2.2.2.2.1) ((z2_keepForm 6 nc gc a.toInt64 b.toInt64 c.toInt64 d.toInt64 e.toInt64 f.toInt64).2.2.2.2.2.1) ((z2_keepForm 6 nc gc a.toInt64 b.toInt64 c.toInt64 d.toInt64 e.toInt64 f.toInt64).2.2.2.2.2.2.1) ((z2_keepForm 6 nc gc a.toInt64 b.toInt64 c.toInt64 d.toInt64 e.toInt64 f.toInt64).2.2.2.2.2.2.2.1) ((z2_keepForm 6 nc gc a.toInt64 b.toInt64 c.toInt64 d.toInt64 e.toInt64 f.toInt64).2.2.2.2.2.2.2.2)]) (va_runV (As := [.ref fM]) (rest := []) ⟨hx, hb, hml, hown, hts⟩ (c_X2_keepForm l D cI cJ oC qc 360 fM 6 nc gc a.toInt64 b.toInt64 c.toInt64 d.toInt64 e.toInt64 f.toInt64 hsc _) (cwV 1 hts gX4_conic_X2_keepForm rfl rfl rfl (by decide +kernel) ⟨Nat.le_of_ble_eq_true rfl, Nat.le_of_ble_eq_true rfl⟩) ⟨gd_blP, va_recv hK.1 hPc (ci := 2) (q0 := 0) rfl rfl, gd_prP hPc hK hDc⟩ rfl rfl hl.1 rfl (lv_room (Nat.le_of_ble_eq_true rfl)) dX4_conic_63 ⟨Nat.zero_le _, Nat.zero_le _⟩) hP hD hS hA [1, 2, 3] [0] rfl rfl (by decide) (by decide) [0, 1, 2, 3] (by decide) (fun _ => rfl) (fun r_63 uG H locs hw hP hD hS => ?_)
      have hP : va_P D vwCl [kC o oP oL oC oX oY oF oS oT oM fL fR fN fM oR, kS oC 6 qc ((z2_keepForm 6 nc gc a.toInt64 b.toInt64 c.toInt64 d.toInt64 e.toInt64 f.toInt64).2.1), kA qc cI 360 ((z2_keepForm 6 nc gc a.toInt64 b.toInt64 c.toInt64 d.toInt64 e.toInt64 f.toInt64).2.2.1), kF fM ((z2_keepForm 6 nc gc a.toInt64 b.toInt64 c.toInt64 d.toInt64 e.toInt64 f.toInt64).2.2.2.1) ((z2_keepForm 6 nc gc a.toInt64 b.toInt64 c.toInt64 d.toInt64 e.toInt64 f.toInt64).2.2.2.2.1) ((z2_keepForm 6 nc gc a.toInt64 b.toInt64 c.toInt64 d.toInt64 e.toInt64 f.toInt64).2.2.2.2.2.1) ((z2_keepForm 6 nc gc a.toInt64 b.toInt64 c.toInt64 d.toInt64 e.toInt64 f.toInt64).2.2.2.2.2.2.1) ((z2_keepForm 6 nc gc a.toInt64 b.toInt64 c.toInt64 d.toInt64 e.toInt64 f.toInt64).2.2.2.2.2.2.2.1) ((z2_keepForm 6 nc gc a.toInt64 b.toInt64 c.toInt64 d.toInt64 e.toInt64 f.toInt64).2.2.2.2.2.2.2.2)] H := hP
      have hD : va_D A [kC o oP oL oC oX oY oF oS oT oM fL fR fN fM oR, kS oC 6 qc ((z2_keepForm 6 nc gc a.toInt64 b.toInt64 c.toInt64 d.toInt64 e.toInt64 f.toInt64).2.1), kA qc cI 360 ((z2_keepForm 6 nc gc a.toInt64 b.toInt64 c.toInt64 d.toInt64 e.toInt64 f.toInt64).2.2.1), kF fM ((z2_keepForm 6 nc gc a.toInt64 b.toInt64 c.toInt64 d.toInt64 e.toInt64 f.toInt64).2.2.2.1) ((z2_keepForm 6 nc gc a.toInt64 b.toInt64 c.toInt64 d.toInt64 e.toInt64 f.toInt64).2.2.2.2.1) ((z2_keepForm 6 nc gc a.toInt64 b.toInt64 c.toInt64 d.toInt64 e.toInt64 f.toInt64).2.2.2.2.2.1) ((z2_keepForm 6 nc gc a.toInt64 b.toInt64 c.toInt64 d.toInt64 e.toInt64 f.toInt64).2.2.2.2.2.2.1) ((z2_keepForm 6 nc gc a.toInt64 b.toInt64 c.toInt64 d.toInt64 e.toInt64 f.toInt64).2.2.2.2.2.2.2.1) ((z2_keepForm 6 nc gc a.toInt64 b.toInt64 c.toInt64 d.toInt64 e.toInt64 f.toInt64).2.2.2.2.2.2.2.2)] := hD
      subst hw
      clear hPc hDc
      have he : z4_conic nc gc a b c d e f = ((z2_keepForm 6 nc gc a.toInt64 b.toInt64 c.toInt64 d.toInt64 e.toInt64 f.toInt64).1, (z2_keepForm 6 nc gc a.toInt64 b.toInt64 c.toInt64 d.toInt64 e.toInt64 f.toInt64).2.1, (z2_keepForm 6 nc gc a.toInt64 b.toInt64 c.toInt64 d.toInt64 e.toInt64 f.toInt64).2.2.1) := by unfold z4_conic; rw [if_neg c_1, if_pos c_2]
      have he_0 : (z4_conic nc gc a b c d e f).1 = (z2_keepForm 6 nc gc a.toInt64 b.toInt64 c.toInt64 d.toInt64 e.toInt64 f.toInt64).1 := by rw [he]
      have he_1 : (z4_conic nc gc a b c d e f).2.1 = (z2_keepForm 6 nc gc a.toInt64 b.toInt64 c.toInt64 d.toInt64 e.toInt64 f.toInt64).2.1 := by rw [he]
      have he_2 : (z4_conic nc gc a b c d e f).2.2 = (z2_keepForm 6 nc gc a.toInt64 b.toInt64 c.toInt64 d.toInt64 e.toInt64 f.toInt64).2.2.1 := by rw [he]
      exact rt_i (w1 := fun uu : Int64 × Int64 × Int64 × Int64 × Int64 × Int64 => [kC o oP oL oC oX oY oF oS oT oM fL fR fN fM oR, kS oC 6 qc ((z4_conic nc gc a b c d e f).2.1), kA qc cI 360 ((z4_conic nc gc a b c d e f).2.2), kF fM uu.1 uu.2.1 uu.2.2.1 uu.2.2.2.1 uu.2.2.2.2.1 uu.2.2.2.2.2]) hx hb hr hlk hS dX4_conic_66 (((z2_keepForm 6 nc gc a.toInt64 b.toInt64 c.toInt64 d.toInt64 e.toInt64 f.toInt64).2.2.2.1, (z2_keepForm 6 nc gc a.toInt64 b.toInt64 c.toInt64 d.toInt64 e.toInt64 f.toInt64).2.2.2.2.1, (z2_keepForm 6 nc gc a.toInt64 b.toInt64 c.toInt64 d.toInt64 e.toInt64 f.toInt64).2.2.2.2.2.1, (z2_keepForm 6 nc gc a.toInt64 b.toInt64 c.toInt64 d.toInt64 e.toInt64 f.toInt64).2.2.2.2.2.2.1, (z2_keepForm 6 nc gc a.toInt64 b.toInt64 c.toInt64 d.toInt64 e.toInt64 f.toInt64).2.2.2.2.2.2.2.1, (z2_keepForm 6 nc gc a.toInt64 b.toInt64 c.toInt64 d.toInt64 e.toInt64 f.toInt64).2.2.2.2.2.2.2.2)) he_0.symm (by dsimp only; rw [he_1, he_2]; exact hP) (by dsimp only; rw [he_1, he_2]; exact hD)
    · skip
      refine lv_ldc hx hb hown k_4 dX4_conic_52 ?_
      have he : z4_conic nc gc a b c d e f = ((-1000003), nc, gc) := by unfold z4_conic; rw [if_neg c_1, if_neg c_2]
      have he_0 : (z4_conic nc gc a b c d e f).1 = (-1000003) := by rw [he]
      have he_1 : (z4_conic nc gc a b c d e f).2.1 = nc := by rw [he]
      have he_2 : (z4_conic nc gc a b c d e f).2.2 = gc := by rw [he]
      exact rt_i (w1 := fun uu : Int64 × Int64 × Int64 × Int64 × Int64 × Int64 => [kC o oP oL oC oX oY oF oS oT oM fL fR fN fM oR, kS oC 6 qc ((z4_conic nc gc a b c d e f).2.1), kA qc cI 360 ((z4_conic nc gc a b c d e f).2.2), kF fM uu.1 uu.2.1 uu.2.2.1 uu.2.2.2.1 uu.2.2.2.2.1 uu.2.2.2.2.2]) hx hb hr hlk hS dX4_conic_54 ((a.toInt64, b.toInt64, c.toInt64, d.toInt64, e.toInt64, f.toInt64)) he_0.symm (by dsimp only; rw [he_1, he_2]; exact hP) (by dsimp only; rw [he_1, he_2]; exact hD)
def z4_join (np : Int32) (gp : Nat → Int32) (nl : Int32) (gl : Nat → Int32) (i : Int32) (j : Int32) : Int32 := (z4_keepAcross 3 np 3 nl i j gp gl).1
def z4_join_size3 (np : Int32) (gp : Nat → Int32) (nl : Int32) (gl : Nat → Int32) (i : Int32) (j : Int32) : Int32 := (z4_keepAcross 3 np 3 nl i j gp gl).2.1
def z4_join_f4 (np : Int32) (gp : Nat → Int32) (nl : Int32) (gl : Nat → Int32) (i : Int32) (j : Int32) : Nat → Int32 := (z4_keepAcross 3 np 3 nl i j gp gl).2.2
set_option maxHeartbeats 4000000 in
set_option maxRecDepth 100000 in
/-- X4.join -/
theorem c_X4_join (l : Launch) (D : va_G) (cI cJ : ClassId) (o : Nat) (oP : Nat) (oL : Nat) (oC : Nat) (oX : Nat) (oY : Nat) (oF : Nat) (oS : Nat) (oT : Nat) (oM : Nat) (fL : Nat) (fR : Nat) (fN : Nat) (fM : Nat) (oR : Nat) (qp : Nat) (np : Int32) (gp : Nat → Int32) (ql : Nat) (nl : Int32) (gl : Nat → Int32) (x1 : Int64) (y1 : Int64) (z1 : Int64) (x2 : Int64) (y2 : Int64) (z2 : Int64) (x4 : Int64) (y4 : Int64) (z4 : Int64) (i : Int32) (j : Int32) (hsp : sh_ok 3 180 np) (hsl : sh_ok 3 180 nl) : mw_C l yX4_join wsX4_join ({ frames := 5, cells := 0, slots := 0, locals := 118 }) D cI cJ [.ref o, .int i, .int j] [kC o oP oL oC oX oY oF oS oT oM fL fR fN fM oR, kS oP 3 qp np, kA qp cI 180 gp, kS oL 3 ql nl, kA ql cI 180 gl, kT oF x1 y1 z1, kT oS x2 y2 z2, kT oM x4 y4 z4] (qe_i (fun (r : Int32) (_ : Int64 × Int64 × Int64 × Int64 × Int64 × Int64 × Int64 × Int64 × Int64) => r = z4_join np gp nl gl i j) (fun uu => [kC o oP oL oC oX oY oF oS oT oM fL fR fN fM oR, kS oP 3 qp np, kA qp cI 180 gp, kS oL 3 ql (z4_join_size3 np gp nl gl i j), kA ql cI 180 (z4_join_f4 np gp nl gl i j), kT oF uu.1 uu.2.1 uu.2.2.1, kT oS uu.2.2.2.1 uu.2.2.2.2.1 uu.2.2.2.2.2.1, kT oM uu.2.2.2.2.2.2.1 uu.2.2.2.2.2.2.2.1 uu.2.2.2.2.2.2.2.2])) := by
  refine mw_in (cc := cX4_join) (lv := [(0, .ref o), (1, .int i), (2, .int j)]) (by decide) rfl (Nat.le_of_ble_eq_true rfl) rfl ?_
  intro pG eG sG mG below meth cG ls A hx hb hr hml hown hts hlk hin hP hK hD hA hS hl
  have hown : sG.vm.findClass RX4 = some mG.cls := hown
  have k_1 := hts (.fieldLink RX4 14 "ConicRows" "points" "LConicRows$Shelf;") (by decide +kernel)
  have k_2 : ∀ w ∈ wsX40, w ∈ wsX4_join := by decide +kernel
  have k_3 := hts (.fieldLink RX4 18 "ConicRows" "lines" "LConicRows$Shelf;") (by decide +kernel)
  refine lv_aload_n hx hb dX4_join_0 rfl (lv_at hl 0 rfl) ?_
  refine lv_aload_n hx hb dX4_join_1 rfl (lv_at hl 0 rfl) ?_
  refine va_get (D := D) (ci := 4) (v := .ref oP) (C := RX4) (T := TX4) (N := 14) hx hb hts k_2 hown hK.1 hP 0 rfl rfl 0 (by decide) k_1 (fun _ h9 => h9) rfl dX4_join_2 ?_
  refine lv_iload_n hx hb dX4_join_5 rfl (lv_at hl 1 rfl) ?_
  refine lv_iload_n hx hb dX4_join_6 rfl (lv_at hl 2 rfl) ?_
  refine lv_aload_n hx hb dX4_join_7 rfl (lv_at hl 0 rfl) ?_
  refine va_get (D := D) (ci := 4) (v := .ref oL) (C := RX4) (T := TX4) (N := 14) hx hb hts k_2 hown hK.1 hP 0 rfl rfl 1 (by decide) k_3 (fun _ h9 => h9) rfl dX4_join_8 ?_
  have hPc := hP.sub (ws' := [kC o oP oL oC oX oY oF oS oT oM fL fR fN fM oR, kS oP 3 qp np, kA qp cI 180 gp, kS oL 3 ql nl, kA ql cI 180 gl, kT oF x1 y1 z1, kT oS x2 y2 z2, kT oM x4 y4 z4]) [0, 1, 2, 3, 4, 5, 6, 7] rfl
  have hDc := hD.sub (ws' := [kC o oP oL oC oX oY oF oS oT oM fL fR fN fM oR, kS oP 3 qp np, kA qp cI 180 gp, kS oL 3 ql nl, kA ql cI 180 gl, kT oF x1 y1 z1, kT oS x2 y2 z2, kT oM x4 y4 z4]) [0, 1, 2, 3, 4, 5, 6, 7] (by decide) rfl
  refine cl_i (wc := [kC o oP oL oC oX oY oF oS oT oM fL fR fN fM oR, kS oP 3 qp np, kA qp cI 180 gp, kS oL 3 ql nl, kA ql cI 180 gl, kT oF x1 y1 z1, kT oS x2 y2 z2, kT oM x4 y4 z4]) (wr := []) (w1 := fun uu : Int64 × Int64 × Int64 × Int64 × Int64 × Int64 × Int64 × Int64 × Int64 => [kC o oP oL oC oX oY oF oS oT oM fL fR fN fM oR, kS oP 3 qp np, kA qp cI 180 gp, kS oL 3 ql ((z4_keepAcross 3 np 3 nl i j gp gl).2.1), kA ql cI 180 ((z4_keepAcross 3 np 3 nl i j gp gl).2.2), kT oF uu.1 uu.2.1 uu.2.2.1, kT oS uu.2.2.2.1 uu.2.2.2.2.1 uu.2.2.2.2.2.1, kT oM uu.2.2.2.2.2.2.1 uu.2.2.2.2.2.2.2.1 uu.2.2.2.2.2.2.2.2]) (wn := fun uu : Int64 × Int64 × Int64 × Int64 × Int64 × Int64 × Int64 × Int64 × Int64 => [kC o oP oL oC oX oY oF oS oT oM fL fR fN fM oR, kS oP 3 qp np, kA qp cI 180 gp, kS oL 3 ql ((z4_keepAcross 3 np 3 nl i j gp gl).2.1), kA ql cI 180 ((z4_keepAcross 3 np 3 nl i j gp gl).2.2), kT oF uu.1 uu.2.1 uu.2.2.1, kT oS uu.2.2.2.1 uu.2.2.2.2.1 uu.2.2.2.2.2.1, kT oM uu.2.2.2.2.2.2.1 uu.2.2.2.2.2.2.2.1 uu.2.2.2.2.2.2.2.2]) (va_runV (As := [.ref oP, .int i, .int j, .ref oL]) (rest := []) ⟨hx, hb, hml, hown, hts⟩ (c_X4_keepAcross l D cI cJ o oP oL oC oX oY oF oS oT oM fL fR fN fM oR oP qp 180 oL ql 180 3 np 3 nl i j gp gl x1 y1 z1 x2 y2 z2 x4 y4 z4 hsp hsl _) (cwV 4 hts gX4_join_X4_keepAcross rfl rfl rfl (by decide +kernel) ⟨Nat.le_of_ble_eq_true rfl, Nat.le_of_ble_eq_true rfl⟩) ⟨gd_blP, va_recv hK.1 hPc (ci := 4) (q0 := 0) rfl rfl, gd_prP hPc hK hDc⟩ rfl rfl hl.1 rfl (lv_room (Nat.le_of_ble_eq_true rfl)) dX4_join_11 ⟨Nat.zero_le _, Nat.zero_le _⟩) hP hD hS hA [0, 1, 2, 3, 4, 5, 6, 7] [] rfl rfl (by decide) (by decide) [0, 1, 2, 3, 4, 5, 6, 7] (by decide) (fun _ => rfl) (fun r_11 uG H locs hw hP hD hS => ?_)
  obtain ⟨y_11_0_1, y_11_1_2, y_11_2_3, y_11_3_4, y_11_4_5, y_11_5_6, y_11_6_7, y_11_7_8, y_11_8_9⟩ := uG
  have hP : va_P D vwCl [kC o oP oL oC oX oY oF oS oT oM fL fR fN fM oR, kS oP 3 qp np, kA qp cI 180 gp, kS oL 3 ql ((z4_keepAcross 3 np 3 nl i j gp gl).2.1), kA ql cI 180 ((z4_keepAcross 3 np 3 nl i j gp gl).2.2), kT oF y_11_0_1 y_11_1_2 y_11_2_3, kT oS y_11_3_4 y_11_4_5 y_11_5_6, kT oM y_11_6_7 y_11_7_8 y_11_8_9] H := hP
  have hD : va_D A [kC o oP oL oC oX oY oF oS oT oM fL fR fN fM oR, kS oP 3 qp np, kA qp cI 180 gp, kS oL 3 ql ((z4_keepAcross 3 np 3 nl i j gp gl).2.1), kA ql cI 180 ((z4_keepAcross 3 np 3 nl i j gp gl).2.2), kT oF y_11_0_1 y_11_1_2 y_11_2_3, kT oS y_11_3_4 y_11_4_5 y_11_5_6, kT oM y_11_6_7 y_11_7_8 y_11_8_9] := hD
  subst hw
  clear hPc hDc
  have he_1 : z4_join_size3 np gp nl gl i j = (z4_keepAcross 3 np 3 nl i j gp gl).2.1 := by delta z4_join_size3; rfl
  have he_2 : z4_join_f4 np gp nl gl i j = (z4_keepAcross 3 np 3 nl i j gp gl).2.2 := by delta z4_join_f4; rfl
  exact rt_i (w1 := fun uu : Int64 × Int64 × Int64 × Int64 × Int64 × Int64 × Int64 × Int64 × Int64 => [kC o oP oL oC oX oY oF oS oT oM fL fR fN fM oR, kS oP 3 qp np, kA qp cI 180 gp, kS oL 3 ql (z4_join_size3 np gp nl gl i j), kA ql cI 180 (z4_join_f4 np gp nl gl i j), kT oF uu.1 uu.2.1 uu.2.2.1, kT oS uu.2.2.2.1 uu.2.2.2.2.1 uu.2.2.2.2.2.1, kT oM uu.2.2.2.2.2.2.1 uu.2.2.2.2.2.2.2.1 uu.2.2.2.2.2.2.2.2]) hx hb hr hlk hS dX4_join_14 ((y_11_0_1, y_11_1_2, y_11_2_3, y_11_3_4, y_11_4_5, y_11_5_6, y_11_6_7, y_11_7_8, y_11_8_9)) rfl (by dsimp only; rw [he_1, he_2]; exact hP) (by dsimp only; rw [he_1, he_2]; exact hD)
def z4_meet (np : Int32) (gp : Nat → Int32) (nl : Int32) (gl : Nat → Int32) (i : Int32) (j : Int32) : Int32 := (z4_keepAcross 3 nl 3 np i j gl gp).1
def z4_meet_size1 (np : Int32) (gp : Nat → Int32) (nl : Int32) (gl : Nat → Int32) (i : Int32) (j : Int32) : Int32 := (z4_keepAcross 3 nl 3 np i j gl gp).2.1
def z4_meet_f2 (np : Int32) (gp : Nat → Int32) (nl : Int32) (gl : Nat → Int32) (i : Int32) (j : Int32) : Nat → Int32 := (z4_keepAcross 3 nl 3 np i j gl gp).2.2
set_option maxHeartbeats 4000000 in
set_option maxRecDepth 100000 in
/-- X4.meet -/
theorem c_X4_meet (l : Launch) (D : va_G) (cI cJ : ClassId) (o : Nat) (oP : Nat) (oL : Nat) (oC : Nat) (oX : Nat) (oY : Nat) (oF : Nat) (oS : Nat) (oT : Nat) (oM : Nat) (fL : Nat) (fR : Nat) (fN : Nat) (fM : Nat) (oR : Nat) (qp : Nat) (np : Int32) (gp : Nat → Int32) (ql : Nat) (nl : Int32) (gl : Nat → Int32) (x1 : Int64) (y1 : Int64) (z1 : Int64) (x2 : Int64) (y2 : Int64) (z2 : Int64) (x4 : Int64) (y4 : Int64) (z4 : Int64) (i : Int32) (j : Int32) (hsp : sh_ok 3 180 np) (hsl : sh_ok 3 180 nl) : mw_C l yX4_meet wsX4_meet ({ frames := 5, cells := 0, slots := 0, locals := 118 }) D cI cJ [.ref o, .int i, .int j] [kC o oP oL oC oX oY oF oS oT oM fL fR fN fM oR, kS oP 3 qp np, kA qp cI 180 gp, kS oL 3 ql nl, kA ql cI 180 gl, kT oF x1 y1 z1, kT oS x2 y2 z2, kT oM x4 y4 z4] (qe_i (fun (r : Int32) (_ : Int64 × Int64 × Int64 × Int64 × Int64 × Int64 × Int64 × Int64 × Int64) => r = z4_meet np gp nl gl i j) (fun uu => [kC o oP oL oC oX oY oF oS oT oM fL fR fN fM oR, kS oP 3 qp (z4_meet_size1 np gp nl gl i j), kA qp cI 180 (z4_meet_f2 np gp nl gl i j), kS oL 3 ql nl, kA ql cI 180 gl, kT oF uu.1 uu.2.1 uu.2.2.1, kT oS uu.2.2.2.1 uu.2.2.2.2.1 uu.2.2.2.2.2.1, kT oM uu.2.2.2.2.2.2.1 uu.2.2.2.2.2.2.2.1 uu.2.2.2.2.2.2.2.2])) := by
  refine mw_in (cc := cX4_meet) (lv := [(0, .ref o), (1, .int i), (2, .int j)]) (by decide) rfl (Nat.le_of_ble_eq_true rfl) rfl ?_
  intro pG eG sG mG below meth cG ls A hx hb hr hml hown hts hlk hin hP hK hD hA hS hl
  have hown : sG.vm.findClass RX4 = some mG.cls := hown
  have k_1 := hts (.fieldLink RX4 18 "ConicRows" "lines" "LConicRows$Shelf;") (by decide +kernel)
  have k_2 : ∀ w ∈ wsX40, w ∈ wsX4_meet := by decide +kernel
  have k_3 := hts (.fieldLink RX4 14 "ConicRows" "points" "LConicRows$Shelf;") (by decide +kernel)
  refine lv_aload_n hx hb dX4_meet_0 rfl (lv_at hl 0 rfl) ?_
  refine lv_aload_n hx hb dX4_meet_1 rfl (lv_at hl 0 rfl) ?_
  refine va_get (D := D) (ci := 4) (v := .ref oL) (C := RX4) (T := TX4) (N := 14) hx hb hts k_2 hown hK.1 hP 0 rfl rfl 1 (by decide) k_1 (fun _ h9 => h9) rfl dX4_meet_2 ?_
  refine lv_iload_n hx hb dX4_meet_5 rfl (lv_at hl 1 rfl) ?_
  refine lv_iload_n hx hb dX4_meet_6 rfl (lv_at hl 2 rfl) ?_
  refine lv_aload_n hx hb dX4_meet_7 rfl (lv_at hl 0 rfl) ?_
  refine va_get (D := D) (ci := 4) (v := .ref oP) (C := RX4) (T := TX4) (N := 14) hx hb hts k_2 hown hK.1 hP 0 rfl rfl 0 (by decide) k_3 (fun _ h9 => h9) rfl dX4_meet_8 ?_
  have hPc := hP.sub (ws' := [kC o oP oL oC oX oY oF oS oT oM fL fR fN fM oR, kS oL 3 ql nl, kA ql cI 180 gl, kS oP 3 qp np, kA qp cI 180 gp, kT oF x1 y1 z1, kT oS x2 y2 z2, kT oM x4 y4 z4]) [0, 3, 4, 1, 2, 5, 6, 7] rfl
  have hDc := hD.sub (ws' := [kC o oP oL oC oX oY oF oS oT oM fL fR fN fM oR, kS oL 3 ql nl, kA ql cI 180 gl, kS oP 3 qp np, kA qp cI 180 gp, kT oF x1 y1 z1, kT oS x2 y2 z2, kT oM x4 y4 z4]) [0, 3, 4, 1, 2, 5, 6, 7] (by decide) rfl
  refine cl_i (wc := [kC o oP oL oC oX oY oF oS oT oM fL fR fN fM oR, kS oL 3 ql nl, kA ql cI 180 gl, kS oP 3 qp np, kA qp cI 180 gp, kT oF x1 y1 z1, kT oS x2 y2 z2, kT oM x4 y4 z4]) (wr := []) (w1 := fun uu : Int64 × Int64 × Int64 × Int64 × Int64 × Int64 × Int64 × Int64 × Int64 => [kC o oP oL oC oX oY oF oS oT oM fL fR fN fM oR, kS oL 3 ql nl, kA ql cI 180 gl, kS oP 3 qp ((z4_keepAcross 3 nl 3 np i j gl gp).2.1), kA qp cI 180 ((z4_keepAcross 3 nl 3 np i j gl gp).2.2), kT oF uu.1 uu.2.1 uu.2.2.1, kT oS uu.2.2.2.1 uu.2.2.2.2.1 uu.2.2.2.2.2.1, kT oM uu.2.2.2.2.2.2.1 uu.2.2.2.2.2.2.2.1 uu.2.2.2.2.2.2.2.2]) (wn := fun uu : Int64 × Int64 × Int64 × Int64 × Int64 × Int64 × Int64 × Int64 × Int64 => [kC o oP oL oC oX oY oF oS oT oM fL fR fN fM oR, kS oP 3 qp ((z4_keepAcross 3 nl 3 np i j gl gp).2.1), kA qp cI 180 ((z4_keepAcross 3 nl 3 np i j gl gp).2.2), kS oL 3 ql nl, kA ql cI 180 gl, kT oF uu.1 uu.2.1 uu.2.2.1, kT oS uu.2.2.2.1 uu.2.2.2.2.1 uu.2.2.2.2.2.1, kT oM uu.2.2.2.2.2.2.1 uu.2.2.2.2.2.2.2.1 uu.2.2.2.2.2.2.2.2]) (va_runV (As := [.ref oL, .int i, .int j, .ref oP]) (rest := []) ⟨hx, hb, hml, hown, hts⟩ (c_X4_keepAcross l D cI cJ o oP oL oC oX oY oF oS oT oM fL fR fN fM oR oL ql 180 oP qp 180 3 nl 3 np i j gl gp x1 y1 z1 x2 y2 z2 x4 y4 z4 hsl hsp _) (cwV 4 hts gX4_meet_X4_keepAcross rfl rfl rfl (by decide +kernel) ⟨Nat.le_of_ble_eq_true rfl, Nat.le_of_ble_eq_true rfl⟩) ⟨gd_blP, va_recv hK.1 hPc (ci := 4) (q0 := 0) rfl rfl, gd_prP hPc hK hDc⟩ rfl rfl hl.1 rfl (lv_room (Nat.le_of_ble_eq_true rfl)) dX4_meet_11 ⟨Nat.zero_le _, Nat.zero_le _⟩) hP hD hS hA [0, 3, 4, 1, 2, 5, 6, 7] [] rfl rfl (by decide) (by decide) [0, 3, 4, 1, 2, 5, 6, 7] (by decide) (fun _ => rfl) (fun r_11 uG H locs hw hP hD hS => ?_)
  obtain ⟨y_11_0_1, y_11_1_2, y_11_2_3, y_11_3_4, y_11_4_5, y_11_5_6, y_11_6_7, y_11_7_8, y_11_8_9⟩ := uG
  have hP : va_P D vwCl [kC o oP oL oC oX oY oF oS oT oM fL fR fN fM oR, kS oP 3 qp ((z4_keepAcross 3 nl 3 np i j gl gp).2.1), kA qp cI 180 ((z4_keepAcross 3 nl 3 np i j gl gp).2.2), kS oL 3 ql nl, kA ql cI 180 gl, kT oF y_11_0_1 y_11_1_2 y_11_2_3, kT oS y_11_3_4 y_11_4_5 y_11_5_6, kT oM y_11_6_7 y_11_7_8 y_11_8_9] H := hP
  have hD : va_D A [kC o oP oL oC oX oY oF oS oT oM fL fR fN fM oR, kS oP 3 qp ((z4_keepAcross 3 nl 3 np i j gl gp).2.1), kA qp cI 180 ((z4_keepAcross 3 nl 3 np i j gl gp).2.2), kS oL 3 ql nl, kA ql cI 180 gl, kT oF y_11_0_1 y_11_1_2 y_11_2_3, kT oS y_11_3_4 y_11_4_5 y_11_5_6, kT oM y_11_6_7 y_11_7_8 y_11_8_9] := hD
  subst hw
  clear hPc hDc
  have he_1 : z4_meet_size1 np gp nl gl i j = (z4_keepAcross 3 nl 3 np i j gl gp).2.1 := by delta z4_meet_size1; rfl
  have he_2 : z4_meet_f2 np gp nl gl i j = (z4_keepAcross 3 nl 3 np i j gl gp).2.2 := by delta z4_meet_f2; rfl
  exact rt_i (w1 := fun uu : Int64 × Int64 × Int64 × Int64 × Int64 × Int64 × Int64 × Int64 × Int64 => [kC o oP oL oC oX oY oF oS oT oM fL fR fN fM oR, kS oP 3 qp (z4_meet_size1 np gp nl gl i j), kA qp cI 180 (z4_meet_f2 np gp nl gl i j), kS oL 3 ql nl, kA ql cI 180 gl, kT oF uu.1 uu.2.1 uu.2.2.1, kT oS uu.2.2.2.1 uu.2.2.2.2.1 uu.2.2.2.2.2.1, kT oM uu.2.2.2.2.2.2.1 uu.2.2.2.2.2.2.2.1 uu.2.2.2.2.2.2.2.2]) hx hb hr hlk hS dX4_meet_14 ((y_11_0_1, y_11_1_2, y_11_2_3, y_11_3_4, y_11_4_5, y_11_5_6, y_11_6_7, y_11_7_8, y_11_8_9)) rfl (by dsimp only; rw [he_1, he_2]; exact hP) (by dsimp only; rw [he_1, he_2]; exact hD)
def z4_on_v1 (np : Int32) (gp : Nat → Int32) (nl : Int32) (gl : Nat → Int32) (i : Int32) (p : Int32) : Int64 := z3_times (z3_read_x 3 nl i gl) (z3_read_y 3 nl i gl) (z3_read_z 3 nl i gl) (z3_read_x 3 np p gp) (z3_read_y 3 np p gp) (z3_read_z 3 np p gp)
def z4_on_v2 (np : Int32) (gp : Nat → Int32) (nc : Int32) (gc : Nat → Int32) (i : Int32) (p : Int32) : Int64 := z0_valueAt (z0_read_a 6 nc i gc) (z0_read_b 6 nc i gc) (z0_read_c 6 nc i gc) (z0_read_d 6 nc i gc) (z0_read_e 6 nc i gc) (z0_read_f 6 nc i gc) (z3_read_x 3 np p gp) (z3_read_y 3 np p gp) (z3_read_z 3 np p gp)
def z4_on (np : Int32) (gp : Nat → Int32) (nl : Int32) (gl : Nat → Int32) (nc : Int32) (gc : Nat → Int32) (s : Int32) (i : Int32) (p : Int32) : Int32 := if s = 1 then if (z2_has nl i) = 0 then (-1000002) else if (z2_has np p) = 0 then (-1000002) else if (z4_on_v1 np gp nl gl i p) = 0 then 1 else 0 else if s = 2 then if (z2_has nc i) = 0 then (-1000002) else if (z2_has np p) = 0 then (-1000002) else if (z4_on_v2 np gp nc gc i p) = 0 then 1 else 0 else (-1000003)
set_option maxHeartbeats 4000000 in
set_option maxRecDepth 100000 in
/-- X4.on -/
theorem c_X4_on (l : Launch) (D : va_G) (cI cJ : ClassId) (o : Nat) (oP : Nat) (oL : Nat) (oC : Nat) (oX : Nat) (oY : Nat) (oF : Nat) (oS : Nat) (oT : Nat) (oM : Nat) (fL : Nat) (fR : Nat) (fN : Nat) (fM : Nat) (oR : Nat) (qp : Nat) (np : Int32) (gp : Nat → Int32) (ql : Nat) (nl : Int32) (gl : Nat → Int32) (qc : Nat) (nc : Int32) (gc : Nat → Int32) (x1 : Int64) (y1 : Int64) (z1 : Int64) (x2 : Int64) (y2 : Int64) (z2 : Int64) (a5 : Int64) (b5 : Int64) (c5 : Int64) (d5 : Int64) (e5 : Int64) (f5 : Int64) (s : Int32) (i : Int32) (p : Int32) (hsp : sh_ok 3 180 np) (hsl : sh_ok 3 180 nl) (hsc : sh_ok 6 360 nc) : mw_C l yX4_on wsX4_on ({ frames := 3, cells := 0, slots := 0, locals := 65 }) D cI cJ [.ref o, .int s, .int i, .int p] [kC o oP oL oC oX oY oF oS oT oM fL fR fN fM oR, kS oP 3 qp np, kA qp cI 180 gp, kS oL 3 ql nl, kA ql cI 180 gl, kS oC 6 qc nc, kA qc cI 360 gc, kT oF x1 y1 z1, kT oS x2 y2 z2, kF fL a5 b5 c5 d5 e5 f5] (qe_i (fun (r : Int32) (_ : Int64 × Int64 × Int64 × Int64 × Int64 × Int64 × Int64 × Int64 × Int64 × Int64 × Int64 × Int64) => r = z4_on np gp nl gl nc gc s i p) (fun uu => [kC o oP oL oC oX oY oF oS oT oM fL fR fN fM oR, kS oP 3 qp np, kA qp cI 180 gp, kS oL 3 ql nl, kA ql cI 180 gl, kS oC 6 qc nc, kA qc cI 360 gc, kT oF uu.1 uu.2.1 uu.2.2.1, kT oS uu.2.2.2.1 uu.2.2.2.2.1 uu.2.2.2.2.2.1, kF fL uu.2.2.2.2.2.2.1 uu.2.2.2.2.2.2.2.1 uu.2.2.2.2.2.2.2.2.1 uu.2.2.2.2.2.2.2.2.2.1 uu.2.2.2.2.2.2.2.2.2.2.1 uu.2.2.2.2.2.2.2.2.2.2.2])) := by
  refine mw_in (cc := cX4_on) (lv := [(0, .ref o), (1, .int s), (2, .int i), (3, .int p)]) (by decide) rfl (Nat.le_of_ble_eq_true rfl) rfl ?_
  intro pG eG sG mG below meth cG ls A hx hb hr hml hown hts hlk hin hP hK hD hA hS hl
  have hown : sG.vm.findClass RX4 = some mG.cls := hown
  have k_1 := hts (.fieldLink RX4 18 "ConicRows" "lines" "LConicRows$Shelf;") (by decide +kernel)
  have k_2 : ∀ w ∈ wsX40, w ∈ wsX4_on := by decide +kernel
  have k_3 := hts (.constant RX4 108 (-1000002)) (by decide +kernel)
  have k_4 := hts (.fieldLink RX4 14 "ConicRows" "points" "LConicRows$Shelf;") (by decide +kernel)
  have k_5 := hts (.fieldLink RX4 37 "ConicRows" "first" "LConicRows$Triple;") (by decide +kernel)
  have k_6 := hts (.fieldLink RX4 41 "ConicRows" "second" "LConicRows$Triple;") (by decide +kernel)
  have k_7 := hts (.fieldLink RX4 21 "ConicRows" "conics" "LConicRows$Shelf;") (by decide +kernel)
  have k_8 := hts (.fieldLink RX4 53 "ConicRows" "left" "LConicRows$Form;") (by decide +kernel)
  have k_9 := hts (.constant RX4 91 (-1000003)) (by decide +kernel)
  refine lv_iload_n hx hb dX4_on_0 rfl (lv_at hl 1 rfl) ?_
  refine lv_iconst (v := 1) hx hb dX4_on_1 (by decide) ?_
  refine lv_icmp_eq (tgt := 13) hx hb dX4_on_2 (by decide) (fun c_1 => ?_) (fun c_1 => ?_)
  · skip
    refine lv_iload_n hx hb dX4_on_13 rfl (lv_at hl 1 rfl) ?_
    refine lv_iconst (v := 1) hx hb dX4_on_14 (by decide) ?_
    refine lv_icmp_ne (tgt := 25) hx hb dX4_on_15 (by decide) (fun h => absurd c_1 h) (fun _ => ?_)
    refine lv_aload_n hx hb dX4_on_18 rfl (lv_at hl 0 rfl) ?_
    refine va_get (D := D) (ci := 4) (v := .ref oL) (C := RX4) (T := TX4) (N := 14) hx hb hts k_2 hown hK.1 hP 0 rfl rfl 1 (by decide) k_1 (fun _ h9 => h9) rfl dX4_on_19 ?_
    refine lv_goto (tgt := 29) hx hb dX4_on_22 (by decide) ?_
    refine lv_astore (lv' := [(4, .ref oL), (0, .ref o), (1, .int s), (2, .int i), (3, .int p)]) hx hb dX4_on_29 hl (by decide) rfl (fun ls hl => ?_)
    refine lv_aload hx hb dX4_on_31 (lv_at hl 0 rfl) ?_
    refine lv_iload_n hx hb dX4_on_33 rfl (lv_at hl 3 rfl) ?_
    have hPc := hP.sub (ws' := [kS oL 3 ql nl]) [3] rfl
    refine cr_i (va_runV (As := [.int i]) (rest := []) ⟨hx, hb, hml, hown, hts⟩ (c_X2_has l D cI cJ oL ql 3 nl i) (cwV 1 hts gX4_on_X2_has rfl rfl rfl (by decide +kernel) ⟨Nat.le_of_ble_eq_true rfl, Nat.le_of_ble_eq_true rfl⟩) ⟨gd_blR, va_recv hK.1 hPc (ci := 2) (q0 := 0) rfl rfl, gd_prR hPc hK⟩ rfl rfl hl.1 rfl (lv_room (Nat.le_of_ble_eq_true rfl)) dX4_on_34 ⟨Nat.zero_le _, Nat.zero_le _⟩) (fun r_34 hw => ?_)
    subst hw
    clear hPc
    refine lv_if_eq (tgt := 51) hx hb dX4_on_37 (by decide) (fun c_2 => ?_) (fun c_2 => ?_)
    · skip
      refine lv_ldc hx hb hown k_3 dX4_on_51 ?_
      have he : z4_on np gp nl gl nc gc s i p = (-1000002) := by unfold z4_on; rw [if_pos c_1, if_pos c_2]
      exact rt_i (w1 := fun uu : Int64 × Int64 × Int64 × Int64 × Int64 × Int64 × Int64 × Int64 × Int64 × Int64 × Int64 × Int64 => [kC o oP oL oC oX oY oF oS oT oM fL fR fN fM oR, kS oP 3 qp np, kA qp cI 180 gp, kS oL 3 ql nl, kA ql cI 180 gl, kS oC 6 qc nc, kA qc cI 360 gc, kT oF uu.1 uu.2.1 uu.2.2.1, kT oS uu.2.2.2.1 uu.2.2.2.2.1 uu.2.2.2.2.2.1, kF fL uu.2.2.2.2.2.2.1 uu.2.2.2.2.2.2.2.1 uu.2.2.2.2.2.2.2.2.1 uu.2.2.2.2.2.2.2.2.2.1 uu.2.2.2.2.2.2.2.2.2.2.1 uu.2.2.2.2.2.2.2.2.2.2.2]) hx hb hr hlk hS dX4_on_53 ((x1, y1, z1, x2, y2, z2, a5, b5, c5, d5, e5, f5)) he.symm (by dsimp only; exact hP) (by dsimp only; exact hD)
    · skip
      refine lv_aload_n hx hb dX4_on_40 rfl (lv_at hl 1 rfl) ?_
      refine va_get (D := D) (ci := 4) (v := .ref oP) (C := RX4) (T := TX4) (N := 14) hx hb hts k_2 hown hK.1 hP 0 rfl rfl 0 (by decide) k_4 (fun _ h9 => h9) rfl dX4_on_41 ?_
      refine lv_iload_n hx hb dX4_on_44 rfl (lv_at hl 4 rfl) ?_
      have hPc := hP.sub (ws' := [kS oP 3 qp np]) [1] rfl
      refine cr_i (va_runV (As := [.int p]) (rest := []) ⟨hx, hb, hml, hown, hts⟩ (c_X2_has l D cI cJ oP qp 3 np p) (cwV 1 hts gX4_on_X2_has rfl rfl rfl (by decide +kernel) ⟨Nat.le_of_ble_eq_true rfl, Nat.le_of_ble_eq_true rfl⟩) ⟨gd_blR, va_recv hK.1 hPc (ci := 2) (q0 := 0) rfl rfl, gd_prR hPc hK⟩ rfl rfl hl.1 rfl (lv_room (Nat.le_of_ble_eq_true rfl)) dX4_on_45 ⟨Nat.zero_le _, Nat.zero_le _⟩) (fun r_45 hw => ?_)
      subst hw
      clear hPc
      refine lv_if_ne (tgt := 54) hx hb dX4_on_48 (by decide) (fun c_3 => ?_) (fun c_3 => ?_)
      · skip
        refine lv_aload_n hx hb dX4_on_54 rfl (lv_at hl 1 rfl) ?_
        refine va_get (D := D) (ci := 4) (v := .ref oF) (C := RX4) (T := TX4) (N := 14) hx hb hts k_2 hown hK.1 hP 0 rfl rfl 5 (by decide) k_5 (fun _ h9 => h9) rfl dX4_on_55 ?_
        refine lv_aload_n hx hb dX4_on_58 rfl (lv_at hl 1 rfl) ?_
        refine va_get (D := D) (ci := 4) (v := .ref oP) (C := RX4) (T := TX4) (N := 14) hx hb hts k_2 hown hK.1 hP 0 rfl rfl 0 (by decide) k_4 (fun _ h9 => h9) rfl dX4_on_59 ?_
        refine lv_iload_n hx hb dX4_on_62 rfl (lv_at hl 4 rfl) ?_
        have hPc := hP.sub (ws' := [kT oF x1 y1 z1, kS oP 3 qp np, kA qp cI 180 gp]) [7, 1, 2] rfl
        have hDc := hD.sub (ws' := [kT oF x1 y1 z1, kS oP 3 qp np, kA qp cI 180 gp]) [7, 1, 2] (by decide) rfl
        refine cl_v (wc := [kT oF x1 y1 z1, kS oP 3 qp np, kA qp cI 180 gp]) (wr := [kC o oP oL oC oX oY oF oS oT oM fL fR fN fM oR, kS oL 3 ql nl, kA ql cI 180 gl, kS oC 6 qc nc, kA qc cI 360 gc, kT oS x2 y2 z2, kF fL a5 b5 c5 d5 e5 f5]) (w1 := fun uu : Unit => [kT oF (z3_read_x 3 np p gp) (z3_read_y 3 np p gp) (z3_read_z 3 np p gp), kS oP 3 qp np, kA qp cI 180 gp]) (wn := fun uu : Unit => [kC o oP oL oC oX oY oF oS oT oM fL fR fN fM oR, kS oP 3 qp np, kA qp cI 180 gp, kS oL 3 ql nl, kA ql cI 180 gl, kS oC 6 qc nc, kA qc cI 360 gc, kT oF (z3_read_x 3 np p gp) (z3_read_y 3 np p gp) (z3_read_z 3 np p gp), kT oS x2 y2 z2, kF fL a5 b5 c5 d5 e5 f5]) (va_runV (As := [.ref oP, .int p]) (rest := []) ⟨hx, hb, hml, hown, hts⟩ (c_X3_read l D cI cJ oF oP qp 180 x1 y1 z1 3 np p gp hsp _) (cwV 2 hts gX4_on_X3_read rfl rfl rfl (by decide +kernel) ⟨Nat.le_of_ble_eq_true rfl, Nat.le_of_ble_eq_true rfl⟩) ⟨gd_blP, va_recv hK.1 hPc (ci := 3) (q0 := 0) rfl rfl, gd_prP hPc hK hDc⟩ rfl rfl hl.1 rfl (lv_room (Nat.le_of_ble_eq_true rfl)) dX4_on_63 ⟨Nat.zero_le _, Nat.zero_le _⟩) hP hD hS hA [7, 1, 2] [0, 3, 4, 5, 6, 8, 9] rfl rfl (by decide) (by decide) [0, 8, 9, 1, 2, 3, 4, 7, 5, 6] (by decide) (fun _ => rfl) (fun uG H locs hw hP hD hS => ?_)
        have hP : va_P D vwCl [kC o oP oL oC oX oY oF oS oT oM fL fR fN fM oR, kS oP 3 qp np, kA qp cI 180 gp, kS oL 3 ql nl, kA ql cI 180 gl, kS oC 6 qc nc, kA qc cI 360 gc, kT oF (z3_read_x 3 np p gp) (z3_read_y 3 np p gp) (z3_read_z 3 np p gp), kT oS x2 y2 z2, kF fL a5 b5 c5 d5 e5 f5] H := hP
        have hD : va_D A [kC o oP oL oC oX oY oF oS oT oM fL fR fN fM oR, kS oP 3 qp np, kA qp cI 180 gp, kS oL 3 ql nl, kA ql cI 180 gl, kS oC 6 qc nc, kA qc cI 360 gc, kT oF (z3_read_x 3 np p gp) (z3_read_y 3 np p gp) (z3_read_z 3 np p gp), kT oS x2 y2 z2, kF fL a5 b5 c5 d5 e5 f5] := hD
        clear hPc hDc
        refine lv_iload_n hx hb dX4_on_66 rfl (lv_at hl 2 rfl) ?_
        refine lv_iconst (v := 1) hx hb dX4_on_67 (by decide) ?_
        refine lv_icmp_ne (tgt := 105) hx hb dX4_on_68 (by decide) (fun h => absurd c_1 h) (fun _ => ?_)
        refine lv_aload_n hx hb dX4_on_71 rfl (lv_at hl 1 rfl) ?_
        refine va_get (D := D) (ci := 4) (v := .ref oS) (C := RX4) (T := TX4) (N := 14) hx hb hts k_2 hown hK.1 hP 0 rfl rfl 6 (by decide) k_6 (fun _ h9 => h9) rfl dX4_on_72 ?_
        refine lv_aload_n hx hb dX4_on_75 rfl (lv_at hl 1 rfl) ?_
        refine va_get (D := D) (ci := 4) (v := .ref oL) (C := RX4) (T := TX4) (N := 14) hx hb hts k_2 hown hK.1 hP 0 rfl rfl 1 (by decide) k_1 (fun _ h9 => h9) rfl dX4_on_76 ?_
        refine lv_iload_n hx hb dX4_on_79 rfl (lv_at hl 3 rfl) ?_
        have hPc := hP.sub (ws' := [kT oS x2 y2 z2, kS oL 3 ql nl, kA ql cI 180 gl]) [8, 3, 4] rfl
        have hDc := hD.sub (ws' := [kT oS x2 y2 z2, kS oL 3 ql nl, kA ql cI 180 gl]) [8, 3, 4] (by decide) rfl
        refine cl_v (wc := [kT oS x2 y2 z2, kS oL 3 ql nl, kA ql cI 180 gl]) (wr := [kC o oP oL oC oX oY oF oS oT oM fL fR fN fM oR, kS oP 3 qp np, kA qp cI 180 gp, kS oC 6 qc nc, kA qc cI 360 gc, kT oF (z3_read_x 3 np p gp) (z3_read_y 3 np p gp) (z3_read_z 3 np p gp), kF fL a5 b5 c5 d5 e5 f5]) (w1 := fun uu : Unit => [kT oS (z3_read_x 3 nl i gl) (z3_read_y 3 nl i gl) (z3_read_z 3 nl i gl), kS oL 3 ql nl, kA ql cI 180 gl]) (wn := fun uu : Unit => [kC o oP oL oC oX oY oF oS oT oM fL fR fN fM oR, kS oP 3 qp np, kA qp cI 180 gp, kS oL 3 ql nl, kA ql cI 180 gl, kS oC 6 qc nc, kA qc cI 360 gc, kT oF (z3_read_x 3 np p gp) (z3_read_y 3 np p gp) (z3_read_z 3 np p gp), kT oS (z3_read_x 3 nl i gl) (z3_read_y 3 nl i gl) (z3_read_z 3 nl i gl), kF fL a5 b5 c5 d5 e5 f5]) (va_runV (As := [.ref oL, .int i]) (rest := []) ⟨hx, hb, hml, hown, hts⟩ (c_X3_read l D cI cJ oS oL ql 180 x2 y2 z2 3 nl i gl hsl _) (cwV 2 hts gX4_on_X3_read rfl rfl rfl (by decide +kernel) ⟨Nat.le_of_ble_eq_true rfl, Nat.le_of_ble_eq_true rfl⟩) ⟨gd_blP, va_recv hK.1 hPc (ci := 3) (q0 := 0) rfl rfl, gd_prP hPc hK hDc⟩ rfl rfl hl.1 rfl (lv_room (Nat.le_of_ble_eq_true rfl)) dX4_on_80 ⟨Nat.zero_le _, Nat.zero_le _⟩) hP hD hS hA [8, 3, 4] [0, 1, 2, 5, 6, 7, 9] rfl rfl (by decide) (by decide) [0, 1, 2, 8, 9, 3, 4, 5, 7, 6] (by decide) (fun _ => rfl) (fun uG H locs hw hP hD hS => ?_)
        have hP : va_P D vwCl [kC o oP oL oC oX oY oF oS oT oM fL fR fN fM oR, kS oP 3 qp np, kA qp cI 180 gp, kS oL 3 ql nl, kA ql cI 180 gl, kS oC 6 qc nc, kA qc cI 360 gc, kT oF (z3_read_x 3 np p gp) (z3_read_y 3 np p gp) (z3_read_z 3 np p gp), kT oS (z3_read_x 3 nl i gl) (z3_read_y 3 nl i gl) (z3_read_z 3 nl i gl), kF fL a5 b5 c5 d5 e5 f5] H := hP
        have hD : va_D A [kC o oP oL oC oX oY oF oS oT oM fL fR fN fM oR, kS oP 3 qp np, kA qp cI 180 gp, kS oL 3 ql nl, kA ql cI 180 gl, kS oC 6 qc nc, kA qc cI 360 gc, kT oF (z3_read_x 3 np p gp) (z3_read_y 3 np p gp) (z3_read_z 3 np p gp), kT oS (z3_read_x 3 nl i gl) (z3_read_y 3 nl i gl) (z3_read_z 3 nl i gl), kF fL a5 b5 c5 d5 e5 f5] := hD
        clear hPc hDc
        refine lv_aload_n hx hb dX4_on_83 rfl (lv_at hl 1 rfl) ?_
        refine va_get (D := D) (ci := 4) (v := .ref oS) (C := RX4) (T := TX4) (N := 14) hx hb hts k_2 hown hK.1 hP 0 rfl rfl 6 (by decide) k_6 (fun _ h9 => h9) rfl dX4_on_84 ?_
        refine lv_aload_n hx hb dX4_on_87 rfl (lv_at hl 1 rfl) ?_
        refine va_get (D := D) (ci := 4) (v := .ref oF) (C := RX4) (T := TX4) (N := 14) hx hb hts k_2 hown hK.1 hP 0 rfl rfl 5 (by decide) k_5 (fun _ h9 => h9) rfl dX4_on_88 ?_
        have hPc := hP.sub (ws' := [kT oS (z3_read_x 3 nl i gl) (z3_read_y 3 nl i gl) (z3_read_z 3 nl i gl), kT oF (z3_read_x 3 np p gp) (z3_read_y 3 np p gp) (z3_read_z 3 np p gp)]) [8, 7] rfl
        refine cr_l (va_runV (As := [.ref oF]) (rest := []) ⟨hx, hb, hml, hown, hts⟩ (c_X3_times l D cI cJ oS oF (z3_read_x 3 nl i gl) (z3_read_y 3 nl i gl) (z3_read_z 3 nl i gl) (z3_read_x 3 np p gp) (z3_read_y 3 np p gp) (z3_read_z 3 np p gp)) (cwV 1 hts gX4_on_X3_times rfl rfl rfl (by decide +kernel) ⟨Nat.le_of_ble_eq_true rfl, Nat.le_of_ble_eq_true rfl⟩) ⟨gd_blR, va_recv hK.1 hPc (ci := 3) (q0 := 0) rfl rfl, gd_prR hPc hK⟩ rfl rfl hl.1 rfl (lv_room (Nat.le_of_ble_eq_true rfl)) dX4_on_91 ⟨Nat.zero_le _, Nat.zero_le _⟩) (fun r_91 hw => ?_)
        subst hw
        clear hPc
        refine lv_eql (v := z4_on_v1 np gp nl gl i p) (by delta z4_on_v1; rfl) ?_
        refine lv_lconst (v := 0) hx hb dX4_on_94 (by decide) ?_
        refine lb_ne (tgt := 103) hx hb dX4_on_95 rfl dX4_on_96 (by decide) (fun c_4 => ?_) (fun c_4 => ?_)
        · skip
          refine lv_iconst (v := 0) hx hb dX4_on_103 (by decide) ?_
          have he : z4_on np gp nl gl nc gc s i p = 0 := by unfold z4_on; rw [if_pos c_1, if_neg c_2, if_neg c_3, if_neg c_4]
          exact rt_i (w1 := fun uu : Int64 × Int64 × Int64 × Int64 × Int64 × Int64 × Int64 × Int64 × Int64 × Int64 × Int64 × Int64 => [kC o oP oL oC oX oY oF oS oT oM fL fR fN fM oR, kS oP 3 qp np, kA qp cI 180 gp, kS oL 3 ql nl, kA ql cI 180 gl, kS oC 6 qc nc, kA qc cI 360 gc, kT oF uu.1 uu.2.1 uu.2.2.1, kT oS uu.2.2.2.1 uu.2.2.2.2.1 uu.2.2.2.2.2.1, kF fL uu.2.2.2.2.2.2.1 uu.2.2.2.2.2.2.2.1 uu.2.2.2.2.2.2.2.2.1 uu.2.2.2.2.2.2.2.2.2.1 uu.2.2.2.2.2.2.2.2.2.2.1 uu.2.2.2.2.2.2.2.2.2.2.2]) hx hb hr hlk hS dX4_on_104 ((z3_read_x 3 np p gp, z3_read_y 3 np p gp, z3_read_z 3 np p gp, z3_read_x 3 nl i gl, z3_read_y 3 nl i gl, z3_read_z 3 nl i gl, a5, b5, c5, d5, e5, f5)) he.symm (by dsimp only; exact hP) (by dsimp only; exact hD)
        · skip
          refine lv_iconst (v := 1) hx hb dX4_on_99 (by decide) ?_
          refine lv_goto (tgt := 104) hx hb dX4_on_100 (by decide) ?_
          have he : z4_on np gp nl gl nc gc s i p = 1 := by unfold z4_on; rw [if_pos c_1, if_neg c_2, if_neg c_3, if_pos c_4]
          exact rt_i (w1 := fun uu : Int64 × Int64 × Int64 × Int64 × Int64 × Int64 × Int64 × Int64 × Int64 × Int64 × Int64 × Int64 => [kC o oP oL oC oX oY oF oS oT oM fL fR fN fM oR, kS oP 3 qp np, kA qp cI 180 gp, kS oL 3 ql nl, kA ql cI 180 gl, kS oC 6 qc nc, kA qc cI 360 gc, kT oF uu.1 uu.2.1 uu.2.2.1, kT oS uu.2.2.2.1 uu.2.2.2.2.1 uu.2.2.2.2.2.1, kF fL uu.2.2.2.2.2.2.1 uu.2.2.2.2.2.2.2.1 uu.2.2.2.2.2.2.2.2.1 uu.2.2.2.2.2.2.2.2.2.1 uu.2.2.2.2.2.2.2.2.2.2.1 uu.2.2.2.2.2.2.2.2.2.2.2]) hx hb hr hlk hS dX4_on_104 ((z3_read_x 3 np p gp, z3_read_y 3 np p gp, z3_read_z 3 np p gp, z3_read_x 3 nl i gl, z3_read_y 3 nl i gl, z3_read_z 3 nl i gl, a5, b5, c5, d5, e5, f5)) he.symm (by dsimp only; exact hP) (by dsimp only; exact hD)
      · skip
        refine lv_ldc hx hb hown k_3 dX4_on_51 ?_
        have he : z4_on np gp nl gl nc gc s i p = (-1000002) := by unfold z4_on; rw [if_pos c_1, if_neg c_2, if_pos c_3]
        exact rt_i (w1 := fun uu : Int64 × Int64 × Int64 × Int64 × Int64 × Int64 × Int64 × Int64 × Int64 × Int64 × Int64 × Int64 => [kC o oP oL oC oX oY oF oS oT oM fL fR fN fM oR, kS oP 3 qp np, kA qp cI 180 gp, kS oL 3 ql nl, kA ql cI 180 gl, kS oC 6 qc nc, kA qc cI 360 gc, kT oF uu.1 uu.2.1 uu.2.2.1, kT oS uu.2.2.2.1 uu.2.2.2.2.1 uu.2.2.2.2.2.1, kF fL uu.2.2.2.2.2.2.1 uu.2.2.2.2.2.2.2.1 uu.2.2.2.2.2.2.2.2.1 uu.2.2.2.2.2.2.2.2.2.1 uu.2.2.2.2.2.2.2.2.2.2.1 uu.2.2.2.2.2.2.2.2.2.2.2]) hx hb hr hlk hS dX4_on_53 ((x1, y1, z1, x2, y2, z2, a5, b5, c5, d5, e5, f5)) he.symm (by dsimp only; exact hP) (by dsimp only; exact hD)
  · skip
    refine lv_iload_n hx hb dX4_on_5 rfl (lv_at hl 1 rfl) ?_
    refine lv_iconst (v := 2) hx hb dX4_on_6 (by decide) ?_
    refine lv_icmp_eq (tgt := 13) hx hb dX4_on_7 (by decide) (fun c_5 => ?_) (fun c_5 => ?_)
    · skip
      refine lv_iload_n hx hb dX4_on_13 rfl (lv_at hl 1 rfl) ?_
      refine lv_iconst (v := 1) hx hb dX4_on_14 (by decide) ?_
      refine lv_icmp_ne (tgt := 25) hx hb dX4_on_15 (by decide) (fun _ => ?_) (fun h => absurd h c_1)
      refine lv_aload_n hx hb dX4_on_25 rfl (lv_at hl 0 rfl) ?_
      refine va_get (D := D) (ci := 4) (v := .ref oC) (C := RX4) (T := TX4) (N := 14) hx hb hts k_2 hown hK.1 hP 0 rfl rfl 2 (by decide) k_7 (fun _ h9 => h9) rfl dX4_on_26 ?_
      refine lv_astore (lv' := [(4, .ref oC), (0, .ref o), (1, .int s), (2, .int i), (3, .int p)]) hx hb dX4_on_29 hl (by decide) rfl (fun ls hl => ?_)
      refine lv_aload hx hb dX4_on_31 (lv_at hl 0 rfl) ?_
      refine lv_iload_n hx hb dX4_on_33 rfl (lv_at hl 3 rfl) ?_
      have hPc := hP.sub (ws' := [kS oC 6 qc nc]) [5] rfl
      refine cr_i (va_runV (As := [.int i]) (rest := []) ⟨hx, hb, hml, hown, hts⟩ (c_X2_has l D cI cJ oC qc 6 nc i) (cwV 1 hts gX4_on_X2_has rfl rfl rfl (by decide +kernel) ⟨Nat.le_of_ble_eq_true rfl, Nat.le_of_ble_eq_true rfl⟩) ⟨gd_blR, va_recv hK.1 hPc (ci := 2) (q0 := 0) rfl rfl, gd_prR hPc hK⟩ rfl rfl hl.1 rfl (lv_room (Nat.le_of_ble_eq_true rfl)) dX4_on_34 ⟨Nat.zero_le _, Nat.zero_le _⟩) (fun r_34 hw => ?_)
      subst hw
      clear hPc
      refine lv_if_eq (tgt := 51) hx hb dX4_on_37 (by decide) (fun c_6 => ?_) (fun c_6 => ?_)
      · skip
        refine lv_ldc hx hb hown k_3 dX4_on_51 ?_
        have he : z4_on np gp nl gl nc gc s i p = (-1000002) := by unfold z4_on; rw [if_neg c_1, if_pos c_5, if_pos c_6]
        exact rt_i (w1 := fun uu : Int64 × Int64 × Int64 × Int64 × Int64 × Int64 × Int64 × Int64 × Int64 × Int64 × Int64 × Int64 => [kC o oP oL oC oX oY oF oS oT oM fL fR fN fM oR, kS oP 3 qp np, kA qp cI 180 gp, kS oL 3 ql nl, kA ql cI 180 gl, kS oC 6 qc nc, kA qc cI 360 gc, kT oF uu.1 uu.2.1 uu.2.2.1, kT oS uu.2.2.2.1 uu.2.2.2.2.1 uu.2.2.2.2.2.1, kF fL uu.2.2.2.2.2.2.1 uu.2.2.2.2.2.2.2.1 uu.2.2.2.2.2.2.2.2.1 uu.2.2.2.2.2.2.2.2.2.1 uu.2.2.2.2.2.2.2.2.2.2.1 uu.2.2.2.2.2.2.2.2.2.2.2]) hx hb hr hlk hS dX4_on_53 ((x1, y1, z1, x2, y2, z2, a5, b5, c5, d5, e5, f5)) he.symm (by dsimp only; exact hP) (by dsimp only; exact hD)
      · skip
        refine lv_aload_n hx hb dX4_on_40 rfl (lv_at hl 1 rfl) ?_
        refine va_get (D := D) (ci := 4) (v := .ref oP) (C := RX4) (T := TX4) (N := 14) hx hb hts k_2 hown hK.1 hP 0 rfl rfl 0 (by decide) k_4 (fun _ h9 => h9) rfl dX4_on_41 ?_
        refine lv_iload_n hx hb dX4_on_44 rfl (lv_at hl 4 rfl) ?_
        have hPc := hP.sub (ws' := [kS oP 3 qp np]) [1] rfl
        refine cr_i (va_runV (As := [.int p]) (rest := []) ⟨hx, hb, hml, hown, hts⟩ (c_X2_has l D cI cJ oP qp 3 np p) (cwV 1 hts gX4_on_X2_has rfl rfl rfl (by decide +kernel) ⟨Nat.le_of_ble_eq_true rfl, Nat.le_of_ble_eq_true rfl⟩) ⟨gd_blR, va_recv hK.1 hPc (ci := 2) (q0 := 0) rfl rfl, gd_prR hPc hK⟩ rfl rfl hl.1 rfl (lv_room (Nat.le_of_ble_eq_true rfl)) dX4_on_45 ⟨Nat.zero_le _, Nat.zero_le _⟩) (fun r_45 hw => ?_)
        subst hw
        clear hPc
        refine lv_if_ne (tgt := 54) hx hb dX4_on_48 (by decide) (fun c_7 => ?_) (fun c_7 => ?_)
        · skip
          refine lv_aload_n hx hb dX4_on_54 rfl (lv_at hl 1 rfl) ?_
          refine va_get (D := D) (ci := 4) (v := .ref oF) (C := RX4) (T := TX4) (N := 14) hx hb hts k_2 hown hK.1 hP 0 rfl rfl 5 (by decide) k_5 (fun _ h9 => h9) rfl dX4_on_55 ?_
          refine lv_aload_n hx hb dX4_on_58 rfl (lv_at hl 1 rfl) ?_
          refine va_get (D := D) (ci := 4) (v := .ref oP) (C := RX4) (T := TX4) (N := 14) hx hb hts k_2 hown hK.1 hP 0 rfl rfl 0 (by decide) k_4 (fun _ h9 => h9) rfl dX4_on_59 ?_
          refine lv_iload_n hx hb dX4_on_62 rfl (lv_at hl 4 rfl) ?_
          have hPc := hP.sub (ws' := [kT oF x1 y1 z1, kS oP 3 qp np, kA qp cI 180 gp]) [7, 1, 2] rfl
          have hDc := hD.sub (ws' := [kT oF x1 y1 z1, kS oP 3 qp np, kA qp cI 180 gp]) [7, 1, 2] (by decide) rfl
          refine cl_v (wc := [kT oF x1 y1 z1, kS oP 3 qp np, kA qp cI 180 gp]) (wr := [kC o oP oL oC oX oY oF oS oT oM fL fR fN fM oR, kS oL 3 ql nl, kA ql cI 180 gl, kS oC 6 qc nc, kA qc cI 360 gc, kT oS x2 y2 z2, kF fL a5 b5 c5 d5 e5 f5]) (w1 := fun uu : Unit => [kT oF (z3_read_x 3 np p gp) (z3_read_y 3 np p gp) (z3_read_z 3 np p gp), kS oP 3 qp np, kA qp cI 180 gp]) (wn := fun uu : Unit => [kC o oP oL oC oX oY oF oS oT oM fL fR fN fM oR, kS oP 3 qp np, kA qp cI 180 gp, kS oL 3 ql nl, kA ql cI 180 gl, kS oC 6 qc nc, kA qc cI 360 gc, kT oF (z3_read_x 3 np p gp) (z3_read_y 3 np p gp) (z3_read_z 3 np p gp), kT oS x2 y2 z2, kF fL a5 b5 c5 d5 e5 f5]) (va_runV (As := [.ref oP, .int p]) (rest := []) ⟨hx, hb, hml, hown, hts⟩ (c_X3_read l D cI cJ oF oP qp 180 x1 y1 z1 3 np p gp hsp _) (cwV 2 hts gX4_on_X3_read rfl rfl rfl (by decide +kernel) ⟨Nat.le_of_ble_eq_true rfl, Nat.le_of_ble_eq_true rfl⟩) ⟨gd_blP, va_recv hK.1 hPc (ci := 3) (q0 := 0) rfl rfl, gd_prP hPc hK hDc⟩ rfl rfl hl.1 rfl (lv_room (Nat.le_of_ble_eq_true rfl)) dX4_on_63 ⟨Nat.zero_le _, Nat.zero_le _⟩) hP hD hS hA [7, 1, 2] [0, 3, 4, 5, 6, 8, 9] rfl rfl (by decide) (by decide) [0, 8, 9, 1, 2, 3, 4, 7, 5, 6] (by decide) (fun _ => rfl) (fun uG H locs hw hP hD hS => ?_)
          have hP : va_P D vwCl [kC o oP oL oC oX oY oF oS oT oM fL fR fN fM oR, kS oP 3 qp np, kA qp cI 180 gp, kS oL 3 ql nl, kA ql cI 180 gl, kS oC 6 qc nc, kA qc cI 360 gc, kT oF (z3_read_x 3 np p gp) (z3_read_y 3 np p gp) (z3_read_z 3 np p gp), kT oS x2 y2 z2, kF fL a5 b5 c5 d5 e5 f5] H := hP
          have hD : va_D A [kC o oP oL oC oX oY oF oS oT oM fL fR fN fM oR, kS oP 3 qp np, kA qp cI 180 gp, kS oL 3 ql nl, kA ql cI 180 gl, kS oC 6 qc nc, kA qc cI 360 gc, kT oF (z3_read_x 3 np p gp) (z3_read_y 3 np p gp) (z3_read_z 3 np p gp), kT oS x2 y2 z2, kF fL a5 b5 c5 d5 e5 f5] := hD
          clear hPc hDc
          refine lv_iload_n hx hb dX4_on_66 rfl (lv_at hl 2 rfl) ?_
          refine lv_iconst (v := 1) hx hb dX4_on_67 (by decide) ?_
          refine lv_icmp_ne (tgt := 105) hx hb dX4_on_68 (by decide) (fun _ => ?_) (fun h => absurd h c_1)
          refine lv_aload_n hx hb dX4_on_105 rfl (lv_at hl 1 rfl) ?_
          refine va_get (D := D) (ci := 4) (v := .ref fL) (C := RX4) (T := TX4) (N := 14) hx hb hts k_2 hown hK.1 hP 0 rfl rfl 9 (by decide) k_8 (fun _ h9 => h9) rfl dX4_on_106 ?_
          refine lv_aload_n hx hb dX4_on_109 rfl (lv_at hl 1 rfl) ?_
          refine va_get (D := D) (ci := 4) (v := .ref oC) (C := RX4) (T := TX4) (N := 14) hx hb hts k_2 hown hK.1 hP 0 rfl rfl 2 (by decide) k_7 (fun _ h9 => h9) rfl dX4_on_110 ?_
          refine lv_iload_n hx hb dX4_on_113 rfl (lv_at hl 3 rfl) ?_
          have hPc := hP.sub (ws' := [kF fL a5 b5 c5 d5 e5 f5, kS oC 6 qc nc, kA qc cI 360 gc]) [9, 5, 6] rfl
          have hDc := hD.sub (ws' := [kF fL a5 b5 c5 d5 e5 f5, kS oC 6 qc nc, kA qc cI 360 gc]) [9, 5, 6] (by decide) rfl
          refine cl_v (wc := [kF fL a5 b5 c5 d5 e5 f5, kS oC 6 qc nc, kA qc cI 360 gc]) (wr := [kC o oP oL oC oX oY oF oS oT oM fL fR fN fM oR, kS oP 3 qp np, kA qp cI 180 gp, kS oL 3 ql nl, kA ql cI 180 gl, kT oF (z3_read_x 3 np p gp) (z3_read_y 3 np p gp) (z3_read_z 3 np p gp), kT oS x2 y2 z2]) (w1 := fun uu : Unit => [kF fL (z0_read_a 6 nc i gc) (z0_read_b 6 nc i gc) (z0_read_c 6 nc i gc) (z0_read_d 6 nc i gc) (z0_read_e 6 nc i gc) (z0_read_f 6 nc i gc), kS oC 6 qc nc, kA qc cI 360 gc]) (wn := fun uu : Unit => [kC o oP oL oC oX oY oF oS oT oM fL fR fN fM oR, kS oP 3 qp np, kA qp cI 180 gp, kS oL 3 ql nl, kA ql cI 180 gl, kS oC 6 qc nc, kA qc cI 360 gc, kT oF (z3_read_x 3 np p gp) (z3_read_y 3 np p gp) (z3_read_z 3 np p gp), kT oS x2 y2 z2, kF fL (z0_read_a 6 nc i gc) (z0_read_b 6 nc i gc) (z0_read_c 6 nc i gc) (z0_read_d 6 nc i gc) (z0_read_e 6 nc i gc) (z0_read_f 6 nc i gc)]) (va_runV (As := [.ref oC, .int i]) (rest := []) ⟨hx, hb, hml, hown, hts⟩ (c_X0_read l D cI cJ fL oC qc 360 a5 b5 c5 d5 e5 f5 6 nc i gc hsc _) (cwV 2 hts gX4_on_X0_read rfl rfl rfl (by decide +kernel) ⟨Nat.le_of_ble_eq_true rfl, Nat.le_of_ble_eq_true rfl⟩) ⟨gd_blP, va_recv hK.1 hPc (ci := 0) (q0 := 0) rfl rfl, gd_prP hPc hK hDc⟩ rfl rfl hl.1 rfl (lv_room (Nat.le_of_ble_eq_true rfl)) dX4_on_114 ⟨Nat.zero_le _, Nat.zero_le _⟩) hP hD hS hA [9, 5, 6] [0, 1, 2, 3, 4, 7, 8] rfl rfl (by decide) (by decide) [0, 1, 2, 3, 4, 8, 9, 5, 6, 7] (by decide) (fun _ => rfl) (fun uG H locs hw hP hD hS => ?_)
          have hP : va_P D vwCl [kC o oP oL oC oX oY oF oS oT oM fL fR fN fM oR, kS oP 3 qp np, kA qp cI 180 gp, kS oL 3 ql nl, kA ql cI 180 gl, kS oC 6 qc nc, kA qc cI 360 gc, kT oF (z3_read_x 3 np p gp) (z3_read_y 3 np p gp) (z3_read_z 3 np p gp), kT oS x2 y2 z2, kF fL (z0_read_a 6 nc i gc) (z0_read_b 6 nc i gc) (z0_read_c 6 nc i gc) (z0_read_d 6 nc i gc) (z0_read_e 6 nc i gc) (z0_read_f 6 nc i gc)] H := hP
          have hD : va_D A [kC o oP oL oC oX oY oF oS oT oM fL fR fN fM oR, kS oP 3 qp np, kA qp cI 180 gp, kS oL 3 ql nl, kA ql cI 180 gl, kS oC 6 qc nc, kA qc cI 360 gc, kT oF (z3_read_x 3 np p gp) (z3_read_y 3 np p gp) (z3_read_z 3 np p gp), kT oS x2 y2 z2, kF fL (z0_read_a 6 nc i gc) (z0_read_b 6 nc i gc) (z0_read_c 6 nc i gc) (z0_read_d 6 nc i gc) (z0_read_e 6 nc i gc) (z0_read_f 6 nc i gc)] := hD
          clear hPc hDc
          refine lv_aload_n hx hb dX4_on_117 rfl (lv_at hl 1 rfl) ?_
          refine va_get (D := D) (ci := 4) (v := .ref fL) (C := RX4) (T := TX4) (N := 14) hx hb hts k_2 hown hK.1 hP 0 rfl rfl 9 (by decide) k_8 (fun _ h9 => h9) rfl dX4_on_118 ?_
          refine lv_aload_n hx hb dX4_on_121 rfl (lv_at hl 1 rfl) ?_
          refine va_get (D := D) (ci := 4) (v := .ref oF) (C := RX4) (T := TX4) (N := 14) hx hb hts k_2 hown hK.1 hP 0 rfl rfl 5 (by decide) k_5 (fun _ h9 => h9) rfl dX4_on_122 ?_
          have hPc := hP.sub (ws' := [kF fL (z0_read_a 6 nc i gc) (z0_read_b 6 nc i gc) (z0_read_c 6 nc i gc) (z0_read_d 6 nc i gc) (z0_read_e 6 nc i gc) (z0_read_f 6 nc i gc), kT oF (z3_read_x 3 np p gp) (z3_read_y 3 np p gp) (z3_read_z 3 np p gp)]) [9, 7] rfl
          refine cr_l (va_runV (As := [.ref oF]) (rest := []) ⟨hx, hb, hml, hown, hts⟩ (c_X0_valueAt l D cI cJ fL oF (z0_read_a 6 nc i gc) (z0_read_b 6 nc i gc) (z0_read_c 6 nc i gc) (z0_read_d 6 nc i gc) (z0_read_e 6 nc i gc) (z0_read_f 6 nc i gc) (z3_read_x 3 np p gp) (z3_read_y 3 np p gp) (z3_read_z 3 np p gp)) (cwV 1 hts gX4_on_X0_valueAt rfl rfl rfl (by decide +kernel) ⟨Nat.le_of_ble_eq_true rfl, Nat.le_of_ble_eq_true rfl⟩) ⟨gd_blR, va_recv hK.1 hPc (ci := 0) (q0 := 0) rfl rfl, gd_prR hPc hK⟩ rfl rfl hl.1 rfl (lv_room (Nat.le_of_ble_eq_true rfl)) dX4_on_125 ⟨Nat.zero_le _, Nat.zero_le _⟩) (fun r_125 hw => ?_)
          subst hw
          clear hPc
          refine lv_eql (v := z4_on_v2 np gp nc gc i p) (by delta z4_on_v2; rfl) ?_
          refine lv_lconst (v := 0) hx hb dX4_on_128 (by decide) ?_
          refine lb_ne (tgt := 137) hx hb dX4_on_129 rfl dX4_on_130 (by decide) (fun c_8 => ?_) (fun c_8 => ?_)
          · skip
            refine lv_iconst (v := 0) hx hb dX4_on_137 (by decide) ?_
            have he : z4_on np gp nl gl nc gc s i p = 0 := by unfold z4_on; rw [if_neg c_1, if_pos c_5, if_neg c_6, if_neg c_7, if_neg c_8]
            exact rt_i (w1 := fun uu : Int64 × Int64 × Int64 × Int64 × Int64 × Int64 × Int64 × Int64 × Int64 × Int64 × Int64 × Int64 => [kC o oP oL oC oX oY oF oS oT oM fL fR fN fM oR, kS oP 3 qp np, kA qp cI 180 gp, kS oL 3 ql nl, kA ql cI 180 gl, kS oC 6 qc nc, kA qc cI 360 gc, kT oF uu.1 uu.2.1 uu.2.2.1, kT oS uu.2.2.2.1 uu.2.2.2.2.1 uu.2.2.2.2.2.1, kF fL uu.2.2.2.2.2.2.1 uu.2.2.2.2.2.2.2.1 uu.2.2.2.2.2.2.2.2.1 uu.2.2.2.2.2.2.2.2.2.1 uu.2.2.2.2.2.2.2.2.2.2.1 uu.2.2.2.2.2.2.2.2.2.2.2]) hx hb hr hlk hS dX4_on_138 ((z3_read_x 3 np p gp, z3_read_y 3 np p gp, z3_read_z 3 np p gp, x2, y2, z2, z0_read_a 6 nc i gc, z0_read_b 6 nc i gc, z0_read_c 6 nc i gc, z0_read_d 6 nc i gc, z0_read_e 6 nc i gc, z0_read_f 6 nc i gc)) he.symm (by dsimp only; exact hP) (by dsimp only; exact hD)
          · skip
            refine lv_iconst (v := 1) hx hb dX4_on_133 (by decide) ?_
            refine lv_goto (tgt := 138) hx hb dX4_on_134 (by decide) ?_
            have he : z4_on np gp nl gl nc gc s i p = 1 := by unfold z4_on; rw [if_neg c_1, if_pos c_5, if_neg c_6, if_neg c_7, if_pos c_8]
            exact rt_i (w1 := fun uu : Int64 × Int64 × Int64 × Int64 × Int64 × Int64 × Int64 × Int64 × Int64 × Int64 × Int64 × Int64 => [kC o oP oL oC oX oY oF oS oT oM fL fR fN fM oR, kS oP 3 qp np, kA qp cI 180 gp, kS oL 3 ql nl, kA ql cI 180 gl, kS oC 6 qc nc, kA qc cI 360 gc, kT oF uu.1 uu.2.1 uu.2.2.1, kT oS uu.2.2.2.1 uu.2.2.2.2.1 uu.2.2.2.2.2.1, kF fL uu.2.2.2.2.2.2.1 uu.2.2.2.2.2.2.2.1 uu.2.2.2.2.2.2.2.2.1 uu.2.2.2.2.2.2.2.2.2.1 uu.2.2.2.2.2.2.2.2.2.2.1 uu.2.2.2.2.2.2.2.2.2.2.2]) hx hb hr hlk hS dX4_on_138 ((z3_read_x 3 np p gp, z3_read_y 3 np p gp, z3_read_z 3 np p gp, x2, y2, z2, z0_read_a 6 nc i gc, z0_read_b 6 nc i gc, z0_read_c 6 nc i gc, z0_read_d 6 nc i gc, z0_read_e 6 nc i gc, z0_read_f 6 nc i gc)) he.symm (by dsimp only; exact hP) (by dsimp only; exact hD)
        · skip
          refine lv_ldc hx hb hown k_3 dX4_on_51 ?_
          have he : z4_on np gp nl gl nc gc s i p = (-1000002) := by unfold z4_on; rw [if_neg c_1, if_pos c_5, if_neg c_6, if_pos c_7]
          exact rt_i (w1 := fun uu : Int64 × Int64 × Int64 × Int64 × Int64 × Int64 × Int64 × Int64 × Int64 × Int64 × Int64 × Int64 => [kC o oP oL oC oX oY oF oS oT oM fL fR fN fM oR, kS oP 3 qp np, kA qp cI 180 gp, kS oL 3 ql nl, kA ql cI 180 gl, kS oC 6 qc nc, kA qc cI 360 gc, kT oF uu.1 uu.2.1 uu.2.2.1, kT oS uu.2.2.2.1 uu.2.2.2.2.1 uu.2.2.2.2.2.1, kF fL uu.2.2.2.2.2.2.1 uu.2.2.2.2.2.2.2.1 uu.2.2.2.2.2.2.2.2.1 uu.2.2.2.2.2.2.2.2.2.1 uu.2.2.2.2.2.2.2.2.2.2.1 uu.2.2.2.2.2.2.2.2.2.2.2]) hx hb hr hlk hS dX4_on_53 ((x1, y1, z1, x2, y2, z2, a5, b5, c5, d5, e5, f5)) he.symm (by dsimp only; exact hP) (by dsimp only; exact hD)
    · skip
      refine lv_ldc hx hb hown k_9 dX4_on_10 ?_
      have he : z4_on np gp nl gl nc gc s i p = (-1000003) := by unfold z4_on; rw [if_neg c_1, if_neg c_5]
      exact rt_i (w1 := fun uu : Int64 × Int64 × Int64 × Int64 × Int64 × Int64 × Int64 × Int64 × Int64 × Int64 × Int64 × Int64 => [kC o oP oL oC oX oY oF oS oT oM fL fR fN fM oR, kS oP 3 qp np, kA qp cI 180 gp, kS oL 3 ql nl, kA ql cI 180 gl, kS oC 6 qc nc, kA qc cI 360 gc, kT oF uu.1 uu.2.1 uu.2.2.1, kT oS uu.2.2.2.1 uu.2.2.2.2.1 uu.2.2.2.2.2.1, kF fL uu.2.2.2.2.2.2.1 uu.2.2.2.2.2.2.2.1 uu.2.2.2.2.2.2.2.2.1 uu.2.2.2.2.2.2.2.2.2.1 uu.2.2.2.2.2.2.2.2.2.2.1 uu.2.2.2.2.2.2.2.2.2.2.2]) hx hb hr hlk hS dX4_on_12 ((x1, y1, z1, x2, y2, z2, a5, b5, c5, d5, e5, f5)) he.symm (by dsimp only; exact hP) (by dsimp only; exact hD)
