set_option maxHeartbeats 4000000 in
set_option maxRecDepth 100000 in
/-- part -/
theorem lw_part {l : Launch} {D : va_G} {cI cJ : ClassId} {pG : Program} {eG : Env} {sG : State} {mG : MethodId} {below : List Frame} {meth : Method} {cG : Code} {A : Nat → Prop} {b L : Nat} {xs : Nat → Int32} {o : Nat} {oP : Nat} {oL : Nat} {oC : Nat} {oX : Nat} {oY : Nat} {oF : Nat} {oS : Nat} {oT : Nat} {oM : Nat} {fL : Nat} {fR : Nat} {fN : Nat} {fM : Nat} {oR : Nat} {qp : Nat} {ql : Nat} {qc : Nat} {om : Nat} {mP : Nat} {mL : Nat} {mC : Nat} {mN : Nat} {mF : Nat} {mR : Nat} {mD : Nat} {mV : Nat} {mX : Nat} {mA : Nat} {mK : Nat} {mT : Nat} {mU : Nat} {mH : Nat} {mI : Nat} (hx : pG.tables.exec = Jvm.exec) (hb : cG.code = cL_law) (hml : cG.maxLocals = 4) (hown : sG.vm.findClass RL = some mG.cls) (hts : ∀ x ∈ wsL_law, x.before #[Value.ref b] sG = true) (hK : gd_K D cI cJ sG) (hA : ∀ q : Nat, sG.heap.size ≤ q → A q) (hX : va_X b L xs sG sG.heap) (hbl : b < sG.heap.size) (hbA : ¬ A b) {ii a1 a2 : Int32} (v1 : vp_in (ii + 1) L) (v2 : vp_in (ii + 2) L) (h1 : xs (ii + 1).toNatClampNeg = a1) (h2 : xs (ii + 2).toNatClampNeg = a2) {H : Heap} {locs : List Loc} {ls : Array Slot} {gm : Nat → Int32} {gp : Nat → Int32} {gl : Nat → Int32} {gc : Nat → Int32} {cn : Int32} {c1 : Int64} {c2 : Int64} {c3 : Int64} {c4 : Int64} {c5 : Int64} {c6 : Int64} {cm : Int32} {fk : Nat → Int64} {pn : Int32} {p1 : Int64} {p2 : Int64} {p3 : Int64} {p4 : Int64} {p5 : Int64} {p6 : Int64} {pm : Int32} {ft : Nat → Int64} (hI : lwI gm gp gl gc cn c1 c2 c3 c4 c5 c6 cm fk pn p1 p2 p3 p4 p5 p6 pm ft) (hW : lwAt D cI cJ A o oP oL oC oX oY oF oS oT oM fL fR fN fM oR qp ql qc om mP mL mC mN mF mR mD mV mX mA mK mT mU mH mI H gm gp gl gc cn c1 c2 c3 c4 c5 c6 cm fk pn p1 p2 p3 p4 p5 p6 pm ft) (hS : va_S A sG.heap H locs) (hl : lv_has ls 4 [(0, .ref b), (1, .ref o), (2, .ref om), (3, .int ii)]) (ih : ∀ (gm : Nat → Int32) (gp : Nat → Int32) (gl : Nat → Int32) (gc : Nat → Int32) (cn : Int32) (c1 : Int64) (c2 : Int64) (c3 : Int64) (c4 : Int64) (c5 : Int64) (c6 : Int64) (cm : Int32) (fk : Nat → Int64) (pn : Int32) (p1 : Int64) (p2 : Int64) (p3 : Int64) (p4 : Int64) (p5 : Int64) (p6 : Int64) (pm : Int32) (ft : Nat → Int64) (H : Heap) (locs : List Loc) (ls : Array Slot), lwI gm gp gl gc cn c1 c2 c3 c4 c5 c6 cm fk pn p1 p2 p3 p4 p5 p6 pm ft → lwAt D cI cJ A o oP oL oC oX oY oF oS oT oM fL fR fN fM oR qp ql qc om mP mL mC mN mF mR mD mV mX mA mK mT mU mH mI H gm gp gl gc cn c1 c2 c3 c4 c5 c6 cm fk pn p1 p2 p3 p4 p5 p6 pm ft → va_S A sG.heap H locs → lv_has ls 4 [(0, .ref b), (1, .ref o), (2, .ref om), (3, .int ii)] → W pG l eG room_1 sG mG #[Value.ref b] below meth cG H locs 38 1686 (lw_Z below #[Value.ref b] sG) (F0 mG 995 ls [])) : W pG l eG room_1 sG mG #[Value.ref b] below meth cG H locs 38 1686 (lw_Z below #[Value.ref b] sG) (F0 mG 961 ls []) := by
  obtain ⟨g0, g1, g2, pr1, pr2⟩ := hI
  obtain ⟨q1, q2, q3, q4, t11, t12, t13, t21, t22, t23, t31, t32, t33, t41, t42, t43, f11, f12, f13, f14, f15, f16, f21, f22, f23, f24, f25, f26, f31, f32, f33, f34, f35, f36, f41, f42, f43, f44, f45, f46, gr, gv, ff, fr, fd, fx, fa, fg, fh, fi, hP, hD⟩ := hW
  refine lv_aload_n hx hb dL_law_961 rfl (lv_at hl 1 rfl) ?_
  refine lv_aload_n hx hb dL_law_962 rfl (lv_at hl 0 rfl) ?_
  refine lv_iload_n hx hb dL_law_963 rfl (lv_at hl 3 rfl) ?_
  refine lv_iconst (v := 1) hx hb dL_law_964 (by decide) ?_
  refine lv_iadd hx hb dL_law_965 ?_
  refine va_sld hx hb hX hbl hbA hS v1 dL_law_966 ?_
  refine lv_eqi (v := a1) h1 ?_
  refine lv_aload_n hx hb dL_law_967 rfl (lv_at hl 0 rfl) ?_
  refine lv_iload_n hx hb dL_law_968 rfl (lv_at hl 3 rfl) ?_
  refine lv_iconst (v := 2) hx hb dL_law_969 (by decide) ?_
  refine lv_iadd hx hb dL_law_970 ?_
  refine va_sld hx hb hX hbl hbA hS v2 dL_law_971 ?_
  refine lv_eqi (v := a2) h2 ?_
  have hPc := hP.sub (ws' := [kC o oP oL oC oX oY oF oS oT oM fL fR fN fM oR, kP oY q3 q4 pn, kT q3 p1 p2 p3, kT q4 p4 p5 p6]) [0, 10, 11, 12] rfl
  refine cr_l (va_runV (As := [.int a1, .int a2]) (rest := []) ⟨hx, hb, hml, hown, hts⟩ (c_X4_part l D cI cJ o oP oL oC oX oY oF oS oT oM fL fR fN fM oR q3 q4 pn p1 p2 p3 p4 p5 p6 a1 a2) (cwV 2 hts gL_law_X4_part rfl rfl rfl (by decide +kernel) ⟨Nat.le_of_ble_eq_true rfl, Nat.le_of_ble_eq_true rfl⟩) ⟨gd_blR, va_recv hK.1 hPc (ci := 4) (q0 := 0) rfl rfl, gd_prR hPc hK⟩ rfl rfl hl.1 rfl (lv_room (Nat.le_of_ble_eq_true rfl)) dL_law_972 ⟨Nat.le_of_ble_eq_true rfl, Nat.le_of_ble_eq_true rfl⟩) (fun r_972 hw => ?_)
  subst hw
  clear hPc
  refine lv_aload_n hx hb dL_law_975 rfl (lv_at hl 2 rfl) ?_
  refine lv_aload_n hx hb dL_law_976 rfl (lv_at hl 0 rfl) ?_
  refine lv_iload_n hx hb dL_law_977 rfl (lv_at hl 3 rfl) ?_
  refine lv_iconst (v := 1) hx hb dL_law_978 (by decide) ?_
  refine lv_iadd hx hb dL_law_979 ?_
  refine va_sld hx hb hX hbl hbA hS v1 dL_law_980 ?_
  refine lv_eqi (v := a1) h1 ?_
  refine lv_aload_n hx hb dL_law_981 rfl (lv_at hl 0 rfl) ?_
  refine lv_iload_n hx hb dL_law_982 rfl (lv_at hl 3 rfl) ?_
  refine lv_iconst (v := 2) hx hb dL_law_983 (by decide) ?_
  refine lv_iadd hx hb dL_law_984 ?_
  refine va_sld hx hb hX hbl hbA hS v2 dL_law_985 ?_
  refine lv_eqi (v := a2) h2 ?_
  have hPc := hP.sub (ws' := [kM om mP mL mC mN mF mR mD mV mX mA mK cm mT pm mU mH mI, kJ mT cJ 6 ft]) [22, 34] rfl
  refine cr_l (va_runV (As := [.int a1, .int a2]) (rest := [.long (z4_part pn p1 p2 p3 p4 p5 p6 a1 a2)]) ⟨hx, hb, hml, hown, hts⟩ (c_X5_part l D cI cJ om mP mL mC mN mF mR mD mV mX mA mK mT mU mH mI cm pm ft a1 a2 ⟨pr2.2.1, pr2.2.2.1⟩) (cwV 2 hts gL_law_X5_part rfl rfl rfl (by decide +kernel) ⟨Nat.le_of_ble_eq_true rfl, Nat.le_of_ble_eq_true rfl⟩) ⟨gd_blR, va_recv hK.1 hPc (ci := 5) (q0 := 0) rfl rfl, gd_prR hPc hK⟩ rfl rfl hl.1 rfl (lv_room (Nat.le_of_ble_eq_true rfl)) dL_law_986 ⟨Nat.le_of_ble_eq_true rfl, Nat.le_of_ble_eq_true rfl⟩) (fun r_986 hw => ?_)
  subst hw
  clear hPc
  have pk : (z4_part pn p1 p2 p3 p4 p5 p6 a1 a2) = (z5_part pm ft a1 a2) := pu_tell pr2 a1 a2
  have pkq : (z4_part pn p1 p2 p3 p4 p5 p6 a1 a2) = (z5_part pm ft a1 a2) := pk
  refine lb_eq (tgt := 995) hx hb dL_law_989 rfl dL_law_990 (by decide) (fun _ => ?_) (fun h => absurd pkq h)
  exact ih gm gp gl gc cn c1 c2 c3 c4 c5 c6 cm fk pn p1 p2 p3 p4 p5 p6 pm ft H locs ls ⟨g0, g1, g2, pr1, pr2⟩ ⟨q1, q2, q3, q4, t11, t12, t13, t21, t22, t23, t31, t32, t33, t41, t42, t43, f11, f12, f13, f14, f15, f16, f21, f22, f23, f24, f25, f26, f31, f32, f33, f34, f35, f36, f41, f42, f43, f44, f45, f46, gr, gv, ff, fr, fd, fx, fa, fg, fh, fi, hP, hD⟩ hS hl
