set_option maxHeartbeats 4000000 in
set_option maxRecDepth 100000 in
/-- count -/
theorem lw_count {l : Launch} {D : va_G} {cI cJ : ClassId} {pG : Program} {eG : Env} {sG : State} {mG : MethodId} {below : List Frame} {meth : Method} {cG : Code} {A : Nat → Prop} {b L : Nat} {xs : Nat → Int32} {o : Nat} {oP : Nat} {oL : Nat} {oC : Nat} {oX : Nat} {oY : Nat} {oF : Nat} {oS : Nat} {oT : Nat} {oM : Nat} {fL : Nat} {fR : Nat} {fN : Nat} {fM : Nat} {oR : Nat} {qp : Nat} {ql : Nat} {qc : Nat} {om : Nat} {mP : Nat} {mL : Nat} {mC : Nat} {mN : Nat} {mF : Nat} {mR : Nat} {mD : Nat} {mV : Nat} {mX : Nat} {mA : Nat} {mK : Nat} {mT : Nat} {mU : Nat} {mH : Nat} {mI : Nat} (hx : pG.tables.exec = Jvm.exec) (hb : cG.code = cL_law) (hml : cG.maxLocals = 4) (hown : sG.vm.findClass RL = some mG.cls) (hts : ∀ x ∈ wsL_law, x.before #[Value.ref b] sG = true) (hK : gd_K D cI cJ sG) (hA : ∀ q : Nat, sG.heap.size ≤ q → A q) (hX : va_X b L xs sG sG.heap) (hbl : b < sG.heap.size) (hbA : ¬ A b) {ii a1 : Int32} (v1 : vp_in (ii + 1) L) (h1 : xs (ii + 1).toNatClampNeg = a1) {H : Heap} {locs : List Loc} {ls : Array Slot} {gm : Nat → Int32} {gp : Nat → Int32} {gl : Nat → Int32} {gc : Nat → Int32} {cn : Int32} {c1 : Int64} {c2 : Int64} {c3 : Int64} {c4 : Int64} {c5 : Int64} {c6 : Int64} {cm : Int32} {fk : Nat → Int64} {pn : Int32} {p1 : Int64} {p2 : Int64} {p3 : Int64} {p4 : Int64} {p5 : Int64} {p6 : Int64} {pm : Int32} {ft : Nat → Int64} (hI : lwI gm gp gl gc cn c1 c2 c3 c4 c5 c6 cm fk pn p1 p2 p3 p4 p5 p6 pm ft) (hW : lwAt D cI cJ A o oP oL oC oX oY oF oS oT oM fL fR fN fM oR qp ql qc om mP mL mC mN mF mR mD mV mX mA mK mT mU mH mI H gm gp gl gc cn c1 c2 c3 c4 c5 c6 cm fk pn p1 p2 p3 p4 p5 p6 pm ft) (hS : va_S A sG.heap H locs) (hl : lv_has ls 4 [(0, .ref b), (1, .ref o), (2, .ref om), (3, .int ii)]) (ih : ∀ (gm : Nat → Int32) (gp : Nat → Int32) (gl : Nat → Int32) (gc : Nat → Int32) (cn : Int32) (c1 : Int64) (c2 : Int64) (c3 : Int64) (c4 : Int64) (c5 : Int64) (c6 : Int64) (cm : Int32) (fk : Nat → Int64) (pn : Int32) (p1 : Int64) (p2 : Int64) (p3 : Int64) (p4 : Int64) (p5 : Int64) (p6 : Int64) (pm : Int32) (ft : Nat → Int64) (H : Heap) (locs : List Loc) (ls : Array Slot), lwI gm gp gl gc cn c1 c2 c3 c4 c5 c6 cm fk pn p1 p2 p3 p4 p5 p6 pm ft → lwAt D cI cJ A o oP oL oC oX oY oF oS oT oM fL fR fN fM oR qp ql qc om mP mL mC mN mF mR mD mV mX mA mK mT mU mH mI H gm gp gl gc cn c1 c2 c3 c4 c5 c6 cm fk pn p1 p2 p3 p4 p5 p6 pm ft → va_S A sG.heap H locs → lv_has ls 4 [(0, .ref b), (1, .ref o), (2, .ref om), (3, .int ii)] → W pG l eG room_1 sG mG #[Value.ref b] below meth cG H locs 38 1686 (lw_Z below #[Value.ref b] sG) (F0 mG 995 ls [])) : W pG l eG room_1 sG mG #[Value.ref b] below meth cG H locs 38 1686 (lw_Z below #[Value.ref b] sG) (F0 mG 301 ls []) := by
  obtain ⟨g0, g1, g2, pr1, pr2⟩ := hI
  obtain ⟨q1, q2, q3, q4, t11, t12, t13, t21, t22, t23, t31, t32, t33, t41, t42, t43, f11, f12, f13, f14, f15, f16, f21, f22, f23, f24, f25, f26, f31, f32, f33, f34, f35, f36, f41, f42, f43, f44, f45, f46, gr, gv, ff, fr, fd, fx, fa, fg, fh, fi, hP, hD⟩ := hW
  refine lv_aload_n hx hb dL_law_301 rfl (lv_at hl 1 rfl) ?_
  refine lv_aload_n hx hb dL_law_302 rfl (lv_at hl 0 rfl) ?_
  refine lv_iload_n hx hb dL_law_303 rfl (lv_at hl 3 rfl) ?_
  refine lv_iconst (v := 1) hx hb dL_law_304 (by decide) ?_
  refine lv_iadd hx hb dL_law_305 ?_
  refine va_sld hx hb hX hbl hbA hS v1 dL_law_306 ?_
  refine lv_eqi (v := a1) h1 ?_
  have hPc := hP.sub (ws' := [kC o oP oL oC oX oY oF oS oT oM fL fR fN fM oR, kS oP 3 qp (gm 0), kA qp cI 180 gp, kS oL 3 ql (gm 1), kA ql cI 180 gl, kS oC 6 qc (gm 2), kA qc cI 360 gc]) [0, 1, 2, 3, 4, 5, 6] rfl
  refine cr_i (va_runV (As := [.int a1]) (rest := []) ⟨hx, hb, hml, hown, hts⟩ (c_X4_count l D cI cJ o oP oL oC oX oY oF oS oT oM fL fR fN fM oR qp (gm 0) gp ql (gm 1) gl qc (gm 2) gc a1 (sh3 g0.1) (sh3 g1.1) (sh6 g2.1)) (cwV 1 hts gL_law_X4_count rfl rfl rfl (by decide +kernel) ⟨Nat.le_of_ble_eq_true rfl, Nat.le_of_ble_eq_true rfl⟩) ⟨gd_blR, va_recv hK.1 hPc (ci := 4) (q0 := 0) rfl rfl, gd_prR hPc hK⟩ rfl rfl hl.1 rfl (lv_room (Nat.le_of_ble_eq_true rfl)) dL_law_307 ⟨Nat.le_of_ble_eq_true rfl, Nat.le_of_ble_eq_true rfl⟩) (fun r_307 hw => ?_)
  subst hw
  clear hPc
  refine lv_aload_n hx hb dL_law_310 rfl (lv_at hl 2 rfl) ?_
  refine lv_aload_n hx hb dL_law_311 rfl (lv_at hl 0 rfl) ?_
  refine lv_iload_n hx hb dL_law_312 rfl (lv_at hl 3 rfl) ?_
  refine lv_iconst (v := 1) hx hb dL_law_313 (by decide) ?_
  refine lv_iadd hx hb dL_law_314 ?_
  refine va_sld hx hb hX hbl hbA hS v1 dL_law_315 ?_
  refine lv_eqi (v := a1) h1 ?_
  have hPc := hP.sub (ws' := [kM om mP mL mC mN mF mR mD mV mX mA mK cm mT pm mU mH mI, kA mN cI 3 gm]) [22, 26] rfl
  refine cr_i (va_runV (As := [.int a1]) (rest := [.int (z4_count (gm 0) (gm 1) (gm 2) a1)]) ⟨hx, hb, hml, hown, hts⟩ (c_X5_count l D cI cJ om mP mL mC mN mF mR mD mV mX mA mK mT mU mH mI cm pm gm a1) (cwV 1 hts gL_law_X5_count rfl rfl rfl (by decide +kernel) ⟨Nat.le_of_ble_eq_true rfl, Nat.le_of_ble_eq_true rfl⟩) ⟨gd_blR, va_recv hK.1 hPc (ci := 5) (q0 := 0) rfl rfl, gd_prR hPc hK⟩ rfl rfl hl.1 rfl (lv_room (Nat.le_of_ble_eq_true rfl)) dL_law_316 ⟨Nat.le_of_ble_eq_true rfl, Nat.le_of_ble_eq_true rfl⟩) (fun r_316 hw => ?_)
  subst hw
  clear hPc
  have pk : (z4_count (gm 0) (gm 1) (gm 2) a1) = (z5_count gm a1) := pu_count gm a1
  have pkq : (z4_count (gm 0) (gm 1) (gm 2) a1) = (z5_count gm a1) := pk
  refine lv_icmp_eq (tgt := 995) hx hb dL_law_319 (by decide) (fun _ => ?_) (fun h => absurd pkq h)
  exact ih gm gp gl gc cn c1 c2 c3 c4 c5 c6 cm fk pn p1 p2 p3 p4 p5 p6 pm ft H locs ls ⟨g0, g1, g2, pr1, pr2⟩ ⟨q1, q2, q3, q4, t11, t12, t13, t21, t22, t23, t31, t32, t33, t41, t42, t43, f11, f12, f13, f14, f15, f16, f21, f22, f23, f24, f25, f26, f31, f32, f33, f34, f35, f36, f41, f42, f43, f44, f45, f46, gr, gv, ff, fr, fd, fx, fa, fg, fh, fi, hP, hD⟩ hS hl
