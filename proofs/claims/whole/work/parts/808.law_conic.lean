set_option maxHeartbeats 4000000 in
set_option maxRecDepth 100000 in
/-- conic -/
theorem lw_conic {l : Launch} {D : va_G} {cI cJ : ClassId} {pG : Program} {eG : Env} {sG : State} {mG : MethodId} {below : List Frame} {meth : Method} {cG : Code} {A : Nat → Prop} {b L : Nat} {xs : Nat → Int32} {o : Nat} {oP : Nat} {oL : Nat} {oC : Nat} {oX : Nat} {oY : Nat} {oF : Nat} {oS : Nat} {oT : Nat} {oM : Nat} {fL : Nat} {fR : Nat} {fN : Nat} {fM : Nat} {oR : Nat} {qp : Nat} {ql : Nat} {qc : Nat} {om : Nat} {mP : Nat} {mL : Nat} {mC : Nat} {mN : Nat} {mF : Nat} {mR : Nat} {mD : Nat} {mV : Nat} {mX : Nat} {mA : Nat} {mK : Nat} {mT : Nat} {mU : Nat} {mH : Nat} {mI : Nat} (hx : pG.tables.exec = Jvm.exec) (hb : cG.code = cL_law) (hml : cG.maxLocals = 4) (hown : sG.vm.findClass RL = some mG.cls) (hts : ∀ x ∈ wsL_law, x.before #[Value.ref b] sG = true) (hK : gd_K D cI cJ sG) (hA : ∀ q : Nat, sG.heap.size ≤ q → A q) (hX : va_X b L xs sG sG.heap) (hbl : b < sG.heap.size) (hbA : ¬ A b) {ii a1 a2 a3 a4 a5 a6 : Int32} (v1 : vp_in (ii + 1) L) (v2 : vp_in (ii + 2) L) (v3 : vp_in (ii + 3) L) (v4 : vp_in (ii + 4) L) (v5 : vp_in (ii + 5) L) (v6 : vp_in (ii + 6) L) (h1 : xs (ii + 1).toNatClampNeg = a1) (h2 : xs (ii + 2).toNatClampNeg = a2) (h3 : xs (ii + 3).toNatClampNeg = a3) (h4 : xs (ii + 4).toNatClampNeg = a4) (h5 : xs (ii + 5).toNatClampNeg = a5) (h6 : xs (ii + 6).toNatClampNeg = a6) {H : Heap} {locs : List Loc} {ls : Array Slot} {gm : Nat → Int32} {gp : Nat → Int32} {gl : Nat → Int32} {gc : Nat → Int32} {cn : Int32} {c1 : Int64} {c2 : Int64} {c3 : Int64} {c4 : Int64} {c5 : Int64} {c6 : Int64} {cm : Int32} {fk : Nat → Int64} {pn : Int32} {p1 : Int64} {p2 : Int64} {p3 : Int64} {p4 : Int64} {p5 : Int64} {p6 : Int64} {pm : Int32} {ft : Nat → Int64} (hI : lwI gm gp gl gc cn c1 c2 c3 c4 c5 c6 cm fk pn p1 p2 p3 p4 p5 p6 pm ft) (hW : lwAt D cI cJ A o oP oL oC oX oY oF oS oT oM fL fR fN fM oR qp ql qc om mP mL mC mN mF mR mD mV mX mA mK mT mU mH mI H gm gp gl gc cn c1 c2 c3 c4 c5 c6 cm fk pn p1 p2 p3 p4 p5 p6 pm ft) (hS : va_S A sG.heap H locs) (hl : lv_has ls 4 [(0, .ref b), (1, .ref o), (2, .ref om), (3, .int ii)]) (ih : ∀ (gm : Nat → Int32) (gp : Nat → Int32) (gl : Nat → Int32) (gc : Nat → Int32) (cn : Int32) (c1 : Int64) (c2 : Int64) (c3 : Int64) (c4 : Int64) (c5 : Int64) (c6 : Int64) (cm : Int32) (fk : Nat → Int64) (pn : Int32) (p1 : Int64) (p2 : Int64) (p3 : Int64) (p4 : Int64) (p5 : Int64) (p6 : Int64) (pm : Int32) (ft : Nat → Int64) (H : Heap) (locs : List Loc) (ls : Array Slot), lwI gm gp gl gc cn c1 c2 c3 c4 c5 c6 cm fk pn p1 p2 p3 p4 p5 p6 pm ft → lwAt D cI cJ A o oP oL oC oX oY oF oS oT oM fL fR fN fM oR qp ql qc om mP mL mC mN mF mR mD mV mX mA mK mT mU mH mI H gm gp gl gc cn c1 c2 c3 c4 c5 c6 cm fk pn p1 p2 p3 p4 p5 p6 pm ft → va_S A sG.heap H locs → lv_has ls 4 [(0, .ref b), (1, .ref o), (2, .ref om), (3, .int ii)] → W pG l eG room_1 sG mG #[Value.ref b] below meth cG H locs 38 1686 (lw_Z below #[Value.ref b] sG) (F0 mG 995 ls [])) : W pG l eG room_1 sG mG #[Value.ref b] below meth cG H locs 38 1686 (lw_Z below #[Value.ref b] sG) (F0 mG 226 ls []) := by
  obtain ⟨g0, g1, g2, pr1, pr2⟩ := hI
  obtain ⟨q1, q2, q3, q4, t11, t12, t13, t21, t22, t23, t31, t32, t33, t41, t42, t43, f11, f12, f13, f14, f15, f16, f21, f22, f23, f24, f25, f26, f31, f32, f33, f34, f35, f36, f41, f42, f43, f44, f45, f46, gr, gv, ff, fr, fd, fx, fa, fg, fh, fi, hP, hD⟩ := hW
  refine lv_aload_n hx hb dL_law_226 rfl (lv_at hl 1 rfl) ?_
  refine lv_aload_n hx hb dL_law_227 rfl (lv_at hl 0 rfl) ?_
  refine lv_iload_n hx hb dL_law_228 rfl (lv_at hl 3 rfl) ?_
  refine lv_iconst (v := 1) hx hb dL_law_229 (by decide) ?_
  refine lv_iadd hx hb dL_law_230 ?_
  refine va_sld hx hb hX hbl hbA hS v1 dL_law_231 ?_
  refine lv_eqi (v := a1) h1 ?_
  refine lv_aload_n hx hb dL_law_232 rfl (lv_at hl 0 rfl) ?_
  refine lv_iload_n hx hb dL_law_233 rfl (lv_at hl 3 rfl) ?_
  refine lv_iconst (v := 2) hx hb dL_law_234 (by decide) ?_
  refine lv_iadd hx hb dL_law_235 ?_
  refine va_sld hx hb hX hbl hbA hS v2 dL_law_236 ?_
  refine lv_eqi (v := a2) h2 ?_
  refine lv_aload_n hx hb dL_law_237 rfl (lv_at hl 0 rfl) ?_
  refine lv_iload_n hx hb dL_law_238 rfl (lv_at hl 3 rfl) ?_
  refine lv_iconst (v := 3) hx hb dL_law_239 (by decide) ?_
  refine lv_iadd hx hb dL_law_240 ?_
  refine va_sld hx hb hX hbl hbA hS v3 dL_law_241 ?_
  refine lv_eqi (v := a3) h3 ?_
  refine lv_aload_n hx hb dL_law_242 rfl (lv_at hl 0 rfl) ?_
  refine lv_iload_n hx hb dL_law_243 rfl (lv_at hl 3 rfl) ?_
  refine lv_iconst (v := 4) hx hb dL_law_244 (by decide) ?_
  refine lv_iadd hx hb dL_law_245 ?_
  refine va_sld hx hb hX hbl hbA hS v4 dL_law_246 ?_
  refine lv_eqi (v := a4) h4 ?_
  refine lv_aload_n hx hb dL_law_247 rfl (lv_at hl 0 rfl) ?_
  refine lv_iload_n hx hb dL_law_248 rfl (lv_at hl 3 rfl) ?_
  refine lv_iconst (v := 5) hx hb dL_law_249 (by decide) ?_
  refine lv_iadd hx hb dL_law_250 ?_
  refine va_sld hx hb hX hbl hbA hS v5 dL_law_251 ?_
  refine lv_eqi (v := a5) h5 ?_
  refine lv_aload_n hx hb dL_law_252 rfl (lv_at hl 0 rfl) ?_
  refine lv_iload_n hx hb dL_law_253 rfl (lv_at hl 3 rfl) ?_
  refine lv_bipush (v := 6) hx hb dL_law_254 (by decide) ?_
  refine lv_iadd hx hb dL_law_256 ?_
  refine va_sld hx hb hX hbl hbA hS v6 dL_law_257 ?_
  refine lv_eqi (v := a6) h6 ?_
  have hPc := hP.sub (ws' := [kC o oP oL oC oX oY oF oS oT oM fL fR fN fM oR, kS oC 6 qc (gm 2), kA qc cI 360 gc, kF fM f41 f42 f43 f44 f45 f46]) [0, 5, 6, 20] rfl
  have hDc := hD.sub (ws' := [kC o oP oL oC oX oY oF oS oT oM fL fR fN fM oR, kS oC 6 qc (gm 2), kA qc cI 360 gc, kF fM f41 f42 f43 f44 f45 f46]) [0, 5, 6, 20] (by decide) rfl
  refine cl_i (wc := [kC o oP oL oC oX oY oF oS oT oM fL fR fN fM oR, kS oC 6 qc (gm 2), kA qc cI 360 gc, kF fM f41 f42 f43 f44 f45 f46]) (wr := [kS oP 3 qp (gm 0), kA qp cI 180 gp, kS oL 3 ql (gm 1), kA ql cI 180 gl, kP oX q1 q2 cn, kT q1 c1 c2 c3, kT q2 c4 c5 c6, kP oY q3 q4 pn, kT q3 p1 p2 p3, kT q4 p4 p5 p6, kT oF t11 t12 t13, kT oS t21 t22 t23, kT oT t31 t32 t33, kT oM t41 t42 t43, kF fL f11 f12 f13 f14 f15 f16, kF fR f21 f22 f23 f24 f25 f26, kF fN f31 f32 f33 f34 f35 f36, kA oR cI 5 gr, kM om mP mL mC mN mF mR mD mV mX mA mK cm mT pm mU mH mI, kA mP cI 180 gp, kA mL cI 180 gl, kA mC cI 360 gc, kA mN cI 3 gm, kJ mF cJ 6 ff, kJ mR cJ 30 fr, kJ mD cJ 64 fd, kA mV cI 5 gv, kJ mX cJ 9 fx, kJ mA cJ 9 fa, kJ mK cJ 6 fk, kJ mT cJ 6 ft, kJ mU cJ 3 fg, kJ mH cJ 3 fh, kJ mI cJ 3 fi]) (w1 := fun uu : Int64 × Int64 × Int64 × Int64 × Int64 × Int64 => [kC o oP oL oC oX oY oF oS oT oM fL fR fN fM oR, kS oC 6 qc ((z4_conic (gm 2) gc a1 a2 a3 a4 a5 a6).2.1), kA qc cI 360 ((z4_conic (gm 2) gc a1 a2 a3 a4 a5 a6).2.2), kF fM uu.1 uu.2.1 uu.2.2.1 uu.2.2.2.1 uu.2.2.2.2.1 uu.2.2.2.2.2]) (wn := fun uu : Int64 × Int64 × Int64 × Int64 × Int64 × Int64 => [kC o oP oL oC oX oY oF oS oT oM fL fR fN fM oR, kS oP 3 qp (gm 0), kA qp cI 180 gp, kS oL 3 ql (gm 1), kA ql cI 180 gl, kS oC 6 qc ((z4_conic (gm 2) gc a1 a2 a3 a4 a5 a6).2.1), kA qc cI 360 ((z4_conic (gm 2) gc a1 a2 a3 a4 a5 a6).2.2), kP oX q1 q2 cn, kT q1 c1 c2 c3, kT q2 c4 c5 c6, kP oY q3 q4 pn, kT q3 p1 p2 p3, kT q4 p4 p5 p6, kT oF t11 t12 t13, kT oS t21 t22 t23, kT oT t31 t32 t33, kT oM t41 t42 t43, kF fL f11 f12 f13 f14 f15 f16, kF fR f21 f22 f23 f24 f25 f26, kF fN f31 f32 f33 f34 f35 f36, kF fM uu.1 uu.2.1 uu.2.2.1 uu.2.2.2.1 uu.2.2.2.2.1 uu.2.2.2.2.2, kA oR cI 5 gr, kM om mP mL mC mN mF mR mD mV mX mA mK cm mT pm mU mH mI, kA mP cI 180 gp, kA mL cI 180 gl, kA mC cI 360 gc, kA mN cI 3 gm, kJ mF cJ 6 ff, kJ mR cJ 30 fr, kJ mD cJ 64 fd, kA mV cI 5 gv, kJ mX cJ 9 fx, kJ mA cJ 9 fa, kJ mK cJ 6 fk, kJ mT cJ 6 ft, kJ mU cJ 3 fg, kJ mH cJ 3 fh, kJ mI cJ 3 fi]) (va_runV (As := [.int a1, .int a2, .int a3, .int a4, .int a5, .int a6]) (rest := []) ⟨hx, hb, hml, hown, hts⟩ (c_X4_conic l D cI cJ o oP oL oC oX oY oF oS oT oM fL fR fN fM oR qc (gm 2) gc f41 f42 f43 f44 f45 f46 a1 a2 a3 a4 a5 a6 (sh6 g2.1) _) (cwV 6 hts gL_law_X4_conic rfl rfl rfl (by decide +kernel) ⟨Nat.le_of_ble_eq_true rfl, Nat.le_of_ble_eq_true rfl⟩) ⟨gd_blP, va_recv hK.1 hPc (ci := 4) (q0 := 0) rfl rfl, gd_prP hPc hK hDc⟩ rfl rfl hl.1 rfl (lv_room (Nat.le_of_ble_eq_true rfl)) dL_law_258 ⟨Nat.le_of_ble_eq_true rfl, Nat.le_of_ble_eq_true rfl⟩) hP hD hS hA [0, 5, 6, 20] [1, 2, 3, 4, 7, 8, 9, 10, 11, 12, 13, 14, 15, 16, 17, 18, 19, 21, 22, 23, 24, 25, 26, 27, 28, 29, 30, 31, 32, 33, 34, 35, 36, 37] rfl rfl (by decide) (by decide) [34, 0, 1, 2, 3, 35, 36, 4, 5, 6, 7, 8, 9, 10, 11, 12, 13, 14, 15, 16, 37, 17, 18, 19, 20, 21, 22, 23, 24, 25, 26, 27, 28, 29, 30, 31, 32, 33] (by decide) (fun _ => rfl) (fun r_258 uG H locs hw hP hD hS => ?_)
  obtain ⟨y_258_0_1, y_258_1_2, y_258_2_3, y_258_3_4, y_258_4_5, y_258_5_6⟩ := uG
  have hP : va_P D vwCl [kC o oP oL oC oX oY oF oS oT oM fL fR fN fM oR, kS oP 3 qp (gm 0), kA qp cI 180 gp, kS oL 3 ql (gm 1), kA ql cI 180 gl, kS oC 6 qc ((z4_conic (gm 2) gc a1 a2 a3 a4 a5 a6).2.1), kA qc cI 360 ((z4_conic (gm 2) gc a1 a2 a3 a4 a5 a6).2.2), kP oX q1 q2 cn, kT q1 c1 c2 c3, kT q2 c4 c5 c6, kP oY q3 q4 pn, kT q3 p1 p2 p3, kT q4 p4 p5 p6, kT oF t11 t12 t13, kT oS t21 t22 t23, kT oT t31 t32 t33, kT oM t41 t42 t43, kF fL f11 f12 f13 f14 f15 f16, kF fR f21 f22 f23 f24 f25 f26, kF fN f31 f32 f33 f34 f35 f36, kF fM y_258_0_1 y_258_1_2 y_258_2_3 y_258_3_4 y_258_4_5 y_258_5_6, kA oR cI 5 gr, kM om mP mL mC mN mF mR mD mV mX mA mK cm mT pm mU mH mI, kA mP cI 180 gp, kA mL cI 180 gl, kA mC cI 360 gc, kA mN cI 3 gm, kJ mF cJ 6 ff, kJ mR cJ 30 fr, kJ mD cJ 64 fd, kA mV cI 5 gv, kJ mX cJ 9 fx, kJ mA cJ 9 fa, kJ mK cJ 6 fk, kJ mT cJ 6 ft, kJ mU cJ 3 fg, kJ mH cJ 3 fh, kJ mI cJ 3 fi] H := hP
  have hD : va_D A [kC o oP oL oC oX oY oF oS oT oM fL fR fN fM oR, kS oP 3 qp (gm 0), kA qp cI 180 gp, kS oL 3 ql (gm 1), kA ql cI 180 gl, kS oC 6 qc ((z4_conic (gm 2) gc a1 a2 a3 a4 a5 a6).2.1), kA qc cI 360 ((z4_conic (gm 2) gc a1 a2 a3 a4 a5 a6).2.2), kP oX q1 q2 cn, kT q1 c1 c2 c3, kT q2 c4 c5 c6, kP oY q3 q4 pn, kT q3 p1 p2 p3, kT q4 p4 p5 p6, kT oF t11 t12 t13, kT oS t21 t22 t23, kT oT t31 t32 t33, kT oM t41 t42 t43, kF fL f11 f12 f13 f14 f15 f16, kF fR f21 f22 f23 f24 f25 f26, kF fN f31 f32 f33 f34 f35 f36, kF fM y_258_0_1 y_258_1_2 y_258_2_3 y_258_3_4 y_258_4_5 y_258_5_6, kA oR cI 5 gr, kM om mP mL mC mN mF mR mD mV mX mA mK cm mT pm mU mH mI, kA mP cI 180 gp, kA mL cI 180 gl, kA mC cI 360 gc, kA mN cI 3 gm, kJ mF cJ 6 ff, kJ mR cJ 30 fr, kJ mD cJ 64 fd, kA mV cI 5 gv, kJ mX cJ 9 fx, kJ mA cJ 9 fa, kJ mK cJ 6 fk, kJ mT cJ 6 ft, kJ mU cJ 3 fg, kJ mH cJ 3 fh, kJ mI cJ 3 fi] := hD
  subst hw
  clear hPc hDc
  refine lv_aload_n hx hb dL_law_261 rfl (lv_at hl 2 rfl) ?_
  refine lv_aload_n hx hb dL_law_262 rfl (lv_at hl 0 rfl) ?_
  refine lv_iload_n hx hb dL_law_263 rfl (lv_at hl 3 rfl) ?_
  refine lv_iconst (v := 1) hx hb dL_law_264 (by decide) ?_
  refine lv_iadd hx hb dL_law_265 ?_
  refine va_sld hx hb hX hbl hbA hS v1 dL_law_266 ?_
  refine lv_eqi (v := a1) h1 ?_
  refine lv_aload_n hx hb dL_law_267 rfl (lv_at hl 0 rfl) ?_
  refine lv_iload_n hx hb dL_law_268 rfl (lv_at hl 3 rfl) ?_
  refine lv_iconst (v := 2) hx hb dL_law_269 (by decide) ?_
  refine lv_iadd hx hb dL_law_270 ?_
  refine va_sld hx hb hX hbl hbA hS v2 dL_law_271 ?_
  refine lv_eqi (v := a2) h2 ?_
  refine lv_aload_n hx hb dL_law_272 rfl (lv_at hl 0 rfl) ?_
  refine lv_iload_n hx hb dL_law_273 rfl (lv_at hl 3 rfl) ?_
  refine lv_iconst (v := 3) hx hb dL_law_274 (by decide) ?_
  refine lv_iadd hx hb dL_law_275 ?_
  refine va_sld hx hb hX hbl hbA hS v3 dL_law_276 ?_
  refine lv_eqi (v := a3) h3 ?_
  refine lv_aload_n hx hb dL_law_277 rfl (lv_at hl 0 rfl) ?_
  refine lv_iload_n hx hb dL_law_278 rfl (lv_at hl 3 rfl) ?_
  refine lv_iconst (v := 4) hx hb dL_law_279 (by decide) ?_
  refine lv_iadd hx hb dL_law_280 ?_
  refine va_sld hx hb hX hbl hbA hS v4 dL_law_281 ?_
  refine lv_eqi (v := a4) h4 ?_
  refine lv_aload_n hx hb dL_law_282 rfl (lv_at hl 0 rfl) ?_
  refine lv_iload_n hx hb dL_law_283 rfl (lv_at hl 3 rfl) ?_
  refine lv_iconst (v := 5) hx hb dL_law_284 (by decide) ?_
  refine lv_iadd hx hb dL_law_285 ?_
  refine va_sld hx hb hX hbl hbA hS v5 dL_law_286 ?_
  refine lv_eqi (v := a5) h5 ?_
  refine lv_aload_n hx hb dL_law_287 rfl (lv_at hl 0 rfl) ?_
  refine lv_iload_n hx hb dL_law_288 rfl (lv_at hl 3 rfl) ?_
  refine lv_bipush (v := 6) hx hb dL_law_289 (by decide) ?_
  refine lv_iadd hx hb dL_law_291 ?_
  refine va_sld hx hb hX hbl hbA hS v6 dL_law_292 ?_
  refine lv_eqi (v := a6) h6 ?_
  have hPc := hP.sub (ws' := [kM om mP mL mC mN mF mR mD mV mX mA mK cm mT pm mU mH mI, kA mN cI 3 gm, kJ mF cJ 6 ff, kA mC cI 360 gc]) [22, 26, 27, 25] rfl
  have hDc := hD.sub (ws' := [kM om mP mL mC mN mF mR mD mV mX mA mK cm mT pm mU mH mI, kA mN cI 3 gm, kJ mF cJ 6 ff, kA mC cI 360 gc]) [22, 26, 27, 25] (by decide) rfl
  refine cl_i (wc := [kM om mP mL mC mN mF mR mD mV mX mA mK cm mT pm mU mH mI, kA mN cI 3 gm, kJ mF cJ 6 ff, kA mC cI 360 gc]) (wr := [kC o oP oL oC oX oY oF oS oT oM fL fR fN fM oR, kS oP 3 qp (gm 0), kA qp cI 180 gp, kS oL 3 ql (gm 1), kA ql cI 180 gl, kS oC 6 qc ((z4_conic (gm 2) gc a1 a2 a3 a4 a5 a6).2.1), kA qc cI 360 ((z4_conic (gm 2) gc a1 a2 a3 a4 a5 a6).2.2), kP oX q1 q2 cn, kT q1 c1 c2 c3, kT q2 c4 c5 c6, kP oY q3 q4 pn, kT q3 p1 p2 p3, kT q4 p4 p5 p6, kT oF t11 t12 t13, kT oS t21 t22 t23, kT oT t31 t32 t33, kT oM t41 t42 t43, kF fL f11 f12 f13 f14 f15 f16, kF fR f21 f22 f23 f24 f25 f26, kF fN f31 f32 f33 f34 f35 f36, kF fM y_258_0_1 y_258_1_2 y_258_2_3 y_258_3_4 y_258_4_5 y_258_5_6, kA oR cI 5 gr, kA mP cI 180 gp, kA mL cI 180 gl, kJ mR cJ 30 fr, kJ mD cJ 64 fd, kA mV cI 5 gv, kJ mX cJ 9 fx, kJ mA cJ 9 fa, kJ mK cJ 6 fk, kJ mT cJ 6 ft, kJ mU cJ 3 fg, kJ mH cJ 3 fh, kJ mI cJ 3 fi]) (w1 := fun uu : (Nat → Int64) => [kM om mP mL mC mN mF mR mD mV mX mA mK cm mT pm mU mH mI, kA mN cI 3 ((z5_conic gm ff gc a1 a2 a3 a4 a5 a6).2.1), kJ mF cJ 6 uu, kA mC cI 360 ((z5_conic gm ff gc a1 a2 a3 a4 a5 a6).2.2)]) (wn := fun uu : (Nat → Int64) => [kC o oP oL oC oX oY oF oS oT oM fL fR fN fM oR, kS oP 3 qp (gm 0), kA qp cI 180 gp, kS oL 3 ql (gm 1), kA ql cI 180 gl, kS oC 6 qc ((z4_conic (gm 2) gc a1 a2 a3 a4 a5 a6).2.1), kA qc cI 360 ((z4_conic (gm 2) gc a1 a2 a3 a4 a5 a6).2.2), kP oX q1 q2 cn, kT q1 c1 c2 c3, kT q2 c4 c5 c6, kP oY q3 q4 pn, kT q3 p1 p2 p3, kT q4 p4 p5 p6, kT oF t11 t12 t13, kT oS t21 t22 t23, kT oT t31 t32 t33, kT oM t41 t42 t43, kF fL f11 f12 f13 f14 f15 f16, kF fR f21 f22 f23 f24 f25 f26, kF fN f31 f32 f33 f34 f35 f36, kF fM y_258_0_1 y_258_1_2 y_258_2_3 y_258_3_4 y_258_4_5 y_258_5_6, kA oR cI 5 gr, kM om mP mL mC mN mF mR mD mV mX mA mK cm mT pm mU mH mI, kA mP cI 180 gp, kA mL cI 180 gl, kA mC cI 360 ((z5_conic gm ff gc a1 a2 a3 a4 a5 a6).2.2), kA mN cI 3 ((z5_conic gm ff gc a1 a2 a3 a4 a5 a6).2.1), kJ mF cJ 6 uu, kJ mR cJ 30 fr, kJ mD cJ 64 fd, kA mV cI 5 gv, kJ mX cJ 9 fx, kJ mA cJ 9 fa, kJ mK cJ 6 fk, kJ mT cJ 6 ft, kJ mU cJ 3 fg, kJ mH cJ 3 fh, kJ mI cJ 3 fi]) (va_runV (As := [.int a1, .int a2, .int a3, .int a4, .int a5, .int a6]) (rest := [.int ((z4_conic (gm 2) gc a1 a2 a3 a4 a5 a6).1)]) ⟨hx, hb, hml, hown, hts⟩ (c_X5_conic l D cI cJ om mP mL mC mN mF mR mD mV mX mA mK mT mU mH mI cm pm gm ff gc a1 a2 a3 a4 a5 a6 g2.1 _) (cwV 6 hts gL_law_X5_conic rfl rfl rfl (by decide +kernel) ⟨Nat.le_of_ble_eq_true rfl, Nat.le_of_ble_eq_true rfl⟩) ⟨gd_blP, va_recv hK.1 hPc (ci := 5) (q0 := 0) rfl rfl, gd_prP hPc hK hDc⟩ rfl rfl hl.1 rfl (lv_room (Nat.le_of_ble_eq_true rfl)) dL_law_293 ⟨Nat.le_of_ble_eq_true rfl, Nat.le_of_ble_eq_true rfl⟩) hP hD hS hA [22, 26, 27, 25] [0, 1, 2, 3, 4, 5, 6, 7, 8, 9, 10, 11, 12, 13, 14, 15, 16, 17, 18, 19, 20, 21, 23, 24, 28, 29, 30, 31, 32, 33, 34, 35, 36, 37] rfl rfl (by decide) (by decide) [0, 1, 2, 3, 4, 5, 6, 7, 8, 9, 10, 11, 12, 13, 14, 15, 16, 17, 18, 19, 20, 21, 34, 22, 23, 37, 35, 36, 24, 25, 26, 27, 28, 29, 30, 31, 32, 33] (by decide) (fun _ => rfl) (fun r_293 uG H locs hw hP hD hS => ?_)
  obtain ⟨y_293_0_7, rfl⟩ : ∃ z, z = uG := ⟨_, rfl⟩
  have hP : va_P D vwCl [kC o oP oL oC oX oY oF oS oT oM fL fR fN fM oR, kS oP 3 qp (gm 0), kA qp cI 180 gp, kS oL 3 ql (gm 1), kA ql cI 180 gl, kS oC 6 qc ((z4_conic (gm 2) gc a1 a2 a3 a4 a5 a6).2.1), kA qc cI 360 ((z4_conic (gm 2) gc a1 a2 a3 a4 a5 a6).2.2), kP oX q1 q2 cn, kT q1 c1 c2 c3, kT q2 c4 c5 c6, kP oY q3 q4 pn, kT q3 p1 p2 p3, kT q4 p4 p5 p6, kT oF t11 t12 t13, kT oS t21 t22 t23, kT oT t31 t32 t33, kT oM t41 t42 t43, kF fL f11 f12 f13 f14 f15 f16, kF fR f21 f22 f23 f24 f25 f26, kF fN f31 f32 f33 f34 f35 f36, kF fM y_258_0_1 y_258_1_2 y_258_2_3 y_258_3_4 y_258_4_5 y_258_5_6, kA oR cI 5 gr, kM om mP mL mC mN mF mR mD mV mX mA mK cm mT pm mU mH mI, kA mP cI 180 gp, kA mL cI 180 gl, kA mC cI 360 ((z5_conic gm ff gc a1 a2 a3 a4 a5 a6).2.2), kA mN cI 3 ((z5_conic gm ff gc a1 a2 a3 a4 a5 a6).2.1), kJ mF cJ 6 y_293_0_7, kJ mR cJ 30 fr, kJ mD cJ 64 fd, kA mV cI 5 gv, kJ mX cJ 9 fx, kJ mA cJ 9 fa, kJ mK cJ 6 fk, kJ mT cJ 6 ft, kJ mU cJ 3 fg, kJ mH cJ 3 fh, kJ mI cJ 3 fi] H := hP
  have hD : va_D A [kC o oP oL oC oX oY oF oS oT oM fL fR fN fM oR, kS oP 3 qp (gm 0), kA qp cI 180 gp, kS oL 3 ql (gm 1), kA ql cI 180 gl, kS oC 6 qc ((z4_conic (gm 2) gc a1 a2 a3 a4 a5 a6).2.1), kA qc cI 360 ((z4_conic (gm 2) gc a1 a2 a3 a4 a5 a6).2.2), kP oX q1 q2 cn, kT q1 c1 c2 c3, kT q2 c4 c5 c6, kP oY q3 q4 pn, kT q3 p1 p2 p3, kT q4 p4 p5 p6, kT oF t11 t12 t13, kT oS t21 t22 t23, kT oT t31 t32 t33, kT oM t41 t42 t43, kF fL f11 f12 f13 f14 f15 f16, kF fR f21 f22 f23 f24 f25 f26, kF fN f31 f32 f33 f34 f35 f36, kF fM y_258_0_1 y_258_1_2 y_258_2_3 y_258_3_4 y_258_4_5 y_258_5_6, kA oR cI 5 gr, kM om mP mL mC mN mF mR mD mV mX mA mK cm mT pm mU mH mI, kA mP cI 180 gp, kA mL cI 180 gl, kA mC cI 360 ((z5_conic gm ff gc a1 a2 a3 a4 a5 a6).2.2), kA mN cI 3 ((z5_conic gm ff gc a1 a2 a3 a4 a5 a6).2.1), kJ mF cJ 6 y_293_0_7, kJ mR cJ 30 fr, kJ mD cJ 64 fd, kA mV cI 5 gv, kJ mX cJ 9 fx, kJ mA cJ 9 fa, kJ mK cJ 6 fk, kJ mT cJ 6 ft, kJ mU cJ 3 fg, kJ mH cJ 3 fh, kJ mI cJ 3 fi] := hD
  subst hw
  clear hPc hDc
  have pk := pu_conic gm ff gc a1 a2 a3 a4 a5 a6 g2
  have pkq : ((z4_conic (gm 2) gc a1 a2 a3 a4 a5 a6).1) = ((z5_conic gm ff gc a1 a2 a3 a4 a5 a6).1) := (congrArg (fun t => t.1) pk.1).symm
  refine lv_icmp_eq (tgt := 995) hx hb dL_law_296 (by decide) (fun _ => ?_) (fun h => absurd pkq h)
  have eG : (z5_conic gm ff gc a1 a2 a3 a4 a5 a6).2.1 = upd gm 2 ((z4_conic (gm 2) gc a1 a2 a3 a4 a5 a6).2.1) := congrArg (fun t => t.2.1) pk.1
  have eF : (z5_conic gm ff gc a1 a2 a3 a4 a5 a6).2.2 = (z4_conic (gm 2) gc a1 a2 a3 a4 a5 a6).2.2 := congrArg (fun t => t.2.2) pk.1
  rw [eG, eF] at hP hD
  exact ih (upd gm 2 ((z4_conic (gm 2) gc a1 a2 a3 a4 a5 a6).2.1)) gp gl ((z4_conic (gm 2) gc a1 a2 a3 a4 a5 a6).2.2) cn c1 c2 c3 c4 c5 c6 cm fk pn p1 p2 p3 p4 p5 p6 pm ft H locs ls ⟨g0, g1, pk.2, pr1, pr2⟩ ⟨q1, q2, q3, q4, t11, t12, t13, t21, t22, t23, t31, t32, t33, t41, t42, t43, f11, f12, f13, f14, f15, f16, f21, f22, f23, f24, f25, f26, f31, f32, f33, f34, f35, f36, y_258_0_1, y_258_1_2, y_258_2_3, y_258_3_4, y_258_4_5, y_258_5_6, gr, gv, y_293_0_7, fr, fd, fx, fa, fg, fh, fi, hP, hD⟩ hS hl
