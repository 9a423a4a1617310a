-- laid by wip/whole/gen
theorem hv5 {g : Nat → Int32} {a b c d e : Int32} (h0 : ok_i a) (h1 : ok_i b) (h2 : ok_i c) (h3 : ok_i d) (h4 : ok_i e) : ∀ n, n < 5 → ok_i ((upd (upd (upd (upd (upd g 0 a) 1 b) 2 c) 3 d) 4 e) n) := by
  intro n hn
  rcases (show n = 0 ∨ n = 1 ∨ n = 2 ∨ n = 3 ∨ n = 4 by omega) with rfl | rfl | rfl | rfl | rfl
  · exact h0
  · exact h1
  · exact h2
  · exact h3
  · exact h4
def z5_five_v1 (gp : Nat → Int32) (fr : Nat → Int64) (i : Int32) (j : Int32) (k : Int32) (m : Int32) (t : Int32) : Nat → Int64 := (z5_layRow_4_f1 (z5_layRow_3_f1 (z5_layRow_2_f1 (z5_layRow_1_f1 (z5_layRow_0_f1 fr gp i) gp j) gp k) gp m) gp t)
def z5_five_v2 (gp : Nat → Int32) (fr : Nat → Int64) (fd : Nat → Int64) (i : Int32) (j : Int32) (k : Int32) (m : Int32) (t : Int32) : Nat → Int64 := z5_layMinors_f2 (z5_layRow_4_f1 (z5_layRow_3_f1 (z5_layRow_2_f1 (z5_layRow_1_f1 (z5_layRow_0_f1 fr gp i) gp j) gp k) gp m) gp t) fd
def z5_five_v3 (gm : Nat → Int32) (ff : Nat → Int64) (gp : Nat → Int32) (gc : Nat → Int32) (fr : Nat → Int64) (fd : Nat → Int64) (i : Int32) (j : Int32) (k : Int32) (m : Int32) (t : Int32) : Nat → Int32 := (z5_keep_2 gm (vp_updL (vp_updL (vp_updL (vp_updL (vp_updL (vp_updL ff 0 ((z5_five_v2 gp fr fd i j k m t) 62)) 1 (-((z5_five_v2 gp fr fd i j k m t) 61))) 2 ((z5_five_v2 gp fr fd i j k m t) 59)) 3 (-((z5_five_v2 gp fr fd i j k m t) 55))) 4 ((z5_five_v2 gp fr fd i j k m t) 47)) 5 (-((z5_five_v2 gp fr fd i j k m t) 31))) gc (-1000004)).2.1
def z5_five_v4 (gm : Nat → Int32) (ff : Nat → Int64) (gp : Nat → Int32) (gc : Nat → Int32) (fr : Nat → Int64) (fd : Nat → Int64) (i : Int32) (j : Int32) (k : Int32) (m : Int32) (t : Int32) : Nat → Int32 := (z5_keep_2 gm (vp_updL (vp_updL (vp_updL (vp_updL (vp_updL (vp_updL ff 0 ((z5_five_v2 gp fr fd i j k m t) 62)) 1 (-((z5_five_v2 gp fr fd i j k m t) 61))) 2 ((z5_five_v2 gp fr fd i j k m t) 59)) 3 (-((z5_five_v2 gp fr fd i j k m t) 55))) 4 ((z5_five_v2 gp fr fd i j k m t) 47)) 5 (-((z5_five_v2 gp fr fd i j k m t) 31))) gc (-1000004)).2.2
def z5_five_v5 (gm : Nat → Int32) (ff : Nat → Int64) (gp : Nat → Int32) (gc : Nat → Int32) (fr : Nat → Int64) (fd : Nat → Int64) (i : Int32) (j : Int32) (k : Int32) (m : Int32) (t : Int32) : Int32 := (z5_keep_2 gm (vp_updL (vp_updL (vp_updL (vp_updL (vp_updL (vp_updL ff 0 ((z5_five_v2 gp fr fd i j k m t) 62)) 1 (-((z5_five_v2 gp fr fd i j k m t) 61))) 2 ((z5_five_v2 gp fr fd i j k m t) 59)) 3 (-((z5_five_v2 gp fr fd i j k m t) 55))) 4 ((z5_five_v2 gp fr fd i j k m t) 47)) 5 (-((z5_five_v2 gp fr fd i j k m t) 31))) gc (-1000004)).1
def z5_five (gm : Nat → Int32) (ff : Nat → Int64) (gp : Nat → Int32) (gc : Nat → Int32) (fr : Nat → Int64) (fd : Nat → Int64) (gv : Nat → Int32) (i : Int32) (j : Int32) (k : Int32) (m : Int32) (t : Int32) : Int32 × (Nat → Int32) × (Nat → Int32) := if (z5_isOf_0 gm i) = 0 then ((-1000002), gm, gc) else if (z5_isOf_0 gm j) = 0 then ((-1000002), gm, gc) else if (z5_isOf_0 gm k) = 0 then ((-1000002), gm, gc) else if (z5_isOf_0 gm m) = 0 then ((-1000002), gm, gc) else if (z5_isOf_0 gm t) = 0 then ((-1000002), gm, gc) else if (z5_areSeveral gp (upd (upd (upd (upd (upd gv 0 i) 1 j) 2 k) 3 m) 4 t)) = 0 then if (z5_isSmall gp i) = 0 then ((-1000006), gm, gc) else if (z5_isSmall gp j) = 0 then ((-1000006), gm, gc) else if (z5_isSmall gp k) = 0 then ((-1000006), gm, gc) else if (z5_isSmall gp m) = 0 then ((-1000006), gm, gc) else if (z5_isSmall gp t) = 0 then ((-1000006), gm, gc) else (z5_five_v5 gm ff gp gc fr fd i j k m t, z5_five_v3 gm ff gp gc fr fd i j k m t, z5_five_v4 gm ff gp gc fr fd i j k m t) else ((-1000004), gm, gc)
set_option maxHeartbeats 4000000 in
set_option maxRecDepth 100000 in
theorem sg_X5_five_t {l : Launch} {D : va_G} {cI cJ : ClassId} {pG : Program} {eG : Env} {sG : State} {mG : MethodId} {below : List Frame} {meth : Method} {cG : Code} {A : Nat → Prop} {H : Heap} {locs : List Loc} {o : Nat} {mP : Nat} {mL : Nat} {mC : Nat} {mN : Nat} {mF : Nat} {mR : Nat} {mD : Nat} {mV : Nat} {mX : Nat} {mA : Nat} {mK : Nat} {mT : Nat} {mU : Nat} {mH : Nat} {mI : Nat} {cm : Int32} {pm : Int32} {gm : Nat → Int32} {ff : Nat → Int64} {gp : Nat → Int32} {gc : Nat → Int32} {FR : Nat → Int64} {FD : Nat → Int64} {GV : Nat → Int32} {i : Int32} {j : Int32} {k : Int32} {m : Int32} {t : Int32} {R1 : Int32} {R2 R3 : Nat → Int32} (hm2 : n_ok (gm 2)) (hq0 : (z5_keep_2 gm (vp_updL (vp_updL (vp_updL (vp_updL (vp_updL (vp_updL ff 0 (FD 62)) 1 (-(FD 61))) 2 (FD 59)) 3 (-(FD 55))) 4 (FD 47)) 5 (-(FD 31))) gc (-1000004)).1 = R1) (hq1 : (z5_keep_2 gm (vp_updL (vp_updL (vp_updL (vp_updL (vp_updL (vp_updL ff 0 (FD 62)) 1 (-(FD 61))) 2 (FD 59)) 3 (-(FD 55))) 4 (FD 47)) 5 (-(FD 31))) gc (-1000004)).2.1 = R2) (hq2 : (z5_keep_2 gm (vp_updL (vp_updL (vp_updL (vp_updL (vp_updL (vp_updL ff 0 (FD 62)) 1 (-(FD 61))) 2 (FD 59)) 3 (-(FD 55))) 4 (FD 47)) 5 (-(FD 31))) gc (-1000004)).2.2 = R3) (hx : pG.tables.exec = Jvm.exec) (hb : cG.code = cX5_five) (hr : meth.sig.returnType = some .int) (hml : cG.maxLocals = 7) (hown : sG.vm.findClass RX5 = some mG.cls) (hts : ∀ x ∈ wsX5_five, x.before ([.ref o, .int i, .int j, .int k, .int m, .int t] : List Value).toArray sG = true) (hlk : meth.locks = false) (hK : gd_K D cI cJ sG) (hA : ∀ q : Nat, sG.heap.size ≤ q → A q) (hP : va_P D vwCl [kM o mP mL mC mN mF mR mD mV mX mA mK cm mT pm mU mH mI, kA mN cI 3 gm, kJ mF cJ 6 ff, kA mP cI 180 gp, kA mC cI 360 gc, kJ mR cJ 30 FR, kJ mD cJ 64 FD, kA mV cI 5 GV] H) (hD : va_D A [kM o mP mL mC mN mF mR mD mV mX mA mK cm mT pm mU mH mI, kA mN cI 3 gm, kJ mF cJ 6 ff, kA mP cI 180 gp, kA mC cI 360 gc, kJ mR cJ 30 FR, kJ mD cJ 64 FD, kA mV cI 5 GV]) (hS : va_S A sG.heap H locs) (ls : Array Slot) (hl : lv_has ls 7 [(0, .ref o), (1, .int i), (2, .int j), (3, .int k), (4, .int m), (5, .int t)]) : W pG l eG (headSpec wsX5_five ({ frames := 3, cells := 0, slots := 0, locals := 80 })).room sG mG ([.ref o, .int i, .int j, .int k, .int m, .int t] : List Value).toArray below meth cG H locs 0 0 (MQ below ((qe_i (fun (r : Int32) (_ : (Nat → Int64) × (Nat → Int64) × (Nat → Int64) × (Nat → Int32)) => r = R1) (fun uu => [kM o mP mL mC mN mF mR mD mV mX mA mK cm mT pm mU mH mI, kA mN cI 3 R2, kJ mF cJ 6 uu.1, kA mP cI 180 gp, kA mC cI 360 R3, kJ mR cJ 30 uu.2.1, kJ mD cJ 64 uu.2.2.1, kA mV cI 5 uu.2.2.2])) D A) ([.ref o, .int i, .int j, .int k, .int m, .int t] : List Value).toArray sG 0 0 A) (F0 mG 178 ls []) := by
  have k_1 := hts (.constant RX5 101 (-1000002)) (by decide +kernel)
  have k_2 := hts (.fieldLink RX5 32 "ConicRowsModel" "five" "[I") (by decide +kernel)
  have k_3 : ∀ w ∈ wsX50, w ∈ wsX5_five := by decide +kernel
  have k_4 := hts (.constant RX5 76 (-1000006)) (by decide +kernel)
  have k_5 := hts (.fieldLink RX5 22 "ConicRowsModel" "fresh" "[J") (by decide +kernel)
  have k_6 := hts (.fieldLink RX5 29 "ConicRowsModel" "minors" "[J") (by decide +kernel)
  have k_7 := hts (.constant RX5 106 (-1000004)) (by decide +kernel)
  refine lv_iconst (v := 0) hx hb dX5_five_178 (by decide) ?_
  refine lv_istore (lv' := [(6, .int 0), (0, .ref o), (1, .int i), (2, .int j), (3, .int k), (4, .int m), (5, .int t)]) hx hb dX5_five_179 hl (by decide) rfl (fun ls hl => ?_)
  refine lv_iload hx hb dX5_five_181 (lv_at hl 0 rfl) ?_
  refine lv_bipush (v := 6) hx hb dX5_five_183 (by decide) ?_
  refine lv_icmp_ge (tgt := 236) hx hb dX5_five_185 (by decide) (fun h => absurd h (by decide)) (fun _ => ?_)
  refine lv_aload_n hx hb dX5_five_188 rfl (lv_at hl 1 rfl) ?_
  refine va_get (D := D) (ci := 5) (v := .ref mF) (C := RX5) (T := TX5) (N := 17) hx hb hts k_3 hown hK.1 hP 0 rfl rfl 4 (by decide) k_5 (fun _ h9 => h9) rfl dX5_five_189 ?_
  refine lv_iload hx hb dX5_five_192 (lv_at hl 0 rfl) ?_
  refine lv_iload hx hb dX5_five_194 (lv_at hl 0 rfl) ?_
  refine lv_iconst (v := 2) hx hb dX5_five_196 (by decide) ?_
  refine lv_irem hx hb dX5_five_197 (by decide) ?_
  refine lv_eqi (v := 0) (by decide) ?_
  refine lv_if_ne (tgt := 216) hx hb dX5_five_198 (by decide) (fun h => absurd (by decide) h) (fun _ => ?_)
  refine lv_aload_n hx hb dX5_five_201 rfl (lv_at hl 1 rfl) ?_
  refine va_get (D := D) (ci := 5) (v := .ref mD) (C := RX5) (T := TX5) (N := 17) hx hb hts k_3 hown hK.1 hP 0 rfl rfl 6 (by decide) k_6 (fun _ h9 => h9) rfl dX5_five_202 ?_
  refine lv_bipush (v := 63) hx hb dX5_five_205 (by decide) ?_
  refine lv_iconst (v := 1) hx hb dX5_five_207 (by decide) ?_
  refine lv_iload hx hb dX5_five_208 (lv_at hl 0 rfl) ?_
  refine lv_ishl hx hb dX5_five_210 ?_
  refine lv_eqi (v := 1) (by decide) ?_
  refine lv_isub hx hb dX5_five_211 ?_
  refine lv_eqi (v := 62) (by decide) ?_
  refine ld_l hx hb hK.1 hP 6 1 rfl rfl (ix_lit (by decide)) 62 (by decide) (v := FD 62) rfl dX5_five_212 ?_
  refine lv_goto (tgt := 229) hx hb dX5_five_213 (by decide) ?_
  refine st_l hx hb hK.1 hP hD hS 2 1 rfl rfl (ix_lit (by decide)) 0 (by decide) dX5_five_229 (fun H locs hP hD hS => ?_)
  have hP : va_P D vwCl [kM o mP mL mC mN mF mR mD mV mX mA mK cm mT pm mU mH mI, kA mN cI 3 gm, kJ mF cJ 6 (vp_updL ff 0 (FD 62)), kA mP cI 180 gp, kA mC cI 360 gc, kJ mR cJ 30 FR, kJ mD cJ 64 FD, kA mV cI 5 GV] H := hP
  have hD : va_D A [kM o mP mL mC mN mF mR mD mV mX mA mK cm mT pm mU mH mI, kA mN cI 3 gm, kJ mF cJ 6 (vp_updL ff 0 (FD 62)), kA mP cI 180 gp, kA mC cI 360 gc, kJ mR cJ 30 FR, kJ mD cJ 64 FD, kA mV cI 5 GV] := hD
  refine lv_iinc (v := 1) (lv' := [(6, .int 1), (0, .ref o), (1, .int i), (2, .int j), (3, .int k), (4, .int m), (5, .int t)]) hx hb dX5_five_230 hl (k := 0) rfl (by decide) (by decide) rfl (fun ls hl => ?_)
  refine lv_goto (tgt := 181) hx hb dX5_five_233 (by decide) ?_
  refine lv_iload hx hb dX5_five_181 (lv_at hl 0 rfl) ?_
  refine lv_bipush (v := 6) hx hb dX5_five_183 (by decide) ?_
  refine lv_icmp_ge (tgt := 236) hx hb dX5_five_185 (by decide) (fun h => absurd h (by decide)) (fun _ => ?_)
  refine lv_aload_n hx hb dX5_five_188 rfl (lv_at hl 1 rfl) ?_
  refine va_get (D := D) (ci := 5) (v := .ref mF) (C := RX5) (T := TX5) (N := 17) hx hb hts k_3 hown hK.1 hP 0 rfl rfl 4 (by decide) k_5 (fun _ h9 => h9) rfl dX5_five_189 ?_
  refine lv_iload hx hb dX5_five_192 (lv_at hl 0 rfl) ?_
  refine lv_iload hx hb dX5_five_194 (lv_at hl 0 rfl) ?_
  refine lv_iconst (v := 2) hx hb dX5_five_196 (by decide) ?_
  refine lv_irem hx hb dX5_five_197 (by decide) ?_
  refine lv_eqi (v := 1) (by decide) ?_
  refine lv_if_ne (tgt := 216) hx hb dX5_five_198 (by decide) (fun _ => ?_) (fun h => absurd h (by decide))
  refine lv_aload_n hx hb dX5_five_216 rfl (lv_at hl 1 rfl) ?_
  refine va_get (D := D) (ci := 5) (v := .ref mD) (C := RX5) (T := TX5) (N := 17) hx hb hts k_3 hown hK.1 hP 0 rfl rfl 6 (by decide) k_6 (fun _ h9 => h9) rfl dX5_five_217 ?_
  refine lv_bipush (v := 63) hx hb dX5_five_220 (by decide) ?_
  refine lv_iconst (v := 1) hx hb dX5_five_222 (by decide) ?_
  refine lv_iload hx hb dX5_five_223 (lv_at hl 0 rfl) ?_
  refine lv_ishl hx hb dX5_five_225 ?_
  refine lv_eqi (v := 2) (by decide) ?_
  refine lv_isub hx hb dX5_five_226 ?_
  refine lv_eqi (v := 61) (by decide) ?_
  refine ld_l hx hb hK.1 hP 6 1 rfl rfl (ix_lit (by decide)) 61 (by decide) (v := FD 61) rfl dX5_five_227 ?_
  refine lv_lneg hx hb dX5_five_228 ?_
  refine st_l hx hb hK.1 hP hD hS 2 1 rfl rfl (ix_lit (by decide)) 1 (by decide) dX5_five_229 (fun H locs hP hD hS => ?_)
  have hP : va_P D vwCl [kM o mP mL mC mN mF mR mD mV mX mA mK cm mT pm mU mH mI, kA mN cI 3 gm, kJ mF cJ 6 (vp_updL (vp_updL ff 0 (FD 62)) 1 (-(FD 61))), kA mP cI 180 gp, kA mC cI 360 gc, kJ mR cJ 30 FR, kJ mD cJ 64 FD, kA mV cI 5 GV] H := hP
  have hD : va_D A [kM o mP mL mC mN mF mR mD mV mX mA mK cm mT pm mU mH mI, kA mN cI 3 gm, kJ mF cJ 6 (vp_updL (vp_updL ff 0 (FD 62)) 1 (-(FD 61))), kA mP cI 180 gp, kA mC cI 360 gc, kJ mR cJ 30 FR, kJ mD cJ 64 FD, kA mV cI 5 GV] := hD
  refine lv_iinc (v := 2) (lv' := [(6, .int 2), (0, .ref o), (1, .int i), (2, .int j), (3, .int k), (4, .int m), (5, .int t)]) hx hb dX5_five_230 hl (k := 0) rfl (by decide) (by decide) rfl (fun ls hl => ?_)
  refine lv_goto (tgt := 181) hx hb dX5_five_233 (by decide) ?_
  refine lv_iload hx hb dX5_five_181 (lv_at hl 0 rfl) ?_
  refine lv_bipush (v := 6) hx hb dX5_five_183 (by decide) ?_
  refine lv_icmp_ge (tgt := 236) hx hb dX5_five_185 (by decide) (fun h => absurd h (by decide)) (fun _ => ?_)
  refine lv_aload_n hx hb dX5_five_188 rfl (lv_at hl 1 rfl) ?_
  refine va_get (D := D) (ci := 5) (v := .ref mF) (C := RX5) (T := TX5) (N := 17) hx hb hts k_3 hown hK.1 hP 0 rfl rfl 4 (by decide) k_5 (fun _ h9 => h9) rfl dX5_five_189 ?_
  refine lv_iload hx hb dX5_five_192 (lv_at hl 0 rfl) ?_
  refine lv_iload hx hb dX5_five_194 (lv_at hl 0 rfl) ?_
  refine lv_iconst (v := 2) hx hb dX5_five_196 (by decide) ?_
  refine lv_irem hx hb dX5_five_197 (by decide) ?_
  refine lv_eqi (v := 0) (by decide) ?_
  refine lv_if_ne (tgt := 216) hx hb dX5_five_198 (by decide) (fun h => absurd (by decide) h) (fun _ => ?_)
  refine lv_aload_n hx hb dX5_five_201 rfl (lv_at hl 1 rfl) ?_
  refine va_get (D := D) (ci := 5) (v := .ref mD) (C := RX5) (T := TX5) (N := 17) hx hb hts k_3 hown hK.1 hP 0 rfl rfl 6 (by decide) k_6 (fun _ h9 => h9) rfl dX5_five_202 ?_
  refine lv_bipush (v := 63) hx hb dX5_five_205 (by decide) ?_
  refine lv_iconst (v := 1) hx hb dX5_five_207 (by decide) ?_
  refine lv_iload hx hb dX5_five_208 (lv_at hl 0 rfl) ?_
  refine lv_ishl hx hb dX5_five_210 ?_
  refine lv_eqi (v := 4) (by decide) ?_
  refine lv_isub hx hb dX5_five_211 ?_
  refine lv_eqi (v := 59) (by decide) ?_
  refine ld_l hx hb hK.1 hP 6 1 rfl rfl (ix_lit (by decide)) 59 (by decide) (v := FD 59) rfl dX5_five_212 ?_
  refine lv_goto (tgt := 229) hx hb dX5_five_213 (by decide) ?_
  refine st_l hx hb hK.1 hP hD hS 2 1 rfl rfl (ix_lit (by decide)) 2 (by decide) dX5_five_229 (fun H locs hP hD hS => ?_)
  have hP : va_P D vwCl [kM o mP mL mC mN mF mR mD mV mX mA mK cm mT pm mU mH mI, kA mN cI 3 gm, kJ mF cJ 6 (vp_updL (vp_updL (vp_updL ff 0 (FD 62)) 1 (-(FD 61))) 2 (FD 59)), kA mP cI 180 gp, kA mC cI 360 gc, kJ mR cJ 30 FR, kJ mD cJ 64 FD, kA mV cI 5 GV] H := hP
  have hD : va_D A [kM o mP mL mC mN mF mR mD mV mX mA mK cm mT pm mU mH mI, kA mN cI 3 gm, kJ mF cJ 6 (vp_updL (vp_updL (vp_updL ff 0 (FD 62)) 1 (-(FD 61))) 2 (FD 59)), kA mP cI 180 gp, kA mC cI 360 gc, kJ mR cJ 30 FR, kJ mD cJ 64 FD, kA mV cI 5 GV] := hD
  refine lv_iinc (v := 3) (lv' := [(6, .int 3), (0, .ref o), (1, .int i), (2, .int j), (3, .int k), (4, .int m), (5, .int t)]) hx hb dX5_five_230 hl (k := 0) rfl (by decide) (by decide) rfl (fun ls hl => ?_)
  refine lv_goto (tgt := 181) hx hb dX5_five_233 (by decide) ?_
  refine lv_iload hx hb dX5_five_181 (lv_at hl 0 rfl) ?_
  refine lv_bipush (v := 6) hx hb dX5_five_183 (by decide) ?_
  refine lv_icmp_ge (tgt := 236) hx hb dX5_five_185 (by decide) (fun h => absurd h (by decide)) (fun _ => ?_)
  refine lv_aload_n hx hb dX5_five_188 rfl (lv_at hl 1 rfl) ?_
  refine va_get (D := D) (ci := 5) (v := .ref mF) (C := RX5) (T := TX5) (N := 17) hx hb hts k_3 hown hK.1 hP 0 rfl rfl 4 (by decide) k_5 (fun _ h9 => h9) rfl dX5_five_189 ?_
  refine lv_iload hx hb dX5_five_192 (lv_at hl 0 rfl) ?_
  refine lv_iload hx hb dX5_five_194 (lv_at hl 0 rfl) ?_
  refine lv_iconst (v := 2) hx hb dX5_five_196 (by decide) ?_
  refine lv_irem hx hb dX5_five_197 (by decide) ?_
  refine lv_eqi (v := 1) (by decide) ?_
  refine lv_if_ne (tgt := 216) hx hb dX5_five_198 (by decide) (fun _ => ?_) (fun h => absurd h (by decide))
  refine lv_aload_n hx hb dX5_five_216 rfl (lv_at hl 1 rfl) ?_
  refine va_get (D := D) (ci := 5) (v := .ref mD) (C := RX5) (T := TX5) (N := 17) hx hb hts k_3 hown hK.1 hP 0 rfl rfl 6 (by decide) k_6 (fun _ h9 => h9) rfl dX5_five_217 ?_
  refine lv_bipush (v := 63) hx hb dX5_five_220 (by decide) ?_
  refine lv_iconst (v := 1) hx hb dX5_five_222 (by decide) ?_
  refine lv_iload hx hb dX5_five_223 (lv_at hl 0 rfl) ?_
  refine lv_ishl hx hb dX5_five_225 ?_
  refine lv_eqi (v := 8) (by decide) ?_
  refine lv_isub hx hb dX5_five_226 ?_
  refine lv_eqi (v := 55) (by decide) ?_
  refine ld_l hx hb hK.1 hP 6 1 rfl rfl (ix_lit (by decide)) 55 (by decide) (v := FD 55) rfl dX5_five_227 ?_
  refine lv_lneg hx hb dX5_five_228 ?_
  refine st_l hx hb hK.1 hP hD hS 2 1 rfl rfl (ix_lit (by decide)) 3 (by decide) dX5_five_229 (fun H locs hP hD hS => ?_)
  have hP : va_P D vwCl [kM o mP mL mC mN mF mR mD mV mX mA mK cm mT pm mU mH mI, kA mN cI 3 gm, kJ mF cJ 6 (vp_updL (vp_updL (vp_updL (vp_updL ff 0 (FD 62)) 1 (-(FD 61))) 2 (FD 59)) 3 (-(FD 55))), kA mP cI 180 gp, kA mC cI 360 gc, kJ mR cJ 30 FR, kJ mD cJ 64 FD, kA mV cI 5 GV] H := hP
  have hD : va_D A [kM o mP mL mC mN mF mR mD mV mX mA mK cm mT pm mU mH mI, kA mN cI 3 gm, kJ mF cJ 6 (vp_updL (vp_updL (vp_updL (vp_updL ff 0 (FD 62)) 1 (-(FD 61))) 2 (FD 59)) 3 (-(FD 55))), kA mP cI 180 gp, kA mC cI 360 gc, kJ mR cJ 30 FR, kJ mD cJ 64 FD, kA mV cI 5 GV] := hD
  refine lv_iinc (v := 4) (lv' := [(6, .int 4), (0, .ref o), (1, .int i), (2, .int j), (3, .int k), (4, .int m), (5, .int t)]) hx hb dX5_five_230 hl (k := 0) rfl (by decide) (by decide) rfl (fun ls hl => ?_)
  refine lv_goto (tgt := 181) hx hb dX5_five_233 (by decide) ?_
  refine lv_iload hx hb dX5_five_181 (lv_at hl 0 rfl) ?_
  refine lv_bipush (v := 6) hx hb dX5_five_183 (by decide) ?_
  refine lv_icmp_ge (tgt := 236) hx hb dX5_five_185 (by decide) (fun h => absurd h (by decide)) (fun _ => ?_)
  refine lv_aload_n hx hb dX5_five_188 rfl (lv_at hl 1 rfl) ?_
  refine va_get (D := D) (ci := 5) (v := .ref mF) (C := RX5) (T := TX5) (N := 17) hx hb hts k_3 hown hK.1 hP 0 rfl rfl 4 (by decide) k_5 (fun _ h9 => h9) rfl dX5_five_189 ?_
  refine lv_iload hx hb dX5_five_192 (lv_at hl 0 rfl) ?_
  refine lv_iload hx hb dX5_five_194 (lv_at hl 0 rfl) ?_
  refine lv_iconst (v := 2) hx hb dX5_five_196 (by decide) ?_
  refine lv_irem hx hb dX5_five_197 (by decide) ?_
  refine lv_eqi (v := 0) (by decide) ?_
  refine lv_if_ne (tgt := 216) hx hb dX5_five_198 (by decide) (fun h => absurd (by decide) h) (fun _ => ?_)
  refine lv_aload_n hx hb dX5_five_201 rfl (lv_at hl 1 rfl) ?_
  refine va_get (D := D) (ci := 5) (v := .ref mD) (C := RX5) (T := TX5) (N := 17) hx hb hts k_3 hown hK.1 hP 0 rfl rfl 6 (by decide) k_6 (fun _ h9 => h9) rfl dX5_five_202 ?_
  refine lv_bipush (v := 63) hx hb dX5_five_205 (by decide) ?_
  refine lv_iconst (v := 1) hx hb dX5_five_207 (by decide) ?_
  refine lv_iload hx hb dX5_five_208 (lv_at hl 0 rfl) ?_
  refine lv_ishl hx hb dX5_five_210 ?_
  refine lv_eqi (v := 16) (by decide) ?_
  refine lv_isub hx hb dX5_five_211 ?_
  refine lv_eqi (v := 47) (by decide) ?_
  refine ld_l hx hb hK.1 hP 6 1 rfl rfl (ix_lit (by decide)) 47 (by decide) (v := FD 47) rfl dX5_five_212 ?_
  refine lv_goto (tgt := 229) hx hb dX5_five_213 (by decide) ?_
  refine st_l hx hb hK.1 hP hD hS 2 1 rfl rfl (ix_lit (by decide)) 4 (by decide) dX5_five_229 (fun H locs hP hD hS => ?_)
  have hP : va_P D vwCl [kM o mP mL mC mN mF mR mD mV mX mA mK cm mT pm mU mH mI, kA mN cI 3 gm, kJ mF cJ 6 (vp_updL (vp_updL (vp_updL (vp_updL (vp_updL ff 0 (FD 62)) 1 (-(FD 61))) 2 (FD 59)) 3 (-(FD 55))) 4 (FD 47)), kA mP cI 180 gp, kA mC cI 360 gc, kJ mR cJ 30 FR, kJ mD cJ 64 FD, kA mV cI 5 GV] H := hP
  have hD : va_D A [kM o mP mL mC mN mF mR mD mV mX mA mK cm mT pm mU mH mI, kA mN cI 3 gm, kJ mF cJ 6 (vp_updL (vp_updL (vp_updL (vp_updL (vp_updL ff 0 (FD 62)) 1 (-(FD 61))) 2 (FD 59)) 3 (-(FD 55))) 4 (FD 47)), kA mP cI 180 gp, kA mC cI 360 gc, kJ mR cJ 30 FR, kJ mD cJ 64 FD, kA mV cI 5 GV] := hD
  refine lv_iinc (v := 5) (lv' := [(6, .int 5), (0, .ref o), (1, .int i), (2, .int j), (3, .int k), (4, .int m), (5, .int t)]) hx hb dX5_five_230 hl (k := 0) rfl (by decide) (by decide) rfl (fun ls hl => ?_)
  refine lv_goto (tgt := 181) hx hb dX5_five_233 (by decide) ?_
  refine lv_iload hx hb dX5_five_181 (lv_at hl 0 rfl) ?_
  refine lv_bipush (v := 6) hx hb dX5_five_183 (by decide) ?_
  refine lv_icmp_ge (tgt := 236) hx hb dX5_five_185 (by decide) (fun h => absurd h (by decide)) (fun _ => ?_)
  refine lv_aload_n hx hb dX5_five_188 rfl (lv_at hl 1 rfl) ?_
  refine va_get (D := D) (ci := 5) (v := .ref mF) (C := RX5) (T := TX5) (N := 17) hx hb hts k_3 hown hK.1 hP 0 rfl rfl 4 (by decide) k_5 (fun _ h9 => h9) rfl dX5_five_189 ?_
  refine lv_iload hx hb dX5_five_192 (lv_at hl 0 rfl) ?_
  refine lv_iload hx hb dX5_five_194 (lv_at hl 0 rfl) ?_
  refine lv_iconst (v := 2) hx hb dX5_five_196 (by decide) ?_
  refine lv_irem hx hb dX5_five_197 (by decide) ?_
  refine lv_eqi (v := 1) (by decide) ?_
  refine lv_if_ne (tgt := 216) hx hb dX5_five_198 (by decide) (fun _ => ?_) (fun h => absurd h (by decide))
  refine lv_aload_n hx hb dX5_five_216 rfl (lv_at hl 1 rfl) ?_
  refine va_get (D := D) (ci := 5) (v := .ref mD) (C := RX5) (T := TX5) (N := 17) hx hb hts k_3 hown hK.1 hP 0 rfl rfl 6 (by decide) k_6 (fun _ h9 => h9) rfl dX5_five_217 ?_
  refine lv_bipush (v := 63) hx hb dX5_five_220 (by decide) ?_
  refine lv_iconst (v := 1) hx hb dX5_five_222 (by decide) ?_
  refine lv_iload hx hb dX5_five_223 (lv_at hl 0 rfl) ?_
  refine lv_ishl hx hb dX5_five_225 ?_
  refine lv_eqi (v := 32) (by decide) ?_
  refine lv_isub hx hb dX5_five_226 ?_
  refine lv_eqi (v := 31) (by decide) ?_
  refine ld_l hx hb hK.1 hP 6 1 rfl rfl (ix_lit (by decide)) 31 (by decide) (v := FD 31) rfl dX5_five_227 ?_
  refine lv_lneg hx hb dX5_five_228 ?_
  refine st_l hx hb hK.1 hP hD hS 2 1 rfl rfl (ix_lit (by decide)) 5 (by decide) dX5_five_229 (fun H locs hP hD hS => ?_)
  have hP : va_P D vwCl [kM o mP mL mC mN mF mR mD mV mX mA mK cm mT pm mU mH mI, kA mN cI 3 gm, kJ mF cJ 6 (vp_updL (vp_updL (vp_updL (vp_updL (vp_updL (vp_updL ff 0 (FD 62)) 1 (-(FD 61))) 2 (FD 59)) 3 (-(FD 55))) 4 (FD 47)) 5 (-(FD 31))), kA mP cI 180 gp, kA mC cI 360 gc, kJ mR cJ 30 FR, kJ mD cJ 64 FD, kA mV cI 5 GV] H := hP
  have hD : va_D A [kM o mP mL mC mN mF mR mD mV mX mA mK cm mT pm mU mH mI, kA mN cI 3 gm, kJ mF cJ 6 (vp_updL (vp_updL (vp_updL (vp_updL (vp_updL (vp_updL ff 0 (FD 62)) 1 (-(FD 61))) 2 (FD 59)) 3 (-(FD 55))) 4 (FD 47)) 5 (-(FD 31))), kA mP cI 180 gp, kA mC cI 360 gc, kJ mR cJ 30 FR, kJ mD cJ 64 FD, kA mV cI 5 GV] := hD
  refine lv_iinc (v := 6) (lv' := [(6, .int 6), (0, .ref o), (1, .int i), (2, .int j), (3, .int k), (4, .int m), (5, .int t)]) hx hb dX5_five_230 hl (k := 0) rfl (by decide) (by decide) rfl (fun ls hl => ?_)
  refine lv_goto (tgt := 181) hx hb dX5_five_233 (by decide) ?_
  refine lv_iload hx hb dX5_five_181 (lv_at hl 0 rfl) ?_
  refine lv_bipush (v := 6) hx hb dX5_five_183 (by decide) ?_
  refine lv_icmp_ge (tgt := 236) hx hb dX5_five_185 (by decide) (fun _ => ?_) (fun h => absurd (by decide) h)
  refine lv_aload_n hx hb dX5_five_236 rfl (lv_at hl 1 rfl) ?_
  refine lv_iconst (v := 2) hx hb dX5_five_237 (by decide) ?_
  refine lv_ldc hx hb hown k_7 dX5_five_238 ?_
  obtain ⟨FG, hFG⟩ : ∃ z, z = vp_updL (vp_updL (vp_updL (vp_updL (vp_updL (vp_updL ff 0 (FD 62)) 1 (-(FD 61))) 2 (FD 59)) 3 (-(FD 55))) 4 (FD 47)) 5 (-(FD 31)) := ⟨_, rfl⟩
  rw [← hFG] at hP hD
  have hPc := hP.sub (ws' := [kM o mP mL mC mN mF mR mD mV mX mA mK cm mT pm mU mH mI, kA mN cI 3 gm, kJ mF cJ 6 FG, kA mC cI 360 gc]) [0, 1, 2, 4] rfl
  have hDc := hD.sub (ws' := [kM o mP mL mC mN mF mR mD mV mX mA mK cm mT pm mU mH mI, kA mN cI 3 gm, kJ mF cJ 6 FG, kA mC cI 360 gc]) [0, 1, 2, 4] (by decide) rfl
  refine cl_i (wc := [kM o mP mL mC mN mF mR mD mV mX mA mK cm mT pm mU mH mI, kA mN cI 3 gm, kJ mF cJ 6 FG, kA mC cI 360 gc]) (wr := [kA mP cI 180 gp, kJ mR cJ 30 FR, kJ mD cJ 64 FD, kA mV cI 5 GV]) (w1 := fun uu : (Nat → Int64) => [kM o mP mL mC mN mF mR mD mV mX mA mK cm mT pm mU mH mI, kA mN cI 3 ((z5_keep_2 gm FG gc (-1000004)).2.1), kJ mF cJ 6 uu, kA mC cI 360 ((z5_keep_2 gm FG gc (-1000004)).2.2)]) (wn := fun uu : (Nat → Int64) => [kM o mP mL mC mN mF mR mD mV mX mA mK cm mT pm mU mH mI, kA mN cI 3 ((z5_keep_2 gm FG gc (-1000004)).2.1), kJ mF cJ 6 uu, kA mP cI 180 gp, kA mC cI 360 ((z5_keep_2 gm FG gc (-1000004)).2.2), kJ mR cJ 30 FR, kJ mD cJ 64 FD, kA mV cI 5 GV]) (va_runV (As := [.int 2, .int (-1000004)]) (rest := []) ⟨hx, hb, hml, hown, hts⟩ (c_X5_keep_2 l D cI cJ o mP mL mC mN mF mR mD mV mX mA mK mT mU mH mI cm pm gm FG gc (-1000004) hm2 _) (cwV 2 hts gX5_five_X5_keep rfl rfl rfl (by decide +kernel) ⟨Nat.le_of_ble_eq_true rfl, Nat.le_of_ble_eq_true rfl⟩) ⟨gd_blP, va_recv hK.1 hPc (ci := 5) (q0 := 0) rfl rfl, gd_prP hPc hK hDc⟩ rfl rfl hl.1 rfl (lv_room (Nat.le_of_ble_eq_true rfl)) dX5_five_240 ⟨Nat.zero_le _, Nat.zero_le _⟩) hP hD hS hA [0, 1, 2, 4] [3, 5, 6, 7] rfl rfl (by decide) (by decide) [4, 5, 6, 0, 7, 1, 2, 3] (by decide) (fun _ => rfl) (fun r_240 uG H locs hw hP hD hS => ?_)
  obtain ⟨y_240_0_1, rfl⟩ : ∃ z, z = uG := ⟨_, rfl⟩
  have hP : va_P D vwCl [kM o mP mL mC mN mF mR mD mV mX mA mK cm mT pm mU mH mI, kA mN cI 3 ((z5_keep_2 gm FG gc (-1000004)).2.1), kJ mF cJ 6 y_240_0_1, kA mP cI 180 gp, kA mC cI 360 ((z5_keep_2 gm FG gc (-1000004)).2.2), kJ mR cJ 30 FR, kJ mD cJ 64 FD, kA mV cI 5 GV] H := hP
  have hD : va_D A [kM o mP mL mC mN mF mR mD mV mX mA mK cm mT pm mU mH mI, kA mN cI 3 ((z5_keep_2 gm FG gc (-1000004)).2.1), kJ mF cJ 6 y_240_0_1, kA mP cI 180 gp, kA mC cI 360 ((z5_keep_2 gm FG gc (-1000004)).2.2), kJ mR cJ 30 FR, kJ mD cJ 64 FD, kA mV cI 5 GV] := hD
  subst hFG
  rw [hq1, hq2] at hP hD
  subst hw
  clear hPc hDc
  exact rt_i (w1 := fun uu : (Nat → Int64) × (Nat → Int64) × (Nat → Int64) × (Nat → Int32) => [kM o mP mL mC mN mF mR mD mV mX mA mK cm mT pm mU mH mI, kA mN cI 3 R2, kJ mF cJ 6 uu.1, kA mP cI 180 gp, kA mC cI 360 R3, kJ mR cJ 30 uu.2.1, kJ mD cJ 64 uu.2.2.1, kA mV cI 5 uu.2.2.2]) hx hb hr hlk hS dX5_five_243 ((y_240_0_1, FR, FD, GV)) hq0 (by (try dsimp only); exact hP) (by (try dsimp only); exact hD)
set_option maxHeartbeats 40000000 in
set_option maxRecDepth 100000 in
/-- X5.five -/
theorem c_X5_five (l : Launch) (D : va_G) (cI cJ : ClassId) (o : Nat) (mP : Nat) (mL : Nat) (mC : Nat) (mN : Nat) (mF : Nat) (mR : Nat) (mD : Nat) (mV : Nat) (mX : Nat) (mA : Nat) (mK : Nat) (mT : Nat) (mU : Nat) (mH : Nat) (mI : Nat) (cm : Int32) (pm : Int32) (gm : Nat → Int32) (ff : Nat → Int64) (gp : Nat → Int32) (gc : Nat → Int32) (fr : Nat → Int64) (fd : Nat → Int64) (gv : Nat → Int32) (i : Int32) (j : Int32) (k : Int32) (m : Int32) (t : Int32) (hm0 : n_ok (gm 0)) (hm2 : n_ok (gm 2)) : mw_C l yX5_five wsX5_five ({ frames := 3, cells := 0, slots := 0, locals := 80 }) D cI cJ [.ref o, .int i, .int j, .int k, .int m, .int t] [kM o mP mL mC mN mF mR mD mV mX mA mK cm mT pm mU mH mI, kA mN cI 3 gm, kJ mF cJ 6 ff, kA mP cI 180 gp, kA mC cI 360 gc, kJ mR cJ 30 fr, kJ mD cJ 64 fd, kA mV cI 5 gv] (qe_i (fun (r : Int32) (_ : (Nat → Int64) × (Nat → Int64) × (Nat → Int64) × (Nat → Int32)) => r = (z5_five gm ff gp gc fr fd gv i j k m t).1) (fun uu => [kM o mP mL mC mN mF mR mD mV mX mA mK cm mT pm mU mH mI, kA mN cI 3 ((z5_five gm ff gp gc fr fd gv i j k m t).2.1), kJ mF cJ 6 uu.1, kA mP cI 180 gp, kA mC cI 360 ((z5_five gm ff gp gc fr fd gv i j k m t).2.2), kJ mR cJ 30 uu.2.1, kJ mD cJ 64 uu.2.2.1, kA mV cI 5 uu.2.2.2])) := by
  refine mw_in (cc := cX5_five) (lv := [(0, .ref o), (1, .int i), (2, .int j), (3, .int k), (4, .int m), (5, .int t)]) (by decide) rfl (Nat.le_of_ble_eq_true rfl) rfl ?_
  intro pG eG sG mG below meth cG ls A hx hb hr hml hown hts hlk hin hP hK hD hA hS hl
  have hown : sG.vm.findClass RX5 = some mG.cls := hown
  have k_1 := hts (.constant RX5 101 (-1000002)) (by decide +kernel)
  have k_2 := hts (.fieldLink RX5 32 "ConicRowsModel" "five" "[I") (by decide +kernel)
  have k_3 : ∀ w ∈ wsX50, w ∈ wsX5_five := by decide +kernel
  have k_4 := hts (.constant RX5 76 (-1000006)) (by decide +kernel)
  have k_5 := hts (.fieldLink RX5 22 "ConicRowsModel" "fresh" "[J") (by decide +kernel)
  have k_6 := hts (.fieldLink RX5 29 "ConicRowsModel" "minors" "[J") (by decide +kernel)
  have k_7 := hts (.constant RX5 106 (-1000004)) (by decide +kernel)
  refine lv_aload_n hx hb dX5_five_0 rfl (lv_at hl 0 rfl) ?_
  refine lv_iconst (v := 0) hx hb dX5_five_1 (by decide) ?_
  refine lv_iload_n hx hb dX5_five_2 rfl (lv_at hl 1 rfl) ?_
  have hPc := hP.sub (ws' := [kM o mP mL mC mN mF mR mD mV mX mA mK cm mT pm mU mH mI, kA mN cI 3 gm]) [0, 1] rfl
  refine cr_i (va_runV (As := [.int 0, .int i]) (rest := []) ⟨hx, hb, hml, hown, hts⟩ (c_X5_isOf_0 l D cI cJ o mP mL mC mN mF mR mD mV mX mA mK mT mU mH mI cm pm gm i) (cwV 2 hts gX5_five_X5_isOf rfl rfl rfl (by decide +kernel) ⟨Nat.le_of_ble_eq_true rfl, Nat.le_of_ble_eq_true rfl⟩) ⟨gd_blR, va_recv hK.1 hPc (ci := 5) (q0 := 0) rfl rfl, gd_prR hPc hK⟩ rfl rfl hl.1 rfl (lv_room (Nat.le_of_ble_eq_true rfl)) dX5_five_3 ⟨Nat.zero_le _, Nat.zero_le _⟩) (fun r_3 hw => ?_)
  subst hw
  clear hPc
  refine lv_if_eq (tgt := 47) hx hb dX5_five_6 (by decide) (fun c_1 => ?_) (fun c_1 => ?_)
  · skip
    refine lv_ldc hx hb hown k_1 dX5_five_47 ?_
    have he : z5_five gm ff gp gc fr fd gv i j k m t = ((-1000002), gm, gc) := by unfold z5_five; rw [if_pos c_1]
    have he_0 : (z5_five gm ff gp gc fr fd gv i j k m t).1 = (-1000002) := by rw [he]
    have he_1 : (z5_five gm ff gp gc fr fd gv i j k m t).2.1 = gm := by rw [he]
    have he_2 : (z5_five gm ff gp gc fr fd gv i j k m t).2.2 = gc := by rw [he]
    exact rt_i (w1 := fun uu : (Nat → Int64) × (Nat → Int64) × (Nat → Int64) × (Nat → Int32) => [kM o mP mL mC mN mF mR mD mV mX mA mK cm mT pm mU mH mI, kA mN cI 3 ((z5_five gm ff gp gc fr fd gv i j k m t).2.1), kJ mF cJ 6 uu.1, kA mP cI 180 gp, kA mC cI 360 ((z5_five gm ff gp gc fr fd gv i j k m t).2.2), kJ mR cJ 30 uu.2.1, kJ mD cJ 64 uu.2.2.1, kA mV cI 5 uu.2.2.2]) hx hb hr hlk hS dX5_five_49 ((ff, fr, fd, gv)) he_0.symm (by (try dsimp only); rw [he_1, he_2]; exact hP) (by (try dsimp only); rw [he_1, he_2]; exact hD)
  · skip
    refine lv_aload_n hx hb dX5_five_9 rfl (lv_at hl 0 rfl) ?_
    refine lv_iconst (v := 0) hx hb dX5_five_10 (by decide) ?_
    refine lv_iload_n hx hb dX5_five_11 rfl (lv_at hl 2 rfl) ?_
    have hPc := hP.sub (ws' := [kM o mP mL mC mN mF mR mD mV mX mA mK cm mT pm mU mH mI, kA mN cI 3 gm]) [0, 1] rfl
    refine cr_i (va_runV (As := [.int 0, .int j]) (rest := []) ⟨hx, hb, hml, hown, hts⟩ (c_X5_isOf_0 l D cI cJ o mP mL mC mN mF mR mD mV mX mA mK mT mU mH mI cm pm gm j) (cwV 2 hts gX5_five_X5_isOf rfl rfl rfl (by decide +kernel) ⟨Nat.le_of_ble_eq_true rfl, Nat.le_of_ble_eq_true rfl⟩) ⟨gd_blR, va_recv hK.1 hPc (ci := 5) (q0 := 0) rfl rfl, gd_prR hPc hK⟩ rfl rfl hl.1 rfl (lv_room (Nat.le_of_ble_eq_true rfl)) dX5_five_12 ⟨Nat.zero_le _, Nat.zero_le _⟩) (fun r_12 hw => ?_)
    subst hw
    clear hPc
    refine lv_if_eq (tgt := 47) hx hb dX5_five_15 (by decide) (fun c_2 => ?_) (fun c_2 => ?_)
    · skip
      refine lv_ldc hx hb hown k_1 dX5_five_47 ?_
      have he : z5_five gm ff gp gc fr fd gv i j k m t = ((-1000002), gm, gc) := by unfold z5_five; rw [if_neg c_1, if_pos c_2]
      have he_0 : (z5_five gm ff gp gc fr fd gv i j k m t).1 = (-1000002) := by rw [he]
      have he_1 : (z5_five gm ff gp gc fr fd gv i j k m t).2.1 = gm := by rw [he]
      have he_2 : (z5_five gm ff gp gc fr fd gv i j k m t).2.2 = gc := by rw [he]
      exact rt_i (w1 := fun uu : (Nat → Int64) × (Nat → Int64) × (Nat → Int64) × (Nat → Int32) => [kM o mP mL mC mN mF mR mD mV mX mA mK cm mT pm mU mH mI, kA mN cI 3 ((z5_five gm ff gp gc fr fd gv i j k m t).2.1), kJ mF cJ 6 uu.1, kA mP cI 180 gp, kA mC cI 360 ((z5_five gm ff gp gc fr fd gv i j k m t).2.2), kJ mR cJ 30 uu.2.1, kJ mD cJ 64 uu.2.2.1, kA mV cI 5 uu.2.2.2]) hx hb hr hlk hS dX5_five_49 ((ff, fr, fd, gv)) he_0.symm (by (try dsimp only); rw [he_1, he_2]; exact hP) (by (try dsimp only); rw [he_1, he_2]; exact hD)
    · skip
      refine lv_aload_n hx hb dX5_five_18 rfl (lv_at hl 0 rfl) ?_
      refine lv_iconst (v := 0) hx hb dX5_five_19 (by decide) ?_
      refine lv_iload_n hx hb dX5_five_20 rfl (lv_at hl 3 rfl) ?_
      have hPc := hP.sub (ws' := [kM o mP mL mC mN mF mR mD mV mX mA mK cm mT pm mU mH mI, kA mN cI 3 gm]) [0, 1] rfl
      refine cr_i (va_runV (As := [.int 0, .int k]) (rest := []) ⟨hx, hb, hml, hown, hts⟩ (c_X5_isOf_0 l D cI cJ o mP mL mC mN mF mR mD mV mX mA mK mT mU mH mI cm pm gm k) (cwV 2 hts gX5_five_X5_isOf rfl rfl rfl (by decide +kernel) ⟨Nat.le_of_ble_eq_true rfl, Nat.le_of_ble_eq_true rfl⟩) ⟨gd_blR, va_recv hK.1 hPc (ci := 5) (q0 := 0) rfl rfl, gd_prR hPc hK⟩ rfl rfl hl.1 rfl (lv_room (Nat.le_of_ble_eq_true rfl)) dX5_five_21 ⟨Nat.zero_le _, Nat.zero_le _⟩) (fun r_21 hw => ?_)
      subst hw
      clear hPc
      refine lv_if_eq (tgt := 47) hx hb dX5_five_24 (by decide) (fun c_3 => ?_) (fun c_3 => ?_)
      · skip
        refine lv_ldc hx hb hown k_1 dX5_five_47 ?_
        have he : z5_five gm ff gp gc fr fd gv i j k m t = ((-1000002), gm, gc) := by unfold z5_five; rw [if_neg c_1, if_neg c_2, if_pos c_3]
        have he_0 : (z5_five gm ff gp gc fr fd gv i j k m t).1 = (-1000002) := by rw [he]
        have he_1 : (z5_five gm ff gp gc fr fd gv i j k m t).2.1 = gm := by rw [he]
        have he_2 : (z5_five gm ff gp gc fr fd gv i j k m t).2.2 = gc := by rw [he]
        exact rt_i (w1 := fun uu : (Nat → Int64) × (Nat → Int64) × (Nat → Int64) × (Nat → Int32) => [kM o mP mL mC mN mF mR mD mV mX mA mK cm mT pm mU mH mI, kA mN cI 3 ((z5_five gm ff gp gc fr fd gv i j k m t).2.1), kJ mF cJ 6 uu.1, kA mP cI 180 gp, kA mC cI 360 ((z5_five gm ff gp gc fr fd gv i j k m t).2.2), kJ mR cJ 30 uu.2.1, kJ mD cJ 64 uu.2.2.1, kA mV cI 5 uu.2.2.2]) hx hb hr hlk hS dX5_five_49 ((ff, fr, fd, gv)) he_0.symm (by (try dsimp only); rw [he_1, he_2]; exact hP) (by (try dsimp only); rw [he_1, he_2]; exact hD)
      · skip
        refine lv_aload_n hx hb dX5_five_27 rfl (lv_at hl 0 rfl) ?_
        refine lv_iconst (v := 0) hx hb dX5_five_28 (by decide) ?_
        refine lv_iload hx hb dX5_five_29 (lv_at hl 4 rfl) ?_
        have hPc := hP.sub (ws' := [kM o mP mL mC mN mF mR mD mV mX mA mK cm mT pm mU mH mI, kA mN cI 3 gm]) [0, 1] rfl
        refine cr_i (va_runV (As := [.int 0, .int m]) (rest := []) ⟨hx, hb, hml, hown, hts⟩ (c_X5_isOf_0 l D cI cJ o mP mL mC mN mF mR mD mV mX mA mK mT mU mH mI cm pm gm m) (cwV 2 hts gX5_five_X5_isOf rfl rfl rfl (by decide +kernel) ⟨Nat.le_of_ble_eq_true rfl, Nat.le_of_ble_eq_true rfl⟩) ⟨gd_blR, va_recv hK.1 hPc (ci := 5) (q0 := 0) rfl rfl, gd_prR hPc hK⟩ rfl rfl hl.1 rfl (lv_room (Nat.le_of_ble_eq_true rfl)) dX5_five_31 ⟨Nat.zero_le _, Nat.zero_le _⟩) (fun r_31 hw => ?_)
        subst hw
        clear hPc
        refine lv_if_eq (tgt := 47) hx hb dX5_five_34 (by decide) (fun c_4 => ?_) (fun c_4 => ?_)
        · skip
          refine lv_ldc hx hb hown k_1 dX5_five_47 ?_
          have he : z5_five gm ff gp gc fr fd gv i j k m t = ((-1000002), gm, gc) := by unfold z5_five; rw [if_neg c_1, if_neg c_2, if_neg c_3, if_pos c_4]
          have he_0 : (z5_five gm ff gp gc fr fd gv i j k m t).1 = (-1000002) := by rw [he]
          have he_1 : (z5_five gm ff gp gc fr fd gv i j k m t).2.1 = gm := by rw [he]
          have he_2 : (z5_five gm ff gp gc fr fd gv i j k m t).2.2 = gc := by rw [he]
          exact rt_i (w1 := fun uu : (Nat → Int64) × (Nat → Int64) × (Nat → Int64) × (Nat → Int32) => [kM o mP mL mC mN mF mR mD mV mX mA mK cm mT pm mU mH mI, kA mN cI 3 ((z5_five gm ff gp gc fr fd gv i j k m t).2.1), kJ mF cJ 6 uu.1, kA mP cI 180 gp, kA mC cI 360 ((z5_five gm ff gp gc fr fd gv i j k m t).2.2), kJ mR cJ 30 uu.2.1, kJ mD cJ 64 uu.2.2.1, kA mV cI 5 uu.2.2.2]) hx hb hr hlk hS dX5_five_49 ((ff, fr, fd, gv)) he_0.symm (by (try dsimp only); rw [he_1, he_2]; exact hP) (by (try dsimp only); rw [he_1, he_2]; exact hD)
        · skip
          refine lv_aload_n hx hb dX5_five_37 rfl (lv_at hl 0 rfl) ?_
          refine lv_iconst (v := 0) hx hb dX5_five_38 (by decide) ?_
          refine lv_iload hx hb dX5_five_39 (lv_at hl 5 rfl) ?_
          have hPc := hP.sub (ws' := [kM o mP mL mC mN mF mR mD mV mX mA mK cm mT pm mU mH mI, kA mN cI 3 gm]) [0, 1] rfl
          refine cr_i (va_runV (As := [.int 0, .int t]) (rest := []) ⟨hx, hb, hml, hown, hts⟩ (c_X5_isOf_0 l D cI cJ o mP mL mC mN mF mR mD mV mX mA mK mT mU mH mI cm pm gm t) (cwV 2 hts gX5_five_X5_isOf rfl rfl rfl (by decide +kernel) ⟨Nat.le_of_ble_eq_true rfl, Nat.le_of_ble_eq_true rfl⟩) ⟨gd_blR, va_recv hK.1 hPc (ci := 5) (q0 := 0) rfl rfl, gd_prR hPc hK⟩ rfl rfl hl.1 rfl (lv_room (Nat.le_of_ble_eq_true rfl)) dX5_five_41 ⟨Nat.zero_le _, Nat.zero_le _⟩) (fun r_41 hw => ?_)
          subst hw
          clear hPc
          refine lv_if_ne (tgt := 50) hx hb dX5_five_44 (by decide) (fun c_5 => ?_) (fun c_5 => ?_)
          · skip
            refine lv_aload_n hx hb dX5_five_50 rfl (lv_at hl 0 rfl) ?_
            refine va_get (D := D) (ci := 5) (v := .ref mV) (C := RX5) (T := TX5) (N := 17) hx hb hts k_3 hown hK.1 hP 0 rfl rfl 7 (by decide) k_2 (fun _ h9 => h9) rfl dX5_five_51 ?_
            refine lv_iconst (v := 0) hx hb dX5_five_54 (by decide) ?_
            refine lv_iload_n hx hb dX5_five_55 rfl (lv_at hl 1 rfl) ?_
            refine st_i hx hb hK.1 hP hD hS 7 0 rfl rfl (ix_lit (by decide)) 0 (by decide) dX5_five_56 (fun H locs hP hD hS => ?_)
            have hP : va_P D vwCl [kM o mP mL mC mN mF mR mD mV mX mA mK cm mT pm mU mH mI, kA mN cI 3 gm, kJ mF cJ 6 ff, kA mP cI 180 gp, kA mC cI 360 gc, kJ mR cJ 30 fr, kJ mD cJ 64 fd, kA mV cI 5 (upd gv 0 i)] H := hP
            have hD : va_D A [kM o mP mL mC mN mF mR mD mV mX mA mK cm mT pm mU mH mI, kA mN cI 3 gm, kJ mF cJ 6 ff, kA mP cI 180 gp, kA mC cI 360 gc, kJ mR cJ 30 fr, kJ mD cJ 64 fd, kA mV cI 5 (upd gv 0 i)] := hD
            refine lv_aload_n hx hb dX5_five_57 rfl (lv_at hl 0 rfl) ?_
            refine va_get (D := D) (ci := 5) (v := .ref mV) (C := RX5) (T := TX5) (N := 17) hx hb hts k_3 hown hK.1 hP 0 rfl rfl 7 (by decide) k_2 (fun _ h9 => h9) rfl dX5_five_58 ?_
            refine lv_iconst (v := 1) hx hb dX5_five_61 (by decide) ?_
            refine lv_iload_n hx hb dX5_five_62 rfl (lv_at hl 2 rfl) ?_
            refine st_i hx hb hK.1 hP hD hS 7 0 rfl rfl (ix_lit (by decide)) 1 (by decide) dX5_five_63 (fun H locs hP hD hS => ?_)
            have hP : va_P D vwCl [kM o mP mL mC mN mF mR mD mV mX mA mK cm mT pm mU mH mI, kA mN cI 3 gm, kJ mF cJ 6 ff, kA mP cI 180 gp, kA mC cI 360 gc, kJ mR cJ 30 fr, kJ mD cJ 64 fd, kA mV cI 5 (upd (upd gv 0 i) 1 j)] H := hP
            have hD : va_D A [kM o mP mL mC mN mF mR mD mV mX mA mK cm mT pm mU mH mI, kA mN cI 3 gm, kJ mF cJ 6 ff, kA mP cI 180 gp, kA mC cI 360 gc, kJ mR cJ 30 fr, kJ mD cJ 64 fd, kA mV cI 5 (upd (upd gv 0 i) 1 j)] := hD
            refine lv_aload_n hx hb dX5_five_64 rfl (lv_at hl 0 rfl) ?_
            refine va_get (D := D) (ci := 5) (v := .ref mV) (C := RX5) (T := TX5) (N := 17) hx hb hts k_3 hown hK.1 hP 0 rfl rfl 7 (by decide) k_2 (fun _ h9 => h9) rfl dX5_five_65 ?_
            refine lv_iconst (v := 2) hx hb dX5_five_68 (by decide) ?_
            refine lv_iload_n hx hb dX5_five_69 rfl (lv_at hl 3 rfl) ?_
            refine st_i hx hb hK.1 hP hD hS 7 0 rfl rfl (ix_lit (by decide)) 2 (by decide) dX5_five_70 (fun H locs hP hD hS => ?_)
            have hP : va_P D vwCl [kM o mP mL mC mN mF mR mD mV mX mA mK cm mT pm mU mH mI, kA mN cI 3 gm, kJ mF cJ 6 ff, kA mP cI 180 gp, kA mC cI 360 gc, kJ mR cJ 30 fr, kJ mD cJ 64 fd, kA mV cI 5 (upd (upd (upd gv 0 i) 1 j) 2 k)] H := hP
            have hD : va_D A [kM o mP mL mC mN mF mR mD mV mX mA mK cm mT pm mU mH mI, kA mN cI 3 gm, kJ mF cJ 6 ff, kA mP cI 180 gp, kA mC cI 360 gc, kJ mR cJ 30 fr, kJ mD cJ 64 fd, kA mV cI 5 (upd (upd (upd gv 0 i) 1 j) 2 k)] := hD
            refine lv_aload_n hx hb dX5_five_71 rfl (lv_at hl 0 rfl) ?_
            refine va_get (D := D) (ci := 5) (v := .ref mV) (C := RX5) (T := TX5) (N := 17) hx hb hts k_3 hown hK.1 hP 0 rfl rfl 7 (by decide) k_2 (fun _ h9 => h9) rfl dX5_five_72 ?_
            refine lv_iconst (v := 3) hx hb dX5_five_75 (by decide) ?_
            refine lv_iload hx hb dX5_five_76 (lv_at hl 4 rfl) ?_
            refine st_i hx hb hK.1 hP hD hS 7 0 rfl rfl (ix_lit (by decide)) 3 (by decide) dX5_five_78 (fun H locs hP hD hS => ?_)
            have hP : va_P D vwCl [kM o mP mL mC mN mF mR mD mV mX mA mK cm mT pm mU mH mI, kA mN cI 3 gm, kJ mF cJ 6 ff, kA mP cI 180 gp, kA mC cI 360 gc, kJ mR cJ 30 fr, kJ mD cJ 64 fd, kA mV cI 5 (upd (upd (upd (upd gv 0 i) 1 j) 2 k) 3 m)] H := hP
            have hD : va_D A [kM o mP mL mC mN mF mR mD mV mX mA mK cm mT pm mU mH mI, kA mN cI 3 gm, kJ mF cJ 6 ff, kA mP cI 180 gp, kA mC cI 360 gc, kJ mR cJ 30 fr, kJ mD cJ 64 fd, kA mV cI 5 (upd (upd (upd (upd gv 0 i) 1 j) 2 k) 3 m)] := hD
            refine lv_aload_n hx hb dX5_five_79 rfl (lv_at hl 0 rfl) ?_
            refine va_get (D := D) (ci := 5) (v := .ref mV) (C := RX5) (T := TX5) (N := 17) hx hb hts k_3 hown hK.1 hP 0 rfl rfl 7 (by decide) k_2 (fun _ h9 => h9) rfl dX5_five_80 ?_
            refine lv_iconst (v := 4) hx hb dX5_five_83 (by decide) ?_
            refine lv_iload hx hb dX5_five_84 (lv_at hl 5 rfl) ?_
            refine st_i hx hb hK.1 hP hD hS 7 0 rfl rfl (ix_lit (by decide)) 4 (by decide) dX5_five_86 (fun H locs hP hD hS => ?_)
            have hP : va_P D vwCl [kM o mP mL mC mN mF mR mD mV mX mA mK cm mT pm mU mH mI, kA mN cI 3 gm, kJ mF cJ 6 ff, kA mP cI 180 gp, kA mC cI 360 gc, kJ mR cJ 30 fr, kJ mD cJ 64 fd, kA mV cI 5 (upd (upd (upd (upd (upd gv 0 i) 1 j) 2 k) 3 m) 4 t)] H := hP
            have hD : va_D A [kM o mP mL mC mN mF mR mD mV mX mA mK cm mT pm mU mH mI, kA mN cI 3 gm, kJ mF cJ 6 ff, kA mP cI 180 gp, kA mC cI 360 gc, kJ mR cJ 30 fr, kJ mD cJ 64 fd, kA mV cI 5 (upd (upd (upd (upd (upd gv 0 i) 1 j) 2 k) 3 m) 4 t)] := hD
            refine lv_aload_n hx hb dX5_five_87 rfl (lv_at hl 0 rfl) ?_
            have hPc := hP.sub (ws' := [kM o mP mL mC mN mF mR mD mV mX mA mK cm mT pm mU mH mI, kA mP cI 180 gp, kA mV cI 5 (upd (upd (upd (upd (upd gv 0 i) 1 j) 2 k) 3 m) 4 t)]) [0, 3, 7] rfl
            refine cr_i (va_runV (As := []) (rest := []) ⟨hx, hb, hml, hown, hts⟩ (c_X5_areSeveral l D cI cJ o mP mL mC mN mF mR mD mV mX mA mK mT mU mH mI cm pm gp (upd (upd (upd (upd (upd gv 0 i) 1 j) 2 k) 3 m) 4 t) (hv5 (ok_of hm0 c_1) (ok_of hm0 c_2) (ok_of hm0 c_3) (ok_of hm0 c_4) (ok_of hm0 c_5))) (cwV 0 hts gX5_five_X5_areSeveral rfl rfl rfl (by decide +kernel) ⟨Nat.le_of_ble_eq_true rfl, Nat.le_of_ble_eq_true rfl⟩) ⟨gd_blR, va_recv hK.1 hPc (ci := 5) (q0 := 0) rfl rfl, gd_prR hPc hK⟩ rfl rfl hl.1 rfl (lv_room (Nat.le_of_ble_eq_true rfl)) dX5_five_88 ⟨Nat.zero_le _, Nat.zero_le _⟩) (fun r_88 hw => ?_)
            subst hw
            clear hPc
            refine lv_if_eq (tgt := 97) hx hb dX5_five_91 (by decide) (fun c_6 => ?_) (fun c_6 => ?_)
            · skip
              refine lv_aload_n hx hb dX5_five_97 rfl (lv_at hl 0 rfl) ?_
              refine lv_iload_n hx hb dX5_five_98 rfl (lv_at hl 1 rfl) ?_
              have hPc := hP.sub (ws' := [kM o mP mL mC mN mF mR mD mV mX mA mK cm mT pm mU mH mI, kA mP cI 180 gp]) [0, 3] rfl
              refine cr_i (va_runV (As := [.int i]) (rest := []) ⟨hx, hb, hml, hown, hts⟩ (c_X5_isSmall l D cI cJ o mP mL mC mN mF mR mD mV mX mA mK mT mU mH mI cm pm gp i (ok_of hm0 c_1)) (cwV 1 hts gX5_five_X5_isSmall rfl rfl rfl (by decide +kernel) ⟨Nat.le_of_ble_eq_true rfl, Nat.le_of_ble_eq_true rfl⟩) ⟨gd_blR, va_recv hK.1 hPc (ci := 5) (q0 := 0) rfl rfl, gd_prR hPc hK⟩ rfl rfl hl.1 rfl (lv_room (Nat.le_of_ble_eq_true rfl)) dX5_five_99 ⟨Nat.zero_le _, Nat.zero_le _⟩) (fun r_99 hw => ?_)
              subst hw
              clear hPc
              refine lv_if_eq (tgt := 139) hx hb dX5_five_102 (by decide) (fun c_7 => ?_) (fun c_7 => ?_)
              · skip
                refine lv_ldc hx hb hown k_4 dX5_five_139 ?_
                have he : z5_five gm ff gp gc fr fd gv i j k m t = ((-1000006), gm, gc) := by unfold z5_five; rw [if_neg c_1, if_neg c_2, if_neg c_3, if_neg c_4, if_neg c_5, if_pos c_6, if_pos c_7]
                have he_0 : (z5_five gm ff gp gc fr fd gv i j k m t).1 = (-1000006) := by rw [he]
                have he_1 : (z5_five gm ff gp gc fr fd gv i j k m t).2.1 = gm := by rw [he]
                have he_2 : (z5_five gm ff gp gc fr fd gv i j k m t).2.2 = gc := by rw [he]
                exact rt_i (w1 := fun uu : (Nat → Int64) × (Nat → Int64) × (Nat → Int64) × (Nat → Int32) => [kM o mP mL mC mN mF mR mD mV mX mA mK cm mT pm mU mH mI, kA mN cI 3 ((z5_five gm ff gp gc fr fd gv i j k m t).2.1), kJ mF cJ 6 uu.1, kA mP cI 180 gp, kA mC cI 360 ((z5_five gm ff gp gc fr fd gv i j k m t).2.2), kJ mR cJ 30 uu.2.1, kJ mD cJ 64 uu.2.2.1, kA mV cI 5 uu.2.2.2]) hx hb hr hlk hS dX5_five_141 ((ff, fr, fd, upd (upd (upd (upd (upd gv 0 i) 1 j) 2 k) 3 m) 4 t)) he_0.symm (by (try dsimp only); rw [he_1, he_2]; exact hP) (by (try dsimp only); rw [he_1, he_2]; exact hD)
              · skip
                refine lv_aload_n hx hb dX5_five_105 rfl (lv_at hl 0 rfl) ?_
                refine lv_iload_n hx hb dX5_five_106 rfl (lv_at hl 2 rfl) ?_
                have hPc := hP.sub (ws' := [kM o mP mL mC mN mF mR mD mV mX mA mK cm mT pm mU mH mI, kA mP cI 180 gp]) [0, 3] rfl
                refine cr_i (va_runV (As := [.int j]) (rest := []) ⟨hx, hb, hml, hown, hts⟩ (c_X5_isSmall l D cI cJ o mP mL mC mN mF mR mD mV mX mA mK mT mU mH mI cm pm gp j (ok_of hm0 c_2)) (cwV 1 hts gX5_five_X5_isSmall rfl rfl rfl (by decide +kernel) ⟨Nat.le_of_ble_eq_true rfl, Nat.le_of_ble_eq_true rfl⟩) ⟨gd_blR, va_recv hK.1 hPc (ci := 5) (q0 := 0) rfl rfl, gd_prR hPc hK⟩ rfl rfl hl.1 rfl (lv_room (Nat.le_of_ble_eq_true rfl)) dX5_five_107 ⟨Nat.zero_le _, Nat.zero_le _⟩) (fun r_107 hw => ?_)
                subst hw
                clear hPc
                refine lv_if_eq (tgt := 139) hx hb dX5_five_110 (by decide) (fun c_8 => ?_) (fun c_8 => ?_)
                · skip
                  refine lv_ldc hx hb hown k_4 dX5_five_139 ?_
                  have he : z5_five gm ff gp gc fr fd gv i j k m t = ((-1000006), gm, gc) := by unfold z5_five; rw [if_neg c_1, if_neg c_2, if_neg c_3, if_neg c_4, if_neg c_5, if_pos c_6, if_neg c_7, if_pos c_8]
                  have he_0 : (z5_five gm ff gp gc fr fd gv i j k m t).1 = (-1000006) := by rw [he]
                  have he_1 : (z5_five gm ff gp gc fr fd gv i j k m t).2.1 = gm := by rw [he]
                  have he_2 : (z5_five gm ff gp gc fr fd gv i j k m t).2.2 = gc := by rw [he]
                  exact rt_i (w1 := fun uu : (Nat → Int64) × (Nat → Int64) × (Nat → Int64) × (Nat → Int32) => [kM o mP mL mC mN mF mR mD mV mX mA mK cm mT pm mU mH mI, kA mN cI 3 ((z5_five gm ff gp gc fr fd gv i j k m t).2.1), kJ mF cJ 6 uu.1, kA mP cI 180 gp, kA mC cI 360 ((z5_five gm ff gp gc fr fd gv i j k m t).2.2), kJ mR cJ 30 uu.2.1, kJ mD cJ 64 uu.2.2.1, kA mV cI 5 uu.2.2.2]) hx hb hr hlk hS dX5_five_141 ((ff, fr, fd, upd (upd (upd (upd (upd gv 0 i) 1 j) 2 k) 3 m) 4 t)) he_0.symm (by (try dsimp only); rw [he_1, he_2]; exact hP) (by (try dsimp only); rw [he_1, he_2]; exact hD)
                · skip
                  refine lv_aload_n hx hb dX5_five_113 rfl (lv_at hl 0 rfl) ?_
                  refine lv_iload_n hx hb dX5_five_114 rfl (lv_at hl 3 rfl) ?_
                  have hPc := hP.sub (ws' := [kM o mP mL mC mN mF mR mD mV mX mA mK cm mT pm mU mH mI, kA mP cI 180 gp]) [0, 3] rfl
                  refine cr_i (va_runV (As := [.int k]) (rest := []) ⟨hx, hb, hml, hown, hts⟩ (c_X5_isSmall l D cI cJ o mP mL mC mN mF mR mD mV mX mA mK mT mU mH mI cm pm gp k (ok_of hm0 c_3)) (cwV 1 hts gX5_five_X5_isSmall rfl rfl rfl (by decide +kernel) ⟨Nat.le_of_ble_eq_true rfl, Nat.le_of_ble_eq_true rfl⟩) ⟨gd_blR, va_recv hK.1 hPc (ci := 5) (q0 := 0) rfl rfl, gd_prR hPc hK⟩ rfl rfl hl.1 rfl (lv_room (Nat.le_of_ble_eq_true rfl)) dX5_five_115 ⟨Nat.zero_le _, Nat.zero_le _⟩) (fun r_115 hw => ?_)
                  subst hw
                  clear hPc
                  refine lv_if_eq (tgt := 139) hx hb dX5_five_118 (by decide) (fun c_9 => ?_) (fun c_9 => ?_)
                  · skip
                    refine lv_ldc hx hb hown k_4 dX5_five_139 ?_
                    have he : z5_five gm ff gp gc fr fd gv i j k m t = ((-1000006), gm, gc) := by unfold z5_five; rw [if_neg c_1, if_neg c_2, if_neg c_3, if_neg c_4, if_neg c_5, if_pos c_6, if_neg c_7, if_neg c_8, if_pos c_9]
                    have he_0 : (z5_five gm ff gp gc fr fd gv i j k m t).1 = (-1000006) := by rw [he]
                    have he_1 : (z5_five gm ff gp gc fr fd gv i j k m t).2.1 = gm := by rw [he]
                    have he_2 : (z5_five gm ff gp gc fr fd gv i j k m t).2.2 = gc := by rw [he]
                    exact rt_i (w1 := fun uu : (Nat → Int64) × (Nat → Int64) × (Nat → Int64) × (Nat → Int32) => [kM o mP mL mC mN mF mR mD mV mX mA mK cm mT pm mU mH mI, kA mN cI 3 ((z5_five gm ff gp gc fr fd gv i j k m t).2.1), kJ mF cJ 6 uu.1, kA mP cI 180 gp, kA mC cI 360 ((z5_five gm ff gp gc fr fd gv i j k m t).2.2), kJ mR cJ 30 uu.2.1, kJ mD cJ 64 uu.2.2.1, kA mV cI 5 uu.2.2.2]) hx hb hr hlk hS dX5_five_141 ((ff, fr, fd, upd (upd (upd (upd (upd gv 0 i) 1 j) 2 k) 3 m) 4 t)) he_0.symm (by (try dsimp only); rw [he_1, he_2]; exact hP) (by (try dsimp only); rw [he_1, he_2]; exact hD)
                  · skip
                    refine lv_aload_n hx hb dX5_five_121 rfl (lv_at hl 0 rfl) ?_
                    refine lv_iload hx hb dX5_five_122 (lv_at hl 4 rfl) ?_
                    have hPc := hP.sub (ws' := [kM o mP mL mC mN mF mR mD mV mX mA mK cm mT pm mU mH mI, kA mP cI 180 gp]) [0, 3] rfl
                    refine cr_i (va_runV (As := [.int m]) (rest := []) ⟨hx, hb, hml, hown, hts⟩ (c_X5_isSmall l D cI cJ o mP mL mC mN mF mR mD mV mX mA mK mT mU mH mI cm pm gp m (ok_of hm0 c_4)) (cwV 1 hts gX5_five_X5_isSmall rfl rfl rfl (by decide +kernel) ⟨Nat.le_of_ble_eq_true rfl, Nat.le_of_ble_eq_true rfl⟩) ⟨gd_blR, va_recv hK.1 hPc (ci := 5) (q0 := 0) rfl rfl, gd_prR hPc hK⟩ rfl rfl hl.1 rfl (lv_room (Nat.le_of_ble_eq_true rfl)) dX5_five_124 ⟨Nat.zero_le _, Nat.zero_le _⟩) (fun r_124 hw => ?_)
                    subst hw
                    clear hPc
                    refine lv_if_eq (tgt := 139) hx hb dX5_five_127 (by decide) (fun c_10 => ?_) (fun c_10 => ?_)
                    · skip
                      refine lv_ldc hx hb hown k_4 dX5_five_139 ?_
                      have he : z5_five gm ff gp gc fr fd gv i j k m t = ((-1000006), gm, gc) := by unfold z5_five; rw [if_neg c_1, if_neg c_2, if_neg c_3, if_neg c_4, if_neg c_5, if_pos c_6, if_neg c_7, if_neg c_8, if_neg c_9, if_pos c_10]
                      have he_0 : (z5_five gm ff gp gc fr fd gv i j k m t).1 = (-1000006) := by rw [he]
                      have he_1 : (z5_five gm ff gp gc fr fd gv i j k m t).2.1 = gm := by rw [he]
                      have he_2 : (z5_five gm ff gp gc fr fd gv i j k m t).2.2 = gc := by rw [he]
                      exact rt_i (w1 := fun uu : (Nat → Int64) × (Nat → Int64) × (Nat → Int64) × (Nat → Int32) => [kM o mP mL mC mN mF mR mD mV mX mA mK cm mT pm mU mH mI, kA mN cI 3 ((z5_five gm ff gp gc fr fd gv i j k m t).2.1), kJ mF cJ 6 uu.1, kA mP cI 180 gp, kA mC cI 360 ((z5_five gm ff gp gc fr fd gv i j k m t).2.2), kJ mR cJ 30 uu.2.1, kJ mD cJ 64 uu.2.2.1, kA mV cI 5 uu.2.2.2]) hx hb hr hlk hS dX5_five_141 ((ff, fr, fd, upd (upd (upd (upd (upd gv 0 i) 1 j) 2 k) 3 m) 4 t)) he_0.symm (by (try dsimp only); rw [he_1, he_2]; exact hP) (by (try dsimp only); rw [he_1, he_2]; exact hD)
                    · skip
                      refine lv_aload_n hx hb dX5_five_130 rfl (lv_at hl 0 rfl) ?_
                      refine lv_iload hx hb dX5_five_131 (lv_at hl 5 rfl) ?_
                      have hPc := hP.sub (ws' := [kM o mP mL mC mN mF mR mD mV mX mA mK cm mT pm mU mH mI, kA mP cI 180 gp]) [0, 3] rfl
                      refine cr_i (va_runV (As := [.int t]) (rest := []) ⟨hx, hb, hml, hown, hts⟩ (c_X5_isSmall l D cI cJ o mP mL mC mN mF mR mD mV mX mA mK mT mU mH mI cm pm gp t (ok_of hm0 c_5)) (cwV 1 hts gX5_five_X5_isSmall rfl rfl rfl (by decide +kernel) ⟨Nat.le_of_ble_eq_true rfl, Nat.le_of_ble_eq_true rfl⟩) ⟨gd_blR, va_recv hK.1 hPc (ci := 5) (q0 := 0) rfl rfl, gd_prR hPc hK⟩ rfl rfl hl.1 rfl (lv_room (Nat.le_of_ble_eq_true rfl)) dX5_five_133 ⟨Nat.zero_le _, Nat.zero_le _⟩) (fun r_133 hw => ?_)
                      subst hw
                      clear hPc
                      refine lv_if_ne (tgt := 142) hx hb dX5_five_136 (by decide) (fun c_11 => ?_) (fun c_11 => ?_)
                      · skip
                        refine lv_aload_n hx hb dX5_five_142 rfl (lv_at hl 0 rfl) ?_
                        refine lv_iconst (v := 0) hx hb dX5_five_143 (by decide) ?_
                        refine lv_iload_n hx hb dX5_five_144 rfl (lv_at hl 1 rfl) ?_
                        have hPc := hP.sub (ws' := [kM o mP mL mC mN mF mR mD mV mX mA mK cm mT pm mU mH mI, kJ mR cJ 30 fr, kA mP cI 180 gp]) [0, 5, 3] rfl
                        have hDc := hD.sub (ws' := [kM o mP mL mC mN mF mR mD mV mX mA mK cm mT pm mU mH mI, kJ mR cJ 30 fr, kA mP cI 180 gp]) [0, 5, 3] (by decide) rfl
                        refine cl_v (wc := [kM o mP mL mC mN mF mR mD mV mX mA mK cm mT pm mU mH mI, kJ mR cJ 30 fr, kA mP cI 180 gp]) (wr := [kA mN cI 3 gm, kJ mF cJ 6 ff, kA mC cI 360 gc, kJ mD cJ 64 fd, kA mV cI 5 (upd (upd (upd (upd (upd gv 0 i) 1 j) 2 k) 3 m) 4 t)]) (w1 := fun uu : Unit => [kM o mP mL mC mN mF mR mD mV mX mA mK cm mT pm mU mH mI, kJ mR cJ 30 (z5_layRow_0_f1 fr gp i), kA mP cI 180 gp]) (wn := fun uu : Unit => [kM o mP mL mC mN mF mR mD mV mX mA mK cm mT pm mU mH mI, kA mN cI 3 gm, kJ mF cJ 6 ff, kA mP cI 180 gp, kA mC cI 360 gc, kJ mR cJ 30 (z5_layRow_0_f1 fr gp i), kJ mD cJ 64 fd, kA mV cI 5 (upd (upd (upd (upd (upd gv 0 i) 1 j) 2 k) 3 m) 4 t)]) (va_runV (As := [.int 0, .int i]) (rest := []) ⟨hx, hb, hml, hown, hts⟩ (c_X5_layRow_0 l D cI cJ o mP mL mC mN mF mR mD mV mX mA mK mT mU mH mI cm pm fr gp i (ok_of hm0 c_1) _) (cwV 2 hts gX5_five_X5_layRow rfl rfl rfl (by decide +kernel) ⟨Nat.le_of_ble_eq_true rfl, Nat.le_of_ble_eq_true rfl⟩) ⟨gd_blP, va_recv hK.1 hPc (ci := 5) (q0 := 0) rfl rfl, gd_prP hPc hK hDc⟩ rfl rfl hl.1 rfl (lv_room (Nat.le_of_ble_eq_true rfl)) dX5_five_145 ⟨Nat.zero_le _, Nat.zero_le _⟩) hP hD hS hA [0, 5, 3] [1, 2, 4, 6, 7] rfl rfl (by decide) (by decide) [5, 0, 1, 7, 2, 6, 3, 4] (by decide) (fun _ => rfl) (fun uG H locs hw hP hD hS => ?_)
                        have hP : va_P D vwCl [kM o mP mL mC mN mF mR mD mV mX mA mK cm mT pm mU mH mI, kA mN cI 3 gm, kJ mF cJ 6 ff, kA mP cI 180 gp, kA mC cI 360 gc, kJ mR cJ 30 (z5_layRow_0_f1 fr gp i), kJ mD cJ 64 fd, kA mV cI 5 (upd (upd (upd (upd (upd gv 0 i) 1 j) 2 k) 3 m) 4 t)] H := hP
                        have hD : va_D A [kM o mP mL mC mN mF mR mD mV mX mA mK cm mT pm mU mH mI, kA mN cI 3 gm, kJ mF cJ 6 ff, kA mP cI 180 gp, kA mC cI 360 gc, kJ mR cJ 30 (z5_layRow_0_f1 fr gp i), kJ mD cJ 64 fd, kA mV cI 5 (upd (upd (upd (upd (upd gv 0 i) 1 j) 2 k) 3 m) 4 t)] := hD
                        clear hPc hDc
                        refine lv_aload_n hx hb dX5_five_148 rfl (lv_at hl 0 rfl) ?_
                        refine lv_iconst (v := 1) hx hb dX5_five_149 (by decide) ?_
                        refine lv_iload_n hx hb dX5_five_150 rfl (lv_at hl 2 rfl) ?_
                        have hPc := hP.sub (ws' := [kM o mP mL mC mN mF mR mD mV mX mA mK cm mT pm mU mH mI, kJ mR cJ 30 (z5_layRow_0_f1 fr gp i), kA mP cI 180 gp]) [0, 5, 3] rfl
                        have hDc := hD.sub (ws' := [kM o mP mL mC mN mF mR mD mV mX mA mK cm mT pm mU mH mI, kJ mR cJ 30 (z5_layRow_0_f1 fr gp i), kA mP cI 180 gp]) [0, 5, 3] (by decide) rfl
                        refine cl_v (wc := [kM o mP mL mC mN mF mR mD mV mX mA mK cm mT pm mU mH mI, kJ mR cJ 30 (z5_layRow_0_f1 fr gp i), kA mP cI 180 gp]) (wr := [kA mN cI 3 gm, kJ mF cJ 6 ff, kA mC cI 360 gc, kJ mD cJ 64 fd, kA mV cI 5 (upd (upd (upd (upd (upd gv 0 i) 1 j) 2 k) 3 m) 4 t)]) (w1 := fun uu : Unit => [kM o mP mL mC mN mF mR mD mV mX mA mK cm mT pm mU mH mI, kJ mR cJ 30 (z5_layRow_1_f1 (z5_layRow_0_f1 fr gp i) gp j), kA mP cI 180 gp]) (wn := fun uu : Unit => [kM o mP mL mC mN mF mR mD mV mX mA mK cm mT pm mU mH mI, kA mN cI 3 gm, kJ mF cJ 6 ff, kA mP cI 180 gp, kA mC cI 360 gc, kJ mR cJ 30 (z5_layRow_1_f1 (z5_layRow_0_f1 fr gp i) gp j), kJ mD cJ 64 fd, kA mV cI 5 (upd (upd (upd (upd (upd gv 0 i) 1 j) 2 k) 3 m) 4 t)]) (va_runV (As := [.int 1, .int j]) (rest := []) ⟨hx, hb, hml, hown, hts⟩ (c_X5_layRow_1 l D cI cJ o mP mL mC mN mF mR mD mV mX mA mK mT mU mH mI cm pm (z5_layRow_0_f1 fr gp i) gp j (ok_of hm0 c_2) _) (cwV 2 hts gX5_five_X5_layRow rfl rfl rfl (by decide +kernel) ⟨Nat.le_of_ble_eq_true rfl, Nat.le_of_ble_eq_true rfl⟩) ⟨gd_blP, va_recv hK.1 hPc (ci := 5) (q0 := 0) rfl rfl, gd_prP hPc hK hDc⟩ rfl rfl hl.1 rfl (lv_room (Nat.le_of_ble_eq_true rfl)) dX5_five_151 ⟨Nat.zero_le _, Nat.zero_le _⟩) hP hD hS hA [0, 5, 3] [1, 2, 4, 6, 7] rfl rfl (by decide) (by decide) [5, 0, 1, 7, 2, 6, 3, 4] (by decide) (fun _ => rfl) (fun uG H locs hw hP hD hS => ?_)
                        have hP : va_P D vwCl [kM o mP mL mC mN mF mR mD mV mX mA mK cm mT pm mU mH mI, kA mN cI 3 gm, kJ mF cJ 6 ff, kA mP cI 180 gp, kA mC cI 360 gc, kJ mR cJ 30 (z5_layRow_1_f1 (z5_layRow_0_f1 fr gp i) gp j), kJ mD cJ 64 fd, kA mV cI 5 (upd (upd (upd (upd (upd gv 0 i) 1 j) 2 k) 3 m) 4 t)] H := hP
                        have hD : va_D A [kM o mP mL mC mN mF mR mD mV mX mA mK cm mT pm mU mH mI, kA mN cI 3 gm, kJ mF cJ 6 ff, kA mP cI 180 gp, kA mC cI 360 gc, kJ mR cJ 30 (z5_layRow_1_f1 (z5_layRow_0_f1 fr gp i) gp j), kJ mD cJ 64 fd, kA mV cI 5 (upd (upd (upd (upd (upd gv 0 i) 1 j) 2 k) 3 m) 4 t)] := hD
                        clear hPc hDc
                        refine lv_aload_n hx hb dX5_five_154 rfl (lv_at hl 0 rfl) ?_
                        refine lv_iconst (v := 2) hx hb dX5_five_155 (by decide) ?_
                        refine lv_iload_n hx hb dX5_five_156 rfl (lv_at hl 3 rfl) ?_
                        have hPc := hP.sub (ws' := [kM o mP mL mC mN mF mR mD mV mX mA mK cm mT pm mU mH mI, kJ mR cJ 30 (z5_layRow_1_f1 (z5_layRow_0_f1 fr gp i) gp j), kA mP cI 180 gp]) [0, 5, 3] rfl
                        have hDc := hD.sub (ws' := [kM o mP mL mC mN mF mR mD mV mX mA mK cm mT pm mU mH mI, kJ mR cJ 30 (z5_layRow_1_f1 (z5_layRow_0_f1 fr gp i) gp j), kA mP cI 180 gp]) [0, 5, 3] (by decide) rfl
                        refine cl_v (wc := [kM o mP mL mC mN mF mR mD mV mX mA mK cm mT pm mU mH mI, kJ mR cJ 30 (z5_layRow_1_f1 (z5_layRow_0_f1 fr gp i) gp j), kA mP cI 180 gp]) (wr := [kA mN cI 3 gm, kJ mF cJ 6 ff, kA mC cI 360 gc, kJ mD cJ 64 fd, kA mV cI 5 (upd (upd (upd (upd (upd gv 0 i) 1 j) 2 k) 3 m) 4 t)]) (w1 := fun uu : Unit => [kM o mP mL mC mN mF mR mD mV mX mA mK cm mT pm mU mH mI, kJ mR cJ 30 (z5_layRow_2_f1 (z5_layRow_1_f1 (z5_layRow_0_f1 fr gp i) gp j) gp k), kA mP cI 180 gp]) (wn := fun uu : Unit => [kM o mP mL mC mN mF mR mD mV mX mA mK cm mT pm mU mH mI, kA mN cI 3 gm, kJ mF cJ 6 ff, kA mP cI 180 gp, kA mC cI 360 gc, kJ mR cJ 30 (z5_layRow_2_f1 (z5_layRow_1_f1 (z5_layRow_0_f1 fr gp i) gp j) gp k), kJ mD cJ 64 fd, kA mV cI 5 (upd (upd (upd (upd (upd gv 0 i) 1 j) 2 k) 3 m) 4 t)]) (va_runV (As := [.int 2, .int k]) (rest := []) ⟨hx, hb, hml, hown, hts⟩ (c_X5_layRow_2 l D cI cJ o mP mL mC mN mF mR mD mV mX mA mK mT mU mH mI cm pm (z5_layRow_1_f1 (z5_layRow_0_f1 fr gp i) gp j) gp k (ok_of hm0 c_3) _) (cwV 2 hts gX5_five_X5_layRow rfl rfl rfl (by decide +kernel) ⟨Nat.le_of_ble_eq_true rfl, Nat.le_of_ble_eq_true rfl⟩) ⟨gd_blP, va_recv hK.1 hPc (ci := 5) (q0 := 0) rfl rfl, gd_prP hPc hK hDc⟩ rfl rfl hl.1 rfl (lv_room (Nat.le_of_ble_eq_true rfl)) dX5_five_157 ⟨Nat.zero_le _, Nat.zero_le _⟩) hP hD hS hA [0, 5, 3] [1, 2, 4, 6, 7] rfl rfl (by decide) (by decide) [5, 0, 1, 7, 2, 6, 3, 4] (by decide) (fun _ => rfl) (fun uG H locs hw hP hD hS => ?_)
                        have hP : va_P D vwCl [kM o mP mL mC mN mF mR mD mV mX mA mK cm mT pm mU mH mI, kA mN cI 3 gm, kJ mF cJ 6 ff, kA mP cI 180 gp, kA mC cI 360 gc, kJ mR cJ 30 (z5_layRow_2_f1 (z5_layRow_1_f1 (z5_layRow_0_f1 fr gp i) gp j) gp k), kJ mD cJ 64 fd, kA mV cI 5 (upd (upd (upd (upd (upd gv 0 i) 1 j) 2 k) 3 m) 4 t)] H := hP
                        have hD : va_D A [kM o mP mL mC mN mF mR mD mV mX mA mK cm mT pm mU mH mI, kA mN cI 3 gm, kJ mF cJ 6 ff, kA mP cI 180 gp, kA mC cI 360 gc, kJ mR cJ 30 (z5_layRow_2_f1 (z5_layRow_1_f1 (z5_layRow_0_f1 fr gp i) gp j) gp k), kJ mD cJ 64 fd, kA mV cI 5 (upd (upd (upd (upd (upd gv 0 i) 1 j) 2 k) 3 m) 4 t)] := hD
                        clear hPc hDc
                        refine lv_aload_n hx hb dX5_five_160 rfl (lv_at hl 0 rfl) ?_
                        refine lv_iconst (v := 3) hx hb dX5_five_161 (by decide) ?_
                        refine lv_iload hx hb dX5_five_162 (lv_at hl 4 rfl) ?_
                        have hPc := hP.sub (ws' := [kM o mP mL mC mN mF mR mD mV mX mA mK cm mT pm mU mH mI, kJ mR cJ 30 (z5_layRow_2_f1 (z5_layRow_1_f1 (z5_layRow_0_f1 fr gp i) gp j) gp k), kA mP cI 180 gp]) [0, 5, 3] rfl
                        have hDc := hD.sub (ws' := [kM o mP mL mC mN mF mR mD mV mX mA mK cm mT pm mU mH mI, kJ mR cJ 30 (z5_layRow_2_f1 (z5_layRow_1_f1 (z5_layRow_0_f1 fr gp i) gp j) gp k), kA mP cI 180 gp]) [0, 5, 3] (by decide) rfl
                        refine cl_v (wc := [kM o mP mL mC mN mF mR mD mV mX mA mK cm mT pm mU mH mI, kJ mR cJ 30 (z5_layRow_2_f1 (z5_layRow_1_f1 (z5_layRow_0_f1 fr gp i) gp j) gp k), kA mP cI 180 gp]) (wr := [kA mN cI 3 gm, kJ mF cJ 6 ff, kA mC cI 360 gc, kJ mD cJ 64 fd, kA mV cI 5 (upd (upd (upd (upd (upd gv 0 i) 1 j) 2 k) 3 m) 4 t)]) (w1 := fun uu : Unit => [kM o mP mL mC mN mF mR mD mV mX mA mK cm mT pm mU mH mI, kJ mR cJ 30 (z5_layRow_3_f1 (z5_layRow_2_f1 (z5_layRow_1_f1 (z5_layRow_0_f1 fr gp i) gp j) gp k) gp m), kA mP cI 180 gp]) (wn := fun uu : Unit => [kM o mP mL mC mN mF mR mD mV mX mA mK cm mT pm mU mH mI, kA mN cI 3 gm, kJ mF cJ 6 ff, kA mP cI 180 gp, kA mC cI 360 gc, kJ mR cJ 30 (z5_layRow_3_f1 (z5_layRow_2_f1 (z5_layRow_1_f1 (z5_layRow_0_f1 fr gp i) gp j) gp k) gp m), kJ mD cJ 64 fd, kA mV cI 5 (upd (upd (upd (upd (upd gv 0 i) 1 j) 2 k) 3 m) 4 t)]) (va_runV (As := [.int 3, .int m]) (rest := []) ⟨hx, hb, hml, hown, hts⟩ (c_X5_layRow_3 l D cI cJ o mP mL mC mN mF mR mD mV mX mA mK mT mU mH mI cm pm (z5_layRow_2_f1 (z5_layRow_1_f1 (z5_layRow_0_f1 fr gp i) gp j) gp k) gp m (ok_of hm0 c_4) _) (cwV 2 hts gX5_five_X5_layRow rfl rfl rfl (by decide +kernel) ⟨Nat.le_of_ble_eq_true rfl, Nat.le_of_ble_eq_true rfl⟩) ⟨gd_blP, va_recv hK.1 hPc (ci := 5) (q0 := 0) rfl rfl, gd_prP hPc hK hDc⟩ rfl rfl hl.1 rfl (lv_room (Nat.le_of_ble_eq_true rfl)) dX5_five_164 ⟨Nat.zero_le _, Nat.zero_le _⟩) hP hD hS hA [0, 5, 3] [1, 2, 4, 6, 7] rfl rfl (by decide) (by decide) [5, 0, 1, 7, 2, 6, 3, 4] (by decide) (fun _ => rfl) (fun uG H locs hw hP hD hS => ?_)
                        have hP : va_P D vwCl [kM o mP mL mC mN mF mR mD mV mX mA mK cm mT pm mU mH mI, kA mN cI 3 gm, kJ mF cJ 6 ff, kA mP cI 180 gp, kA mC cI 360 gc, kJ mR cJ 30 (z5_layRow_3_f1 (z5_layRow_2_f1 (z5_layRow_1_f1 (z5_layRow_0_f1 fr gp i) gp j) gp k) gp m), kJ mD cJ 64 fd, kA mV cI 5 (upd (upd (upd (upd (upd gv 0 i) 1 j) 2 k) 3 m) 4 t)] H := hP
                        have hD : va_D A [kM o mP mL mC mN mF mR mD mV mX mA mK cm mT pm mU mH mI, kA mN cI 3 gm, kJ mF cJ 6 ff, kA mP cI 180 gp, kA mC cI 360 gc, kJ mR cJ 30 (z5_layRow_3_f1 (z5_layRow_2_f1 (z5_layRow_1_f1 (z5_layRow_0_f1 fr gp i) gp j) gp k) gp m), kJ mD cJ 64 fd, kA mV cI 5 (upd (upd (upd (upd (upd gv 0 i) 1 j) 2 k) 3 m) 4 t)] := hD
                        clear hPc hDc
                        refine lv_aload_n hx hb dX5_five_167 rfl (lv_at hl 0 rfl) ?_
                        refine lv_iconst (v := 4) hx hb dX5_five_168 (by decide) ?_
                        refine lv_iload hx hb dX5_five_169 (lv_at hl 5 rfl) ?_
                        have hPc := hP.sub (ws' := [kM o mP mL mC mN mF mR mD mV mX mA mK cm mT pm mU mH mI, kJ mR cJ 30 (z5_layRow_3_f1 (z5_layRow_2_f1 (z5_layRow_1_f1 (z5_layRow_0_f1 fr gp i) gp j) gp k) gp m), kA mP cI 180 gp]) [0, 5, 3] rfl
                        have hDc := hD.sub (ws' := [kM o mP mL mC mN mF mR mD mV mX mA mK cm mT pm mU mH mI, kJ mR cJ 30 (z5_layRow_3_f1 (z5_layRow_2_f1 (z5_layRow_1_f1 (z5_layRow_0_f1 fr gp i) gp j) gp k) gp m), kA mP cI 180 gp]) [0, 5, 3] (by decide) rfl
                        refine cl_v (wc := [kM o mP mL mC mN mF mR mD mV mX mA mK cm mT pm mU mH mI, kJ mR cJ 30 (z5_layRow_3_f1 (z5_layRow_2_f1 (z5_layRow_1_f1 (z5_layRow_0_f1 fr gp i) gp j) gp k) gp m), kA mP cI 180 gp]) (wr := [kA mN cI 3 gm, kJ mF cJ 6 ff, kA mC cI 360 gc, kJ mD cJ 64 fd, kA mV cI 5 (upd (upd (upd (upd (upd gv 0 i) 1 j) 2 k) 3 m) 4 t)]) (w1 := fun uu : Unit => [kM o mP mL mC mN mF mR mD mV mX mA mK cm mT pm mU mH mI, kJ mR cJ 30 (z5_layRow_4_f1 (z5_layRow_3_f1 (z5_layRow_2_f1 (z5_layRow_1_f1 (z5_layRow_0_f1 fr gp i) gp j) gp k) gp m) gp t), kA mP cI 180 gp]) (wn := fun uu : Unit => [kM o mP mL mC mN mF mR mD mV mX mA mK cm mT pm mU mH mI, kA mN cI 3 gm, kJ mF cJ 6 ff, kA mP cI 180 gp, kA mC cI 360 gc, kJ mR cJ 30 (z5_layRow_4_f1 (z5_layRow_3_f1 (z5_layRow_2_f1 (z5_layRow_1_f1 (z5_layRow_0_f1 fr gp i) gp j) gp k) gp m) gp t), kJ mD cJ 64 fd, kA mV cI 5 (upd (upd (upd (upd (upd gv 0 i) 1 j) 2 k) 3 m) 4 t)]) (va_runV (As := [.int 4, .int t]) (rest := []) ⟨hx, hb, hml, hown, hts⟩ (c_X5_layRow_4 l D cI cJ o mP mL mC mN mF mR mD mV mX mA mK mT mU mH mI cm pm (z5_layRow_3_f1 (z5_layRow_2_f1 (z5_layRow_1_f1 (z5_layRow_0_f1 fr gp i) gp j) gp k) gp m) gp t (ok_of hm0 c_5) _) (cwV 2 hts gX5_five_X5_layRow rfl rfl rfl (by decide +kernel) ⟨Nat.le_of_ble_eq_true rfl, Nat.le_of_ble_eq_true rfl⟩) ⟨gd_blP, va_recv hK.1 hPc (ci := 5) (q0 := 0) rfl rfl, gd_prP hPc hK hDc⟩ rfl rfl hl.1 rfl (lv_room (Nat.le_of_ble_eq_true rfl)) dX5_five_171 ⟨Nat.zero_le _, Nat.zero_le _⟩) hP hD hS hA [0, 5, 3] [1, 2, 4, 6, 7] rfl rfl (by decide) (by decide) [5, 0, 1, 7, 2, 6, 3, 4] (by decide) (fun _ => rfl) (fun uG H locs hw hP hD hS => ?_)
                        have hP : va_P D vwCl [kM o mP mL mC mN mF mR mD mV mX mA mK cm mT pm mU mH mI, kA mN cI 3 gm, kJ mF cJ 6 ff, kA mP cI 180 gp, kA mC cI 360 gc, kJ mR cJ 30 (z5_layRow_4_f1 (z5_layRow_3_f1 (z5_layRow_2_f1 (z5_layRow_1_f1 (z5_layRow_0_f1 fr gp i) gp j) gp k) gp m) gp t), kJ mD cJ 64 fd, kA mV cI 5 (upd (upd (upd (upd (upd gv 0 i) 1 j) 2 k) 3 m) 4 t)] H := hP
                        have hD : va_D A [kM o mP mL mC mN mF mR mD mV mX mA mK cm mT pm mU mH mI, kA mN cI 3 gm, kJ mF cJ 6 ff, kA mP cI 180 gp, kA mC cI 360 gc, kJ mR cJ 30 (z5_layRow_4_f1 (z5_layRow_3_f1 (z5_layRow_2_f1 (z5_layRow_1_f1 (z5_layRow_0_f1 fr gp i) gp j) gp k) gp m) gp t), kJ mD cJ 64 fd, kA mV cI 5 (upd (upd (upd (upd (upd gv 0 i) 1 j) 2 k) 3 m) 4 t)] := hD
                        clear hPc hDc
                        refine lv_aload_n hx hb dX5_five_174 rfl (lv_at hl 0 rfl) ?_
                        have hPc := hP.sub (ws' := [kM o mP mL mC mN mF mR mD mV mX mA mK cm mT pm mU mH mI, kJ mR cJ 30 (z5_layRow_4_f1 (z5_layRow_3_f1 (z5_layRow_2_f1 (z5_layRow_1_f1 (z5_layRow_0_f1 fr gp i) gp j) gp k) gp m) gp t), kJ mD cJ 64 fd]) [0, 5, 6] rfl
                        have hDc := hD.sub (ws' := [kM o mP mL mC mN mF mR mD mV mX mA mK cm mT pm mU mH mI, kJ mR cJ 30 (z5_layRow_4_f1 (z5_layRow_3_f1 (z5_layRow_2_f1 (z5_layRow_1_f1 (z5_layRow_0_f1 fr gp i) gp j) gp k) gp m) gp t), kJ mD cJ 64 fd]) [0, 5, 6] (by decide) rfl
                        refine cl_v (wc := [kM o mP mL mC mN mF mR mD mV mX mA mK cm mT pm mU mH mI, kJ mR cJ 30 (z5_layRow_4_f1 (z5_layRow_3_f1 (z5_layRow_2_f1 (z5_layRow_1_f1 (z5_layRow_0_f1 fr gp i) gp j) gp k) gp m) gp t), kJ mD cJ 64 fd]) (wr := [kA mN cI 3 gm, kJ mF cJ 6 ff, kA mP cI 180 gp, kA mC cI 360 gc, kA mV cI 5 (upd (upd (upd (upd (upd gv 0 i) 1 j) 2 k) 3 m) 4 t)]) (w1 := fun uu : Unit => [kM o mP mL mC mN mF mR mD mV mX mA mK cm mT pm mU mH mI, kJ mR cJ 30 (z5_layRow_4_f1 (z5_layRow_3_f1 (z5_layRow_2_f1 (z5_layRow_1_f1 (z5_layRow_0_f1 fr gp i) gp j) gp k) gp m) gp t), kJ mD cJ 64 (z5_layMinors_f2 (z5_layRow_4_f1 (z5_layRow_3_f1 (z5_layRow_2_f1 (z5_layRow_1_f1 (z5_layRow_0_f1 fr gp i) gp j) gp k) gp m) gp t) fd)]) (wn := fun uu : Unit => [kM o mP mL mC mN mF mR mD mV mX mA mK cm mT pm mU mH mI, kA mN cI 3 gm, kJ mF cJ 6 ff, kA mP cI 180 gp, kA mC cI 360 gc, kJ mR cJ 30 (z5_layRow_4_f1 (z5_layRow_3_f1 (z5_layRow_2_f1 (z5_layRow_1_f1 (z5_layRow_0_f1 fr gp i) gp j) gp k) gp m) gp t), kJ mD cJ 64 (z5_layMinors_f2 (z5_layRow_4_f1 (z5_layRow_3_f1 (z5_layRow_2_f1 (z5_layRow_1_f1 (z5_layRow_0_f1 fr gp i) gp j) gp k) gp m) gp t) fd), kA mV cI 5 (upd (upd (upd (upd (upd gv 0 i) 1 j) 2 k) 3 m) 4 t)]) (va_runV (As := []) (rest := []) ⟨hx, hb, hml, hown, hts⟩ (c_X5_layMinors l D cI cJ o mP mL mC mN mF mR mD mV mX mA mK mT mU mH mI cm pm (z5_layRow_4_f1 (z5_layRow_3_f1 (z5_layRow_2_f1 (z5_layRow_1_f1 (z5_layRow_0_f1 fr gp i) gp j) gp k) gp m) gp t) fd _) (cwV 0 hts gX5_five_X5_layMinors rfl rfl rfl (by decide +kernel) ⟨Nat.le_of_ble_eq_true rfl, Nat.le_of_ble_eq_true rfl⟩) ⟨gd_blP, va_recv hK.1 hPc (ci := 5) (q0 := 0) rfl rfl, gd_prP hPc hK hDc⟩ rfl rfl hl.1 rfl (lv_room (Nat.le_of_ble_eq_true rfl)) dX5_five_175 ⟨Nat.zero_le _, Nat.zero_le _⟩) hP hD hS hA [0, 5, 6] [1, 2, 3, 4, 7] rfl rfl (by decide) (by decide) [5, 0, 1, 2, 3, 6, 7, 4] (by decide) (fun _ => rfl) (fun uG H locs hw hP hD hS => ?_)
                        have hP : va_P D vwCl [kM o mP mL mC mN mF mR mD mV mX mA mK cm mT pm mU mH mI, kA mN cI 3 gm, kJ mF cJ 6 ff, kA mP cI 180 gp, kA mC cI 360 gc, kJ mR cJ 30 (z5_layRow_4_f1 (z5_layRow_3_f1 (z5_layRow_2_f1 (z5_layRow_1_f1 (z5_layRow_0_f1 fr gp i) gp j) gp k) gp m) gp t), kJ mD cJ 64 (z5_layMinors_f2 (z5_layRow_4_f1 (z5_layRow_3_f1 (z5_layRow_2_f1 (z5_layRow_1_f1 (z5_layRow_0_f1 fr gp i) gp j) gp k) gp m) gp t) fd), kA mV cI 5 (upd (upd (upd (upd (upd gv 0 i) 1 j) 2 k) 3 m) 4 t)] H := hP
                        have hD : va_D A [kM o mP mL mC mN mF mR mD mV mX mA mK cm mT pm mU mH mI, kA mN cI 3 gm, kJ mF cJ 6 ff, kA mP cI 180 gp, kA mC cI 360 gc, kJ mR cJ 30 (z5_layRow_4_f1 (z5_layRow_3_f1 (z5_layRow_2_f1 (z5_layRow_1_f1 (z5_layRow_0_f1 fr gp i) gp j) gp k) gp m) gp t), kJ mD cJ 64 (z5_layMinors_f2 (z5_layRow_4_f1 (z5_layRow_3_f1 (z5_layRow_2_f1 (z5_layRow_1_f1 (z5_layRow_0_f1 fr gp i) gp j) gp k) gp m) gp t) fd), kA mV cI 5 (upd (upd (upd (upd (upd gv 0 i) 1 j) 2 k) 3 m) 4 t)] := hD
                        have ea_0 : z5_layMinors_f2 (z5_layRow_4_f1 (z5_layRow_3_f1 (z5_layRow_2_f1 (z5_layRow_1_f1 (z5_layRow_0_f1 fr gp i) gp j) gp k) gp m) gp t) fd = z5_five_v2 gp fr fd i j k m t := by delta z5_five_v2; rfl
                        have ea_1 : (z5_layRow_4_f1 (z5_layRow_3_f1 (z5_layRow_2_f1 (z5_layRow_1_f1 (z5_layRow_0_f1 fr gp i) gp j) gp k) gp m) gp t) = z5_five_v1 gp fr i j k m t := by delta z5_five_v1; rfl
                        rw [ea_0, ea_1] at hP hD
                        clear ea_0 ea_1
                        clear hPc hDc
                        have he : z5_five gm ff gp gc fr fd gv i j k m t = (z5_five_v5 gm ff gp gc fr fd i j k m t, z5_five_v3 gm ff gp gc fr fd i j k m t, z5_five_v4 gm ff gp gc fr fd i j k m t) := by unfold z5_five; rw [if_neg c_1, if_neg c_2, if_neg c_3, if_neg c_4, if_neg c_5, if_pos c_6, if_neg c_7, if_neg c_8, if_neg c_9, if_neg c_10, if_neg c_11]
                        delta z5_five_v5 z5_five_v3 z5_five_v4 at he
                        exact sg_X5_five_t (R1 := (z5_five gm ff gp gc fr fd gv i j k m t).1) (R2 := (z5_five gm ff gp gc fr fd gv i j k m t).2.1) (R3 := (z5_five gm ff gp gc fr fd gv i j k m t).2.2) hm2 (by rw [he]) (by rw [he]) (by rw [he]) hx hb hr hml hown hts hlk hK hA hP hD hS ls hl
                      · skip
                        refine lv_ldc hx hb hown k_4 dX5_five_139 ?_
                        have he : z5_five gm ff gp gc fr fd gv i j k m t = ((-1000006), gm, gc) := by unfold z5_five; rw [if_neg c_1, if_neg c_2, if_neg c_3, if_neg c_4, if_neg c_5, if_pos c_6, if_neg c_7, if_neg c_8, if_neg c_9, if_neg c_10, if_pos c_11]
                        have he_0 : (z5_five gm ff gp gc fr fd gv i j k m t).1 = (-1000006) := by rw [he]
                        have he_1 : (z5_five gm ff gp gc fr fd gv i j k m t).2.1 = gm := by rw [he]
                        have he_2 : (z5_five gm ff gp gc fr fd gv i j k m t).2.2 = gc := by rw [he]
                        exact rt_i (w1 := fun uu : (Nat → Int64) × (Nat → Int64) × (Nat → Int64) × (Nat → Int32) => [kM o mP mL mC mN mF mR mD mV mX mA mK cm mT pm mU mH mI, kA mN cI 3 ((z5_five gm ff gp gc fr fd gv i j k m t).2.1), kJ mF cJ 6 uu.1, kA mP cI 180 gp, kA mC cI 360 ((z5_five gm ff gp gc fr fd gv i j k m t).2.2), kJ mR cJ 30 uu.2.1, kJ mD cJ 64 uu.2.2.1, kA mV cI 5 uu.2.2.2]) hx hb hr hlk hS dX5_five_141 ((ff, fr, fd, upd (upd (upd (upd (upd gv 0 i) 1 j) 2 k) 3 m) 4 t)) he_0.symm (by (try dsimp only); rw [he_1, he_2]; exact hP) (by (try dsimp only); rw [he_1, he_2]; exact hD)
            · skip
              refine lv_ldc hx hb hown k_7 dX5_five_94 ?_
              have he : z5_five gm ff gp gc fr fd gv i j k m t = ((-1000004), gm, gc) := by unfold z5_five; rw [if_neg c_1, if_neg c_2, if_neg c_3, if_neg c_4, if_neg c_5, if_neg c_6]
              have he_0 : (z5_five gm ff gp gc fr fd gv i j k m t).1 = (-1000004) := by rw [he]
              have he_1 : (z5_five gm ff gp gc fr fd gv i j k m t).2.1 = gm := by rw [he]
              have he_2 : (z5_five gm ff gp gc fr fd gv i j k m t).2.2 = gc := by rw [he]
              exact rt_i (w1 := fun uu : (Nat → Int64) × (Nat → Int64) × (Nat → Int64) × (Nat → Int32) => [kM o mP mL mC mN mF mR mD mV mX mA mK cm mT pm mU mH mI, kA mN cI 3 ((z5_five gm ff gp gc fr fd gv i j k m t).2.1), kJ mF cJ 6 uu.1, kA mP cI 180 gp, kA mC cI 360 ((z5_five gm ff gp gc fr fd gv i j k m t).2.2), kJ mR cJ 30 uu.2.1, kJ mD cJ 64 uu.2.2.1, kA mV cI 5 uu.2.2.2]) hx hb hr hlk hS dX5_five_96 ((ff, fr, fd, upd (upd (upd (upd (upd gv 0 i) 1 j) 2 k) 3 m) 4 t)) he_0.symm (by (try dsimp only); rw [he_1, he_2]; exact hP) (by (try dsimp only); rw [he_1, he_2]; exact hD)
          · skip
            refine lv_ldc hx hb hown k_1 dX5_five_47 ?_
            have he : z5_five gm ff gp gc fr fd gv i j k m t = ((-1000002), gm, gc) := by unfold z5_five; rw [if_neg c_1, if_neg c_2, if_neg c_3, if_neg c_4, if_pos c_5]
            have he_0 : (z5_five gm ff gp gc fr fd gv i j k m t).1 = (-1000002) := by rw [he]
            have he_1 : (z5_five gm ff gp gc fr fd gv i j k m t).2.1 = gm := by rw [he]
            have he_2 : (z5_five gm ff gp gc fr fd gv i j k m t).2.2 = gc := by rw [he]
            exact rt_i (w1 := fun uu : (Nat → Int64) × (Nat → Int64) × (Nat → Int64) × (Nat → Int32) => [kM o mP mL mC mN mF mR mD mV mX mA mK cm mT pm mU mH mI, kA mN cI 3 ((z5_five gm ff gp gc fr fd gv i j k m t).2.1), kJ mF cJ 6 uu.1, kA mP cI 180 gp, kA mC cI 360 ((z5_five gm ff gp gc fr fd gv i j k m t).2.2), kJ mR cJ 30 uu.2.1, kJ mD cJ 64 uu.2.2.1, kA mV cI 5 uu.2.2.2]) hx hb hr hlk hS dX5_five_49 ((ff, fr, fd, gv)) he_0.symm (by (try dsimp only); rw [he_1, he_2]; exact hP) (by (try dsimp only); rw [he_1, he_2]; exact hD)
