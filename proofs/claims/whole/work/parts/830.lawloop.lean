theorem vpk {i k L : Nat} (h : i + k < L) (hL : L ≤ 3584) : vp_in (nI i + nI k) L := by
  have e1 : (nI i).toInt = i := by
    unfold nI
    rw [Int32.toInt_ofNat_of_lt (by omega)]
  have e2 : (nI k).toInt = k := by
    unfold nI
    rw [Int32.toInt_ofNat_of_lt (by omega)]
  have e : (nI i + nI k).toInt = ((i + k : Nat) : Int) := by
    rw [Int32.toInt_add, e1, e2]
    rw [Int.bmod_eq_of_le (by omega) (by omega)]
    omega
  have z0 : (0 : Int32).toInt = 0 := by decide
  rintro (q | q)
  · rw [Int32.lt_iff_toInt_lt, e, z0] at q
    omega
  · have e3 : (nI i + nI k).toNatClampNeg = i + k := by
      show (nI i + nI k).toInt.toNat = i + k
      rw [e]
      omega
    omega
theorem lw_go {i L : Nat} (hi : i ≤ L) (hL : L ≤ 3584) (c : ¬ Int32.ofNat L - 7 < nI i) : i + 7 ≤ L := by
  have e1 : (nI i).toInt = i := by
    unfold nI
    rw [Int32.toInt_ofNat_of_lt (by omega)]
  have e2 : (Int32.ofNat L).toInt = L := by
    rw [Int32.toInt_ofNat_of_lt (by omega)]
  have z7 : (7 : Int32).toInt = 7 := by decide
  have e : (Int32.ofNat L - 7).toInt = (L : Int) - 7 := by
    rw [Int32.toInt_sub, e2, z7]
    exact Int.bmod_eq_of_le (by omega) (by omega)
  rw [Int32.lt_iff_toInt_lt, e, e1] at c
  omega
set_option maxHeartbeats 4000000 in
set_option maxRecDepth 100000 in
/-- one turn of the law's loop -/
theorem lw_head {l : Launch} {D : va_G} {cI cJ : ClassId} {pG : Program} {eG : Env} {sG : State} {mG : MethodId} {below : List Frame} {meth : Method} {cG : Code} {A : Nat → Prop} {b L : Nat} {xs : Nat → Int32} {o : Nat} {oP : Nat} {oL : Nat} {oC : Nat} {oX : Nat} {oY : Nat} {oF : Nat} {oS : Nat} {oT : Nat} {oM : Nat} {fL : Nat} {fR : Nat} {fN : Nat} {fM : Nat} {oR : Nat} {qp : Nat} {ql : Nat} {qc : Nat} {om : Nat} {mP : Nat} {mL : Nat} {mC : Nat} {mN : Nat} {mF : Nat} {mR : Nat} {mD : Nat} {mV : Nat} {mX : Nat} {mA : Nat} {mK : Nat} {mT : Nat} {mU : Nat} {mH : Nat} {mI : Nat} (hx : pG.tables.exec = Jvm.exec) (hb : cG.code = cL_law) (hml : cG.maxLocals = 4) (hown : sG.vm.findClass RL = some mG.cls) (hts : ∀ x ∈ wsL_law, x.before #[Value.ref b] sG = true) (hK : gd_K D cI cJ sG) (hA : ∀ q : Nat, sG.heap.size ≤ q → A q) (hX : va_X b L xs sG sG.heap) (hbl : b < sG.heap.size) (hbA : ¬ A b) (hr : meth.sig.returnType = ret) (hlk : meth.locks = false) (hAA : ∀ q : Nat, A q → sG.heap.size ≤ q) (hL : L ≤ 3584) {i : Nat} {ii : Int32} (hi : i ≤ L) (ei : ii = nI i) {H : Heap} {locs : List Loc} {ls : Array Slot} {gm : Nat → Int32} {gp : Nat → Int32} {gl : Nat → Int32} {gc : Nat → Int32} {cn : Int32} {c1 : Int64} {c2 : Int64} {c3 : Int64} {c4 : Int64} {c5 : Int64} {c6 : Int64} {cm : Int32} {fk : Nat → Int64} {pn : Int32} {p1 : Int64} {p2 : Int64} {p3 : Int64} {p4 : Int64} {p5 : Int64} {p6 : Int64} {pm : Int32} {ft : Nat → Int64} (hI : lwI gm gp gl gc cn c1 c2 c3 c4 c5 c6 cm fk pn p1 p2 p3 p4 p5 p6 pm ft) (hW : lwAt D cI cJ A o oP oL oC oX oY oF oS oT oM fL fR fN fM oR qp ql qc om mP mL mC mN mF mR mD mV mX mA mK mT mU mH mI H gm gp gl gc cn c1 c2 c3 c4 c5 c6 cm fk pn p1 p2 p3 p4 p5 p6 pm ft) (hS : va_S A sG.heap H locs) (hl : lv_has ls 4 [(0, .ref b), (1, .ref o), (2, .ref om), (3, .int ii)]) (nx : i + 7 ≤ L → ∀ (gm : Nat → Int32) (gp : Nat → Int32) (gl : Nat → Int32) (gc : Nat → Int32) (cn : Int32) (c1 : Int64) (c2 : Int64) (c3 : Int64) (c4 : Int64) (c5 : Int64) (c6 : Int64) (cm : Int32) (fk : Nat → Int64) (pn : Int32) (p1 : Int64) (p2 : Int64) (p3 : Int64) (p4 : Int64) (p5 : Int64) (p6 : Int64) (pm : Int32) (ft : Nat → Int64) (H : Heap) (locs : List Loc) (ls : Array Slot), lwI gm gp gl gc cn c1 c2 c3 c4 c5 c6 cm fk pn p1 p2 p3 p4 p5 p6 pm ft → lwAt D cI cJ A o oP oL oC oX oY oF oS oT oM fL fR fN fM oR qp ql qc om mP mL mC mN mF mR mD mV mX mA mK mT mU mH mI H gm gp gl gc cn c1 c2 c3 c4 c5 c6 cm fk pn p1 p2 p3 p4 p5 p6 pm ft → va_S A sG.heap H locs → lv_has ls 4 [(0, .ref b), (1, .ref o), (2, .ref om), (3, .int (ii + 7))] → W pG l eG room_1 sG mG #[Value.ref b] below meth cG H locs 38 1686 (lw_Z below #[Value.ref b] sG) (F0 mG 18 ls [])) : W pG l eG room_1 sG mG #[Value.ref b] below meth cG H locs 38 1686 (lw_Z below #[Value.ref b] sG) (F0 mG 18 ls []) := by
  refine lv_iload_n hx hb dL_law_18 rfl (lv_at hl 3 rfl) ?_
  refine lv_aload_n hx hb dL_law_19 rfl (lv_at hl 0 rfl) ?_
  refine va_slen hx hb hX hbl hbA hS dL_law_20 ?_
  refine lv_bipush (v := 7) hx hb dL_law_21 (by decide) ?_
  refine lv_isub hx hb dL_law_23 ?_
  refine lv_icmp_gt (tgt := 1001) hx hb dL_law_24 (by decide) (fun c_1 => ?_) (fun c_1 => ?_)
  · refine lv_iconst (v := 1) hx hb dL_law_1001 (by decide) ?_
    refine va_forget (fun q hq => hAA _ (hS.2.2 q hq)) ?_
    refine W.widen (k := 600000) (n := 7302250) (by omega) (by omega) ?_
    exact lw_ret hx hb hr hlk dL_law_1002
  · have hlt : i + 7 ≤ L := lw_go hi hL (by rw [← ei]; exact c_1)
    have v0 : vp_in ii L := by
      have := vpk (i := i) (k := 0) (L := L) (by omega) hL
      rw [← ei] at this
      have z : ii + nI 0 = ii := by
        show ii + 0 = ii
        rw [Int32.add_zero]
      rw [z] at this
      exact this
    have v1 : vp_in (ii + 1) L := by
      rw [ei]
      exact vpk (i := i) (k := 1) (L := L) (by omega) hL
    have v2 : vp_in (ii + 2) L := by
      rw [ei]
      exact vpk (i := i) (k := 2) (L := L) (by omega) hL
    have v3 : vp_in (ii + 3) L := by
      rw [ei]
      exact vpk (i := i) (k := 3) (L := L) (by omega) hL
    have v4 : vp_in (ii + 4) L := by
      rw [ei]
      exact vpk (i := i) (k := 4) (L := L) (by omega) hL
    have v5 : vp_in (ii + 5) L := by
      rw [ei]
      exact vpk (i := i) (k := 5) (L := L) (by omega) hL
    have v6 : vp_in (ii + 6) L := by
      rw [ei]
      exact vpk (i := i) (k := 6) (L := L) (by omega) hL
    have fin : ∀ (gm : Nat → Int32) (gp : Nat → Int32) (gl : Nat → Int32) (gc : Nat → Int32) (cn : Int32) (c1 : Int64) (c2 : Int64) (c3 : Int64) (c4 : Int64) (c5 : Int64) (c6 : Int64) (cm : Int32) (fk : Nat → Int64) (pn : Int32) (p1 : Int64) (p2 : Int64) (p3 : Int64) (p4 : Int64) (p5 : Int64) (p6 : Int64) (pm : Int32) (ft : Nat → Int64) (H : Heap) (locs : List Loc) (ls : Array Slot), lwI gm gp gl gc cn c1 c2 c3 c4 c5 c6 cm fk pn p1 p2 p3 p4 p5 p6 pm ft → lwAt D cI cJ A o oP oL oC oX oY oF oS oT oM fL fR fN fM oR qp ql qc om mP mL mC mN mF mR mD mV mX mA mK mT mU mH mI H gm gp gl gc cn c1 c2 c3 c4 c5 c6 cm fk pn p1 p2 p3 p4 p5 p6 pm ft → va_S A sG.heap H locs → lv_has ls 4 [(0, .ref b), (1, .ref o), (2, .ref om), (3, .int ii)] → W pG l eG room_1 sG mG #[Value.ref b] below meth cG H locs 38 1686 (lw_Z below #[Value.ref b] sG) (F0 mG 995 ls []) := by
      intro gm gp gl gc cn c1 c2 c3 c4 c5 c6 cm fk pn p1 p2 p3 p4 p5 p6 pm ft H locs ls hI hW hS hl
      refine lv_iinc (v := ii + 7) (lv' := [(3, .int (ii + 7)), (0, .ref b), (1, .ref o), (2, .ref om)]) hx hb dL_law_995 hl (k := 3) rfl rfl (by decide) rfl (fun ls hl => ?_)
      refine lv_goto (tgt := 18) hx hb dL_law_998 (by decide) ?_
      exact nx hlt gm gp gl gc cn c1 c2 c3 c4 c5 c6 cm fk pn p1 p2 p3 p4 p5 p6 pm ft _ _ _ hI hW hS (lv_sub hl [1, 2, 3, 0] rfl)
    refine lv_aload_n hx hb dL_law_27 rfl (lv_at hl 0 rfl) ?_
    refine lv_iload_n hx hb dL_law_28 rfl (lv_at hl 3 rfl) ?_
    refine va_sld hx hb hX hbl hbA hS v0 dL_law_29 ?_
    refine lv_bipush (v := 31) hx hb dL_law_30 (by decide) ?_
    refine lv_iand hx hb dL_law_32 ?_
    refine lv_topi (fun t et => ?_)
    clear et
    by_cases t_0 : t = 0
    · subst t_0
      refine lv_tableIn (off := 107) (tgt := 140) hx hb dL_law_33 (by decide) (by decide) (by decide) (by decide) ?_
      exact lw_point hx hb hml hown hts hK hA hX hbl hbA v1 v2 v3 rfl rfl rfl hI hW hS hl fin
    by_cases t_1 : t = 1
    · subst t_1
      refine lv_tableIn (off := 150) (tgt := 183) hx hb dL_law_33 (by decide) (by decide) (by decide) (by decide) ?_
      exact lw_line hx hb hml hown hts hK hA hX hbl hbA v1 v2 v3 rfl rfl rfl hI hW hS hl fin
    by_cases t_2 : t = 2
    · subst t_2
      refine lv_tableIn (off := 193) (tgt := 226) hx hb dL_law_33 (by decide) (by decide) (by decide) (by decide) ?_
      exact lw_conic hx hb hml hown hts hK hA hX hbl hbA v1 v2 v3 v4 v5 v6 rfl rfl rfl rfl rfl rfl hI hW hS hl fin
    by_cases t_3 : t = 3
    · subst t_3
      refine lv_tableIn (off := 268) (tgt := 301) hx hb dL_law_33 (by decide) (by decide) (by decide) (by decide) ?_
      exact lw_count hx hb hml hown hts hK hA hX hbl hbA v1 rfl hI hW hS hl fin
    by_cases t_4 : t = 4
    · subst t_4
      refine lv_tableIn (off := 291) (tgt := 324) hx hb dL_law_33 (by decide) (by decide) (by decide) (by decide) ?_
      exact lw_number hx hb hml hown hts hK hA hX hbl hbA v1 v2 v3 rfl rfl rfl hI hW hS hl fin
    by_cases t_5 : t = 5
    · subst t_5
      refine lv_tableIn (off := 334) (tgt := 367) hx hb dL_law_33 (by decide) (by decide) (by decide) (by decide) ?_
      exact lw_join hx hb hml hown hts hK hA hX hbl hbA v1 v2 rfl rfl hI hW hS hl fin
    by_cases t_6 : t = 6
    · subst t_6
      refine lv_tableIn (off := 367) (tgt := 400) hx hb dL_law_33 (by decide) (by decide) (by decide) (by decide) ?_
      exact lw_meet hx hb hml hown hts hK hA hX hbl hbA v1 v2 rfl rfl hI hW hS hl fin
    by_cases t_7 : t = 7
    · subst t_7
      refine lv_tableIn (off := 400) (tgt := 433) hx hb dL_law_33 (by decide) (by decide) (by decide) (by decide) ?_
      exact lw_on hx hb hml hown hts hK hA hX hbl hbA v1 v2 v3 rfl rfl rfl hI hW hS hl fin
    by_cases t_8 : t = 8
    · subst t_8
      refine lv_tableIn (off := 443) (tgt := 476) hx hb dL_law_33 (by decide) (by decide) (by decide) (by decide) ?_
      exact lw_five hx hb hml hown hts hK hA hX hbl hbA v1 v2 v3 v4 v5 rfl rfl rfl rfl rfl hI hW hS hl fin
    by_cases t_9 : t = 9
    · subst t_9
      refine lv_tableIn (off := 506) (tgt := 539) hx hb dL_law_33 (by decide) (by decide) (by decide) (by decide) ?_
      exact lw_kind hx hb hml hown hts hK hA hX hbl hbA v1 rfl hI hW hS hl fin
    by_cases t_10 : t = 10
    · subst t_10
      refine lv_tableIn (off := 529) (tgt := 562) hx hb dL_law_33 (by decide) (by decide) (by decide) (by decide) ?_
      exact lw_told hx hb hml hown hts hK hA hX hbl hbA v1 v2 rfl rfl hI hW hS hl fin
    by_cases t_11 : t = 11
    · subst t_11
      refine lv_tableIn (off := 563) (tgt := 596) hx hb dL_law_33 (by decide) (by decide) (by decide) (by decide) ?_
      exact lw_round hx hb hml hown hts hK hA hX hbl hbA v1 rfl hI hW hS hl fin
    by_cases t_12 : t = 12
    · subst t_12
      refine lv_tableIn (off := 586) (tgt := 619) hx hb dL_law_33 (by decide) (by decide) (by decide) (by decide) ?_
      exact lw_polar hx hb hml hown hts hK hA hX hbl hbA v1 v2 rfl rfl hI hW hS hl fin
    by_cases t_13 : t = 13
    · subst t_13
      refine lv_tableIn (off := 619) (tgt := 652) hx hb dL_law_33 (by decide) (by decide) (by decide) (by decide) ?_
      exact lw_pole hx hb hml hown hts hK hA hX hbl hbA v1 v2 rfl rfl hI hW hS hl fin
    by_cases t_14 : t = 14
    · subst t_14
      refine lv_tableIn (off := 652) (tgt := 685) hx hb dL_law_33 (by decide) (by decide) (by decide) (by decide) ?_
      exact lw_centre hx hb hml hown hts hK hA hX hbl hbA v1 rfl hI hW hS hl fin
    by_cases t_15 : t = 15
    · subst t_15
      refine lv_tableIn (off := 675) (tgt := 708) hx hb dL_law_33 (by decide) (by decide) (by decide) (by decide) ?_
      exact lw_dual hx hb hml hown hts hK hA hX hbl hbA v1 rfl hI hW hS hl fin
    by_cases t_16 : t = 16
    · subst t_16
      refine lv_tableIn (off := 698) (tgt := 731) hx hb dL_law_33 (by decide) (by decide) (by decide) (by decide) ?_
      exact lw_member hx hb hml hown hts hK hA hX hbl hbA v1 v2 v3 v4 rfl rfl rfl rfl hI hW hS hl fin
    by_cases t_17 : t = 17
    · subst t_17
      refine lv_tableIn (off := 751) (tgt := 784) hx hb dL_law_33 (by decide) (by decide) (by decide) (by decide) ?_
      exact lw_through hx hb hml hown hts hK hA hX hbl hbA v1 v2 v3 rfl rfl rfl hI hW hS hl fin
    by_cases t_18 : t = 18
    · subst t_18
      refine lv_tableIn (off := 794) (tgt := 827) hx hb dL_law_33 (by decide) (by decide) (by decide) (by decide) ?_
      exact lw_cubic hx hb hml hown hts hK hA hX hbl hbA v1 v2 v3 rfl rfl rfl hI hW hS hl fin
    by_cases t_19 : t = 19
    · subst t_19
      refine lv_tableIn (off := 838) (tgt := 871) hx hb dL_law_33 (by decide) (by decide) (by decide) (by decide) ?_
      exact lw_cross hx hb hml hown hts hK hA hX hbl hbA v1 v2 rfl rfl hI hW hS hl fin
    by_cases t_20 : t = 20
    · subst t_20
      refine lv_tableIn (off := 871) (tgt := 904) hx hb dL_law_33 (by decide) (by decide) (by decide) (by decide) ?_
      exact lw_crossing hx hb hml hown hts hK hA hX hbl hbA v1 v2 rfl rfl hI hW hS hl fin
    by_cases t_21 : t = 21
    · subst t_21
      refine lv_tableIn (off := 905) (tgt := 938) hx hb dL_law_33 (by decide) (by decide) (by decide) (by decide) ?_
      exact lw_split hx hb hml hown hts hK hA hX hbl hbA v1 rfl hI hW hS hl fin
    by_cases t_22 : t = 22
    · subst t_22
      refine lv_tableIn (off := 928) (tgt := 961) hx hb dL_law_33 (by decide) (by decide) (by decide) (by decide) ?_
      exact lw_part hx hb hml hown hts hK hA hX hbl hbA v1 v2 rfl rfl hI hW hS hl fin
    have n_0 := lv_neT (a := 0) t_0 (by decide)
    have n_1 := lv_neT (a := 1) t_1 (by decide)
    have n_2 := lv_neT (a := 2) t_2 (by decide)
    have n_3 := lv_neT (a := 3) t_3 (by decide)
    have n_4 := lv_neT (a := 4) t_4 (by decide)
    have n_5 := lv_neT (a := 5) t_5 (by decide)
    have n_6 := lv_neT (a := 6) t_6 (by decide)
    have n_7 := lv_neT (a := 7) t_7 (by decide)
    have n_8 := lv_neT (a := 8) t_8 (by decide)
    have n_9 := lv_neT (a := 9) t_9 (by decide)
    have n_10 := lv_neT (a := 10) t_10 (by decide)
    have n_11 := lv_neT (a := 11) t_11 (by decide)
    have n_12 := lv_neT (a := 12) t_12 (by decide)
    have n_13 := lv_neT (a := 13) t_13 (by decide)
    have n_14 := lv_neT (a := 14) t_14 (by decide)
    have n_15 := lv_neT (a := 15) t_15 (by decide)
    have n_16 := lv_neT (a := 16) t_16 (by decide)
    have n_17 := lv_neT (a := 17) t_17 (by decide)
    have n_18 := lv_neT (a := 18) t_18 (by decide)
    have n_19 := lv_neT (a := 19) t_19 (by decide)
    have n_20 := lv_neT (a := 20) t_20 (by decide)
    have n_21 := lv_neT (a := 21) t_21 (by decide)
    have n_22 := lv_neT (a := 22) t_22 (by decide)
    refine lv_tableOut (tgt := 995) hx hb dL_law_33 (by omega) (by decide) ?_
    exact fin gm gp gl gc cn c1 c2 c3 c4 c5 c6 cm fk pn p1 p2 p3 p4 p5 p6 pm ft _ _ _ hI hW hS hl
theorem nI_7 (i : Nat) : nI i + 7 = nI (i + 7) := by
  unfold nI
  rw [Int32.ofNat_add]
  rfl
/-- the law's loop -/
theorem lw_loop {l : Launch} {D : va_G} {cI cJ : ClassId} {pG : Program} {eG : Env} {sG : State} {mG : MethodId} {below : List Frame} {meth : Method} {cG : Code} {A : Nat → Prop} {b L : Nat} {xs : Nat → Int32} {o : Nat} {oP : Nat} {oL : Nat} {oC : Nat} {oX : Nat} {oY : Nat} {oF : Nat} {oS : Nat} {oT : Nat} {oM : Nat} {fL : Nat} {fR : Nat} {fN : Nat} {fM : Nat} {oR : Nat} {qp : Nat} {ql : Nat} {qc : Nat} {om : Nat} {mP : Nat} {mL : Nat} {mC : Nat} {mN : Nat} {mF : Nat} {mR : Nat} {mD : Nat} {mV : Nat} {mX : Nat} {mA : Nat} {mK : Nat} {mT : Nat} {mU : Nat} {mH : Nat} {mI : Nat} (hx : pG.tables.exec = Jvm.exec) (hb : cG.code = cL_law) (hml : cG.maxLocals = 4) (hown : sG.vm.findClass RL = some mG.cls) (hts : ∀ x ∈ wsL_law, x.before #[Value.ref b] sG = true) (hK : gd_K D cI cJ sG) (hA : ∀ q : Nat, sG.heap.size ≤ q → A q) (hX : va_X b L xs sG sG.heap) (hbl : b < sG.heap.size) (hbA : ¬ A b) (hr : meth.sig.returnType = ret) (hlk : meth.locks = false) (hAA : ∀ q : Nat, A q → sG.heap.size ≤ q) (hL : L ≤ 3584) : ∀ (n i : Nat) (ii : Int32), L < i + 7 * n + 7 → i ≤ L → ii = nI i → ∀ (gm : Nat → Int32) (gp : Nat → Int32) (gl : Nat → Int32) (gc : Nat → Int32) (cn : Int32) (c1 : Int64) (c2 : Int64) (c3 : Int64) (c4 : Int64) (c5 : Int64) (c6 : Int64) (cm : Int32) (fk : Nat → Int64) (pn : Int32) (p1 : Int64) (p2 : Int64) (p3 : Int64) (p4 : Int64) (p5 : Int64) (p6 : Int64) (pm : Int32) (ft : Nat → Int64) (H : Heap) (locs : List Loc) (ls : Array Slot), lwI gm gp gl gc cn c1 c2 c3 c4 c5 c6 cm fk pn p1 p2 p3 p4 p5 p6 pm ft → lwAt D cI cJ A o oP oL oC oX oY oF oS oT oM fL fR fN fM oR qp ql qc om mP mL mC mN mF mR mD mV mX mA mK mT mU mH mI H gm gp gl gc cn c1 c2 c3 c4 c5 c6 cm fk pn p1 p2 p3 p4 p5 p6 pm ft → va_S A sG.heap H locs → lv_has ls 4 [(0, .ref b), (1, .ref o), (2, .ref om), (3, .int ii)] → W pG l eG room_1 sG mG #[Value.ref b] below meth cG H locs 38 1686 (lw_Z below #[Value.ref b] sG) (F0 mG 18 ls []) := by
  intro n
  induction n with
  | zero =>
    intro i ii h1 h2 ei gm gp gl gc cn c1 c2 c3 c4 c5 c6 cm fk pn p1 p2 p3 p4 p5 p6 pm ft H locs ls hI hW hS hl
    exact lw_head hx hb hml hown hts hK hA hX hbl hbA hr hlk hAA hL h2 ei hI hW hS hl (fun h => absurd h (by omega))
  | succ n ih =>
    intro i ii h1 h2 ei gm gp gl gc cn c1 c2 c3 c4 c5 c6 cm fk pn p1 p2 p3 p4 p5 p6 pm ft H locs ls hI hW hS hl
    exact lw_head hx hb hml hown hts hK hA hX hbl hbA hr hlk hAA hL h2 ei hI hW hS hl (fun h => ih (i + 7) (ii + 7) (by omega) h (by rw [ei]; exact nI_7 i))
