-- laid by wip/whole/gen
set_option maxHeartbeats 4000000 in
set_option maxRecDepth 100000 in
theorem sg_X5_layMinors_37 {l : Launch} {D : va_G} {cI cJ : ClassId} {pG : Program} {eG : Env} {sG : State} {mG : MethodId} {below : List Frame} {meth : Method} {cG : Code} {A : Nat → Prop} {H : Heap} {locs : List Loc} {o : Nat} {mP : Nat} {mL : Nat} {mC : Nat} {mN : Nat} {mF : Nat} {mR : Nat} {mD : Nat} {mV : Nat} {mX : Nat} {mA : Nat} {mK : Nat} {mT : Nat} {mU : Nat} {mH : Nat} {mI : Nat} {cm : Int32} {pm : Int32} {fr : Nat → Int64} {fd : Nat → Int64} (hx : pG.tables.exec = Jvm.exec) (hb : cG.code = cX5_layMinors) (hr : meth.sig.returnType = none) (hml : cG.maxLocals = 9) (hown : sG.vm.findClass RX5 = some mG.cls) (hts : ∀ x ∈ wsX5_layMinors, x.before ([.ref o] : List Value).toArray sG = true) (hlk : meth.locks = false) (hK : gd_K D cI cJ sG) (hA : ∀ q : Nat, sG.heap.size ≤ q → A q) (hP : va_P D vwCl [kM o mP mL mC mN mF mR mD mV mX mA mK cm mT pm mU mH mI, kJ mR cJ 30 fr, kJ mD cJ 64 (z5_mm37 fr fd)] H) (hD : va_D A [kM o mP mL mC mN mF mR mD mV mX mA mK cm mT pm mU mH mI, kJ mR cJ 30 fr, kJ mD cJ 64 (z5_mm37 fr fd)]) (hS : va_S A sG.heap H locs) (ls : Array Slot) (hl : lv_has ls 9 [(0, .ref o), (1, .int 37)]) : W pG l eG (headSpec wsX5_layMinors ({ frames := 0, cells := 0, slots := 0, locals := 0 })).room sG mG ([.ref o] : List Value).toArray below meth cG H locs 0 0 (MQ below ((qe_v (fun _ : Unit => True) (fun uu => [kM o mP mL mC mN mF mR mD mV mX mA mK cm mT pm mU mH mI, kJ mR cJ 30 fr, kJ mD cJ 64 (z5_layMinors_f2 fr fd)])) D A) ([.ref o] : List Value).toArray sG 0 0 A) (F0 mG 9 ls []) := by
  have k_1 := hts (.fieldLink RX5 29 "ConicRowsModel" "minors" "[J") (by decide +kernel)
  have k_2 : ∀ w ∈ wsX50, w ∈ wsX5_layMinors := by decide +kernel
  have k_3 := hts (.constant RX5 122 (-1000001)) (by decide +kernel)
  have k_4 := hts (.fieldLink RX5 26 "ConicRowsModel" "rows" "[J") (by decide +kernel)
  refine lv_iload_n hx hb dX5_layMinors_9 rfl (lv_at hl 1 rfl) ?_
  refine lv_bipush (v := 64) hx hb dX5_layMinors_10 (by decide) ?_
  refine lv_icmp_ge (tgt := 148) hx hb dX5_layMinors_12 (by decide) (fun h => absurd h (by decide)) (fun _ => ?_)
  refine lv_ldc hx hb hown k_3 dX5_layMinors_15 ?_
  refine lv_istore_n (lv' := [(2, .int (-1000001)), (0, .ref o), (1, .int 37)]) hx hb dX5_layMinors_17 rfl hl (by decide) rfl (fun ls hl => ?_)
  refine lv_iconst (v := 0) hx hb dX5_layMinors_18 (by decide) ?_
  refine lv_istore_n (lv' := [(3, .int 0), (2, .int (-1000001)), (0, .ref o), (1, .int 37)]) hx hb dX5_layMinors_19 rfl hl (by decide) rfl (fun ls hl => ?_)
  refine lv_iload_n hx hb dX5_layMinors_20 rfl (lv_at hl 0 rfl) ?_
  refine lv_bipush (v := 6) hx hb dX5_layMinors_21 (by decide) ?_
  refine lv_icmp_ge (tgt := 52) hx hb dX5_layMinors_23 (by decide) (fun h => absurd h (by decide)) (fun _ => ?_)
  refine lv_iload_n hx hb dX5_layMinors_26 rfl (lv_at hl 1 rfl) ?_
  refine lv_ldc hx hb hown k_3 dX5_layMinors_27 ?_
  refine lv_icmp_ne (tgt := 36) hx hb dX5_layMinors_29 (by decide) (fun h => absurd (by decide) h) (fun _ => ?_)
  refine lv_iconst (v := (-1)) hx hb dX5_layMinors_32 (by decide) ?_
  refine lv_goto (tgt := 37) hx hb dX5_layMinors_33 (by decide) ?_
  refine lv_istore_n (lv' := [(2, .int (-1)), (3, .int 0), (0, .ref o), (1, .int 37)]) hx hb dX5_layMinors_37 rfl hl (by decide) rfl (fun ls hl => ?_)
  refine lv_iload_n hx hb dX5_layMinors_38 rfl (lv_at hl 0 rfl) ?_
  refine lv_iload_n hx hb dX5_layMinors_39 rfl (lv_at hl 3 rfl) ?_
  refine lv_iload_n hx hb dX5_layMinors_40 rfl (lv_at hl 1 rfl) ?_
  refine lv_ishr hx hb dX5_layMinors_41 ?_
  refine lv_eqi (v := 37) (by decide) ?_
  refine lv_iconst (v := 1) hx hb dX5_layMinors_42 (by decide) ?_
  refine lv_iand hx hb dX5_layMinors_43 ?_
  refine lv_eqi (v := 1) (by decide) ?_
  refine lv_iadd hx hb dX5_layMinors_44 ?_
  refine lv_eqi (v := 0) (by decide) ?_
  refine lv_istore_n (lv' := [(2, .int 0), (3, .int 0), (0, .ref o), (1, .int 37)]) hx hb dX5_layMinors_45 rfl hl (by decide) rfl (fun ls hl => ?_)
  refine lv_iinc (v := 1) (lv' := [(3, .int 1), (2, .int 0), (0, .ref o), (1, .int 37)]) hx hb dX5_layMinors_46 hl (k := 1) rfl (by decide) (by decide) rfl (fun ls hl => ?_)
  refine lv_goto (tgt := 20) hx hb dX5_layMinors_49 (by decide) ?_
  refine lv_iload_n hx hb dX5_layMinors_20 rfl (lv_at hl 0 rfl) ?_
  refine lv_bipush (v := 6) hx hb dX5_layMinors_21 (by decide) ?_
  refine lv_icmp_ge (tgt := 52) hx hb dX5_layMinors_23 (by decide) (fun h => absurd h (by decide)) (fun _ => ?_)
  refine lv_iload_n hx hb dX5_layMinors_26 rfl (lv_at hl 1 rfl) ?_
  refine lv_ldc hx hb hown k_3 dX5_layMinors_27 ?_
  refine lv_icmp_ne (tgt := 36) hx hb dX5_layMinors_29 (by decide) (fun _ => ?_) (fun h => absurd h (by decide))
  refine lv_iload_n hx hb dX5_layMinors_36 rfl (lv_at hl 1 rfl) ?_
  refine lv_istore_n (lv' := [(2, .int 0), (3, .int 1), (0, .ref o), (1, .int 37)]) hx hb dX5_layMinors_37 rfl hl (by decide) rfl (fun ls hl => ?_)
  refine lv_iload_n hx hb dX5_layMinors_38 rfl (lv_at hl 0 rfl) ?_
  refine lv_iload_n hx hb dX5_layMinors_39 rfl (lv_at hl 3 rfl) ?_
  refine lv_iload_n hx hb dX5_layMinors_40 rfl (lv_at hl 1 rfl) ?_
  refine lv_ishr hx hb dX5_layMinors_41 ?_
  refine lv_eqi (v := 18) (by decide) ?_
  refine lv_iconst (v := 1) hx hb dX5_layMinors_42 (by decide) ?_
  refine lv_iand hx hb dX5_layMinors_43 ?_
  refine lv_eqi (v := 0) (by decide) ?_
  refine lv_iadd hx hb dX5_layMinors_44 ?_
  refine lv_eqi (v := 0) (by decide) ?_
  refine lv_istore_n (lv' := [(2, .int 0), (3, .int 1), (0, .ref o), (1, .int 37)]) hx hb dX5_layMinors_45 rfl hl (by decide) rfl (fun ls hl => ?_)
  refine lv_iinc (v := 2) (lv' := [(3, .int 2), (2, .int 0), (0, .ref o), (1, .int 37)]) hx hb dX5_layMinors_46 hl (k := 1) rfl (by decide) (by decide) rfl (fun ls hl => ?_)
  refine lv_goto (tgt := 20) hx hb dX5_layMinors_49 (by decide) ?_
  refine lv_iload_n hx hb dX5_layMinors_20 rfl (lv_at hl 0 rfl) ?_
  refine lv_bipush (v := 6) hx hb dX5_layMinors_21 (by decide) ?_
  refine lv_icmp_ge (tgt := 52) hx hb dX5_layMinors_23 (by decide) (fun h => absurd h (by decide)) (fun _ => ?_)
  refine lv_iload_n hx hb dX5_layMinors_26 rfl (lv_at hl 1 rfl) ?_
  refine lv_ldc hx hb hown k_3 dX5_layMinors_27 ?_
  refine lv_icmp_ne (tgt := 36) hx hb dX5_layMinors_29 (by decide) (fun _ => ?_) (fun h => absurd h (by decide))
  refine lv_iload_n hx hb dX5_layMinors_36 rfl (lv_at hl 1 rfl) ?_
  refine lv_istore_n (lv' := [(2, .int 0), (3, .int 2), (0, .ref o), (1, .int 37)]) hx hb dX5_layMinors_37 rfl hl (by decide) rfl (fun ls hl => ?_)
  refine lv_iload_n hx hb dX5_layMinors_38 rfl (lv_at hl 0 rfl) ?_
  refine lv_iload_n hx hb dX5_layMinors_39 rfl (lv_at hl 3 rfl) ?_
  refine lv_iload_n hx hb dX5_layMinors_40 rfl (lv_at hl 1 rfl) ?_
  refine lv_ishr hx hb dX5_layMinors_41 ?_
  refine lv_eqi (v := 9) (by decide) ?_
  refine lv_iconst (v := 1) hx hb dX5_layMinors_42 (by decide) ?_
  refine lv_iand hx hb dX5_layMinors_43 ?_
  refine lv_eqi (v := 1) (by decide) ?_
  refine lv_iadd hx hb dX5_layMinors_44 ?_
  refine lv_eqi (v := 1) (by decide) ?_
  refine lv_istore_n (lv' := [(2, .int 1), (3, .int 2), (0, .ref o), (1, .int 37)]) hx hb dX5_layMinors_45 rfl hl (by decide) rfl (fun ls hl => ?_)
  refine lv_iinc (v := 3) (lv' := [(3, .int 3), (2, .int 1), (0, .ref o), (1, .int 37)]) hx hb dX5_layMinors_46 hl (k := 1) rfl (by decide) (by decide) rfl (fun ls hl => ?_)
  refine lv_goto (tgt := 20) hx hb dX5_layMinors_49 (by decide) ?_
  refine lv_iload_n hx hb dX5_layMinors_20 rfl (lv_at hl 0 rfl) ?_
  refine lv_bipush (v := 6) hx hb dX5_layMinors_21 (by decide) ?_
  refine lv_icmp_ge (tgt := 52) hx hb dX5_layMinors_23 (by decide) (fun h => absurd h (by decide)) (fun _ => ?_)
  refine lv_iload_n hx hb dX5_layMinors_26 rfl (lv_at hl 1 rfl) ?_
  refine lv_ldc hx hb hown k_3 dX5_layMinors_27 ?_
  refine lv_icmp_ne (tgt := 36) hx hb dX5_layMinors_29 (by decide) (fun _ => ?_) (fun h => absurd h (by decide))
  refine lv_iload_n hx hb dX5_layMinors_36 rfl (lv_at hl 1 rfl) ?_
  refine lv_istore_n (lv' := [(2, .int 1), (3, .int 3), (0, .ref o), (1, .int 37)]) hx hb dX5_layMinors_37 rfl hl (by decide) rfl (fun ls hl => ?_)
  refine lv_iload_n hx hb dX5_layMinors_38 rfl (lv_at hl 0 rfl) ?_
  refine lv_iload_n hx hb dX5_layMinors_39 rfl (lv_at hl 3 rfl) ?_
  refine lv_iload_n hx hb dX5_layMinors_40 rfl (lv_at hl 1 rfl) ?_
  refine lv_ishr hx hb dX5_layMinors_41 ?_
  refine lv_eqi (v := 4) (by decide) ?_
  refine lv_iconst (v := 1) hx hb dX5_layMinors_42 (by decide) ?_
  refine lv_iand hx hb dX5_layMinors_43 ?_
  refine lv_eqi (v := 0) (by decide) ?_
  refine lv_iadd hx hb dX5_layMinors_44 ?_
  refine lv_eqi (v := 1) (by decide) ?_
  refine lv_istore_n (lv' := [(2, .int 1), (3, .int 3), (0, .ref o), (1, .int 37)]) hx hb dX5_layMinors_45 rfl hl (by decide) rfl (fun ls hl => ?_)
  refine lv_iinc (v := 4) (lv' := [(3, .int 4), (2, .int 1), (0, .ref o), (1, .int 37)]) hx hb dX5_layMinors_46 hl (k := 1) rfl (by decide) (by decide) rfl (fun ls hl => ?_)
  refine lv_goto (tgt := 20) hx hb dX5_layMinors_49 (by decide) ?_
  refine lv_iload_n hx hb dX5_layMinors_20 rfl (lv_at hl 0 rfl) ?_
  refine lv_bipush (v := 6) hx hb dX5_layMinors_21 (by decide) ?_
  refine lv_icmp_ge (tgt := 52) hx hb dX5_layMinors_23 (by decide) (fun h => absurd h (by decide)) (fun _ => ?_)
  refine lv_iload_n hx hb dX5_layMinors_26 rfl (lv_at hl 1 rfl) ?_
  refine lv_ldc hx hb hown k_3 dX5_layMinors_27 ?_
  refine lv_icmp_ne (tgt := 36) hx hb dX5_layMinors_29 (by decide) (fun _ => ?_) (fun h => absurd h (by decide))
  refine lv_iload_n hx hb dX5_layMinors_36 rfl (lv_at hl 1 rfl) ?_
  refine lv_istore_n (lv' := [(2, .int 1), (3, .int 4), (0, .ref o), (1, .int 37)]) hx hb dX5_layMinors_37 rfl hl (by decide) rfl (fun ls hl => ?_)
  refine lv_iload_n hx hb dX5_layMinors_38 rfl (lv_at hl 0 rfl) ?_
  refine lv_iload_n hx hb dX5_layMinors_39 rfl (lv_at hl 3 rfl) ?_
  refine lv_iload_n hx hb dX5_layMinors_40 rfl (lv_at hl 1 rfl) ?_
  refine lv_ishr hx hb dX5_layMinors_41 ?_
  refine lv_eqi (v := 2) (by decide) ?_
  refine lv_iconst (v := 1) hx hb dX5_layMinors_42 (by decide) ?_
  refine lv_iand hx hb dX5_layMinors_43 ?_
  refine lv_eqi (v := 0) (by decide) ?_
  refine lv_iadd hx hb dX5_layMinors_44 ?_
  refine lv_eqi (v := 1) (by decide) ?_
  refine lv_istore_n (lv' := [(2, .int 1), (3, .int 4), (0, .ref o), (1, .int 37)]) hx hb dX5_layMinors_45 rfl hl (by decide) rfl (fun ls hl => ?_)
  refine lv_iinc (v := 5) (lv' := [(3, .int 5), (2, .int 1), (0, .ref o), (1, .int 37)]) hx hb dX5_layMinors_46 hl (k := 1) rfl (by decide) (by decide) rfl (fun ls hl => ?_)
  refine lv_goto (tgt := 20) hx hb dX5_layMinors_49 (by decide) ?_
  refine lv_iload_n hx hb dX5_layMinors_20 rfl (lv_at hl 0 rfl) ?_
  refine lv_bipush (v := 6) hx hb dX5_layMinors_21 (by decide) ?_
  refine lv_icmp_ge (tgt := 52) hx hb dX5_layMinors_23 (by decide) (fun h => absurd h (by decide)) (fun _ => ?_)
  refine lv_iload_n hx hb dX5_layMinors_26 rfl (lv_at hl 1 rfl) ?_
  refine lv_ldc hx hb hown k_3 dX5_layMinors_27 ?_
  refine lv_icmp_ne (tgt := 36) hx hb dX5_layMinors_29 (by decide) (fun _ => ?_) (fun h => absurd h (by decide))
  refine lv_iload_n hx hb dX5_layMinors_36 rfl (lv_at hl 1 rfl) ?_
  refine lv_istore_n (lv' := [(2, .int 1), (3, .int 5), (0, .ref o), (1, .int 37)]) hx hb dX5_layMinors_37 rfl hl (by decide) rfl (fun ls hl => ?_)
  refine lv_iload_n hx hb dX5_layMinors_38 rfl (lv_at hl 0 rfl) ?_
  refine lv_iload_n hx hb dX5_layMinors_39 rfl (lv_at hl 3 rfl) ?_
  refine lv_iload_n hx hb dX5_layMinors_40 rfl (lv_at hl 1 rfl) ?_
  refine lv_ishr hx hb dX5_layMinors_41 ?_
  refine lv_eqi (v := 1) (by decide) ?_
  refine lv_iconst (v := 1) hx hb dX5_layMinors_42 (by decide) ?_
  refine lv_iand hx hb dX5_layMinors_43 ?_
  refine lv_eqi (v := 1) (by decide) ?_
  refine lv_iadd hx hb dX5_layMinors_44 ?_
  refine lv_eqi (v := 2) (by decide) ?_
  refine lv_istore_n (lv' := [(2, .int 2), (3, .int 5), (0, .ref o), (1, .int 37)]) hx hb dX5_layMinors_45 rfl hl (by decide) rfl (fun ls hl => ?_)
  refine lv_iinc (v := 6) (lv' := [(3, .int 6), (2, .int 2), (0, .ref o), (1, .int 37)]) hx hb dX5_layMinors_46 hl (k := 1) rfl (by decide) (by decide) rfl (fun ls hl => ?_)
  refine lv_goto (tgt := 20) hx hb dX5_layMinors_49 (by decide) ?_
  refine lv_iload_n hx hb dX5_layMinors_20 rfl (lv_at hl 0 rfl) ?_
  refine lv_bipush (v := 6) hx hb dX5_layMinors_21 (by decide) ?_
  refine lv_icmp_ge (tgt := 52) hx hb dX5_layMinors_23 (by decide) (fun _ => ?_) (fun h => absurd (by decide) h)
  refine lv_lconst (v := 0) hx hb dX5_layMinors_52 (by decide) ?_
  refine lv_lstore_n (lv' := [(3, .long 0), (2, .int 2), (0, .ref o), (1, .int 37)]) hx hb dX5_layMinors_53 rfl hl (by decide) rfl (fun ls hl => ?_)
  refine lv_iload_n hx hb dX5_layMinors_54 rfl (lv_at hl 1 rfl) ?_
  refine lv_istore (lv' := [(5, .int 2), (3, .long 0), (2, .int 2), (0, .ref o), (1, .int 37)]) hx hb dX5_layMinors_55 hl (by decide) rfl (fun ls hl => ?_)
  refine lv_iconst (v := 0) hx hb dX5_layMinors_57 (by decide) ?_
  refine lv_istore (lv' := [(6, .int 0), (5, .int 2), (3, .long 0), (2, .int 2), (0, .ref o), (1, .int 37)]) hx hb dX5_layMinors_58 hl (by decide) rfl (fun ls hl => ?_)
  refine lv_iload hx hb dX5_layMinors_60 (lv_at hl 0 rfl) ?_
  refine lv_bipush (v := 6) hx hb dX5_layMinors_62 (by decide) ?_
  refine lv_icmp_ge (tgt := 135) hx hb dX5_layMinors_64 (by decide) (fun h => absurd h (by decide)) (fun _ => ?_)
  refine lv_iload_n hx hb dX5_layMinors_67 rfl (lv_at hl 3 rfl) ?_
  refine lv_iconst (v := 5) hx hb dX5_layMinors_68 (by decide) ?_
  refine lv_icmp_ge (tgt := 135) hx hb dX5_layMinors_69 (by decide) (fun h => absurd h (by decide)) (fun _ => ?_)
  refine lv_iload_n hx hb dX5_layMinors_72 rfl (lv_at hl 5 rfl) ?_
  refine lv_iload hx hb dX5_layMinors_73 (lv_at hl 0 rfl) ?_
  refine lv_ishr hx hb dX5_layMinors_75 ?_
  refine lv_eqi (v := 37) (by decide) ?_
  refine lv_iconst (v := 1) hx hb dX5_layMinors_76 (by decide) ?_
  refine lv_iand hx hb dX5_layMinors_77 ?_
  refine lv_eqi (v := 1) (by decide) ?_
  refine lv_iconst (v := 1) hx hb dX5_layMinors_78 (by decide) ?_
  refine lv_icmp_ne (tgt := 129) hx hb dX5_layMinors_79 (by decide) (fun h => absurd (by decide) h) (fun _ => ?_)
  refine lv_aload_n hx hb dX5_layMinors_82 rfl (lv_at hl 4 rfl) ?_
  refine va_get (D := D) (ci := 5) (v := .ref mR) (C := RX5) (T := TX5) (N := 17) hx hb hts k_2 hown hK.1 hP 0 rfl rfl 5 (by decide) k_4 (fun _ h9 => h9) rfl dX5_layMinors_83 ?_
  refine lv_bipush (v := 6) hx hb dX5_layMinors_86 (by decide) ?_
  refine lv_iload_n hx hb dX5_layMinors_88 rfl (lv_at hl 3 rfl) ?_
  refine lv_imul hx hb dX5_layMinors_89 ?_
  refine lv_eqi (v := 12) (by decide) ?_
  refine lv_iload hx hb dX5_layMinors_90 (lv_at hl 0 rfl) ?_
  refine lv_iadd hx hb dX5_layMinors_92 ?_
  refine lv_eqi (v := 12) (by decide) ?_
  refine ld_l hx hb hK.1 hP 1 1 rfl rfl (ix_lit (by decide)) 12 (by decide) (v := fr 12) rfl dX5_layMinors_93 ?_
  refine lv_aload_n hx hb dX5_layMinors_94 rfl (lv_at hl 4 rfl) ?_
  refine va_get (D := D) (ci := 5) (v := .ref mD) (C := RX5) (T := TX5) (N := 17) hx hb hts k_2 hown hK.1 hP 0 rfl rfl 6 (by decide) k_1 (fun _ h9 => h9) rfl dX5_layMinors_95 ?_
  refine lv_iload_n hx hb dX5_layMinors_98 rfl (lv_at hl 5 rfl) ?_
  refine lv_iconst (v := 1) hx hb dX5_layMinors_99 (by decide) ?_
  refine lv_iload hx hb dX5_layMinors_100 (lv_at hl 0 rfl) ?_
  refine lv_ishl hx hb dX5_layMinors_102 ?_
  refine lv_eqi (v := 1) (by decide) ?_
  refine lv_isub hx hb dX5_layMinors_103 ?_
  refine lv_eqi (v := 36) (by decide) ?_
  refine ld_l hx hb hK.1 hP 2 1 rfl rfl (ix_lit (by decide)) 36 (by decide) (v := z5_mw36 fr) rfl dX5_layMinors_104 ?_
  refine lv_lmul hx hb dX5_layMinors_105 ?_
  refine lv_lstore (lv' := [(7, .long ((fr 12) * (z5_mw36 fr))), (6, .int 0), (5, .int 2), (3, .long 0), (2, .int 2), (0, .ref o), (1, .int 37)]) hx hb dX5_layMinors_106 hl (by decide) rfl (fun ls hl => ?_)
  refine lv_lload_n hx hb dX5_layMinors_108 rfl (lv_at hl 3 rfl) ?_
  refine lv_iload hx hb dX5_layMinors_109 (lv_at hl 2 rfl) ?_
  refine lv_iconst (v := 2) hx hb dX5_layMinors_111 (by decide) ?_
  refine lv_irem hx hb dX5_layMinors_112 (by decide) ?_
  refine lv_eqi (v := 0) (by decide) ?_
  refine lv_if_ne (tgt := 121) hx hb dX5_layMinors_113 (by decide) (fun h => absurd (by decide) h) (fun _ => ?_)
  refine lv_lload hx hb dX5_layMinors_116 (lv_at hl 0 rfl) ?_
  refine lv_goto (tgt := 124) hx hb dX5_layMinors_118 (by decide) ?_
  refine lv_ladd hx hb dX5_layMinors_124 ?_
  refine lv_lstore_n (lv' := [(3, .long (0 + ((fr 12) * (z5_mw36 fr)))), (7, .long ((fr 12) * (z5_mw36 fr))), (6, .int 0), (5, .int 2), (2, .int 2), (0, .ref o), (1, .int 37)]) hx hb dX5_layMinors_125 rfl hl (by decide) rfl (fun ls hl => ?_)
  refine lv_iinc (v := 1) (lv' := [(5, .int 1), (3, .long (0 + ((fr 12) * (z5_mw36 fr)))), (7, .long ((fr 12) * (z5_mw36 fr))), (6, .int 0), (2, .int 2), (0, .ref o), (1, .int 37)]) hx hb dX5_layMinors_126 hl (k := 3) rfl (by decide) (by decide) rfl (fun ls hl => ?_)
  refine lv_iinc (v := 1) (lv' := [(6, .int 1), (5, .int 1), (3, .long (0 + ((fr 12) * (z5_mw36 fr)))), (7, .long ((fr 12) * (z5_mw36 fr))), (2, .int 2), (0, .ref o), (1, .int 37)]) hx hb dX5_layMinors_129 hl (k := 3) rfl (by decide) (by decide) rfl (fun ls hl => ?_)
  refine lv_goto (tgt := 60) hx hb dX5_layMinors_132 (by decide) ?_
  refine lv_iload hx hb dX5_layMinors_60 (lv_at hl 0 rfl) ?_
  refine lv_bipush (v := 6) hx hb dX5_layMinors_62 (by decide) ?_
  refine lv_icmp_ge (tgt := 135) hx hb dX5_layMinors_64 (by decide) (fun h => absurd h (by decide)) (fun _ => ?_)
  refine lv_iload_n hx hb dX5_layMinors_67 rfl (lv_at hl 4 rfl) ?_
  refine lv_iconst (v := 5) hx hb dX5_layMinors_68 (by decide) ?_
  refine lv_icmp_ge (tgt := 135) hx hb dX5_layMinors_69 (by decide) (fun h => absurd h (by decide)) (fun _ => ?_)
  refine lv_iload_n hx hb dX5_layMinors_72 rfl (lv_at hl 6 rfl) ?_
  refine lv_iload hx hb dX5_layMinors_73 (lv_at hl 0 rfl) ?_
  refine lv_ishr hx hb dX5_layMinors_75 ?_
  refine lv_eqi (v := 18) (by decide) ?_
  refine lv_iconst (v := 1) hx hb dX5_layMinors_76 (by decide) ?_
  refine lv_iand hx hb dX5_layMinors_77 ?_
  refine lv_eqi (v := 0) (by decide) ?_
  refine lv_iconst (v := 1) hx hb dX5_layMinors_78 (by decide) ?_
  refine lv_icmp_ne (tgt := 129) hx hb dX5_layMinors_79 (by decide) (fun _ => ?_) (fun h => absurd h (by decide))
  refine lv_iinc (v := 2) (lv' := [(6, .int 2), (5, .int 1), (3, .long (0 + ((fr 12) * (z5_mw36 fr)))), (7, .long ((fr 12) * (z5_mw36 fr))), (2, .int 2), (0, .ref o), (1, .int 37)]) hx hb dX5_layMinors_129 hl (k := 0) rfl (by decide) (by decide) rfl (fun ls hl => ?_)
  refine lv_goto (tgt := 60) hx hb dX5_layMinors_132 (by decide) ?_
  refine lv_iload hx hb dX5_layMinors_60 (lv_at hl 0 rfl) ?_
  refine lv_bipush (v := 6) hx hb dX5_layMinors_62 (by decide) ?_
  refine lv_icmp_ge (tgt := 135) hx hb dX5_layMinors_64 (by decide) (fun h => absurd h (by decide)) (fun _ => ?_)
  refine lv_iload_n hx hb dX5_layMinors_67 rfl (lv_at hl 4 rfl) ?_
  refine lv_iconst (v := 5) hx hb dX5_layMinors_68 (by decide) ?_
  refine lv_icmp_ge (tgt := 135) hx hb dX5_layMinors_69 (by decide) (fun h => absurd h (by decide)) (fun _ => ?_)
  refine lv_iload_n hx hb dX5_layMinors_72 rfl (lv_at hl 6 rfl) ?_
  refine lv_iload hx hb dX5_layMinors_73 (lv_at hl 0 rfl) ?_
  refine lv_ishr hx hb dX5_layMinors_75 ?_
  refine lv_eqi (v := 9) (by decide) ?_
  refine lv_iconst (v := 1) hx hb dX5_layMinors_76 (by decide) ?_
  refine lv_iand hx hb dX5_layMinors_77 ?_
  refine lv_eqi (v := 1) (by decide) ?_
  refine lv_iconst (v := 1) hx hb dX5_layMinors_78 (by decide) ?_
  refine lv_icmp_ne (tgt := 129) hx hb dX5_layMinors_79 (by decide) (fun h => absurd (by decide) h) (fun _ => ?_)
  refine lv_aload_n hx hb dX5_layMinors_82 rfl (lv_at hl 5 rfl) ?_
  refine va_get (D := D) (ci := 5) (v := .ref mR) (C := RX5) (T := TX5) (N := 17) hx hb hts k_2 hown hK.1 hP 0 rfl rfl 5 (by decide) k_4 (fun _ h9 => h9) rfl dX5_layMinors_83 ?_
  refine lv_bipush (v := 6) hx hb dX5_layMinors_86 (by decide) ?_
  refine lv_iload_n hx hb dX5_layMinors_88 rfl (lv_at hl 4 rfl) ?_
  refine lv_imul hx hb dX5_layMinors_89 ?_
  refine lv_eqi (v := 12) (by decide) ?_
  refine lv_iload hx hb dX5_layMinors_90 (lv_at hl 0 rfl) ?_
  refine lv_iadd hx hb dX5_layMinors_92 ?_
  refine lv_eqi (v := 14) (by decide) ?_
  refine ld_l hx hb hK.1 hP 1 1 rfl rfl (ix_lit (by decide)) 14 (by decide) (v := fr 14) rfl dX5_layMinors_93 ?_
  refine lv_aload_n hx hb dX5_layMinors_94 rfl (lv_at hl 5 rfl) ?_
  refine va_get (D := D) (ci := 5) (v := .ref mD) (C := RX5) (T := TX5) (N := 17) hx hb hts k_2 hown hK.1 hP 0 rfl rfl 6 (by decide) k_1 (fun _ h9 => h9) rfl dX5_layMinors_95 ?_
  refine lv_iload_n hx hb dX5_layMinors_98 rfl (lv_at hl 6 rfl) ?_
  refine lv_iconst (v := 1) hx hb dX5_layMinors_99 (by decide) ?_
  refine lv_iload hx hb dX5_layMinors_100 (lv_at hl 0 rfl) ?_
  refine lv_ishl hx hb dX5_layMinors_102 ?_
  refine lv_eqi (v := 4) (by decide) ?_
  refine lv_isub hx hb dX5_layMinors_103 ?_
  refine lv_eqi (v := 33) (by decide) ?_
  refine ld_l hx hb hK.1 hP 2 1 rfl rfl (ix_lit (by decide)) 33 (by decide) (v := z5_mw33 fr) rfl dX5_layMinors_104 ?_
  refine lv_lmul hx hb dX5_layMinors_105 ?_
  refine lv_lstore (lv' := [(7, .long ((fr 14) * (z5_mw33 fr))), (6, .int 2), (5, .int 1), (3, .long (0 + ((fr 12) * (z5_mw36 fr)))), (2, .int 2), (0, .ref o), (1, .int 37)]) hx hb dX5_layMinors_106 hl (by decide) rfl (fun ls hl => ?_)
  refine lv_lload_n hx hb dX5_layMinors_108 rfl (lv_at hl 3 rfl) ?_
  refine lv_iload hx hb dX5_layMinors_109 (lv_at hl 2 rfl) ?_
  refine lv_iconst (v := 2) hx hb dX5_layMinors_111 (by decide) ?_
  refine lv_irem hx hb dX5_layMinors_112 (by decide) ?_
  refine lv_eqi (v := 1) (by decide) ?_
  refine lv_if_ne (tgt := 121) hx hb dX5_layMinors_113 (by decide) (fun _ => ?_) (fun h => absurd h (by decide))
  refine lv_lload hx hb dX5_layMinors_121 (lv_at hl 0 rfl) ?_
  refine lv_lneg hx hb dX5_layMinors_123 ?_
  refine lv_ladd hx hb dX5_layMinors_124 ?_
  refine lv_lstore_n (lv' := [(3, .long ((0 + ((fr 12) * (z5_mw36 fr))) + (-((fr 14) * (z5_mw33 fr))))), (7, .long ((fr 14) * (z5_mw33 fr))), (6, .int 2), (5, .int 1), (2, .int 2), (0, .ref o), (1, .int 37)]) hx hb dX5_layMinors_125 rfl hl (by decide) rfl (fun ls hl => ?_)
  refine lv_iinc (v := 0) (lv' := [(5, .int 0), (3, .long ((0 + ((fr 12) * (z5_mw36 fr))) + (-((fr 14) * (z5_mw33 fr))))), (7, .long ((fr 14) * (z5_mw33 fr))), (6, .int 2), (2, .int 2), (0, .ref o), (1, .int 37)]) hx hb dX5_layMinors_126 hl (k := 3) rfl (by decide) (by decide) rfl (fun ls hl => ?_)
  refine lv_iinc (v := 3) (lv' := [(6, .int 3), (5, .int 0), (3, .long ((0 + ((fr 12) * (z5_mw36 fr))) + (-((fr 14) * (z5_mw33 fr))))), (7, .long ((fr 14) * (z5_mw33 fr))), (2, .int 2), (0, .ref o), (1, .int 37)]) hx hb dX5_layMinors_129 hl (k := 3) rfl (by decide) (by decide) rfl (fun ls hl => ?_)
  refine lv_goto (tgt := 60) hx hb dX5_layMinors_132 (by decide) ?_
  refine lv_iload hx hb dX5_layMinors_60 (lv_at hl 0 rfl) ?_
  refine lv_bipush (v := 6) hx hb dX5_layMinors_62 (by decide) ?_
  refine lv_icmp_ge (tgt := 135) hx hb dX5_layMinors_64 (by decide) (fun h => absurd h (by decide)) (fun _ => ?_)
  refine lv_iload_n hx hb dX5_layMinors_67 rfl (lv_at hl 4 rfl) ?_
  refine lv_iconst (v := 5) hx hb dX5_layMinors_68 (by decide) ?_
  refine lv_icmp_ge (tgt := 135) hx hb dX5_layMinors_69 (by decide) (fun h => absurd h (by decide)) (fun _ => ?_)
  refine lv_iload_n hx hb dX5_layMinors_72 rfl (lv_at hl 6 rfl) ?_
  refine lv_iload hx hb dX5_layMinors_73 (lv_at hl 0 rfl) ?_
  refine lv_ishr hx hb dX5_layMinors_75 ?_
  refine lv_eqi (v := 4) (by decide) ?_
  refine lv_iconst (v := 1) hx hb dX5_layMinors_76 (by decide) ?_
  refine lv_iand hx hb dX5_layMinors_77 ?_
  refine lv_eqi (v := 0) (by decide) ?_
  refine lv_iconst (v := 1) hx hb dX5_layMinors_78 (by decide) ?_
  refine lv_icmp_ne (tgt := 129) hx hb dX5_layMinors_79 (by decide) (fun _ => ?_) (fun h => absurd h (by decide))
  refine lv_iinc (v := 4) (lv' := [(6, .int 4), (5, .int 0), (3, .long ((0 + ((fr 12) * (z5_mw36 fr))) + (-((fr 14) * (z5_mw33 fr))))), (7, .long ((fr 14) * (z5_mw33 fr))), (2, .int 2), (0, .ref o), (1, .int 37)]) hx hb dX5_layMinors_129 hl (k := 0) rfl (by decide) (by decide) rfl (fun ls hl => ?_)
  refine lv_goto (tgt := 60) hx hb dX5_layMinors_132 (by decide) ?_
  refine lv_iload hx hb dX5_layMinors_60 (lv_at hl 0 rfl) ?_
  refine lv_bipush (v := 6) hx hb dX5_layMinors_62 (by decide) ?_
  refine lv_icmp_ge (tgt := 135) hx hb dX5_layMinors_64 (by decide) (fun h => absurd h (by decide)) (fun _ => ?_)
  refine lv_iload_n hx hb dX5_layMinors_67 rfl (lv_at hl 4 rfl) ?_
  refine lv_iconst (v := 5) hx hb dX5_layMinors_68 (by decide) ?_
  refine lv_icmp_ge (tgt := 135) hx hb dX5_layMinors_69 (by decide) (fun h => absurd h (by decide)) (fun _ => ?_)
  refine lv_iload_n hx hb dX5_layMinors_72 rfl (lv_at hl 6 rfl) ?_
  refine lv_iload hx hb dX5_layMinors_73 (lv_at hl 0 rfl) ?_
  refine lv_ishr hx hb dX5_layMinors_75 ?_
  refine lv_eqi (v := 2) (by decide) ?_
  refine lv_iconst (v := 1) hx hb dX5_layMinors_76 (by decide) ?_
  refine lv_iand hx hb dX5_layMinors_77 ?_
  refine lv_eqi (v := 0) (by decide) ?_
  refine lv_iconst (v := 1) hx hb dX5_layMinors_78 (by decide) ?_
  refine lv_icmp_ne (tgt := 129) hx hb dX5_layMinors_79 (by decide) (fun _ => ?_) (fun h => absurd h (by decide))
  refine lv_iinc (v := 5) (lv' := [(6, .int 5), (5, .int 0), (3, .long ((0 + ((fr 12) * (z5_mw36 fr))) + (-((fr 14) * (z5_mw33 fr))))), (7, .long ((fr 14) * (z5_mw33 fr))), (2, .int 2), (0, .ref o), (1, .int 37)]) hx hb dX5_layMinors_129 hl (k := 0) rfl (by decide) (by decide) rfl (fun ls hl => ?_)
  refine lv_goto (tgt := 60) hx hb dX5_layMinors_132 (by decide) ?_
  refine lv_iload hx hb dX5_layMinors_60 (lv_at hl 0 rfl) ?_
  refine lv_bipush (v := 6) hx hb dX5_layMinors_62 (by decide) ?_
  refine lv_icmp_ge (tgt := 135) hx hb dX5_layMinors_64 (by decide) (fun h => absurd h (by decide)) (fun _ => ?_)
  refine lv_iload_n hx hb dX5_layMinors_67 rfl (lv_at hl 4 rfl) ?_
  refine lv_iconst (v := 5) hx hb dX5_layMinors_68 (by decide) ?_
  refine lv_icmp_ge (tgt := 135) hx hb dX5_layMinors_69 (by decide) (fun h => absurd h (by decide)) (fun _ => ?_)
  refine lv_iload_n hx hb dX5_layMinors_72 rfl (lv_at hl 6 rfl) ?_
  refine lv_iload hx hb dX5_layMinors_73 (lv_at hl 0 rfl) ?_
  refine lv_ishr hx hb dX5_layMinors_75 ?_
  refine lv_eqi (v := 1) (by decide) ?_
  refine lv_iconst (v := 1) hx hb dX5_layMinors_76 (by decide) ?_
  refine lv_iand hx hb dX5_layMinors_77 ?_
  refine lv_eqi (v := 1) (by decide) ?_
  refine lv_iconst (v := 1) hx hb dX5_layMinors_78 (by decide) ?_
  refine lv_icmp_ne (tgt := 129) hx hb dX5_layMinors_79 (by decide) (fun h => absurd (by decide) h) (fun _ => ?_)
  refine lv_aload_n hx hb dX5_layMinors_82 rfl (lv_at hl 5 rfl) ?_
  refine va_get (D := D) (ci := 5) (v := .ref mR) (C := RX5) (T := TX5) (N := 17) hx hb hts k_2 hown hK.1 hP 0 rfl rfl 5 (by decide) k_4 (fun _ h9 => h9) rfl dX5_layMinors_83 ?_
  refine lv_bipush (v := 6) hx hb dX5_layMinors_86 (by decide) ?_
  refine lv_iload_n hx hb dX5_layMinors_88 rfl (lv_at hl 4 rfl) ?_
  refine lv_imul hx hb dX5_layMinors_89 ?_
  refine lv_eqi (v := 12) (by decide) ?_
  refine lv_iload hx hb dX5_layMinors_90 (lv_at hl 0 rfl) ?_
  refine lv_iadd hx hb dX5_layMinors_92 ?_
  refine lv_eqi (v := 17) (by decide) ?_
  refine ld_l hx hb hK.1 hP 1 1 rfl rfl (ix_lit (by decide)) 17 (by decide) (v := fr 17) rfl dX5_layMinors_93 ?_
  refine lv_aload_n hx hb dX5_layMinors_94 rfl (lv_at hl 5 rfl) ?_
  refine va_get (D := D) (ci := 5) (v := .ref mD) (C := RX5) (T := TX5) (N := 17) hx hb hts k_2 hown hK.1 hP 0 rfl rfl 6 (by decide) k_1 (fun _ h9 => h9) rfl dX5_layMinors_95 ?_
  refine lv_iload_n hx hb dX5_layMinors_98 rfl (lv_at hl 6 rfl) ?_
  refine lv_iconst (v := 1) hx hb dX5_layMinors_99 (by decide) ?_
  refine lv_iload hx hb dX5_layMinors_100 (lv_at hl 0 rfl) ?_
  refine lv_ishl hx hb dX5_layMinors_102 ?_
  refine lv_eqi (v := 32) (by decide) ?_
  refine lv_isub hx hb dX5_layMinors_103 ?_
  refine lv_eqi (v := 5) (by decide) ?_
  refine ld_l hx hb hK.1 hP 2 1 rfl rfl (ix_lit (by decide)) 5 (by decide) (v := z5_mw5 fr) rfl dX5_layMinors_104 ?_
  refine lv_lmul hx hb dX5_layMinors_105 ?_
  refine lv_lstore (lv' := [(7, .long ((fr 17) * (z5_mw5 fr))), (6, .int 5), (5, .int 0), (3, .long ((0 + ((fr 12) * (z5_mw36 fr))) + (-((fr 14) * (z5_mw33 fr))))), (2, .int 2), (0, .ref o), (1, .int 37)]) hx hb dX5_layMinors_106 hl (by decide) rfl (fun ls hl => ?_)
  refine lv_lload_n hx hb dX5_layMinors_108 rfl (lv_at hl 3 rfl) ?_
  refine lv_iload hx hb dX5_layMinors_109 (lv_at hl 2 rfl) ?_
  refine lv_iconst (v := 2) hx hb dX5_layMinors_111 (by decide) ?_
  refine lv_irem hx hb dX5_layMinors_112 (by decide) ?_
  refine lv_eqi (v := 0) (by decide) ?_
  refine lv_if_ne (tgt := 121) hx hb dX5_layMinors_113 (by decide) (fun h => absurd (by decide) h) (fun _ => ?_)
  refine lv_lload hx hb dX5_layMinors_116 (lv_at hl 0 rfl) ?_
  refine lv_goto (tgt := 124) hx hb dX5_layMinors_118 (by decide) ?_
  refine lv_ladd hx hb dX5_layMinors_124 ?_
  refine lv_lstore_n (lv' := [(3, .long (((0 + ((fr 12) * (z5_mw36 fr))) + (-((fr 14) * (z5_mw33 fr)))) + ((fr 17) * (z5_mw5 fr)))), (7, .long ((fr 17) * (z5_mw5 fr))), (6, .int 5), (5, .int 0), (2, .int 2), (0, .ref o), (1, .int 37)]) hx hb dX5_layMinors_125 rfl hl (by decide) rfl (fun ls hl => ?_)
  refine lv_iinc (v := (-1)) (lv' := [(5, .int (-1)), (3, .long (((0 + ((fr 12) * (z5_mw36 fr))) + (-((fr 14) * (z5_mw33 fr)))) + ((fr 17) * (z5_mw5 fr)))), (7, .long ((fr 17) * (z5_mw5 fr))), (6, .int 5), (2, .int 2), (0, .ref o), (1, .int 37)]) hx hb dX5_layMinors_126 hl (k := 3) rfl (by decide) (by decide) rfl (fun ls hl => ?_)
  refine lv_iinc (v := 6) (lv' := [(6, .int 6), (5, .int (-1)), (3, .long (((0 + ((fr 12) * (z5_mw36 fr))) + (-((fr 14) * (z5_mw33 fr)))) + ((fr 17) * (z5_mw5 fr)))), (7, .long ((fr 17) * (z5_mw5 fr))), (2, .int 2), (0, .ref o), (1, .int 37)]) hx hb dX5_layMinors_129 hl (k := 3) rfl (by decide) (by decide) rfl (fun ls hl => ?_)
  refine lv_goto (tgt := 60) hx hb dX5_layMinors_132 (by decide) ?_
  refine lv_iload hx hb dX5_layMinors_60 (lv_at hl 0 rfl) ?_
  refine lv_bipush (v := 6) hx hb dX5_layMinors_62 (by decide) ?_
  refine lv_icmp_ge (tgt := 135) hx hb dX5_layMinors_64 (by decide) (fun _ => ?_) (fun h => absurd (by decide) h)
  refine lv_aload_n hx hb dX5_layMinors_135 rfl (lv_at hl 5 rfl) ?_
  refine va_get (D := D) (ci := 5) (v := .ref mD) (C := RX5) (T := TX5) (N := 17) hx hb hts k_2 hown hK.1 hP 0 rfl rfl 6 (by decide) k_1 (fun _ h9 => h9) rfl dX5_layMinors_136 ?_
  refine lv_iload_n hx hb dX5_layMinors_139 rfl (lv_at hl 6 rfl) ?_
  refine lv_lload_n hx hb dX5_layMinors_140 rfl (lv_at hl 2 rfl) ?_
  refine st_l hx hb hK.1 hP hD hS 2 1 rfl rfl (ix_lit (by decide)) 37 (by decide) dX5_layMinors_141 (fun H locs hP hD hS => ?_)
  have hP : va_P D vwCl [kM o mP mL mC mN mF mR mD mV mX mA mK cm mT pm mU mH mI, kJ mR cJ 30 fr, kJ mD cJ 64 (vp_updL (z5_mm37 fr fd) 37 (((0 + ((fr 12) * (z5_mw36 fr))) + (-((fr 14) * (z5_mw33 fr)))) + ((fr 17) * (z5_mw5 fr))))] H := hP
  have hD : va_D A [kM o mP mL mC mN mF mR mD mV mX mA mK cm mT pm mU mH mI, kJ mR cJ 30 fr, kJ mD cJ 64 (vp_updL (z5_mm37 fr fd) 37 (((0 + ((fr 12) * (z5_mw36 fr))) + (-((fr 14) * (z5_mw33 fr)))) + ((fr 17) * (z5_mw5 fr))))] := hD
  have hP : va_P D vwCl [kM o mP mL mC mN mF mR mD mV mX mA mK cm mT pm mU mH mI, kJ mR cJ 30 fr, kJ mD cJ 64 (z5_mm38 fr fd)] H := hP
  have hD : va_D A [kM o mP mL mC mN mF mR mD mV mX mA mK cm mT pm mU mH mI, kJ mR cJ 30 fr, kJ mD cJ 64 (z5_mm38 fr fd)] := hD
  refine lv_iinc (v := 38) (lv' := [(1, .int 38), (6, .int 6), (5, .int (-1)), (3, .long (((0 + ((fr 12) * (z5_mw36 fr))) + (-((fr 14) * (z5_mw33 fr)))) + ((fr 17) * (z5_mw5 fr)))), (7, .long ((fr 17) * (z5_mw5 fr))), (2, .int 2), (0, .ref o)]) hx hb dX5_layMinors_142 hl (k := 6) rfl (by decide) (by decide) rfl (fun ls hl => ?_)
  refine lv_goto (tgt := 9) hx hb dX5_layMinors_145 (by decide) ?_
  exact sg_X5_layMinors_38 hx hb hr hml hown hts hlk hK hA hP hD hS ls (lv_sub hl [6, 0] rfl)
set_option maxHeartbeats 4000000 in
set_option maxRecDepth 100000 in
theorem sg_X5_layMinors_36 {l : Launch} {D : va_G} {cI cJ : ClassId} {pG : Program} {eG : Env} {sG : State} {mG : MethodId} {below : List Frame} {meth : Method} {cG : Code} {A : Nat → Prop} {H : Heap} {locs : List Loc} {o : Nat} {mP : Nat} {mL : Nat} {mC : Nat} {mN : Nat} {mF : Nat} {mR : Nat} {mD : Nat} {mV : Nat} {mX : Nat} {mA : Nat} {mK : Nat} {mT : Nat} {mU : Nat} {mH : Nat} {mI : Nat} {cm : Int32} {pm : Int32} {fr : Nat → Int64} {fd : Nat → Int64} (hx : pG.tables.exec = Jvm.exec) (hb : cG.code = cX5_layMinors) (hr : meth.sig.returnType = none) (hml : cG.maxLocals = 9) (hown : sG.vm.findClass RX5 = some mG.cls) (hts : ∀ x ∈ wsX5_layMinors, x.before ([.ref o] : List Value).toArray sG = true) (hlk : meth.locks = false) (hK : gd_K D cI cJ sG) (hA : ∀ q : Nat, sG.heap.size ≤ q → A q) (hP : va_P D vwCl [kM o mP mL mC mN mF mR mD mV mX mA mK cm mT pm mU mH mI, kJ mR cJ 30 fr, kJ mD cJ 64 (z5_mm36 fr fd)] H) (hD : va_D A [kM o mP mL mC mN mF mR mD mV mX mA mK cm mT pm mU mH mI, kJ mR cJ 30 fr, kJ mD cJ 64 (z5_mm36 fr fd)]) (hS : va_S A sG.heap H locs) (ls : Array Slot) (hl : lv_has ls 9 [(0, .ref o), (1, .int 36)]) : W pG l eG (headSpec wsX5_layMinors ({ frames := 0, cells := 0, slots := 0, locals := 0 })).room sG mG ([.ref o] : List Value).toArray below meth cG H locs 0 0 (MQ below ((qe_v (fun _ : Unit => True) (fun uu => [kM o mP mL mC mN mF mR mD mV mX mA mK cm mT pm mU mH mI, kJ mR cJ 30 fr, kJ mD cJ 64 (z5_layMinors_f2 fr fd)])) D A) ([.ref o] : List Value).toArray sG 0 0 A) (F0 mG 9 ls []) := by
  have k_1 := hts (.fieldLink RX5 29 "ConicRowsModel" "minors" "[J") (by decide +kernel)
  have k_2 : ∀ w ∈ wsX50, w ∈ wsX5_layMinors := by decide +kernel
  have k_3 := hts (.constant RX5 122 (-1000001)) (by decide +kernel)
  have k_4 := hts (.fieldLink RX5 26 "ConicRowsModel" "rows" "[J") (by decide +kernel)
  refine lv_iload_n hx hb dX5_layMinors_9 rfl (lv_at hl 1 rfl) ?_
  refine lv_bipush (v := 64) hx hb dX5_layMinors_10 (by decide) ?_
  refine lv_icmp_ge (tgt := 148) hx hb dX5_layMinors_12 (by decide) (fun h => absurd h (by decide)) (fun _ => ?_)
  refine lv_ldc hx hb hown k_3 dX5_layMinors_15 ?_
  refine lv_istore_n (lv' := [(2, .int (-1000001)), (0, .ref o), (1, .int 36)]) hx hb dX5_layMinors_17 rfl hl (by decide) rfl (fun ls hl => ?_)
  refine lv_iconst (v := 0) hx hb dX5_layMinors_18 (by decide) ?_
  refine lv_istore_n (lv' := [(3, .int 0), (2, .int (-1000001)), (0, .ref o), (1, .int 36)]) hx hb dX5_layMinors_19 rfl hl (by decide) rfl (fun ls hl => ?_)
  refine lv_iload_n hx hb dX5_layMinors_20 rfl (lv_at hl 0 rfl) ?_
  refine lv_bipush (v := 6) hx hb dX5_layMinors_21 (by decide) ?_
  refine lv_icmp_ge (tgt := 52) hx hb dX5_layMinors_23 (by decide) (fun h => absurd h (by decide)) (fun _ => ?_)
  refine lv_iload_n hx hb dX5_layMinors_26 rfl (lv_at hl 1 rfl) ?_
  refine lv_ldc hx hb hown k_3 dX5_layMinors_27 ?_
  refine lv_icmp_ne (tgt := 36) hx hb dX5_layMinors_29 (by decide) (fun h => absurd (by decide) h) (fun _ => ?_)
  refine lv_iconst (v := (-1)) hx hb dX5_layMinors_32 (by decide) ?_
  refine lv_goto (tgt := 37) hx hb dX5_layMinors_33 (by decide) ?_
  refine lv_istore_n (lv' := [(2, .int (-1)), (3, .int 0), (0, .ref o), (1, .int 36)]) hx hb dX5_layMinors_37 rfl hl (by decide) rfl (fun ls hl => ?_)
  refine lv_iload_n hx hb dX5_layMinors_38 rfl (lv_at hl 0 rfl) ?_
  refine lv_iload_n hx hb dX5_layMinors_39 rfl (lv_at hl 3 rfl) ?_
  refine lv_iload_n hx hb dX5_layMinors_40 rfl (lv_at hl 1 rfl) ?_
  refine lv_ishr hx hb dX5_layMinors_41 ?_
  refine lv_eqi (v := 36) (by decide) ?_
  refine lv_iconst (v := 1) hx hb dX5_layMinors_42 (by decide) ?_
  refine lv_iand hx hb dX5_layMinors_43 ?_
  refine lv_eqi (v := 0) (by decide) ?_
  refine lv_iadd hx hb dX5_layMinors_44 ?_
  refine lv_eqi (v := (-1)) (by decide) ?_
  refine lv_istore_n (lv' := [(2, .int (-1)), (3, .int 0), (0, .ref o), (1, .int 36)]) hx hb dX5_layMinors_45 rfl hl (by decide) rfl (fun ls hl => ?_)
  refine lv_iinc (v := 1) (lv' := [(3, .int 1), (2, .int (-1)), (0, .ref o), (1, .int 36)]) hx hb dX5_layMinors_46 hl (k := 1) rfl (by decide) (by decide) rfl (fun ls hl => ?_)
  refine lv_goto (tgt := 20) hx hb dX5_layMinors_49 (by decide) ?_
  refine lv_iload_n hx hb dX5_layMinors_20 rfl (lv_at hl 0 rfl) ?_
  refine lv_bipush (v := 6) hx hb dX5_layMinors_21 (by decide) ?_
  refine lv_icmp_ge (tgt := 52) hx hb dX5_layMinors_23 (by decide) (fun h => absurd h (by decide)) (fun _ => ?_)
  refine lv_iload_n hx hb dX5_layMinors_26 rfl (lv_at hl 1 rfl) ?_
  refine lv_ldc hx hb hown k_3 dX5_layMinors_27 ?_
  refine lv_icmp_ne (tgt := 36) hx hb dX5_layMinors_29 (by decide) (fun _ => ?_) (fun h => absurd h (by decide))
  refine lv_iload_n hx hb dX5_layMinors_36 rfl (lv_at hl 1 rfl) ?_
  refine lv_istore_n (lv' := [(2, .int (-1)), (3, .int 1), (0, .ref o), (1, .int 36)]) hx hb dX5_layMinors_37 rfl hl (by decide) rfl (fun ls hl => ?_)
  refine lv_iload_n hx hb dX5_layMinors_38 rfl (lv_at hl 0 rfl) ?_
  refine lv_iload_n hx hb dX5_layMinors_39 rfl (lv_at hl 3 rfl) ?_
  refine lv_iload_n hx hb dX5_layMinors_40 rfl (lv_at hl 1 rfl) ?_
  refine lv_ishr hx hb dX5_layMinors_41 ?_
  refine lv_eqi (v := 18) (by decide) ?_
  refine lv_iconst (v := 1) hx hb dX5_layMinors_42 (by decide) ?_
  refine lv_iand hx hb dX5_layMinors_43 ?_
  refine lv_eqi (v := 0) (by decide) ?_
  refine lv_iadd hx hb dX5_layMinors_44 ?_
  refine lv_eqi (v := (-1)) (by decide) ?_
  refine lv_istore_n (lv' := [(2, .int (-1)), (3, .int 1), (0, .ref o), (1, .int 36)]) hx hb dX5_layMinors_45 rfl hl (by decide) rfl (fun ls hl => ?_)
  refine lv_iinc (v := 2) (lv' := [(3, .int 2), (2, .int (-1)), (0, .ref o), (1, .int 36)]) hx hb dX5_layMinors_46 hl (k := 1) rfl (by decide) (by decide) rfl (fun ls hl => ?_)
  refine lv_goto (tgt := 20) hx hb dX5_layMinors_49 (by decide) ?_
  refine lv_iload_n hx hb dX5_layMinors_20 rfl (lv_at hl 0 rfl) ?_
  refine lv_bipush (v := 6) hx hb dX5_layMinors_21 (by decide) ?_
  refine lv_icmp_ge (tgt := 52) hx hb dX5_layMinors_23 (by decide) (fun h => absurd h (by decide)) (fun _ => ?_)
  refine lv_iload_n hx hb dX5_layMinors_26 rfl (lv_at hl 1 rfl) ?_
  refine lv_ldc hx hb hown k_3 dX5_layMinors_27 ?_
  refine lv_icmp_ne (tgt := 36) hx hb dX5_layMinors_29 (by decide) (fun _ => ?_) (fun h => absurd h (by decide))
  refine lv_iload_n hx hb dX5_layMinors_36 rfl (lv_at hl 1 rfl) ?_
  refine lv_istore_n (lv' := [(2, .int (-1)), (3, .int 2), (0, .ref o), (1, .int 36)]) hx hb dX5_layMinors_37 rfl hl (by decide) rfl (fun ls hl => ?_)
  refine lv_iload_n hx hb dX5_layMinors_38 rfl (lv_at hl 0 rfl) ?_
  refine lv_iload_n hx hb dX5_layMinors_39 rfl (lv_at hl 3 rfl) ?_
  refine lv_iload_n hx hb dX5_layMinors_40 rfl (lv_at hl 1 rfl) ?_
  refine lv_ishr hx hb dX5_layMinors_41 ?_
  refine lv_eqi (v := 9) (by decide) ?_
  refine lv_iconst (v := 1) hx hb dX5_layMinors_42 (by decide) ?_
  refine lv_iand hx hb dX5_layMinors_43 ?_
  refine lv_eqi (v := 1) (by decide) ?_
  refine lv_iadd hx hb dX5_layMinors_44 ?_
  refine lv_eqi (v := 0) (by decide) ?_
  refine lv_istore_n (lv' := [(2, .int 0), (3, .int 2), (0, .ref o), (1, .int 36)]) hx hb dX5_layMinors_45 rfl hl (by decide) rfl (fun ls hl => ?_)
  refine lv_iinc (v := 3) (lv' := [(3, .int 3), (2, .int 0), (0, .ref o), (1, .int 36)]) hx hb dX5_layMinors_46 hl (k := 1) rfl (by decide) (by decide) rfl (fun ls hl => ?_)
  refine lv_goto (tgt := 20) hx hb dX5_layMinors_49 (by decide) ?_
  refine lv_iload_n hx hb dX5_layMinors_20 rfl (lv_at hl 0 rfl) ?_
  refine lv_bipush (v := 6) hx hb dX5_layMinors_21 (by decide) ?_
  refine lv_icmp_ge (tgt := 52) hx hb dX5_layMinors_23 (by decide) (fun h => absurd h (by decide)) (fun _ => ?_)
  refine lv_iload_n hx hb dX5_layMinors_26 rfl (lv_at hl 1 rfl) ?_
  refine lv_ldc hx hb hown k_3 dX5_layMinors_27 ?_
  refine lv_icmp_ne (tgt := 36) hx hb dX5_layMinors_29 (by decide) (fun _ => ?_) (fun h => absurd h (by decide))
  refine lv_iload_n hx hb dX5_layMinors_36 rfl (lv_at hl 1 rfl) ?_
  refine lv_istore_n (lv' := [(2, .int 0), (3, .int 3), (0, .ref o), (1, .int 36)]) hx hb dX5_layMinors_37 rfl hl (by decide) rfl (fun ls hl => ?_)
  refine lv_iload_n hx hb dX5_layMinors_38 rfl (lv_at hl 0 rfl) ?_
  refine lv_iload_n hx hb dX5_layMinors_39 rfl (lv_at hl 3 rfl) ?_
  refine lv_iload_n hx hb dX5_layMinors_40 rfl (lv_at hl 1 rfl) ?_
  refine lv_ishr hx hb dX5_layMinors_41 ?_
  refine lv_eqi (v := 4) (by decide) ?_
  refine lv_iconst (v := 1) hx hb dX5_layMinors_42 (by decide) ?_
  refine lv_iand hx hb dX5_layMinors_43 ?_
  refine lv_eqi (v := 0) (by decide) ?_
  refine lv_iadd hx hb dX5_layMinors_44 ?_
  refine lv_eqi (v := 0) (by decide) ?_
  refine lv_istore_n (lv' := [(2, .int 0), (3, .int 3), (0, .ref o), (1, .int 36)]) hx hb dX5_layMinors_45 rfl hl (by decide) rfl (fun ls hl => ?_)
  refine lv_iinc (v := 4) (lv' := [(3, .int 4), (2, .int 0), (0, .ref o), (1, .int 36)]) hx hb dX5_layMinors_46 hl (k := 1) rfl (by decide) (by decide) rfl (fun ls hl => ?_)
  refine lv_goto (tgt := 20) hx hb dX5_layMinors_49 (by decide) ?_
  refine lv_iload_n hx hb dX5_layMinors_20 rfl (lv_at hl 0 rfl) ?_
  refine lv_bipush (v := 6) hx hb dX5_layMinors_21 (by decide) ?_
  refine lv_icmp_ge (tgt := 52) hx hb dX5_layMinors_23 (by decide) (fun h => absurd h (by decide)) (fun _ => ?_)
  refine lv_iload_n hx hb dX5_layMinors_26 rfl (lv_at hl 1 rfl) ?_
  refine lv_ldc hx hb hown k_3 dX5_layMinors_27 ?_
  refine lv_icmp_ne (tgt := 36) hx hb dX5_layMinors_29 (by decide) (fun _ => ?_) (fun h => absurd h (by decide))
  refine lv_iload_n hx hb dX5_layMinors_36 rfl (lv_at hl 1 rfl) ?_
  refine lv_istore_n (lv' := [(2, .int 0), (3, .int 4), (0, .ref o), (1, .int 36)]) hx hb dX5_layMinors_37 rfl hl (by decide) rfl (fun ls hl => ?_)
  refine lv_iload_n hx hb dX5_layMinors_38 rfl (lv_at hl 0 rfl) ?_
  refine lv_iload_n hx hb dX5_layMinors_39 rfl (lv_at hl 3 rfl) ?_
  refine lv_iload_n hx hb dX5_layMinors_40 rfl (lv_at hl 1 rfl) ?_
  refine lv_ishr hx hb dX5_layMinors_41 ?_
  refine lv_eqi (v := 2) (by decide) ?_
  refine lv_iconst (v := 1) hx hb dX5_layMinors_42 (by decide) ?_
  refine lv_iand hx hb dX5_layMinors_43 ?_
  refine lv_eqi (v := 0) (by decide) ?_
  refine lv_iadd hx hb dX5_layMinors_44 ?_
  refine lv_eqi (v := 0) (by decide) ?_
  refine lv_istore_n (lv' := [(2, .int 0), (3, .int 4), (0, .ref o), (1, .int 36)]) hx hb dX5_layMinors_45 rfl hl (by decide) rfl (fun ls hl => ?_)
  refine lv_iinc (v := 5) (lv' := [(3, .int 5), (2, .int 0), (0, .ref o), (1, .int 36)]) hx hb dX5_layMinors_46 hl (k := 1) rfl (by decide) (by decide) rfl (fun ls hl => ?_)
  refine lv_goto (tgt := 20) hx hb dX5_layMinors_49 (by decide) ?_
  refine lv_iload_n hx hb dX5_layMinors_20 rfl (lv_at hl 0 rfl) ?_
  refine lv_bipush (v := 6) hx hb dX5_layMinors_21 (by decide) ?_
  refine lv_icmp_ge (tgt := 52) hx hb dX5_layMinors_23 (by decide) (fun h => absurd h (by decide)) (fun _ => ?_)
  refine lv_iload_n hx hb dX5_layMinors_26 rfl (lv_at hl 1 rfl) ?_
  refine lv_ldc hx hb hown k_3 dX5_layMinors_27 ?_
  refine lv_icmp_ne (tgt := 36) hx hb dX5_layMinors_29 (by decide) (fun _ => ?_) (fun h => absurd h (by decide))
  refine lv_iload_n hx hb dX5_layMinors_36 rfl (lv_at hl 1 rfl) ?_
  refine lv_istore_n (lv' := [(2, .int 0), (3, .int 5), (0, .ref o), (1, .int 36)]) hx hb dX5_layMinors_37 rfl hl (by decide) rfl (fun ls hl => ?_)
  refine lv_iload_n hx hb dX5_layMinors_38 rfl (lv_at hl 0 rfl) ?_
  refine lv_iload_n hx hb dX5_layMinors_39 rfl (lv_at hl 3 rfl) ?_
  refine lv_iload_n hx hb dX5_layMinors_40 rfl (lv_at hl 1 rfl) ?_
  refine lv_ishr hx hb dX5_layMinors_41 ?_
  refine lv_eqi (v := 1) (by decide) ?_
  refine lv_iconst (v := 1) hx hb dX5_layMinors_42 (by decide) ?_
  refine lv_iand hx hb dX5_layMinors_43 ?_
  refine lv_eqi (v := 1) (by decide) ?_
  refine lv_iadd hx hb dX5_layMinors_44 ?_
  refine lv_eqi (v := 1) (by decide) ?_
  refine lv_istore_n (lv' := [(2, .int 1), (3, .int 5), (0, .ref o), (1, .int 36)]) hx hb dX5_layMinors_45 rfl hl (by decide) rfl (fun ls hl => ?_)
  refine lv_iinc (v := 6) (lv' := [(3, .int 6), (2, .int 1), (0, .ref o), (1, .int 36)]) hx hb dX5_layMinors_46 hl (k := 1) rfl (by decide) (by decide) rfl (fun ls hl => ?_)
  refine lv_goto (tgt := 20) hx hb dX5_layMinors_49 (by decide) ?_
  refine lv_iload_n hx hb dX5_layMinors_20 rfl (lv_at hl 0 rfl) ?_
  refine lv_bipush (v := 6) hx hb dX5_layMinors_21 (by decide) ?_
  refine lv_icmp_ge (tgt := 52) hx hb dX5_layMinors_23 (by decide) (fun _ => ?_) (fun h => absurd (by decide) h)
  refine lv_lconst (v := 0) hx hb dX5_layMinors_52 (by decide) ?_
  refine lv_lstore_n (lv' := [(3, .long 0), (2, .int 1), (0, .ref o), (1, .int 36)]) hx hb dX5_layMinors_53 rfl hl (by decide) rfl (fun ls hl => ?_)
  refine lv_iload_n hx hb dX5_layMinors_54 rfl (lv_at hl 1 rfl) ?_
  refine lv_istore (lv' := [(5, .int 1), (3, .long 0), (2, .int 1), (0, .ref o), (1, .int 36)]) hx hb dX5_layMinors_55 hl (by decide) rfl (fun ls hl => ?_)
  refine lv_iconst (v := 0) hx hb dX5_layMinors_57 (by decide) ?_
  refine lv_istore (lv' := [(6, .int 0), (5, .int 1), (3, .long 0), (2, .int 1), (0, .ref o), (1, .int 36)]) hx hb dX5_layMinors_58 hl (by decide) rfl (fun ls hl => ?_)
  refine lv_iload hx hb dX5_layMinors_60 (lv_at hl 0 rfl) ?_
  refine lv_bipush (v := 6) hx hb dX5_layMinors_62 (by decide) ?_
  refine lv_icmp_ge (tgt := 135) hx hb dX5_layMinors_64 (by decide) (fun h => absurd h (by decide)) (fun _ => ?_)
  refine lv_iload_n hx hb dX5_layMinors_67 rfl (lv_at hl 3 rfl) ?_
  refine lv_iconst (v := 5) hx hb dX5_layMinors_68 (by decide) ?_
  refine lv_icmp_ge (tgt := 135) hx hb dX5_layMinors_69 (by decide) (fun h => absurd h (by decide)) (fun _ => ?_)
  refine lv_iload_n hx hb dX5_layMinors_72 rfl (lv_at hl 5 rfl) ?_
  refine lv_iload hx hb dX5_layMinors_73 (lv_at hl 0 rfl) ?_
  refine lv_ishr hx hb dX5_layMinors_75 ?_
  refine lv_eqi (v := 36) (by decide) ?_
  refine lv_iconst (v := 1) hx hb dX5_layMinors_76 (by decide) ?_
  refine lv_iand hx hb dX5_layMinors_77 ?_
  refine lv_eqi (v := 0) (by decide) ?_
  refine lv_iconst (v := 1) hx hb dX5_layMinors_78 (by decide) ?_
  refine lv_icmp_ne (tgt := 129) hx hb dX5_layMinors_79 (by decide) (fun _ => ?_) (fun h => absurd h (by decide))
  refine lv_iinc (v := 1) (lv' := [(6, .int 1), (5, .int 1), (3, .long 0), (2, .int 1), (0, .ref o), (1, .int 36)]) hx hb dX5_layMinors_129 hl (k := 0) rfl (by decide) (by decide) rfl (fun ls hl => ?_)
  refine lv_goto (tgt := 60) hx hb dX5_layMinors_132 (by decide) ?_
  refine lv_iload hx hb dX5_layMinors_60 (lv_at hl 0 rfl) ?_
  refine lv_bipush (v := 6) hx hb dX5_layMinors_62 (by decide) ?_
  refine lv_icmp_ge (tgt := 135) hx hb dX5_layMinors_64 (by decide) (fun h => absurd h (by decide)) (fun _ => ?_)
  refine lv_iload_n hx hb dX5_layMinors_67 rfl (lv_at hl 3 rfl) ?_
  refine lv_iconst (v := 5) hx hb dX5_layMinors_68 (by decide) ?_
  refine lv_icmp_ge (tgt := 135) hx hb dX5_layMinors_69 (by decide) (fun h => absurd h (by decide)) (fun _ => ?_)
  refine lv_iload_n hx hb dX5_layMinors_72 rfl (lv_at hl 5 rfl) ?_
  refine lv_iload hx hb dX5_layMinors_73 (lv_at hl 0 rfl) ?_
  refine lv_ishr hx hb dX5_layMinors_75 ?_
  refine lv_eqi (v := 18) (by decide) ?_
  refine lv_iconst (v := 1) hx hb dX5_layMinors_76 (by decide) ?_
  refine lv_iand hx hb dX5_layMinors_77 ?_
  refine lv_eqi (v := 0) (by decide) ?_
  refine lv_iconst (v := 1) hx hb dX5_layMinors_78 (by decide) ?_
  refine lv_icmp_ne (tgt := 129) hx hb dX5_layMinors_79 (by decide) (fun _ => ?_) (fun h => absurd h (by decide))
  refine lv_iinc (v := 2) (lv' := [(6, .int 2), (5, .int 1), (3, .long 0), (2, .int 1), (0, .ref o), (1, .int 36)]) hx hb dX5_layMinors_129 hl (k := 0) rfl (by decide) (by decide) rfl (fun ls hl => ?_)
  refine lv_goto (tgt := 60) hx hb dX5_layMinors_132 (by decide) ?_
  refine lv_iload hx hb dX5_layMinors_60 (lv_at hl 0 rfl) ?_
  refine lv_bipush (v := 6) hx hb dX5_layMinors_62 (by decide) ?_
  refine lv_icmp_ge (tgt := 135) hx hb dX5_layMinors_64 (by decide) (fun h => absurd h (by decide)) (fun _ => ?_)
  refine lv_iload_n hx hb dX5_layMinors_67 rfl (lv_at hl 3 rfl) ?_
  refine lv_iconst (v := 5) hx hb dX5_layMinors_68 (by decide) ?_
  refine lv_icmp_ge (tgt := 135) hx hb dX5_layMinors_69 (by decide) (fun h => absurd h (by decide)) (fun _ => ?_)
  refine lv_iload_n hx hb dX5_layMinors_72 rfl (lv_at hl 5 rfl) ?_
  refine lv_iload hx hb dX5_layMinors_73 (lv_at hl 0 rfl) ?_
  refine lv_ishr hx hb dX5_layMinors_75 ?_
  refine lv_eqi (v := 9) (by decide) ?_
  refine lv_iconst (v := 1) hx hb dX5_layMinors_76 (by decide) ?_
  refine lv_iand hx hb dX5_layMinors_77 ?_
  refine lv_eqi (v := 1) (by decide) ?_
  refine lv_iconst (v := 1) hx hb dX5_layMinors_78 (by decide) ?_
  refine lv_icmp_ne (tgt := 129) hx hb dX5_layMinors_79 (by decide) (fun h => absurd (by decide) h) (fun _ => ?_)
  refine lv_aload_n hx hb dX5_layMinors_82 rfl (lv_at hl 4 rfl) ?_
  refine va_get (D := D) (ci := 5) (v := .ref mR) (C := RX5) (T := TX5) (N := 17) hx hb hts k_2 hown hK.1 hP 0 rfl rfl 5 (by decide) k_4 (fun _ h9 => h9) rfl dX5_layMinors_83 ?_
  refine lv_bipush (v := 6) hx hb dX5_layMinors_86 (by decide) ?_
  refine lv_iload_n hx hb dX5_layMinors_88 rfl (lv_at hl 3 rfl) ?_
  refine lv_imul hx hb dX5_layMinors_89 ?_
  refine lv_eqi (v := 6) (by decide) ?_
  refine lv_iload hx hb dX5_layMinors_90 (lv_at hl 0 rfl) ?_
  refine lv_iadd hx hb dX5_layMinors_92 ?_
  refine lv_eqi (v := 8) (by decide) ?_
  refine ld_l hx hb hK.1 hP 1 1 rfl rfl (ix_lit (by decide)) 8 (by decide) (v := fr 8) rfl dX5_layMinors_93 ?_
  refine lv_aload_n hx hb dX5_layMinors_94 rfl (lv_at hl 4 rfl) ?_
  refine va_get (D := D) (ci := 5) (v := .ref mD) (C := RX5) (T := TX5) (N := 17) hx hb hts k_2 hown hK.1 hP 0 rfl rfl 6 (by decide) k_1 (fun _ h9 => h9) rfl dX5_layMinors_95 ?_
  refine lv_iload_n hx hb dX5_layMinors_98 rfl (lv_at hl 5 rfl) ?_
  refine lv_iconst (v := 1) hx hb dX5_layMinors_99 (by decide) ?_
  refine lv_iload hx hb dX5_layMinors_100 (lv_at hl 0 rfl) ?_
  refine lv_ishl hx hb dX5_layMinors_102 ?_
  refine lv_eqi (v := 4) (by decide) ?_
  refine lv_isub hx hb dX5_layMinors_103 ?_
  refine lv_eqi (v := 32) (by decide) ?_
  refine ld_l hx hb hK.1 hP 2 1 rfl rfl (ix_lit (by decide)) 32 (by decide) (v := z5_mw32 fr) rfl dX5_layMinors_104 ?_
  refine lv_lmul hx hb dX5_layMinors_105 ?_
  refine lv_lstore (lv' := [(7, .long ((fr 8) * (z5_mw32 fr))), (6, .int 2), (5, .int 1), (3, .long 0), (2, .int 1), (0, .ref o), (1, .int 36)]) hx hb dX5_layMinors_106 hl (by decide) rfl (fun ls hl => ?_)
  refine lv_lload_n hx hb dX5_layMinors_108 rfl (lv_at hl 3 rfl) ?_
  refine lv_iload hx hb dX5_layMinors_109 (lv_at hl 2 rfl) ?_
  refine lv_iconst (v := 2) hx hb dX5_layMinors_111 (by decide) ?_
  refine lv_irem hx hb dX5_layMinors_112 (by decide) ?_
  refine lv_eqi (v := 1) (by decide) ?_
  refine lv_if_ne (tgt := 121) hx hb dX5_layMinors_113 (by decide) (fun _ => ?_) (fun h => absurd h (by decide))
  refine lv_lload hx hb dX5_layMinors_121 (lv_at hl 0 rfl) ?_
  refine lv_lneg hx hb dX5_layMinors_123 ?_
  refine lv_ladd hx hb dX5_layMinors_124 ?_
  refine lv_lstore_n (lv' := [(3, .long (0 + (-((fr 8) * (z5_mw32 fr))))), (7, .long ((fr 8) * (z5_mw32 fr))), (6, .int 2), (5, .int 1), (2, .int 1), (0, .ref o), (1, .int 36)]) hx hb dX5_layMinors_125 rfl hl (by decide) rfl (fun ls hl => ?_)
  refine lv_iinc (v := 0) (lv' := [(5, .int 0), (3, .long (0 + (-((fr 8) * (z5_mw32 fr))))), (7, .long ((fr 8) * (z5_mw32 fr))), (6, .int 2), (2, .int 1), (0, .ref o), (1, .int 36)]) hx hb dX5_layMinors_126 hl (k := 3) rfl (by decide) (by decide) rfl (fun ls hl => ?_)
  refine lv_iinc (v := 3) (lv' := [(6, .int 3), (5, .int 0), (3, .long (0 + (-((fr 8) * (z5_mw32 fr))))), (7, .long ((fr 8) * (z5_mw32 fr))), (2, .int 1), (0, .ref o), (1, .int 36)]) hx hb dX5_layMinors_129 hl (k := 3) rfl (by decide) (by decide) rfl (fun ls hl => ?_)
  refine lv_goto (tgt := 60) hx hb dX5_layMinors_132 (by decide) ?_
  refine lv_iload hx hb dX5_layMinors_60 (lv_at hl 0 rfl) ?_
  refine lv_bipush (v := 6) hx hb dX5_layMinors_62 (by decide) ?_
  refine lv_icmp_ge (tgt := 135) hx hb dX5_layMinors_64 (by decide) (fun h => absurd h (by decide)) (fun _ => ?_)
  refine lv_iload_n hx hb dX5_layMinors_67 rfl (lv_at hl 4 rfl) ?_
  refine lv_iconst (v := 5) hx hb dX5_layMinors_68 (by decide) ?_
  refine lv_icmp_ge (tgt := 135) hx hb dX5_layMinors_69 (by decide) (fun h => absurd h (by decide)) (fun _ => ?_)
  refine lv_iload_n hx hb dX5_layMinors_72 rfl (lv_at hl 6 rfl) ?_
  refine lv_iload hx hb dX5_layMinors_73 (lv_at hl 0 rfl) ?_
  refine lv_ishr hx hb dX5_layMinors_75 ?_
  refine lv_eqi (v := 4) (by decide) ?_
  refine lv_iconst (v := 1) hx hb dX5_layMinors_76 (by decide) ?_
  refine lv_iand hx hb dX5_layMinors_77 ?_
  refine lv_eqi (v := 0) (by decide) ?_
  refine lv_iconst (v := 1) hx hb dX5_layMinors_78 (by decide) ?_
  refine lv_icmp_ne (tgt := 129) hx hb dX5_layMinors_79 (by decide) (fun _ => ?_) (fun h => absurd h (by decide))
  refine lv_iinc (v := 4) (lv' := [(6, .int 4), (5, .int 0), (3, .long (0 + (-((fr 8) * (z5_mw32 fr))))), (7, .long ((fr 8) * (z5_mw32 fr))), (2, .int 1), (0, .ref o), (1, .int 36)]) hx hb dX5_layMinors_129 hl (k := 0) rfl (by decide) (by decide) rfl (fun ls hl => ?_)
  refine lv_goto (tgt := 60) hx hb dX5_layMinors_132 (by decide) ?_
  refine lv_iload hx hb dX5_layMinors_60 (lv_at hl 0 rfl) ?_
  refine lv_bipush (v := 6) hx hb dX5_layMinors_62 (by decide) ?_
  refine lv_icmp_ge (tgt := 135) hx hb dX5_layMinors_64 (by decide) (fun h => absurd h (by decide)) (fun _ => ?_)
  refine lv_iload_n hx hb dX5_layMinors_67 rfl (lv_at hl 4 rfl) ?_
  refine lv_iconst (v := 5) hx hb dX5_layMinors_68 (by decide) ?_
  refine lv_icmp_ge (tgt := 135) hx hb dX5_layMinors_69 (by decide) (fun h => absurd h (by decide)) (fun _ => ?_)
  refine lv_iload_n hx hb dX5_layMinors_72 rfl (lv_at hl 6 rfl) ?_
  refine lv_iload hx hb dX5_layMinors_73 (lv_at hl 0 rfl) ?_
  refine lv_ishr hx hb dX5_layMinors_75 ?_
  refine lv_eqi (v := 2) (by decide) ?_
  refine lv_iconst (v := 1) hx hb dX5_layMinors_76 (by decide) ?_
  refine lv_iand hx hb dX5_layMinors_77 ?_
  refine lv_eqi (v := 0) (by decide) ?_
  refine lv_iconst (v := 1) hx hb dX5_layMinors_78 (by decide) ?_
  refine lv_icmp_ne (tgt := 129) hx hb dX5_layMinors_79 (by decide) (fun _ => ?_) (fun h => absurd h (by decide))
  refine lv_iinc (v := 5) (lv' := [(6, .int 5), (5, .int 0), (3, .long (0 + (-((fr 8) * (z5_mw32 fr))))), (7, .long ((fr 8) * (z5_mw32 fr))), (2, .int 1), (0, .ref o), (1, .int 36)]) hx hb dX5_layMinors_129 hl (k := 0) rfl (by decide) (by decide) rfl (fun ls hl => ?_)
  refine lv_goto (tgt := 60) hx hb dX5_layMinors_132 (by decide) ?_
  refine lv_iload hx hb dX5_layMinors_60 (lv_at hl 0 rfl) ?_
  refine lv_bipush (v := 6) hx hb dX5_layMinors_62 (by decide) ?_
  refine lv_icmp_ge (tgt := 135) hx hb dX5_layMinors_64 (by decide) (fun h => absurd h (by decide)) (fun _ => ?_)
  refine lv_iload_n hx hb dX5_layMinors_67 rfl (lv_at hl 4 rfl) ?_
  refine lv_iconst (v := 5) hx hb dX5_layMinors_68 (by decide) ?_
  refine lv_icmp_ge (tgt := 135) hx hb dX5_layMinors_69 (by decide) (fun h => absurd h (by decide)) (fun _ => ?_)
  refine lv_iload_n hx hb dX5_layMinors_72 rfl (lv_at hl 6 rfl) ?_
  refine lv_iload hx hb dX5_layMinors_73 (lv_at hl 0 rfl) ?_
  refine lv_ishr hx hb dX5_layMinors_75 ?_
  refine lv_eqi (v := 1) (by decide) ?_
  refine lv_iconst (v := 1) hx hb dX5_layMinors_76 (by decide) ?_
  refine lv_iand hx hb dX5_layMinors_77 ?_
  refine lv_eqi (v := 1) (by decide) ?_
  refine lv_iconst (v := 1) hx hb dX5_layMinors_78 (by decide) ?_
  refine lv_icmp_ne (tgt := 129) hx hb dX5_layMinors_79 (by decide) (fun h => absurd (by decide) h) (fun _ => ?_)
  refine lv_aload_n hx hb dX5_layMinors_82 rfl (lv_at hl 5 rfl) ?_
  refine va_get (D := D) (ci := 5) (v := .ref mR) (C := RX5) (T := TX5) (N := 17) hx hb hts k_2 hown hK.1 hP 0 rfl rfl 5 (by decide) k_4 (fun _ h9 => h9) rfl dX5_layMinors_83 ?_
  refine lv_bipush (v := 6) hx hb dX5_layMinors_86 (by decide) ?_
  refine lv_iload_n hx hb dX5_layMinors_88 rfl (lv_at hl 4 rfl) ?_
  refine lv_imul hx hb dX5_layMinors_89 ?_
  refine lv_eqi (v := 6) (by decide) ?_
  refine lv_iload hx hb dX5_layMinors_90 (lv_at hl 0 rfl) ?_
  refine lv_iadd hx hb dX5_layMinors_92 ?_
  refine lv_eqi (v := 11) (by decide) ?_
  refine ld_l hx hb hK.1 hP 1 1 rfl rfl (ix_lit (by decide)) 11 (by decide) (v := fr 11) rfl dX5_layMinors_93 ?_
  refine lv_aload_n hx hb dX5_layMinors_94 rfl (lv_at hl 5 rfl) ?_
  refine va_get (D := D) (ci := 5) (v := .ref mD) (C := RX5) (T := TX5) (N := 17) hx hb hts k_2 hown hK.1 hP 0 rfl rfl 6 (by decide) k_1 (fun _ h9 => h9) rfl dX5_layMinors_95 ?_
  refine lv_iload_n hx hb dX5_layMinors_98 rfl (lv_at hl 6 rfl) ?_
  refine lv_iconst (v := 1) hx hb dX5_layMinors_99 (by decide) ?_
  refine lv_iload hx hb dX5_layMinors_100 (lv_at hl 0 rfl) ?_
  refine lv_ishl hx hb dX5_layMinors_102 ?_
  refine lv_eqi (v := 32) (by decide) ?_
  refine lv_isub hx hb dX5_layMinors_103 ?_
  refine lv_eqi (v := 4) (by decide) ?_
  refine ld_l hx hb hK.1 hP 2 1 rfl rfl (ix_lit (by decide)) 4 (by decide) (v := z5_mw4 fr) rfl dX5_layMinors_104 ?_
  refine lv_lmul hx hb dX5_layMinors_105 ?_
  refine lv_lstore (lv' := [(7, .long ((fr 11) * (z5_mw4 fr))), (6, .int 5), (5, .int 0), (3, .long (0 + (-((fr 8) * (z5_mw32 fr))))), (2, .int 1), (0, .ref o), (1, .int 36)]) hx hb dX5_layMinors_106 hl (by decide) rfl (fun ls hl => ?_)
  refine lv_lload_n hx hb dX5_layMinors_108 rfl (lv_at hl 3 rfl) ?_
  refine lv_iload hx hb dX5_layMinors_109 (lv_at hl 2 rfl) ?_
  refine lv_iconst (v := 2) hx hb dX5_layMinors_111 (by decide) ?_
  refine lv_irem hx hb dX5_layMinors_112 (by decide) ?_
  refine lv_eqi (v := 0) (by decide) ?_
  refine lv_if_ne (tgt := 121) hx hb dX5_layMinors_113 (by decide) (fun h => absurd (by decide) h) (fun _ => ?_)
  refine lv_lload hx hb dX5_layMinors_116 (lv_at hl 0 rfl) ?_
  refine lv_goto (tgt := 124) hx hb dX5_layMinors_118 (by decide) ?_
  refine lv_ladd hx hb dX5_layMinors_124 ?_
  refine lv_lstore_n (lv' := [(3, .long ((0 + (-((fr 8) * (z5_mw32 fr)))) + ((fr 11) * (z5_mw4 fr)))), (7, .long ((fr 11) * (z5_mw4 fr))), (6, .int 5), (5, .int 0), (2, .int 1), (0, .ref o), (1, .int 36)]) hx hb dX5_layMinors_125 rfl hl (by decide) rfl (fun ls hl => ?_)
  refine lv_iinc (v := (-1)) (lv' := [(5, .int (-1)), (3, .long ((0 + (-((fr 8) * (z5_mw32 fr)))) + ((fr 11) * (z5_mw4 fr)))), (7, .long ((fr 11) * (z5_mw4 fr))), (6, .int 5), (2, .int 1), (0, .ref o), (1, .int 36)]) hx hb dX5_layMinors_126 hl (k := 3) rfl (by decide) (by decide) rfl (fun ls hl => ?_)
  refine lv_iinc (v := 6) (lv' := [(6, .int 6), (5, .int (-1)), (3, .long ((0 + (-((fr 8) * (z5_mw32 fr)))) + ((fr 11) * (z5_mw4 fr)))), (7, .long ((fr 11) * (z5_mw4 fr))), (2, .int 1), (0, .ref o), (1, .int 36)]) hx hb dX5_layMinors_129 hl (k := 3) rfl (by decide) (by decide) rfl (fun ls hl => ?_)
  refine lv_goto (tgt := 60) hx hb dX5_layMinors_132 (by decide) ?_
  refine lv_iload hx hb dX5_layMinors_60 (lv_at hl 0 rfl) ?_
  refine lv_bipush (v := 6) hx hb dX5_layMinors_62 (by decide) ?_
  refine lv_icmp_ge (tgt := 135) hx hb dX5_layMinors_64 (by decide) (fun _ => ?_) (fun h => absurd (by decide) h)
  refine lv_aload_n hx hb dX5_layMinors_135 rfl (lv_at hl 5 rfl) ?_
  refine va_get (D := D) (ci := 5) (v := .ref mD) (C := RX5) (T := TX5) (N := 17) hx hb hts k_2 hown hK.1 hP 0 rfl rfl 6 (by decide) k_1 (fun _ h9 => h9) rfl dX5_layMinors_136 ?_
  refine lv_iload_n hx hb dX5_layMinors_139 rfl (lv_at hl 6 rfl) ?_
  refine lv_lload_n hx hb dX5_layMinors_140 rfl (lv_at hl 2 rfl) ?_
  refine st_l hx hb hK.1 hP hD hS 2 1 rfl rfl (ix_lit (by decide)) 36 (by decide) dX5_layMinors_141 (fun H locs hP hD hS => ?_)
  have hP : va_P D vwCl [kM o mP mL mC mN mF mR mD mV mX mA mK cm mT pm mU mH mI, kJ mR cJ 30 fr, kJ mD cJ 64 (vp_updL (z5_mm36 fr fd) 36 ((0 + (-((fr 8) * (z5_mw32 fr)))) + ((fr 11) * (z5_mw4 fr))))] H := hP
  have hD : va_D A [kM o mP mL mC mN mF mR mD mV mX mA mK cm mT pm mU mH mI, kJ mR cJ 30 fr, kJ mD cJ 64 (vp_updL (z5_mm36 fr fd) 36 ((0 + (-((fr 8) * (z5_mw32 fr)))) + ((fr 11) * (z5_mw4 fr))))] := hD
  have hP : va_P D vwCl [kM o mP mL mC mN mF mR mD mV mX mA mK cm mT pm mU mH mI, kJ mR cJ 30 fr, kJ mD cJ 64 (z5_mm37 fr fd)] H := hP
  have hD : va_D A [kM o mP mL mC mN mF mR mD mV mX mA mK cm mT pm mU mH mI, kJ mR cJ 30 fr, kJ mD cJ 64 (z5_mm37 fr fd)] := hD
  refine lv_iinc (v := 37) (lv' := [(1, .int 37), (6, .int 6), (5, .int (-1)), (3, .long ((0 + (-((fr 8) * (z5_mw32 fr)))) + ((fr 11) * (z5_mw4 fr)))), (7, .long ((fr 11) * (z5_mw4 fr))), (2, .int 1), (0, .ref o)]) hx hb dX5_layMinors_142 hl (k := 6) rfl (by decide) (by decide) rfl (fun ls hl => ?_)
  refine lv_goto (tgt := 9) hx hb dX5_layMinors_145 (by decide) ?_
  exact sg_X5_layMinors_37 hx hb hr hml hown hts hlk hK hA hP hD hS ls (lv_sub hl [6, 0] rfl)
set_option maxHeartbeats 4000000 in
set_option maxRecDepth 100000 in
theorem sg_X5_layMinors_35 {l : Launch} {D : va_G} {cI cJ : ClassId} {pG : Program} {eG : Env} {sG : State} {mG : MethodId} {below : List Frame} {meth : Method} {cG : Code} {A : Nat → Prop} {H : Heap} {locs : List Loc} {o : Nat} {mP : Nat} {mL : Nat} {mC : Nat} {mN : Nat} {mF : Nat} {mR : Nat} {mD : Nat} {mV : Nat} {mX : Nat} {mA : Nat} {mK : Nat} {mT : Nat} {mU : Nat} {mH : Nat} {mI : Nat} {cm : Int32} {pm : Int32} {fr : Nat → Int64} {fd : Nat → Int64} (hx : pG.tables.exec = Jvm.exec) (hb : cG.code = cX5_layMinors) (hr : meth.sig.returnType = none) (hml : cG.maxLocals = 9) (hown : sG.vm.findClass RX5 = some mG.cls) (hts : ∀ x ∈ wsX5_layMinors, x.before ([.ref o] : List Value).toArray sG = true) (hlk : meth.locks = false) (hK : gd_K D cI cJ sG) (hA : ∀ q : Nat, sG.heap.size ≤ q → A q) (hP : va_P D vwCl [kM o mP mL mC mN mF mR mD mV mX mA mK cm mT pm mU mH mI, kJ mR cJ 30 fr, kJ mD cJ 64 (z5_mm35 fr fd)] H) (hD : va_D A [kM o mP mL mC mN mF mR mD mV mX mA mK cm mT pm mU mH mI, kJ mR cJ 30 fr, kJ mD cJ 64 (z5_mm35 fr fd)]) (hS : va_S A sG.heap H locs) (ls : Array Slot) (hl : lv_has ls 9 [(0, .ref o), (1, .int 35)]) : W pG l eG (headSpec wsX5_layMinors ({ frames := 0, cells := 0, slots := 0, locals := 0 })).room sG mG ([.ref o] : List Value).toArray below meth cG H locs 0 0 (MQ below ((qe_v (fun _ : Unit => True) (fun uu => [kM o mP mL mC mN mF mR mD mV mX mA mK cm mT pm mU mH mI, kJ mR cJ 30 fr, kJ mD cJ 64 (z5_layMinors_f2 fr fd)])) D A) ([.ref o] : List Value).toArray sG 0 0 A) (F0 mG 9 ls []) := by
  have k_1 := hts (.fieldLink RX5 29 "ConicRowsModel" "minors" "[J") (by decide +kernel)
  have k_2 : ∀ w ∈ wsX50, w ∈ wsX5_layMinors := by decide +kernel
  have k_3 := hts (.constant RX5 122 (-1000001)) (by decide +kernel)
  have k_4 := hts (.fieldLink RX5 26 "ConicRowsModel" "rows" "[J") (by decide +kernel)
  refine lv_iload_n hx hb dX5_layMinors_9 rfl (lv_at hl 1 rfl) ?_
  refine lv_bipush (v := 64) hx hb dX5_layMinors_10 (by decide) ?_
  refine lv_icmp_ge (tgt := 148) hx hb dX5_layMinors_12 (by decide) (fun h => absurd h (by decide)) (fun _ => ?_)
  refine lv_ldc hx hb hown k_3 dX5_layMinors_15 ?_
  refine lv_istore_n (lv' := [(2, .int (-1000001)), (0, .ref o), (1, .int 35)]) hx hb dX5_layMinors_17 rfl hl (by decide) rfl (fun ls hl => ?_)
  refine lv_iconst (v := 0) hx hb dX5_layMinors_18 (by decide) ?_
  refine lv_istore_n (lv' := [(3, .int 0), (2, .int (-1000001)), (0, .ref o), (1, .int 35)]) hx hb dX5_layMinors_19 rfl hl (by decide) rfl (fun ls hl => ?_)
  refine lv_iload_n hx hb dX5_layMinors_20 rfl (lv_at hl 0 rfl) ?_
  refine lv_bipush (v := 6) hx hb dX5_layMinors_21 (by decide) ?_
  refine lv_icmp_ge (tgt := 52) hx hb dX5_layMinors_23 (by decide) (fun h => absurd h (by decide)) (fun _ => ?_)
  refine lv_iload_n hx hb dX5_layMinors_26 rfl (lv_at hl 1 rfl) ?_
  refine lv_ldc hx hb hown k_3 dX5_layMinors_27 ?_
  refine lv_icmp_ne (tgt := 36) hx hb dX5_layMinors_29 (by decide) (fun h => absurd (by decide) h) (fun _ => ?_)
  refine lv_iconst (v := (-1)) hx hb dX5_layMinors_32 (by decide) ?_
  refine lv_goto (tgt := 37) hx hb dX5_layMinors_33 (by decide) ?_
  refine lv_istore_n (lv' := [(2, .int (-1)), (3, .int 0), (0, .ref o), (1, .int 35)]) hx hb dX5_layMinors_37 rfl hl (by decide) rfl (fun ls hl => ?_)
  refine lv_iload_n hx hb dX5_layMinors_38 rfl (lv_at hl 0 rfl) ?_
  refine lv_iload_n hx hb dX5_layMinors_39 rfl (lv_at hl 3 rfl) ?_
  refine lv_iload_n hx hb dX5_layMinors_40 rfl (lv_at hl 1 rfl) ?_
  refine lv_ishr hx hb dX5_layMinors_41 ?_
  refine lv_eqi (v := 35) (by decide) ?_
  refine lv_iconst (v := 1) hx hb dX5_layMinors_42 (by decide) ?_
  refine lv_iand hx hb dX5_layMinors_43 ?_
  refine lv_eqi (v := 1) (by decide) ?_
  refine lv_iadd hx hb dX5_layMinors_44 ?_
  refine lv_eqi (v := 0) (by decide) ?_
  refine lv_istore_n (lv' := [(2, .int 0), (3, .int 0), (0, .ref o), (1, .int 35)]) hx hb dX5_layMinors_45 rfl hl (by decide) rfl (fun ls hl => ?_)
  refine lv_iinc (v := 1) (lv' := [(3, .int 1), (2, .int 0), (0, .ref o), (1, .int 35)]) hx hb dX5_layMinors_46 hl (k := 1) rfl (by decide) (by decide) rfl (fun ls hl => ?_)
  refine lv_goto (tgt := 20) hx hb dX5_layMinors_49 (by decide) ?_
  refine lv_iload_n hx hb dX5_layMinors_20 rfl (lv_at hl 0 rfl) ?_
  refine lv_bipush (v := 6) hx hb dX5_layMinors_21 (by decide) ?_
  refine lv_icmp_ge (tgt := 52) hx hb dX5_layMinors_23 (by decide) (fun h => absurd h (by decide)) (fun _ => ?_)
  refine lv_iload_n hx hb dX5_layMinors_26 rfl (lv_at hl 1 rfl) ?_
  refine lv_ldc hx hb hown k_3 dX5_layMinors_27 ?_
  refine lv_icmp_ne (tgt := 36) hx hb dX5_layMinors_29 (by decide) (fun _ => ?_) (fun h => absurd h (by decide))
  refine lv_iload_n hx hb dX5_layMinors_36 rfl (lv_at hl 1 rfl) ?_
  refine lv_istore_n (lv' := [(2, .int 0), (3, .int 1), (0, .ref o), (1, .int 35)]) hx hb dX5_layMinors_37 rfl hl (by decide) rfl (fun ls hl => ?_)
  refine lv_iload_n hx hb dX5_layMinors_38 rfl (lv_at hl 0 rfl) ?_
  refine lv_iload_n hx hb dX5_layMinors_39 rfl (lv_at hl 3 rfl) ?_
  refine lv_iload_n hx hb dX5_layMinors_40 rfl (lv_at hl 1 rfl) ?_
  refine lv_ishr hx hb dX5_layMinors_41 ?_
  refine lv_eqi (v := 17) (by decide) ?_
  refine lv_iconst (v := 1) hx hb dX5_layMinors_42 (by decide) ?_
  refine lv_iand hx hb dX5_layMinors_43 ?_
  refine lv_eqi (v := 1) (by decide) ?_
  refine lv_iadd hx hb dX5_layMinors_44 ?_
  refine lv_eqi (v := 1) (by decide) ?_
  refine lv_istore_n (lv' := [(2, .int 1), (3, .int 1), (0, .ref o), (1, .int 35)]) hx hb dX5_layMinors_45 rfl hl (by decide) rfl (fun ls hl => ?_)
  refine lv_iinc (v := 2) (lv' := [(3, .int 2), (2, .int 1), (0, .ref o), (1, .int 35)]) hx hb dX5_layMinors_46 hl (k := 1) rfl (by decide) (by decide) rfl (fun ls hl => ?_)
  refine lv_goto (tgt := 20) hx hb dX5_layMinors_49 (by decide) ?_
  refine lv_iload_n hx hb dX5_layMinors_20 rfl (lv_at hl 0 rfl) ?_
  refine lv_bipush (v := 6) hx hb dX5_layMinors_21 (by decide) ?_
  refine lv_icmp_ge (tgt := 52) hx hb dX5_layMinors_23 (by decide) (fun h => absurd h (by decide)) (fun _ => ?_)
  refine lv_iload_n hx hb dX5_layMinors_26 rfl (lv_at hl 1 rfl) ?_
  refine lv_ldc hx hb hown k_3 dX5_layMinors_27 ?_
  refine lv_icmp_ne (tgt := 36) hx hb dX5_layMinors_29 (by decide) (fun _ => ?_) (fun h => absurd h (by decide))
  refine lv_iload_n hx hb dX5_layMinors_36 rfl (lv_at hl 1 rfl) ?_
  refine lv_istore_n (lv' := [(2, .int 1), (3, .int 2), (0, .ref o), (1, .int 35)]) hx hb dX5_layMinors_37 rfl hl (by decide) rfl (fun ls hl => ?_)
  refine lv_iload_n hx hb dX5_layMinors_38 rfl (lv_at hl 0 rfl) ?_
  refine lv_iload_n hx hb dX5_layMinors_39 rfl (lv_at hl 3 rfl) ?_
  refine lv_iload_n hx hb dX5_layMinors_40 rfl (lv_at hl 1 rfl) ?_
  refine lv_ishr hx hb dX5_layMinors_41 ?_
  refine lv_eqi (v := 8) (by decide) ?_
  refine lv_iconst (v := 1) hx hb dX5_layMinors_42 (by decide) ?_
  refine lv_iand hx hb dX5_layMinors_43 ?_
  refine lv_eqi (v := 0) (by decide) ?_
  refine lv_iadd hx hb dX5_layMinors_44 ?_
  refine lv_eqi (v := 1) (by decide) ?_
  refine lv_istore_n (lv' := [(2, .int 1), (3, .int 2), (0, .ref o), (1, .int 35)]) hx hb dX5_layMinors_45 rfl hl (by decide) rfl (fun ls hl => ?_)
  refine lv_iinc (v := 3) (lv' := [(3, .int 3), (2, .int 1), (0, .ref o), (1, .int 35)]) hx hb dX5_layMinors_46 hl (k := 1) rfl (by decide) (by decide) rfl (fun ls hl => ?_)
  refine lv_goto (tgt := 20) hx hb dX5_layMinors_49 (by decide) ?_
  refine lv_iload_n hx hb dX5_layMinors_20 rfl (lv_at hl 0 rfl) ?_
  refine lv_bipush (v := 6) hx hb dX5_layMinors_21 (by decide) ?_
  refine lv_icmp_ge (tgt := 52) hx hb dX5_layMinors_23 (by decide) (fun h => absurd h (by decide)) (fun _ => ?_)
  refine lv_iload_n hx hb dX5_layMinors_26 rfl (lv_at hl 1 rfl) ?_
  refine lv_ldc hx hb hown k_3 dX5_layMinors_27 ?_
  refine lv_icmp_ne (tgt := 36) hx hb dX5_layMinors_29 (by decide) (fun _ => ?_) (fun h => absurd h (by decide))
  refine lv_iload_n hx hb dX5_layMinors_36 rfl (lv_at hl 1 rfl) ?_
  refine lv_istore_n (lv' := [(2, .int 1), (3, .int 3), (0, .ref o), (1, .int 35)]) hx hb dX5_layMinors_37 rfl hl (by decide) rfl (fun ls hl => ?_)
  refine lv_iload_n hx hb dX5_layMinors_38 rfl (lv_at hl 0 rfl) ?_
  refine lv_iload_n hx hb dX5_layMinors_39 rfl (lv_at hl 3 rfl) ?_
  refine lv_iload_n hx hb dX5_layMinors_40 rfl (lv_at hl 1 rfl) ?_
  refine lv_ishr hx hb dX5_layMinors_41 ?_
  refine lv_eqi (v := 4) (by decide) ?_
  refine lv_iconst (v := 1) hx hb dX5_layMinors_42 (by decide) ?_
  refine lv_iand hx hb dX5_layMinors_43 ?_
  refine lv_eqi (v := 0) (by decide) ?_
  refine lv_iadd hx hb dX5_layMinors_44 ?_
  refine lv_eqi (v := 1) (by decide) ?_
  refine lv_istore_n (lv' := [(2, .int 1), (3, .int 3), (0, .ref o), (1, .int 35)]) hx hb dX5_layMinors_45 rfl hl (by decide) rfl (fun ls hl => ?_)
  refine lv_iinc (v := 4) (lv' := [(3, .int 4), (2, .int 1), (0, .ref o), (1, .int 35)]) hx hb dX5_layMinors_46 hl (k := 1) rfl (by decide) (by decide) rfl (fun ls hl => ?_)
  refine lv_goto (tgt := 20) hx hb dX5_layMinors_49 (by decide) ?_
  refine lv_iload_n hx hb dX5_layMinors_20 rfl (lv_at hl 0 rfl) ?_
  refine lv_bipush (v := 6) hx hb dX5_layMinors_21 (by decide) ?_
  refine lv_icmp_ge (tgt := 52) hx hb dX5_layMinors_23 (by decide) (fun h => absurd h (by decide)) (fun _ => ?_)
  refine lv_iload_n hx hb dX5_layMinors_26 rfl (lv_at hl 1 rfl) ?_
  refine lv_ldc hx hb hown k_3 dX5_layMinors_27 ?_
  refine lv_icmp_ne (tgt := 36) hx hb dX5_layMinors_29 (by decide) (fun _ => ?_) (fun h => absurd h (by decide))
  refine lv_iload_n hx hb dX5_layMinors_36 rfl (lv_at hl 1 rfl) ?_
  refine lv_istore_n (lv' := [(2, .int 1), (3, .int 4), (0, .ref o), (1, .int 35)]) hx hb dX5_layMinors_37 rfl hl (by decide) rfl (fun ls hl => ?_)
  refine lv_iload_n hx hb dX5_layMinors_38 rfl (lv_at hl 0 rfl) ?_
  refine lv_iload_n hx hb dX5_layMinors_39 rfl (lv_at hl 3 rfl) ?_
  refine lv_iload_n hx hb dX5_layMinors_40 rfl (lv_at hl 1 rfl) ?_
  refine lv_ishr hx hb dX5_layMinors_41 ?_
  refine lv_eqi (v := 2) (by decide) ?_
  refine lv_iconst (v := 1) hx hb dX5_layMinors_42 (by decide) ?_
  refine lv_iand hx hb dX5_layMinors_43 ?_
  refine lv_eqi (v := 0) (by decide) ?_
  refine lv_iadd hx hb dX5_layMinors_44 ?_
  refine lv_eqi (v := 1) (by decide) ?_
  refine lv_istore_n (lv' := [(2, .int 1), (3, .int 4), (0, .ref o), (1, .int 35)]) hx hb dX5_layMinors_45 rfl hl (by decide) rfl (fun ls hl => ?_)
  refine lv_iinc (v := 5) (lv' := [(3, .int 5), (2, .int 1), (0, .ref o), (1, .int 35)]) hx hb dX5_layMinors_46 hl (k := 1) rfl (by decide) (by decide) rfl (fun ls hl => ?_)
  refine lv_goto (tgt := 20) hx hb dX5_layMinors_49 (by decide) ?_
  refine lv_iload_n hx hb dX5_layMinors_20 rfl (lv_at hl 0 rfl) ?_
  refine lv_bipush (v := 6) hx hb dX5_layMinors_21 (by decide) ?_
  refine lv_icmp_ge (tgt := 52) hx hb dX5_layMinors_23 (by decide) (fun h => absurd h (by decide)) (fun _ => ?_)
  refine lv_iload_n hx hb dX5_layMinors_26 rfl (lv_at hl 1 rfl) ?_
  refine lv_ldc hx hb hown k_3 dX5_layMinors_27 ?_
  refine lv_icmp_ne (tgt := 36) hx hb dX5_layMinors_29 (by decide) (fun _ => ?_) (fun h => absurd h (by decide))
  refine lv_iload_n hx hb dX5_layMinors_36 rfl (lv_at hl 1 rfl) ?_
  refine lv_istore_n (lv' := [(2, .int 1), (3, .int 5), (0, .ref o), (1, .int 35)]) hx hb dX5_layMinors_37 rfl hl (by decide) rfl (fun ls hl => ?_)
  refine lv_iload_n hx hb dX5_layMinors_38 rfl (lv_at hl 0 rfl) ?_
  refine lv_iload_n hx hb dX5_layMinors_39 rfl (lv_at hl 3 rfl) ?_
  refine lv_iload_n hx hb dX5_layMinors_40 rfl (lv_at hl 1 rfl) ?_
  refine lv_ishr hx hb dX5_layMinors_41 ?_
  refine lv_eqi (v := 1) (by decide) ?_
  refine lv_iconst (v := 1) hx hb dX5_layMinors_42 (by decide) ?_
  refine lv_iand hx hb dX5_layMinors_43 ?_
  refine lv_eqi (v := 1) (by decide) ?_
  refine lv_iadd hx hb dX5_layMinors_44 ?_
  refine lv_eqi (v := 2) (by decide) ?_
  refine lv_istore_n (lv' := [(2, .int 2), (3, .int 5), (0, .ref o), (1, .int 35)]) hx hb dX5_layMinors_45 rfl hl (by decide) rfl (fun ls hl => ?_)
  refine lv_iinc (v := 6) (lv' := [(3, .int 6), (2, .int 2), (0, .ref o), (1, .int 35)]) hx hb dX5_layMinors_46 hl (k := 1) rfl (by decide) (by decide) rfl (fun ls hl => ?_)
  refine lv_goto (tgt := 20) hx hb dX5_layMinors_49 (by decide) ?_
  refine lv_iload_n hx hb dX5_layMinors_20 rfl (lv_at hl 0 rfl) ?_
  refine lv_bipush (v := 6) hx hb dX5_layMinors_21 (by decide) ?_
  refine lv_icmp_ge (tgt := 52) hx hb dX5_layMinors_23 (by decide) (fun _ => ?_) (fun h => absurd (by decide) h)
  refine lv_lconst (v := 0) hx hb dX5_layMinors_52 (by decide) ?_
  refine lv_lstore_n (lv' := [(3, .long 0), (2, .int 2), (0, .ref o), (1, .int 35)]) hx hb dX5_layMinors_53 rfl hl (by decide) rfl (fun ls hl => ?_)
  refine lv_iload_n hx hb dX5_layMinors_54 rfl (lv_at hl 1 rfl) ?_
  refine lv_istore (lv' := [(5, .int 2), (3, .long 0), (2, .int 2), (0, .ref o), (1, .int 35)]) hx hb dX5_layMinors_55 hl (by decide) rfl (fun ls hl => ?_)
  refine lv_iconst (v := 0) hx hb dX5_layMinors_57 (by decide) ?_
  refine lv_istore (lv' := [(6, .int 0), (5, .int 2), (3, .long 0), (2, .int 2), (0, .ref o), (1, .int 35)]) hx hb dX5_layMinors_58 hl (by decide) rfl (fun ls hl => ?_)
  refine lv_iload hx hb dX5_layMinors_60 (lv_at hl 0 rfl) ?_
  refine lv_bipush (v := 6) hx hb dX5_layMinors_62 (by decide) ?_
  refine lv_icmp_ge (tgt := 135) hx hb dX5_layMinors_64 (by decide) (fun h => absurd h (by decide)) (fun _ => ?_)
  refine lv_iload_n hx hb dX5_layMinors_67 rfl (lv_at hl 3 rfl) ?_
  refine lv_iconst (v := 5) hx hb dX5_layMinors_68 (by decide) ?_
  refine lv_icmp_ge (tgt := 135) hx hb dX5_layMinors_69 (by decide) (fun h => absurd h (by decide)) (fun _ => ?_)
  refine lv_iload_n hx hb dX5_layMinors_72 rfl (lv_at hl 5 rfl) ?_
  refine lv_iload hx hb dX5_layMinors_73 (lv_at hl 0 rfl) ?_
  refine lv_ishr hx hb dX5_layMinors_75 ?_
  refine lv_eqi (v := 35) (by decide) ?_
  refine lv_iconst (v := 1) hx hb dX5_layMinors_76 (by decide) ?_
  refine lv_iand hx hb dX5_layMinors_77 ?_
  refine lv_eqi (v := 1) (by decide) ?_
  refine lv_iconst (v := 1) hx hb dX5_layMinors_78 (by decide) ?_
  refine lv_icmp_ne (tgt := 129) hx hb dX5_layMinors_79 (by decide) (fun h => absurd (by decide) h) (fun _ => ?_)
  refine lv_aload_n hx hb dX5_layMinors_82 rfl (lv_at hl 4 rfl) ?_
  refine va_get (D := D) (ci := 5) (v := .ref mR) (C := RX5) (T := TX5) (N := 17) hx hb hts k_2 hown hK.1 hP 0 rfl rfl 5 (by decide) k_4 (fun _ h9 => h9) rfl dX5_layMinors_83 ?_
  refine lv_bipush (v := 6) hx hb dX5_layMinors_86 (by decide) ?_
  refine lv_iload_n hx hb dX5_layMinors_88 rfl (lv_at hl 3 rfl) ?_
  refine lv_imul hx hb dX5_layMinors_89 ?_
  refine lv_eqi (v := 12) (by decide) ?_
  refine lv_iload hx hb dX5_layMinors_90 (lv_at hl 0 rfl) ?_
  refine lv_iadd hx hb dX5_layMinors_92 ?_
  refine lv_eqi (v := 12) (by decide) ?_
  refine ld_l hx hb hK.1 hP 1 1 rfl rfl (ix_lit (by decide)) 12 (by decide) (v := fr 12) rfl dX5_layMinors_93 ?_
  refine lv_aload_n hx hb dX5_layMinors_94 rfl (lv_at hl 4 rfl) ?_
  refine va_get (D := D) (ci := 5) (v := .ref mD) (C := RX5) (T := TX5) (N := 17) hx hb hts k_2 hown hK.1 hP 0 rfl rfl 6 (by decide) k_1 (fun _ h9 => h9) rfl dX5_layMinors_95 ?_
  refine lv_iload_n hx hb dX5_layMinors_98 rfl (lv_at hl 5 rfl) ?_
  refine lv_iconst (v := 1) hx hb dX5_layMinors_99 (by decide) ?_
  refine lv_iload hx hb dX5_layMinors_100 (lv_at hl 0 rfl) ?_
  refine lv_ishl hx hb dX5_layMinors_102 ?_
  refine lv_eqi (v := 1) (by decide) ?_
  refine lv_isub hx hb dX5_layMinors_103 ?_
  refine lv_eqi (v := 34) (by decide) ?_
  refine ld_l hx hb hK.1 hP 2 1 rfl rfl (ix_lit (by decide)) 34 (by decide) (v := z5_mw34 fr) rfl dX5_layMinors_104 ?_
  refine lv_lmul hx hb dX5_layMinors_105 ?_
  refine lv_lstore (lv' := [(7, .long ((fr 12) * (z5_mw34 fr))), (6, .int 0), (5, .int 2), (3, .long 0), (2, .int 2), (0, .ref o), (1, .int 35)]) hx hb dX5_layMinors_106 hl (by decide) rfl (fun ls hl => ?_)
  refine lv_lload_n hx hb dX5_layMinors_108 rfl (lv_at hl 3 rfl) ?_
  refine lv_iload hx hb dX5_layMinors_109 (lv_at hl 2 rfl) ?_
  refine lv_iconst (v := 2) hx hb dX5_layMinors_111 (by decide) ?_
  refine lv_irem hx hb dX5_layMinors_112 (by decide) ?_
  refine lv_eqi (v := 0) (by decide) ?_
  refine lv_if_ne (tgt := 121) hx hb dX5_layMinors_113 (by decide) (fun h => absurd (by decide) h) (fun _ => ?_)
  refine lv_lload hx hb dX5_layMinors_116 (lv_at hl 0 rfl) ?_
  refine lv_goto (tgt := 124) hx hb dX5_layMinors_118 (by decide) ?_
  refine lv_ladd hx hb dX5_layMinors_124 ?_
  refine lv_lstore_n (lv' := [(3, .long (0 + ((fr 12) * (z5_mw34 fr)))), (7, .long ((fr 12) * (z5_mw34 fr))), (6, .int 0), (5, .int 2), (2, .int 2), (0, .ref o), (1, .int 35)]) hx hb dX5_layMinors_125 rfl hl (by decide) rfl (fun ls hl => ?_)
  refine lv_iinc (v := 1) (lv' := [(5, .int 1), (3, .long (0 + ((fr 12) * (z5_mw34 fr)))), (7, .long ((fr 12) * (z5_mw34 fr))), (6, .int 0), (2, .int 2), (0, .ref o), (1, .int 35)]) hx hb dX5_layMinors_126 hl (k := 3) rfl (by decide) (by decide) rfl (fun ls hl => ?_)
  refine lv_iinc (v := 1) (lv' := [(6, .int 1), (5, .int 1), (3, .long (0 + ((fr 12) * (z5_mw34 fr)))), (7, .long ((fr 12) * (z5_mw34 fr))), (2, .int 2), (0, .ref o), (1, .int 35)]) hx hb dX5_layMinors_129 hl (k := 3) rfl (by decide) (by decide) rfl (fun ls hl => ?_)
  refine lv_goto (tgt := 60) hx hb dX5_layMinors_132 (by decide) ?_
  refine lv_iload hx hb dX5_layMinors_60 (lv_at hl 0 rfl) ?_
  refine lv_bipush (v := 6) hx hb dX5_layMinors_62 (by decide) ?_
  refine lv_icmp_ge (tgt := 135) hx hb dX5_layMinors_64 (by decide) (fun h => absurd h (by decide)) (fun _ => ?_)
  refine lv_iload_n hx hb dX5_layMinors_67 rfl (lv_at hl 4 rfl) ?_
  refine lv_iconst (v := 5) hx hb dX5_layMinors_68 (by decide) ?_
  refine lv_icmp_ge (tgt := 135) hx hb dX5_layMinors_69 (by decide) (fun h => absurd h (by decide)) (fun _ => ?_)
  refine lv_iload_n hx hb dX5_layMinors_72 rfl (lv_at hl 6 rfl) ?_
  refine lv_iload hx hb dX5_layMinors_73 (lv_at hl 0 rfl) ?_
  refine lv_ishr hx hb dX5_layMinors_75 ?_
  refine lv_eqi (v := 17) (by decide) ?_
  refine lv_iconst (v := 1) hx hb dX5_layMinors_76 (by decide) ?_
  refine lv_iand hx hb dX5_layMinors_77 ?_
  refine lv_eqi (v := 1) (by decide) ?_
  refine lv_iconst (v := 1) hx hb dX5_layMinors_78 (by decide) ?_
  refine lv_icmp_ne (tgt := 129) hx hb dX5_layMinors_79 (by decide) (fun h => absurd (by decide) h) (fun _ => ?_)
  refine lv_aload_n hx hb dX5_layMinors_82 rfl (lv_at hl 5 rfl) ?_
  refine va_get (D := D) (ci := 5) (v := .ref mR) (C := RX5) (T := TX5) (N := 17) hx hb hts k_2 hown hK.1 hP 0 rfl rfl 5 (by decide) k_4 (fun _ h9 => h9) rfl dX5_layMinors_83 ?_
  refine lv_bipush (v := 6) hx hb dX5_layMinors_86 (by decide) ?_
  refine lv_iload_n hx hb dX5_layMinors_88 rfl (lv_at hl 4 rfl) ?_
  refine lv_imul hx hb dX5_layMinors_89 ?_
  refine lv_eqi (v := 12) (by decide) ?_
  refine lv_iload hx hb dX5_layMinors_90 (lv_at hl 0 rfl) ?_
  refine lv_iadd hx hb dX5_layMinors_92 ?_
  refine lv_eqi (v := 13) (by decide) ?_
  refine ld_l hx hb hK.1 hP 1 1 rfl rfl (ix_lit (by decide)) 13 (by decide) (v := fr 13) rfl dX5_layMinors_93 ?_
  refine lv_aload_n hx hb dX5_layMinors_94 rfl (lv_at hl 5 rfl) ?_
  refine va_get (D := D) (ci := 5) (v := .ref mD) (C := RX5) (T := TX5) (N := 17) hx hb hts k_2 hown hK.1 hP 0 rfl rfl 6 (by decide) k_1 (fun _ h9 => h9) rfl dX5_layMinors_95 ?_
  refine lv_iload_n hx hb dX5_layMinors_98 rfl (lv_at hl 6 rfl) ?_
  refine lv_iconst (v := 1) hx hb dX5_layMinors_99 (by decide) ?_
  refine lv_iload hx hb dX5_layMinors_100 (lv_at hl 0 rfl) ?_
  refine lv_ishl hx hb dX5_layMinors_102 ?_
  refine lv_eqi (v := 2) (by decide) ?_
  refine lv_isub hx hb dX5_layMinors_103 ?_
  refine lv_eqi (v := 33) (by decide) ?_
  refine ld_l hx hb hK.1 hP 2 1 rfl rfl (ix_lit (by decide)) 33 (by decide) (v := z5_mw33 fr) rfl dX5_layMinors_104 ?_
  refine lv_lmul hx hb dX5_layMinors_105 ?_
  refine lv_lstore (lv' := [(7, .long ((fr 13) * (z5_mw33 fr))), (6, .int 1), (5, .int 1), (3, .long (0 + ((fr 12) * (z5_mw34 fr)))), (2, .int 2), (0, .ref o), (1, .int 35)]) hx hb dX5_layMinors_106 hl (by decide) rfl (fun ls hl => ?_)
  refine lv_lload_n hx hb dX5_layMinors_108 rfl (lv_at hl 3 rfl) ?_
  refine lv_iload hx hb dX5_layMinors_109 (lv_at hl 2 rfl) ?_
  refine lv_iconst (v := 2) hx hb dX5_layMinors_111 (by decide) ?_
  refine lv_irem hx hb dX5_layMinors_112 (by decide) ?_
  refine lv_eqi (v := 1) (by decide) ?_
  refine lv_if_ne (tgt := 121) hx hb dX5_layMinors_113 (by decide) (fun _ => ?_) (fun h => absurd h (by decide))
  refine lv_lload hx hb dX5_layMinors_121 (lv_at hl 0 rfl) ?_
  refine lv_lneg hx hb dX5_layMinors_123 ?_
  refine lv_ladd hx hb dX5_layMinors_124 ?_
  refine lv_lstore_n (lv' := [(3, .long ((0 + ((fr 12) * (z5_mw34 fr))) + (-((fr 13) * (z5_mw33 fr))))), (7, .long ((fr 13) * (z5_mw33 fr))), (6, .int 1), (5, .int 1), (2, .int 2), (0, .ref o), (1, .int 35)]) hx hb dX5_layMinors_125 rfl hl (by decide) rfl (fun ls hl => ?_)
  refine lv_iinc (v := 0) (lv' := [(5, .int 0), (3, .long ((0 + ((fr 12) * (z5_mw34 fr))) + (-((fr 13) * (z5_mw33 fr))))), (7, .long ((fr 13) * (z5_mw33 fr))), (6, .int 1), (2, .int 2), (0, .ref o), (1, .int 35)]) hx hb dX5_layMinors_126 hl (k := 3) rfl (by decide) (by decide) rfl (fun ls hl => ?_)
  refine lv_iinc (v := 2) (lv' := [(6, .int 2), (5, .int 0), (3, .long ((0 + ((fr 12) * (z5_mw34 fr))) + (-((fr 13) * (z5_mw33 fr))))), (7, .long ((fr 13) * (z5_mw33 fr))), (2, .int 2), (0, .ref o), (1, .int 35)]) hx hb dX5_layMinors_129 hl (k := 3) rfl (by decide) (by decide) rfl (fun ls hl => ?_)
  refine lv_goto (tgt := 60) hx hb dX5_layMinors_132 (by decide) ?_
  refine lv_iload hx hb dX5_layMinors_60 (lv_at hl 0 rfl) ?_
  refine lv_bipush (v := 6) hx hb dX5_layMinors_62 (by decide) ?_
  refine lv_icmp_ge (tgt := 135) hx hb dX5_layMinors_64 (by decide) (fun h => absurd h (by decide)) (fun _ => ?_)
  refine lv_iload_n hx hb dX5_layMinors_67 rfl (lv_at hl 4 rfl) ?_
  refine lv_iconst (v := 5) hx hb dX5_layMinors_68 (by decide) ?_
  refine lv_icmp_ge (tgt := 135) hx hb dX5_layMinors_69 (by decide) (fun h => absurd h (by decide)) (fun _ => ?_)
  refine lv_iload_n hx hb dX5_layMinors_72 rfl (lv_at hl 6 rfl) ?_
  refine lv_iload hx hb dX5_layMinors_73 (lv_at hl 0 rfl) ?_
  refine lv_ishr hx hb dX5_layMinors_75 ?_
  refine lv_eqi (v := 8) (by decide) ?_
  refine lv_iconst (v := 1) hx hb dX5_layMinors_76 (by decide) ?_
  refine lv_iand hx hb dX5_layMinors_77 ?_
  refine lv_eqi (v := 0) (by decide) ?_
  refine lv_iconst (v := 1) hx hb dX5_layMinors_78 (by decide) ?_
  refine lv_icmp_ne (tgt := 129) hx hb dX5_layMinors_79 (by decide) (fun _ => ?_) (fun h => absurd h (by decide))
  refine lv_iinc (v := 3) (lv' := [(6, .int 3), (5, .int 0), (3, .long ((0 + ((fr 12) * (z5_mw34 fr))) + (-((fr 13) * (z5_mw33 fr))))), (7, .long ((fr 13) * (z5_mw33 fr))), (2, .int 2), (0, .ref o), (1, .int 35)]) hx hb dX5_layMinors_129 hl (k := 0) rfl (by decide) (by decide) rfl (fun ls hl => ?_)
  refine lv_goto (tgt := 60) hx hb dX5_layMinors_132 (by decide) ?_
  refine lv_iload hx hb dX5_layMinors_60 (lv_at hl 0 rfl) ?_
  refine lv_bipush (v := 6) hx hb dX5_layMinors_62 (by decide) ?_
  refine lv_icmp_ge (tgt := 135) hx hb dX5_layMinors_64 (by decide) (fun h => absurd h (by decide)) (fun _ => ?_)
  refine lv_iload_n hx hb dX5_layMinors_67 rfl (lv_at hl 4 rfl) ?_
  refine lv_iconst (v := 5) hx hb dX5_layMinors_68 (by decide) ?_
  refine lv_icmp_ge (tgt := 135) hx hb dX5_layMinors_69 (by decide) (fun h => absurd h (by decide)) (fun _ => ?_)
  refine lv_iload_n hx hb dX5_layMinors_72 rfl (lv_at hl 6 rfl) ?_
  refine lv_iload hx hb dX5_layMinors_73 (lv_at hl 0 rfl) ?_
  refine lv_ishr hx hb dX5_layMinors_75 ?_
  refine lv_eqi (v := 4) (by decide) ?_
  refine lv_iconst (v := 1) hx hb dX5_layMinors_76 (by decide) ?_
  refine lv_iand hx hb dX5_layMinors_77 ?_
  refine lv_eqi (v := 0) (by decide) ?_
  refine lv_iconst (v := 1) hx hb dX5_layMinors_78 (by decide) ?_
  refine lv_icmp_ne (tgt := 129) hx hb dX5_layMinors_79 (by decide) (fun _ => ?_) (fun h => absurd h (by decide))
  refine lv_iinc (v := 4) (lv' := [(6, .int 4), (5, .int 0), (3, .long ((0 + ((fr 12) * (z5_mw34 fr))) + (-((fr 13) * (z5_mw33 fr))))), (7, .long ((fr 13) * (z5_mw33 fr))), (2, .int 2), (0, .ref o), (1, .int 35)]) hx hb dX5_layMinors_129 hl (k := 0) rfl (by decide) (by decide) rfl (fun ls hl => ?_)
  refine lv_goto (tgt := 60) hx hb dX5_layMinors_132 (by decide) ?_
  refine lv_iload hx hb dX5_layMinors_60 (lv_at hl 0 rfl) ?_
  refine lv_bipush (v := 6) hx hb dX5_layMinors_62 (by decide) ?_
  refine lv_icmp_ge (tgt := 135) hx hb dX5_layMinors_64 (by decide) (fun h => absurd h (by decide)) (fun _ => ?_)
  refine lv_iload_n hx hb dX5_layMinors_67 rfl (lv_at hl 4 rfl) ?_
  refine lv_iconst (v := 5) hx hb dX5_layMinors_68 (by decide) ?_
  refine lv_icmp_ge (tgt := 135) hx hb dX5_layMinors_69 (by decide) (fun h => absurd h (by decide)) (fun _ => ?_)
  refine lv_iload_n hx hb dX5_layMinors_72 rfl (lv_at hl 6 rfl) ?_
  refine lv_iload hx hb dX5_layMinors_73 (lv_at hl 0 rfl) ?_
  refine lv_ishr hx hb dX5_layMinors_75 ?_
  refine lv_eqi (v := 2) (by decide) ?_
  refine lv_iconst (v := 1) hx hb dX5_layMinors_76 (by decide) ?_
  refine lv_iand hx hb dX5_layMinors_77 ?_
  refine lv_eqi (v := 0) (by decide) ?_
  refine lv_iconst (v := 1) hx hb dX5_layMinors_78 (by decide) ?_
  refine lv_icmp_ne (tgt := 129) hx hb dX5_layMinors_79 (by decide) (fun _ => ?_) (fun h => absurd h (by decide))
  refine lv_iinc (v := 5) (lv' := [(6, .int 5), (5, .int 0), (3, .long ((0 + ((fr 12) * (z5_mw34 fr))) + (-((fr 13) * (z5_mw33 fr))))), (7, .long ((fr 13) * (z5_mw33 fr))), (2, .int 2), (0, .ref o), (1, .int 35)]) hx hb dX5_layMinors_129 hl (k := 0) rfl (by decide) (by decide) rfl (fun ls hl => ?_)
  refine lv_goto (tgt := 60) hx hb dX5_layMinors_132 (by decide) ?_
  refine lv_iload hx hb dX5_layMinors_60 (lv_at hl 0 rfl) ?_
  refine lv_bipush (v := 6) hx hb dX5_layMinors_62 (by decide) ?_
  refine lv_icmp_ge (tgt := 135) hx hb dX5_layMinors_64 (by decide) (fun h => absurd h (by decide)) (fun _ => ?_)
  refine lv_iload_n hx hb dX5_layMinors_67 rfl (lv_at hl 4 rfl) ?_
  refine lv_iconst (v := 5) hx hb dX5_layMinors_68 (by decide) ?_
  refine lv_icmp_ge (tgt := 135) hx hb dX5_layMinors_69 (by decide) (fun h => absurd h (by decide)) (fun _ => ?_)
  refine lv_iload_n hx hb dX5_layMinors_72 rfl (lv_at hl 6 rfl) ?_
  refine lv_iload hx hb dX5_layMinors_73 (lv_at hl 0 rfl) ?_
  refine lv_ishr hx hb dX5_layMinors_75 ?_
  refine lv_eqi (v := 1) (by decide) ?_
  refine lv_iconst (v := 1) hx hb dX5_layMinors_76 (by decide) ?_
  refine lv_iand hx hb dX5_layMinors_77 ?_
  refine lv_eqi (v := 1) (by decide) ?_
  refine lv_iconst (v := 1) hx hb dX5_layMinors_78 (by decide) ?_
  refine lv_icmp_ne (tgt := 129) hx hb dX5_layMinors_79 (by decide) (fun h => absurd (by decide) h) (fun _ => ?_)
  refine lv_aload_n hx hb dX5_layMinors_82 rfl (lv_at hl 5 rfl) ?_
  refine va_get (D := D) (ci := 5) (v := .ref mR) (C := RX5) (T := TX5) (N := 17) hx hb hts k_2 hown hK.1 hP 0 rfl rfl 5 (by decide) k_4 (fun _ h9 => h9) rfl dX5_layMinors_83 ?_
  refine lv_bipush (v := 6) hx hb dX5_layMinors_86 (by decide) ?_
  refine lv_iload_n hx hb dX5_layMinors_88 rfl (lv_at hl 4 rfl) ?_
  refine lv_imul hx hb dX5_layMinors_89 ?_
  refine lv_eqi (v := 12) (by decide) ?_
  refine lv_iload hx hb dX5_layMinors_90 (lv_at hl 0 rfl) ?_
  refine lv_iadd hx hb dX5_layMinors_92 ?_
  refine lv_eqi (v := 17) (by decide) ?_
  refine ld_l hx hb hK.1 hP 1 1 rfl rfl (ix_lit (by decide)) 17 (by decide) (v := fr 17) rfl dX5_layMinors_93 ?_
  refine lv_aload_n hx hb dX5_layMinors_94 rfl (lv_at hl 5 rfl) ?_
  refine va_get (D := D) (ci := 5) (v := .ref mD) (C := RX5) (T := TX5) (N := 17) hx hb hts k_2 hown hK.1 hP 0 rfl rfl 6 (by decide) k_1 (fun _ h9 => h9) rfl dX5_layMinors_95 ?_
  refine lv_iload_n hx hb dX5_layMinors_98 rfl (lv_at hl 6 rfl) ?_
  refine lv_iconst (v := 1) hx hb dX5_layMinors_99 (by decide) ?_
  refine lv_iload hx hb dX5_layMinors_100 (lv_at hl 0 rfl) ?_
  refine lv_ishl hx hb dX5_layMinors_102 ?_
  refine lv_eqi (v := 32) (by decide) ?_
  refine lv_isub hx hb dX5_layMinors_103 ?_
  refine lv_eqi (v := 3) (by decide) ?_
  refine ld_l hx hb hK.1 hP 2 1 rfl rfl (ix_lit (by decide)) 3 (by decide) (v := z5_mw3 fr) rfl dX5_layMinors_104 ?_
  refine lv_lmul hx hb dX5_layMinors_105 ?_
  refine lv_lstore (lv' := [(7, .long ((fr 17) * (z5_mw3 fr))), (6, .int 5), (5, .int 0), (3, .long ((0 + ((fr 12) * (z5_mw34 fr))) + (-((fr 13) * (z5_mw33 fr))))), (2, .int 2), (0, .ref o), (1, .int 35)]) hx hb dX5_layMinors_106 hl (by decide) rfl (fun ls hl => ?_)
  refine lv_lload_n hx hb dX5_layMinors_108 rfl (lv_at hl 3 rfl) ?_
  refine lv_iload hx hb dX5_layMinors_109 (lv_at hl 2 rfl) ?_
  refine lv_iconst (v := 2) hx hb dX5_layMinors_111 (by decide) ?_
  refine lv_irem hx hb dX5_layMinors_112 (by decide) ?_
  refine lv_eqi (v := 0) (by decide) ?_
  refine lv_if_ne (tgt := 121) hx hb dX5_layMinors_113 (by decide) (fun h => absurd (by decide) h) (fun _ => ?_)
  refine lv_lload hx hb dX5_layMinors_116 (lv_at hl 0 rfl) ?_
  refine lv_goto (tgt := 124) hx hb dX5_layMinors_118 (by decide) ?_
  refine lv_ladd hx hb dX5_layMinors_124 ?_
  refine lv_lstore_n (lv' := [(3, .long (((0 + ((fr 12) * (z5_mw34 fr))) + (-((fr 13) * (z5_mw33 fr)))) + ((fr 17) * (z5_mw3 fr)))), (7, .long ((fr 17) * (z5_mw3 fr))), (6, .int 5), (5, .int 0), (2, .int 2), (0, .ref o), (1, .int 35)]) hx hb dX5_layMinors_125 rfl hl (by decide) rfl (fun ls hl => ?_)
  refine lv_iinc (v := (-1)) (lv' := [(5, .int (-1)), (3, .long (((0 + ((fr 12) * (z5_mw34 fr))) + (-((fr 13) * (z5_mw33 fr)))) + ((fr 17) * (z5_mw3 fr)))), (7, .long ((fr 17) * (z5_mw3 fr))), (6, .int 5), (2, .int 2), (0, .ref o), (1, .int 35)]) hx hb dX5_layMinors_126 hl (k := 3) rfl (by decide) (by decide) rfl (fun ls hl => ?_)
  refine lv_iinc (v := 6) (lv' := [(6, .int 6), (5, .int (-1)), (3, .long (((0 + ((fr 12) * (z5_mw34 fr))) + (-((fr 13) * (z5_mw33 fr)))) + ((fr 17) * (z5_mw3 fr)))), (7, .long ((fr 17) * (z5_mw3 fr))), (2, .int 2), (0, .ref o), (1, .int 35)]) hx hb dX5_layMinors_129 hl (k := 3) rfl (by decide) (by decide) rfl (fun ls hl => ?_)
  refine lv_goto (tgt := 60) hx hb dX5_layMinors_132 (by decide) ?_
  refine lv_iload hx hb dX5_layMinors_60 (lv_at hl 0 rfl) ?_
  refine lv_bipush (v := 6) hx hb dX5_layMinors_62 (by decide) ?_
  refine lv_icmp_ge (tgt := 135) hx hb dX5_layMinors_64 (by decide) (fun _ => ?_) (fun h => absurd (by decide) h)
  refine lv_aload_n hx hb dX5_layMinors_135 rfl (lv_at hl 5 rfl) ?_
  refine va_get (D := D) (ci := 5) (v := .ref mD) (C := RX5) (T := TX5) (N := 17) hx hb hts k_2 hown hK.1 hP 0 rfl rfl 6 (by decide) k_1 (fun _ h9 => h9) rfl dX5_layMinors_136 ?_
  refine lv_iload_n hx hb dX5_layMinors_139 rfl (lv_at hl 6 rfl) ?_
  refine lv_lload_n hx hb dX5_layMinors_140 rfl (lv_at hl 2 rfl) ?_
  refine st_l hx hb hK.1 hP hD hS 2 1 rfl rfl (ix_lit (by decide)) 35 (by decide) dX5_layMinors_141 (fun H locs hP hD hS => ?_)
  have hP : va_P D vwCl [kM o mP mL mC mN mF mR mD mV mX mA mK cm mT pm mU mH mI, kJ mR cJ 30 fr, kJ mD cJ 64 (vp_updL (z5_mm35 fr fd) 35 (((0 + ((fr 12) * (z5_mw34 fr))) + (-((fr 13) * (z5_mw33 fr)))) + ((fr 17) * (z5_mw3 fr))))] H := hP
  have hD : va_D A [kM o mP mL mC mN mF mR mD mV mX mA mK cm mT pm mU mH mI, kJ mR cJ 30 fr, kJ mD cJ 64 (vp_updL (z5_mm35 fr fd) 35 (((0 + ((fr 12) * (z5_mw34 fr))) + (-((fr 13) * (z5_mw33 fr)))) + ((fr 17) * (z5_mw3 fr))))] := hD
  have hP : va_P D vwCl [kM o mP mL mC mN mF mR mD mV mX mA mK cm mT pm mU mH mI, kJ mR cJ 30 fr, kJ mD cJ 64 (z5_mm36 fr fd)] H := hP
  have hD : va_D A [kM o mP mL mC mN mF mR mD mV mX mA mK cm mT pm mU mH mI, kJ mR cJ 30 fr, kJ mD cJ 64 (z5_mm36 fr fd)] := hD
  refine lv_iinc (v := 36) (lv' := [(1, .int 36), (6, .int 6), (5, .int (-1)), (3, .long (((0 + ((fr 12) * (z5_mw34 fr))) + (-((fr 13) * (z5_mw33 fr)))) + ((fr 17) * (z5_mw3 fr)))), (7, .long ((fr 17) * (z5_mw3 fr))), (2, .int 2), (0, .ref o)]) hx hb dX5_layMinors_142 hl (k := 6) rfl (by decide) (by decide) rfl (fun ls hl => ?_)
  refine lv_goto (tgt := 9) hx hb dX5_layMinors_145 (by decide) ?_
  exact sg_X5_layMinors_36 hx hb hr hml hown hts hlk hK hA hP hD hS ls (lv_sub hl [6, 0] rfl)
set_option maxHeartbeats 4000000 in
set_option maxRecDepth 100000 in
theorem sg_X5_layMinors_34 {l : Launch} {D : va_G} {cI cJ : ClassId} {pG : Program} {eG : Env} {sG : State} {mG : MethodId} {below : List Frame} {meth : Method} {cG : Code} {A : Nat → Prop} {H : Heap} {locs : List Loc} {o : Nat} {mP : Nat} {mL : Nat} {mC : Nat} {mN : Nat} {mF : Nat} {mR : Nat} {mD : Nat} {mV : Nat} {mX : Nat} {mA : Nat} {mK : Nat} {mT : Nat} {mU : Nat} {mH : Nat} {mI : Nat} {cm : Int32} {pm : Int32} {fr : Nat → Int64} {fd : Nat → Int64} (hx : pG.tables.exec = Jvm.exec) (hb : cG.code = cX5_layMinors) (hr : meth.sig.returnType = none) (hml : cG.maxLocals = 9) (hown : sG.vm.findClass RX5 = some mG.cls) (hts : ∀ x ∈ wsX5_layMinors, x.before ([.ref o] : List Value).toArray sG = true) (hlk : meth.locks = false) (hK : gd_K D cI cJ sG) (hA : ∀ q : Nat, sG.heap.size ≤ q → A q) (hP : va_P D vwCl [kM o mP mL mC mN mF mR mD mV mX mA mK cm mT pm mU mH mI, kJ mR cJ 30 fr, kJ mD cJ 64 (z5_mm34 fr fd)] H) (hD : va_D A [kM o mP mL mC mN mF mR mD mV mX mA mK cm mT pm mU mH mI, kJ mR cJ 30 fr, kJ mD cJ 64 (z5_mm34 fr fd)]) (hS : va_S A sG.heap H locs) (ls : Array Slot) (hl : lv_has ls 9 [(0, .ref o), (1, .int 34)]) : W pG l eG (headSpec wsX5_layMinors ({ frames := 0, cells := 0, slots := 0, locals := 0 })).room sG mG ([.ref o] : List Value).toArray below meth cG H locs 0 0 (MQ below ((qe_v (fun _ : Unit => True) (fun uu => [kM o mP mL mC mN mF mR mD mV mX mA mK cm mT pm mU mH mI, kJ mR cJ 30 fr, kJ mD cJ 64 (z5_layMinors_f2 fr fd)])) D A) ([.ref o] : List Value).toArray sG 0 0 A) (F0 mG 9 ls []) := by
  have k_1 := hts (.fieldLink RX5 29 "ConicRowsModel" "minors" "[J") (by decide +kernel)
  have k_2 : ∀ w ∈ wsX50, w ∈ wsX5_layMinors := by decide +kernel
  have k_3 := hts (.constant RX5 122 (-1000001)) (by decide +kernel)
  have k_4 := hts (.fieldLink RX5 26 "ConicRowsModel" "rows" "[J") (by decide +kernel)
  refine lv_iload_n hx hb dX5_layMinors_9 rfl (lv_at hl 1 rfl) ?_
  refine lv_bipush (v := 64) hx hb dX5_layMinors_10 (by decide) ?_
  refine lv_icmp_ge (tgt := 148) hx hb dX5_layMinors_12 (by decide) (fun h => absurd h (by decide)) (fun _ => ?_)
  refine lv_ldc hx hb hown k_3 dX5_layMinors_15 ?_
  refine lv_istore_n (lv' := [(2, .int (-1000001)), (0, .ref o), (1, .int 34)]) hx hb dX5_layMinors_17 rfl hl (by decide) rfl (fun ls hl => ?_)
  refine lv_iconst (v := 0) hx hb dX5_layMinors_18 (by decide) ?_
  refine lv_istore_n (lv' := [(3, .int 0), (2, .int (-1000001)), (0, .ref o), (1, .int 34)]) hx hb dX5_layMinors_19 rfl hl (by decide) rfl (fun ls hl => ?_)
  refine lv_iload_n hx hb dX5_layMinors_20 rfl (lv_at hl 0 rfl) ?_
  refine lv_bipush (v := 6) hx hb dX5_layMinors_21 (by decide) ?_
  refine lv_icmp_ge (tgt := 52) hx hb dX5_layMinors_23 (by decide) (fun h => absurd h (by decide)) (fun _ => ?_)
  refine lv_iload_n hx hb dX5_layMinors_26 rfl (lv_at hl 1 rfl) ?_
  refine lv_ldc hx hb hown k_3 dX5_layMinors_27 ?_
  refine lv_icmp_ne (tgt := 36) hx hb dX5_layMinors_29 (by decide) (fun h => absurd (by decide) h) (fun _ => ?_)
  refine lv_iconst (v := (-1)) hx hb dX5_layMinors_32 (by decide) ?_
  refine lv_goto (tgt := 37) hx hb dX5_layMinors_33 (by decide) ?_
  refine lv_istore_n (lv' := [(2, .int (-1)), (3, .int 0), (0, .ref o), (1, .int 34)]) hx hb dX5_layMinors_37 rfl hl (by decide) rfl (fun ls hl => ?_)
  refine lv_iload_n hx hb dX5_layMinors_38 rfl (lv_at hl 0 rfl) ?_
  refine lv_iload_n hx hb dX5_layMinors_39 rfl (lv_at hl 3 rfl) ?_
  refine lv_iload_n hx hb dX5_layMinors_40 rfl (lv_at hl 1 rfl) ?_
  refine lv_ishr hx hb dX5_layMinors_41 ?_
  refine lv_eqi (v := 34) (by decide) ?_
  refine lv_iconst (v := 1) hx hb dX5_layMinors_42 (by decide) ?_
  refine lv_iand hx hb dX5_layMinors_43 ?_
  refine lv_eqi (v := 0) (by decide) ?_
  refine lv_iadd hx hb dX5_layMinors_44 ?_
  refine lv_eqi (v := (-1)) (by decide) ?_
  refine lv_istore_n (lv' := [(2, .int (-1)), (3, .int 0), (0, .ref o), (1, .int 34)]) hx hb dX5_layMinors_45 rfl hl (by decide) rfl (fun ls hl => ?_)
  refine lv_iinc (v := 1) (lv' := [(3, .int 1), (2, .int (-1)), (0, .ref o), (1, .int 34)]) hx hb dX5_layMinors_46 hl (k := 1) rfl (by decide) (by decide) rfl (fun ls hl => ?_)
  refine lv_goto (tgt := 20) hx hb dX5_layMinors_49 (by decide) ?_
  refine lv_iload_n hx hb dX5_layMinors_20 rfl (lv_at hl 0 rfl) ?_
  refine lv_bipush (v := 6) hx hb dX5_layMinors_21 (by decide) ?_
  refine lv_icmp_ge (tgt := 52) hx hb dX5_layMinors_23 (by decide) (fun h => absurd h (by decide)) (fun _ => ?_)
  refine lv_iload_n hx hb dX5_layMinors_26 rfl (lv_at hl 1 rfl) ?_
  refine lv_ldc hx hb hown k_3 dX5_layMinors_27 ?_
  refine lv_icmp_ne (tgt := 36) hx hb dX5_layMinors_29 (by decide) (fun _ => ?_) (fun h => absurd h (by decide))
  refine lv_iload_n hx hb dX5_layMinors_36 rfl (lv_at hl 1 rfl) ?_
  refine lv_istore_n (lv' := [(2, .int (-1)), (3, .int 1), (0, .ref o), (1, .int 34)]) hx hb dX5_layMinors_37 rfl hl (by decide) rfl (fun ls hl => ?_)
  refine lv_iload_n hx hb dX5_layMinors_38 rfl (lv_at hl 0 rfl) ?_
  refine lv_iload_n hx hb dX5_layMinors_39 rfl (lv_at hl 3 rfl) ?_
  refine lv_iload_n hx hb dX5_layMinors_40 rfl (lv_at hl 1 rfl) ?_
  refine lv_ishr hx hb dX5_layMinors_41 ?_
  refine lv_eqi (v := 17) (by decide) ?_
  refine lv_iconst (v := 1) hx hb dX5_layMinors_42 (by decide) ?_
  refine lv_iand hx hb dX5_layMinors_43 ?_
  refine lv_eqi (v := 1) (by decide) ?_
  refine lv_iadd hx hb dX5_layMinors_44 ?_
  refine lv_eqi (v := 0) (by decide) ?_
  refine lv_istore_n (lv' := [(2, .int 0), (3, .int 1), (0, .ref o), (1, .int 34)]) hx hb dX5_layMinors_45 rfl hl (by decide) rfl (fun ls hl => ?_)
  refine lv_iinc (v := 2) (lv' := [(3, .int 2), (2, .int 0), (0, .ref o), (1, .int 34)]) hx hb dX5_layMinors_46 hl (k := 1) rfl (by decide) (by decide) rfl (fun ls hl => ?_)
  refine lv_goto (tgt := 20) hx hb dX5_layMinors_49 (by decide) ?_
  refine lv_iload_n hx hb dX5_layMinors_20 rfl (lv_at hl 0 rfl) ?_
  refine lv_bipush (v := 6) hx hb dX5_layMinors_21 (by decide) ?_
  refine lv_icmp_ge (tgt := 52) hx hb dX5_layMinors_23 (by decide) (fun h => absurd h (by decide)) (fun _ => ?_)
  refine lv_iload_n hx hb dX5_layMinors_26 rfl (lv_at hl 1 rfl) ?_
  refine lv_ldc hx hb hown k_3 dX5_layMinors_27 ?_
  refine lv_icmp_ne (tgt := 36) hx hb dX5_layMinors_29 (by decide) (fun _ => ?_) (fun h => absurd h (by decide))
  refine lv_iload_n hx hb dX5_layMinors_36 rfl (lv_at hl 1 rfl) ?_
  refine lv_istore_n (lv' := [(2, .int 0), (3, .int 2), (0, .ref o), (1, .int 34)]) hx hb dX5_layMinors_37 rfl hl (by decide) rfl (fun ls hl => ?_)
  refine lv_iload_n hx hb dX5_layMinors_38 rfl (lv_at hl 0 rfl) ?_
  refine lv_iload_n hx hb dX5_layMinors_39 rfl (lv_at hl 3 rfl) ?_
  refine lv_iload_n hx hb dX5_layMinors_40 rfl (lv_at hl 1 rfl) ?_
  refine lv_ishr hx hb dX5_layMinors_41 ?_
  refine lv_eqi (v := 8) (by decide) ?_
  refine lv_iconst (v := 1) hx hb dX5_layMinors_42 (by decide) ?_
  refine lv_iand hx hb dX5_layMinors_43 ?_
  refine lv_eqi (v := 0) (by decide) ?_
  refine lv_iadd hx hb dX5_layMinors_44 ?_
  refine lv_eqi (v := 0) (by decide) ?_
  refine lv_istore_n (lv' := [(2, .int 0), (3, .int 2), (0, .ref o), (1, .int 34)]) hx hb dX5_layMinors_45 rfl hl (by decide) rfl (fun ls hl => ?_)
  refine lv_iinc (v := 3) (lv' := [(3, .int 3), (2, .int 0), (0, .ref o), (1, .int 34)]) hx hb dX5_layMinors_46 hl (k := 1) rfl (by decide) (by decide) rfl (fun ls hl => ?_)
  refine lv_goto (tgt := 20) hx hb dX5_layMinors_49 (by decide) ?_
  refine lv_iload_n hx hb dX5_layMinors_20 rfl (lv_at hl 0 rfl) ?_
  refine lv_bipush (v := 6) hx hb dX5_layMinors_21 (by decide) ?_
  refine lv_icmp_ge (tgt := 52) hx hb dX5_layMinors_23 (by decide) (fun h => absurd h (by decide)) (fun _ => ?_)
  refine lv_iload_n hx hb dX5_layMinors_26 rfl (lv_at hl 1 rfl) ?_
  refine lv_ldc hx hb hown k_3 dX5_layMinors_27 ?_
  refine lv_icmp_ne (tgt := 36) hx hb dX5_layMinors_29 (by decide) (fun _ => ?_) (fun h => absurd h (by decide))
  refine lv_iload_n hx hb dX5_layMinors_36 rfl (lv_at hl 1 rfl) ?_
  refine lv_istore_n (lv' := [(2, .int 0), (3, .int 3), (0, .ref o), (1, .int 34)]) hx hb dX5_layMinors_37 rfl hl (by decide) rfl (fun ls hl => ?_)
  refine lv_iload_n hx hb dX5_layMinors_38 rfl (lv_at hl 0 rfl) ?_
  refine lv_iload_n hx hb dX5_layMinors_39 rfl (lv_at hl 3 rfl) ?_
  refine lv_iload_n hx hb dX5_layMinors_40 rfl (lv_at hl 1 rfl) ?_
  refine lv_ishr hx hb dX5_layMinors_41 ?_
  refine lv_eqi (v := 4) (by decide) ?_
  refine lv_iconst (v := 1) hx hb dX5_layMinors_42 (by decide) ?_
  refine lv_iand hx hb dX5_layMinors_43 ?_
  refine lv_eqi (v := 0) (by decide) ?_
  refine lv_iadd hx hb dX5_layMinors_44 ?_
  refine lv_eqi (v := 0) (by decide) ?_
  refine lv_istore_n (lv' := [(2, .int 0), (3, .int 3), (0, .ref o), (1, .int 34)]) hx hb dX5_layMinors_45 rfl hl (by decide) rfl (fun ls hl => ?_)
  refine lv_iinc (v := 4) (lv' := [(3, .int 4), (2, .int 0), (0, .ref o), (1, .int 34)]) hx hb dX5_layMinors_46 hl (k := 1) rfl (by decide) (by decide) rfl (fun ls hl => ?_)
  refine lv_goto (tgt := 20) hx hb dX5_layMinors_49 (by decide) ?_
  refine lv_iload_n hx hb dX5_layMinors_20 rfl (lv_at hl 0 rfl) ?_
  refine lv_bipush (v := 6) hx hb dX5_layMinors_21 (by decide) ?_
  refine lv_icmp_ge (tgt := 52) hx hb dX5_layMinors_23 (by decide) (fun h => absurd h (by decide)) (fun _ => ?_)
  refine lv_iload_n hx hb dX5_layMinors_26 rfl (lv_at hl 1 rfl) ?_
  refine lv_ldc hx hb hown k_3 dX5_layMinors_27 ?_
  refine lv_icmp_ne (tgt := 36) hx hb dX5_layMinors_29 (by decide) (fun _ => ?_) (fun h => absurd h (by decide))
  refine lv_iload_n hx hb dX5_layMinors_36 rfl (lv_at hl 1 rfl) ?_
  refine lv_istore_n (lv' := [(2, .int 0), (3, .int 4), (0, .ref o), (1, .int 34)]) hx hb dX5_layMinors_37 rfl hl (by decide) rfl (fun ls hl => ?_)
  refine lv_iload_n hx hb dX5_layMinors_38 rfl (lv_at hl 0 rfl) ?_
  refine lv_iload_n hx hb dX5_layMinors_39 rfl (lv_at hl 3 rfl) ?_
  refine lv_iload_n hx hb dX5_layMinors_40 rfl (lv_at hl 1 rfl) ?_
  refine lv_ishr hx hb dX5_layMinors_41 ?_
  refine lv_eqi (v := 2) (by decide) ?_
  refine lv_iconst (v := 1) hx hb dX5_layMinors_42 (by decide) ?_
  refine lv_iand hx hb dX5_layMinors_43 ?_
  refine lv_eqi (v := 0) (by decide) ?_
  refine lv_iadd hx hb dX5_layMinors_44 ?_
  refine lv_eqi (v := 0) (by decide) ?_
  refine lv_istore_n (lv' := [(2, .int 0), (3, .int 4), (0, .ref o), (1, .int 34)]) hx hb dX5_layMinors_45 rfl hl (by decide) rfl (fun ls hl => ?_)
  refine lv_iinc (v := 5) (lv' := [(3, .int 5), (2, .int 0), (0, .ref o), (1, .int 34)]) hx hb dX5_layMinors_46 hl (k := 1) rfl (by decide) (by decide) rfl (fun ls hl => ?_)
  refine lv_goto (tgt := 20) hx hb dX5_layMinors_49 (by decide) ?_
  refine lv_iload_n hx hb dX5_layMinors_20 rfl (lv_at hl 0 rfl) ?_
  refine lv_bipush (v := 6) hx hb dX5_layMinors_21 (by decide) ?_
  refine lv_icmp_ge (tgt := 52) hx hb dX5_layMinors_23 (by decide) (fun h => absurd h (by decide)) (fun _ => ?_)
  refine lv_iload_n hx hb dX5_layMinors_26 rfl (lv_at hl 1 rfl) ?_
  refine lv_ldc hx hb hown k_3 dX5_layMinors_27 ?_
  refine lv_icmp_ne (tgt := 36) hx hb dX5_layMinors_29 (by decide) (fun _ => ?_) (fun h => absurd h (by decide))
  refine lv_iload_n hx hb dX5_layMinors_36 rfl (lv_at hl 1 rfl) ?_
  refine lv_istore_n (lv' := [(2, .int 0), (3, .int 5), (0, .ref o), (1, .int 34)]) hx hb dX5_layMinors_37 rfl hl (by decide) rfl (fun ls hl => ?_)
  refine lv_iload_n hx hb dX5_layMinors_38 rfl (lv_at hl 0 rfl) ?_
  refine lv_iload_n hx hb dX5_layMinors_39 rfl (lv_at hl 3 rfl) ?_
  refine lv_iload_n hx hb dX5_layMinors_40 rfl (lv_at hl 1 rfl) ?_
  refine lv_ishr hx hb dX5_layMinors_41 ?_
  refine lv_eqi (v := 1) (by decide) ?_
  refine lv_iconst (v := 1) hx hb dX5_layMinors_42 (by decide) ?_
  refine lv_iand hx hb dX5_layMinors_43 ?_
  refine lv_eqi (v := 1) (by decide) ?_
  refine lv_iadd hx hb dX5_layMinors_44 ?_
  refine lv_eqi (v := 1) (by decide) ?_
  refine lv_istore_n (lv' := [(2, .int 1), (3, .int 5), (0, .ref o), (1, .int 34)]) hx hb dX5_layMinors_45 rfl hl (by decide) rfl (fun ls hl => ?_)
  refine lv_iinc (v := 6) (lv' := [(3, .int 6), (2, .int 1), (0, .ref o), (1, .int 34)]) hx hb dX5_layMinors_46 hl (k := 1) rfl (by decide) (by decide) rfl (fun ls hl => ?_)
  refine lv_goto (tgt := 20) hx hb dX5_layMinors_49 (by decide) ?_
  refine lv_iload_n hx hb dX5_layMinors_20 rfl (lv_at hl 0 rfl) ?_
  refine lv_bipush (v := 6) hx hb dX5_layMinors_21 (by decide) ?_
  refine lv_icmp_ge (tgt := 52) hx hb dX5_layMinors_23 (by decide) (fun _ => ?_) (fun h => absurd (by decide) h)
  refine lv_lconst (v := 0) hx hb dX5_layMinors_52 (by decide) ?_
  refine lv_lstore_n (lv' := [(3, .long 0), (2, .int 1), (0, .ref o), (1, .int 34)]) hx hb dX5_layMinors_53 rfl hl (by decide) rfl (fun ls hl => ?_)
  refine lv_iload_n hx hb dX5_layMinors_54 rfl (lv_at hl 1 rfl) ?_
  refine lv_istore (lv' := [(5, .int 1), (3, .long 0), (2, .int 1), (0, .ref o), (1, .int 34)]) hx hb dX5_layMinors_55 hl (by decide) rfl (fun ls hl => ?_)
  refine lv_iconst (v := 0) hx hb dX5_layMinors_57 (by decide) ?_
  refine lv_istore (lv' := [(6, .int 0), (5, .int 1), (3, .long 0), (2, .int 1), (0, .ref o), (1, .int 34)]) hx hb dX5_layMinors_58 hl (by decide) rfl (fun ls hl => ?_)
  refine lv_iload hx hb dX5_layMinors_60 (lv_at hl 0 rfl) ?_
  refine lv_bipush (v := 6) hx hb dX5_layMinors_62 (by decide) ?_
  refine lv_icmp_ge (tgt := 135) hx hb dX5_layMinors_64 (by decide) (fun h => absurd h (by decide)) (fun _ => ?_)
  refine lv_iload_n hx hb dX5_layMinors_67 rfl (lv_at hl 3 rfl) ?_
  refine lv_iconst (v := 5) hx hb dX5_layMinors_68 (by decide) ?_
  refine lv_icmp_ge (tgt := 135) hx hb dX5_layMinors_69 (by decide) (fun h => absurd h (by decide)) (fun _ => ?_)
  refine lv_iload_n hx hb dX5_layMinors_72 rfl (lv_at hl 5 rfl) ?_
  refine lv_iload hx hb dX5_layMinors_73 (lv_at hl 0 rfl) ?_
  refine lv_ishr hx hb dX5_layMinors_75 ?_
  refine lv_eqi (v := 34) (by decide) ?_
  refine lv_iconst (v := 1) hx hb dX5_layMinors_76 (by decide) ?_
  refine lv_iand hx hb dX5_layMinors_77 ?_
  refine lv_eqi (v := 0) (by decide) ?_
  refine lv_iconst (v := 1) hx hb dX5_layMinors_78 (by decide) ?_
  refine lv_icmp_ne (tgt := 129) hx hb dX5_layMinors_79 (by decide) (fun _ => ?_) (fun h => absurd h (by decide))
  refine lv_iinc (v := 1) (lv' := [(6, .int 1), (5, .int 1), (3, .long 0), (2, .int 1), (0, .ref o), (1, .int 34)]) hx hb dX5_layMinors_129 hl (k := 0) rfl (by decide) (by decide) rfl (fun ls hl => ?_)
  refine lv_goto (tgt := 60) hx hb dX5_layMinors_132 (by decide) ?_
  refine lv_iload hx hb dX5_layMinors_60 (lv_at hl 0 rfl) ?_
  refine lv_bipush (v := 6) hx hb dX5_layMinors_62 (by decide) ?_
  refine lv_icmp_ge (tgt := 135) hx hb dX5_layMinors_64 (by decide) (fun h => absurd h (by decide)) (fun _ => ?_)
  refine lv_iload_n hx hb dX5_layMinors_67 rfl (lv_at hl 3 rfl) ?_
  refine lv_iconst (v := 5) hx hb dX5_layMinors_68 (by decide) ?_
  refine lv_icmp_ge (tgt := 135) hx hb dX5_layMinors_69 (by decide) (fun h => absurd h (by decide)) (fun _ => ?_)
  refine lv_iload_n hx hb dX5_layMinors_72 rfl (lv_at hl 5 rfl) ?_
  refine lv_iload hx hb dX5_layMinors_73 (lv_at hl 0 rfl) ?_
  refine lv_ishr hx hb dX5_layMinors_75 ?_
  refine lv_eqi (v := 17) (by decide) ?_
  refine lv_iconst (v := 1) hx hb dX5_layMinors_76 (by decide) ?_
  refine lv_iand hx hb dX5_layMinors_77 ?_
  refine lv_eqi (v := 1) (by decide) ?_
  refine lv_iconst (v := 1) hx hb dX5_layMinors_78 (by decide) ?_
  refine lv_icmp_ne (tgt := 129) hx hb dX5_layMinors_79 (by decide) (fun h => absurd (by decide) h) (fun _ => ?_)
  refine lv_aload_n hx hb dX5_layMinors_82 rfl (lv_at hl 4 rfl) ?_
  refine va_get (D := D) (ci := 5) (v := .ref mR) (C := RX5) (T := TX5) (N := 17) hx hb hts k_2 hown hK.1 hP 0 rfl rfl 5 (by decide) k_4 (fun _ h9 => h9) rfl dX5_layMinors_83 ?_
  refine lv_bipush (v := 6) hx hb dX5_layMinors_86 (by decide) ?_
  refine lv_iload_n hx hb dX5_layMinors_88 rfl (lv_at hl 3 rfl) ?_
  refine lv_imul hx hb dX5_layMinors_89 ?_
  refine lv_eqi (v := 6) (by decide) ?_
  refine lv_iload hx hb dX5_layMinors_90 (lv_at hl 0 rfl) ?_
  refine lv_iadd hx hb dX5_layMinors_92 ?_
  refine lv_eqi (v := 7) (by decide) ?_
  refine ld_l hx hb hK.1 hP 1 1 rfl rfl (ix_lit (by decide)) 7 (by decide) (v := fr 7) rfl dX5_layMinors_93 ?_
  refine lv_aload_n hx hb dX5_layMinors_94 rfl (lv_at hl 4 rfl) ?_
  refine va_get (D := D) (ci := 5) (v := .ref mD) (C := RX5) (T := TX5) (N := 17) hx hb hts k_2 hown hK.1 hP 0 rfl rfl 6 (by decide) k_1 (fun _ h9 => h9) rfl dX5_layMinors_95 ?_
  refine lv_iload_n hx hb dX5_layMinors_98 rfl (lv_at hl 5 rfl) ?_
  refine lv_iconst (v := 1) hx hb dX5_layMinors_99 (by decide) ?_
  refine lv_iload hx hb dX5_layMinors_100 (lv_at hl 0 rfl) ?_
  refine lv_ishl hx hb dX5_layMinors_102 ?_
  refine lv_eqi (v := 2) (by decide) ?_
  refine lv_isub hx hb dX5_layMinors_103 ?_
  refine lv_eqi (v := 32) (by decide) ?_
  refine ld_l hx hb hK.1 hP 2 1 rfl rfl (ix_lit (by decide)) 32 (by decide) (v := z5_mw32 fr) rfl dX5_layMinors_104 ?_
  refine lv_lmul hx hb dX5_layMinors_105 ?_
  refine lv_lstore (lv' := [(7, .long ((fr 7) * (z5_mw32 fr))), (6, .int 1), (5, .int 1), (3, .long 0), (2, .int 1), (0, .ref o), (1, .int 34)]) hx hb dX5_layMinors_106 hl (by decide) rfl (fun ls hl => ?_)
  refine lv_lload_n hx hb dX5_layMinors_108 rfl (lv_at hl 3 rfl) ?_
  refine lv_iload hx hb dX5_layMinors_109 (lv_at hl 2 rfl) ?_
  refine lv_iconst (v := 2) hx hb dX5_layMinors_111 (by decide) ?_
  refine lv_irem hx hb dX5_layMinors_112 (by decide) ?_
  refine lv_eqi (v := 1) (by decide) ?_
  refine lv_if_ne (tgt := 121) hx hb dX5_layMinors_113 (by decide) (fun _ => ?_) (fun h => absurd h (by decide))
  refine lv_lload hx hb dX5_layMinors_121 (lv_at hl 0 rfl) ?_
  refine lv_lneg hx hb dX5_layMinors_123 ?_
  refine lv_ladd hx hb dX5_layMinors_124 ?_
  refine lv_lstore_n (lv' := [(3, .long (0 + (-((fr 7) * (z5_mw32 fr))))), (7, .long ((fr 7) * (z5_mw32 fr))), (6, .int 1), (5, .int 1), (2, .int 1), (0, .ref o), (1, .int 34)]) hx hb dX5_layMinors_125 rfl hl (by decide) rfl (fun ls hl => ?_)
  refine lv_iinc (v := 0) (lv' := [(5, .int 0), (3, .long (0 + (-((fr 7) * (z5_mw32 fr))))), (7, .long ((fr 7) * (z5_mw32 fr))), (6, .int 1), (2, .int 1), (0, .ref o), (1, .int 34)]) hx hb dX5_layMinors_126 hl (k := 3) rfl (by decide) (by decide) rfl (fun ls hl => ?_)
  refine lv_iinc (v := 2) (lv' := [(6, .int 2), (5, .int 0), (3, .long (0 + (-((fr 7) * (z5_mw32 fr))))), (7, .long ((fr 7) * (z5_mw32 fr))), (2, .int 1), (0, .ref o), (1, .int 34)]) hx hb dX5_layMinors_129 hl (k := 3) rfl (by decide) (by decide) rfl (fun ls hl => ?_)
  refine lv_goto (tgt := 60) hx hb dX5_layMinors_132 (by decide) ?_
  refine lv_iload hx hb dX5_layMinors_60 (lv_at hl 0 rfl) ?_
  refine lv_bipush (v := 6) hx hb dX5_layMinors_62 (by decide) ?_
  refine lv_icmp_ge (tgt := 135) hx hb dX5_layMinors_64 (by decide) (fun h => absurd h (by decide)) (fun _ => ?_)
  refine lv_iload_n hx hb dX5_layMinors_67 rfl (lv_at hl 4 rfl) ?_
  refine lv_iconst (v := 5) hx hb dX5_layMinors_68 (by decide) ?_
  refine lv_icmp_ge (tgt := 135) hx hb dX5_layMinors_69 (by decide) (fun h => absurd h (by decide)) (fun _ => ?_)
  refine lv_iload_n hx hb dX5_layMinors_72 rfl (lv_at hl 6 rfl) ?_
  refine lv_iload hx hb dX5_layMinors_73 (lv_at hl 0 rfl) ?_
  refine lv_ishr hx hb dX5_layMinors_75 ?_
  refine lv_eqi (v := 8) (by decide) ?_
  refine lv_iconst (v := 1) hx hb dX5_layMinors_76 (by decide) ?_
  refine lv_iand hx hb dX5_layMinors_77 ?_
  refine lv_eqi (v := 0) (by decide) ?_
  refine lv_iconst (v := 1) hx hb dX5_layMinors_78 (by decide) ?_
  refine lv_icmp_ne (tgt := 129) hx hb dX5_layMinors_79 (by decide) (fun _ => ?_) (fun h => absurd h (by decide))
  refine lv_iinc (v := 3) (lv' := [(6, .int 3), (5, .int 0), (3, .long (0 + (-((fr 7) * (z5_mw32 fr))))), (7, .long ((fr 7) * (z5_mw32 fr))), (2, .int 1), (0, .ref o), (1, .int 34)]) hx hb dX5_layMinors_129 hl (k := 0) rfl (by decide) (by decide) rfl (fun ls hl => ?_)
  refine lv_goto (tgt := 60) hx hb dX5_layMinors_132 (by decide) ?_
  refine lv_iload hx hb dX5_layMinors_60 (lv_at hl 0 rfl) ?_
  refine lv_bipush (v := 6) hx hb dX5_layMinors_62 (by decide) ?_
  refine lv_icmp_ge (tgt := 135) hx hb dX5_layMinors_64 (by decide) (fun h => absurd h (by decide)) (fun _ => ?_)
  refine lv_iload_n hx hb dX5_layMinors_67 rfl (lv_at hl 4 rfl) ?_
  refine lv_iconst (v := 5) hx hb dX5_layMinors_68 (by decide) ?_
  refine lv_icmp_ge (tgt := 135) hx hb dX5_layMinors_69 (by decide) (fun h => absurd h (by decide)) (fun _ => ?_)
  refine lv_iload_n hx hb dX5_layMinors_72 rfl (lv_at hl 6 rfl) ?_
  refine lv_iload hx hb dX5_layMinors_73 (lv_at hl 0 rfl) ?_
  refine lv_ishr hx hb dX5_layMinors_75 ?_
  refine lv_eqi (v := 4) (by decide) ?_
  refine lv_iconst (v := 1) hx hb dX5_layMinors_76 (by decide) ?_
  refine lv_iand hx hb dX5_layMinors_77 ?_
  refine lv_eqi (v := 0) (by decide) ?_
  refine lv_iconst (v := 1) hx hb dX5_layMinors_78 (by decide) ?_
  refine lv_icmp_ne (tgt := 129) hx hb dX5_layMinors_79 (by decide) (fun _ => ?_) (fun h => absurd h (by decide))
  refine lv_iinc (v := 4) (lv' := [(6, .int 4), (5, .int 0), (3, .long (0 + (-((fr 7) * (z5_mw32 fr))))), (7, .long ((fr 7) * (z5_mw32 fr))), (2, .int 1), (0, .ref o), (1, .int 34)]) hx hb dX5_layMinors_129 hl (k := 0) rfl (by decide) (by decide) rfl (fun ls hl => ?_)
  refine lv_goto (tgt := 60) hx hb dX5_layMinors_132 (by decide) ?_
  refine lv_iload hx hb dX5_layMinors_60 (lv_at hl 0 rfl) ?_
  refine lv_bipush (v := 6) hx hb dX5_layMinors_62 (by decide) ?_
  refine lv_icmp_ge (tgt := 135) hx hb dX5_layMinors_64 (by decide) (fun h => absurd h (by decide)) (fun _ => ?_)
  refine lv_iload_n hx hb dX5_layMinors_67 rfl (lv_at hl 4 rfl) ?_
  refine lv_iconst (v := 5) hx hb dX5_layMinors_68 (by decide) ?_
  refine lv_icmp_ge (tgt := 135) hx hb dX5_layMinors_69 (by decide) (fun h => absurd h (by decide)) (fun _ => ?_)
  refine lv_iload_n hx hb dX5_layMinors_72 rfl (lv_at hl 6 rfl) ?_
  refine lv_iload hx hb dX5_layMinors_73 (lv_at hl 0 rfl) ?_
  refine lv_ishr hx hb dX5_layMinors_75 ?_
  refine lv_eqi (v := 2) (by decide) ?_
  refine lv_iconst (v := 1) hx hb dX5_layMinors_76 (by decide) ?_
  refine lv_iand hx hb dX5_layMinors_77 ?_
  refine lv_eqi (v := 0) (by decide) ?_
  refine lv_iconst (v := 1) hx hb dX5_layMinors_78 (by decide) ?_
  refine lv_icmp_ne (tgt := 129) hx hb dX5_layMinors_79 (by decide) (fun _ => ?_) (fun h => absurd h (by decide))
  refine lv_iinc (v := 5) (lv' := [(6, .int 5), (5, .int 0), (3, .long (0 + (-((fr 7) * (z5_mw32 fr))))), (7, .long ((fr 7) * (z5_mw32 fr))), (2, .int 1), (0, .ref o), (1, .int 34)]) hx hb dX5_layMinors_129 hl (k := 0) rfl (by decide) (by decide) rfl (fun ls hl => ?_)
  refine lv_goto (tgt := 60) hx hb dX5_layMinors_132 (by decide) ?_
  refine lv_iload hx hb dX5_layMinors_60 (lv_at hl 0 rfl) ?_
  refine lv_bipush (v := 6) hx hb dX5_layMinors_62 (by decide) ?_
  refine lv_icmp_ge (tgt := 135) hx hb dX5_layMinors_64 (by decide) (fun h => absurd h (by decide)) (fun _ => ?_)
  refine lv_iload_n hx hb dX5_layMinors_67 rfl (lv_at hl 4 rfl) ?_
  refine lv_iconst (v := 5) hx hb dX5_layMinors_68 (by decide) ?_
  refine lv_icmp_ge (tgt := 135) hx hb dX5_layMinors_69 (by decide) (fun h => absurd h (by decide)) (fun _ => ?_)
  refine lv_iload_n hx hb dX5_layMinors_72 rfl (lv_at hl 6 rfl) ?_
  refine lv_iload hx hb dX5_layMinors_73 (lv_at hl 0 rfl) ?_
  refine lv_ishr hx hb dX5_layMinors_75 ?_
  refine lv_eqi (v := 1) (by decide) ?_
  refine lv_iconst (v := 1) hx hb dX5_layMinors_76 (by decide) ?_
  refine lv_iand hx hb dX5_layMinors_77 ?_
  refine lv_eqi (v := 1) (by decide) ?_
  refine lv_iconst (v := 1) hx hb dX5_layMinors_78 (by decide) ?_
  refine lv_icmp_ne (tgt := 129) hx hb dX5_layMinors_79 (by decide) (fun h => absurd (by decide) h) (fun _ => ?_)
  refine lv_aload_n hx hb dX5_layMinors_82 rfl (lv_at hl 5 rfl) ?_
  refine va_get (D := D) (ci := 5) (v := .ref mR) (C := RX5) (T := TX5) (N := 17) hx hb hts k_2 hown hK.1 hP 0 rfl rfl 5 (by decide) k_4 (fun _ h9 => h9) rfl dX5_layMinors_83 ?_
  refine lv_bipush (v := 6) hx hb dX5_layMinors_86 (by decide) ?_
  refine lv_iload_n hx hb dX5_layMinors_88 rfl (lv_at hl 4 rfl) ?_
  refine lv_imul hx hb dX5_layMinors_89 ?_
  refine lv_eqi (v := 6) (by decide) ?_
  refine lv_iload hx hb dX5_layMinors_90 (lv_at hl 0 rfl) ?_
  refine lv_iadd hx hb dX5_layMinors_92 ?_
  refine lv_eqi (v := 11) (by decide) ?_
  refine ld_l hx hb hK.1 hP 1 1 rfl rfl (ix_lit (by decide)) 11 (by decide) (v := fr 11) rfl dX5_layMinors_93 ?_
  refine lv_aload_n hx hb dX5_layMinors_94 rfl (lv_at hl 5 rfl) ?_
  refine va_get (D := D) (ci := 5) (v := .ref mD) (C := RX5) (T := TX5) (N := 17) hx hb hts k_2 hown hK.1 hP 0 rfl rfl 6 (by decide) k_1 (fun _ h9 => h9) rfl dX5_layMinors_95 ?_
  refine lv_iload_n hx hb dX5_layMinors_98 rfl (lv_at hl 6 rfl) ?_
  refine lv_iconst (v := 1) hx hb dX5_layMinors_99 (by decide) ?_
  refine lv_iload hx hb dX5_layMinors_100 (lv_at hl 0 rfl) ?_
  refine lv_ishl hx hb dX5_layMinors_102 ?_
  refine lv_eqi (v := 32) (by decide) ?_
  refine lv_isub hx hb dX5_layMinors_103 ?_
  refine lv_eqi (v := 2) (by decide) ?_
  refine ld_l hx hb hK.1 hP 2 1 rfl rfl (ix_lit (by decide)) 2 (by decide) (v := z5_mw2 fr) rfl dX5_layMinors_104 ?_
  refine lv_lmul hx hb dX5_layMinors_105 ?_
  refine lv_lstore (lv' := [(7, .long ((fr 11) * (z5_mw2 fr))), (6, .int 5), (5, .int 0), (3, .long (0 + (-((fr 7) * (z5_mw32 fr))))), (2, .int 1), (0, .ref o), (1, .int 34)]) hx hb dX5_layMinors_106 hl (by decide) rfl (fun ls hl => ?_)
  refine lv_lload_n hx hb dX5_layMinors_108 rfl (lv_at hl 3 rfl) ?_
  refine lv_iload hx hb dX5_layMinors_109 (lv_at hl 2 rfl) ?_
  refine lv_iconst (v := 2) hx hb dX5_layMinors_111 (by decide) ?_
  refine lv_irem hx hb dX5_layMinors_112 (by decide) ?_
  refine lv_eqi (v := 0) (by decide) ?_
  refine lv_if_ne (tgt := 121) hx hb dX5_layMinors_113 (by decide) (fun h => absurd (by decide) h) (fun _ => ?_)
  refine lv_lload hx hb dX5_layMinors_116 (lv_at hl 0 rfl) ?_
  refine lv_goto (tgt := 124) hx hb dX5_layMinors_118 (by decide) ?_
  refine lv_ladd hx hb dX5_layMinors_124 ?_
  refine lv_lstore_n (lv' := [(3, .long ((0 + (-((fr 7) * (z5_mw32 fr)))) + ((fr 11) * (z5_mw2 fr)))), (7, .long ((fr 11) * (z5_mw2 fr))), (6, .int 5), (5, .int 0), (2, .int 1), (0, .ref o), (1, .int 34)]) hx hb dX5_layMinors_125 rfl hl (by decide) rfl (fun ls hl => ?_)
  refine lv_iinc (v := (-1)) (lv' := [(5, .int (-1)), (3, .long ((0 + (-((fr 7) * (z5_mw32 fr)))) + ((fr 11) * (z5_mw2 fr)))), (7, .long ((fr 11) * (z5_mw2 fr))), (6, .int 5), (2, .int 1), (0, .ref o), (1, .int 34)]) hx hb dX5_layMinors_126 hl (k := 3) rfl (by decide) (by decide) rfl (fun ls hl => ?_)
  refine lv_iinc (v := 6) (lv' := [(6, .int 6), (5, .int (-1)), (3, .long ((0 + (-((fr 7) * (z5_mw32 fr)))) + ((fr 11) * (z5_mw2 fr)))), (7, .long ((fr 11) * (z5_mw2 fr))), (2, .int 1), (0, .ref o), (1, .int 34)]) hx hb dX5_layMinors_129 hl (k := 3) rfl (by decide) (by decide) rfl (fun ls hl => ?_)
  refine lv_goto (tgt := 60) hx hb dX5_layMinors_132 (by decide) ?_
  refine lv_iload hx hb dX5_layMinors_60 (lv_at hl 0 rfl) ?_
  refine lv_bipush (v := 6) hx hb dX5_layMinors_62 (by decide) ?_
  refine lv_icmp_ge (tgt := 135) hx hb dX5_layMinors_64 (by decide) (fun _ => ?_) (fun h => absurd (by decide) h)
  refine lv_aload_n hx hb dX5_layMinors_135 rfl (lv_at hl 5 rfl) ?_
  refine va_get (D := D) (ci := 5) (v := .ref mD) (C := RX5) (T := TX5) (N := 17) hx hb hts k_2 hown hK.1 hP 0 rfl rfl 6 (by decide) k_1 (fun _ h9 => h9) rfl dX5_layMinors_136 ?_
  refine lv_iload_n hx hb dX5_layMinors_139 rfl (lv_at hl 6 rfl) ?_
  refine lv_lload_n hx hb dX5_layMinors_140 rfl (lv_at hl 2 rfl) ?_
  refine st_l hx hb hK.1 hP hD hS 2 1 rfl rfl (ix_lit (by decide)) 34 (by decide) dX5_layMinors_141 (fun H locs hP hD hS => ?_)
  have hP : va_P D vwCl [kM o mP mL mC mN mF mR mD mV mX mA mK cm mT pm mU mH mI, kJ mR cJ 30 fr, kJ mD cJ 64 (vp_updL (z5_mm34 fr fd) 34 ((0 + (-((fr 7) * (z5_mw32 fr)))) + ((fr 11) * (z5_mw2 fr))))] H := hP
  have hD : va_D A [kM o mP mL mC mN mF mR mD mV mX mA mK cm mT pm mU mH mI, kJ mR cJ 30 fr, kJ mD cJ 64 (vp_updL (z5_mm34 fr fd) 34 ((0 + (-((fr 7) * (z5_mw32 fr)))) + ((fr 11) * (z5_mw2 fr))))] := hD
  have hP : va_P D vwCl [kM o mP mL mC mN mF mR mD mV mX mA mK cm mT pm mU mH mI, kJ mR cJ 30 fr, kJ mD cJ 64 (z5_mm35 fr fd)] H := hP
  have hD : va_D A [kM o mP mL mC mN mF mR mD mV mX mA mK cm mT pm mU mH mI, kJ mR cJ 30 fr, kJ mD cJ 64 (z5_mm35 fr fd)] := hD
  refine lv_iinc (v := 35) (lv' := [(1, .int 35), (6, .int 6), (5, .int (-1)), (3, .long ((0 + (-((fr 7) * (z5_mw32 fr)))) + ((fr 11) * (z5_mw2 fr)))), (7, .long ((fr 11) * (z5_mw2 fr))), (2, .int 1), (0, .ref o)]) hx hb dX5_layMinors_142 hl (k := 6) rfl (by decide) (by decide) rfl (fun ls hl => ?_)
  refine lv_goto (tgt := 9) hx hb dX5_layMinors_145 (by decide) ?_
  exact sg_X5_layMinors_35 hx hb hr hml hown hts hlk hK hA hP hD hS ls (lv_sub hl [6, 0] rfl)
set_option maxHeartbeats 4000000 in
set_option maxRecDepth 100000 in
theorem sg_X5_layMinors_33 {l : Launch} {D : va_G} {cI cJ : ClassId} {pG : Program} {eG : Env} {sG : State} {mG : MethodId} {below : List Frame} {meth : Method} {cG : Code} {A : Nat → Prop} {H : Heap} {locs : List Loc} {o : Nat} {mP : Nat} {mL : Nat} {mC : Nat} {mN : Nat} {mF : Nat} {mR : Nat} {mD : Nat} {mV : Nat} {mX : Nat} {mA : Nat} {mK : Nat} {mT : Nat} {mU : Nat} {mH : Nat} {mI : Nat} {cm : Int32} {pm : Int32} {fr : Nat → Int64} {fd : Nat → Int64} (hx : pG.tables.exec = Jvm.exec) (hb : cG.code = cX5_layMinors) (hr : meth.sig.returnType = none) (hml : cG.maxLocals = 9) (hown : sG.vm.findClass RX5 = some mG.cls) (hts : ∀ x ∈ wsX5_layMinors, x.before ([.ref o] : List Value).toArray sG = true) (hlk : meth.locks = false) (hK : gd_K D cI cJ sG) (hA : ∀ q : Nat, sG.heap.size ≤ q → A q) (hP : va_P D vwCl [kM o mP mL mC mN mF mR mD mV mX mA mK cm mT pm mU mH mI, kJ mR cJ 30 fr, kJ mD cJ 64 (z5_mm33 fr fd)] H) (hD : va_D A [kM o mP mL mC mN mF mR mD mV mX mA mK cm mT pm mU mH mI, kJ mR cJ 30 fr, kJ mD cJ 64 (z5_mm33 fr fd)]) (hS : va_S A sG.heap H locs) (ls : Array Slot) (hl : lv_has ls 9 [(0, .ref o), (1, .int 33)]) : W pG l eG (headSpec wsX5_layMinors ({ frames := 0, cells := 0, slots := 0, locals := 0 })).room sG mG ([.ref o] : List Value).toArray below meth cG H locs 0 0 (MQ below ((qe_v (fun _ : Unit => True) (fun uu => [kM o mP mL mC mN mF mR mD mV mX mA mK cm mT pm mU mH mI, kJ mR cJ 30 fr, kJ mD cJ 64 (z5_layMinors_f2 fr fd)])) D A) ([.ref o] : List Value).toArray sG 0 0 A) (F0 mG 9 ls []) := by
  have k_1 := hts (.fieldLink RX5 29 "ConicRowsModel" "minors" "[J") (by decide +kernel)
  have k_2 : ∀ w ∈ wsX50, w ∈ wsX5_layMinors := by decide +kernel
  have k_3 := hts (.constant RX5 122 (-1000001)) (by decide +kernel)
  have k_4 := hts (.fieldLink RX5 26 "ConicRowsModel" "rows" "[J") (by decide +kernel)
  refine lv_iload_n hx hb dX5_layMinors_9 rfl (lv_at hl 1 rfl) ?_
  refine lv_bipush (v := 64) hx hb dX5_layMinors_10 (by decide) ?_
  refine lv_icmp_ge (tgt := 148) hx hb dX5_layMinors_12 (by decide) (fun h => absurd h (by decide)) (fun _ => ?_)
  refine lv_ldc hx hb hown k_3 dX5_layMinors_15 ?_
  refine lv_istore_n (lv' := [(2, .int (-1000001)), (0, .ref o), (1, .int 33)]) hx hb dX5_layMinors_17 rfl hl (by decide) rfl (fun ls hl => ?_)
  refine lv_iconst (v := 0) hx hb dX5_layMinors_18 (by decide) ?_
  refine lv_istore_n (lv' := [(3, .int 0), (2, .int (-1000001)), (0, .ref o), (1, .int 33)]) hx hb dX5_layMinors_19 rfl hl (by decide) rfl (fun ls hl => ?_)
  refine lv_iload_n hx hb dX5_layMinors_20 rfl (lv_at hl 0 rfl) ?_
  refine lv_bipush (v := 6) hx hb dX5_layMinors_21 (by decide) ?_
  refine lv_icmp_ge (tgt := 52) hx hb dX5_layMinors_23 (by decide) (fun h => absurd h (by decide)) (fun _ => ?_)
  refine lv_iload_n hx hb dX5_layMinors_26 rfl (lv_at hl 1 rfl) ?_
  refine lv_ldc hx hb hown k_3 dX5_layMinors_27 ?_
  refine lv_icmp_ne (tgt := 36) hx hb dX5_layMinors_29 (by decide) (fun h => absurd (by decide) h) (fun _ => ?_)
  refine lv_iconst (v := (-1)) hx hb dX5_layMinors_32 (by decide) ?_
  refine lv_goto (tgt := 37) hx hb dX5_layMinors_33 (by decide) ?_
  refine lv_istore_n (lv' := [(2, .int (-1)), (3, .int 0), (0, .ref o), (1, .int 33)]) hx hb dX5_layMinors_37 rfl hl (by decide) rfl (fun ls hl => ?_)
  refine lv_iload_n hx hb dX5_layMinors_38 rfl (lv_at hl 0 rfl) ?_
  refine lv_iload_n hx hb dX5_layMinors_39 rfl (lv_at hl 3 rfl) ?_
  refine lv_iload_n hx hb dX5_layMinors_40 rfl (lv_at hl 1 rfl) ?_
  refine lv_ishr hx hb dX5_layMinors_41 ?_
  refine lv_eqi (v := 33) (by decide) ?_
  refine lv_iconst (v := 1) hx hb dX5_layMinors_42 (by decide) ?_
  refine lv_iand hx hb dX5_layMinors_43 ?_
  refine lv_eqi (v := 1) (by decide) ?_
  refine lv_iadd hx hb dX5_layMinors_44 ?_
  refine lv_eqi (v := 0) (by decide) ?_
  refine lv_istore_n (lv' := [(2, .int 0), (3, .int 0), (0, .ref o), (1, .int 33)]) hx hb dX5_layMinors_45 rfl hl (by decide) rfl (fun ls hl => ?_)
  refine lv_iinc (v := 1) (lv' := [(3, .int 1), (2, .int 0), (0, .ref o), (1, .int 33)]) hx hb dX5_layMinors_46 hl (k := 1) rfl (by decide) (by decide) rfl (fun ls hl => ?_)
  refine lv_goto (tgt := 20) hx hb dX5_layMinors_49 (by decide) ?_
  refine lv_iload_n hx hb dX5_layMinors_20 rfl (lv_at hl 0 rfl) ?_
  refine lv_bipush (v := 6) hx hb dX5_layMinors_21 (by decide) ?_
  refine lv_icmp_ge (tgt := 52) hx hb dX5_layMinors_23 (by decide) (fun h => absurd h (by decide)) (fun _ => ?_)
  refine lv_iload_n hx hb dX5_layMinors_26 rfl (lv_at hl 1 rfl) ?_
  refine lv_ldc hx hb hown k_3 dX5_layMinors_27 ?_
  refine lv_icmp_ne (tgt := 36) hx hb dX5_layMinors_29 (by decide) (fun _ => ?_) (fun h => absurd h (by decide))
  refine lv_iload_n hx hb dX5_layMinors_36 rfl (lv_at hl 1 rfl) ?_
  refine lv_istore_n (lv' := [(2, .int 0), (3, .int 1), (0, .ref o), (1, .int 33)]) hx hb dX5_layMinors_37 rfl hl (by decide) rfl (fun ls hl => ?_)
  refine lv_iload_n hx hb dX5_layMinors_38 rfl (lv_at hl 0 rfl) ?_
  refine lv_iload_n hx hb dX5_layMinors_39 rfl (lv_at hl 3 rfl) ?_
  refine lv_iload_n hx hb dX5_layMinors_40 rfl (lv_at hl 1 rfl) ?_
  refine lv_ishr hx hb dX5_layMinors_41 ?_
  refine lv_eqi (v := 16) (by decide) ?_
  refine lv_iconst (v := 1) hx hb dX5_layMinors_42 (by decide) ?_
  refine lv_iand hx hb dX5_layMinors_43 ?_
  refine lv_eqi (v := 0) (by decide) ?_
  refine lv_iadd hx hb dX5_layMinors_44 ?_
  refine lv_eqi (v := 0) (by decide) ?_
  refine lv_istore_n (lv' := [(2, .int 0), (3, .int 1), (0, .ref o), (1, .int 33)]) hx hb dX5_layMinors_45 rfl hl (by decide) rfl (fun ls hl => ?_)
  refine lv_iinc (v := 2) (lv' := [(3, .int 2), (2, .int 0), (0, .ref o), (1, .int 33)]) hx hb dX5_layMinors_46 hl (k := 1) rfl (by decide) (by decide) rfl (fun ls hl => ?_)
  refine lv_goto (tgt := 20) hx hb dX5_layMinors_49 (by decide) ?_
  refine lv_iload_n hx hb dX5_layMinors_20 rfl (lv_at hl 0 rfl) ?_
  refine lv_bipush (v := 6) hx hb dX5_layMinors_21 (by decide) ?_
  refine lv_icmp_ge (tgt := 52) hx hb dX5_layMinors_23 (by decide) (fun h => absurd h (by decide)) (fun _ => ?_)
  refine lv_iload_n hx hb dX5_layMinors_26 rfl (lv_at hl 1 rfl) ?_
  refine lv_ldc hx hb hown k_3 dX5_layMinors_27 ?_
  refine lv_icmp_ne (tgt := 36) hx hb dX5_layMinors_29 (by decide) (fun _ => ?_) (fun h => absurd h (by decide))
  refine lv_iload_n hx hb dX5_layMinors_36 rfl (lv_at hl 1 rfl) ?_
  refine lv_istore_n (lv' := [(2, .int 0), (3, .int 2), (0, .ref o), (1, .int 33)]) hx hb dX5_layMinors_37 rfl hl (by decide) rfl (fun ls hl => ?_)
  refine lv_iload_n hx hb dX5_layMinors_38 rfl (lv_at hl 0 rfl) ?_
  refine lv_iload_n hx hb dX5_layMinors_39 rfl (lv_at hl 3 rfl) ?_
  refine lv_iload_n hx hb dX5_layMinors_40 rfl (lv_at hl 1 rfl) ?_
  refine lv_ishr hx hb dX5_layMinors_41 ?_
  refine lv_eqi (v := 8) (by decide) ?_
  refine lv_iconst (v := 1) hx hb dX5_layMinors_42 (by decide) ?_
  refine lv_iand hx hb dX5_layMinors_43 ?_
  refine lv_eqi (v := 0) (by decide) ?_
  refine lv_iadd hx hb dX5_layMinors_44 ?_
  refine lv_eqi (v := 0) (by decide) ?_
  refine lv_istore_n (lv' := [(2, .int 0), (3, .int 2), (0, .ref o), (1, .int 33)]) hx hb dX5_layMinors_45 rfl hl (by decide) rfl (fun ls hl => ?_)
  refine lv_iinc (v := 3) (lv' := [(3, .int 3), (2, .int 0), (0, .ref o), (1, .int 33)]) hx hb dX5_layMinors_46 hl (k := 1) rfl (by decide) (by decide) rfl (fun ls hl => ?_)
  refine lv_goto (tgt := 20) hx hb dX5_layMinors_49 (by decide) ?_
  refine lv_iload_n hx hb dX5_layMinors_20 rfl (lv_at hl 0 rfl) ?_
  refine lv_bipush (v := 6) hx hb dX5_layMinors_21 (by decide) ?_
  refine lv_icmp_ge (tgt := 52) hx hb dX5_layMinors_23 (by decide) (fun h => absurd h (by decide)) (fun _ => ?_)
  refine lv_iload_n hx hb dX5_layMinors_26 rfl (lv_at hl 1 rfl) ?_
  refine lv_ldc hx hb hown k_3 dX5_layMinors_27 ?_
  refine lv_icmp_ne (tgt := 36) hx hb dX5_layMinors_29 (by decide) (fun _ => ?_) (fun h => absurd h (by decide))
  refine lv_iload_n hx hb dX5_layMinors_36 rfl (lv_at hl 1 rfl) ?_
  refine lv_istore_n (lv' := [(2, .int 0), (3, .int 3), (0, .ref o), (1, .int 33)]) hx hb dX5_layMinors_37 rfl hl (by decide) rfl (fun ls hl => ?_)
  refine lv_iload_n hx hb dX5_layMinors_38 rfl (lv_at hl 0 rfl) ?_
  refine lv_iload_n hx hb dX5_layMinors_39 rfl (lv_at hl 3 rfl) ?_
  refine lv_iload_n hx hb dX5_layMinors_40 rfl (lv_at hl 1 rfl) ?_
  refine lv_ishr hx hb dX5_layMinors_41 ?_
  refine lv_eqi (v := 4) (by decide) ?_
  refine lv_iconst (v := 1) hx hb dX5_layMinors_42 (by decide) ?_
  refine lv_iand hx hb dX5_layMinors_43 ?_
  refine lv_eqi (v := 0) (by decide) ?_
  refine lv_iadd hx hb dX5_layMinors_44 ?_
  refine lv_eqi (v := 0) (by decide) ?_
  refine lv_istore_n (lv' := [(2, .int 0), (3, .int 3), (0, .ref o), (1, .int 33)]) hx hb dX5_layMinors_45 rfl hl (by decide) rfl (fun ls hl => ?_)
  refine lv_iinc (v := 4) (lv' := [(3, .int 4), (2, .int 0), (0, .ref o), (1, .int 33)]) hx hb dX5_layMinors_46 hl (k := 1) rfl (by decide) (by decide) rfl (fun ls hl => ?_)
  refine lv_goto (tgt := 20) hx hb dX5_layMinors_49 (by decide) ?_
  refine lv_iload_n hx hb dX5_layMinors_20 rfl (lv_at hl 0 rfl) ?_
  refine lv_bipush (v := 6) hx hb dX5_layMinors_21 (by decide) ?_
  refine lv_icmp_ge (tgt := 52) hx hb dX5_layMinors_23 (by decide) (fun h => absurd h (by decide)) (fun _ => ?_)
  refine lv_iload_n hx hb dX5_layMinors_26 rfl (lv_at hl 1 rfl) ?_
  refine lv_ldc hx hb hown k_3 dX5_layMinors_27 ?_
  refine lv_icmp_ne (tgt := 36) hx hb dX5_layMinors_29 (by decide) (fun _ => ?_) (fun h => absurd h (by decide))
  refine lv_iload_n hx hb dX5_layMinors_36 rfl (lv_at hl 1 rfl) ?_
  refine lv_istore_n (lv' := [(2, .int 0), (3, .int 4), (0, .ref o), (1, .int 33)]) hx hb dX5_layMinors_37 rfl hl (by decide) rfl (fun ls hl => ?_)
  refine lv_iload_n hx hb dX5_layMinors_38 rfl (lv_at hl 0 rfl) ?_
  refine lv_iload_n hx hb dX5_layMinors_39 rfl (lv_at hl 3 rfl) ?_
  refine lv_iload_n hx hb dX5_layMinors_40 rfl (lv_at hl 1 rfl) ?_
  refine lv_ishr hx hb dX5_layMinors_41 ?_
  refine lv_eqi (v := 2) (by decide) ?_
  refine lv_iconst (v := 1) hx hb dX5_layMinors_42 (by decide) ?_
  refine lv_iand hx hb dX5_layMinors_43 ?_
  refine lv_eqi (v := 0) (by decide) ?_
  refine lv_iadd hx hb dX5_layMinors_44 ?_
  refine lv_eqi (v := 0) (by decide) ?_
  refine lv_istore_n (lv' := [(2, .int 0), (3, .int 4), (0, .ref o), (1, .int 33)]) hx hb dX5_layMinors_45 rfl hl (by decide) rfl (fun ls hl => ?_)
  refine lv_iinc (v := 5) (lv' := [(3, .int 5), (2, .int 0), (0, .ref o), (1, .int 33)]) hx hb dX5_layMinors_46 hl (k := 1) rfl (by decide) (by decide) rfl (fun ls hl => ?_)
  refine lv_goto (tgt := 20) hx hb dX5_layMinors_49 (by decide) ?_
  refine lv_iload_n hx hb dX5_layMinors_20 rfl (lv_at hl 0 rfl) ?_
  refine lv_bipush (v := 6) hx hb dX5_layMinors_21 (by decide) ?_
  refine lv_icmp_ge (tgt := 52) hx hb dX5_layMinors_23 (by decide) (fun h => absurd h (by decide)) (fun _ => ?_)
  refine lv_iload_n hx hb dX5_layMinors_26 rfl (lv_at hl 1 rfl) ?_
  refine lv_ldc hx hb hown k_3 dX5_layMinors_27 ?_
  refine lv_icmp_ne (tgt := 36) hx hb dX5_layMinors_29 (by decide) (fun _ => ?_) (fun h => absurd h (by decide))
  refine lv_iload_n hx hb dX5_layMinors_36 rfl (lv_at hl 1 rfl) ?_
  refine lv_istore_n (lv' := [(2, .int 0), (3, .int 5), (0, .ref o), (1, .int 33)]) hx hb dX5_layMinors_37 rfl hl (by decide) rfl (fun ls hl => ?_)
  refine lv_iload_n hx hb dX5_layMinors_38 rfl (lv_at hl 0 rfl) ?_
  refine lv_iload_n hx hb dX5_layMinors_39 rfl (lv_at hl 3 rfl) ?_
  refine lv_iload_n hx hb dX5_layMinors_40 rfl (lv_at hl 1 rfl) ?_
  refine lv_ishr hx hb dX5_layMinors_41 ?_
  refine lv_eqi (v := 1) (by decide) ?_
  refine lv_iconst (v := 1) hx hb dX5_layMinors_42 (by decide) ?_
  refine lv_iand hx hb dX5_layMinors_43 ?_
  refine lv_eqi (v := 1) (by decide) ?_
  refine lv_iadd hx hb dX5_layMinors_44 ?_
  refine lv_eqi (v := 1) (by decide) ?_
  refine lv_istore_n (lv' := [(2, .int 1), (3, .int 5), (0, .ref o), (1, .int 33)]) hx hb dX5_layMinors_45 rfl hl (by decide) rfl (fun ls hl => ?_)
  refine lv_iinc (v := 6) (lv' := [(3, .int 6), (2, .int 1), (0, .ref o), (1, .int 33)]) hx hb dX5_layMinors_46 hl (k := 1) rfl (by decide) (by decide) rfl (fun ls hl => ?_)
  refine lv_goto (tgt := 20) hx hb dX5_layMinors_49 (by decide) ?_
  refine lv_iload_n hx hb dX5_layMinors_20 rfl (lv_at hl 0 rfl) ?_
  refine lv_bipush (v := 6) hx hb dX5_layMinors_21 (by decide) ?_
  refine lv_icmp_ge (tgt := 52) hx hb dX5_layMinors_23 (by decide) (fun _ => ?_) (fun h => absurd (by decide) h)
  refine lv_lconst (v := 0) hx hb dX5_layMinors_52 (by decide) ?_
  refine lv_lstore_n (lv' := [(3, .long 0), (2, .int 1), (0, .ref o), (1, .int 33)]) hx hb dX5_layMinors_53 rfl hl (by decide) rfl (fun ls hl => ?_)
  refine lv_iload_n hx hb dX5_layMinors_54 rfl (lv_at hl 1 rfl) ?_
  refine lv_istore (lv' := [(5, .int 1), (3, .long 0), (2, .int 1), (0, .ref o), (1, .int 33)]) hx hb dX5_layMinors_55 hl (by decide) rfl (fun ls hl => ?_)
  refine lv_iconst (v := 0) hx hb dX5_layMinors_57 (by decide) ?_
  refine lv_istore (lv' := [(6, .int 0), (5, .int 1), (3, .long 0), (2, .int 1), (0, .ref o), (1, .int 33)]) hx hb dX5_layMinors_58 hl (by decide) rfl (fun ls hl => ?_)
  refine lv_iload hx hb dX5_layMinors_60 (lv_at hl 0 rfl) ?_
  refine lv_bipush (v := 6) hx hb dX5_layMinors_62 (by decide) ?_
  refine lv_icmp_ge (tgt := 135) hx hb dX5_layMinors_64 (by decide) (fun h => absurd h (by decide)) (fun _ => ?_)
  refine lv_iload_n hx hb dX5_layMinors_67 rfl (lv_at hl 3 rfl) ?_
  refine lv_iconst (v := 5) hx hb dX5_layMinors_68 (by decide) ?_
  refine lv_icmp_ge (tgt := 135) hx hb dX5_layMinors_69 (by decide) (fun h => absurd h (by decide)) (fun _ => ?_)
  refine lv_iload_n hx hb dX5_layMinors_72 rfl (lv_at hl 5 rfl) ?_
  refine lv_iload hx hb dX5_layMinors_73 (lv_at hl 0 rfl) ?_
  refine lv_ishr hx hb dX5_layMinors_75 ?_
  refine lv_eqi (v := 33) (by decide) ?_
  refine lv_iconst (v := 1) hx hb dX5_layMinors_76 (by decide) ?_
  refine lv_iand hx hb dX5_layMinors_77 ?_
  refine lv_eqi (v := 1) (by decide) ?_
  refine lv_iconst (v := 1) hx hb dX5_layMinors_78 (by decide) ?_
  refine lv_icmp_ne (tgt := 129) hx hb dX5_layMinors_79 (by decide) (fun h => absurd (by decide) h) (fun _ => ?_)
  refine lv_aload_n hx hb dX5_layMinors_82 rfl (lv_at hl 4 rfl) ?_
  refine va_get (D := D) (ci := 5) (v := .ref mR) (C := RX5) (T := TX5) (N := 17) hx hb hts k_2 hown hK.1 hP 0 rfl rfl 5 (by decide) k_4 (fun _ h9 => h9) rfl dX5_layMinors_83 ?_
  refine lv_bipush (v := 6) hx hb dX5_layMinors_86 (by decide) ?_
  refine lv_iload_n hx hb dX5_layMinors_88 rfl (lv_at hl 3 rfl) ?_
  refine lv_imul hx hb dX5_layMinors_89 ?_
  refine lv_eqi (v := 6) (by decide) ?_
  refine lv_iload hx hb dX5_layMinors_90 (lv_at hl 0 rfl) ?_
  refine lv_iadd hx hb dX5_layMinors_92 ?_
  refine lv_eqi (v := 6) (by decide) ?_
  refine ld_l hx hb hK.1 hP 1 1 rfl rfl (ix_lit (by decide)) 6 (by decide) (v := fr 6) rfl dX5_layMinors_93 ?_
  refine lv_aload_n hx hb dX5_layMinors_94 rfl (lv_at hl 4 rfl) ?_
  refine va_get (D := D) (ci := 5) (v := .ref mD) (C := RX5) (T := TX5) (N := 17) hx hb hts k_2 hown hK.1 hP 0 rfl rfl 6 (by decide) k_1 (fun _ h9 => h9) rfl dX5_layMinors_95 ?_
  refine lv_iload_n hx hb dX5_layMinors_98 rfl (lv_at hl 5 rfl) ?_
  refine lv_iconst (v := 1) hx hb dX5_layMinors_99 (by decide) ?_
  refine lv_iload hx hb dX5_layMinors_100 (lv_at hl 0 rfl) ?_
  refine lv_ishl hx hb dX5_layMinors_102 ?_
  refine lv_eqi (v := 1) (by decide) ?_
  refine lv_isub hx hb dX5_layMinors_103 ?_
  refine lv_eqi (v := 32) (by decide) ?_
  refine ld_l hx hb hK.1 hP 2 1 rfl rfl (ix_lit (by decide)) 32 (by decide) (v := z5_mw32 fr) rfl dX5_layMinors_104 ?_
  refine lv_lmul hx hb dX5_layMinors_105 ?_
  refine lv_lstore (lv' := [(7, .long ((fr 6) * (z5_mw32 fr))), (6, .int 0), (5, .int 1), (3, .long 0), (2, .int 1), (0, .ref o), (1, .int 33)]) hx hb dX5_layMinors_106 hl (by decide) rfl (fun ls hl => ?_)
  refine lv_lload_n hx hb dX5_layMinors_108 rfl (lv_at hl 3 rfl) ?_
  refine lv_iload hx hb dX5_layMinors_109 (lv_at hl 2 rfl) ?_
  refine lv_iconst (v := 2) hx hb dX5_layMinors_111 (by decide) ?_
  refine lv_irem hx hb dX5_layMinors_112 (by decide) ?_
  refine lv_eqi (v := 1) (by decide) ?_
  refine lv_if_ne (tgt := 121) hx hb dX5_layMinors_113 (by decide) (fun _ => ?_) (fun h => absurd h (by decide))
  refine lv_lload hx hb dX5_layMinors_121 (lv_at hl 0 rfl) ?_
  refine lv_lneg hx hb dX5_layMinors_123 ?_
  refine lv_ladd hx hb dX5_layMinors_124 ?_
  refine lv_lstore_n (lv' := [(3, .long (0 + (-((fr 6) * (z5_mw32 fr))))), (7, .long ((fr 6) * (z5_mw32 fr))), (6, .int 0), (5, .int 1), (2, .int 1), (0, .ref o), (1, .int 33)]) hx hb dX5_layMinors_125 rfl hl (by decide) rfl (fun ls hl => ?_)
  refine lv_iinc (v := 0) (lv' := [(5, .int 0), (3, .long (0 + (-((fr 6) * (z5_mw32 fr))))), (7, .long ((fr 6) * (z5_mw32 fr))), (6, .int 0), (2, .int 1), (0, .ref o), (1, .int 33)]) hx hb dX5_layMinors_126 hl (k := 3) rfl (by decide) (by decide) rfl (fun ls hl => ?_)
  refine lv_iinc (v := 1) (lv' := [(6, .int 1), (5, .int 0), (3, .long (0 + (-((fr 6) * (z5_mw32 fr))))), (7, .long ((fr 6) * (z5_mw32 fr))), (2, .int 1), (0, .ref o), (1, .int 33)]) hx hb dX5_layMinors_129 hl (k := 3) rfl (by decide) (by decide) rfl (fun ls hl => ?_)
  refine lv_goto (tgt := 60) hx hb dX5_layMinors_132 (by decide) ?_
  refine lv_iload hx hb dX5_layMinors_60 (lv_at hl 0 rfl) ?_
  refine lv_bipush (v := 6) hx hb dX5_layMinors_62 (by decide) ?_
  refine lv_icmp_ge (tgt := 135) hx hb dX5_layMinors_64 (by decide) (fun h => absurd h (by decide)) (fun _ => ?_)
  refine lv_iload_n hx hb dX5_layMinors_67 rfl (lv_at hl 4 rfl) ?_
  refine lv_iconst (v := 5) hx hb dX5_layMinors_68 (by decide) ?_
  refine lv_icmp_ge (tgt := 135) hx hb dX5_layMinors_69 (by decide) (fun h => absurd h (by decide)) (fun _ => ?_)
  refine lv_iload_n hx hb dX5_layMinors_72 rfl (lv_at hl 6 rfl) ?_
  refine lv_iload hx hb dX5_layMinors_73 (lv_at hl 0 rfl) ?_
  refine lv_ishr hx hb dX5_layMinors_75 ?_
  refine lv_eqi (v := 16) (by decide) ?_
  refine lv_iconst (v := 1) hx hb dX5_layMinors_76 (by decide) ?_
  refine lv_iand hx hb dX5_layMinors_77 ?_
  refine lv_eqi (v := 0) (by decide) ?_
  refine lv_iconst (v := 1) hx hb dX5_layMinors_78 (by decide) ?_
  refine lv_icmp_ne (tgt := 129) hx hb dX5_layMinors_79 (by decide) (fun _ => ?_) (fun h => absurd h (by decide))
  refine lv_iinc (v := 2) (lv' := [(6, .int 2), (5, .int 0), (3, .long (0 + (-((fr 6) * (z5_mw32 fr))))), (7, .long ((fr 6) * (z5_mw32 fr))), (2, .int 1), (0, .ref o), (1, .int 33)]) hx hb dX5_layMinors_129 hl (k := 0) rfl (by decide) (by decide) rfl (fun ls hl => ?_)
  refine lv_goto (tgt := 60) hx hb dX5_layMinors_132 (by decide) ?_
  refine lv_iload hx hb dX5_layMinors_60 (lv_at hl 0 rfl) ?_
  refine lv_bipush (v := 6) hx hb dX5_layMinors_62 (by decide) ?_
  refine lv_icmp_ge (tgt := 135) hx hb dX5_layMinors_64 (by decide) (fun h => absurd h (by decide)) (fun _ => ?_)
  refine lv_iload_n hx hb dX5_layMinors_67 rfl (lv_at hl 4 rfl) ?_
  refine lv_iconst (v := 5) hx hb dX5_layMinors_68 (by decide) ?_
  refine lv_icmp_ge (tgt := 135) hx hb dX5_layMinors_69 (by decide) (fun h => absurd h (by decide)) (fun _ => ?_)
  refine lv_iload_n hx hb dX5_layMinors_72 rfl (lv_at hl 6 rfl) ?_
  refine lv_iload hx hb dX5_layMinors_73 (lv_at hl 0 rfl) ?_
  refine lv_ishr hx hb dX5_layMinors_75 ?_
  refine lv_eqi (v := 8) (by decide) ?_
  refine lv_iconst (v := 1) hx hb dX5_layMinors_76 (by decide) ?_
  refine lv_iand hx hb dX5_layMinors_77 ?_
  refine lv_eqi (v := 0) (by decide) ?_
  refine lv_iconst (v := 1) hx hb dX5_layMinors_78 (by decide) ?_
  refine lv_icmp_ne (tgt := 129) hx hb dX5_layMinors_79 (by decide) (fun _ => ?_) (fun h => absurd h (by decide))
  refine lv_iinc (v := 3) (lv' := [(6, .int 3), (5, .int 0), (3, .long (0 + (-((fr 6) * (z5_mw32 fr))))), (7, .long ((fr 6) * (z5_mw32 fr))), (2, .int 1), (0, .ref o), (1, .int 33)]) hx hb dX5_layMinors_129 hl (k := 0) rfl (by decide) (by decide) rfl (fun ls hl => ?_)
  refine lv_goto (tgt := 60) hx hb dX5_layMinors_132 (by decide) ?_
  refine lv_iload hx hb dX5_layMinors_60 (lv_at hl 0 rfl) ?_
  refine lv_bipush (v := 6) hx hb dX5_layMinors_62 (by decide) ?_
  refine lv_icmp_ge (tgt := 135) hx hb dX5_layMinors_64 (by decide) (fun h => absurd h (by decide)) (fun _ => ?_)
  refine lv_iload_n hx hb dX5_layMinors_67 rfl (lv_at hl 4 rfl) ?_
  refine lv_iconst (v := 5) hx hb dX5_layMinors_68 (by decide) ?_
  refine lv_icmp_ge (tgt := 135) hx hb dX5_layMinors_69 (by decide) (fun h => absurd h (by decide)) (fun _ => ?_)
  refine lv_iload_n hx hb dX5_layMinors_72 rfl (lv_at hl 6 rfl) ?_
  refine lv_iload hx hb dX5_layMinors_73 (lv_at hl 0 rfl) ?_
  refine lv_ishr hx hb dX5_layMinors_75 ?_
  refine lv_eqi (v := 4) (by decide) ?_
  refine lv_iconst (v := 1) hx hb dX5_layMinors_76 (by decide) ?_
  refine lv_iand hx hb dX5_layMinors_77 ?_
  refine lv_eqi (v := 0) (by decide) ?_
  refine lv_iconst (v := 1) hx hb dX5_layMinors_78 (by decide) ?_
  refine lv_icmp_ne (tgt := 129) hx hb dX5_layMinors_79 (by decide) (fun _ => ?_) (fun h => absurd h (by decide))
  refine lv_iinc (v := 4) (lv' := [(6, .int 4), (5, .int 0), (3, .long (0 + (-((fr 6) * (z5_mw32 fr))))), (7, .long ((fr 6) * (z5_mw32 fr))), (2, .int 1), (0, .ref o), (1, .int 33)]) hx hb dX5_layMinors_129 hl (k := 0) rfl (by decide) (by decide) rfl (fun ls hl => ?_)
  refine lv_goto (tgt := 60) hx hb dX5_layMinors_132 (by decide) ?_
  refine lv_iload hx hb dX5_layMinors_60 (lv_at hl 0 rfl) ?_
  refine lv_bipush (v := 6) hx hb dX5_layMinors_62 (by decide) ?_
  refine lv_icmp_ge (tgt := 135) hx hb dX5_layMinors_64 (by decide) (fun h => absurd h (by decide)) (fun _ => ?_)
  refine lv_iload_n hx hb dX5_layMinors_67 rfl (lv_at hl 4 rfl) ?_
  refine lv_iconst (v := 5) hx hb dX5_layMinors_68 (by decide) ?_
  refine lv_icmp_ge (tgt := 135) hx hb dX5_layMinors_69 (by decide) (fun h => absurd h (by decide)) (fun _ => ?_)
  refine lv_iload_n hx hb dX5_layMinors_72 rfl (lv_at hl 6 rfl) ?_
  refine lv_iload hx hb dX5_layMinors_73 (lv_at hl 0 rfl) ?_
  refine lv_ishr hx hb dX5_layMinors_75 ?_
  refine lv_eqi (v := 2) (by decide) ?_
  refine lv_iconst (v := 1) hx hb dX5_layMinors_76 (by decide) ?_
  refine lv_iand hx hb dX5_layMinors_77 ?_
  refine lv_eqi (v := 0) (by decide) ?_
  refine lv_iconst (v := 1) hx hb dX5_layMinors_78 (by decide) ?_
  refine lv_icmp_ne (tgt := 129) hx hb dX5_layMinors_79 (by decide) (fun _ => ?_) (fun h => absurd h (by decide))
  refine lv_iinc (v := 5) (lv' := [(6, .int 5), (5, .int 0), (3, .long (0 + (-((fr 6) * (z5_mw32 fr))))), (7, .long ((fr 6) * (z5_mw32 fr))), (2, .int 1), (0, .ref o), (1, .int 33)]) hx hb dX5_layMinors_129 hl (k := 0) rfl (by decide) (by decide) rfl (fun ls hl => ?_)
  refine lv_goto (tgt := 60) hx hb dX5_layMinors_132 (by decide) ?_
  refine lv_iload hx hb dX5_layMinors_60 (lv_at hl 0 rfl) ?_
  refine lv_bipush (v := 6) hx hb dX5_layMinors_62 (by decide) ?_
  refine lv_icmp_ge (tgt := 135) hx hb dX5_layMinors_64 (by decide) (fun h => absurd h (by decide)) (fun _ => ?_)
  refine lv_iload_n hx hb dX5_layMinors_67 rfl (lv_at hl 4 rfl) ?_
  refine lv_iconst (v := 5) hx hb dX5_layMinors_68 (by decide) ?_
  refine lv_icmp_ge (tgt := 135) hx hb dX5_layMinors_69 (by decide) (fun h => absurd h (by decide)) (fun _ => ?_)
  refine lv_iload_n hx hb dX5_layMinors_72 rfl (lv_at hl 6 rfl) ?_
  refine lv_iload hx hb dX5_layMinors_73 (lv_at hl 0 rfl) ?_
  refine lv_ishr hx hb dX5_layMinors_75 ?_
  refine lv_eqi (v := 1) (by decide) ?_
  refine lv_iconst (v := 1) hx hb dX5_layMinors_76 (by decide) ?_
  refine lv_iand hx hb dX5_layMinors_77 ?_
  refine lv_eqi (v := 1) (by decide) ?_
  refine lv_iconst (v := 1) hx hb dX5_layMinors_78 (by decide) ?_
  refine lv_icmp_ne (tgt := 129) hx hb dX5_layMinors_79 (by decide) (fun h => absurd (by decide) h) (fun _ => ?_)
  refine lv_aload_n hx hb dX5_layMinors_82 rfl (lv_at hl 5 rfl) ?_
  refine va_get (D := D) (ci := 5) (v := .ref mR) (C := RX5) (T := TX5) (N := 17) hx hb hts k_2 hown hK.1 hP 0 rfl rfl 5 (by decide) k_4 (fun _ h9 => h9) rfl dX5_layMinors_83 ?_
  refine lv_bipush (v := 6) hx hb dX5_layMinors_86 (by decide) ?_
  refine lv_iload_n hx hb dX5_layMinors_88 rfl (lv_at hl 4 rfl) ?_
  refine lv_imul hx hb dX5_layMinors_89 ?_
  refine lv_eqi (v := 6) (by decide) ?_
  refine lv_iload hx hb dX5_layMinors_90 (lv_at hl 0 rfl) ?_
  refine lv_iadd hx hb dX5_layMinors_92 ?_
  refine lv_eqi (v := 11) (by decide) ?_
  refine ld_l hx hb hK.1 hP 1 1 rfl rfl (ix_lit (by decide)) 11 (by decide) (v := fr 11) rfl dX5_layMinors_93 ?_
  refine lv_aload_n hx hb dX5_layMinors_94 rfl (lv_at hl 5 rfl) ?_
  refine va_get (D := D) (ci := 5) (v := .ref mD) (C := RX5) (T := TX5) (N := 17) hx hb hts k_2 hown hK.1 hP 0 rfl rfl 6 (by decide) k_1 (fun _ h9 => h9) rfl dX5_layMinors_95 ?_
  refine lv_iload_n hx hb dX5_layMinors_98 rfl (lv_at hl 6 rfl) ?_
  refine lv_iconst (v := 1) hx hb dX5_layMinors_99 (by decide) ?_
  refine lv_iload hx hb dX5_layMinors_100 (lv_at hl 0 rfl) ?_
  refine lv_ishl hx hb dX5_layMinors_102 ?_
  refine lv_eqi (v := 32) (by decide) ?_
  refine lv_isub hx hb dX5_layMinors_103 ?_
  refine lv_eqi (v := 1) (by decide) ?_
  refine ld_l hx hb hK.1 hP 2 1 rfl rfl (ix_lit (by decide)) 1 (by decide) (v := z5_mw1 fr) rfl dX5_layMinors_104 ?_
  refine lv_lmul hx hb dX5_layMinors_105 ?_
  refine lv_lstore (lv' := [(7, .long ((fr 11) * (z5_mw1 fr))), (6, .int 5), (5, .int 0), (3, .long (0 + (-((fr 6) * (z5_mw32 fr))))), (2, .int 1), (0, .ref o), (1, .int 33)]) hx hb dX5_layMinors_106 hl (by decide) rfl (fun ls hl => ?_)
  refine lv_lload_n hx hb dX5_layMinors_108 rfl (lv_at hl 3 rfl) ?_
  refine lv_iload hx hb dX5_layMinors_109 (lv_at hl 2 rfl) ?_
  refine lv_iconst (v := 2) hx hb dX5_layMinors_111 (by decide) ?_
  refine lv_irem hx hb dX5_layMinors_112 (by decide) ?_
  refine lv_eqi (v := 0) (by decide) ?_
  refine lv_if_ne (tgt := 121) hx hb dX5_layMinors_113 (by decide) (fun h => absurd (by decide) h) (fun _ => ?_)
  refine lv_lload hx hb dX5_layMinors_116 (lv_at hl 0 rfl) ?_
  refine lv_goto (tgt := 124) hx hb dX5_layMinors_118 (by decide) ?_
  refine lv_ladd hx hb dX5_layMinors_124 ?_
  refine lv_lstore_n (lv' := [(3, .long ((0 + (-((fr 6) * (z5_mw32 fr)))) + ((fr 11) * (z5_mw1 fr)))), (7, .long ((fr 11) * (z5_mw1 fr))), (6, .int 5), (5, .int 0), (2, .int 1), (0, .ref o), (1, .int 33)]) hx hb dX5_layMinors_125 rfl hl (by decide) rfl (fun ls hl => ?_)
  refine lv_iinc (v := (-1)) (lv' := [(5, .int (-1)), (3, .long ((0 + (-((fr 6) * (z5_mw32 fr)))) + ((fr 11) * (z5_mw1 fr)))), (7, .long ((fr 11) * (z5_mw1 fr))), (6, .int 5), (2, .int 1), (0, .ref o), (1, .int 33)]) hx hb dX5_layMinors_126 hl (k := 3) rfl (by decide) (by decide) rfl (fun ls hl => ?_)
  refine lv_iinc (v := 6) (lv' := [(6, .int 6), (5, .int (-1)), (3, .long ((0 + (-((fr 6) * (z5_mw32 fr)))) + ((fr 11) * (z5_mw1 fr)))), (7, .long ((fr 11) * (z5_mw1 fr))), (2, .int 1), (0, .ref o), (1, .int 33)]) hx hb dX5_layMinors_129 hl (k := 3) rfl (by decide) (by decide) rfl (fun ls hl => ?_)
  refine lv_goto (tgt := 60) hx hb dX5_layMinors_132 (by decide) ?_
  refine lv_iload hx hb dX5_layMinors_60 (lv_at hl 0 rfl) ?_
  refine lv_bipush (v := 6) hx hb dX5_layMinors_62 (by decide) ?_
  refine lv_icmp_ge (tgt := 135) hx hb dX5_layMinors_64 (by decide) (fun _ => ?_) (fun h => absurd (by decide) h)
  refine lv_aload_n hx hb dX5_layMinors_135 rfl (lv_at hl 5 rfl) ?_
  refine va_get (D := D) (ci := 5) (v := .ref mD) (C := RX5) (T := TX5) (N := 17) hx hb hts k_2 hown hK.1 hP 0 rfl rfl 6 (by decide) k_1 (fun _ h9 => h9) rfl dX5_layMinors_136 ?_
  refine lv_iload_n hx hb dX5_layMinors_139 rfl (lv_at hl 6 rfl) ?_
  refine lv_lload_n hx hb dX5_layMinors_140 rfl (lv_at hl 2 rfl) ?_
  refine st_l hx hb hK.1 hP hD hS 2 1 rfl rfl (ix_lit (by decide)) 33 (by decide) dX5_layMinors_141 (fun H locs hP hD hS => ?_)
  have hP : va_P D vwCl [kM o mP mL mC mN mF mR mD mV mX mA mK cm mT pm mU mH mI, kJ mR cJ 30 fr, kJ mD cJ 64 (vp_updL (z5_mm33 fr fd) 33 ((0 + (-((fr 6) * (z5_mw32 fr)))) + ((fr 11) * (z5_mw1 fr))))] H := hP
  have hD : va_D A [kM o mP mL mC mN mF mR mD mV mX mA mK cm mT pm mU mH mI, kJ mR cJ 30 fr, kJ mD cJ 64 (vp_updL (z5_mm33 fr fd) 33 ((0 + (-((fr 6) * (z5_mw32 fr)))) + ((fr 11) * (z5_mw1 fr))))] := hD
  have hP : va_P D vwCl [kM o mP mL mC mN mF mR mD mV mX mA mK cm mT pm mU mH mI, kJ mR cJ 30 fr, kJ mD cJ 64 (z5_mm34 fr fd)] H := hP
  have hD : va_D A [kM o mP mL mC mN mF mR mD mV mX mA mK cm mT pm mU mH mI, kJ mR cJ 30 fr, kJ mD cJ 64 (z5_mm34 fr fd)] := hD
  refine lv_iinc (v := 34) (lv' := [(1, .int 34), (6, .int 6), (5, .int (-1)), (3, .long ((0 + (-((fr 6) * (z5_mw32 fr)))) + ((fr 11) * (z5_mw1 fr)))), (7, .long ((fr 11) * (z5_mw1 fr))), (2, .int 1), (0, .ref o)]) hx hb dX5_layMinors_142 hl (k := 6) rfl (by decide) (by decide) rfl (fun ls hl => ?_)
  refine lv_goto (tgt := 9) hx hb dX5_layMinors_145 (by decide) ?_
  exact sg_X5_layMinors_34 hx hb hr hml hown hts hlk hK hA hP hD hS ls (lv_sub hl [6, 0] rfl)
set_option maxHeartbeats 4000000 in
set_option maxRecDepth 100000 in
theorem sg_X5_layMinors_32 {l : Launch} {D : va_G} {cI cJ : ClassId} {pG : Program} {eG : Env} {sG : State} {mG : MethodId} {below : List Frame} {meth : Method} {cG : Code} {A : Nat → Prop} {H : Heap} {locs : List Loc} {o : Nat} {mP : Nat} {mL : Nat} {mC : Nat} {mN : Nat} {mF : Nat} {mR : Nat} {mD : Nat} {mV : Nat} {mX : Nat} {mA : Nat} {mK : Nat} {mT : Nat} {mU : Nat} {mH : Nat} {mI : Nat} {cm : Int32} {pm : Int32} {fr : Nat → Int64} {fd : Nat → Int64} (hx : pG.tables.exec = Jvm.exec) (hb : cG.code = cX5_layMinors) (hr : meth.sig.returnType = none) (hml : cG.maxLocals = 9) (hown : sG.vm.findClass RX5 = some mG.cls) (hts : ∀ x ∈ wsX5_layMinors, x.before ([.ref o] : List Value).toArray sG = true) (hlk : meth.locks = false) (hK : gd_K D cI cJ sG) (hA : ∀ q : Nat, sG.heap.size ≤ q → A q) (hP : va_P D vwCl [kM o mP mL mC mN mF mR mD mV mX mA mK cm mT pm mU mH mI, kJ mR cJ 30 fr, kJ mD cJ 64 (z5_mm32 fr fd)] H) (hD : va_D A [kM o mP mL mC mN mF mR mD mV mX mA mK cm mT pm mU mH mI, kJ mR cJ 30 fr, kJ mD cJ 64 (z5_mm32 fr fd)]) (hS : va_S A sG.heap H locs) (ls : Array Slot) (hl : lv_has ls 9 [(0, .ref o), (1, .int 32)]) : W pG l eG (headSpec wsX5_layMinors ({ frames := 0, cells := 0, slots := 0, locals := 0 })).room sG mG ([.ref o] : List Value).toArray below meth cG H locs 0 0 (MQ below ((qe_v (fun _ : Unit => True) (fun uu => [kM o mP mL mC mN mF mR mD mV mX mA mK cm mT pm mU mH mI, kJ mR cJ 30 fr, kJ mD cJ 64 (z5_layMinors_f2 fr fd)])) D A) ([.ref o] : List Value).toArray sG 0 0 A) (F0 mG 9 ls []) := by
  have k_1 := hts (.fieldLink RX5 29 "ConicRowsModel" "minors" "[J") (by decide +kernel)
  have k_2 : ∀ w ∈ wsX50, w ∈ wsX5_layMinors := by decide +kernel
  have k_3 := hts (.constant RX5 122 (-1000001)) (by decide +kernel)
  have k_4 := hts (.fieldLink RX5 26 "ConicRowsModel" "rows" "[J") (by decide +kernel)
  refine lv_iload_n hx hb dX5_layMinors_9 rfl (lv_at hl 1 rfl) ?_
  refine lv_bipush (v := 64) hx hb dX5_layMinors_10 (by decide) ?_
  refine lv_icmp_ge (tgt := 148) hx hb dX5_layMinors_12 (by decide) (fun h => absurd h (by decide)) (fun _ => ?_)
  refine lv_ldc hx hb hown k_3 dX5_layMinors_15 ?_
  refine lv_istore_n (lv' := [(2, .int (-1000001)), (0, .ref o), (1, .int 32)]) hx hb dX5_layMinors_17 rfl hl (by decide) rfl (fun ls hl => ?_)
  refine lv_iconst (v := 0) hx hb dX5_layMinors_18 (by decide) ?_
  refine lv_istore_n (lv' := [(3, .int 0), (2, .int (-1000001)), (0, .ref o), (1, .int 32)]) hx hb dX5_layMinors_19 rfl hl (by decide) rfl (fun ls hl => ?_)
  refine lv_iload_n hx hb dX5_layMinors_20 rfl (lv_at hl 0 rfl) ?_
  refine lv_bipush (v := 6) hx hb dX5_layMinors_21 (by decide) ?_
  refine lv_icmp_ge (tgt := 52) hx hb dX5_layMinors_23 (by decide) (fun h => absurd h (by decide)) (fun _ => ?_)
  refine lv_iload_n hx hb dX5_layMinors_26 rfl (lv_at hl 1 rfl) ?_
  refine lv_ldc hx hb hown k_3 dX5_layMinors_27 ?_
  refine lv_icmp_ne (tgt := 36) hx hb dX5_layMinors_29 (by decide) (fun h => absurd (by decide) h) (fun _ => ?_)
  refine lv_iconst (v := (-1)) hx hb dX5_layMinors_32 (by decide) ?_
  refine lv_goto (tgt := 37) hx hb dX5_layMinors_33 (by decide) ?_
  refine lv_istore_n (lv' := [(2, .int (-1)), (3, .int 0), (0, .ref o), (1, .int 32)]) hx hb dX5_layMinors_37 rfl hl (by decide) rfl (fun ls hl => ?_)
  refine lv_iload_n hx hb dX5_layMinors_38 rfl (lv_at hl 0 rfl) ?_
  refine lv_iload_n hx hb dX5_layMinors_39 rfl (lv_at hl 3 rfl) ?_
  refine lv_iload_n hx hb dX5_layMinors_40 rfl (lv_at hl 1 rfl) ?_
  refine lv_ishr hx hb dX5_layMinors_41 ?_
  refine lv_eqi (v := 32) (by decide) ?_
  refine lv_iconst (v := 1) hx hb dX5_layMinors_42 (by decide) ?_
  refine lv_iand hx hb dX5_layMinors_43 ?_
  refine lv_eqi (v := 0) (by decide) ?_
  refine lv_iadd hx hb dX5_layMinors_44 ?_
  refine lv_eqi (v := (-1)) (by decide) ?_
  refine lv_istore_n (lv' := [(2, .int (-1)), (3, .int 0), (0, .ref o), (1, .int 32)]) hx hb dX5_layMinors_45 rfl hl (by decide) rfl (fun ls hl => ?_)
  refine lv_iinc (v := 1) (lv' := [(3, .int 1), (2, .int (-1)), (0, .ref o), (1, .int 32)]) hx hb dX5_layMinors_46 hl (k := 1) rfl (by decide) (by decide) rfl (fun ls hl => ?_)
  refine lv_goto (tgt := 20) hx hb dX5_layMinors_49 (by decide) ?_
  refine lv_iload_n hx hb dX5_layMinors_20 rfl (lv_at hl 0 rfl) ?_
  refine lv_bipush (v := 6) hx hb dX5_layMinors_21 (by decide) ?_
  refine lv_icmp_ge (tgt := 52) hx hb dX5_layMinors_23 (by decide) (fun h => absurd h (by decide)) (fun _ => ?_)
  refine lv_iload_n hx hb dX5_layMinors_26 rfl (lv_at hl 1 rfl) ?_
  refine lv_ldc hx hb hown k_3 dX5_layMinors_27 ?_
  refine lv_icmp_ne (tgt := 36) hx hb dX5_layMinors_29 (by decide) (fun _ => ?_) (fun h => absurd h (by decide))
  refine lv_iload_n hx hb dX5_layMinors_36 rfl (lv_at hl 1 rfl) ?_
  refine lv_istore_n (lv' := [(2, .int (-1)), (3, .int 1), (0, .ref o), (1, .int 32)]) hx hb dX5_layMinors_37 rfl hl (by decide) rfl (fun ls hl => ?_)
  refine lv_iload_n hx hb dX5_layMinors_38 rfl (lv_at hl 0 rfl) ?_
  refine lv_iload_n hx hb dX5_layMinors_39 rfl (lv_at hl 3 rfl) ?_
  refine lv_iload_n hx hb dX5_layMinors_40 rfl (lv_at hl 1 rfl) ?_
  refine lv_ishr hx hb dX5_layMinors_41 ?_
  refine lv_eqi (v := 16) (by decide) ?_
  refine lv_iconst (v := 1) hx hb dX5_layMinors_42 (by decide) ?_
  refine lv_iand hx hb dX5_layMinors_43 ?_
  refine lv_eqi (v := 0) (by decide) ?_
  refine lv_iadd hx hb dX5_layMinors_44 ?_
  refine lv_eqi (v := (-1)) (by decide) ?_
  refine lv_istore_n (lv' := [(2, .int (-1)), (3, .int 1), (0, .ref o), (1, .int 32)]) hx hb dX5_layMinors_45 rfl hl (by decide) rfl (fun ls hl => ?_)
  refine lv_iinc (v := 2) (lv' := [(3, .int 2), (2, .int (-1)), (0, .ref o), (1, .int 32)]) hx hb dX5_layMinors_46 hl (k := 1) rfl (by decide) (by decide) rfl (fun ls hl => ?_)
  refine lv_goto (tgt := 20) hx hb dX5_layMinors_49 (by decide) ?_
  refine lv_iload_n hx hb dX5_layMinors_20 rfl (lv_at hl 0 rfl) ?_
  refine lv_bipush (v := 6) hx hb dX5_layMinors_21 (by decide) ?_
  refine lv_icmp_ge (tgt := 52) hx hb dX5_layMinors_23 (by decide) (fun h => absurd h (by decide)) (fun _ => ?_)
  refine lv_iload_n hx hb dX5_layMinors_26 rfl (lv_at hl 1 rfl) ?_
  refine lv_ldc hx hb hown k_3 dX5_layMinors_27 ?_
  refine lv_icmp_ne (tgt := 36) hx hb dX5_layMinors_29 (by decide) (fun _ => ?_) (fun h => absurd h (by decide))
  refine lv_iload_n hx hb dX5_layMinors_36 rfl (lv_at hl 1 rfl) ?_
  refine lv_istore_n (lv' := [(2, .int (-1)), (3, .int 2), (0, .ref o), (1, .int 32)]) hx hb dX5_layMinors_37 rfl hl (by decide) rfl (fun ls hl => ?_)
  refine lv_iload_n hx hb dX5_layMinors_38 rfl (lv_at hl 0 rfl) ?_
  refine lv_iload_n hx hb dX5_layMinors_39 rfl (lv_at hl 3 rfl) ?_
  refine lv_iload_n hx hb dX5_layMinors_40 rfl (lv_at hl 1 rfl) ?_
  refine lv_ishr hx hb dX5_layMinors_41 ?_
  refine lv_eqi (v := 8) (by decide) ?_
  refine lv_iconst (v := 1) hx hb dX5_layMinors_42 (by decide) ?_
  refine lv_iand hx hb dX5_layMinors_43 ?_
  refine lv_eqi (v := 0) (by decide) ?_
  refine lv_iadd hx hb dX5_layMinors_44 ?_
  refine lv_eqi (v := (-1)) (by decide) ?_
  refine lv_istore_n (lv' := [(2, .int (-1)), (3, .int 2), (0, .ref o), (1, .int 32)]) hx hb dX5_layMinors_45 rfl hl (by decide) rfl (fun ls hl => ?_)
  refine lv_iinc (v := 3) (lv' := [(3, .int 3), (2, .int (-1)), (0, .ref o), (1, .int 32)]) hx hb dX5_layMinors_46 hl (k := 1) rfl (by decide) (by decide) rfl (fun ls hl => ?_)
  refine lv_goto (tgt := 20) hx hb dX5_layMinors_49 (by decide) ?_
  refine lv_iload_n hx hb dX5_layMinors_20 rfl (lv_at hl 0 rfl) ?_
  refine lv_bipush (v := 6) hx hb dX5_layMinors_21 (by decide) ?_
  refine lv_icmp_ge (tgt := 52) hx hb dX5_layMinors_23 (by decide) (fun h => absurd h (by decide)) (fun _ => ?_)
  refine lv_iload_n hx hb dX5_layMinors_26 rfl (lv_at hl 1 rfl) ?_
  refine lv_ldc hx hb hown k_3 dX5_layMinors_27 ?_
  refine lv_icmp_ne (tgt := 36) hx hb dX5_layMinors_29 (by decide) (fun _ => ?_) (fun h => absurd h (by decide))
  refine lv_iload_n hx hb dX5_layMinors_36 rfl (lv_at hl 1 rfl) ?_
  refine lv_istore_n (lv' := [(2, .int (-1)), (3, .int 3), (0, .ref o), (1, .int 32)]) hx hb dX5_layMinors_37 rfl hl (by decide) rfl (fun ls hl => ?_)
  refine lv_iload_n hx hb dX5_layMinors_38 rfl (lv_at hl 0 rfl) ?_
  refine lv_iload_n hx hb dX5_layMinors_39 rfl (lv_at hl 3 rfl) ?_
  refine lv_iload_n hx hb dX5_layMinors_40 rfl (lv_at hl 1 rfl) ?_
  refine lv_ishr hx hb dX5_layMinors_41 ?_
  refine lv_eqi (v := 4) (by decide) ?_
  refine lv_iconst (v := 1) hx hb dX5_layMinors_42 (by decide) ?_
  refine lv_iand hx hb dX5_layMinors_43 ?_
  refine lv_eqi (v := 0) (by decide) ?_
  refine lv_iadd hx hb dX5_layMinors_44 ?_
  refine lv_eqi (v := (-1)) (by decide) ?_
  refine lv_istore_n (lv' := [(2, .int (-1)), (3, .int 3), (0, .ref o), (1, .int 32)]) hx hb dX5_layMinors_45 rfl hl (by decide) rfl (fun ls hl => ?_)
  refine lv_iinc (v := 4) (lv' := [(3, .int 4), (2, .int (-1)), (0, .ref o), (1, .int 32)]) hx hb dX5_layMinors_46 hl (k := 1) rfl (by decide) (by decide) rfl (fun ls hl => ?_)
  refine lv_goto (tgt := 20) hx hb dX5_layMinors_49 (by decide) ?_
  refine lv_iload_n hx hb dX5_layMinors_20 rfl (lv_at hl 0 rfl) ?_
  refine lv_bipush (v := 6) hx hb dX5_layMinors_21 (by decide) ?_
  refine lv_icmp_ge (tgt := 52) hx hb dX5_layMinors_23 (by decide) (fun h => absurd h (by decide)) (fun _ => ?_)
  refine lv_iload_n hx hb dX5_layMinors_26 rfl (lv_at hl 1 rfl) ?_
  refine lv_ldc hx hb hown k_3 dX5_layMinors_27 ?_
  refine lv_icmp_ne (tgt := 36) hx hb dX5_layMinors_29 (by decide) (fun _ => ?_) (fun h => absurd h (by decide))
  refine lv_iload_n hx hb dX5_layMinors_36 rfl (lv_at hl 1 rfl) ?_
  refine lv_istore_n (lv' := [(2, .int (-1)), (3, .int 4), (0, .ref o), (1, .int 32)]) hx hb dX5_layMinors_37 rfl hl (by decide) rfl (fun ls hl => ?_)
  refine lv_iload_n hx hb dX5_layMinors_38 rfl (lv_at hl 0 rfl) ?_
  refine lv_iload_n hx hb dX5_layMinors_39 rfl (lv_at hl 3 rfl) ?_
  refine lv_iload_n hx hb dX5_layMinors_40 rfl (lv_at hl 1 rfl) ?_
  refine lv_ishr hx hb dX5_layMinors_41 ?_
  refine lv_eqi (v := 2) (by decide) ?_
  refine lv_iconst (v := 1) hx hb dX5_layMinors_42 (by decide) ?_
  refine lv_iand hx hb dX5_layMinors_43 ?_
  refine lv_eqi (v := 0) (by decide) ?_
  refine lv_iadd hx hb dX5_layMinors_44 ?_
  refine lv_eqi (v := (-1)) (by decide) ?_
  refine lv_istore_n (lv' := [(2, .int (-1)), (3, .int 4), (0, .ref o), (1, .int 32)]) hx hb dX5_layMinors_45 rfl hl (by decide) rfl (fun ls hl => ?_)
  refine lv_iinc (v := 5) (lv' := [(3, .int 5), (2, .int (-1)), (0, .ref o), (1, .int 32)]) hx hb dX5_layMinors_46 hl (k := 1) rfl (by decide) (by decide) rfl (fun ls hl => ?_)
  refine lv_goto (tgt := 20) hx hb dX5_layMinors_49 (by decide) ?_
  refine lv_iload_n hx hb dX5_layMinors_20 rfl (lv_at hl 0 rfl) ?_
  refine lv_bipush (v := 6) hx hb dX5_layMinors_21 (by decide) ?_
  refine lv_icmp_ge (tgt := 52) hx hb dX5_layMinors_23 (by decide) (fun h => absurd h (by decide)) (fun _ => ?_)
  refine lv_iload_n hx hb dX5_layMinors_26 rfl (lv_at hl 1 rfl) ?_
  refine lv_ldc hx hb hown k_3 dX5_layMinors_27 ?_
  refine lv_icmp_ne (tgt := 36) hx hb dX5_layMinors_29 (by decide) (fun _ => ?_) (fun h => absurd h (by decide))
  refine lv_iload_n hx hb dX5_layMinors_36 rfl (lv_at hl 1 rfl) ?_
  refine lv_istore_n (lv' := [(2, .int (-1)), (3, .int 5), (0, .ref o), (1, .int 32)]) hx hb dX5_layMinors_37 rfl hl (by decide) rfl (fun ls hl => ?_)
  refine lv_iload_n hx hb dX5_layMinors_38 rfl (lv_at hl 0 rfl) ?_
  refine lv_iload_n hx hb dX5_layMinors_39 rfl (lv_at hl 3 rfl) ?_
  refine lv_iload_n hx hb dX5_layMinors_40 rfl (lv_at hl 1 rfl) ?_
  refine lv_ishr hx hb dX5_layMinors_41 ?_
  refine lv_eqi (v := 1) (by decide) ?_
  refine lv_iconst (v := 1) hx hb dX5_layMinors_42 (by decide) ?_
  refine lv_iand hx hb dX5_layMinors_43 ?_
  refine lv_eqi (v := 1) (by decide) ?_
  refine lv_iadd hx hb dX5_layMinors_44 ?_
  refine lv_eqi (v := 0) (by decide) ?_
  refine lv_istore_n (lv' := [(2, .int 0), (3, .int 5), (0, .ref o), (1, .int 32)]) hx hb dX5_layMinors_45 rfl hl (by decide) rfl (fun ls hl => ?_)
  refine lv_iinc (v := 6) (lv' := [(3, .int 6), (2, .int 0), (0, .ref o), (1, .int 32)]) hx hb dX5_layMinors_46 hl (k := 1) rfl (by decide) (by decide) rfl (fun ls hl => ?_)
  refine lv_goto (tgt := 20) hx hb dX5_layMinors_49 (by decide) ?_
  refine lv_iload_n hx hb dX5_layMinors_20 rfl (lv_at hl 0 rfl) ?_
  refine lv_bipush (v := 6) hx hb dX5_layMinors_21 (by decide) ?_
  refine lv_icmp_ge (tgt := 52) hx hb dX5_layMinors_23 (by decide) (fun _ => ?_) (fun h => absurd (by decide) h)
  refine lv_lconst (v := 0) hx hb dX5_layMinors_52 (by decide) ?_
  refine lv_lstore_n (lv' := [(3, .long 0), (2, .int 0), (0, .ref o), (1, .int 32)]) hx hb dX5_layMinors_53 rfl hl (by decide) rfl (fun ls hl => ?_)
  refine lv_iload_n hx hb dX5_layMinors_54 rfl (lv_at hl 1 rfl) ?_
  refine lv_istore (lv' := [(5, .int 0), (3, .long 0), (2, .int 0), (0, .ref o), (1, .int 32)]) hx hb dX5_layMinors_55 hl (by decide) rfl (fun ls hl => ?_)
  refine lv_iconst (v := 0) hx hb dX5_layMinors_57 (by decide) ?_
  refine lv_istore (lv' := [(6, .int 0), (5, .int 0), (3, .long 0), (2, .int 0), (0, .ref o), (1, .int 32)]) hx hb dX5_layMinors_58 hl (by decide) rfl (fun ls hl => ?_)
  refine lv_iload hx hb dX5_layMinors_60 (lv_at hl 0 rfl) ?_
  refine lv_bipush (v := 6) hx hb dX5_layMinors_62 (by decide) ?_
  refine lv_icmp_ge (tgt := 135) hx hb dX5_layMinors_64 (by decide) (fun h => absurd h (by decide)) (fun _ => ?_)
  refine lv_iload_n hx hb dX5_layMinors_67 rfl (lv_at hl 3 rfl) ?_
  refine lv_iconst (v := 5) hx hb dX5_layMinors_68 (by decide) ?_
  refine lv_icmp_ge (tgt := 135) hx hb dX5_layMinors_69 (by decide) (fun h => absurd h (by decide)) (fun _ => ?_)
  refine lv_iload_n hx hb dX5_layMinors_72 rfl (lv_at hl 5 rfl) ?_
  refine lv_iload hx hb dX5_layMinors_73 (lv_at hl 0 rfl) ?_
  refine lv_ishr hx hb dX5_layMinors_75 ?_
  refine lv_eqi (v := 32) (by decide) ?_
  refine lv_iconst (v := 1) hx hb dX5_layMinors_76 (by decide) ?_
  refine lv_iand hx hb dX5_layMinors_77 ?_
  refine lv_eqi (v := 0) (by decide) ?_
  refine lv_iconst (v := 1) hx hb dX5_layMinors_78 (by decide) ?_
  refine lv_icmp_ne (tgt := 129) hx hb dX5_layMinors_79 (by decide) (fun _ => ?_) (fun h => absurd h (by decide))
  refine lv_iinc (v := 1) (lv' := [(6, .int 1), (5, .int 0), (3, .long 0), (2, .int 0), (0, .ref o), (1, .int 32)]) hx hb dX5_layMinors_129 hl (k := 0) rfl (by decide) (by decide) rfl (fun ls hl => ?_)
  refine lv_goto (tgt := 60) hx hb dX5_layMinors_132 (by decide) ?_
  refine lv_iload hx hb dX5_layMinors_60 (lv_at hl 0 rfl) ?_
  refine lv_bipush (v := 6) hx hb dX5_layMinors_62 (by decide) ?_
  refine lv_icmp_ge (tgt := 135) hx hb dX5_layMinors_64 (by decide) (fun h => absurd h (by decide)) (fun _ => ?_)
  refine lv_iload_n hx hb dX5_layMinors_67 rfl (lv_at hl 3 rfl) ?_
  refine lv_iconst (v := 5) hx hb dX5_layMinors_68 (by decide) ?_
  refine lv_icmp_ge (tgt := 135) hx hb dX5_layMinors_69 (by decide) (fun h => absurd h (by decide)) (fun _ => ?_)
  refine lv_iload_n hx hb dX5_layMinors_72 rfl (lv_at hl 5 rfl) ?_
  refine lv_iload hx hb dX5_layMinors_73 (lv_at hl 0 rfl) ?_
  refine lv_ishr hx hb dX5_layMinors_75 ?_
  refine lv_eqi (v := 16) (by decide) ?_
  refine lv_iconst (v := 1) hx hb dX5_layMinors_76 (by decide) ?_
  refine lv_iand hx hb dX5_layMinors_77 ?_
  refine lv_eqi (v := 0) (by decide) ?_
  refine lv_iconst (v := 1) hx hb dX5_layMinors_78 (by decide) ?_
  refine lv_icmp_ne (tgt := 129) hx hb dX5_layMinors_79 (by decide) (fun _ => ?_) (fun h => absurd h (by decide))
  refine lv_iinc (v := 2) (lv' := [(6, .int 2), (5, .int 0), (3, .long 0), (2, .int 0), (0, .ref o), (1, .int 32)]) hx hb dX5_layMinors_129 hl (k := 0) rfl (by decide) (by decide) rfl (fun ls hl => ?_)
  refine lv_goto (tgt := 60) hx hb dX5_layMinors_132 (by decide) ?_
  refine lv_iload hx hb dX5_layMinors_60 (lv_at hl 0 rfl) ?_
  refine lv_bipush (v := 6) hx hb dX5_layMinors_62 (by decide) ?_
  refine lv_icmp_ge (tgt := 135) hx hb dX5_layMinors_64 (by decide) (fun h => absurd h (by decide)) (fun _ => ?_)
  refine lv_iload_n hx hb dX5_layMinors_67 rfl (lv_at hl 3 rfl) ?_
  refine lv_iconst (v := 5) hx hb dX5_layMinors_68 (by decide) ?_
  refine lv_icmp_ge (tgt := 135) hx hb dX5_layMinors_69 (by decide) (fun h => absurd h (by decide)) (fun _ => ?_)
  refine lv_iload_n hx hb dX5_layMinors_72 rfl (lv_at hl 5 rfl) ?_
  refine lv_iload hx hb dX5_layMinors_73 (lv_at hl 0 rfl) ?_
  refine lv_ishr hx hb dX5_layMinors_75 ?_
  refine lv_eqi (v := 8) (by decide) ?_
  refine lv_iconst (v := 1) hx hb dX5_layMinors_76 (by decide) ?_
  refine lv_iand hx hb dX5_layMinors_77 ?_
  refine lv_eqi (v := 0) (by decide) ?_
  refine lv_iconst (v := 1) hx hb dX5_layMinors_78 (by decide) ?_
  refine lv_icmp_ne (tgt := 129) hx hb dX5_layMinors_79 (by decide) (fun _ => ?_) (fun h => absurd h (by decide))
  refine lv_iinc (v := 3) (lv' := [(6, .int 3), (5, .int 0), (3, .long 0), (2, .int 0), (0, .ref o), (1, .int 32)]) hx hb dX5_layMinors_129 hl (k := 0) rfl (by decide) (by decide) rfl (fun ls hl => ?_)
  refine lv_goto (tgt := 60) hx hb dX5_layMinors_132 (by decide) ?_
  refine lv_iload hx hb dX5_layMinors_60 (lv_at hl 0 rfl) ?_
  refine lv_bipush (v := 6) hx hb dX5_layMinors_62 (by decide) ?_
  refine lv_icmp_ge (tgt := 135) hx hb dX5_layMinors_64 (by decide) (fun h => absurd h (by decide)) (fun _ => ?_)
  refine lv_iload_n hx hb dX5_layMinors_67 rfl (lv_at hl 3 rfl) ?_
  refine lv_iconst (v := 5) hx hb dX5_layMinors_68 (by decide) ?_
  refine lv_icmp_ge (tgt := 135) hx hb dX5_layMinors_69 (by decide) (fun h => absurd h (by decide)) (fun _ => ?_)
  refine lv_iload_n hx hb dX5_layMinors_72 rfl (lv_at hl 5 rfl) ?_
  refine lv_iload hx hb dX5_layMinors_73 (lv_at hl 0 rfl) ?_
  refine lv_ishr hx hb dX5_layMinors_75 ?_
  refine lv_eqi (v := 4) (by decide) ?_
  refine lv_iconst (v := 1) hx hb dX5_layMinors_76 (by decide) ?_
  refine lv_iand hx hb dX5_layMinors_77 ?_
  refine lv_eqi (v := 0) (by decide) ?_
  refine lv_iconst (v := 1) hx hb dX5_layMinors_78 (by decide) ?_
  refine lv_icmp_ne (tgt := 129) hx hb dX5_layMinors_79 (by decide) (fun _ => ?_) (fun h => absurd h (by decide))
  refine lv_iinc (v := 4) (lv' := [(6, .int 4), (5, .int 0), (3, .long 0), (2, .int 0), (0, .ref o), (1, .int 32)]) hx hb dX5_layMinors_129 hl (k := 0) rfl (by decide) (by decide) rfl (fun ls hl => ?_)
  refine lv_goto (tgt := 60) hx hb dX5_layMinors_132 (by decide) ?_
  refine lv_iload hx hb dX5_layMinors_60 (lv_at hl 0 rfl) ?_
  refine lv_bipush (v := 6) hx hb dX5_layMinors_62 (by decide) ?_
  refine lv_icmp_ge (tgt := 135) hx hb dX5_layMinors_64 (by decide) (fun h => absurd h (by decide)) (fun _ => ?_)
  refine lv_iload_n hx hb dX5_layMinors_67 rfl (lv_at hl 3 rfl) ?_
  refine lv_iconst (v := 5) hx hb dX5_layMinors_68 (by decide) ?_
  refine lv_icmp_ge (tgt := 135) hx hb dX5_layMinors_69 (by decide) (fun h => absurd h (by decide)) (fun _ => ?_)
  refine lv_iload_n hx hb dX5_layMinors_72 rfl (lv_at hl 5 rfl) ?_
  refine lv_iload hx hb dX5_layMinors_73 (lv_at hl 0 rfl) ?_
  refine lv_ishr hx hb dX5_layMinors_75 ?_
  refine lv_eqi (v := 2) (by decide) ?_
  refine lv_iconst (v := 1) hx hb dX5_layMinors_76 (by decide) ?_
  refine lv_iand hx hb dX5_layMinors_77 ?_
  refine lv_eqi (v := 0) (by decide) ?_
  refine lv_iconst (v := 1) hx hb dX5_layMinors_78 (by decide) ?_
  refine lv_icmp_ne (tgt := 129) hx hb dX5_layMinors_79 (by decide) (fun _ => ?_) (fun h => absurd h (by decide))
  refine lv_iinc (v := 5) (lv' := [(6, .int 5), (5, .int 0), (3, .long 0), (2, .int 0), (0, .ref o), (1, .int 32)]) hx hb dX5_layMinors_129 hl (k := 0) rfl (by decide) (by decide) rfl (fun ls hl => ?_)
  refine lv_goto (tgt := 60) hx hb dX5_layMinors_132 (by decide) ?_
  refine lv_iload hx hb dX5_layMinors_60 (lv_at hl 0 rfl) ?_
  refine lv_bipush (v := 6) hx hb dX5_layMinors_62 (by decide) ?_
  refine lv_icmp_ge (tgt := 135) hx hb dX5_layMinors_64 (by decide) (fun h => absurd h (by decide)) (fun _ => ?_)
  refine lv_iload_n hx hb dX5_layMinors_67 rfl (lv_at hl 3 rfl) ?_
  refine lv_iconst (v := 5) hx hb dX5_layMinors_68 (by decide) ?_
  refine lv_icmp_ge (tgt := 135) hx hb dX5_layMinors_69 (by decide) (fun h => absurd h (by decide)) (fun _ => ?_)
  refine lv_iload_n hx hb dX5_layMinors_72 rfl (lv_at hl 5 rfl) ?_
  refine lv_iload hx hb dX5_layMinors_73 (lv_at hl 0 rfl) ?_
  refine lv_ishr hx hb dX5_layMinors_75 ?_
  refine lv_eqi (v := 1) (by decide) ?_
  refine lv_iconst (v := 1) hx hb dX5_layMinors_76 (by decide) ?_
  refine lv_iand hx hb dX5_layMinors_77 ?_
  refine lv_eqi (v := 1) (by decide) ?_
  refine lv_iconst (v := 1) hx hb dX5_layMinors_78 (by decide) ?_
  refine lv_icmp_ne (tgt := 129) hx hb dX5_layMinors_79 (by decide) (fun h => absurd (by decide) h) (fun _ => ?_)
  refine lv_aload_n hx hb dX5_layMinors_82 rfl (lv_at hl 4 rfl) ?_
  refine va_get (D := D) (ci := 5) (v := .ref mR) (C := RX5) (T := TX5) (N := 17) hx hb hts k_2 hown hK.1 hP 0 rfl rfl 5 (by decide) k_4 (fun _ h9 => h9) rfl dX5_layMinors_83 ?_
  refine lv_bipush (v := 6) hx hb dX5_layMinors_86 (by decide) ?_
  refine lv_iload_n hx hb dX5_layMinors_88 rfl (lv_at hl 3 rfl) ?_
  refine lv_imul hx hb dX5_layMinors_89 ?_
  refine lv_eqi (v := 0) (by decide) ?_
  refine lv_iload hx hb dX5_layMinors_90 (lv_at hl 0 rfl) ?_
  refine lv_iadd hx hb dX5_layMinors_92 ?_
  refine lv_eqi (v := 5) (by decide) ?_
  refine ld_l hx hb hK.1 hP 1 1 rfl rfl (ix_lit (by decide)) 5 (by decide) (v := fr 5) rfl dX5_layMinors_93 ?_
  refine lv_aload_n hx hb dX5_layMinors_94 rfl (lv_at hl 4 rfl) ?_
  refine va_get (D := D) (ci := 5) (v := .ref mD) (C := RX5) (T := TX5) (N := 17) hx hb hts k_2 hown hK.1 hP 0 rfl rfl 6 (by decide) k_1 (fun _ h9 => h9) rfl dX5_layMinors_95 ?_
  refine lv_iload_n hx hb dX5_layMinors_98 rfl (lv_at hl 5 rfl) ?_
  refine lv_iconst (v := 1) hx hb dX5_layMinors_99 (by decide) ?_
  refine lv_iload hx hb dX5_layMinors_100 (lv_at hl 0 rfl) ?_
  refine lv_ishl hx hb dX5_layMinors_102 ?_
  refine lv_eqi (v := 32) (by decide) ?_
  refine lv_isub hx hb dX5_layMinors_103 ?_
  refine lv_eqi (v := 0) (by decide) ?_
  refine ld_l hx hb hK.1 hP 2 1 rfl rfl (ix_lit (by decide)) 0 (by decide) (v := z5_mw0 fr) rfl dX5_layMinors_104 ?_
  refine lv_lmul hx hb dX5_layMinors_105 ?_
  refine lv_lstore (lv' := [(7, .long ((fr 5) * (z5_mw0 fr))), (6, .int 5), (5, .int 0), (3, .long 0), (2, .int 0), (0, .ref o), (1, .int 32)]) hx hb dX5_layMinors_106 hl (by decide) rfl (fun ls hl => ?_)
  refine lv_lload_n hx hb dX5_layMinors_108 rfl (lv_at hl 3 rfl) ?_
  refine lv_iload hx hb dX5_layMinors_109 (lv_at hl 2 rfl) ?_
  refine lv_iconst (v := 2) hx hb dX5_layMinors_111 (by decide) ?_
  refine lv_irem hx hb dX5_layMinors_112 (by decide) ?_
  refine lv_eqi (v := 0) (by decide) ?_
  refine lv_if_ne (tgt := 121) hx hb dX5_layMinors_113 (by decide) (fun h => absurd (by decide) h) (fun _ => ?_)
  refine lv_lload hx hb dX5_layMinors_116 (lv_at hl 0 rfl) ?_
  refine lv_goto (tgt := 124) hx hb dX5_layMinors_118 (by decide) ?_
  refine lv_ladd hx hb dX5_layMinors_124 ?_
  refine lv_lstore_n (lv' := [(3, .long (0 + ((fr 5) * (z5_mw0 fr)))), (7, .long ((fr 5) * (z5_mw0 fr))), (6, .int 5), (5, .int 0), (2, .int 0), (0, .ref o), (1, .int 32)]) hx hb dX5_layMinors_125 rfl hl (by decide) rfl (fun ls hl => ?_)
  refine lv_iinc (v := (-1)) (lv' := [(5, .int (-1)), (3, .long (0 + ((fr 5) * (z5_mw0 fr)))), (7, .long ((fr 5) * (z5_mw0 fr))), (6, .int 5), (2, .int 0), (0, .ref o), (1, .int 32)]) hx hb dX5_layMinors_126 hl (k := 3) rfl (by decide) (by decide) rfl (fun ls hl => ?_)
  refine lv_iinc (v := 6) (lv' := [(6, .int 6), (5, .int (-1)), (3, .long (0 + ((fr 5) * (z5_mw0 fr)))), (7, .long ((fr 5) * (z5_mw0 fr))), (2, .int 0), (0, .ref o), (1, .int 32)]) hx hb dX5_layMinors_129 hl (k := 3) rfl (by decide) (by decide) rfl (fun ls hl => ?_)
  refine lv_goto (tgt := 60) hx hb dX5_layMinors_132 (by decide) ?_
  refine lv_iload hx hb dX5_layMinors_60 (lv_at hl 0 rfl) ?_
  refine lv_bipush (v := 6) hx hb dX5_layMinors_62 (by decide) ?_
  refine lv_icmp_ge (tgt := 135) hx hb dX5_layMinors_64 (by decide) (fun _ => ?_) (fun h => absurd (by decide) h)
  refine lv_aload_n hx hb dX5_layMinors_135 rfl (lv_at hl 5 rfl) ?_
  refine va_get (D := D) (ci := 5) (v := .ref mD) (C := RX5) (T := TX5) (N := 17) hx hb hts k_2 hown hK.1 hP 0 rfl rfl 6 (by decide) k_1 (fun _ h9 => h9) rfl dX5_layMinors_136 ?_
  refine lv_iload_n hx hb dX5_layMinors_139 rfl (lv_at hl 6 rfl) ?_
  refine lv_lload_n hx hb dX5_layMinors_140 rfl (lv_at hl 2 rfl) ?_
  refine st_l hx hb hK.1 hP hD hS 2 1 rfl rfl (ix_lit (by decide)) 32 (by decide) dX5_layMinors_141 (fun H locs hP hD hS => ?_)
  have hP : va_P D vwCl [kM o mP mL mC mN mF mR mD mV mX mA mK cm mT pm mU mH mI, kJ mR cJ 30 fr, kJ mD cJ 64 (vp_updL (z5_mm32 fr fd) 32 (0 + ((fr 5) * (z5_mw0 fr))))] H := hP
  have hD : va_D A [kM o mP mL mC mN mF mR mD mV mX mA mK cm mT pm mU mH mI, kJ mR cJ 30 fr, kJ mD cJ 64 (vp_updL (z5_mm32 fr fd) 32 (0 + ((fr 5) * (z5_mw0 fr))))] := hD
  have hP : va_P D vwCl [kM o mP mL mC mN mF mR mD mV mX mA mK cm mT pm mU mH mI, kJ mR cJ 30 fr, kJ mD cJ 64 (z5_mm33 fr fd)] H := hP
  have hD : va_D A [kM o mP mL mC mN mF mR mD mV mX mA mK cm mT pm mU mH mI, kJ mR cJ 30 fr, kJ mD cJ 64 (z5_mm33 fr fd)] := hD
  refine lv_iinc (v := 33) (lv' := [(1, .int 33), (6, .int 6), (5, .int (-1)), (3, .long (0 + ((fr 5) * (z5_mw0 fr)))), (7, .long ((fr 5) * (z5_mw0 fr))), (2, .int 0), (0, .ref o)]) hx hb dX5_layMinors_142 hl (k := 6) rfl (by decide) (by decide) rfl (fun ls hl => ?_)
  refine lv_goto (tgt := 9) hx hb dX5_layMinors_145 (by decide) ?_
  exact sg_X5_layMinors_33 hx hb hr hml hown hts hlk hK hA hP hD hS ls (lv_sub hl [6, 0] rfl)
set_option maxHeartbeats 4000000 in
set_option maxRecDepth 100000 in
theorem sg_X5_layMinors_31 {l : Launch} {D : va_G} {cI cJ : ClassId} {pG : Program} {eG : Env} {sG : State} {mG : MethodId} {below : List Frame} {meth : Method} {cG : Code} {A : Nat → Prop} {H : Heap} {locs : List Loc} {o : Nat} {mP : Nat} {mL : Nat} {mC : Nat} {mN : Nat} {mF : Nat} {mR : Nat} {mD : Nat} {mV : Nat} {mX : Nat} {mA : Nat} {mK : Nat} {mT : Nat} {mU : Nat} {mH : Nat} {mI : Nat} {cm : Int32} {pm : Int32} {fr : Nat → Int64} {fd : Nat → Int64} (hx : pG.tables.exec = Jvm.exec) (hb : cG.code = cX5_layMinors) (hr : meth.sig.returnType = none) (hml : cG.maxLocals = 9) (hown : sG.vm.findClass RX5 = some mG.cls) (hts : ∀ x ∈ wsX5_layMinors, x.before ([.ref o] : List Value).toArray sG = true) (hlk : meth.locks = false) (hK : gd_K D cI cJ sG) (hA : ∀ q : Nat, sG.heap.size ≤ q → A q) (hP : va_P D vwCl [kM o mP mL mC mN mF mR mD mV mX mA mK cm mT pm mU mH mI, kJ mR cJ 30 fr, kJ mD cJ 64 (z5_mm31 fr fd)] H) (hD : va_D A [kM o mP mL mC mN mF mR mD mV mX mA mK cm mT pm mU mH mI, kJ mR cJ 30 fr, kJ mD cJ 64 (z5_mm31 fr fd)]) (hS : va_S A sG.heap H locs) (ls : Array Slot) (hl : lv_has ls 9 [(0, .ref o), (1, .int 31)]) : W pG l eG (headSpec wsX5_layMinors ({ frames := 0, cells := 0, slots := 0, locals := 0 })).room sG mG ([.ref o] : List Value).toArray below meth cG H locs 0 0 (MQ below ((qe_v (fun _ : Unit => True) (fun uu => [kM o mP mL mC mN mF mR mD mV mX mA mK cm mT pm mU mH mI, kJ mR cJ 30 fr, kJ mD cJ 64 (z5_layMinors_f2 fr fd)])) D A) ([.ref o] : List Value).toArray sG 0 0 A) (F0 mG 9 ls []) := by
  have k_1 := hts (.fieldLink RX5 29 "ConicRowsModel" "minors" "[J") (by decide +kernel)
  have k_2 : ∀ w ∈ wsX50, w ∈ wsX5_layMinors := by decide +kernel
  have k_3 := hts (.constant RX5 122 (-1000001)) (by decide +kernel)
  have k_4 := hts (.fieldLink RX5 26 "ConicRowsModel" "rows" "[J") (by decide +kernel)
  refine lv_iload_n hx hb dX5_layMinors_9 rfl (lv_at hl 1 rfl) ?_
  refine lv_bipush (v := 64) hx hb dX5_layMinors_10 (by decide) ?_
  refine lv_icmp_ge (tgt := 148) hx hb dX5_layMinors_12 (by decide) (fun h => absurd h (by decide)) (fun _ => ?_)
  refine lv_ldc hx hb hown k_3 dX5_layMinors_15 ?_
  refine lv_istore_n (lv' := [(2, .int (-1000001)), (0, .ref o), (1, .int 31)]) hx hb dX5_layMinors_17 rfl hl (by decide) rfl (fun ls hl => ?_)
  refine lv_iconst (v := 0) hx hb dX5_layMinors_18 (by decide) ?_
  refine lv_istore_n (lv' := [(3, .int 0), (2, .int (-1000001)), (0, .ref o), (1, .int 31)]) hx hb dX5_layMinors_19 rfl hl (by decide) rfl (fun ls hl => ?_)
  refine lv_iload_n hx hb dX5_layMinors_20 rfl (lv_at hl 0 rfl) ?_
  refine lv_bipush (v := 6) hx hb dX5_layMinors_21 (by decide) ?_
  refine lv_icmp_ge (tgt := 52) hx hb dX5_layMinors_23 (by decide) (fun h => absurd h (by decide)) (fun _ => ?_)
  refine lv_iload_n hx hb dX5_layMinors_26 rfl (lv_at hl 1 rfl) ?_
  refine lv_ldc hx hb hown k_3 dX5_layMinors_27 ?_
  refine lv_icmp_ne (tgt := 36) hx hb dX5_layMinors_29 (by decide) (fun h => absurd (by decide) h) (fun _ => ?_)
  refine lv_iconst (v := (-1)) hx hb dX5_layMinors_32 (by decide) ?_
  refine lv_goto (tgt := 37) hx hb dX5_layMinors_33 (by decide) ?_
  refine lv_istore_n (lv' := [(2, .int (-1)), (3, .int 0), (0, .ref o), (1, .int 31)]) hx hb dX5_layMinors_37 rfl hl (by decide) rfl (fun ls hl => ?_)
  refine lv_iload_n hx hb dX5_layMinors_38 rfl (lv_at hl 0 rfl) ?_
  refine lv_iload_n hx hb dX5_layMinors_39 rfl (lv_at hl 3 rfl) ?_
  refine lv_iload_n hx hb dX5_layMinors_40 rfl (lv_at hl 1 rfl) ?_
  refine lv_ishr hx hb dX5_layMinors_41 ?_
  refine lv_eqi (v := 31) (by decide) ?_
  refine lv_iconst (v := 1) hx hb dX5_layMinors_42 (by decide) ?_
  refine lv_iand hx hb dX5_layMinors_43 ?_
  refine lv_eqi (v := 1) (by decide) ?_
  refine lv_iadd hx hb dX5_layMinors_44 ?_
  refine lv_eqi (v := 0) (by decide) ?_
  refine lv_istore_n (lv' := [(2, .int 0), (3, .int 0), (0, .ref o), (1, .int 31)]) hx hb dX5_layMinors_45 rfl hl (by decide) rfl (fun ls hl => ?_)
  refine lv_iinc (v := 1) (lv' := [(3, .int 1), (2, .int 0), (0, .ref o), (1, .int 31)]) hx hb dX5_layMinors_46 hl (k := 1) rfl (by decide) (by decide) rfl (fun ls hl => ?_)
  refine lv_goto (tgt := 20) hx hb dX5_layMinors_49 (by decide) ?_
  refine lv_iload_n hx hb dX5_layMinors_20 rfl (lv_at hl 0 rfl) ?_
  refine lv_bipush (v := 6) hx hb dX5_layMinors_21 (by decide) ?_
  refine lv_icmp_ge (tgt := 52) hx hb dX5_layMinors_23 (by decide) (fun h => absurd h (by decide)) (fun _ => ?_)
  refine lv_iload_n hx hb dX5_layMinors_26 rfl (lv_at hl 1 rfl) ?_
  refine lv_ldc hx hb hown k_3 dX5_layMinors_27 ?_
  refine lv_icmp_ne (tgt := 36) hx hb dX5_layMinors_29 (by decide) (fun _ => ?_) (fun h => absurd h (by decide))
  refine lv_iload_n hx hb dX5_layMinors_36 rfl (lv_at hl 1 rfl) ?_
  refine lv_istore_n (lv' := [(2, .int 0), (3, .int 1), (0, .ref o), (1, .int 31)]) hx hb dX5_layMinors_37 rfl hl (by decide) rfl (fun ls hl => ?_)
  refine lv_iload_n hx hb dX5_layMinors_38 rfl (lv_at hl 0 rfl) ?_
  refine lv_iload_n hx hb dX5_layMinors_39 rfl (lv_at hl 3 rfl) ?_
  refine lv_iload_n hx hb dX5_layMinors_40 rfl (lv_at hl 1 rfl) ?_
  refine lv_ishr hx hb dX5_layMinors_41 ?_
  refine lv_eqi (v := 15) (by decide) ?_
  refine lv_iconst (v := 1) hx hb dX5_layMinors_42 (by decide) ?_
  refine lv_iand hx hb dX5_layMinors_43 ?_
  refine lv_eqi (v := 1) (by decide) ?_
  refine lv_iadd hx hb dX5_layMinors_44 ?_
  refine lv_eqi (v := 1) (by decide) ?_
  refine lv_istore_n (lv' := [(2, .int 1), (3, .int 1), (0, .ref o), (1, .int 31)]) hx hb dX5_layMinors_45 rfl hl (by decide) rfl (fun ls hl => ?_)
  refine lv_iinc (v := 2) (lv' := [(3, .int 2), (2, .int 1), (0, .ref o), (1, .int 31)]) hx hb dX5_layMinors_46 hl (k := 1) rfl (by decide) (by decide) rfl (fun ls hl => ?_)
  refine lv_goto (tgt := 20) hx hb dX5_layMinors_49 (by decide) ?_
  refine lv_iload_n hx hb dX5_layMinors_20 rfl (lv_at hl 0 rfl) ?_
  refine lv_bipush (v := 6) hx hb dX5_layMinors_21 (by decide) ?_
  refine lv_icmp_ge (tgt := 52) hx hb dX5_layMinors_23 (by decide) (fun h => absurd h (by decide)) (fun _ => ?_)
  refine lv_iload_n hx hb dX5_layMinors_26 rfl (lv_at hl 1 rfl) ?_
  refine lv_ldc hx hb hown k_3 dX5_layMinors_27 ?_
  refine lv_icmp_ne (tgt := 36) hx hb dX5_layMinors_29 (by decide) (fun _ => ?_) (fun h => absurd h (by decide))
  refine lv_iload_n hx hb dX5_layMinors_36 rfl (lv_at hl 1 rfl) ?_
  refine lv_istore_n (lv' := [(2, .int 1), (3, .int 2), (0, .ref o), (1, .int 31)]) hx hb dX5_layMinors_37 rfl hl (by decide) rfl (fun ls hl => ?_)
  refine lv_iload_n hx hb dX5_layMinors_38 rfl (lv_at hl 0 rfl) ?_
  refine lv_iload_n hx hb dX5_layMinors_39 rfl (lv_at hl 3 rfl) ?_
  refine lv_iload_n hx hb dX5_layMinors_40 rfl (lv_at hl 1 rfl) ?_
  refine lv_ishr hx hb dX5_layMinors_41 ?_
  refine lv_eqi (v := 7) (by decide) ?_
  refine lv_iconst (v := 1) hx hb dX5_layMinors_42 (by decide) ?_
  refine lv_iand hx hb dX5_layMinors_43 ?_
  refine lv_eqi (v := 1) (by decide) ?_
  refine lv_iadd hx hb dX5_layMinors_44 ?_
  refine lv_eqi (v := 2) (by decide) ?_
  refine lv_istore_n (lv' := [(2, .int 2), (3, .int 2), (0, .ref o), (1, .int 31)]) hx hb dX5_layMinors_45 rfl hl (by decide) rfl (fun ls hl => ?_)
  refine lv_iinc (v := 3) (lv' := [(3, .int 3), (2, .int 2), (0, .ref o), (1, .int 31)]) hx hb dX5_layMinors_46 hl (k := 1) rfl (by decide) (by decide) rfl (fun ls hl => ?_)
  refine lv_goto (tgt := 20) hx hb dX5_layMinors_49 (by decide) ?_
  refine lv_iload_n hx hb dX5_layMinors_20 rfl (lv_at hl 0 rfl) ?_
  refine lv_bipush (v := 6) hx hb dX5_layMinors_21 (by decide) ?_
  refine lv_icmp_ge (tgt := 52) hx hb dX5_layMinors_23 (by decide) (fun h => absurd h (by decide)) (fun _ => ?_)
  refine lv_iload_n hx hb dX5_layMinors_26 rfl (lv_at hl 1 rfl) ?_
  refine lv_ldc hx hb hown k_3 dX5_layMinors_27 ?_
  refine lv_icmp_ne (tgt := 36) hx hb dX5_layMinors_29 (by decide) (fun _ => ?_) (fun h => absurd h (by decide))
  refine lv_iload_n hx hb dX5_layMinors_36 rfl (lv_at hl 1 rfl) ?_
  refine lv_istore_n (lv' := [(2, .int 2), (3, .int 3), (0, .ref o), (1, .int 31)]) hx hb dX5_layMinors_37 rfl hl (by decide) rfl (fun ls hl => ?_)
  refine lv_iload_n hx hb dX5_layMinors_38 rfl (lv_at hl 0 rfl) ?_
  refine lv_iload_n hx hb dX5_layMinors_39 rfl (lv_at hl 3 rfl) ?_
  refine lv_iload_n hx hb dX5_layMinors_40 rfl (lv_at hl 1 rfl) ?_
  refine lv_ishr hx hb dX5_layMinors_41 ?_
  refine lv_eqi (v := 3) (by decide) ?_
  refine lv_iconst (v := 1) hx hb dX5_layMinors_42 (by decide) ?_
  refine lv_iand hx hb dX5_layMinors_43 ?_
  refine lv_eqi (v := 1) (by decide) ?_
  refine lv_iadd hx hb dX5_layMinors_44 ?_
  refine lv_eqi (v := 3) (by decide) ?_
  refine lv_istore_n (lv' := [(2, .int 3), (3, .int 3), (0, .ref o), (1, .int 31)]) hx hb dX5_layMinors_45 rfl hl (by decide) rfl (fun ls hl => ?_)
  refine lv_iinc (v := 4) (lv' := [(3, .int 4), (2, .int 3), (0, .ref o), (1, .int 31)]) hx hb dX5_layMinors_46 hl (k := 1) rfl (by decide) (by decide) rfl (fun ls hl => ?_)
  refine lv_goto (tgt := 20) hx hb dX5_layMinors_49 (by decide) ?_
  refine lv_iload_n hx hb dX5_layMinors_20 rfl (lv_at hl 0 rfl) ?_
  refine lv_bipush (v := 6) hx hb dX5_layMinors_21 (by decide) ?_
  refine lv_icmp_ge (tgt := 52) hx hb dX5_layMinors_23 (by decide) (fun h => absurd h (by decide)) (fun _ => ?_)
  refine lv_iload_n hx hb dX5_layMinors_26 rfl (lv_at hl 1 rfl) ?_
  refine lv_ldc hx hb hown k_3 dX5_layMinors_27 ?_
  refine lv_icmp_ne (tgt := 36) hx hb dX5_layMinors_29 (by decide) (fun _ => ?_) (fun h => absurd h (by decide))
  refine lv_iload_n hx hb dX5_layMinors_36 rfl (lv_at hl 1 rfl) ?_
  refine lv_istore_n (lv' := [(2, .int 3), (3, .int 4), (0, .ref o), (1, .int 31)]) hx hb dX5_layMinors_37 rfl hl (by decide) rfl (fun ls hl => ?_)
  refine lv_iload_n hx hb dX5_layMinors_38 rfl (lv_at hl 0 rfl) ?_
  refine lv_iload_n hx hb dX5_layMinors_39 rfl (lv_at hl 3 rfl) ?_
  refine lv_iload_n hx hb dX5_layMinors_40 rfl (lv_at hl 1 rfl) ?_
  refine lv_ishr hx hb dX5_layMinors_41 ?_
  refine lv_eqi (v := 1) (by decide) ?_
  refine lv_iconst (v := 1) hx hb dX5_layMinors_42 (by decide) ?_
  refine lv_iand hx hb dX5_layMinors_43 ?_
  refine lv_eqi (v := 1) (by decide) ?_
  refine lv_iadd hx hb dX5_layMinors_44 ?_
  refine lv_eqi (v := 4) (by decide) ?_
  refine lv_istore_n (lv' := [(2, .int 4), (3, .int 4), (0, .ref o), (1, .int 31)]) hx hb dX5_layMinors_45 rfl hl (by decide) rfl (fun ls hl => ?_)
  refine lv_iinc (v := 5) (lv' := [(3, .int 5), (2, .int 4), (0, .ref o), (1, .int 31)]) hx hb dX5_layMinors_46 hl (k := 1) rfl (by decide) (by decide) rfl (fun ls hl => ?_)
  refine lv_goto (tgt := 20) hx hb dX5_layMinors_49 (by decide) ?_
  refine lv_iload_n hx hb dX5_layMinors_20 rfl (lv_at hl 0 rfl) ?_
  refine lv_bipush (v := 6) hx hb dX5_layMinors_21 (by decide) ?_
  refine lv_icmp_ge (tgt := 52) hx hb dX5_layMinors_23 (by decide) (fun h => absurd h (by decide)) (fun _ => ?_)
  refine lv_iload_n hx hb dX5_layMinors_26 rfl (lv_at hl 1 rfl) ?_
  refine lv_ldc hx hb hown k_3 dX5_layMinors_27 ?_
  refine lv_icmp_ne (tgt := 36) hx hb dX5_layMinors_29 (by decide) (fun _ => ?_) (fun h => absurd h (by decide))
  refine lv_iload_n hx hb dX5_layMinors_36 rfl (lv_at hl 1 rfl) ?_
  refine lv_istore_n (lv' := [(2, .int 4), (3, .int 5), (0, .ref o), (1, .int 31)]) hx hb dX5_layMinors_37 rfl hl (by decide) rfl (fun ls hl => ?_)
  refine lv_iload_n hx hb dX5_layMinors_38 rfl (lv_at hl 0 rfl) ?_
  refine lv_iload_n hx hb dX5_layMinors_39 rfl (lv_at hl 3 rfl) ?_
  refine lv_iload_n hx hb dX5_layMinors_40 rfl (lv_at hl 1 rfl) ?_
  refine lv_ishr hx hb dX5_layMinors_41 ?_
  refine lv_eqi (v := 0) (by decide) ?_
  refine lv_iconst (v := 1) hx hb dX5_layMinors_42 (by decide) ?_
  refine lv_iand hx hb dX5_layMinors_43 ?_
  refine lv_eqi (v := 0) (by decide) ?_
  refine lv_iadd hx hb dX5_layMinors_44 ?_
  refine lv_eqi (v := 4) (by decide) ?_
  refine lv_istore_n (lv' := [(2, .int 4), (3, .int 5), (0, .ref o), (1, .int 31)]) hx hb dX5_layMinors_45 rfl hl (by decide) rfl (fun ls hl => ?_)
  refine lv_iinc (v := 6) (lv' := [(3, .int 6), (2, .int 4), (0, .ref o), (1, .int 31)]) hx hb dX5_layMinors_46 hl (k := 1) rfl (by decide) (by decide) rfl (fun ls hl => ?_)
  refine lv_goto (tgt := 20) hx hb dX5_layMinors_49 (by decide) ?_
  refine lv_iload_n hx hb dX5_layMinors_20 rfl (lv_at hl 0 rfl) ?_
  refine lv_bipush (v := 6) hx hb dX5_layMinors_21 (by decide) ?_
  refine lv_icmp_ge (tgt := 52) hx hb dX5_layMinors_23 (by decide) (fun _ => ?_) (fun h => absurd (by decide) h)
  refine lv_lconst (v := 0) hx hb dX5_layMinors_52 (by decide) ?_
  refine lv_lstore_n (lv' := [(3, .long 0), (2, .int 4), (0, .ref o), (1, .int 31)]) hx hb dX5_layMinors_53 rfl hl (by decide) rfl (fun ls hl => ?_)
  refine lv_iload_n hx hb dX5_layMinors_54 rfl (lv_at hl 1 rfl) ?_
  refine lv_istore (lv' := [(5, .int 4), (3, .long 0), (2, .int 4), (0, .ref o), (1, .int 31)]) hx hb dX5_layMinors_55 hl (by decide) rfl (fun ls hl => ?_)
  refine lv_iconst (v := 0) hx hb dX5_layMinors_57 (by decide) ?_
  refine lv_istore (lv' := [(6, .int 0), (5, .int 4), (3, .long 0), (2, .int 4), (0, .ref o), (1, .int 31)]) hx hb dX5_layMinors_58 hl (by decide) rfl (fun ls hl => ?_)
  refine lv_iload hx hb dX5_layMinors_60 (lv_at hl 0 rfl) ?_
  refine lv_bipush (v := 6) hx hb dX5_layMinors_62 (by decide) ?_
  refine lv_icmp_ge (tgt := 135) hx hb dX5_layMinors_64 (by decide) (fun h => absurd h (by decide)) (fun _ => ?_)
  refine lv_iload_n hx hb dX5_layMinors_67 rfl (lv_at hl 3 rfl) ?_
  refine lv_iconst (v := 5) hx hb dX5_layMinors_68 (by decide) ?_
  refine lv_icmp_ge (tgt := 135) hx hb dX5_layMinors_69 (by decide) (fun h => absurd h (by decide)) (fun _ => ?_)
  refine lv_iload_n hx hb dX5_layMinors_72 rfl (lv_at hl 5 rfl) ?_
  refine lv_iload hx hb dX5_layMinors_73 (lv_at hl 0 rfl) ?_
  refine lv_ishr hx hb dX5_layMinors_75 ?_
  refine lv_eqi (v := 31) (by decide) ?_
  refine lv_iconst (v := 1) hx hb dX5_layMinors_76 (by decide) ?_
  refine lv_iand hx hb dX5_layMinors_77 ?_
  refine lv_eqi (v := 1) (by decide) ?_
  refine lv_iconst (v := 1) hx hb dX5_layMinors_78 (by decide) ?_
  refine lv_icmp_ne (tgt := 129) hx hb dX5_layMinors_79 (by decide) (fun h => absurd (by decide) h) (fun _ => ?_)
  refine lv_aload_n hx hb dX5_layMinors_82 rfl (lv_at hl 4 rfl) ?_
  refine va_get (D := D) (ci := 5) (v := .ref mR) (C := RX5) (T := TX5) (N := 17) hx hb hts k_2 hown hK.1 hP 0 rfl rfl 5 (by decide) k_4 (fun _ h9 => h9) rfl dX5_layMinors_83 ?_
  refine lv_bipush (v := 6) hx hb dX5_layMinors_86 (by decide) ?_
  refine lv_iload_n hx hb dX5_layMinors_88 rfl (lv_at hl 3 rfl) ?_
  refine lv_imul hx hb dX5_layMinors_89 ?_
  refine lv_eqi (v := 24) (by decide) ?_
  refine lv_iload hx hb dX5_layMinors_90 (lv_at hl 0 rfl) ?_
  refine lv_iadd hx hb dX5_layMinors_92 ?_
  refine lv_eqi (v := 24) (by decide) ?_
  refine ld_l hx hb hK.1 hP 1 1 rfl rfl (ix_lit (by decide)) 24 (by decide) (v := fr 24) rfl dX5_layMinors_93 ?_
  refine lv_aload_n hx hb dX5_layMinors_94 rfl (lv_at hl 4 rfl) ?_
  refine va_get (D := D) (ci := 5) (v := .ref mD) (C := RX5) (T := TX5) (N := 17) hx hb hts k_2 hown hK.1 hP 0 rfl rfl 6 (by decide) k_1 (fun _ h9 => h9) rfl dX5_layMinors_95 ?_
  refine lv_iload_n hx hb dX5_layMinors_98 rfl (lv_at hl 5 rfl) ?_
  refine lv_iconst (v := 1) hx hb dX5_layMinors_99 (by decide) ?_
  refine lv_iload hx hb dX5_layMinors_100 (lv_at hl 0 rfl) ?_
  refine lv_ishl hx hb dX5_layMinors_102 ?_
  refine lv_eqi (v := 1) (by decide) ?_
  refine lv_isub hx hb dX5_layMinors_103 ?_
  refine lv_eqi (v := 30) (by decide) ?_
  refine ld_l hx hb hK.1 hP 2 1 rfl rfl (ix_lit (by decide)) 30 (by decide) (v := z5_mw30 fr) rfl dX5_layMinors_104 ?_
  refine lv_lmul hx hb dX5_layMinors_105 ?_
  refine lv_lstore (lv' := [(7, .long ((fr 24) * (z5_mw30 fr))), (6, .int 0), (5, .int 4), (3, .long 0), (2, .int 4), (0, .ref o), (1, .int 31)]) hx hb dX5_layMinors_106 hl (by decide) rfl (fun ls hl => ?_)
  refine lv_lload_n hx hb dX5_layMinors_108 rfl (lv_at hl 3 rfl) ?_
  refine lv_iload hx hb dX5_layMinors_109 (lv_at hl 2 rfl) ?_
  refine lv_iconst (v := 2) hx hb dX5_layMinors_111 (by decide) ?_
  refine lv_irem hx hb dX5_layMinors_112 (by decide) ?_
  refine lv_eqi (v := 0) (by decide) ?_
  refine lv_if_ne (tgt := 121) hx hb dX5_layMinors_113 (by decide) (fun h => absurd (by decide) h) (fun _ => ?_)
  refine lv_lload hx hb dX5_layMinors_116 (lv_at hl 0 rfl) ?_
  refine lv_goto (tgt := 124) hx hb dX5_layMinors_118 (by decide) ?_
  refine lv_ladd hx hb dX5_layMinors_124 ?_
  refine lv_lstore_n (lv' := [(3, .long (0 + ((fr 24) * (z5_mw30 fr)))), (7, .long ((fr 24) * (z5_mw30 fr))), (6, .int 0), (5, .int 4), (2, .int 4), (0, .ref o), (1, .int 31)]) hx hb dX5_layMinors_125 rfl hl (by decide) rfl (fun ls hl => ?_)
  refine lv_iinc (v := 3) (lv' := [(5, .int 3), (3, .long (0 + ((fr 24) * (z5_mw30 fr)))), (7, .long ((fr 24) * (z5_mw30 fr))), (6, .int 0), (2, .int 4), (0, .ref o), (1, .int 31)]) hx hb dX5_layMinors_126 hl (k := 3) rfl (by decide) (by decide) rfl (fun ls hl => ?_)
  refine lv_iinc (v := 1) (lv' := [(6, .int 1), (5, .int 3), (3, .long (0 + ((fr 24) * (z5_mw30 fr)))), (7, .long ((fr 24) * (z5_mw30 fr))), (2, .int 4), (0, .ref o), (1, .int 31)]) hx hb dX5_layMinors_129 hl (k := 3) rfl (by decide) (by decide) rfl (fun ls hl => ?_)
  refine lv_goto (tgt := 60) hx hb dX5_layMinors_132 (by decide) ?_
  refine lv_iload hx hb dX5_layMinors_60 (lv_at hl 0 rfl) ?_
  refine lv_bipush (v := 6) hx hb dX5_layMinors_62 (by decide) ?_
  refine lv_icmp_ge (tgt := 135) hx hb dX5_layMinors_64 (by decide) (fun h => absurd h (by decide)) (fun _ => ?_)
  refine lv_iload_n hx hb dX5_layMinors_67 rfl (lv_at hl 4 rfl) ?_
  refine lv_iconst (v := 5) hx hb dX5_layMinors_68 (by decide) ?_
  refine lv_icmp_ge (tgt := 135) hx hb dX5_layMinors_69 (by decide) (fun h => absurd h (by decide)) (fun _ => ?_)
  refine lv_iload_n hx hb dX5_layMinors_72 rfl (lv_at hl 6 rfl) ?_
  refine lv_iload hx hb dX5_layMinors_73 (lv_at hl 0 rfl) ?_
  refine lv_ishr hx hb dX5_layMinors_75 ?_
  refine lv_eqi (v := 15) (by decide) ?_
  refine lv_iconst (v := 1) hx hb dX5_layMinors_76 (by decide) ?_
  refine lv_iand hx hb dX5_layMinors_77 ?_
  refine lv_eqi (v := 1) (by decide) ?_
  refine lv_iconst (v := 1) hx hb dX5_layMinors_78 (by decide) ?_
  refine lv_icmp_ne (tgt := 129) hx hb dX5_layMinors_79 (by decide) (fun h => absurd (by decide) h) (fun _ => ?_)
  refine lv_aload_n hx hb dX5_layMinors_82 rfl (lv_at hl 5 rfl) ?_
  refine va_get (D := D) (ci := 5) (v := .ref mR) (C := RX5) (T := TX5) (N := 17) hx hb hts k_2 hown hK.1 hP 0 rfl rfl 5 (by decide) k_4 (fun _ h9 => h9) rfl dX5_layMinors_83 ?_
  refine lv_bipush (v := 6) hx hb dX5_layMinors_86 (by decide) ?_
  refine lv_iload_n hx hb dX5_layMinors_88 rfl (lv_at hl 4 rfl) ?_
  refine lv_imul hx hb dX5_layMinors_89 ?_
  refine lv_eqi (v := 24) (by decide) ?_
  refine lv_iload hx hb dX5_layMinors_90 (lv_at hl 0 rfl) ?_
  refine lv_iadd hx hb dX5_layMinors_92 ?_
  refine lv_eqi (v := 25) (by decide) ?_
  refine ld_l hx hb hK.1 hP 1 1 rfl rfl (ix_lit (by decide)) 25 (by decide) (v := fr 25) rfl dX5_layMinors_93 ?_
  refine lv_aload_n hx hb dX5_layMinors_94 rfl (lv_at hl 5 rfl) ?_
  refine va_get (D := D) (ci := 5) (v := .ref mD) (C := RX5) (T := TX5) (N := 17) hx hb hts k_2 hown hK.1 hP 0 rfl rfl 6 (by decide) k_1 (fun _ h9 => h9) rfl dX5_layMinors_95 ?_
  refine lv_iload_n hx hb dX5_layMinors_98 rfl (lv_at hl 6 rfl) ?_
  refine lv_iconst (v := 1) hx hb dX5_layMinors_99 (by decide) ?_
  refine lv_iload hx hb dX5_layMinors_100 (lv_at hl 0 rfl) ?_
  refine lv_ishl hx hb dX5_layMinors_102 ?_
  refine lv_eqi (v := 2) (by decide) ?_
  refine lv_isub hx hb dX5_layMinors_103 ?_
  refine lv_eqi (v := 29) (by decide) ?_
  refine ld_l hx hb hK.1 hP 2 1 rfl rfl (ix_lit (by decide)) 29 (by decide) (v := z5_mw29 fr) rfl dX5_layMinors_104 ?_
  refine lv_lmul hx hb dX5_layMinors_105 ?_
  refine lv_lstore (lv' := [(7, .long ((fr 25) * (z5_mw29 fr))), (6, .int 1), (5, .int 3), (3, .long (0 + ((fr 24) * (z5_mw30 fr)))), (2, .int 4), (0, .ref o), (1, .int 31)]) hx hb dX5_layMinors_106 hl (by decide) rfl (fun ls hl => ?_)
  refine lv_lload_n hx hb dX5_layMinors_108 rfl (lv_at hl 3 rfl) ?_
  refine lv_iload hx hb dX5_layMinors_109 (lv_at hl 2 rfl) ?_
  refine lv_iconst (v := 2) hx hb dX5_layMinors_111 (by decide) ?_
  refine lv_irem hx hb dX5_layMinors_112 (by decide) ?_
  refine lv_eqi (v := 1) (by decide) ?_
  refine lv_if_ne (tgt := 121) hx hb dX5_layMinors_113 (by decide) (fun _ => ?_) (fun h => absurd h (by decide))
  refine lv_lload hx hb dX5_layMinors_121 (lv_at hl 0 rfl) ?_
  refine lv_lneg hx hb dX5_layMinors_123 ?_
  refine lv_ladd hx hb dX5_layMinors_124 ?_
  refine lv_lstore_n (lv' := [(3, .long ((0 + ((fr 24) * (z5_mw30 fr))) + (-((fr 25) * (z5_mw29 fr))))), (7, .long ((fr 25) * (z5_mw29 fr))), (6, .int 1), (5, .int 3), (2, .int 4), (0, .ref o), (1, .int 31)]) hx hb dX5_layMinors_125 rfl hl (by decide) rfl (fun ls hl => ?_)
  refine lv_iinc (v := 2) (lv' := [(5, .int 2), (3, .long ((0 + ((fr 24) * (z5_mw30 fr))) + (-((fr 25) * (z5_mw29 fr))))), (7, .long ((fr 25) * (z5_mw29 fr))), (6, .int 1), (2, .int 4), (0, .ref o), (1, .int 31)]) hx hb dX5_layMinors_126 hl (k := 3) rfl (by decide) (by decide) rfl (fun ls hl => ?_)
  refine lv_iinc (v := 2) (lv' := [(6, .int 2), (5, .int 2), (3, .long ((0 + ((fr 24) * (z5_mw30 fr))) + (-((fr 25) * (z5_mw29 fr))))), (7, .long ((fr 25) * (z5_mw29 fr))), (2, .int 4), (0, .ref o), (1, .int 31)]) hx hb dX5_layMinors_129 hl (k := 3) rfl (by decide) (by decide) rfl (fun ls hl => ?_)
  refine lv_goto (tgt := 60) hx hb dX5_layMinors_132 (by decide) ?_
  refine lv_iload hx hb dX5_layMinors_60 (lv_at hl 0 rfl) ?_
  refine lv_bipush (v := 6) hx hb dX5_layMinors_62 (by decide) ?_
  refine lv_icmp_ge (tgt := 135) hx hb dX5_layMinors_64 (by decide) (fun h => absurd h (by decide)) (fun _ => ?_)
  refine lv_iload_n hx hb dX5_layMinors_67 rfl (lv_at hl 4 rfl) ?_
  refine lv_iconst (v := 5) hx hb dX5_layMinors_68 (by decide) ?_
  refine lv_icmp_ge (tgt := 135) hx hb dX5_layMinors_69 (by decide) (fun h => absurd h (by decide)) (fun _ => ?_)
  refine lv_iload_n hx hb dX5_layMinors_72 rfl (lv_at hl 6 rfl) ?_
  refine lv_iload hx hb dX5_layMinors_73 (lv_at hl 0 rfl) ?_
  refine lv_ishr hx hb dX5_layMinors_75 ?_
  refine lv_eqi (v := 7) (by decide) ?_
  refine lv_iconst (v := 1) hx hb dX5_layMinors_76 (by decide) ?_
  refine lv_iand hx hb dX5_layMinors_77 ?_
  refine lv_eqi (v := 1) (by decide) ?_
  refine lv_iconst (v := 1) hx hb dX5_layMinors_78 (by decide) ?_
  refine lv_icmp_ne (tgt := 129) hx hb dX5_layMinors_79 (by decide) (fun h => absurd (by decide) h) (fun _ => ?_)
  refine lv_aload_n hx hb dX5_layMinors_82 rfl (lv_at hl 5 rfl) ?_
  refine va_get (D := D) (ci := 5) (v := .ref mR) (C := RX5) (T := TX5) (N := 17) hx hb hts k_2 hown hK.1 hP 0 rfl rfl 5 (by decide) k_4 (fun _ h9 => h9) rfl dX5_layMinors_83 ?_
  refine lv_bipush (v := 6) hx hb dX5_layMinors_86 (by decide) ?_
  refine lv_iload_n hx hb dX5_layMinors_88 rfl (lv_at hl 4 rfl) ?_
  refine lv_imul hx hb dX5_layMinors_89 ?_
  refine lv_eqi (v := 24) (by decide) ?_
  refine lv_iload hx hb dX5_layMinors_90 (lv_at hl 0 rfl) ?_
  refine lv_iadd hx hb dX5_layMinors_92 ?_
  refine lv_eqi (v := 26) (by decide) ?_
  refine ld_l hx hb hK.1 hP 1 1 rfl rfl (ix_lit (by decide)) 26 (by decide) (v := fr 26) rfl dX5_layMinors_93 ?_
  refine lv_aload_n hx hb dX5_layMinors_94 rfl (lv_at hl 5 rfl) ?_
  refine va_get (D := D) (ci := 5) (v := .ref mD) (C := RX5) (T := TX5) (N := 17) hx hb hts k_2 hown hK.1 hP 0 rfl rfl 6 (by decide) k_1 (fun _ h9 => h9) rfl dX5_layMinors_95 ?_
  refine lv_iload_n hx hb dX5_layMinors_98 rfl (lv_at hl 6 rfl) ?_
  refine lv_iconst (v := 1) hx hb dX5_layMinors_99 (by decide) ?_
  refine lv_iload hx hb dX5_layMinors_100 (lv_at hl 0 rfl) ?_
  refine lv_ishl hx hb dX5_layMinors_102 ?_
  refine lv_eqi (v := 4) (by decide) ?_
  refine lv_isub hx hb dX5_layMinors_103 ?_
  refine lv_eqi (v := 27) (by decide) ?_
  refine ld_l hx hb hK.1 hP 2 1 rfl rfl (ix_lit (by decide)) 27 (by decide) (v := z5_mw27 fr) rfl dX5_layMinors_104 ?_
  refine lv_lmul hx hb dX5_layMinors_105 ?_
  refine lv_lstore (lv' := [(7, .long ((fr 26) * (z5_mw27 fr))), (6, .int 2), (5, .int 2), (3, .long ((0 + ((fr 24) * (z5_mw30 fr))) + (-((fr 25) * (z5_mw29 fr))))), (2, .int 4), (0, .ref o), (1, .int 31)]) hx hb dX5_layMinors_106 hl (by decide) rfl (fun ls hl => ?_)
  refine lv_lload_n hx hb dX5_layMinors_108 rfl (lv_at hl 3 rfl) ?_
  refine lv_iload hx hb dX5_layMinors_109 (lv_at hl 2 rfl) ?_
  refine lv_iconst (v := 2) hx hb dX5_layMinors_111 (by decide) ?_
  refine lv_irem hx hb dX5_layMinors_112 (by decide) ?_
  refine lv_eqi (v := 0) (by decide) ?_
  refine lv_if_ne (tgt := 121) hx hb dX5_layMinors_113 (by decide) (fun h => absurd (by decide) h) (fun _ => ?_)
  refine lv_lload hx hb dX5_layMinors_116 (lv_at hl 0 rfl) ?_
  refine lv_goto (tgt := 124) hx hb dX5_layMinors_118 (by decide) ?_
  refine lv_ladd hx hb dX5_layMinors_124 ?_
  refine lv_lstore_n (lv' := [(3, .long (((0 + ((fr 24) * (z5_mw30 fr))) + (-((fr 25) * (z5_mw29 fr)))) + ((fr 26) * (z5_mw27 fr)))), (7, .long ((fr 26) * (z5_mw27 fr))), (6, .int 2), (5, .int 2), (2, .int 4), (0, .ref o), (1, .int 31)]) hx hb dX5_layMinors_125 rfl hl (by decide) rfl (fun ls hl => ?_)
  refine lv_iinc (v := 1) (lv' := [(5, .int 1), (3, .long (((0 + ((fr 24) * (z5_mw30 fr))) + (-((fr 25) * (z5_mw29 fr)))) + ((fr 26) * (z5_mw27 fr)))), (7, .long ((fr 26) * (z5_mw27 fr))), (6, .int 2), (2, .int 4), (0, .ref o), (1, .int 31)]) hx hb dX5_layMinors_126 hl (k := 3) rfl (by decide) (by decide) rfl (fun ls hl => ?_)
  refine lv_iinc (v := 3) (lv' := [(6, .int 3), (5, .int 1), (3, .long (((0 + ((fr 24) * (z5_mw30 fr))) + (-((fr 25) * (z5_mw29 fr)))) + ((fr 26) * (z5_mw27 fr)))), (7, .long ((fr 26) * (z5_mw27 fr))), (2, .int 4), (0, .ref o), (1, .int 31)]) hx hb dX5_layMinors_129 hl (k := 3) rfl (by decide) (by decide) rfl (fun ls hl => ?_)
  refine lv_goto (tgt := 60) hx hb dX5_layMinors_132 (by decide) ?_
  refine lv_iload hx hb dX5_layMinors_60 (lv_at hl 0 rfl) ?_
  refine lv_bipush (v := 6) hx hb dX5_layMinors_62 (by decide) ?_
  refine lv_icmp_ge (tgt := 135) hx hb dX5_layMinors_64 (by decide) (fun h => absurd h (by decide)) (fun _ => ?_)
  refine lv_iload_n hx hb dX5_layMinors_67 rfl (lv_at hl 4 rfl) ?_
  refine lv_iconst (v := 5) hx hb dX5_layMinors_68 (by decide) ?_
  refine lv_icmp_ge (tgt := 135) hx hb dX5_layMinors_69 (by decide) (fun h => absurd h (by decide)) (fun _ => ?_)
  refine lv_iload_n hx hb dX5_layMinors_72 rfl (lv_at hl 6 rfl) ?_
  refine lv_iload hx hb dX5_layMinors_73 (lv_at hl 0 rfl) ?_
  refine lv_ishr hx hb dX5_layMinors_75 ?_
  refine lv_eqi (v := 3) (by decide) ?_
  refine lv_iconst (v := 1) hx hb dX5_layMinors_76 (by decide) ?_
  refine lv_iand hx hb dX5_layMinors_77 ?_
  refine lv_eqi (v := 1) (by decide) ?_
  refine lv_iconst (v := 1) hx hb dX5_layMinors_78 (by decide) ?_
  refine lv_icmp_ne (tgt := 129) hx hb dX5_layMinors_79 (by decide) (fun h => absurd (by decide) h) (fun _ => ?_)
  refine lv_aload_n hx hb dX5_layMinors_82 rfl (lv_at hl 5 rfl) ?_
  refine va_get (D := D) (ci := 5) (v := .ref mR) (C := RX5) (T := TX5) (N := 17) hx hb hts k_2 hown hK.1 hP 0 rfl rfl 5 (by decide) k_4 (fun _ h9 => h9) rfl dX5_layMinors_83 ?_
  refine lv_bipush (v := 6) hx hb dX5_layMinors_86 (by decide) ?_
  refine lv_iload_n hx hb dX5_layMinors_88 rfl (lv_at hl 4 rfl) ?_
  refine lv_imul hx hb dX5_layMinors_89 ?_
  refine lv_eqi (v := 24) (by decide) ?_
  refine lv_iload hx hb dX5_layMinors_90 (lv_at hl 0 rfl) ?_
  refine lv_iadd hx hb dX5_layMinors_92 ?_
  refine lv_eqi (v := 27) (by decide) ?_
  refine ld_l hx hb hK.1 hP 1 1 rfl rfl (ix_lit (by decide)) 27 (by decide) (v := fr 27) rfl dX5_layMinors_93 ?_
  refine lv_aload_n hx hb dX5_layMinors_94 rfl (lv_at hl 5 rfl) ?_
  refine va_get (D := D) (ci := 5) (v := .ref mD) (C := RX5) (T := TX5) (N := 17) hx hb hts k_2 hown hK.1 hP 0 rfl rfl 6 (by decide) k_1 (fun _ h9 => h9) rfl dX5_layMinors_95 ?_
  refine lv_iload_n hx hb dX5_layMinors_98 rfl (lv_at hl 6 rfl) ?_
  refine lv_iconst (v := 1) hx hb dX5_layMinors_99 (by decide) ?_
  refine lv_iload hx hb dX5_layMinors_100 (lv_at hl 0 rfl) ?_
  refine lv_ishl hx hb dX5_layMinors_102 ?_
  refine lv_eqi (v := 8) (by decide) ?_
  refine lv_isub hx hb dX5_layMinors_103 ?_
  refine lv_eqi (v := 23) (by decide) ?_
  refine ld_l hx hb hK.1 hP 2 1 rfl rfl (ix_lit (by decide)) 23 (by decide) (v := z5_mw23 fr) rfl dX5_layMinors_104 ?_
  refine lv_lmul hx hb dX5_layMinors_105 ?_
  refine lv_lstore (lv' := [(7, .long ((fr 27) * (z5_mw23 fr))), (6, .int 3), (5, .int 1), (3, .long (((0 + ((fr 24) * (z5_mw30 fr))) + (-((fr 25) * (z5_mw29 fr)))) + ((fr 26) * (z5_mw27 fr)))), (2, .int 4), (0, .ref o), (1, .int 31)]) hx hb dX5_layMinors_106 hl (by decide) rfl (fun ls hl => ?_)
  refine lv_lload_n hx hb dX5_layMinors_108 rfl (lv_at hl 3 rfl) ?_
  refine lv_iload hx hb dX5_layMinors_109 (lv_at hl 2 rfl) ?_
  refine lv_iconst (v := 2) hx hb dX5_layMinors_111 (by decide) ?_
  refine lv_irem hx hb dX5_layMinors_112 (by decide) ?_
  refine lv_eqi (v := 1) (by decide) ?_
  refine lv_if_ne (tgt := 121) hx hb dX5_layMinors_113 (by decide) (fun _ => ?_) (fun h => absurd h (by decide))
  refine lv_lload hx hb dX5_layMinors_121 (lv_at hl 0 rfl) ?_
  refine lv_lneg hx hb dX5_layMinors_123 ?_
  refine lv_ladd hx hb dX5_layMinors_124 ?_
  refine lv_lstore_n (lv' := [(3, .long ((((0 + ((fr 24) * (z5_mw30 fr))) + (-((fr 25) * (z5_mw29 fr)))) + ((fr 26) * (z5_mw27 fr))) + (-((fr 27) * (z5_mw23 fr))))), (7, .long ((fr 27) * (z5_mw23 fr))), (6, .int 3), (5, .int 1), (2, .int 4), (0, .ref o), (1, .int 31)]) hx hb dX5_layMinors_125 rfl hl (by decide) rfl (fun ls hl => ?_)
  refine lv_iinc (v := 0) (lv' := [(5, .int 0), (3, .long ((((0 + ((fr 24) * (z5_mw30 fr))) + (-((fr 25) * (z5_mw29 fr)))) + ((fr 26) * (z5_mw27 fr))) + (-((fr 27) * (z5_mw23 fr))))), (7, .long ((fr 27) * (z5_mw23 fr))), (6, .int 3), (2, .int 4), (0, .ref o), (1, .int 31)]) hx hb dX5_layMinors_126 hl (k := 3) rfl (by decide) (by decide) rfl (fun ls hl => ?_)
  refine lv_iinc (v := 4) (lv' := [(6, .int 4), (5, .int 0), (3, .long ((((0 + ((fr 24) * (z5_mw30 fr))) + (-((fr 25) * (z5_mw29 fr)))) + ((fr 26) * (z5_mw27 fr))) + (-((fr 27) * (z5_mw23 fr))))), (7, .long ((fr 27) * (z5_mw23 fr))), (2, .int 4), (0, .ref o), (1, .int 31)]) hx hb dX5_layMinors_129 hl (k := 3) rfl (by decide) (by decide) rfl (fun ls hl => ?_)
  refine lv_goto (tgt := 60) hx hb dX5_layMinors_132 (by decide) ?_
  refine lv_iload hx hb dX5_layMinors_60 (lv_at hl 0 rfl) ?_
  refine lv_bipush (v := 6) hx hb dX5_layMinors_62 (by decide) ?_
  refine lv_icmp_ge (tgt := 135) hx hb dX5_layMinors_64 (by decide) (fun h => absurd h (by decide)) (fun _ => ?_)
  refine lv_iload_n hx hb dX5_layMinors_67 rfl (lv_at hl 4 rfl) ?_
  refine lv_iconst (v := 5) hx hb dX5_layMinors_68 (by decide) ?_
  refine lv_icmp_ge (tgt := 135) hx hb dX5_layMinors_69 (by decide) (fun h => absurd h (by decide)) (fun _ => ?_)
  refine lv_iload_n hx hb dX5_layMinors_72 rfl (lv_at hl 6 rfl) ?_
  refine lv_iload hx hb dX5_layMinors_73 (lv_at hl 0 rfl) ?_
  refine lv_ishr hx hb dX5_layMinors_75 ?_
  refine lv_eqi (v := 1) (by decide) ?_
  refine lv_iconst (v := 1) hx hb dX5_layMinors_76 (by decide) ?_
  refine lv_iand hx hb dX5_layMinors_77 ?_
  refine lv_eqi (v := 1) (by decide) ?_
  refine lv_iconst (v := 1) hx hb dX5_layMinors_78 (by decide) ?_
  refine lv_icmp_ne (tgt := 129) hx hb dX5_layMinors_79 (by decide) (fun h => absurd (by decide) h) (fun _ => ?_)
  refine lv_aload_n hx hb dX5_layMinors_82 rfl (lv_at hl 5 rfl) ?_
  refine va_get (D := D) (ci := 5) (v := .ref mR) (C := RX5) (T := TX5) (N := 17) hx hb hts k_2 hown hK.1 hP 0 rfl rfl 5 (by decide) k_4 (fun _ h9 => h9) rfl dX5_layMinors_83 ?_
  refine lv_bipush (v := 6) hx hb dX5_layMinors_86 (by decide) ?_
  refine lv_iload_n hx hb dX5_layMinors_88 rfl (lv_at hl 4 rfl) ?_
  refine lv_imul hx hb dX5_layMinors_89 ?_
  refine lv_eqi (v := 24) (by decide) ?_
  refine lv_iload hx hb dX5_layMinors_90 (lv_at hl 0 rfl) ?_
  refine lv_iadd hx hb dX5_layMinors_92 ?_
  refine lv_eqi (v := 28) (by decide) ?_
  refine ld_l hx hb hK.1 hP 1 1 rfl rfl (ix_lit (by decide)) 28 (by decide) (v := fr 28) rfl dX5_layMinors_93 ?_
  refine lv_aload_n hx hb dX5_layMinors_94 rfl (lv_at hl 5 rfl) ?_
  refine va_get (D := D) (ci := 5) (v := .ref mD) (C := RX5) (T := TX5) (N := 17) hx hb hts k_2 hown hK.1 hP 0 rfl rfl 6 (by decide) k_1 (fun _ h9 => h9) rfl dX5_layMinors_95 ?_
  refine lv_iload_n hx hb dX5_layMinors_98 rfl (lv_at hl 6 rfl) ?_
  refine lv_iconst (v := 1) hx hb dX5_layMinors_99 (by decide) ?_
  refine lv_iload hx hb dX5_layMinors_100 (lv_at hl 0 rfl) ?_
  refine lv_ishl hx hb dX5_layMinors_102 ?_
  refine lv_eqi (v := 16) (by decide) ?_
  refine lv_isub hx hb dX5_layMinors_103 ?_
  refine lv_eqi (v := 15) (by decide) ?_
  refine ld_l hx hb hK.1 hP 2 1 rfl rfl (ix_lit (by decide)) 15 (by decide) (v := z5_mw15 fr) rfl dX5_layMinors_104 ?_
  refine lv_lmul hx hb dX5_layMinors_105 ?_
  refine lv_lstore (lv' := [(7, .long ((fr 28) * (z5_mw15 fr))), (6, .int 4), (5, .int 0), (3, .long ((((0 + ((fr 24) * (z5_mw30 fr))) + (-((fr 25) * (z5_mw29 fr)))) + ((fr 26) * (z5_mw27 fr))) + (-((fr 27) * (z5_mw23 fr))))), (2, .int 4), (0, .ref o), (1, .int 31)]) hx hb dX5_layMinors_106 hl (by decide) rfl (fun ls hl => ?_)
  refine lv_lload_n hx hb dX5_layMinors_108 rfl (lv_at hl 3 rfl) ?_
  refine lv_iload hx hb dX5_layMinors_109 (lv_at hl 2 rfl) ?_
  refine lv_iconst (v := 2) hx hb dX5_layMinors_111 (by decide) ?_
  refine lv_irem hx hb dX5_layMinors_112 (by decide) ?_
  refine lv_eqi (v := 0) (by decide) ?_
  refine lv_if_ne (tgt := 121) hx hb dX5_layMinors_113 (by decide) (fun h => absurd (by decide) h) (fun _ => ?_)
  refine lv_lload hx hb dX5_layMinors_116 (lv_at hl 0 rfl) ?_
  refine lv_goto (tgt := 124) hx hb dX5_layMinors_118 (by decide) ?_
  refine lv_ladd hx hb dX5_layMinors_124 ?_
  refine lv_lstore_n (lv' := [(3, .long (((((0 + ((fr 24) * (z5_mw30 fr))) + (-((fr 25) * (z5_mw29 fr)))) + ((fr 26) * (z5_mw27 fr))) + (-((fr 27) * (z5_mw23 fr)))) + ((fr 28) * (z5_mw15 fr)))), (7, .long ((fr 28) * (z5_mw15 fr))), (6, .int 4), (5, .int 0), (2, .int 4), (0, .ref o), (1, .int 31)]) hx hb dX5_layMinors_125 rfl hl (by decide) rfl (fun ls hl => ?_)
  refine lv_iinc (v := (-1)) (lv' := [(5, .int (-1)), (3, .long (((((0 + ((fr 24) * (z5_mw30 fr))) + (-((fr 25) * (z5_mw29 fr)))) + ((fr 26) * (z5_mw27 fr))) + (-((fr 27) * (z5_mw23 fr)))) + ((fr 28) * (z5_mw15 fr)))), (7, .long ((fr 28) * (z5_mw15 fr))), (6, .int 4), (2, .int 4), (0, .ref o), (1, .int 31)]) hx hb dX5_layMinors_126 hl (k := 3) rfl (by decide) (by decide) rfl (fun ls hl => ?_)
  refine lv_iinc (v := 5) (lv' := [(6, .int 5), (5, .int (-1)), (3, .long (((((0 + ((fr 24) * (z5_mw30 fr))) + (-((fr 25) * (z5_mw29 fr)))) + ((fr 26) * (z5_mw27 fr))) + (-((fr 27) * (z5_mw23 fr)))) + ((fr 28) * (z5_mw15 fr)))), (7, .long ((fr 28) * (z5_mw15 fr))), (2, .int 4), (0, .ref o), (1, .int 31)]) hx hb dX5_layMinors_129 hl (k := 3) rfl (by decide) (by decide) rfl (fun ls hl => ?_)
  refine lv_goto (tgt := 60) hx hb dX5_layMinors_132 (by decide) ?_
  refine lv_iload hx hb dX5_layMinors_60 (lv_at hl 0 rfl) ?_
  refine lv_bipush (v := 6) hx hb dX5_layMinors_62 (by decide) ?_
  refine lv_icmp_ge (tgt := 135) hx hb dX5_layMinors_64 (by decide) (fun h => absurd h (by decide)) (fun _ => ?_)
  refine lv_iload_n hx hb dX5_layMinors_67 rfl (lv_at hl 4 rfl) ?_
  refine lv_iconst (v := 5) hx hb dX5_layMinors_68 (by decide) ?_
  refine lv_icmp_ge (tgt := 135) hx hb dX5_layMinors_69 (by decide) (fun h => absurd h (by decide)) (fun _ => ?_)
  refine lv_iload_n hx hb dX5_layMinors_72 rfl (lv_at hl 6 rfl) ?_
  refine lv_iload hx hb dX5_layMinors_73 (lv_at hl 0 rfl) ?_
  refine lv_ishr hx hb dX5_layMinors_75 ?_
  refine lv_eqi (v := 0) (by decide) ?_
  refine lv_iconst (v := 1) hx hb dX5_layMinors_76 (by decide) ?_
  refine lv_iand hx hb dX5_layMinors_77 ?_
  refine lv_eqi (v := 0) (by decide) ?_
  refine lv_iconst (v := 1) hx hb dX5_layMinors_78 (by decide) ?_
  refine lv_icmp_ne (tgt := 129) hx hb dX5_layMinors_79 (by decide) (fun _ => ?_) (fun h => absurd h (by decide))
  refine lv_iinc (v := 6) (lv' := [(6, .int 6), (5, .int (-1)), (3, .long (((((0 + ((fr 24) * (z5_mw30 fr))) + (-((fr 25) * (z5_mw29 fr)))) + ((fr 26) * (z5_mw27 fr))) + (-((fr 27) * (z5_mw23 fr)))) + ((fr 28) * (z5_mw15 fr)))), (7, .long ((fr 28) * (z5_mw15 fr))), (2, .int 4), (0, .ref o), (1, .int 31)]) hx hb dX5_layMinors_129 hl (k := 0) rfl (by decide) (by decide) rfl (fun ls hl => ?_)
  refine lv_goto (tgt := 60) hx hb dX5_layMinors_132 (by decide) ?_
  refine lv_iload hx hb dX5_layMinors_60 (lv_at hl 0 rfl) ?_
  refine lv_bipush (v := 6) hx hb dX5_layMinors_62 (by decide) ?_
  refine lv_icmp_ge (tgt := 135) hx hb dX5_layMinors_64 (by decide) (fun _ => ?_) (fun h => absurd (by decide) h)
  refine lv_aload_n hx hb dX5_layMinors_135 rfl (lv_at hl 5 rfl) ?_
  refine va_get (D := D) (ci := 5) (v := .ref mD) (C := RX5) (T := TX5) (N := 17) hx hb hts k_2 hown hK.1 hP 0 rfl rfl 6 (by decide) k_1 (fun _ h9 => h9) rfl dX5_layMinors_136 ?_
  refine lv_iload_n hx hb dX5_layMinors_139 rfl (lv_at hl 6 rfl) ?_
  refine lv_lload_n hx hb dX5_layMinors_140 rfl (lv_at hl 2 rfl) ?_
  refine st_l hx hb hK.1 hP hD hS 2 1 rfl rfl (ix_lit (by decide)) 31 (by decide) dX5_layMinors_141 (fun H locs hP hD hS => ?_)
  have hP : va_P D vwCl [kM o mP mL mC mN mF mR mD mV mX mA mK cm mT pm mU mH mI, kJ mR cJ 30 fr, kJ mD cJ 64 (vp_updL (z5_mm31 fr fd) 31 (((((0 + ((fr 24) * (z5_mw30 fr))) + (-((fr 25) * (z5_mw29 fr)))) + ((fr 26) * (z5_mw27 fr))) + (-((fr 27) * (z5_mw23 fr)))) + ((fr 28) * (z5_mw15 fr))))] H := hP
  have hD : va_D A [kM o mP mL mC mN mF mR mD mV mX mA mK cm mT pm mU mH mI, kJ mR cJ 30 fr, kJ mD cJ 64 (vp_updL (z5_mm31 fr fd) 31 (((((0 + ((fr 24) * (z5_mw30 fr))) + (-((fr 25) * (z5_mw29 fr)))) + ((fr 26) * (z5_mw27 fr))) + (-((fr 27) * (z5_mw23 fr)))) + ((fr 28) * (z5_mw15 fr))))] := hD
  have hP : va_P D vwCl [kM o mP mL mC mN mF mR mD mV mX mA mK cm mT pm mU mH mI, kJ mR cJ 30 fr, kJ mD cJ 64 (z5_mm32 fr fd)] H := hP
  have hD : va_D A [kM o mP mL mC mN mF mR mD mV mX mA mK cm mT pm mU mH mI, kJ mR cJ 30 fr, kJ mD cJ 64 (z5_mm32 fr fd)] := hD
  refine lv_iinc (v := 32) (lv' := [(1, .int 32), (6, .int 6), (5, .int (-1)), (3, .long (((((0 + ((fr 24) * (z5_mw30 fr))) + (-((fr 25) * (z5_mw29 fr)))) + ((fr 26) * (z5_mw27 fr))) + (-((fr 27) * (z5_mw23 fr)))) + ((fr 28) * (z5_mw15 fr)))), (7, .long ((fr 28) * (z5_mw15 fr))), (2, .int 4), (0, .ref o)]) hx hb dX5_layMinors_142 hl (k := 6) rfl (by decide) (by decide) rfl (fun ls hl => ?_)
  refine lv_goto (tgt := 9) hx hb dX5_layMinors_145 (by decide) ?_
  exact sg_X5_layMinors_32 hx hb hr hml hown hts hlk hK hA hP hD hS ls (lv_sub hl [6, 0] rfl)
set_option maxHeartbeats 4000000 in
set_option maxRecDepth 100000 in
theorem sg_X5_layMinors_30 {l : Launch} {D : va_G} {cI cJ : ClassId} {pG : Program} {eG : Env} {sG : State} {mG : MethodId} {below : List Frame} {meth : Method} {cG : Code} {A : Nat → Prop} {H : Heap} {locs : List Loc} {o : Nat} {mP : Nat} {mL : Nat} {mC : Nat} {mN : Nat} {mF : Nat} {mR : Nat} {mD : Nat} {mV : Nat} {mX : Nat} {mA : Nat} {mK : Nat} {mT : Nat} {mU : Nat} {mH : Nat} {mI : Nat} {cm : Int32} {pm : Int32} {fr : Nat → Int64} {fd : Nat → Int64} (hx : pG.tables.exec = Jvm.exec) (hb : cG.code = cX5_layMinors) (hr : meth.sig.returnType = none) (hml : cG.maxLocals = 9) (hown : sG.vm.findClass RX5 = some mG.cls) (hts : ∀ x ∈ wsX5_layMinors, x.before ([.ref o] : List Value).toArray sG = true) (hlk : meth.locks = false) (hK : gd_K D cI cJ sG) (hA : ∀ q : Nat, sG.heap.size ≤ q → A q) (hP : va_P D vwCl [kM o mP mL mC mN mF mR mD mV mX mA mK cm mT pm mU mH mI, kJ mR cJ 30 fr, kJ mD cJ 64 (z5_mm30 fr fd)] H) (hD : va_D A [kM o mP mL mC mN mF mR mD mV mX mA mK cm mT pm mU mH mI, kJ mR cJ 30 fr, kJ mD cJ 64 (z5_mm30 fr fd)]) (hS : va_S A sG.heap H locs) (ls : Array Slot) (hl : lv_has ls 9 [(0, .ref o), (1, .int 30)]) : W pG l eG (headSpec wsX5_layMinors ({ frames := 0, cells := 0, slots := 0, locals := 0 })).room sG mG ([.ref o] : List Value).toArray below meth cG H locs 0 0 (MQ below ((qe_v (fun _ : Unit => True) (fun uu => [kM o mP mL mC mN mF mR mD mV mX mA mK cm mT pm mU mH mI, kJ mR cJ 30 fr, kJ mD cJ 64 (z5_layMinors_f2 fr fd)])) D A) ([.ref o] : List Value).toArray sG 0 0 A) (F0 mG 9 ls []) := by
  have k_1 := hts (.fieldLink RX5 29 "ConicRowsModel" "minors" "[J") (by decide +kernel)
  have k_2 : ∀ w ∈ wsX50, w ∈ wsX5_layMinors := by decide +kernel
  have k_3 := hts (.constant RX5 122 (-1000001)) (by decide +kernel)
  have k_4 := hts (.fieldLink RX5 26 "ConicRowsModel" "rows" "[J") (by decide +kernel)
  refine lv_iload_n hx hb dX5_layMinors_9 rfl (lv_at hl 1 rfl) ?_
  refine lv_bipush (v := 64) hx hb dX5_layMinors_10 (by decide) ?_
  refine lv_icmp_ge (tgt := 148) hx hb dX5_layMinors_12 (by decide) (fun h => absurd h (by decide)) (fun _ => ?_)
  refine lv_ldc hx hb hown k_3 dX5_layMinors_15 ?_
  refine lv_istore_n (lv' := [(2, .int (-1000001)), (0, .ref o), (1, .int 30)]) hx hb dX5_layMinors_17 rfl hl (by decide) rfl (fun ls hl => ?_)
  refine lv_iconst (v := 0) hx hb dX5_layMinors_18 (by decide) ?_
  refine lv_istore_n (lv' := [(3, .int 0), (2, .int (-1000001)), (0, .ref o), (1, .int 30)]) hx hb dX5_layMinors_19 rfl hl (by decide) rfl (fun ls hl => ?_)
  refine lv_iload_n hx hb dX5_layMinors_20 rfl (lv_at hl 0 rfl) ?_
  refine lv_bipush (v := 6) hx hb dX5_layMinors_21 (by decide) ?_
  refine lv_icmp_ge (tgt := 52) hx hb dX5_layMinors_23 (by decide) (fun h => absurd h (by decide)) (fun _ => ?_)
  refine lv_iload_n hx hb dX5_layMinors_26 rfl (lv_at hl 1 rfl) ?_
  refine lv_ldc hx hb hown k_3 dX5_layMinors_27 ?_
  refine lv_icmp_ne (tgt := 36) hx hb dX5_layMinors_29 (by decide) (fun h => absurd (by decide) h) (fun _ => ?_)
  refine lv_iconst (v := (-1)) hx hb dX5_layMinors_32 (by decide) ?_
  refine lv_goto (tgt := 37) hx hb dX5_layMinors_33 (by decide) ?_
  refine lv_istore_n (lv' := [(2, .int (-1)), (3, .int 0), (0, .ref o), (1, .int 30)]) hx hb dX5_layMinors_37 rfl hl (by decide) rfl (fun ls hl => ?_)
  refine lv_iload_n hx hb dX5_layMinors_38 rfl (lv_at hl 0 rfl) ?_
  refine lv_iload_n hx hb dX5_layMinors_39 rfl (lv_at hl 3 rfl) ?_
  refine lv_iload_n hx hb dX5_layMinors_40 rfl (lv_at hl 1 rfl) ?_
  refine lv_ishr hx hb dX5_layMinors_41 ?_
  refine lv_eqi (v := 30) (by decide) ?_
  refine lv_iconst (v := 1) hx hb dX5_layMinors_42 (by decide) ?_
  refine lv_iand hx hb dX5_layMinors_43 ?_
  refine lv_eqi (v := 0) (by decide) ?_
  refine lv_iadd hx hb dX5_layMinors_44 ?_
  refine lv_eqi (v := (-1)) (by decide) ?_
  refine lv_istore_n (lv' := [(2, .int (-1)), (3, .int 0), (0, .ref o), (1, .int 30)]) hx hb dX5_layMinors_45 rfl hl (by decide) rfl (fun ls hl => ?_)
  refine lv_iinc (v := 1) (lv' := [(3, .int 1), (2, .int (-1)), (0, .ref o), (1, .int 30)]) hx hb dX5_layMinors_46 hl (k := 1) rfl (by decide) (by decide) rfl (fun ls hl => ?_)
  refine lv_goto (tgt := 20) hx hb dX5_layMinors_49 (by decide) ?_
  refine lv_iload_n hx hb dX5_layMinors_20 rfl (lv_at hl 0 rfl) ?_
  refine lv_bipush (v := 6) hx hb dX5_layMinors_21 (by decide) ?_
  refine lv_icmp_ge (tgt := 52) hx hb dX5_layMinors_23 (by decide) (fun h => absurd h (by decide)) (fun _ => ?_)
  refine lv_iload_n hx hb dX5_layMinors_26 rfl (lv_at hl 1 rfl) ?_
  refine lv_ldc hx hb hown k_3 dX5_layMinors_27 ?_
  refine lv_icmp_ne (tgt := 36) hx hb dX5_layMinors_29 (by decide) (fun _ => ?_) (fun h => absurd h (by decide))
  refine lv_iload_n hx hb dX5_layMinors_36 rfl (lv_at hl 1 rfl) ?_
  refine lv_istore_n (lv' := [(2, .int (-1)), (3, .int 1), (0, .ref o), (1, .int 30)]) hx hb dX5_layMinors_37 rfl hl (by decide) rfl (fun ls hl => ?_)
  refine lv_iload_n hx hb dX5_layMinors_38 rfl (lv_at hl 0 rfl) ?_
  refine lv_iload_n hx hb dX5_layMinors_39 rfl (lv_at hl 3 rfl) ?_
  refine lv_iload_n hx hb dX5_layMinors_40 rfl (lv_at hl 1 rfl) ?_
  refine lv_ishr hx hb dX5_layMinors_41 ?_
  refine lv_eqi (v := 15) (by decide) ?_
  refine lv_iconst (v := 1) hx hb dX5_layMinors_42 (by decide) ?_
  refine lv_iand hx hb dX5_layMinors_43 ?_
  refine lv_eqi (v := 1) (by decide) ?_
  refine lv_iadd hx hb dX5_layMinors_44 ?_
  refine lv_eqi (v := 0) (by decide) ?_
  refine lv_istore_n (lv' := [(2, .int 0), (3, .int 1), (0, .ref o), (1, .int 30)]) hx hb dX5_layMinors_45 rfl hl (by decide) rfl (fun ls hl => ?_)
  refine lv_iinc (v := 2) (lv' := [(3, .int 2), (2, .int 0), (0, .ref o), (1, .int 30)]) hx hb dX5_layMinors_46 hl (k := 1) rfl (by decide) (by decide) rfl (fun ls hl => ?_)
  refine lv_goto (tgt := 20) hx hb dX5_layMinors_49 (by decide) ?_
  refine lv_iload_n hx hb dX5_layMinors_20 rfl (lv_at hl 0 rfl) ?_
  refine lv_bipush (v := 6) hx hb dX5_layMinors_21 (by decide) ?_
  refine lv_icmp_ge (tgt := 52) hx hb dX5_layMinors_23 (by decide) (fun h => absurd h (by decide)) (fun _ => ?_)
  refine lv_iload_n hx hb dX5_layMinors_26 rfl (lv_at hl 1 rfl) ?_
  refine lv_ldc hx hb hown k_3 dX5_layMinors_27 ?_
  refine lv_icmp_ne (tgt := 36) hx hb dX5_layMinors_29 (by decide) (fun _ => ?_) (fun h => absurd h (by decide))
  refine lv_iload_n hx hb dX5_layMinors_36 rfl (lv_at hl 1 rfl) ?_
  refine lv_istore_n (lv' := [(2, .int 0), (3, .int 2), (0, .ref o), (1, .int 30)]) hx hb dX5_layMinors_37 rfl hl (by decide) rfl (fun ls hl => ?_)
  refine lv_iload_n hx hb dX5_layMinors_38 rfl (lv_at hl 0 rfl) ?_
  refine lv_iload_n hx hb dX5_layMinors_39 rfl (lv_at hl 3 rfl) ?_
  refine lv_iload_n hx hb dX5_layMinors_40 rfl (lv_at hl 1 rfl) ?_
  refine lv_ishr hx hb dX5_layMinors_41 ?_
  refine lv_eqi (v := 7) (by decide) ?_
  refine lv_iconst (v := 1) hx hb dX5_layMinors_42 (by decide) ?_
  refine lv_iand hx hb dX5_layMinors_43 ?_
  refine lv_eqi (v := 1) (by decide) ?_
  refine lv_iadd hx hb dX5_layMinors_44 ?_
  refine lv_eqi (v := 1) (by decide) ?_
  refine lv_istore_n (lv' := [(2, .int 1), (3, .int 2), (0, .ref o), (1, .int 30)]) hx hb dX5_layMinors_45 rfl hl (by decide) rfl (fun ls hl => ?_)
  refine lv_iinc (v := 3) (lv' := [(3, .int 3), (2, .int 1), (0, .ref o), (1, .int 30)]) hx hb dX5_layMinors_46 hl (k := 1) rfl (by decide) (by decide) rfl (fun ls hl => ?_)
  refine lv_goto (tgt := 20) hx hb dX5_layMinors_49 (by decide) ?_
  refine lv_iload_n hx hb dX5_layMinors_20 rfl (lv_at hl 0 rfl) ?_
  refine lv_bipush (v := 6) hx hb dX5_layMinors_21 (by decide) ?_
  refine lv_icmp_ge (tgt := 52) hx hb dX5_layMinors_23 (by decide) (fun h => absurd h (by decide)) (fun _ => ?_)
  refine lv_iload_n hx hb dX5_layMinors_26 rfl (lv_at hl 1 rfl) ?_
  refine lv_ldc hx hb hown k_3 dX5_layMinors_27 ?_
  refine lv_icmp_ne (tgt := 36) hx hb dX5_layMinors_29 (by decide) (fun _ => ?_) (fun h => absurd h (by decide))
  refine lv_iload_n hx hb dX5_layMinors_36 rfl (lv_at hl 1 rfl) ?_
  refine lv_istore_n (lv' := [(2, .int 1), (3, .int 3), (0, .ref o), (1, .int 30)]) hx hb dX5_layMinors_37 rfl hl (by decide) rfl (fun ls hl => ?_)
  refine lv_iload_n hx hb dX5_layMinors_38 rfl (lv_at hl 0 rfl) ?_
  refine lv_iload_n hx hb dX5_layMinors_39 rfl (lv_at hl 3 rfl) ?_
  refine lv_iload_n hx hb dX5_layMinors_40 rfl (lv_at hl 1 rfl) ?_
  refine lv_ishr hx hb dX5_layMinors_41 ?_
  refine lv_eqi (v := 3) (by decide) ?_
  refine lv_iconst (v := 1) hx hb dX5_layMinors_42 (by decide) ?_
  refine lv_iand hx hb dX5_layMinors_43 ?_
  refine lv_eqi (v := 1) (by decide) ?_
  refine lv_iadd hx hb dX5_layMinors_44 ?_
  refine lv_eqi (v := 2) (by decide) ?_
  refine lv_istore_n (lv' := [(2, .int 2), (3, .int 3), (0, .ref o), (1, .int 30)]) hx hb dX5_layMinors_45 rfl hl (by decide) rfl (fun ls hl => ?_)
  refine lv_iinc (v := 4) (lv' := [(3, .int 4), (2, .int 2), (0, .ref o), (1, .int 30)]) hx hb dX5_layMinors_46 hl (k := 1) rfl (by decide) (by decide) rfl (fun ls hl => ?_)
  refine lv_goto (tgt := 20) hx hb dX5_layMinors_49 (by decide) ?_
  refine lv_iload_n hx hb dX5_layMinors_20 rfl (lv_at hl 0 rfl) ?_
  refine lv_bipush (v := 6) hx hb dX5_layMinors_21 (by decide) ?_
  refine lv_icmp_ge (tgt := 52) hx hb dX5_layMinors_23 (by decide) (fun h => absurd h (by decide)) (fun _ => ?_)
  refine lv_iload_n hx hb dX5_layMinors_26 rfl (lv_at hl 1 rfl) ?_
  refine lv_ldc hx hb hown k_3 dX5_layMinors_27 ?_
  refine lv_icmp_ne (tgt := 36) hx hb dX5_layMinors_29 (by decide) (fun _ => ?_) (fun h => absurd h (by decide))
  refine lv_iload_n hx hb dX5_layMinors_36 rfl (lv_at hl 1 rfl) ?_
  refine lv_istore_n (lv' := [(2, .int 2), (3, .int 4), (0, .ref o), (1, .int 30)]) hx hb dX5_layMinors_37 rfl hl (by decide) rfl (fun ls hl => ?_)
  refine lv_iload_n hx hb dX5_layMinors_38 rfl (lv_at hl 0 rfl) ?_
  refine lv_iload_n hx hb dX5_layMinors_39 rfl (lv_at hl 3 rfl) ?_
  refine lv_iload_n hx hb dX5_layMinors_40 rfl (lv_at hl 1 rfl) ?_
  refine lv_ishr hx hb dX5_layMinors_41 ?_
  refine lv_eqi (v := 1) (by decide) ?_
  refine lv_iconst (v := 1) hx hb dX5_layMinors_42 (by decide) ?_
  refine lv_iand hx hb dX5_layMinors_43 ?_
  refine lv_eqi (v := 1) (by decide) ?_
  refine lv_iadd hx hb dX5_layMinors_44 ?_
  refine lv_eqi (v := 3) (by decide) ?_
  refine lv_istore_n (lv' := [(2, .int 3), (3, .int 4), (0, .ref o), (1, .int 30)]) hx hb dX5_layMinors_45 rfl hl (by decide) rfl (fun ls hl => ?_)
  refine lv_iinc (v := 5) (lv' := [(3, .int 5), (2, .int 3), (0, .ref o), (1, .int 30)]) hx hb dX5_layMinors_46 hl (k := 1) rfl (by decide) (by decide) rfl (fun ls hl => ?_)
  refine lv_goto (tgt := 20) hx hb dX5_layMinors_49 (by decide) ?_
  refine lv_iload_n hx hb dX5_layMinors_20 rfl (lv_at hl 0 rfl) ?_
  refine lv_bipush (v := 6) hx hb dX5_layMinors_21 (by decide) ?_
  refine lv_icmp_ge (tgt := 52) hx hb dX5_layMinors_23 (by decide) (fun h => absurd h (by decide)) (fun _ => ?_)
  refine lv_iload_n hx hb dX5_layMinors_26 rfl (lv_at hl 1 rfl) ?_
  refine lv_ldc hx hb hown k_3 dX5_layMinors_27 ?_
  refine lv_icmp_ne (tgt := 36) hx hb dX5_layMinors_29 (by decide) (fun _ => ?_) (fun h => absurd h (by decide))
  refine lv_iload_n hx hb dX5_layMinors_36 rfl (lv_at hl 1 rfl) ?_
  refine lv_istore_n (lv' := [(2, .int 3), (3, .int 5), (0, .ref o), (1, .int 30)]) hx hb dX5_layMinors_37 rfl hl (by decide) rfl (fun ls hl => ?_)
  refine lv_iload_n hx hb dX5_layMinors_38 rfl (lv_at hl 0 rfl) ?_
  refine lv_iload_n hx hb dX5_layMinors_39 rfl (lv_at hl 3 rfl) ?_
  refine lv_iload_n hx hb dX5_layMinors_40 rfl (lv_at hl 1 rfl) ?_
  refine lv_ishr hx hb dX5_layMinors_41 ?_
  refine lv_eqi (v := 0) (by decide) ?_
  refine lv_iconst (v := 1) hx hb dX5_layMinors_42 (by decide) ?_
  refine lv_iand hx hb dX5_layMinors_43 ?_
  refine lv_eqi (v := 0) (by decide) ?_
  refine lv_iadd hx hb dX5_layMinors_44 ?_
  refine lv_eqi (v := 3) (by decide) ?_
  refine lv_istore_n (lv' := [(2, .int 3), (3, .int 5), (0, .ref o), (1, .int 30)]) hx hb dX5_layMinors_45 rfl hl (by decide) rfl (fun ls hl => ?_)
  refine lv_iinc (v := 6) (lv' := [(3, .int 6), (2, .int 3), (0, .ref o), (1, .int 30)]) hx hb dX5_layMinors_46 hl (k := 1) rfl (by decide) (by decide) rfl (fun ls hl => ?_)
  refine lv_goto (tgt := 20) hx hb dX5_layMinors_49 (by decide) ?_
  refine lv_iload_n hx hb dX5_layMinors_20 rfl (lv_at hl 0 rfl) ?_
  refine lv_bipush (v := 6) hx hb dX5_layMinors_21 (by decide) ?_
  refine lv_icmp_ge (tgt := 52) hx hb dX5_layMinors_23 (by decide) (fun _ => ?_) (fun h => absurd (by decide) h)
  refine lv_lconst (v := 0) hx hb dX5_layMinors_52 (by decide) ?_
  refine lv_lstore_n (lv' := [(3, .long 0), (2, .int 3), (0, .ref o), (1, .int 30)]) hx hb dX5_layMinors_53 rfl hl (by decide) rfl (fun ls hl => ?_)
  refine lv_iload_n hx hb dX5_layMinors_54 rfl (lv_at hl 1 rfl) ?_
  refine lv_istore (lv' := [(5, .int 3), (3, .long 0), (2, .int 3), (0, .ref o), (1, .int 30)]) hx hb dX5_layMinors_55 hl (by decide) rfl (fun ls hl => ?_)
  refine lv_iconst (v := 0) hx hb dX5_layMinors_57 (by decide) ?_
  refine lv_istore (lv' := [(6, .int 0), (5, .int 3), (3, .long 0), (2, .int 3), (0, .ref o), (1, .int 30)]) hx hb dX5_layMinors_58 hl (by decide) rfl (fun ls hl => ?_)
  refine lv_iload hx hb dX5_layMinors_60 (lv_at hl 0 rfl) ?_
  refine lv_bipush (v := 6) hx hb dX5_layMinors_62 (by decide) ?_
  refine lv_icmp_ge (tgt := 135) hx hb dX5_layMinors_64 (by decide) (fun h => absurd h (by decide)) (fun _ => ?_)
  refine lv_iload_n hx hb dX5_layMinors_67 rfl (lv_at hl 3 rfl) ?_
  refine lv_iconst (v := 5) hx hb dX5_layMinors_68 (by decide) ?_
  refine lv_icmp_ge (tgt := 135) hx hb dX5_layMinors_69 (by decide) (fun h => absurd h (by decide)) (fun _ => ?_)
  refine lv_iload_n hx hb dX5_layMinors_72 rfl (lv_at hl 5 rfl) ?_
  refine lv_iload hx hb dX5_layMinors_73 (lv_at hl 0 rfl) ?_
  refine lv_ishr hx hb dX5_layMinors_75 ?_
  refine lv_eqi (v := 30) (by decide) ?_
  refine lv_iconst (v := 1) hx hb dX5_layMinors_76 (by decide) ?_
  refine lv_iand hx hb dX5_layMinors_77 ?_
  refine lv_eqi (v := 0) (by decide) ?_
  refine lv_iconst (v := 1) hx hb dX5_layMinors_78 (by decide) ?_
  refine lv_icmp_ne (tgt := 129) hx hb dX5_layMinors_79 (by decide) (fun _ => ?_) (fun h => absurd h (by decide))
  refine lv_iinc (v := 1) (lv' := [(6, .int 1), (5, .int 3), (3, .long 0), (2, .int 3), (0, .ref o), (1, .int 30)]) hx hb dX5_layMinors_129 hl (k := 0) rfl (by decide) (by decide) rfl (fun ls hl => ?_)
  refine lv_goto (tgt := 60) hx hb dX5_layMinors_132 (by decide) ?_
  refine lv_iload hx hb dX5_layMinors_60 (lv_at hl 0 rfl) ?_
  refine lv_bipush (v := 6) hx hb dX5_layMinors_62 (by decide) ?_
  refine lv_icmp_ge (tgt := 135) hx hb dX5_layMinors_64 (by decide) (fun h => absurd h (by decide)) (fun _ => ?_)
  refine lv_iload_n hx hb dX5_layMinors_67 rfl (lv_at hl 3 rfl) ?_
  refine lv_iconst (v := 5) hx hb dX5_layMinors_68 (by decide) ?_
  refine lv_icmp_ge (tgt := 135) hx hb dX5_layMinors_69 (by decide) (fun h => absurd h (by decide)) (fun _ => ?_)
  refine lv_iload_n hx hb dX5_layMinors_72 rfl (lv_at hl 5 rfl) ?_
  refine lv_iload hx hb dX5_layMinors_73 (lv_at hl 0 rfl) ?_
  refine lv_ishr hx hb dX5_layMinors_75 ?_
  refine lv_eqi (v := 15) (by decide) ?_
  refine lv_iconst (v := 1) hx hb dX5_layMinors_76 (by decide) ?_
  refine lv_iand hx hb dX5_layMinors_77 ?_
  refine lv_eqi (v := 1) (by decide) ?_
  refine lv_iconst (v := 1) hx hb dX5_layMinors_78 (by decide) ?_
  refine lv_icmp_ne (tgt := 129) hx hb dX5_layMinors_79 (by decide) (fun h => absurd (by decide) h) (fun _ => ?_)
  refine lv_aload_n hx hb dX5_layMinors_82 rfl (lv_at hl 4 rfl) ?_
  refine va_get (D := D) (ci := 5) (v := .ref mR) (C := RX5) (T := TX5) (N := 17) hx hb hts k_2 hown hK.1 hP 0 rfl rfl 5 (by decide) k_4 (fun _ h9 => h9) rfl dX5_layMinors_83 ?_
  refine lv_bipush (v := 6) hx hb dX5_layMinors_86 (by decide) ?_
  refine lv_iload_n hx hb dX5_layMinors_88 rfl (lv_at hl 3 rfl) ?_
  refine lv_imul hx hb dX5_layMinors_89 ?_
  refine lv_eqi (v := 18) (by decide) ?_
  refine lv_iload hx hb dX5_layMinors_90 (lv_at hl 0 rfl) ?_
  refine lv_iadd hx hb dX5_layMinors_92 ?_
  refine lv_eqi (v := 19) (by decide) ?_
  refine ld_l hx hb hK.1 hP 1 1 rfl rfl (ix_lit (by decide)) 19 (by decide) (v := fr 19) rfl dX5_layMinors_93 ?_
  refine lv_aload_n hx hb dX5_layMinors_94 rfl (lv_at hl 4 rfl) ?_
  refine va_get (D := D) (ci := 5) (v := .ref mD) (C := RX5) (T := TX5) (N := 17) hx hb hts k_2 hown hK.1 hP 0 rfl rfl 6 (by decide) k_1 (fun _ h9 => h9) rfl dX5_layMinors_95 ?_
  refine lv_iload_n hx hb dX5_layMinors_98 rfl (lv_at hl 5 rfl) ?_
  refine lv_iconst (v := 1) hx hb dX5_layMinors_99 (by decide) ?_
  refine lv_iload hx hb dX5_layMinors_100 (lv_at hl 0 rfl) ?_
  refine lv_ishl hx hb dX5_layMinors_102 ?_
  refine lv_eqi (v := 2) (by decide) ?_
  refine lv_isub hx hb dX5_layMinors_103 ?_
  refine lv_eqi (v := 28) (by decide) ?_
  refine ld_l hx hb hK.1 hP 2 1 rfl rfl (ix_lit (by decide)) 28 (by decide) (v := z5_mw28 fr) rfl dX5_layMinors_104 ?_
  refine lv_lmul hx hb dX5_layMinors_105 ?_
  refine lv_lstore (lv' := [(7, .long ((fr 19) * (z5_mw28 fr))), (6, .int 1), (5, .int 3), (3, .long 0), (2, .int 3), (0, .ref o), (1, .int 30)]) hx hb dX5_layMinors_106 hl (by decide) rfl (fun ls hl => ?_)
  refine lv_lload_n hx hb dX5_layMinors_108 rfl (lv_at hl 3 rfl) ?_
  refine lv_iload hx hb dX5_layMinors_109 (lv_at hl 2 rfl) ?_
  refine lv_iconst (v := 2) hx hb dX5_layMinors_111 (by decide) ?_
  refine lv_irem hx hb dX5_layMinors_112 (by decide) ?_
  refine lv_eqi (v := 1) (by decide) ?_
  refine lv_if_ne (tgt := 121) hx hb dX5_layMinors_113 (by decide) (fun _ => ?_) (fun h => absurd h (by decide))
  refine lv_lload hx hb dX5_layMinors_121 (lv_at hl 0 rfl) ?_
  refine lv_lneg hx hb dX5_layMinors_123 ?_
  refine lv_ladd hx hb dX5_layMinors_124 ?_
  refine lv_lstore_n (lv' := [(3, .long (0 + (-((fr 19) * (z5_mw28 fr))))), (7, .long ((fr 19) * (z5_mw28 fr))), (6, .int 1), (5, .int 3), (2, .int 3), (0, .ref o), (1, .int 30)]) hx hb dX5_layMinors_125 rfl hl (by decide) rfl (fun ls hl => ?_)
  refine lv_iinc (v := 2) (lv' := [(5, .int 2), (3, .long (0 + (-((fr 19) * (z5_mw28 fr))))), (7, .long ((fr 19) * (z5_mw28 fr))), (6, .int 1), (2, .int 3), (0, .ref o), (1, .int 30)]) hx hb dX5_layMinors_126 hl (k := 3) rfl (by decide) (by decide) rfl (fun ls hl => ?_)
  refine lv_iinc (v := 2) (lv' := [(6, .int 2), (5, .int 2), (3, .long (0 + (-((fr 19) * (z5_mw28 fr))))), (7, .long ((fr 19) * (z5_mw28 fr))), (2, .int 3), (0, .ref o), (1, .int 30)]) hx hb dX5_layMinors_129 hl (k := 3) rfl (by decide) (by decide) rfl (fun ls hl => ?_)
  refine lv_goto (tgt := 60) hx hb dX5_layMinors_132 (by decide) ?_
  refine lv_iload hx hb dX5_layMinors_60 (lv_at hl 0 rfl) ?_
  refine lv_bipush (v := 6) hx hb dX5_layMinors_62 (by decide) ?_
  refine lv_icmp_ge (tgt := 135) hx hb dX5_layMinors_64 (by decide) (fun h => absurd h (by decide)) (fun _ => ?_)
  refine lv_iload_n hx hb dX5_layMinors_67 rfl (lv_at hl 4 rfl) ?_
  refine lv_iconst (v := 5) hx hb dX5_layMinors_68 (by decide) ?_
  refine lv_icmp_ge (tgt := 135) hx hb dX5_layMinors_69 (by decide) (fun h => absurd h (by decide)) (fun _ => ?_)
  refine lv_iload_n hx hb dX5_layMinors_72 rfl (lv_at hl 6 rfl) ?_
  refine lv_iload hx hb dX5_layMinors_73 (lv_at hl 0 rfl) ?_
  refine lv_ishr hx hb dX5_layMinors_75 ?_
  refine lv_eqi (v := 7) (by decide) ?_
  refine lv_iconst (v := 1) hx hb dX5_layMinors_76 (by decide) ?_
  refine lv_iand hx hb dX5_layMinors_77 ?_
  refine lv_eqi (v := 1) (by decide) ?_
  refine lv_iconst (v := 1) hx hb dX5_layMinors_78 (by decide) ?_
  refine lv_icmp_ne (tgt := 129) hx hb dX5_layMinors_79 (by decide) (fun h => absurd (by decide) h) (fun _ => ?_)
  refine lv_aload_n hx hb dX5_layMinors_82 rfl (lv_at hl 5 rfl) ?_
  refine va_get (D := D) (ci := 5) (v := .ref mR) (C := RX5) (T := TX5) (N := 17) hx hb hts k_2 hown hK.1 hP 0 rfl rfl 5 (by decide) k_4 (fun _ h9 => h9) rfl dX5_layMinors_83 ?_
  refine lv_bipush (v := 6) hx hb dX5_layMinors_86 (by decide) ?_
  refine lv_iload_n hx hb dX5_layMinors_88 rfl (lv_at hl 4 rfl) ?_
  refine lv_imul hx hb dX5_layMinors_89 ?_
  refine lv_eqi (v := 18) (by decide) ?_
  refine lv_iload hx hb dX5_layMinors_90 (lv_at hl 0 rfl) ?_
  refine lv_iadd hx hb dX5_layMinors_92 ?_
  refine lv_eqi (v := 20) (by decide) ?_
  refine ld_l hx hb hK.1 hP 1 1 rfl rfl (ix_lit (by decide)) 20 (by decide) (v := fr 20) rfl dX5_layMinors_93 ?_
  refine lv_aload_n hx hb dX5_layMinors_94 rfl (lv_at hl 5 rfl) ?_
  refine va_get (D := D) (ci := 5) (v := .ref mD) (C := RX5) (T := TX5) (N := 17) hx hb hts k_2 hown hK.1 hP 0 rfl rfl 6 (by decide) k_1 (fun _ h9 => h9) rfl dX5_layMinors_95 ?_
  refine lv_iload_n hx hb dX5_layMinors_98 rfl (lv_at hl 6 rfl) ?_
  refine lv_iconst (v := 1) hx hb dX5_layMinors_99 (by decide) ?_
  refine lv_iload hx hb dX5_layMinors_100 (lv_at hl 0 rfl) ?_
  refine lv_ishl hx hb dX5_layMinors_102 ?_
  refine lv_eqi (v := 4) (by decide) ?_
  refine lv_isub hx hb dX5_layMinors_103 ?_
  refine lv_eqi (v := 26) (by decide) ?_
  refine ld_l hx hb hK.1 hP 2 1 rfl rfl (ix_lit (by decide)) 26 (by decide) (v := z5_mw26 fr) rfl dX5_layMinors_104 ?_
  refine lv_lmul hx hb dX5_layMinors_105 ?_
  refine lv_lstore (lv' := [(7, .long ((fr 20) * (z5_mw26 fr))), (6, .int 2), (5, .int 2), (3, .long (0 + (-((fr 19) * (z5_mw28 fr))))), (2, .int 3), (0, .ref o), (1, .int 30)]) hx hb dX5_layMinors_106 hl (by decide) rfl (fun ls hl => ?_)
  refine lv_lload_n hx hb dX5_layMinors_108 rfl (lv_at hl 3 rfl) ?_
  refine lv_iload hx hb dX5_layMinors_109 (lv_at hl 2 rfl) ?_
  refine lv_iconst (v := 2) hx hb dX5_layMinors_111 (by decide) ?_
  refine lv_irem hx hb dX5_layMinors_112 (by decide) ?_
  refine lv_eqi (v := 0) (by decide) ?_
  refine lv_if_ne (tgt := 121) hx hb dX5_layMinors_113 (by decide) (fun h => absurd (by decide) h) (fun _ => ?_)
  refine lv_lload hx hb dX5_layMinors_116 (lv_at hl 0 rfl) ?_
  refine lv_goto (tgt := 124) hx hb dX5_layMinors_118 (by decide) ?_
  refine lv_ladd hx hb dX5_layMinors_124 ?_
  refine lv_lstore_n (lv' := [(3, .long ((0 + (-((fr 19) * (z5_mw28 fr)))) + ((fr 20) * (z5_mw26 fr)))), (7, .long ((fr 20) * (z5_mw26 fr))), (6, .int 2), (5, .int 2), (2, .int 3), (0, .ref o), (1, .int 30)]) hx hb dX5_layMinors_125 rfl hl (by decide) rfl (fun ls hl => ?_)
  refine lv_iinc (v := 1) (lv' := [(5, .int 1), (3, .long ((0 + (-((fr 19) * (z5_mw28 fr)))) + ((fr 20) * (z5_mw26 fr)))), (7, .long ((fr 20) * (z5_mw26 fr))), (6, .int 2), (2, .int 3), (0, .ref o), (1, .int 30)]) hx hb dX5_layMinors_126 hl (k := 3) rfl (by decide) (by decide) rfl (fun ls hl => ?_)
  refine lv_iinc (v := 3) (lv' := [(6, .int 3), (5, .int 1), (3, .long ((0 + (-((fr 19) * (z5_mw28 fr)))) + ((fr 20) * (z5_mw26 fr)))), (7, .long ((fr 20) * (z5_mw26 fr))), (2, .int 3), (0, .ref o), (1, .int 30)]) hx hb dX5_layMinors_129 hl (k := 3) rfl (by decide) (by decide) rfl (fun ls hl => ?_)
  refine lv_goto (tgt := 60) hx hb dX5_layMinors_132 (by decide) ?_
  refine lv_iload hx hb dX5_layMinors_60 (lv_at hl 0 rfl) ?_
  refine lv_bipush (v := 6) hx hb dX5_layMinors_62 (by decide) ?_
  refine lv_icmp_ge (tgt := 135) hx hb dX5_layMinors_64 (by decide) (fun h => absurd h (by decide)) (fun _ => ?_)
  refine lv_iload_n hx hb dX5_layMinors_67 rfl (lv_at hl 4 rfl) ?_
  refine lv_iconst (v := 5) hx hb dX5_layMinors_68 (by decide) ?_
  refine lv_icmp_ge (tgt := 135) hx hb dX5_layMinors_69 (by decide) (fun h => absurd h (by decide)) (fun _ => ?_)
  refine lv_iload_n hx hb dX5_layMinors_72 rfl (lv_at hl 6 rfl) ?_
  refine lv_iload hx hb dX5_layMinors_73 (lv_at hl 0 rfl) ?_
  refine lv_ishr hx hb dX5_layMinors_75 ?_
  refine lv_eqi (v := 3) (by decide) ?_
  refine lv_iconst (v := 1) hx hb dX5_layMinors_76 (by decide) ?_
  refine lv_iand hx hb dX5_layMinors_77 ?_
  refine lv_eqi (v := 1) (by decide) ?_
  refine lv_iconst (v := 1) hx hb dX5_layMinors_78 (by decide) ?_
  refine lv_icmp_ne (tgt := 129) hx hb dX5_layMinors_79 (by decide) (fun h => absurd (by decide) h) (fun _ => ?_)
  refine lv_aload_n hx hb dX5_layMinors_82 rfl (lv_at hl 5 rfl) ?_
  refine va_get (D := D) (ci := 5) (v := .ref mR) (C := RX5) (T := TX5) (N := 17) hx hb hts k_2 hown hK.1 hP 0 rfl rfl 5 (by decide) k_4 (fun _ h9 => h9) rfl dX5_layMinors_83 ?_
  refine lv_bipush (v := 6) hx hb dX5_layMinors_86 (by decide) ?_
  refine lv_iload_n hx hb dX5_layMinors_88 rfl (lv_at hl 4 rfl) ?_
  refine lv_imul hx hb dX5_layMinors_89 ?_
  refine lv_eqi (v := 18) (by decide) ?_
  refine lv_iload hx hb dX5_layMinors_90 (lv_at hl 0 rfl) ?_
  refine lv_iadd hx hb dX5_layMinors_92 ?_
  refine lv_eqi (v := 21) (by decide) ?_
  refine ld_l hx hb hK.1 hP 1 1 rfl rfl (ix_lit (by decide)) 21 (by decide) (v := fr 21) rfl dX5_layMinors_93 ?_
  refine lv_aload_n hx hb dX5_layMinors_94 rfl (lv_at hl 5 rfl) ?_
  refine va_get (D := D) (ci := 5) (v := .ref mD) (C := RX5) (T := TX5) (N := 17) hx hb hts k_2 hown hK.1 hP 0 rfl rfl 6 (by decide) k_1 (fun _ h9 => h9) rfl dX5_layMinors_95 ?_
  refine lv_iload_n hx hb dX5_layMinors_98 rfl (lv_at hl 6 rfl) ?_
  refine lv_iconst (v := 1) hx hb dX5_layMinors_99 (by decide) ?_
  refine lv_iload hx hb dX5_layMinors_100 (lv_at hl 0 rfl) ?_
  refine lv_ishl hx hb dX5_layMinors_102 ?_
  refine lv_eqi (v := 8) (by decide) ?_
  refine lv_isub hx hb dX5_layMinors_103 ?_
  refine lv_eqi (v := 22) (by decide) ?_
  refine ld_l hx hb hK.1 hP 2 1 rfl rfl (ix_lit (by decide)) 22 (by decide) (v := z5_mw22 fr) rfl dX5_layMinors_104 ?_
  refine lv_lmul hx hb dX5_layMinors_105 ?_
  refine lv_lstore (lv' := [(7, .long ((fr 21) * (z5_mw22 fr))), (6, .int 3), (5, .int 1), (3, .long ((0 + (-((fr 19) * (z5_mw28 fr)))) + ((fr 20) * (z5_mw26 fr)))), (2, .int 3), (0, .ref o), (1, .int 30)]) hx hb dX5_layMinors_106 hl (by decide) rfl (fun ls hl => ?_)
  refine lv_lload_n hx hb dX5_layMinors_108 rfl (lv_at hl 3 rfl) ?_
  refine lv_iload hx hb dX5_layMinors_109 (lv_at hl 2 rfl) ?_
  refine lv_iconst (v := 2) hx hb dX5_layMinors_111 (by decide) ?_
  refine lv_irem hx hb dX5_layMinors_112 (by decide) ?_
  refine lv_eqi (v := 1) (by decide) ?_
  refine lv_if_ne (tgt := 121) hx hb dX5_layMinors_113 (by decide) (fun _ => ?_) (fun h => absurd h (by decide))
  refine lv_lload hx hb dX5_layMinors_121 (lv_at hl 0 rfl) ?_
  refine lv_lneg hx hb dX5_layMinors_123 ?_
  refine lv_ladd hx hb dX5_layMinors_124 ?_
  refine lv_lstore_n (lv' := [(3, .long (((0 + (-((fr 19) * (z5_mw28 fr)))) + ((fr 20) * (z5_mw26 fr))) + (-((fr 21) * (z5_mw22 fr))))), (7, .long ((fr 21) * (z5_mw22 fr))), (6, .int 3), (5, .int 1), (2, .int 3), (0, .ref o), (1, .int 30)]) hx hb dX5_layMinors_125 rfl hl (by decide) rfl (fun ls hl => ?_)
  refine lv_iinc (v := 0) (lv' := [(5, .int 0), (3, .long (((0 + (-((fr 19) * (z5_mw28 fr)))) + ((fr 20) * (z5_mw26 fr))) + (-((fr 21) * (z5_mw22 fr))))), (7, .long ((fr 21) * (z5_mw22 fr))), (6, .int 3), (2, .int 3), (0, .ref o), (1, .int 30)]) hx hb dX5_layMinors_126 hl (k := 3) rfl (by decide) (by decide) rfl (fun ls hl => ?_)
  refine lv_iinc (v := 4) (lv' := [(6, .int 4), (5, .int 0), (3, .long (((0 + (-((fr 19) * (z5_mw28 fr)))) + ((fr 20) * (z5_mw26 fr))) + (-((fr 21) * (z5_mw22 fr))))), (7, .long ((fr 21) * (z5_mw22 fr))), (2, .int 3), (0, .ref o), (1, .int 30)]) hx hb dX5_layMinors_129 hl (k := 3) rfl (by decide) (by decide) rfl (fun ls hl => ?_)
  refine lv_goto (tgt := 60) hx hb dX5_layMinors_132 (by decide) ?_
  refine lv_iload hx hb dX5_layMinors_60 (lv_at hl 0 rfl) ?_
  refine lv_bipush (v := 6) hx hb dX5_layMinors_62 (by decide) ?_
  refine lv_icmp_ge (tgt := 135) hx hb dX5_layMinors_64 (by decide) (fun h => absurd h (by decide)) (fun _ => ?_)
  refine lv_iload_n hx hb dX5_layMinors_67 rfl (lv_at hl 4 rfl) ?_
  refine lv_iconst (v := 5) hx hb dX5_layMinors_68 (by decide) ?_
  refine lv_icmp_ge (tgt := 135) hx hb dX5_layMinors_69 (by decide) (fun h => absurd h (by decide)) (fun _ => ?_)
  refine lv_iload_n hx hb dX5_layMinors_72 rfl (lv_at hl 6 rfl) ?_
  refine lv_iload hx hb dX5_layMinors_73 (lv_at hl 0 rfl) ?_
  refine lv_ishr hx hb dX5_layMinors_75 ?_
  refine lv_eqi (v := 1) (by decide) ?_
  refine lv_iconst (v := 1) hx hb dX5_layMinors_76 (by decide) ?_
  refine lv_iand hx hb dX5_layMinors_77 ?_
  refine lv_eqi (v := 1) (by decide) ?_
  refine lv_iconst (v := 1) hx hb dX5_layMinors_78 (by decide) ?_
  refine lv_icmp_ne (tgt := 129) hx hb dX5_layMinors_79 (by decide) (fun h => absurd (by decide) h) (fun _ => ?_)
  refine lv_aload_n hx hb dX5_layMinors_82 rfl (lv_at hl 5 rfl) ?_
  refine va_get (D := D) (ci := 5) (v := .ref mR) (C := RX5) (T := TX5) (N := 17) hx hb hts k_2 hown hK.1 hP 0 rfl rfl 5 (by decide) k_4 (fun _ h9 => h9) rfl dX5_layMinors_83 ?_
  refine lv_bipush (v := 6) hx hb dX5_layMinors_86 (by decide) ?_
  refine lv_iload_n hx hb dX5_layMinors_88 rfl (lv_at hl 4 rfl) ?_
  refine lv_imul hx hb dX5_layMinors_89 ?_
  refine lv_eqi (v := 18) (by decide) ?_
  refine lv_iload hx hb dX5_layMinors_90 (lv_at hl 0 rfl) ?_
  refine lv_iadd hx hb dX5_layMinors_92 ?_
  refine lv_eqi (v := 22) (by decide) ?_
  refine ld_l hx hb hK.1 hP 1 1 rfl rfl (ix_lit (by decide)) 22 (by decide) (v := fr 22) rfl dX5_layMinors_93 ?_
  refine lv_aload_n hx hb dX5_layMinors_94 rfl (lv_at hl 5 rfl) ?_
  refine va_get (D := D) (ci := 5) (v := .ref mD) (C := RX5) (T := TX5) (N := 17) hx hb hts k_2 hown hK.1 hP 0 rfl rfl 6 (by decide) k_1 (fun _ h9 => h9) rfl dX5_layMinors_95 ?_
  refine lv_iload_n hx hb dX5_layMinors_98 rfl (lv_at hl 6 rfl) ?_
  refine lv_iconst (v := 1) hx hb dX5_layMinors_99 (by decide) ?_
  refine lv_iload hx hb dX5_layMinors_100 (lv_at hl 0 rfl) ?_
  refine lv_ishl hx hb dX5_layMinors_102 ?_
  refine lv_eqi (v := 16) (by decide) ?_
  refine lv_isub hx hb dX5_layMinors_103 ?_
  refine lv_eqi (v := 14) (by decide) ?_
  refine ld_l hx hb hK.1 hP 2 1 rfl rfl (ix_lit (by decide)) 14 (by decide) (v := z5_mw14 fr) rfl dX5_layMinors_104 ?_
  refine lv_lmul hx hb dX5_layMinors_105 ?_
  refine lv_lstore (lv' := [(7, .long ((fr 22) * (z5_mw14 fr))), (6, .int 4), (5, .int 0), (3, .long (((0 + (-((fr 19) * (z5_mw28 fr)))) + ((fr 20) * (z5_mw26 fr))) + (-((fr 21) * (z5_mw22 fr))))), (2, .int 3), (0, .ref o), (1, .int 30)]) hx hb dX5_layMinors_106 hl (by decide) rfl (fun ls hl => ?_)
  refine lv_lload_n hx hb dX5_layMinors_108 rfl (lv_at hl 3 rfl) ?_
  refine lv_iload hx hb dX5_layMinors_109 (lv_at hl 2 rfl) ?_
  refine lv_iconst (v := 2) hx hb dX5_layMinors_111 (by decide) ?_
  refine lv_irem hx hb dX5_layMinors_112 (by decide) ?_
  refine lv_eqi (v := 0) (by decide) ?_
  refine lv_if_ne (tgt := 121) hx hb dX5_layMinors_113 (by decide) (fun h => absurd (by decide) h) (fun _ => ?_)
  refine lv_lload hx hb dX5_layMinors_116 (lv_at hl 0 rfl) ?_
  refine lv_goto (tgt := 124) hx hb dX5_layMinors_118 (by decide) ?_
  refine lv_ladd hx hb dX5_layMinors_124 ?_
  refine lv_lstore_n (lv' := [(3, .long ((((0 + (-((fr 19) * (z5_mw28 fr)))) + ((fr 20) * (z5_mw26 fr))) + (-((fr 21) * (z5_mw22 fr)))) + ((fr 22) * (z5_mw14 fr)))), (7, .long ((fr 22) * (z5_mw14 fr))), (6, .int 4), (5, .int 0), (2, .int 3), (0, .ref o), (1, .int 30)]) hx hb dX5_layMinors_125 rfl hl (by decide) rfl (fun ls hl => ?_)
  refine lv_iinc (v := (-1)) (lv' := [(5, .int (-1)), (3, .long ((((0 + (-((fr 19) * (z5_mw28 fr)))) + ((fr 20) * (z5_mw26 fr))) + (-((fr 21) * (z5_mw22 fr)))) + ((fr 22) * (z5_mw14 fr)))), (7, .long ((fr 22) * (z5_mw14 fr))), (6, .int 4), (2, .int 3), (0, .ref o), (1, .int 30)]) hx hb dX5_layMinors_126 hl (k := 3) rfl (by decide) (by decide) rfl (fun ls hl => ?_)
  refine lv_iinc (v := 5) (lv' := [(6, .int 5), (5, .int (-1)), (3, .long ((((0 + (-((fr 19) * (z5_mw28 fr)))) + ((fr 20) * (z5_mw26 fr))) + (-((fr 21) * (z5_mw22 fr)))) + ((fr 22) * (z5_mw14 fr)))), (7, .long ((fr 22) * (z5_mw14 fr))), (2, .int 3), (0, .ref o), (1, .int 30)]) hx hb dX5_layMinors_129 hl (k := 3) rfl (by decide) (by decide) rfl (fun ls hl => ?_)
  refine lv_goto (tgt := 60) hx hb dX5_layMinors_132 (by decide) ?_
  refine lv_iload hx hb dX5_layMinors_60 (lv_at hl 0 rfl) ?_
  refine lv_bipush (v := 6) hx hb dX5_layMinors_62 (by decide) ?_
  refine lv_icmp_ge (tgt := 135) hx hb dX5_layMinors_64 (by decide) (fun h => absurd h (by decide)) (fun _ => ?_)
  refine lv_iload_n hx hb dX5_layMinors_67 rfl (lv_at hl 4 rfl) ?_
  refine lv_iconst (v := 5) hx hb dX5_layMinors_68 (by decide) ?_
  refine lv_icmp_ge (tgt := 135) hx hb dX5_layMinors_69 (by decide) (fun h => absurd h (by decide)) (fun _ => ?_)
  refine lv_iload_n hx hb dX5_layMinors_72 rfl (lv_at hl 6 rfl) ?_
  refine lv_iload hx hb dX5_layMinors_73 (lv_at hl 0 rfl) ?_
  refine lv_ishr hx hb dX5_layMinors_75 ?_
  refine lv_eqi (v := 0) (by decide) ?_
  refine lv_iconst (v := 1) hx hb dX5_layMinors_76 (by decide) ?_
  refine lv_iand hx hb dX5_layMinors_77 ?_
  refine lv_eqi (v := 0) (by decide) ?_
  refine lv_iconst (v := 1) hx hb dX5_layMinors_78 (by decide) ?_
  refine lv_icmp_ne (tgt := 129) hx hb dX5_layMinors_79 (by decide) (fun _ => ?_) (fun h => absurd h (by decide))
  refine lv_iinc (v := 6) (lv' := [(6, .int 6), (5, .int (-1)), (3, .long ((((0 + (-((fr 19) * (z5_mw28 fr)))) + ((fr 20) * (z5_mw26 fr))) + (-((fr 21) * (z5_mw22 fr)))) + ((fr 22) * (z5_mw14 fr)))), (7, .long ((fr 22) * (z5_mw14 fr))), (2, .int 3), (0, .ref o), (1, .int 30)]) hx hb dX5_layMinors_129 hl (k := 0) rfl (by decide) (by decide) rfl (fun ls hl => ?_)
  refine lv_goto (tgt := 60) hx hb dX5_layMinors_132 (by decide) ?_
  refine lv_iload hx hb dX5_layMinors_60 (lv_at hl 0 rfl) ?_
  refine lv_bipush (v := 6) hx hb dX5_layMinors_62 (by decide) ?_
  refine lv_icmp_ge (tgt := 135) hx hb dX5_layMinors_64 (by decide) (fun _ => ?_) (fun h => absurd (by decide) h)
  refine lv_aload_n hx hb dX5_layMinors_135 rfl (lv_at hl 5 rfl) ?_
  refine va_get (D := D) (ci := 5) (v := .ref mD) (C := RX5) (T := TX5) (N := 17) hx hb hts k_2 hown hK.1 hP 0 rfl rfl 6 (by decide) k_1 (fun _ h9 => h9) rfl dX5_layMinors_136 ?_
  refine lv_iload_n hx hb dX5_layMinors_139 rfl (lv_at hl 6 rfl) ?_
  refine lv_lload_n hx hb dX5_layMinors_140 rfl (lv_at hl 2 rfl) ?_
  refine st_l hx hb hK.1 hP hD hS 2 1 rfl rfl (ix_lit (by decide)) 30 (by decide) dX5_layMinors_141 (fun H locs hP hD hS => ?_)
  have hP : va_P D vwCl [kM o mP mL mC mN mF mR mD mV mX mA mK cm mT pm mU mH mI, kJ mR cJ 30 fr, kJ mD cJ 64 (vp_updL (z5_mm30 fr fd) 30 ((((0 + (-((fr 19) * (z5_mw28 fr)))) + ((fr 20) * (z5_mw26 fr))) + (-((fr 21) * (z5_mw22 fr)))) + ((fr 22) * (z5_mw14 fr))))] H := hP
  have hD : va_D A [kM o mP mL mC mN mF mR mD mV mX mA mK cm mT pm mU mH mI, kJ mR cJ 30 fr, kJ mD cJ 64 (vp_updL (z5_mm30 fr fd) 30 ((((0 + (-((fr 19) * (z5_mw28 fr)))) + ((fr 20) * (z5_mw26 fr))) + (-((fr 21) * (z5_mw22 fr)))) + ((fr 22) * (z5_mw14 fr))))] := hD
  have hP : va_P D vwCl [kM o mP mL mC mN mF mR mD mV mX mA mK cm mT pm mU mH mI, kJ mR cJ 30 fr, kJ mD cJ 64 (z5_mm31 fr fd)] H := hP
  have hD : va_D A [kM o mP mL mC mN mF mR mD mV mX mA mK cm mT pm mU mH mI, kJ mR cJ 30 fr, kJ mD cJ 64 (z5_mm31 fr fd)] := hD
  refine lv_iinc (v := 31) (lv' := [(1, .int 31), (6, .int 6), (5, .int (-1)), (3, .long ((((0 + (-((fr 19) * (z5_mw28 fr)))) + ((fr 20) * (z5_mw26 fr))) + (-((fr 21) * (z5_mw22 fr)))) + ((fr 22) * (z5_mw14 fr)))), (7, .long ((fr 22) * (z5_mw14 fr))), (2, .int 3), (0, .ref o)]) hx hb dX5_layMinors_142 hl (k := 6) rfl (by decide) (by decide) rfl (fun ls hl => ?_)
  refine lv_goto (tgt := 9) hx hb dX5_layMinors_145 (by decide) ?_
  exact sg_X5_layMinors_31 hx hb hr hml hown hts hlk hK hA hP hD hS ls (lv_sub hl [6, 0] rfl)
set_option maxHeartbeats 4000000 in
set_option maxRecDepth 100000 in
theorem sg_X5_layMinors_29 {l : Launch} {D : va_G} {cI cJ : ClassId} {pG : Program} {eG : Env} {sG : State} {mG : MethodId} {below : List Frame} {meth : Method} {cG : Code} {A : Nat → Prop} {H : Heap} {locs : List Loc} {o : Nat} {mP : Nat} {mL : Nat} {mC : Nat} {mN : Nat} {mF : Nat} {mR : Nat} {mD : Nat} {mV : Nat} {mX : Nat} {mA : Nat} {mK : Nat} {mT : Nat} {mU : Nat} {mH : Nat} {mI : Nat} {cm : Int32} {pm : Int32} {fr : Nat → Int64} {fd : Nat → Int64} (hx : pG.tables.exec = Jvm.exec) (hb : cG.code = cX5_layMinors) (hr : meth.sig.returnType = none) (hml : cG.maxLocals = 9) (hown : sG.vm.findClass RX5 = some mG.cls) (hts : ∀ x ∈ wsX5_layMinors, x.before ([.ref o] : List Value).toArray sG = true) (hlk : meth.locks = false) (hK : gd_K D cI cJ sG) (hA : ∀ q : Nat, sG.heap.size ≤ q → A q) (hP : va_P D vwCl [kM o mP mL mC mN mF mR mD mV mX mA mK cm mT pm mU mH mI, kJ mR cJ 30 fr, kJ mD cJ 64 (z5_mm29 fr fd)] H) (hD : va_D A [kM o mP mL mC mN mF mR mD mV mX mA mK cm mT pm mU mH mI, kJ mR cJ 30 fr, kJ mD cJ 64 (z5_mm29 fr fd)]) (hS : va_S A sG.heap H locs) (ls : Array Slot) (hl : lv_has ls 9 [(0, .ref o), (1, .int 29)]) : W pG l eG (headSpec wsX5_layMinors ({ frames := 0, cells := 0, slots := 0, locals := 0 })).room sG mG ([.ref o] : List Value).toArray below meth cG H locs 0 0 (MQ below ((qe_v (fun _ : Unit => True) (fun uu => [kM o mP mL mC mN mF mR mD mV mX mA mK cm mT pm mU mH mI, kJ mR cJ 30 fr, kJ mD cJ 64 (z5_layMinors_f2 fr fd)])) D A) ([.ref o] : List Value).toArray sG 0 0 A) (F0 mG 9 ls []) := by
  have k_1 := hts (.fieldLink RX5 29 "ConicRowsModel" "minors" "[J") (by decide +kernel)
  have k_2 : ∀ w ∈ wsX50, w ∈ wsX5_layMinors := by decide +kernel
  have k_3 := hts (.constant RX5 122 (-1000001)) (by decide +kernel)
  have k_4 := hts (.fieldLink RX5 26 "ConicRowsModel" "rows" "[J") (by decide +kernel)
  refine lv_iload_n hx hb dX5_layMinors_9 rfl (lv_at hl 1 rfl) ?_
  refine lv_bipush (v := 64) hx hb dX5_layMinors_10 (by decide) ?_
  refine lv_icmp_ge (tgt := 148) hx hb dX5_layMinors_12 (by decide) (fun h => absurd h (by decide)) (fun _ => ?_)
  refine lv_ldc hx hb hown k_3 dX5_layMinors_15 ?_
  refine lv_istore_n (lv' := [(2, .int (-1000001)), (0, .ref o), (1, .int 29)]) hx hb dX5_layMinors_17 rfl hl (by decide) rfl (fun ls hl => ?_)
  refine lv_iconst (v := 0) hx hb dX5_layMinors_18 (by decide) ?_
  refine lv_istore_n (lv' := [(3, .int 0), (2, .int (-1000001)), (0, .ref o), (1, .int 29)]) hx hb dX5_layMinors_19 rfl hl (by decide) rfl (fun ls hl => ?_)
  refine lv_iload_n hx hb dX5_layMinors_20 rfl (lv_at hl 0 rfl) ?_
  refine lv_bipush (v := 6) hx hb dX5_layMinors_21 (by decide) ?_
  refine lv_icmp_ge (tgt := 52) hx hb dX5_layMinors_23 (by decide) (fun h => absurd h (by decide)) (fun _ => ?_)
  refine lv_iload_n hx hb dX5_layMinors_26 rfl (lv_at hl 1 rfl) ?_
  refine lv_ldc hx hb hown k_3 dX5_layMinors_27 ?_
  refine lv_icmp_ne (tgt := 36) hx hb dX5_layMinors_29 (by decide) (fun h => absurd (by decide) h) (fun _ => ?_)
  refine lv_iconst (v := (-1)) hx hb dX5_layMinors_32 (by decide) ?_
  refine lv_goto (tgt := 37) hx hb dX5_layMinors_33 (by decide) ?_
  refine lv_istore_n (lv' := [(2, .int (-1)), (3, .int 0), (0, .ref o), (1, .int 29)]) hx hb dX5_layMinors_37 rfl hl (by decide) rfl (fun ls hl => ?_)
  refine lv_iload_n hx hb dX5_layMinors_38 rfl (lv_at hl 0 rfl) ?_
  refine lv_iload_n hx hb dX5_layMinors_39 rfl (lv_at hl 3 rfl) ?_
  refine lv_iload_n hx hb dX5_layMinors_40 rfl (lv_at hl 1 rfl) ?_
  refine lv_ishr hx hb dX5_layMinors_41 ?_
  refine lv_eqi (v := 29) (by decide) ?_
  refine lv_iconst (v := 1) hx hb dX5_layMinors_42 (by decide) ?_
  refine lv_iand hx hb dX5_layMinors_43 ?_
  refine lv_eqi (v := 1) (by decide) ?_
  refine lv_iadd hx hb dX5_layMinors_44 ?_
  refine lv_eqi (v := 0) (by decide) ?_
  refine lv_istore_n (lv' := [(2, .int 0), (3, .int 0), (0, .ref o), (1, .int 29)]) hx hb dX5_layMinors_45 rfl hl (by decide) rfl (fun ls hl => ?_)
  refine lv_iinc (v := 1) (lv' := [(3, .int 1), (2, .int 0), (0, .ref o), (1, .int 29)]) hx hb dX5_layMinors_46 hl (k := 1) rfl (by decide) (by decide) rfl (fun ls hl => ?_)
  refine lv_goto (tgt := 20) hx hb dX5_layMinors_49 (by decide) ?_
  refine lv_iload_n hx hb dX5_layMinors_20 rfl (lv_at hl 0 rfl) ?_
  refine lv_bipush (v := 6) hx hb dX5_layMinors_21 (by decide) ?_
  refine lv_icmp_ge (tgt := 52) hx hb dX5_layMinors_23 (by decide) (fun h => absurd h (by decide)) (fun _ => ?_)
  refine lv_iload_n hx hb dX5_layMinors_26 rfl (lv_at hl 1 rfl) ?_
  refine lv_ldc hx hb hown k_3 dX5_layMinors_27 ?_
  refine lv_icmp_ne (tgt := 36) hx hb dX5_layMinors_29 (by decide) (fun _ => ?_) (fun h => absurd h (by decide))
  refine lv_iload_n hx hb dX5_layMinors_36 rfl (lv_at hl 1 rfl) ?_
  refine lv_istore_n (lv' := [(2, .int 0), (3, .int 1), (0, .ref o), (1, .int 29)]) hx hb dX5_layMinors_37 rfl hl (by decide) rfl (fun ls hl => ?_)
  refine lv_iload_n hx hb dX5_layMinors_38 rfl (lv_at hl 0 rfl) ?_
  refine lv_iload_n hx hb dX5_layMinors_39 rfl (lv_at hl 3 rfl) ?_
  refine lv_iload_n hx hb dX5_layMinors_40 rfl (lv_at hl 1 rfl) ?_
  refine lv_ishr hx hb dX5_layMinors_41 ?_
  refine lv_eqi (v := 14) (by decide) ?_
  refine lv_iconst (v := 1) hx hb dX5_layMinors_42 (by decide) ?_
  refine lv_iand hx hb dX5_layMinors_43 ?_
  refine lv_eqi (v := 0) (by decide) ?_
  refine lv_iadd hx hb dX5_layMinors_44 ?_
  refine lv_eqi (v := 0) (by decide) ?_
  refine lv_istore_n (lv' := [(2, .int 0), (3, .int 1), (0, .ref o), (1, .int 29)]) hx hb dX5_layMinors_45 rfl hl (by decide) rfl (fun ls hl => ?_)
  refine lv_iinc (v := 2) (lv' := [(3, .int 2), (2, .int 0), (0, .ref o), (1, .int 29)]) hx hb dX5_layMinors_46 hl (k := 1) rfl (by decide) (by decide) rfl (fun ls hl => ?_)
  refine lv_goto (tgt := 20) hx hb dX5_layMinors_49 (by decide) ?_
  refine lv_iload_n hx hb dX5_layMinors_20 rfl (lv_at hl 0 rfl) ?_
  refine lv_bipush (v := 6) hx hb dX5_layMinors_21 (by decide) ?_
  refine lv_icmp_ge (tgt := 52) hx hb dX5_layMinors_23 (by decide) (fun h => absurd h (by decide)) (fun _ => ?_)
  refine lv_iload_n hx hb dX5_layMinors_26 rfl (lv_at hl 1 rfl) ?_
  refine lv_ldc hx hb hown k_3 dX5_layMinors_27 ?_
  refine lv_icmp_ne (tgt := 36) hx hb dX5_layMinors_29 (by decide) (fun _ => ?_) (fun h => absurd h (by decide))
  refine lv_iload_n hx hb dX5_layMinors_36 rfl (lv_at hl 1 rfl) ?_
  refine lv_istore_n (lv' := [(2, .int 0), (3, .int 2), (0, .ref o), (1, .int 29)]) hx hb dX5_layMinors_37 rfl hl (by decide) rfl (fun ls hl => ?_)
  refine lv_iload_n hx hb dX5_layMinors_38 rfl (lv_at hl 0 rfl) ?_
  refine lv_iload_n hx hb dX5_layMinors_39 rfl (lv_at hl 3 rfl) ?_
  refine lv_iload_n hx hb dX5_layMinors_40 rfl (lv_at hl 1 rfl) ?_
  refine lv_ishr hx hb dX5_layMinors_41 ?_
  refine lv_eqi (v := 7) (by decide) ?_
  refine lv_iconst (v := 1) hx hb dX5_layMinors_42 (by decide) ?_
  refine lv_iand hx hb dX5_layMinors_43 ?_
  refine lv_eqi (v := 1) (by decide) ?_
  refine lv_iadd hx hb dX5_layMinors_44 ?_
  refine lv_eqi (v := 1) (by decide) ?_
  refine lv_istore_n (lv' := [(2, .int 1), (3, .int 2), (0, .ref o), (1, .int 29)]) hx hb dX5_layMinors_45 rfl hl (by decide) rfl (fun ls hl => ?_)
  refine lv_iinc (v := 3) (lv' := [(3, .int 3), (2, .int 1), (0, .ref o), (1, .int 29)]) hx hb dX5_layMinors_46 hl (k := 1) rfl (by decide) (by decide) rfl (fun ls hl => ?_)
  refine lv_goto (tgt := 20) hx hb dX5_layMinors_49 (by decide) ?_
  refine lv_iload_n hx hb dX5_layMinors_20 rfl (lv_at hl 0 rfl) ?_
  refine lv_bipush (v := 6) hx hb dX5_layMinors_21 (by decide) ?_
  refine lv_icmp_ge (tgt := 52) hx hb dX5_layMinors_23 (by decide) (fun h => absurd h (by decide)) (fun _ => ?_)
  refine lv_iload_n hx hb dX5_layMinors_26 rfl (lv_at hl 1 rfl) ?_
  refine lv_ldc hx hb hown k_3 dX5_layMinors_27 ?_
  refine lv_icmp_ne (tgt := 36) hx hb dX5_layMinors_29 (by decide) (fun _ => ?_) (fun h => absurd h (by decide))
  refine lv_iload_n hx hb dX5_layMinors_36 rfl (lv_at hl 1 rfl) ?_
  refine lv_istore_n (lv' := [(2, .int 1), (3, .int 3), (0, .ref o), (1, .int 29)]) hx hb dX5_layMinors_37 rfl hl (by decide) rfl (fun ls hl => ?_)
  refine lv_iload_n hx hb dX5_layMinors_38 rfl (lv_at hl 0 rfl) ?_
  refine lv_iload_n hx hb dX5_layMinors_39 rfl (lv_at hl 3 rfl) ?_
  refine lv_iload_n hx hb dX5_layMinors_40 rfl (lv_at hl 1 rfl) ?_
  refine lv_ishr hx hb dX5_layMinors_41 ?_
  refine lv_eqi (v := 3) (by decide) ?_
  refine lv_iconst (v := 1) hx hb dX5_layMinors_42 (by decide) ?_
  refine lv_iand hx hb dX5_layMinors_43 ?_
  refine lv_eqi (v := 1) (by decide) ?_
  refine lv_iadd hx hb dX5_layMinors_44 ?_
  refine lv_eqi (v := 2) (by decide) ?_
  refine lv_istore_n (lv' := [(2, .int 2), (3, .int 3), (0, .ref o), (1, .int 29)]) hx hb dX5_layMinors_45 rfl hl (by decide) rfl (fun ls hl => ?_)
  refine lv_iinc (v := 4) (lv' := [(3, .int 4), (2, .int 2), (0, .ref o), (1, .int 29)]) hx hb dX5_layMinors_46 hl (k := 1) rfl (by decide) (by decide) rfl (fun ls hl => ?_)
  refine lv_goto (tgt := 20) hx hb dX5_layMinors_49 (by decide) ?_
  refine lv_iload_n hx hb dX5_layMinors_20 rfl (lv_at hl 0 rfl) ?_
  refine lv_bipush (v := 6) hx hb dX5_layMinors_21 (by decide) ?_
  refine lv_icmp_ge (tgt := 52) hx hb dX5_layMinors_23 (by decide) (fun h => absurd h (by decide)) (fun _ => ?_)
  refine lv_iload_n hx hb dX5_layMinors_26 rfl (lv_at hl 1 rfl) ?_
  refine lv_ldc hx hb hown k_3 dX5_layMinors_27 ?_
  refine lv_icmp_ne (tgt := 36) hx hb dX5_layMinors_29 (by decide) (fun _ => ?_) (fun h => absurd h (by decide))
  refine lv_iload_n hx hb dX5_layMinors_36 rfl (lv_at hl 1 rfl) ?_
  refine lv_istore_n (lv' := [(2, .int 2), (3, .int 4), (0, .ref o), (1, .int 29)]) hx hb dX5_layMinors_37 rfl hl (by decide) rfl (fun ls hl => ?_)
  refine lv_iload_n hx hb dX5_layMinors_38 rfl (lv_at hl 0 rfl) ?_
  refine lv_iload_n hx hb dX5_layMinors_39 rfl (lv_at hl 3 rfl) ?_
  refine lv_iload_n hx hb dX5_layMinors_40 rfl (lv_at hl 1 rfl) ?_
  refine lv_ishr hx hb dX5_layMinors_41 ?_
  refine lv_eqi (v := 1) (by decide) ?_
  refine lv_iconst (v := 1) hx hb dX5_layMinors_42 (by decide) ?_
  refine lv_iand hx hb dX5_layMinors_43 ?_
  refine lv_eqi (v := 1) (by decide) ?_
  refine lv_iadd hx hb dX5_layMinors_44 ?_
  refine lv_eqi (v := 3) (by decide) ?_
  refine lv_istore_n (lv' := [(2, .int 3), (3, .int 4), (0, .ref o), (1, .int 29)]) hx hb dX5_layMinors_45 rfl hl (by decide) rfl (fun ls hl => ?_)
  refine lv_iinc (v := 5) (lv' := [(3, .int 5), (2, .int 3), (0, .ref o), (1, .int 29)]) hx hb dX5_layMinors_46 hl (k := 1) rfl (by decide) (by decide) rfl (fun ls hl => ?_)
  refine lv_goto (tgt := 20) hx hb dX5_layMinors_49 (by decide) ?_
  refine lv_iload_n hx hb dX5_layMinors_20 rfl (lv_at hl 0 rfl) ?_
  refine lv_bipush (v := 6) hx hb dX5_layMinors_21 (by decide) ?_
  refine lv_icmp_ge (tgt := 52) hx hb dX5_layMinors_23 (by decide) (fun h => absurd h (by decide)) (fun _ => ?_)
  refine lv_iload_n hx hb dX5_layMinors_26 rfl (lv_at hl 1 rfl) ?_
  refine lv_ldc hx hb hown k_3 dX5_layMinors_27 ?_
  refine lv_icmp_ne (tgt := 36) hx hb dX5_layMinors_29 (by decide) (fun _ => ?_) (fun h => absurd h (by decide))
  refine lv_iload_n hx hb dX5_layMinors_36 rfl (lv_at hl 1 rfl) ?_
  refine lv_istore_n (lv' := [(2, .int 3), (3, .int 5), (0, .ref o), (1, .int 29)]) hx hb dX5_layMinors_37 rfl hl (by decide) rfl (fun ls hl => ?_)
  refine lv_iload_n hx hb dX5_layMinors_38 rfl (lv_at hl 0 rfl) ?_
  refine lv_iload_n hx hb dX5_layMinors_39 rfl (lv_at hl 3 rfl) ?_
  refine lv_iload_n hx hb dX5_layMinors_40 rfl (lv_at hl 1 rfl) ?_
  refine lv_ishr hx hb dX5_layMinors_41 ?_
  refine lv_eqi (v := 0) (by decide) ?_
  refine lv_iconst (v := 1) hx hb dX5_layMinors_42 (by decide) ?_
  refine lv_iand hx hb dX5_layMinors_43 ?_
  refine lv_eqi (v := 0) (by decide) ?_
  refine lv_iadd hx hb dX5_layMinors_44 ?_
  refine lv_eqi (v := 3) (by decide) ?_
  refine lv_istore_n (lv' := [(2, .int 3), (3, .int 5), (0, .ref o), (1, .int 29)]) hx hb dX5_layMinors_45 rfl hl (by decide) rfl (fun ls hl => ?_)
  refine lv_iinc (v := 6) (lv' := [(3, .int 6), (2, .int 3), (0, .ref o), (1, .int 29)]) hx hb dX5_layMinors_46 hl (k := 1) rfl (by decide) (by decide) rfl (fun ls hl => ?_)
  refine lv_goto (tgt := 20) hx hb dX5_layMinors_49 (by decide) ?_
  refine lv_iload_n hx hb dX5_layMinors_20 rfl (lv_at hl 0 rfl) ?_
  refine lv_bipush (v := 6) hx hb dX5_layMinors_21 (by decide) ?_
  refine lv_icmp_ge (tgt := 52) hx hb dX5_layMinors_23 (by decide) (fun _ => ?_) (fun h => absurd (by decide) h)
  refine lv_lconst (v := 0) hx hb dX5_layMinors_52 (by decide) ?_
  refine lv_lstore_n (lv' := [(3, .long 0), (2, .int 3), (0, .ref o), (1, .int 29)]) hx hb dX5_layMinors_53 rfl hl (by decide) rfl (fun ls hl => ?_)
  refine lv_iload_n hx hb dX5_layMinors_54 rfl (lv_at hl 1 rfl) ?_
  refine lv_istore (lv' := [(5, .int 3), (3, .long 0), (2, .int 3), (0, .ref o), (1, .int 29)]) hx hb dX5_layMinors_55 hl (by decide) rfl (fun ls hl => ?_)
  refine lv_iconst (v := 0) hx hb dX5_layMinors_57 (by decide) ?_
  refine lv_istore (lv' := [(6, .int 0), (5, .int 3), (3, .long 0), (2, .int 3), (0, .ref o), (1, .int 29)]) hx hb dX5_layMinors_58 hl (by decide) rfl (fun ls hl => ?_)
  refine lv_iload hx hb dX5_layMinors_60 (lv_at hl 0 rfl) ?_
  refine lv_bipush (v := 6) hx hb dX5_layMinors_62 (by decide) ?_
  refine lv_icmp_ge (tgt := 135) hx hb dX5_layMinors_64 (by decide) (fun h => absurd h (by decide)) (fun _ => ?_)
  refine lv_iload_n hx hb dX5_layMinors_67 rfl (lv_at hl 3 rfl) ?_
  refine lv_iconst (v := 5) hx hb dX5_layMinors_68 (by decide) ?_
  refine lv_icmp_ge (tgt := 135) hx hb dX5_layMinors_69 (by decide) (fun h => absurd h (by decide)) (fun _ => ?_)
  refine lv_iload_n hx hb dX5_layMinors_72 rfl (lv_at hl 5 rfl) ?_
  refine lv_iload hx hb dX5_layMinors_73 (lv_at hl 0 rfl) ?_
  refine lv_ishr hx hb dX5_layMinors_75 ?_
  refine lv_eqi (v := 29) (by decide) ?_
  refine lv_iconst (v := 1) hx hb dX5_layMinors_76 (by decide) ?_
  refine lv_iand hx hb dX5_layMinors_77 ?_
  refine lv_eqi (v := 1) (by decide) ?_
  refine lv_iconst (v := 1) hx hb dX5_layMinors_78 (by decide) ?_
  refine lv_icmp_ne (tgt := 129) hx hb dX5_layMinors_79 (by decide) (fun h => absurd (by decide) h) (fun _ => ?_)
  refine lv_aload_n hx hb dX5_layMinors_82 rfl (lv_at hl 4 rfl) ?_
  refine va_get (D := D) (ci := 5) (v := .ref mR) (C := RX5) (T := TX5) (N := 17) hx hb hts k_2 hown hK.1 hP 0 rfl rfl 5 (by decide) k_4 (fun _ h9 => h9) rfl dX5_layMinors_83 ?_
  refine lv_bipush (v := 6) hx hb dX5_layMinors_86 (by decide) ?_
  refine lv_iload_n hx hb dX5_layMinors_88 rfl (lv_at hl 3 rfl) ?_
  refine lv_imul hx hb dX5_layMinors_89 ?_
  refine lv_eqi (v := 18) (by decide) ?_
  refine lv_iload hx hb dX5_layMinors_90 (lv_at hl 0 rfl) ?_
  refine lv_iadd hx hb dX5_layMinors_92 ?_
  refine lv_eqi (v := 18) (by decide) ?_
  refine ld_l hx hb hK.1 hP 1 1 rfl rfl (ix_lit (by decide)) 18 (by decide) (v := fr 18) rfl dX5_layMinors_93 ?_
  refine lv_aload_n hx hb dX5_layMinors_94 rfl (lv_at hl 4 rfl) ?_
  refine va_get (D := D) (ci := 5) (v := .ref mD) (C := RX5) (T := TX5) (N := 17) hx hb hts k_2 hown hK.1 hP 0 rfl rfl 6 (by decide) k_1 (fun _ h9 => h9) rfl dX5_layMinors_95 ?_
  refine lv_iload_n hx hb dX5_layMinors_98 rfl (lv_at hl 5 rfl) ?_
  refine lv_iconst (v := 1) hx hb dX5_layMinors_99 (by decide) ?_
  refine lv_iload hx hb dX5_layMinors_100 (lv_at hl 0 rfl) ?_
  refine lv_ishl hx hb dX5_layMinors_102 ?_
  refine lv_eqi (v := 1) (by decide) ?_
  refine lv_isub hx hb dX5_layMinors_103 ?_
  refine lv_eqi (v := 28) (by decide) ?_
  refine ld_l hx hb hK.1 hP 2 1 rfl rfl (ix_lit (by decide)) 28 (by decide) (v := z5_mw28 fr) rfl dX5_layMinors_104 ?_
  refine lv_lmul hx hb dX5_layMinors_105 ?_
  refine lv_lstore (lv' := [(7, .long ((fr 18) * (z5_mw28 fr))), (6, .int 0), (5, .int 3), (3, .long 0), (2, .int 3), (0, .ref o), (1, .int 29)]) hx hb dX5_layMinors_106 hl (by decide) rfl (fun ls hl => ?_)
  refine lv_lload_n hx hb dX5_layMinors_108 rfl (lv_at hl 3 rfl) ?_
  refine lv_iload hx hb dX5_layMinors_109 (lv_at hl 2 rfl) ?_
  refine lv_iconst (v := 2) hx hb dX5_layMinors_111 (by decide) ?_
  refine lv_irem hx hb dX5_layMinors_112 (by decide) ?_
  refine lv_eqi (v := 1) (by decide) ?_
  refine lv_if_ne (tgt := 121) hx hb dX5_layMinors_113 (by decide) (fun _ => ?_) (fun h => absurd h (by decide))
  refine lv_lload hx hb dX5_layMinors_121 (lv_at hl 0 rfl) ?_
  refine lv_lneg hx hb dX5_layMinors_123 ?_
  refine lv_ladd hx hb dX5_layMinors_124 ?_
  refine lv_lstore_n (lv' := [(3, .long (0 + (-((fr 18) * (z5_mw28 fr))))), (7, .long ((fr 18) * (z5_mw28 fr))), (6, .int 0), (5, .int 3), (2, .int 3), (0, .ref o), (1, .int 29)]) hx hb dX5_layMinors_125 rfl hl (by decide) rfl (fun ls hl => ?_)
  refine lv_iinc (v := 2) (lv' := [(5, .int 2), (3, .long (0 + (-((fr 18) * (z5_mw28 fr))))), (7, .long ((fr 18) * (z5_mw28 fr))), (6, .int 0), (2, .int 3), (0, .ref o), (1, .int 29)]) hx hb dX5_layMinors_126 hl (k := 3) rfl (by decide) (by decide) rfl (fun ls hl => ?_)
  refine lv_iinc (v := 1) (lv' := [(6, .int 1), (5, .int 2), (3, .long (0 + (-((fr 18) * (z5_mw28 fr))))), (7, .long ((fr 18) * (z5_mw28 fr))), (2, .int 3), (0, .ref o), (1, .int 29)]) hx hb dX5_layMinors_129 hl (k := 3) rfl (by decide) (by decide) rfl (fun ls hl => ?_)
  refine lv_goto (tgt := 60) hx hb dX5_layMinors_132 (by decide) ?_
  refine lv_iload hx hb dX5_layMinors_60 (lv_at hl 0 rfl) ?_
  refine lv_bipush (v := 6) hx hb dX5_layMinors_62 (by decide) ?_
  refine lv_icmp_ge (tgt := 135) hx hb dX5_layMinors_64 (by decide) (fun h => absurd h (by decide)) (fun _ => ?_)
  refine lv_iload_n hx hb dX5_layMinors_67 rfl (lv_at hl 4 rfl) ?_
  refine lv_iconst (v := 5) hx hb dX5_layMinors_68 (by decide) ?_
  refine lv_icmp_ge (tgt := 135) hx hb dX5_layMinors_69 (by decide) (fun h => absurd h (by decide)) (fun _ => ?_)
  refine lv_iload_n hx hb dX5_layMinors_72 rfl (lv_at hl 6 rfl) ?_
  refine lv_iload hx hb dX5_layMinors_73 (lv_at hl 0 rfl) ?_
  refine lv_ishr hx hb dX5_layMinors_75 ?_
  refine lv_eqi (v := 14) (by decide) ?_
  refine lv_iconst (v := 1) hx hb dX5_layMinors_76 (by decide) ?_
  refine lv_iand hx hb dX5_layMinors_77 ?_
  refine lv_eqi (v := 0) (by decide) ?_
  refine lv_iconst (v := 1) hx hb dX5_layMinors_78 (by decide) ?_
  refine lv_icmp_ne (tgt := 129) hx hb dX5_layMinors_79 (by decide) (fun _ => ?_) (fun h => absurd h (by decide))
  refine lv_iinc (v := 2) (lv' := [(6, .int 2), (5, .int 2), (3, .long (0 + (-((fr 18) * (z5_mw28 fr))))), (7, .long ((fr 18) * (z5_mw28 fr))), (2, .int 3), (0, .ref o), (1, .int 29)]) hx hb dX5_layMinors_129 hl (k := 0) rfl (by decide) (by decide) rfl (fun ls hl => ?_)
  refine lv_goto (tgt := 60) hx hb dX5_layMinors_132 (by decide) ?_
  refine lv_iload hx hb dX5_layMinors_60 (lv_at hl 0 rfl) ?_
  refine lv_bipush (v := 6) hx hb dX5_layMinors_62 (by decide) ?_
  refine lv_icmp_ge (tgt := 135) hx hb dX5_layMinors_64 (by decide) (fun h => absurd h (by decide)) (fun _ => ?_)
  refine lv_iload_n hx hb dX5_layMinors_67 rfl (lv_at hl 4 rfl) ?_
  refine lv_iconst (v := 5) hx hb dX5_layMinors_68 (by decide) ?_
  refine lv_icmp_ge (tgt := 135) hx hb dX5_layMinors_69 (by decide) (fun h => absurd h (by decide)) (fun _ => ?_)
  refine lv_iload_n hx hb dX5_layMinors_72 rfl (lv_at hl 6 rfl) ?_
  refine lv_iload hx hb dX5_layMinors_73 (lv_at hl 0 rfl) ?_
  refine lv_ishr hx hb dX5_layMinors_75 ?_
  refine lv_eqi (v := 7) (by decide) ?_
  refine lv_iconst (v := 1) hx hb dX5_layMinors_76 (by decide) ?_
  refine lv_iand hx hb dX5_layMinors_77 ?_
  refine lv_eqi (v := 1) (by decide) ?_
  refine lv_iconst (v := 1) hx hb dX5_layMinors_78 (by decide) ?_
  refine lv_icmp_ne (tgt := 129) hx hb dX5_layMinors_79 (by decide) (fun h => absurd (by decide) h) (fun _ => ?_)
  refine lv_aload_n hx hb dX5_layMinors_82 rfl (lv_at hl 5 rfl) ?_
  refine va_get (D := D) (ci := 5) (v := .ref mR) (C := RX5) (T := TX5) (N := 17) hx hb hts k_2 hown hK.1 hP 0 rfl rfl 5 (by decide) k_4 (fun _ h9 => h9) rfl dX5_layMinors_83 ?_
  refine lv_bipush (v := 6) hx hb dX5_layMinors_86 (by decide) ?_
  refine lv_iload_n hx hb dX5_layMinors_88 rfl (lv_at hl 4 rfl) ?_
  refine lv_imul hx hb dX5_layMinors_89 ?_
  refine lv_eqi (v := 18) (by decide) ?_
  refine lv_iload hx hb dX5_layMinors_90 (lv_at hl 0 rfl) ?_
  refine lv_iadd hx hb dX5_layMinors_92 ?_
  refine lv_eqi (v := 20) (by decide) ?_
  refine ld_l hx hb hK.1 hP 1 1 rfl rfl (ix_lit (by decide)) 20 (by decide) (v := fr 20) rfl dX5_layMinors_93 ?_
  refine lv_aload_n hx hb dX5_layMinors_94 rfl (lv_at hl 5 rfl) ?_
  refine va_get (D := D) (ci := 5) (v := .ref mD) (C := RX5) (T := TX5) (N := 17) hx hb hts k_2 hown hK.1 hP 0 rfl rfl 6 (by decide) k_1 (fun _ h9 => h9) rfl dX5_layMinors_95 ?_
  refine lv_iload_n hx hb dX5_layMinors_98 rfl (lv_at hl 6 rfl) ?_
  refine lv_iconst (v := 1) hx hb dX5_layMinors_99 (by decide) ?_
  refine lv_iload hx hb dX5_layMinors_100 (lv_at hl 0 rfl) ?_
  refine lv_ishl hx hb dX5_layMinors_102 ?_
  refine lv_eqi (v := 4) (by decide) ?_
  refine lv_isub hx hb dX5_layMinors_103 ?_
  refine lv_eqi (v := 25) (by decide) ?_
  refine ld_l hx hb hK.1 hP 2 1 rfl rfl (ix_lit (by decide)) 25 (by decide) (v := z5_mw25 fr) rfl dX5_layMinors_104 ?_
  refine lv_lmul hx hb dX5_layMinors_105 ?_
  refine lv_lstore (lv' := [(7, .long ((fr 20) * (z5_mw25 fr))), (6, .int 2), (5, .int 2), (3, .long (0 + (-((fr 18) * (z5_mw28 fr))))), (2, .int 3), (0, .ref o), (1, .int 29)]) hx hb dX5_layMinors_106 hl (by decide) rfl (fun ls hl => ?_)
  refine lv_lload_n hx hb dX5_layMinors_108 rfl (lv_at hl 3 rfl) ?_
  refine lv_iload hx hb dX5_layMinors_109 (lv_at hl 2 rfl) ?_
  refine lv_iconst (v := 2) hx hb dX5_layMinors_111 (by decide) ?_
  refine lv_irem hx hb dX5_layMinors_112 (by decide) ?_
  refine lv_eqi (v := 0) (by decide) ?_
  refine lv_if_ne (tgt := 121) hx hb dX5_layMinors_113 (by decide) (fun h => absurd (by decide) h) (fun _ => ?_)
  refine lv_lload hx hb dX5_layMinors_116 (lv_at hl 0 rfl) ?_
  refine lv_goto (tgt := 124) hx hb dX5_layMinors_118 (by decide) ?_
  refine lv_ladd hx hb dX5_layMinors_124 ?_
  refine lv_lstore_n (lv' := [(3, .long ((0 + (-((fr 18) * (z5_mw28 fr)))) + ((fr 20) * (z5_mw25 fr)))), (7, .long ((fr 20) * (z5_mw25 fr))), (6, .int 2), (5, .int 2), (2, .int 3), (0, .ref o), (1, .int 29)]) hx hb dX5_layMinors_125 rfl hl (by decide) rfl (fun ls hl => ?_)
  refine lv_iinc (v := 1) (lv' := [(5, .int 1), (3, .long ((0 + (-((fr 18) * (z5_mw28 fr)))) + ((fr 20) * (z5_mw25 fr)))), (7, .long ((fr 20) * (z5_mw25 fr))), (6, .int 2), (2, .int 3), (0, .ref o), (1, .int 29)]) hx hb dX5_layMinors_126 hl (k := 3) rfl (by decide) (by decide) rfl (fun ls hl => ?_)
  refine lv_iinc (v := 3) (lv' := [(6, .int 3), (5, .int 1), (3, .long ((0 + (-((fr 18) * (z5_mw28 fr)))) + ((fr 20) * (z5_mw25 fr)))), (7, .long ((fr 20) * (z5_mw25 fr))), (2, .int 3), (0, .ref o), (1, .int 29)]) hx hb dX5_layMinors_129 hl (k := 3) rfl (by decide) (by decide) rfl (fun ls hl => ?_)
  refine lv_goto (tgt := 60) hx hb dX5_layMinors_132 (by decide) ?_
  refine lv_iload hx hb dX5_layMinors_60 (lv_at hl 0 rfl) ?_
  refine lv_bipush (v := 6) hx hb dX5_layMinors_62 (by decide) ?_
  refine lv_icmp_ge (tgt := 135) hx hb dX5_layMinors_64 (by decide) (fun h => absurd h (by decide)) (fun _ => ?_)
  refine lv_iload_n hx hb dX5_layMinors_67 rfl (lv_at hl 4 rfl) ?_
  refine lv_iconst (v := 5) hx hb dX5_layMinors_68 (by decide) ?_
  refine lv_icmp_ge (tgt := 135) hx hb dX5_layMinors_69 (by decide) (fun h => absurd h (by decide)) (fun _ => ?_)
  refine lv_iload_n hx hb dX5_layMinors_72 rfl (lv_at hl 6 rfl) ?_
  refine lv_iload hx hb dX5_layMinors_73 (lv_at hl 0 rfl) ?_
  refine lv_ishr hx hb dX5_layMinors_75 ?_
  refine lv_eqi (v := 3) (by decide) ?_
  refine lv_iconst (v := 1) hx hb dX5_layMinors_76 (by decide) ?_
  refine lv_iand hx hb dX5_layMinors_77 ?_
  refine lv_eqi (v := 1) (by decide) ?_
  refine lv_iconst (v := 1) hx hb dX5_layMinors_78 (by decide) ?_
  refine lv_icmp_ne (tgt := 129) hx hb dX5_layMinors_79 (by decide) (fun h => absurd (by decide) h) (fun _ => ?_)
  refine lv_aload_n hx hb dX5_layMinors_82 rfl (lv_at hl 5 rfl) ?_
  refine va_get (D := D) (ci := 5) (v := .ref mR) (C := RX5) (T := TX5) (N := 17) hx hb hts k_2 hown hK.1 hP 0 rfl rfl 5 (by decide) k_4 (fun _ h9 => h9) rfl dX5_layMinors_83 ?_
  refine lv_bipush (v := 6) hx hb dX5_layMinors_86 (by decide) ?_
  refine lv_iload_n hx hb dX5_layMinors_88 rfl (lv_at hl 4 rfl) ?_
  refine lv_imul hx hb dX5_layMinors_89 ?_
  refine lv_eqi (v := 18) (by decide) ?_
  refine lv_iload hx hb dX5_layMinors_90 (lv_at hl 0 rfl) ?_
  refine lv_iadd hx hb dX5_layMinors_92 ?_
  refine lv_eqi (v := 21) (by decide) ?_
  refine ld_l hx hb hK.1 hP 1 1 rfl rfl (ix_lit (by decide)) 21 (by decide) (v := fr 21) rfl dX5_layMinors_93 ?_
  refine lv_aload_n hx hb dX5_layMinors_94 rfl (lv_at hl 5 rfl) ?_
  refine va_get (D := D) (ci := 5) (v := .ref mD) (C := RX5) (T := TX5) (N := 17) hx hb hts k_2 hown hK.1 hP 0 rfl rfl 6 (by decide) k_1 (fun _ h9 => h9) rfl dX5_layMinors_95 ?_
  refine lv_iload_n hx hb dX5_layMinors_98 rfl (lv_at hl 6 rfl) ?_
  refine lv_iconst (v := 1) hx hb dX5_layMinors_99 (by decide) ?_
  refine lv_iload hx hb dX5_layMinors_100 (lv_at hl 0 rfl) ?_
  refine lv_ishl hx hb dX5_layMinors_102 ?_
  refine lv_eqi (v := 8) (by decide) ?_
  refine lv_isub hx hb dX5_layMinors_103 ?_
  refine lv_eqi (v := 21) (by decide) ?_
  refine ld_l hx hb hK.1 hP 2 1 rfl rfl (ix_lit (by decide)) 21 (by decide) (v := z5_mw21 fr) rfl dX5_layMinors_104 ?_
  refine lv_lmul hx hb dX5_layMinors_105 ?_
  refine lv_lstore (lv' := [(7, .long ((fr 21) * (z5_mw21 fr))), (6, .int 3), (5, .int 1), (3, .long ((0 + (-((fr 18) * (z5_mw28 fr)))) + ((fr 20) * (z5_mw25 fr)))), (2, .int 3), (0, .ref o), (1, .int 29)]) hx hb dX5_layMinors_106 hl (by decide) rfl (fun ls hl => ?_)
  refine lv_lload_n hx hb dX5_layMinors_108 rfl (lv_at hl 3 rfl) ?_
  refine lv_iload hx hb dX5_layMinors_109 (lv_at hl 2 rfl) ?_
  refine lv_iconst (v := 2) hx hb dX5_layMinors_111 (by decide) ?_
  refine lv_irem hx hb dX5_layMinors_112 (by decide) ?_
  refine lv_eqi (v := 1) (by decide) ?_
  refine lv_if_ne (tgt := 121) hx hb dX5_layMinors_113 (by decide) (fun _ => ?_) (fun h => absurd h (by decide))
  refine lv_lload hx hb dX5_layMinors_121 (lv_at hl 0 rfl) ?_
  refine lv_lneg hx hb dX5_layMinors_123 ?_
  refine lv_ladd hx hb dX5_layMinors_124 ?_
  refine lv_lstore_n (lv' := [(3, .long (((0 + (-((fr 18) * (z5_mw28 fr)))) + ((fr 20) * (z5_mw25 fr))) + (-((fr 21) * (z5_mw21 fr))))), (7, .long ((fr 21) * (z5_mw21 fr))), (6, .int 3), (5, .int 1), (2, .int 3), (0, .ref o), (1, .int 29)]) hx hb dX5_layMinors_125 rfl hl (by decide) rfl (fun ls hl => ?_)
  refine lv_iinc (v := 0) (lv' := [(5, .int 0), (3, .long (((0 + (-((fr 18) * (z5_mw28 fr)))) + ((fr 20) * (z5_mw25 fr))) + (-((fr 21) * (z5_mw21 fr))))), (7, .long ((fr 21) * (z5_mw21 fr))), (6, .int 3), (2, .int 3), (0, .ref o), (1, .int 29)]) hx hb dX5_layMinors_126 hl (k := 3) rfl (by decide) (by decide) rfl (fun ls hl => ?_)
  refine lv_iinc (v := 4) (lv' := [(6, .int 4), (5, .int 0), (3, .long (((0 + (-((fr 18) * (z5_mw28 fr)))) + ((fr 20) * (z5_mw25 fr))) + (-((fr 21) * (z5_mw21 fr))))), (7, .long ((fr 21) * (z5_mw21 fr))), (2, .int 3), (0, .ref o), (1, .int 29)]) hx hb dX5_layMinors_129 hl (k := 3) rfl (by decide) (by decide) rfl (fun ls hl => ?_)
  refine lv_goto (tgt := 60) hx hb dX5_layMinors_132 (by decide) ?_
  refine lv_iload hx hb dX5_layMinors_60 (lv_at hl 0 rfl) ?_
  refine lv_bipush (v := 6) hx hb dX5_layMinors_62 (by decide) ?_
  refine lv_icmp_ge (tgt := 135) hx hb dX5_layMinors_64 (by decide) (fun h => absurd h (by decide)) (fun _ => ?_)
  refine lv_iload_n hx hb dX5_layMinors_67 rfl (lv_at hl 4 rfl) ?_
  refine lv_iconst (v := 5) hx hb dX5_layMinors_68 (by decide) ?_
  refine lv_icmp_ge (tgt := 135) hx hb dX5_layMinors_69 (by decide) (fun h => absurd h (by decide)) (fun _ => ?_)
  refine lv_iload_n hx hb dX5_layMinors_72 rfl (lv_at hl 6 rfl) ?_
  refine lv_iload hx hb dX5_layMinors_73 (lv_at hl 0 rfl) ?_
  refine lv_ishr hx hb dX5_layMinors_75 ?_
  refine lv_eqi (v := 1) (by decide) ?_
  refine lv_iconst (v := 1) hx hb dX5_layMinors_76 (by decide) ?_
  refine lv_iand hx hb dX5_layMinors_77 ?_
  refine lv_eqi (v := 1) (by decide) ?_
  refine lv_iconst (v := 1) hx hb dX5_layMinors_78 (by decide) ?_
  refine lv_icmp_ne (tgt := 129) hx hb dX5_layMinors_79 (by decide) (fun h => absurd (by decide) h) (fun _ => ?_)
  refine lv_aload_n hx hb dX5_layMinors_82 rfl (lv_at hl 5 rfl) ?_
  refine va_get (D := D) (ci := 5) (v := .ref mR) (C := RX5) (T := TX5) (N := 17) hx hb hts k_2 hown hK.1 hP 0 rfl rfl 5 (by decide) k_4 (fun _ h9 => h9) rfl dX5_layMinors_83 ?_
  refine lv_bipush (v := 6) hx hb dX5_layMinors_86 (by decide) ?_
  refine lv_iload_n hx hb dX5_layMinors_88 rfl (lv_at hl 4 rfl) ?_
  refine lv_imul hx hb dX5_layMinors_89 ?_
  refine lv_eqi (v := 18) (by decide) ?_
  refine lv_iload hx hb dX5_layMinors_90 (lv_at hl 0 rfl) ?_
  refine lv_iadd hx hb dX5_layMinors_92 ?_
  refine lv_eqi (v := 22) (by decide) ?_
  refine ld_l hx hb hK.1 hP 1 1 rfl rfl (ix_lit (by decide)) 22 (by decide) (v := fr 22) rfl dX5_layMinors_93 ?_
  refine lv_aload_n hx hb dX5_layMinors_94 rfl (lv_at hl 5 rfl) ?_
  refine va_get (D := D) (ci := 5) (v := .ref mD) (C := RX5) (T := TX5) (N := 17) hx hb hts k_2 hown hK.1 hP 0 rfl rfl 6 (by decide) k_1 (fun _ h9 => h9) rfl dX5_layMinors_95 ?_
  refine lv_iload_n hx hb dX5_layMinors_98 rfl (lv_at hl 6 rfl) ?_
  refine lv_iconst (v := 1) hx hb dX5_layMinors_99 (by decide) ?_
  refine lv_iload hx hb dX5_layMinors_100 (lv_at hl 0 rfl) ?_
  refine lv_ishl hx hb dX5_layMinors_102 ?_
  refine lv_eqi (v := 16) (by decide) ?_
  refine lv_isub hx hb dX5_layMinors_103 ?_
  refine lv_eqi (v := 13) (by decide) ?_
  refine ld_l hx hb hK.1 hP 2 1 rfl rfl (ix_lit (by decide)) 13 (by decide) (v := z5_mw13 fr) rfl dX5_layMinors_104 ?_
  refine lv_lmul hx hb dX5_layMinors_105 ?_
  refine lv_lstore (lv' := [(7, .long ((fr 22) * (z5_mw13 fr))), (6, .int 4), (5, .int 0), (3, .long (((0 + (-((fr 18) * (z5_mw28 fr)))) + ((fr 20) * (z5_mw25 fr))) + (-((fr 21) * (z5_mw21 fr))))), (2, .int 3), (0, .ref o), (1, .int 29)]) hx hb dX5_layMinors_106 hl (by decide) rfl (fun ls hl => ?_)
  refine lv_lload_n hx hb dX5_layMinors_108 rfl (lv_at hl 3 rfl) ?_
  refine lv_iload hx hb dX5_layMinors_109 (lv_at hl 2 rfl) ?_
  refine lv_iconst (v := 2) hx hb dX5_layMinors_111 (by decide) ?_
  refine lv_irem hx hb dX5_layMinors_112 (by decide) ?_
  refine lv_eqi (v := 0) (by decide) ?_
  refine lv_if_ne (tgt := 121) hx hb dX5_layMinors_113 (by decide) (fun h => absurd (by decide) h) (fun _ => ?_)
  refine lv_lload hx hb dX5_layMinors_116 (lv_at hl 0 rfl) ?_
  refine lv_goto (tgt := 124) hx hb dX5_layMinors_118 (by decide) ?_
  refine lv_ladd hx hb dX5_layMinors_124 ?_
  refine lv_lstore_n (lv' := [(3, .long ((((0 + (-((fr 18) * (z5_mw28 fr)))) + ((fr 20) * (z5_mw25 fr))) + (-((fr 21) * (z5_mw21 fr)))) + ((fr 22) * (z5_mw13 fr)))), (7, .long ((fr 22) * (z5_mw13 fr))), (6, .int 4), (5, .int 0), (2, .int 3), (0, .ref o), (1, .int 29)]) hx hb dX5_layMinors_125 rfl hl (by decide) rfl (fun ls hl => ?_)
  refine lv_iinc (v := (-1)) (lv' := [(5, .int (-1)), (3, .long ((((0 + (-((fr 18) * (z5_mw28 fr)))) + ((fr 20) * (z5_mw25 fr))) + (-((fr 21) * (z5_mw21 fr)))) + ((fr 22) * (z5_mw13 fr)))), (7, .long ((fr 22) * (z5_mw13 fr))), (6, .int 4), (2, .int 3), (0, .ref o), (1, .int 29)]) hx hb dX5_layMinors_126 hl (k := 3) rfl (by decide) (by decide) rfl (fun ls hl => ?_)
  refine lv_iinc (v := 5) (lv' := [(6, .int 5), (5, .int (-1)), (3, .long ((((0 + (-((fr 18) * (z5_mw28 fr)))) + ((fr 20) * (z5_mw25 fr))) + (-((fr 21) * (z5_mw21 fr)))) + ((fr 22) * (z5_mw13 fr)))), (7, .long ((fr 22) * (z5_mw13 fr))), (2, .int 3), (0, .ref o), (1, .int 29)]) hx hb dX5_layMinors_129 hl (k := 3) rfl (by decide) (by decide) rfl (fun ls hl => ?_)
  refine lv_goto (tgt := 60) hx hb dX5_layMinors_132 (by decide) ?_
  refine lv_iload hx hb dX5_layMinors_60 (lv_at hl 0 rfl) ?_
  refine lv_bipush (v := 6) hx hb dX5_layMinors_62 (by decide) ?_
  refine lv_icmp_ge (tgt := 135) hx hb dX5_layMinors_64 (by decide) (fun h => absurd h (by decide)) (fun _ => ?_)
  refine lv_iload_n hx hb dX5_layMinors_67 rfl (lv_at hl 4 rfl) ?_
  refine lv_iconst (v := 5) hx hb dX5_layMinors_68 (by decide) ?_
  refine lv_icmp_ge (tgt := 135) hx hb dX5_layMinors_69 (by decide) (fun h => absurd h (by decide)) (fun _ => ?_)
  refine lv_iload_n hx hb dX5_layMinors_72 rfl (lv_at hl 6 rfl) ?_
  refine lv_iload hx hb dX5_layMinors_73 (lv_at hl 0 rfl) ?_
  refine lv_ishr hx hb dX5_layMinors_75 ?_
  refine lv_eqi (v := 0) (by decide) ?_
  refine lv_iconst (v := 1) hx hb dX5_layMinors_76 (by decide) ?_
  refine lv_iand hx hb dX5_layMinors_77 ?_
  refine lv_eqi (v := 0) (by decide) ?_
  refine lv_iconst (v := 1) hx hb dX5_layMinors_78 (by decide) ?_
  refine lv_icmp_ne (tgt := 129) hx hb dX5_layMinors_79 (by decide) (fun _ => ?_) (fun h => absurd h (by decide))
  refine lv_iinc (v := 6) (lv' := [(6, .int 6), (5, .int (-1)), (3, .long ((((0 + (-((fr 18) * (z5_mw28 fr)))) + ((fr 20) * (z5_mw25 fr))) + (-((fr 21) * (z5_mw21 fr)))) + ((fr 22) * (z5_mw13 fr)))), (7, .long ((fr 22) * (z5_mw13 fr))), (2, .int 3), (0, .ref o), (1, .int 29)]) hx hb dX5_layMinors_129 hl (k := 0) rfl (by decide) (by decide) rfl (fun ls hl => ?_)
  refine lv_goto (tgt := 60) hx hb dX5_layMinors_132 (by decide) ?_
  refine lv_iload hx hb dX5_layMinors_60 (lv_at hl 0 rfl) ?_
  refine lv_bipush (v := 6) hx hb dX5_layMinors_62 (by decide) ?_
  refine lv_icmp_ge (tgt := 135) hx hb dX5_layMinors_64 (by decide) (fun _ => ?_) (fun h => absurd (by decide) h)
  refine lv_aload_n hx hb dX5_layMinors_135 rfl (lv_at hl 5 rfl) ?_
  refine va_get (D := D) (ci := 5) (v := .ref mD) (C := RX5) (T := TX5) (N := 17) hx hb hts k_2 hown hK.1 hP 0 rfl rfl 6 (by decide) k_1 (fun _ h9 => h9) rfl dX5_layMinors_136 ?_
  refine lv_iload_n hx hb dX5_layMinors_139 rfl (lv_at hl 6 rfl) ?_
  refine lv_lload_n hx hb dX5_layMinors_140 rfl (lv_at hl 2 rfl) ?_
  refine st_l hx hb hK.1 hP hD hS 2 1 rfl rfl (ix_lit (by decide)) 29 (by decide) dX5_layMinors_141 (fun H locs hP hD hS => ?_)
  have hP : va_P D vwCl [kM o mP mL mC mN mF mR mD mV mX mA mK cm mT pm mU mH mI, kJ mR cJ 30 fr, kJ mD cJ 64 (vp_updL (z5_mm29 fr fd) 29 ((((0 + (-((fr 18) * (z5_mw28 fr)))) + ((fr 20) * (z5_mw25 fr))) + (-((fr 21) * (z5_mw21 fr)))) + ((fr 22) * (z5_mw13 fr))))] H := hP
  have hD : va_D A [kM o mP mL mC mN mF mR mD mV mX mA mK cm mT pm mU mH mI, kJ mR cJ 30 fr, kJ mD cJ 64 (vp_updL (z5_mm29 fr fd) 29 ((((0 + (-((fr 18) * (z5_mw28 fr)))) + ((fr 20) * (z5_mw25 fr))) + (-((fr 21) * (z5_mw21 fr)))) + ((fr 22) * (z5_mw13 fr))))] := hD
  have hP : va_P D vwCl [kM o mP mL mC mN mF mR mD mV mX mA mK cm mT pm mU mH mI, kJ mR cJ 30 fr, kJ mD cJ 64 (z5_mm30 fr fd)] H := hP
  have hD : va_D A [kM o mP mL mC mN mF mR mD mV mX mA mK cm mT pm mU mH mI, kJ mR cJ 30 fr, kJ mD cJ 64 (z5_mm30 fr fd)] := hD
  refine lv_iinc (v := 30) (lv' := [(1, .int 30), (6, .int 6), (5, .int (-1)), (3, .long ((((0 + (-((fr 18) * (z5_mw28 fr)))) + ((fr 20) * (z5_mw25 fr))) + (-((fr 21) * (z5_mw21 fr)))) + ((fr 22) * (z5_mw13 fr)))), (7, .long ((fr 22) * (z5_mw13 fr))), (2, .int 3), (0, .ref o)]) hx hb dX5_layMinors_142 hl (k := 6) rfl (by decide) (by decide) rfl (fun ls hl => ?_)
  refine lv_goto (tgt := 9) hx hb dX5_layMinors_145 (by decide) ?_
  exact sg_X5_layMinors_30 hx hb hr hml hown hts hlk hK hA hP hD hS ls (lv_sub hl [6, 0] rfl)
