-- laid by wip/whole/gen
set_option maxHeartbeats 4000000 in
set_option maxRecDepth 100000 in
theorem sg_X5_layMinors_46 {l : Launch} {D : va_G} {cI cJ : ClassId} {pG : Program} {eG : Env} {sG : State} {mG : MethodId} {below : List Frame} {meth : Method} {cG : Code} {A : Nat → Prop} {H : Heap} {locs : List Loc} {o : Nat} {mP : Nat} {mL : Nat} {mC : Nat} {mN : Nat} {mF : Nat} {mR : Nat} {mD : Nat} {mV : Nat} {mX : Nat} {mA : Nat} {mK : Nat} {mT : Nat} {mU : Nat} {mH : Nat} {mI : Nat} {cm : Int32} {pm : Int32} {fr : Nat → Int64} {fd : Nat → Int64} (hx : pG.tables.exec = Jvm.exec) (hb : cG.code = cX5_layMinors) (hr : meth.sig.returnType = none) (hml : cG.maxLocals = 9) (hown : sG.vm.findClass RX5 = some mG.cls) (hts : ∀ x ∈ wsX5_layMinors, x.before ([.ref o] : List Value).toArray sG = true) (hlk : meth.locks = false) (hK : gd_K D cI cJ sG) (hA : ∀ q : Nat, sG.heap.size ≤ q → A q) (hP : va_P D vwCl [kM o mP mL mC mN mF mR mD mV mX mA mK cm mT pm mU mH mI, kJ mR cJ 30 fr, kJ mD cJ 64 (z5_mm46 fr fd)] H) (hD : va_D A [kM o mP mL mC mN mF mR mD mV mX mA mK cm mT pm mU mH mI, kJ mR cJ 30 fr, kJ mD cJ 64 (z5_mm46 fr fd)]) (hS : va_S A sG.heap H locs) (ls : Array Slot) (hl : lv_has ls 9 [(0, .ref o), (1, .int 46)]) : W pG l eG (headSpec wsX5_layMinors ({ frames := 0, cells := 0, slots := 0, locals := 0 })).room sG mG ([.ref o] : List Value).toArray below meth cG H locs 0 0 (MQ below ((qe_v (fun _ : Unit => True) (fun uu => [kM o mP mL mC mN mF mR mD mV mX mA mK cm mT pm mU mH mI, kJ mR cJ 30 fr, kJ mD cJ 64 (z5_layMinors_f2 fr fd)])) D A) ([.ref o] : List Value).toArray sG 0 0 A) (F0 mG 9 ls []) := by
  have k_1 := hts (.fieldLink RX5 29 "ConicRowsModel" "minors" "[J") (by decide +kernel)
  have k_2 : ∀ w ∈ wsX50, w ∈ wsX5_layMinors := by decide +kernel
  have k_3 := hts (.constant RX5 122 (-1000001)) (by decide +kernel)
  have k_4 := hts (.fieldLink RX5 26 "ConicRowsModel" "rows" "[J") (by decide +kernel)
  refine lv_iload_n hx hb dX5_layMinors_9 rfl (lv_at hl 1 rfl) ?_
  refine lv_bipush (v := 64) hx hb dX5_layMinors_10 (by decide) ?_
  refine lv_icmp_ge (tgt := 148) hx hb dX5_layMinors_12 (by decide) (fun h => absurd h (by decide)) (fun _ => ?_)
  refine lv_ldc hx hb hown k_3 dX5_layMinors_15 ?_
  refine lv_istore_n (lv' := [(2, .int (-1000001)), (0, .ref o), (1, .int 46)]) hx hb dX5_layMinors_17 rfl hl (by decide) rfl (fun ls hl => ?_)
  refine lv_iconst (v := 0) hx hb dX5_layMinors_18 (by decide) ?_
  refine lv_istore_n (lv' := [(3, .int 0), (2, .int (-1000001)), (0, .ref o), (1, .int 46)]) hx hb dX5_layMinors_19 rfl hl (by decide) rfl (fun ls hl => ?_)
  refine lv_iload_n hx hb dX5_layMinors_20 rfl (lv_at hl 0 rfl) ?_
  refine lv_bipush (v := 6) hx hb dX5_layMinors_21 (by decide) ?_
  refine lv_icmp_ge (tgt := 52) hx hb dX5_layMinors_23 (by decide) (fun h => absurd h (by decide)) (fun _ => ?_)
  refine lv_iload_n hx hb dX5_layMinors_26 rfl (lv_at hl 1 rfl) ?_
  refine lv_ldc hx hb hown k_3 dX5_layMinors_27 ?_
  refine lv_icmp_ne (tgt := 36) hx hb dX5_layMinors_29 (by decide) (fun h => absurd (by decide) h) (fun _ => ?_)
  refine lv_iconst (v := (-1)) hx hb dX5_layMinors_32 (by decide) ?_
  refine lv_goto (tgt := 37) hx hb dX5_layMinors_33 (by decide) ?_
  refine lv_istore_n (lv' := [(2, .int (-1)), (3, .int 0), (0, .ref o), (1, .int 46)]) hx hb dX5_layMinors_37 rfl hl (by decide) rfl (fun ls hl => ?_)
  refine lv_iload_n hx hb dX5_layMinors_38 rfl (lv_at hl 0 rfl) ?_
  refine lv_iload_n hx hb dX5_layMinors_39 rfl (lv_at hl 3 rfl) ?_
  refine lv_iload_n hx hb dX5_layMinors_40 rfl (lv_at hl 1 rfl) ?_
  refine lv_ishr hx hb dX5_layMinors_41 ?_
  refine lv_eqi (v := 46) (by decide) ?_
  refine lv_iconst (v := 1) hx hb dX5_layMinors_42 (by decide) ?_
  refine lv_iand hx hb dX5_layMinors_43 ?_
  refine lv_eqi (v := 0) (by decide) ?_
  refine lv_iadd hx hb dX5_layMinors_44 ?_
  refine lv_eqi (v := (-1)) (by decide) ?_
  refine lv_istore_n (lv' := [(2, .int (-1)), (3, .int 0), (0, .ref o), (1, .int 46)]) hx hb dX5_layMinors_45 rfl hl (by decide) rfl (fun ls hl => ?_)
  refine lv_iinc (v := 1) (lv' := [(3, .int 1), (2, .int (-1)), (0, .ref o), (1, .int 46)]) hx hb dX5_layMinors_46 hl (k := 1) rfl (by decide) (by decide) rfl (fun ls hl => ?_)
  refine lv_goto (tgt := 20) hx hb dX5_layMinors_49 (by decide) ?_
  refine lv_iload_n hx hb dX5_layMinors_20 rfl (lv_at hl 0 rfl) ?_
  refine lv_bipush (v := 6) hx hb dX5_layMinors_21 (by decide) ?_
  refine lv_icmp_ge (tgt := 52) hx hb dX5_layMinors_23 (by decide) (fun h => absurd h (by decide)) (fun _ => ?_)
  refine lv_iload_n hx hb dX5_layMinors_26 rfl (lv_at hl 1 rfl) ?_
  refine lv_ldc hx hb hown k_3 dX5_layMinors_27 ?_
  refine lv_icmp_ne (tgt := 36) hx hb dX5_layMinors_29 (by decide) (fun _ => ?_) (fun h => absurd h (by decide))
  refine lv_iload_n hx hb dX5_layMinors_36 rfl (lv_at hl 1 rfl) ?_
  refine lv_istore_n (lv' := [(2, .int (-1)), (3, .int 1), (0, .ref o), (1, .int 46)]) hx hb dX5_layMinors_37 rfl hl (by decide) rfl (fun ls hl => ?_)
  refine lv_iload_n hx hb dX5_layMinors_38 rfl (lv_at hl 0 rfl) ?_
  refine lv_iload_n hx hb dX5_layMinors_39 rfl (lv_at hl 3 rfl) ?_
  refine lv_iload_n hx hb dX5_layMinors_40 rfl (lv_at hl 1 rfl) ?_
  refine lv_ishr hx hb dX5_layMinors_41 ?_
  refine lv_eqi (v := 23) (by decide) ?_
  refine lv_iconst (v := 1) hx hb dX5_layMinors_42 (by decide) ?_
  refine lv_iand hx hb dX5_layMinors_43 ?_
  refine lv_eqi (v := 1) (by decide) ?_
  refine lv_iadd hx hb dX5_layMinors_44 ?_
  refine lv_eqi (v := 0) (by decide) ?_
  refine lv_istore_n (lv' := [(2, .int 0), (3, .int 1), (0, .ref o), (1, .int 46)]) hx hb dX5_layMinors_45 rfl hl (by decide) rfl (fun ls hl => ?_)
  refine lv_iinc (v := 2) (lv' := [(3, .int 2), (2, .int 0), (0, .ref o), (1, .int 46)]) hx hb dX5_layMinors_46 hl (k := 1) rfl (by decide) (by decide) rfl (fun ls hl => ?_)
  refine lv_goto (tgt := 20) hx hb dX5_layMinors_49 (by decide) ?_
  refine lv_iload_n hx hb dX5_layMinors_20 rfl (lv_at hl 0 rfl) ?_
  refine lv_bipush (v := 6) hx hb dX5_layMinors_21 (by decide) ?_
  refine lv_icmp_ge (tgt := 52) hx hb dX5_layMinors_23 (by decide) (fun h => absurd h (by decide)) (fun _ => ?_)
  refine lv_iload_n hx hb dX5_layMinors_26 rfl (lv_at hl 1 rfl) ?_
  refine lv_ldc hx hb hown k_3 dX5_layMinors_27 ?_
  refine lv_icmp_ne (tgt := 36) hx hb dX5_layMinors_29 (by decide) (fun _ => ?_) (fun h => absurd h (by decide))
  refine lv_iload_n hx hb dX5_layMinors_36 rfl (lv_at hl 1 rfl) ?_
  refine lv_istore_n (lv' := [(2, .int 0), (3, .int 2), (0, .ref o), (1, .int 46)]) hx hb dX5_layMinors_37 rfl hl (by decide) rfl (fun ls hl => ?_)
  refine lv_iload_n hx hb dX5_layMinors_38 rfl (lv_at hl 0 rfl) ?_
  refine lv_iload_n hx hb dX5_layMinors_39 rfl (lv_at hl 3 rfl) ?_
  refine lv_iload_n hx hb dX5_layMinors_40 rfl (lv_at hl 1 rfl) ?_
  refine lv_ishr hx hb dX5_layMinors_41 ?_
  refine lv_eqi (v := 11) (by decide) ?_
  refine lv_iconst (v := 1) hx hb dX5_layMinors_42 (by decide) ?_
  refine lv_iand hx hb dX5_layMinors_43 ?_
  refine lv_eqi (v := 1) (by decide) ?_
  refine lv_iadd hx hb dX5_layMinors_44 ?_
  refine lv_eqi (v := 1) (by decide) ?_
  refine lv_istore_n (lv' := [(2, .int 1), (3, .int 2), (0, .ref o), (1, .int 46)]) hx hb dX5_layMinors_45 rfl hl (by decide) rfl (fun ls hl => ?_)
  refine lv_iinc (v := 3) (lv' := [(3, .int 3), (2, .int 1), (0, .ref o), (1, .int 46)]) hx hb dX5_layMinors_46 hl (k := 1) rfl (by decide) (by decide) rfl (fun ls hl => ?_)
  refine lv_goto (tgt := 20) hx hb dX5_layMinors_49 (by decide) ?_
  refine lv_iload_n hx hb dX5_layMinors_20 rfl (lv_at hl 0 rfl) ?_
  refine lv_bipush (v := 6) hx hb dX5_layMinors_21 (by decide) ?_
  refine lv_icmp_ge (tgt := 52) hx hb dX5_layMinors_23 (by decide) (fun h => absurd h (by decide)) (fun _ => ?_)
  refine lv_iload_n hx hb dX5_layMinors_26 rfl (lv_at hl 1 rfl) ?_
  refine lv_ldc hx hb hown k_3 dX5_layMinors_27 ?_
  refine lv_icmp_ne (tgt := 36) hx hb dX5_layMinors_29 (by decide) (fun _ => ?_) (fun h => absurd h (by decide))
  refine lv_iload_n hx hb dX5_layMinors_36 rfl (lv_at hl 1 rfl) ?_
  refine lv_istore_n (lv' := [(2, .int 1), (3, .int 3), (0, .ref o), (1, .int 46)]) hx hb dX5_layMinors_37 rfl hl (by decide) rfl (fun ls hl => ?_)
  refine lv_iload_n hx hb dX5_layMinors_38 rfl (lv_at hl 0 rfl) ?_
  refine lv_iload_n hx hb dX5_layMinors_39 rfl (lv_at hl 3 rfl) ?_
  refine lv_iload_n hx hb dX5_layMinors_40 rfl (lv_at hl 1 rfl) ?_
  refine lv_ishr hx hb dX5_layMinors_41 ?_
  refine lv_eqi (v := 5) (by decide) ?_
  refine lv_iconst (v := 1) hx hb dX5_layMinors_42 (by decide) ?_
  refine lv_iand hx hb dX5_layMinors_43 ?_
  refine lv_eqi (v := 1) (by decide) ?_
  refine lv_iadd hx hb dX5_layMinors_44 ?_
  refine lv_eqi (v := 2) (by decide) ?_
  refine lv_istore_n (lv' := [(2, .int 2), (3, .int 3), (0, .ref o), (1, .int 46)]) hx hb dX5_layMinors_45 rfl hl (by decide) rfl (fun ls hl => ?_)
  refine lv_iinc (v := 4) (lv' := [(3, .int 4), (2, .int 2), (0, .ref o), (1, .int 46)]) hx hb dX5_layMinors_46 hl (k := 1) rfl (by decide) (by decide) rfl (fun ls hl => ?_)
  refine lv_goto (tgt := 20) hx hb dX5_layMinors_49 (by decide) ?_
  refine lv_iload_n hx hb dX5_layMinors_20 rfl (lv_at hl 0 rfl) ?_
  refine lv_bipush (v := 6) hx hb dX5_layMinors_21 (by decide) ?_
  refine lv_icmp_ge (tgt := 52) hx hb dX5_layMinors_23 (by decide) (fun h => absurd h (by decide)) (fun _ => ?_)
  refine lv_iload_n hx hb dX5_layMinors_26 rfl (lv_at hl 1 rfl) ?_
  refine lv_ldc hx hb hown k_3 dX5_layMinors_27 ?_
  refine lv_icmp_ne (tgt := 36) hx hb dX5_layMinors_29 (by decide) (fun _ => ?_) (fun h => absurd h (by decide))
  refine lv_iload_n hx hb dX5_layMinors_36 rfl (lv_at hl 1 rfl) ?_
  refine lv_istore_n (lv' := [(2, .int 2), (3, .int 4), (0, .ref o), (1, .int 46)]) hx hb dX5_layMinors_37 rfl hl (by decide) rfl (fun ls hl => ?_)
  refine lv_iload_n hx hb dX5_layMinors_38 rfl (lv_at hl 0 rfl) ?_
  refine lv_iload_n hx hb dX5_layMinors_39 rfl (lv_at hl 3 rfl) ?_
  refine lv_iload_n hx hb dX5_layMinors_40 rfl (lv_at hl 1 rfl) ?_
  refine lv_ishr hx hb dX5_layMinors_41 ?_
  refine lv_eqi (v := 2) (by decide) ?_
  refine lv_iconst (v := 1) hx hb dX5_layMinors_42 (by decide) ?_
  refine lv_iand hx hb dX5_layMinors_43 ?_
  refine lv_eqi (v := 0) (by decide) ?_
  refine lv_iadd hx hb dX5_layMinors_44 ?_
  refine lv_eqi (v := 2) (by decide) ?_
  refine lv_istore_n (lv' := [(2, .int 2), (3, .int 4), (0, .ref o), (1, .int 46)]) hx hb dX5_layMinors_45 rfl hl (by decide) rfl (fun ls hl => ?_)
  refine lv_iinc (v := 5) (lv' := [(3, .int 5), (2, .int 2), (0, .ref o), (1, .int 46)]) hx hb dX5_layMinors_46 hl (k := 1) rfl (by decide) (by decide) rfl (fun ls hl => ?_)
  refine lv_goto (tgt := 20) hx hb dX5_layMinors_49 (by decide) ?_
  refine lv_iload_n hx hb dX5_layMinors_20 rfl (lv_at hl 0 rfl) ?_
  refine lv_bipush (v := 6) hx hb dX5_layMinors_21 (by decide) ?_
  refine lv_icmp_ge (tgt := 52) hx hb dX5_layMinors_23 (by decide) (fun h => absurd h (by decide)) (fun _ => ?_)
  refine lv_iload_n hx hb dX5_layMinors_26 rfl (lv_at hl 1 rfl) ?_
  refine lv_ldc hx hb hown k_3 dX5_layMinors_27 ?_
  refine lv_icmp_ne (tgt := 36) hx hb dX5_layMinors_29 (by decide) (fun _ => ?_) (fun h => absurd h (by decide))
  refine lv_iload_n hx hb dX5_layMinors_36 rfl (lv_at hl 1 rfl) ?_
  refine lv_istore_n (lv' := [(2, .int 2), (3, .int 5), (0, .ref o), (1, .int 46)]) hx hb dX5_layMinors_37 rfl hl (by decide) rfl (fun ls hl => ?_)
  refine lv_iload_n hx hb dX5_layMinors_38 rfl (lv_at hl 0 rfl) ?_
  refine lv_iload_n hx hb dX5_layMinors_39 rfl (lv_at hl 3 rfl) ?_
  refine lv_iload_n hx hb dX5_layMinors_40 rfl (lv_at hl 1 rfl) ?_
  refine lv_ishr hx hb dX5_layMinors_41 ?_
  refine lv_eqi (v := 1) (by decide) ?_
  refine lv_iconst (v := 1) hx hb dX5_layMinors_42 (by decide) ?_
  refine lv_iand hx hb dX5_layMinors_43 ?_
  refine lv_eqi (v := 1) (by decide) ?_
  refine lv_iadd hx hb dX5_layMinors_44 ?_
  refine lv_eqi (v := 3) (by decide) ?_
  refine lv_istore_n (lv' := [(2, .int 3), (3, .int 5), (0, .ref o), (1, .int 46)]) hx hb dX5_layMinors_45 rfl hl (by decide) rfl (fun ls hl => ?_)
  refine lv_iinc (v := 6) (lv' := [(3, .int 6), (2, .int 3), (0, .ref o), (1, .int 46)]) hx hb dX5_layMinors_46 hl (k := 1) rfl (by decide) (by decide) rfl (fun ls hl => ?_)
  refine lv_goto (tgt := 20) hx hb dX5_layMinors_49 (by decide) ?_
  refine lv_iload_n hx hb dX5_layMinors_20 rfl (lv_at hl 0 rfl) ?_
  refine lv_bipush (v := 6) hx hb dX5_layMinors_21 (by decide) ?_
  refine lv_icmp_ge (tgt := 52) hx hb dX5_layMinors_23 (by decide) (fun _ => ?_) (fun h => absurd (by decide) h)
  refine lv_lconst (v := 0) hx hb dX5_layMinors_52 (by decide) ?_
  refine lv_lstore_n (lv' := [(3, .long 0), (2, .int 3), (0, .ref o), (1, .int 46)]) hx hb dX5_layMinors_53 rfl hl (by decide) rfl (fun ls hl => ?_)
  refine lv_iload_n hx hb dX5_layMinors_54 rfl (lv_at hl 1 rfl) ?_
  refine lv_istore (lv' := [(5, .int 3), (3, .long 0), (2, .int 3), (0, .ref o), (1, .int 46)]) hx hb dX5_layMinors_55 hl (by decide) rfl (fun ls hl => ?_)
  refine lv_iconst (v := 0) hx hb dX5_layMinors_57 (by decide) ?_
  refine lv_istore (lv' := [(6, .int 0), (5, .int 3), (3, .long 0), (2, .int 3), (0, .ref o), (1, .int 46)]) hx hb dX5_layMinors_58 hl (by decide) rfl (fun ls hl => ?_)
  refine lv_iload hx hb dX5_layMinors_60 (lv_at hl 0 rfl) ?_
  refine lv_bipush (v := 6) hx hb dX5_layMinors_62 (by decide) ?_
  refine lv_icmp_ge (tgt := 135) hx hb dX5_layMinors_64 (by decide) (fun h => absurd h (by decide)) (fun _ => ?_)
  refine lv_iload_n hx hb dX5_layMinors_67 rfl (lv_at hl 3 rfl) ?_
  refine lv_iconst (v := 5) hx hb dX5_layMinors_68 (by decide) ?_
  refine lv_icmp_ge (tgt := 135) hx hb dX5_layMinors_69 (by decide) (fun h => absurd h (by decide)) (fun _ => ?_)
  refine lv_iload_n hx hb dX5_layMinors_72 rfl (lv_at hl 5 rfl) ?_
  refine lv_iload hx hb dX5_layMinors_73 (lv_at hl 0 rfl) ?_
  refine lv_ishr hx hb dX5_layMinors_75 ?_
  refine lv_eqi (v := 46) (by decide) ?_
  refine lv_iconst (v := 1) hx hb dX5_layMinors_76 (by decide) ?_
  refine lv_iand hx hb dX5_layMinors_77 ?_
  refine lv_eqi (v := 0) (by decide) ?_
  refine lv_iconst (v := 1) hx hb dX5_layMinors_78 (by decide) ?_
  refine lv_icmp_ne (tgt := 129) hx hb dX5_layMinors_79 (by decide) (fun _ => ?_) (fun h => absurd h (by decide))
  refine lv_iinc (v := 1) (lv' := [(6, .int 1), (5, .int 3), (3, .long 0), (2, .int 3), (0, .ref o), (1, .int 46)]) hx hb dX5_layMinors_129 hl (k := 0) rfl (by decide) (by decide) rfl (fun ls hl => ?_)
  refine lv_goto (tgt := 60) hx hb dX5_layMinors_132 (by decide) ?_
  refine lv_iload hx hb dX5_layMinors_60 (lv_at hl 0 rfl) ?_
  refine lv_bipush (v := 6) hx hb dX5_layMinors_62 (by decide) ?_
  refine lv_icmp_ge (tgt := 135) hx hb dX5_layMinors_64 (by decide) (fun h => absurd h (by decide)) (fun _ => ?_)
  refine lv_iload_n hx hb dX5_layMinors_67 rfl (lv_at hl 3 rfl) ?_
  refine lv_iconst (v := 5) hx hb dX5_layMinors_68 (by decide) ?_
  refine lv_icmp_ge (tgt := 135) hx hb dX5_layMinors_69 (by decide) (fun h => absurd h (by decide)) (fun _ => ?_)
  refine lv_iload_n hx hb dX5_layMinors_72 rfl (lv_at hl 5 rfl) ?_
  refine lv_iload hx hb dX5_layMinors_73 (lv_at hl 0 rfl) ?_
  refine lv_ishr hx hb dX5_layMinors_75 ?_
  refine lv_eqi (v := 23) (by decide) ?_
  refine lv_iconst (v := 1) hx hb dX5_layMinors_76 (by decide) ?_
  refine lv_iand hx hb dX5_layMinors_77 ?_
  refine lv_eqi (v := 1) (by decide) ?_
  refine lv_iconst (v := 1) hx hb dX5_layMinors_78 (by decide) ?_
  refine lv_icmp_ne (tgt := 129) hx hb dX5_layMinors_79 (by decide) (fun h => absurd (by decide) h) (fun _ => ?_)
  refine lv_aload_n hx hb dX5_layMinors_82 rfl (lv_at hl 4 rfl) ?_
  refine va_get (D := D) (ci := 5) (v := .ref mR) (C := RX5) (T := TX5) (N := 17) hx hb hts k_2 hown hK.1 hP 0 rfl rfl 5 (by decide) k_4 (fun _ h9 => h9) rfl dX5_layMinors_83 ?_
  refine lv_bipush (v := 6) hx hb dX5_layMinors_86 (by decide) ?_
  refine lv_iload_n hx hb dX5_layMinors_88 rfl (lv_at hl 3 rfl) ?_
  refine lv_imul hx hb dX5_layMinors_89 ?_
  refine lv_eqi (v := 18) (by decide) ?_
  refine lv_iload hx hb dX5_layMinors_90 (lv_at hl 0 rfl) ?_
  refine lv_iadd hx hb dX5_layMinors_92 ?_
  refine lv_eqi (v := 19) (by decide) ?_
  refine ld_l hx hb hK.1 hP 1 1 rfl rfl (ix_lit (by decide)) 19 (by decide) (v := fr 19) rfl dX5_layMinors_93 ?_
  refine lv_aload_n hx hb dX5_layMinors_94 rfl (lv_at hl 4 rfl) ?_
  refine va_get (D := D) (ci := 5) (v := .ref mD) (C := RX5) (T := TX5) (N := 17) hx hb hts k_2 hown hK.1 hP 0 rfl rfl 6 (by decide) k_1 (fun _ h9 => h9) rfl dX5_layMinors_95 ?_
  refine lv_iload_n hx hb dX5_layMinors_98 rfl (lv_at hl 5 rfl) ?_
  refine lv_iconst (v := 1) hx hb dX5_layMinors_99 (by decide) ?_
  refine lv_iload hx hb dX5_layMinors_100 (lv_at hl 0 rfl) ?_
  refine lv_ishl hx hb dX5_layMinors_102 ?_
  refine lv_eqi (v := 2) (by decide) ?_
  refine lv_isub hx hb dX5_layMinors_103 ?_
  refine lv_eqi (v := 44) (by decide) ?_
  refine ld_l hx hb hK.1 hP 2 1 rfl rfl (ix_lit (by decide)) 44 (by decide) (v := z5_mw44 fr) rfl dX5_layMinors_104 ?_
  refine lv_lmul hx hb dX5_layMinors_105 ?_
  refine lv_lstore (lv' := [(7, .long ((fr 19) * (z5_mw44 fr))), (6, .int 1), (5, .int 3), (3, .long 0), (2, .int 3), (0, .ref o), (1, .int 46)]) hx hb dX5_layMinors_106 hl (by decide) rfl (fun ls hl => ?_)
  refine lv_lload_n hx hb dX5_layMinors_108 rfl (lv_at hl 3 rfl) ?_
  refine lv_iload hx hb dX5_layMinors_109 (lv_at hl 2 rfl) ?_
  refine lv_iconst (v := 2) hx hb dX5_layMinors_111 (by decide) ?_
  refine lv_irem hx hb dX5_layMinors_112 (by decide) ?_
  refine lv_eqi (v := 1) (by decide) ?_
  refine lv_if_ne (tgt := 121) hx hb dX5_layMinors_113 (by decide) (fun _ => ?_) (fun h => absurd h (by decide))
  refine lv_lload hx hb dX5_layMinors_121 (lv_at hl 0 rfl) ?_
  refine lv_lneg hx hb dX5_layMinors_123 ?_
  refine lv_ladd hx hb dX5_layMinors_124 ?_
  refine lv_lstore_n (lv' := [(3, .long (0 + (-((fr 19) * (z5_mw44 fr))))), (7, .long ((fr 19) * (z5_mw44 fr))), (6, .int 1), (5, .int 3), (2, .int 3), (0, .ref o), (1, .int 46)]) hx hb dX5_layMinors_125 rfl hl (by decide) rfl (fun ls hl => ?_)
  refine lv_iinc (v := 2) (lv' := [(5, .int 2), (3, .long (0 + (-((fr 19) * (z5_mw44 fr))))), (7, .long ((fr 19) * (z5_mw44 fr))), (6, .int 1), (2, .int 3), (0, .ref o), (1, .int 46)]) hx hb dX5_layMinors_126 hl (k := 3) rfl (by decide) (by decide) rfl (fun ls hl => ?_)
  refine lv_iinc (v := 2) (lv' := [(6, .int 2), (5, .int 2), (3, .long (0 + (-((fr 19) * (z5_mw44 fr))))), (7, .long ((fr 19) * (z5_mw44 fr))), (2, .int 3), (0, .ref o), (1, .int 46)]) hx hb dX5_layMinors_129 hl (k := 3) rfl (by decide) (by decide) rfl (fun ls hl => ?_)
  refine lv_goto (tgt := 60) hx hb dX5_layMinors_132 (by decide) ?_
  refine lv_iload hx hb dX5_layMinors_60 (lv_at hl 0 rfl) ?_
  refine lv_bipush (v := 6) hx hb dX5_layMinors_62 (by decide) ?_
  refine lv_icmp_ge (tgt := 135) hx hb dX5_layMinors_64 (by decide) (fun h => absurd h (by decide)) (fun _ => ?_)
  refine lv_iload_n hx hb dX5_layMinors_67 rfl (lv_at hl 4 rfl) ?_
  refine lv_iconst (v := 5) hx hb dX5_layMinors_68 (by decide) ?_
  refine lv_icmp_ge (tgt := 135) hx hb dX5_layMinors_69 (by decide) (fun h => absurd h (by decide)) (fun _ => ?_)
  refine lv_iload_n hx hb dX5_layMinors_72 rfl (lv_at hl 6 rfl) ?_
  refine lv_iload hx hb dX5_layMinors_73 (lv_at hl 0 rfl) ?_
  refine lv_ishr hx hb dX5_layMinors_75 ?_
  refine lv_eqi (v := 11) (by decide) ?_
  refine lv_iconst (v := 1) hx hb dX5_layMinors_76 (by decide) ?_
  refine lv_iand hx hb dX5_layMinors_77 ?_
  refine lv_eqi (v := 1) (by decide) ?_
  refine lv_iconst (v := 1) hx hb dX5_layMinors_78 (by decide) ?_
  refine lv_icmp_ne (tgt := 129) hx hb dX5_layMinors_79 (by decide) (fun h => absurd (by decide) h) (fun _ => ?_)
  refine lv_aload_n hx hb dX5_layMinors_82 rfl (lv_at hl 5 rfl) ?_
  refine va_get (D := D) (ci := 5) (v := .ref mR) (C := RX5) (T := TX5) (N := 17) hx hb hts k_2 hown hK.1 hP 0 rfl rfl 5 (by decide) k_4 (fun _ h9 => h9) rfl dX5_layMinors_83 ?_
  refine lv_bipush (v := 6) hx hb dX5_layMinors_86 (by decide) ?_
  refine lv_iload_n hx hb dX5_layMinors_88 rfl (lv_at hl 4 rfl) ?_
  refine lv_imul hx hb dX5_layMinors_89 ?_
  refine lv_eqi (v := 18) (by decide) ?_
  refine lv_iload hx hb dX5_layMinors_90 (lv_at hl 0 rfl) ?_
  refine lv_iadd hx hb dX5_layMinors_92 ?_
  refine lv_eqi (v := 20) (by decide) ?_
  refine ld_l hx hb hK.1 hP 1 1 rfl rfl (ix_lit (by decide)) 20 (by decide) (v := fr 20) rfl dX5_layMinors_93 ?_
  refine lv_aload_n hx hb dX5_layMinors_94 rfl (lv_at hl 5 rfl) ?_
  refine va_get (D := D) (ci := 5) (v := .ref mD) (C := RX5) (T := TX5) (N := 17) hx hb hts k_2 hown hK.1 hP 0 rfl rfl 6 (by decide) k_1 (fun _ h9 => h9) rfl dX5_layMinors_95 ?_
  refine lv_iload_n hx hb dX5_layMinors_98 rfl (lv_at hl 6 rfl) ?_
  refine lv_iconst (v := 1) hx hb dX5_layMinors_99 (by decide) ?_
  refine lv_iload hx hb dX5_layMinors_100 (lv_at hl 0 rfl) ?_
  refine lv_ishl hx hb dX5_layMinors_102 ?_
  refine lv_eqi (v := 4) (by decide) ?_
  refine lv_isub hx hb dX5_layMinors_103 ?_
  refine lv_eqi (v := 42) (by decide) ?_
  refine ld_l hx hb hK.1 hP 2 1 rfl rfl (ix_lit (by decide)) 42 (by decide) (v := z5_mw42 fr) rfl dX5_layMinors_104 ?_
  refine lv_lmul hx hb dX5_layMinors_105 ?_
  refine lv_lstore (lv' := [(7, .long ((fr 20) * (z5_mw42 fr))), (6, .int 2), (5, .int 2), (3, .long (0 + (-((fr 19) * (z5_mw44 fr))))), (2, .int 3), (0, .ref o), (1, .int 46)]) hx hb dX5_layMinors_106 hl (by decide) rfl (fun ls hl => ?_)
  refine lv_lload_n hx hb dX5_layMinors_108 rfl (lv_at hl 3 rfl) ?_
  refine lv_iload hx hb dX5_layMinors_109 (lv_at hl 2 rfl) ?_
  refine lv_iconst (v := 2) hx hb dX5_layMinors_111 (by decide) ?_
  refine lv_irem hx hb dX5_layMinors_112 (by decide) ?_
  refine lv_eqi (v := 0) (by decide) ?_
  refine lv_if_ne (tgt := 121) hx hb dX5_layMinors_113 (by decide) (fun h => absurd (by decide) h) (fun _ => ?_)
  refine lv_lload hx hb dX5_layMinors_116 (lv_at hl 0 rfl) ?_
  refine lv_goto (tgt := 124) hx hb dX5_layMinors_118 (by decide) ?_
  refine lv_ladd hx hb dX5_layMinors_124 ?_
  refine lv_lstore_n (lv' := [(3, .long ((0 + (-((fr 19) * (z5_mw44 fr)))) + ((fr 20) * (z5_mw42 fr)))), (7, .long ((fr 20) * (z5_mw42 fr))), (6, .int 2), (5, .int 2), (2, .int 3), (0, .ref o), (1, .int 46)]) hx hb dX5_layMinors_125 rfl hl (by decide) rfl (fun ls hl => ?_)
  refine lv_iinc (v := 1) (lv' := [(5, .int 1), (3, .long ((0 + (-((fr 19) * (z5_mw44 fr)))) + ((fr 20) * (z5_mw42 fr)))), (7, .long ((fr 20) * (z5_mw42 fr))), (6, .int 2), (2, .int 3), (0, .ref o), (1, .int 46)]) hx hb dX5_layMinors_126 hl (k := 3) rfl (by decide) (by decide) rfl (fun ls hl => ?_)
  refine lv_iinc (v := 3) (lv' := [(6, .int 3), (5, .int 1), (3, .long ((0 + (-((fr 19) * (z5_mw44 fr)))) + ((fr 20) * (z5_mw42 fr)))), (7, .long ((fr 20) * (z5_mw42 fr))), (2, .int 3), (0, .ref o), (1, .int 46)]) hx hb dX5_layMinors_129 hl (k := 3) rfl (by decide) (by decide) rfl (fun ls hl => ?_)
  refine lv_goto (tgt := 60) hx hb dX5_layMinors_132 (by decide) ?_
  refine lv_iload hx hb dX5_layMinors_60 (lv_at hl 0 rfl) ?_
  refine lv_bipush (v := 6) hx hb dX5_layMinors_62 (by decide) ?_
  refine lv_icmp_ge (tgt := 135) hx hb dX5_layMinors_64 (by decide) (fun h => absurd h (by decide)) (fun _ => ?_)
  refine lv_iload_n hx hb dX5_layMinors_67 rfl (lv_at hl 4 rfl) ?_
  refine lv_iconst (v := 5) hx hb dX5_layMinors_68 (by decide) ?_
  refine lv_icmp_ge (tgt := 135) hx hb dX5_layMinors_69 (by decide) (fun h => absurd h (by decide)) (fun _ => ?_)
  refine lv_iload_n hx hb dX5_layMinors_72 rfl (lv_at hl 6 rfl) ?_
  refine lv_iload hx hb dX5_layMinors_73 (lv_at hl 0 rfl) ?_
  refine lv_ishr hx hb dX5_layMinors_75 ?_
  refine lv_eqi (v := 5) (by decide) ?_
  refine lv_iconst (v := 1) hx hb dX5_layMinors_76 (by decide) ?_
  refine lv_iand hx hb dX5_layMinors_77 ?_
  refine lv_eqi (v := 1) (by decide) ?_
  refine lv_iconst (v := 1) hx hb dX5_layMinors_78 (by decide) ?_
  refine lv_icmp_ne (tgt := 129) hx hb dX5_layMinors_79 (by decide) (fun h => absurd (by decide) h) (fun _ => ?_)
  refine lv_aload_n hx hb dX5_layMinors_82 rfl (lv_at hl 5 rfl) ?_
  refine va_get (D := D) (ci := 5) (v := .ref mR) (C := RX5) (T := TX5) (N := 17) hx hb hts k_2 hown hK.1 hP 0 rfl rfl 5 (by decide) k_4 (fun _ h9 => h9) rfl dX5_layMinors_83 ?_
  refine lv_bipush (v := 6) hx hb dX5_layMinors_86 (by decide) ?_
  refine lv_iload_n hx hb dX5_layMinors_88 rfl (lv_at hl 4 rfl) ?_
  refine lv_imul hx hb dX5_layMinors_89 ?_
  refine lv_eqi (v := 18) (by decide) ?_
  refine lv_iload hx hb dX5_layMinors_90 (lv_at hl 0 rfl) ?_
  refine lv_iadd hx hb dX5_layMinors_92 ?_
  refine lv_eqi (v := 21) (by decide) ?_
  refine ld_l hx hb hK.1 hP 1 1 rfl rfl (ix_lit (by decide)) 21 (by decide) (v := fr 21) rfl dX5_layMinors_93 ?_
  refine lv_aload_n hx hb dX5_layMinors_94 rfl (lv_at hl 5 rfl) ?_
  refine va_get (D := D) (ci := 5) (v := .ref mD) (C := RX5) (T := TX5) (N := 17) hx hb hts k_2 hown hK.1 hP 0 rfl rfl 6 (by decide) k_1 (fun _ h9 => h9) rfl dX5_layMinors_95 ?_
  refine lv_iload_n hx hb dX5_layMinors_98 rfl (lv_at hl 6 rfl) ?_
  refine lv_iconst (v := 1) hx hb dX5_layMinors_99 (by decide) ?_
  refine lv_iload hx hb dX5_layMinors_100 (lv_at hl 0 rfl) ?_
  refine lv_ishl hx hb dX5_layMinors_102 ?_
  refine lv_eqi (v := 8) (by decide) ?_
  refine lv_isub hx hb dX5_layMinors_103 ?_
  refine lv_eqi (v := 38) (by decide) ?_
  refine ld_l hx hb hK.1 hP 2 1 rfl rfl (ix_lit (by decide)) 38 (by decide) (v := z5_mw38 fr) rfl dX5_layMinors_104 ?_
  refine lv_lmul hx hb dX5_layMinors_105 ?_
  refine lv_lstore (lv' := [(7, .long ((fr 21) * (z5_mw38 fr))), (6, .int 3), (5, .int 1), (3, .long ((0 + (-((fr 19) * (z5_mw44 fr)))) + ((fr 20) * (z5_mw42 fr)))), (2, .int 3), (0, .ref o), (1, .int 46)]) hx hb dX5_layMinors_106 hl (by decide) rfl (fun ls hl => ?_)
  refine lv_lload_n hx hb dX5_layMinors_108 rfl (lv_at hl 3 rfl) ?_
  refine lv_iload hx hb dX5_layMinors_109 (lv_at hl 2 rfl) ?_
  refine lv_iconst (v := 2) hx hb dX5_layMinors_111 (by decide) ?_
  refine lv_irem hx hb dX5_layMinors_112 (by decide) ?_
  refine lv_eqi (v := 1) (by decide) ?_
  refine lv_if_ne (tgt := 121) hx hb dX5_layMinors_113 (by decide) (fun _ => ?_) (fun h => absurd h (by decide))
  refine lv_lload hx hb dX5_layMinors_121 (lv_at hl 0 rfl) ?_
  refine lv_lneg hx hb dX5_layMinors_123 ?_
  refine lv_ladd hx hb dX5_layMinors_124 ?_
  refine lv_lstore_n (lv' := [(3, .long (((0 + (-((fr 19) * (z5_mw44 fr)))) + ((fr 20) * (z5_mw42 fr))) + (-((fr 21) * (z5_mw38 fr))))), (7, .long ((fr 21) * (z5_mw38 fr))), (6, .int 3), (5, .int 1), (2, .int 3), (0, .ref o), (1, .int 46)]) hx hb dX5_layMinors_125 rfl hl (by decide) rfl (fun ls hl => ?_)
  refine lv_iinc (v := 0) (lv' := [(5, .int 0), (3, .long (((0 + (-((fr 19) * (z5_mw44 fr)))) + ((fr 20) * (z5_mw42 fr))) + (-((fr 21) * (z5_mw38 fr))))), (7, .long ((fr 21) * (z5_mw38 fr))), (6, .int 3), (2, .int 3), (0, .ref o), (1, .int 46)]) hx hb dX5_layMinors_126 hl (k := 3) rfl (by decide) (by decide) rfl (fun ls hl => ?_)
  refine lv_iinc (v := 4) (lv' := [(6, .int 4), (5, .int 0), (3, .long (((0 + (-((fr 19) * (z5_mw44 fr)))) + ((fr 20) * (z5_mw42 fr))) + (-((fr 21) * (z5_mw38 fr))))), (7, .long ((fr 21) * (z5_mw38 fr))), (2, .int 3), (0, .ref o), (1, .int 46)]) hx hb dX5_layMinors_129 hl (k := 3) rfl (by decide) (by decide) rfl (fun ls hl => ?_)
  refine lv_goto (tgt := 60) hx hb dX5_layMinors_132 (by decide) ?_
  refine lv_iload hx hb dX5_layMinors_60 (lv_at hl 0 rfl) ?_
  refine lv_bipush (v := 6) hx hb dX5_layMinors_62 (by decide) ?_
  refine lv_icmp_ge (tgt := 135) hx hb dX5_layMinors_64 (by decide) (fun h => absurd h (by decide)) (fun _ => ?_)
  refine lv_iload_n hx hb dX5_layMinors_67 rfl (lv_at hl 4 rfl) ?_
  refine lv_iconst (v := 5) hx hb dX5_layMinors_68 (by decide) ?_
  refine lv_icmp_ge (tgt := 135) hx hb dX5_layMinors_69 (by decide) (fun h => absurd h (by decide)) (fun _ => ?_)
  refine lv_iload_n hx hb dX5_layMinors_72 rfl (lv_at hl 6 rfl) ?_
  refine lv_iload hx hb dX5_layMinors_73 (lv_at hl 0 rfl) ?_
  refine lv_ishr hx hb dX5_layMinors_75 ?_
  refine lv_eqi (v := 2) (by decide) ?_
  refine lv_iconst (v := 1) hx hb dX5_layMinors_76 (by decide) ?_
  refine lv_iand hx hb dX5_layMinors_77 ?_
  refine lv_eqi (v := 0) (by decide) ?_
  refine lv_iconst (v := 1) hx hb dX5_layMinors_78 (by decide) ?_
  refine lv_icmp_ne (tgt := 129) hx hb dX5_layMinors_79 (by decide) (fun _ => ?_) (fun h => absurd h (by decide))
  refine lv_iinc (v := 5) (lv' := [(6, .int 5), (5, .int 0), (3, .long (((0 + (-((fr 19) * (z5_mw44 fr)))) + ((fr 20) * (z5_mw42 fr))) + (-((fr 21) * (z5_mw38 fr))))), (7, .long ((fr 21) * (z5_mw38 fr))), (2, .int 3), (0, .ref o), (1, .int 46)]) hx hb dX5_layMinors_129 hl (k := 0) rfl (by decide) (by decide) rfl (fun ls hl => ?_)
  refine lv_goto (tgt := 60) hx hb dX5_layMinors_132 (by decide) ?_
  refine lv_iload hx hb dX5_layMinors_60 (lv_at hl 0 rfl) ?_
  refine lv_bipush (v := 6) hx hb dX5_layMinors_62 (by decide) ?_
  refine lv_icmp_ge (tgt := 135) hx hb dX5_layMinors_64 (by decide) (fun h => absurd h (by decide)) (fun _ => ?_)
  refine lv_iload_n hx hb dX5_layMinors_67 rfl (lv_at hl 4 rfl) ?_
  refine lv_iconst (v := 5) hx hb dX5_layMinors_68 (by decide) ?_
  refine lv_icmp_ge (tgt := 135) hx hb dX5_layMinors_69 (by decide) (fun h => absurd h (by decide)) (fun _ => ?_)
  refine lv_iload_n hx hb dX5_layMinors_72 rfl (lv_at hl 6 rfl) ?_
  refine lv_iload hx hb dX5_layMinors_73 (lv_at hl 0 rfl) ?_
  refine lv_ishr hx hb dX5_layMinors_75 ?_
  refine lv_eqi (v := 1) (by decide) ?_
  refine lv_iconst (v := 1) hx hb dX5_layMinors_76 (by decide) ?_
  refine lv_iand hx hb dX5_layMinors_77 ?_
  refine lv_eqi (v := 1) (by decide) ?_
  refine lv_iconst (v := 1) hx hb dX5_layMinors_78 (by decide) ?_
  refine lv_icmp_ne (tgt := 129) hx hb dX5_layMinors_79 (by decide) (fun h => absurd (by decide) h) (fun _ => ?_)
  refine lv_aload_n hx hb dX5_layMinors_82 rfl (lv_at hl 5 rfl) ?_
  refine va_get (D := D) (ci := 5) (v := .ref mR) (C := RX5) (T := TX5) (N := 17) hx hb hts k_2 hown hK.1 hP 0 rfl rfl 5 (by decide) k_4 (fun _ h9 => h9) rfl dX5_layMinors_83 ?_
  refine lv_bipush (v := 6) hx hb dX5_layMinors_86 (by decide) ?_
  refine lv_iload_n hx hb dX5_layMinors_88 rfl (lv_at hl 4 rfl) ?_
  refine lv_imul hx hb dX5_layMinors_89 ?_
  refine lv_eqi (v := 18) (by decide) ?_
  refine lv_iload hx hb dX5_layMinors_90 (lv_at hl 0 rfl) ?_
  refine lv_iadd hx hb dX5_layMinors_92 ?_
  refine lv_eqi (v := 23) (by decide) ?_
  refine ld_l hx hb hK.1 hP 1 1 rfl rfl (ix_lit (by decide)) 23 (by decide) (v := fr 23) rfl dX5_layMinors_93 ?_
  refine lv_aload_n hx hb dX5_layMinors_94 rfl (lv_at hl 5 rfl) ?_
  refine va_get (D := D) (ci := 5) (v := .ref mD) (C := RX5) (T := TX5) (N := 17) hx hb hts k_2 hown hK.1 hP 0 rfl rfl 6 (by decide) k_1 (fun _ h9 => h9) rfl dX5_layMinors_95 ?_
  refine lv_iload_n hx hb dX5_layMinors_98 rfl (lv_at hl 6 rfl) ?_
  refine lv_iconst (v := 1) hx hb dX5_layMinors_99 (by decide) ?_
  refine lv_iload hx hb dX5_layMinors_100 (lv_at hl 0 rfl) ?_
  refine lv_ishl hx hb dX5_layMinors_102 ?_
  refine lv_eqi (v := 32) (by decide) ?_
  refine lv_isub hx hb dX5_layMinors_103 ?_
  refine lv_eqi (v := 14) (by decide) ?_
  refine ld_l hx hb hK.1 hP 2 1 rfl rfl (ix_lit (by decide)) 14 (by decide) (v := z5_mw14 fr) rfl dX5_layMinors_104 ?_
  refine lv_lmul hx hb dX5_layMinors_105 ?_
  refine lv_lstore (lv' := [(7, .long ((fr 23) * (z5_mw14 fr))), (6, .int 5), (5, .int 0), (3, .long (((0 + (-((fr 19) * (z5_mw44 fr)))) + ((fr 20) * (z5_mw42 fr))) + (-((fr 21) * (z5_mw38 fr))))), (2, .int 3), (0, .ref o), (1, .int 46)]) hx hb dX5_layMinors_106 hl (by decide) rfl (fun ls hl => ?_)
  refine lv_lload_n hx hb dX5_layMinors_108 rfl (lv_at hl 3 rfl) ?_
  refine lv_iload hx hb dX5_layMinors_109 (lv_at hl 2 rfl) ?_
  refine lv_iconst (v := 2) hx hb dX5_layMinors_111 (by decide) ?_
  refine lv_irem hx hb dX5_layMinors_112 (by decide) ?_
  refine lv_eqi (v := 0) (by decide) ?_
  refine lv_if_ne (tgt := 121) hx hb dX5_layMinors_113 (by decide) (fun h => absurd (by decide) h) (fun _ => ?_)
  refine lv_lload hx hb dX5_layMinors_116 (lv_at hl 0 rfl) ?_
  refine lv_goto (tgt := 124) hx hb dX5_layMinors_118 (by decide) ?_
  refine lv_ladd hx hb dX5_layMinors_124 ?_
  refine lv_lstore_n (lv' := [(3, .long ((((0 + (-((fr 19) * (z5_mw44 fr)))) + ((fr 20) * (z5_mw42 fr))) + (-((fr 21) * (z5_mw38 fr)))) + ((fr 23) * (z5_mw14 fr)))), (7, .long ((fr 23) * (z5_mw14 fr))), (6, .int 5), (5, .int 0), (2, .int 3), (0, .ref o), (1, .int 46)]) hx hb dX5_layMinors_125 rfl hl (by decide) rfl (fun ls hl => ?_)
  refine lv_iinc (v := (-1)) (lv' := [(5, .int (-1)), (3, .long ((((0 + (-((fr 19) * (z5_mw44 fr)))) + ((fr 20) * (z5_mw42 fr))) + (-((fr 21) * (z5_mw38 fr)))) + ((fr 23) * (z5_mw14 fr)))), (7, .long ((fr 23) * (z5_mw14 fr))), (6, .int 5), (2, .int 3), (0, .ref o), (1, .int 46)]) hx hb dX5_layMinors_126 hl (k := 3) rfl (by decide) (by decide) rfl (fun ls hl => ?_)
  refine lv_iinc (v := 6) (lv' := [(6, .int 6), (5, .int (-1)), (3, .long ((((0 + (-((fr 19) * (z5_mw44 fr)))) + ((fr 20) * (z5_mw42 fr))) + (-((fr 21) * (z5_mw38 fr)))) + ((fr 23) * (z5_mw14 fr)))), (7, .long ((fr 23) * (z5_mw14 fr))), (2, .int 3), (0, .ref o), (1, .int 46)]) hx hb dX5_layMinors_129 hl (k := 3) rfl (by decide) (by decide) rfl (fun ls hl => ?_)
  refine lv_goto (tgt := 60) hx hb dX5_layMinors_132 (by decide) ?_
  refine lv_iload hx hb dX5_layMinors_60 (lv_at hl 0 rfl) ?_
  refine lv_bipush (v := 6) hx hb dX5_layMinors_62 (by decide) ?_
  refine lv_icmp_ge (tgt := 135) hx hb dX5_layMinors_64 (by decide) (fun _ => ?_) (fun h => absurd (by decide) h)
  refine lv_aload_n hx hb dX5_layMinors_135 rfl (lv_at hl 5 rfl) ?_
  refine va_get (D := D) (ci := 5) (v := .ref mD) (C := RX5) (T := TX5) (N := 17) hx hb hts k_2 hown hK.1 hP 0 rfl rfl 6 (by decide) k_1 (fun _ h9 => h9) rfl dX5_layMinors_136 ?_
  refine lv_iload_n hx hb dX5_layMinors_139 rfl (lv_at hl 6 rfl) ?_
  refine lv_lload_n hx hb dX5_layMinors_140 rfl (lv_at hl 2 rfl) ?_
  refine st_l hx hb hK.1 hP hD hS 2 1 rfl rfl (ix_lit (by decide)) 46 (by decide) dX5_layMinors_141 (fun H locs hP hD hS => ?_)
  have hP : va_P D vwCl [kM o mP mL mC mN mF mR mD mV mX mA mK cm mT pm mU mH mI, kJ mR cJ 30 fr, kJ mD cJ 64 (vp_updL (z5_mm46 fr fd) 46 ((((0 + (-((fr 19) * (z5_mw44 fr)))) + ((fr 20) * (z5_mw42 fr))) + (-((fr 21) * (z5_mw38 fr)))) + ((fr 23) * (z5_mw14 fr))))] H := hP
  have hD : va_D A [kM o mP mL mC mN mF mR mD mV mX mA mK cm mT pm mU mH mI, kJ mR cJ 30 fr, kJ mD cJ 64 (vp_updL (z5_mm46 fr fd) 46 ((((0 + (-((fr 19) * (z5_mw44 fr)))) + ((fr 20) * (z5_mw42 fr))) + (-((fr 21) * (z5_mw38 fr)))) + ((fr 23) * (z5_mw14 fr))))] := hD
  have hP : va_P D vwCl [kM o mP mL mC mN mF mR mD mV mX mA mK cm mT pm mU mH mI, kJ mR cJ 30 fr, kJ mD cJ 64 (z5_mm47 fr fd)] H := hP
  have hD : va_D A [kM o mP mL mC mN mF mR mD mV mX mA mK cm mT pm mU mH mI, kJ mR cJ 30 fr, kJ mD cJ 64 (z5_mm47 fr fd)] := hD
  refine lv_iinc (v := 47) (lv' := [(1, .int 47), (6, .int 6), (5, .int (-1)), (3, .long ((((0 + (-((fr 19) * (z5_mw44 fr)))) + ((fr 20) * (z5_mw42 fr))) + (-((fr 21) * (z5_mw38 fr)))) + ((fr 23) * (z5_mw14 fr)))), (7, .long ((fr 23) * (z5_mw14 fr))), (2, .int 3), (0, .ref o)]) hx hb dX5_layMinors_142 hl (k := 6) rfl (by decide) (by decide) rfl (fun ls hl => ?_)
  refine lv_goto (tgt := 9) hx hb dX5_layMinors_145 (by decide) ?_
  exact sg_X5_layMinors_47 hx hb hr hml hown hts hlk hK hA hP hD hS ls (lv_sub hl [6, 0] rfl)
set_option maxHeartbeats 4000000 in
set_option maxRecDepth 100000 in
theorem sg_X5_layMinors_45 {l : Launch} {D : va_G} {cI cJ : ClassId} {pG : Program} {eG : Env} {sG : State} {mG : MethodId} {below : List Frame} {meth : Method} {cG : Code} {A : Nat → Prop} {H : Heap} {locs : List Loc} {o : Nat} {mP : Nat} {mL : Nat} {mC : Nat} {mN : Nat} {mF : Nat} {mR : Nat} {mD : Nat} {mV : Nat} {mX : Nat} {mA : Nat} {mK : Nat} {mT : Nat} {mU : Nat} {mH : Nat} {mI : Nat} {cm : Int32} {pm : Int32} {fr : Nat → Int64} {fd : Nat → Int64} (hx : pG.tables.exec = Jvm.exec) (hb : cG.code = cX5_layMinors) (hr : meth.sig.returnType = none) (hml : cG.maxLocals = 9) (hown : sG.vm.findClass RX5 = some mG.cls) (hts : ∀ x ∈ wsX5_layMinors, x.before ([.ref o] : List Value).toArray sG = true) (hlk : meth.locks = false) (hK : gd_K D cI cJ sG) (hA : ∀ q : Nat, sG.heap.size ≤ q → A q) (hP : va_P D vwCl [kM o mP mL mC mN mF mR mD mV mX mA mK cm mT pm mU mH mI, kJ mR cJ 30 fr, kJ mD cJ 64 (z5_mm45 fr fd)] H) (hD : va_D A [kM o mP mL mC mN mF mR mD mV mX mA mK cm mT pm mU mH mI, kJ mR cJ 30 fr, kJ mD cJ 64 (z5_mm45 fr fd)]) (hS : va_S A sG.heap H locs) (ls : Array Slot) (hl : lv_has ls 9 [(0, .ref o), (1, .int 45)]) : W pG l eG (headSpec wsX5_layMinors ({ frames := 0, cells := 0, slots := 0, locals := 0 })).room sG mG ([.ref o] : List Value).toArray below meth cG H locs 0 0 (MQ below ((qe_v (fun _ : Unit => True) (fun uu => [kM o mP mL mC mN mF mR mD mV mX mA mK cm mT pm mU mH mI, kJ mR cJ 30 fr, kJ mD cJ 64 (z5_layMinors_f2 fr fd)])) D A) ([.ref o] : List Value).toArray sG 0 0 A) (F0 mG 9 ls []) := by
  have k_1 := hts (.fieldLink RX5 29 "ConicRowsModel" "minors" "[J") (by decide +kernel)
  have k_2 : ∀ w ∈ wsX50, w ∈ wsX5_layMinors := by decide +kernel
  have k_3 := hts (.constant RX5 122 (-1000001)) (by decide +kernel)
  have k_4 := hts (.fieldLink RX5 26 "ConicRowsModel" "rows" "[J") (by decide +kernel)
  refine lv_iload_n hx hb dX5_layMinors_9 rfl (lv_at hl 1 rfl) ?_
  refine lv_bipush (v := 64) hx hb dX5_layMinors_10 (by decide) ?_
  refine lv_icmp_ge (tgt := 148) hx hb dX5_layMinors_12 (by decide) (fun h => absurd h (by decide)) (fun _ => ?_)
  refine lv_ldc hx hb hown k_3 dX5_layMinors_15 ?_
  refine lv_istore_n (lv' := [(2, .int (-1000001)), (0, .ref o), (1, .int 45)]) hx hb dX5_layMinors_17 rfl hl (by decide) rfl (fun ls hl => ?_)
  refine lv_iconst (v := 0) hx hb dX5_layMinors_18 (by decide) ?_
  refine lv_istore_n (lv' := [(3, .int 0), (2, .int (-1000001)), (0, .ref o), (1, .int 45)]) hx hb dX5_layMinors_19 rfl hl (by decide) rfl (fun ls hl => ?_)
  refine lv_iload_n hx hb dX5_layMinors_20 rfl (lv_at hl 0 rfl) ?_
  refine lv_bipush (v := 6) hx hb dX5_layMinors_21 (by decide) ?_
  refine lv_icmp_ge (tgt := 52) hx hb dX5_layMinors_23 (by decide) (fun h => absurd h (by decide)) (fun _ => ?_)
  refine lv_iload_n hx hb dX5_layMinors_26 rfl (lv_at hl 1 rfl) ?_
  refine lv_ldc hx hb hown k_3 dX5_layMinors_27 ?_
  refine lv_icmp_ne (tgt := 36) hx hb dX5_layMinors_29 (by decide) (fun h => absurd (by decide) h) (fun _ => ?_)
  refine lv_iconst (v := (-1)) hx hb dX5_layMinors_32 (by decide) ?_
  refine lv_goto (tgt := 37) hx hb dX5_layMinors_33 (by decide) ?_
  refine lv_istore_n (lv' := [(2, .int (-1)), (3, .int 0), (0, .ref o), (1, .int 45)]) hx hb dX5_layMinors_37 rfl hl (by decide) rfl (fun ls hl => ?_)
  refine lv_iload_n hx hb dX5_layMinors_38 rfl (lv_at hl 0 rfl) ?_
  refine lv_iload_n hx hb dX5_layMinors_39 rfl (lv_at hl 3 rfl) ?_
  refine lv_iload_n hx hb dX5_layMinors_40 rfl (lv_at hl 1 rfl) ?_
  refine lv_ishr hx hb dX5_layMinors_41 ?_
  refine lv_eqi (v := 45) (by decide) ?_
  refine lv_iconst (v := 1) hx hb dX5_layMinors_42 (by decide) ?_
  refine lv_iand hx hb dX5_layMinors_43 ?_
  refine lv_eqi (v := 1) (by decide) ?_
  refine lv_iadd hx hb dX5_layMinors_44 ?_
  refine lv_eqi (v := 0) (by decide) ?_
  refine lv_istore_n (lv' := [(2, .int 0), (3, .int 0), (0, .ref o), (1, .int 45)]) hx hb dX5_layMinors_45 rfl hl (by decide) rfl (fun ls hl => ?_)
  refine lv_iinc (v := 1) (lv' := [(3, .int 1), (2, .int 0), (0, .ref o), (1, .int 45)]) hx hb dX5_layMinors_46 hl (k := 1) rfl (by decide) (by decide) rfl (fun ls hl => ?_)
  refine lv_goto (tgt := 20) hx hb dX5_layMinors_49 (by decide) ?_
  refine lv_iload_n hx hb dX5_layMinors_20 rfl (lv_at hl 0 rfl) ?_
  refine lv_bipush (v := 6) hx hb dX5_layMinors_21 (by decide) ?_
  refine lv_icmp_ge (tgt := 52) hx hb dX5_layMinors_23 (by decide) (fun h => absurd h (by decide)) (fun _ => ?_)
  refine lv_iload_n hx hb dX5_layMinors_26 rfl (lv_at hl 1 rfl) ?_
  refine lv_ldc hx hb hown k_3 dX5_layMinors_27 ?_
  refine lv_icmp_ne (tgt := 36) hx hb dX5_layMinors_29 (by decide) (fun _ => ?_) (fun h => absurd h (by decide))
  refine lv_iload_n hx hb dX5_layMinors_36 rfl (lv_at hl 1 rfl) ?_
  refine lv_istore_n (lv' := [(2, .int 0), (3, .int 1), (0, .ref o), (1, .int 45)]) hx hb dX5_layMinors_37 rfl hl (by decide) rfl (fun ls hl => ?_)
  refine lv_iload_n hx hb dX5_layMinors_38 rfl (lv_at hl 0 rfl) ?_
  refine lv_iload_n hx hb dX5_layMinors_39 rfl (lv_at hl 3 rfl) ?_
  refine lv_iload_n hx hb dX5_layMinors_40 rfl (lv_at hl 1 rfl) ?_
  refine lv_ishr hx hb dX5_layMinors_41 ?_
  refine lv_eqi (v := 22) (by decide) ?_
  refine lv_iconst (v := 1) hx hb dX5_layMinors_42 (by decide) ?_
  refine lv_iand hx hb dX5_layMinors_43 ?_
  refine lv_eqi (v := 0) (by decide) ?_
  refine lv_iadd hx hb dX5_layMinors_44 ?_
  refine lv_eqi (v := 0) (by decide) ?_
  refine lv_istore_n (lv' := [(2, .int 0), (3, .int 1), (0, .ref o), (1, .int 45)]) hx hb dX5_layMinors_45 rfl hl (by decide) rfl (fun ls hl => ?_)
  refine lv_iinc (v := 2) (lv' := [(3, .int 2), (2, .int 0), (0, .ref o), (1, .int 45)]) hx hb dX5_layMinors_46 hl (k := 1) rfl (by decide) (by decide) rfl (fun ls hl => ?_)
  refine lv_goto (tgt := 20) hx hb dX5_layMinors_49 (by decide) ?_
  refine lv_iload_n hx hb dX5_layMinors_20 rfl (lv_at hl 0 rfl) ?_
  refine lv_bipush (v := 6) hx hb dX5_layMinors_21 (by decide) ?_
  refine lv_icmp_ge (tgt := 52) hx hb dX5_layMinors_23 (by decide) (fun h => absurd h (by decide)) (fun _ => ?_)
  refine lv_iload_n hx hb dX5_layMinors_26 rfl (lv_at hl 1 rfl) ?_
  refine lv_ldc hx hb hown k_3 dX5_layMinors_27 ?_
  refine lv_icmp_ne (tgt := 36) hx hb dX5_layMinors_29 (by decide) (fun _ => ?_) (fun h => absurd h (by decide))
  refine lv_iload_n hx hb dX5_layMinors_36 rfl (lv_at hl 1 rfl) ?_
  refine lv_istore_n (lv' := [(2, .int 0), (3, .int 2), (0, .ref o), (1, .int 45)]) hx hb dX5_layMinors_37 rfl hl (by decide) rfl (fun ls hl => ?_)
  refine lv_iload_n hx hb dX5_layMinors_38 rfl (lv_at hl 0 rfl) ?_
  refine lv_iload_n hx hb dX5_layMinors_39 rfl (lv_at hl 3 rfl) ?_
  refine lv_iload_n hx hb dX5_layMinors_40 rfl (lv_at hl 1 rfl) ?_
  refine lv_ishr hx hb dX5_layMinors_41 ?_
  refine lv_eqi (v := 11) (by decide) ?_
  refine lv_iconst (v := 1) hx hb dX5_layMinors_42 (by decide) ?_
  refine lv_iand hx hb dX5_layMinors_43 ?_
  refine lv_eqi (v := 1) (by decide) ?_
  refine lv_iadd hx hb dX5_layMinors_44 ?_
  refine lv_eqi (v := 1) (by decide) ?_
  refine lv_istore_n (lv' := [(2, .int 1), (3, .int 2), (0, .ref o), (1, .int 45)]) hx hb dX5_layMinors_45 rfl hl (by decide) rfl (fun ls hl => ?_)
  refine lv_iinc (v := 3) (lv' := [(3, .int 3), (2, .int 1), (0, .ref o), (1, .int 45)]) hx hb dX5_layMinors_46 hl (k := 1) rfl (by decide) (by decide) rfl (fun ls hl => ?_)
  refine lv_goto (tgt := 20) hx hb dX5_layMinors_49 (by decide) ?_
  refine lv_iload_n hx hb dX5_layMinors_20 rfl (lv_at hl 0 rfl) ?_
  refine lv_bipush (v := 6) hx hb dX5_layMinors_21 (by decide) ?_
  refine lv_icmp_ge (tgt := 52) hx hb dX5_layMinors_23 (by decide) (fun h => absurd h (by decide)) (fun _ => ?_)
  refine lv_iload_n hx hb dX5_layMinors_26 rfl (lv_at hl 1 rfl) ?_
  refine lv_ldc hx hb hown k_3 dX5_layMinors_27 ?_
  refine lv_icmp_ne (tgt := 36) hx hb dX5_layMinors_29 (by decide) (fun _ => ?_) (fun h => absurd h (by decide))
  refine lv_iload_n hx hb dX5_layMinors_36 rfl (lv_at hl 1 rfl) ?_
  refine lv_istore_n (lv' := [(2, .int 1), (3, .int 3), (0, .ref o), (1, .int 45)]) hx hb dX5_layMinors_37 rfl hl (by decide) rfl (fun ls hl => ?_)
  refine lv_iload_n hx hb dX5_layMinors_38 rfl (lv_at hl 0 rfl) ?_
  refine lv_iload_n hx hb dX5_layMinors_39 rfl (lv_at hl 3 rfl) ?_
  refine lv_iload_n hx hb dX5_layMinors_40 rfl (lv_at hl 1 rfl) ?_
  refine lv_ishr hx hb dX5_layMinors_41 ?_
  refine lv_eqi (v := 5) (by decide) ?_
  refine lv_iconst (v := 1) hx hb dX5_layMinors_42 (by decide) ?_
  refine lv_iand hx hb dX5_layMinors_43 ?_
  refine lv_eqi (v := 1) (by decide) ?_
  refine lv_iadd hx hb dX5_layMinors_44 ?_
  refine lv_eqi (v := 2) (by decide) ?_
  refine lv_istore_n (lv' := [(2, .int 2), (3, .int 3), (0, .ref o), (1, .int 45)]) hx hb dX5_layMinors_45 rfl hl (by decide) rfl (fun ls hl => ?_)
  refine lv_iinc (v := 4) (lv' := [(3, .int 4), (2, .int 2), (0, .ref o), (1, .int 45)]) hx hb dX5_layMinors_46 hl (k := 1) rfl (by decide) (by decide) rfl (fun ls hl => ?_)
  refine lv_goto (tgt := 20) hx hb dX5_layMinors_49 (by decide) ?_
  refine lv_iload_n hx hb dX5_layMinors_20 rfl (lv_at hl 0 rfl) ?_
  refine lv_bipush (v := 6) hx hb dX5_layMinors_21 (by decide) ?_
  refine lv_icmp_ge (tgt := 52) hx hb dX5_layMinors_23 (by decide) (fun h => absurd h (by decide)) (fun _ => ?_)
  refine lv_iload_n hx hb dX5_layMinors_26 rfl (lv_at hl 1 rfl) ?_
  refine lv_ldc hx hb hown k_3 dX5_layMinors_27 ?_
  refine lv_icmp_ne (tgt := 36) hx hb dX5_layMinors_29 (by decide) (fun _ => ?_) (fun h => absurd h (by decide))
  refine lv_iload_n hx hb dX5_layMinors_36 rfl (lv_at hl 1 rfl) ?_
  refine lv_istore_n (lv' := [(2, .int 2), (3, .int 4), (0, .ref o), (1, .int 45)]) hx hb dX5_layMinors_37 rfl hl (by decide) rfl (fun ls hl => ?_)
  refine lv_iload_n hx hb dX5_layMinors_38 rfl (lv_at hl 0 rfl) ?_
  refine lv_iload_n hx hb dX5_layMinors_39 rfl (lv_at hl 3 rfl) ?_
  refine lv_iload_n hx hb dX5_layMinors_40 rfl (lv_at hl 1 rfl) ?_
  refine lv_ishr hx hb dX5_layMinors_41 ?_
  refine lv_eqi (v := 2) (by decide) ?_
  refine lv_iconst (v := 1) hx hb dX5_layMinors_42 (by decide) ?_
  refine lv_iand hx hb dX5_layMinors_43 ?_
  refine lv_eqi (v := 0) (by decide) ?_
  refine lv_iadd hx hb dX5_layMinors_44 ?_
  refine lv_eqi (v := 2) (by decide) ?_
  refine lv_istore_n (lv' := [(2, .int 2), (3, .int 4), (0, .ref o), (1, .int 45)]) hx hb dX5_layMinors_45 rfl hl (by decide) rfl (fun ls hl => ?_)
  refine lv_iinc (v := 5) (lv' := [(3, .int 5), (2, .int 2), (0, .ref o), (1, .int 45)]) hx hb dX5_layMinors_46 hl (k := 1) rfl (by decide) (by decide) rfl (fun ls hl => ?_)
  refine lv_goto (tgt := 20) hx hb dX5_layMinors_49 (by decide) ?_
  refine lv_iload_n hx hb dX5_layMinors_20 rfl (lv_at hl 0 rfl) ?_
  refine lv_bipush (v := 6) hx hb dX5_layMinors_21 (by decide) ?_
  refine lv_icmp_ge (tgt := 52) hx hb dX5_layMinors_23 (by decide) (fun h => absurd h (by decide)) (fun _ => ?_)
  refine lv_iload_n hx hb dX5_layMinors_26 rfl (lv_at hl 1 rfl) ?_
  refine lv_ldc hx hb hown k_3 dX5_layMinors_27 ?_
  refine lv_icmp_ne (tgt := 36) hx hb dX5_layMinors_29 (by decide) (fun _ => ?_) (fun h => absurd h (by decide))
  refine lv_iload_n hx hb dX5_layMinors_36 rfl (lv_at hl 1 rfl) ?_
  refine lv_istore_n (lv' := [(2, .int 2), (3, .int 5), (0, .ref o), (1, .int 45)]) hx hb dX5_layMinors_37 rfl hl (by decide) rfl (fun ls hl => ?_)
  refine lv_iload_n hx hb dX5_layMinors_38 rfl (lv_at hl 0 rfl) ?_
  refine lv_iload_n hx hb dX5_layMinors_39 rfl (lv_at hl 3 rfl) ?_
  refine lv_iload_n hx hb dX5_layMinors_40 rfl (lv_at hl 1 rfl) ?_
  refine lv_ishr hx hb dX5_layMinors_41 ?_
  refine lv_eqi (v := 1) (by decide) ?_
  refine lv_iconst (v := 1) hx hb dX5_layMinors_42 (by decide) ?_
  refine lv_iand hx hb dX5_layMinors_43 ?_
  refine lv_eqi (v := 1) (by decide) ?_
  refine lv_iadd hx hb dX5_layMinors_44 ?_
  refine lv_eqi (v := 3) (by decide) ?_
  refine lv_istore_n (lv' := [(2, .int 3), (3, .int 5), (0, .ref o), (1, .int 45)]) hx hb dX5_layMinors_45 rfl hl (by decide) rfl (fun ls hl => ?_)
  refine lv_iinc (v := 6) (lv' := [(3, .int 6), (2, .int 3), (0, .ref o), (1, .int 45)]) hx hb dX5_layMinors_46 hl (k := 1) rfl (by decide) (by decide) rfl (fun ls hl => ?_)
  refine lv_goto (tgt := 20) hx hb dX5_layMinors_49 (by decide) ?_
  refine lv_iload_n hx hb dX5_layMinors_20 rfl (lv_at hl 0 rfl) ?_
  refine lv_bipush (v := 6) hx hb dX5_layMinors_21 (by decide) ?_
  refine lv_icmp_ge (tgt := 52) hx hb dX5_layMinors_23 (by decide) (fun _ => ?_) (fun h => absurd (by decide) h)
  refine lv_lconst (v := 0) hx hb dX5_layMinors_52 (by decide) ?_
  refine lv_lstore_n (lv' := [(3, .long 0), (2, .int 3), (0, .ref o), (1, .int 45)]) hx hb dX5_layMinors_53 rfl hl (by decide) rfl (fun ls hl => ?_)
  refine lv_iload_n hx hb dX5_layMinors_54 rfl (lv_at hl 1 rfl) ?_
  refine lv_istore (lv' := [(5, .int 3), (3, .long 0), (2, .int 3), (0, .ref o), (1, .int 45)]) hx hb dX5_layMinors_55 hl (by decide) rfl (fun ls hl => ?_)
  refine lv_iconst (v := 0) hx hb dX5_layMinors_57 (by decide) ?_
  refine lv_istore (lv' := [(6, .int 0), (5, .int 3), (3, .long 0), (2, .int 3), (0, .ref o), (1, .int 45)]) hx hb dX5_layMinors_58 hl (by decide) rfl (fun ls hl => ?_)
  refine lv_iload hx hb dX5_layMinors_60 (lv_at hl 0 rfl) ?_
  refine lv_bipush (v := 6) hx hb dX5_layMinors_62 (by decide) ?_
  refine lv_icmp_ge (tgt := 135) hx hb dX5_layMinors_64 (by decide) (fun h => absurd h (by decide)) (fun _ => ?_)
  refine lv_iload_n hx hb dX5_layMinors_67 rfl (lv_at hl 3 rfl) ?_
  refine lv_iconst (v := 5) hx hb dX5_layMinors_68 (by decide) ?_
  refine lv_icmp_ge (tgt := 135) hx hb dX5_layMinors_69 (by decide) (fun h => absurd h (by decide)) (fun _ => ?_)
  refine lv_iload_n hx hb dX5_layMinors_72 rfl (lv_at hl 5 rfl) ?_
  refine lv_iload hx hb dX5_layMinors_73 (lv_at hl 0 rfl) ?_
  refine lv_ishr hx hb dX5_layMinors_75 ?_
  refine lv_eqi (v := 45) (by decide) ?_
  refine lv_iconst (v := 1) hx hb dX5_layMinors_76 (by decide) ?_
  refine lv_iand hx hb dX5_layMinors_77 ?_
  refine lv_eqi (v := 1) (by decide) ?_
  refine lv_iconst (v := 1) hx hb dX5_layMinors_78 (by decide) ?_
  refine lv_icmp_ne (tgt := 129) hx hb dX5_layMinors_79 (by decide) (fun h => absurd (by decide) h) (fun _ => ?_)
  refine lv_aload_n hx hb dX5_layMinors_82 rfl (lv_at hl 4 rfl) ?_
  refine va_get (D := D) (ci := 5) (v := .ref mR) (C := RX5) (T := TX5) (N := 17) hx hb hts k_2 hown hK.1 hP 0 rfl rfl 5 (by decide) k_4 (fun _ h9 => h9) rfl dX5_layMinors_83 ?_
  refine lv_bipush (v := 6) hx hb dX5_layMinors_86 (by decide) ?_
  refine lv_iload_n hx hb dX5_layMinors_88 rfl (lv_at hl 3 rfl) ?_
  refine lv_imul hx hb dX5_layMinors_89 ?_
  refine lv_eqi (v := 18) (by decide) ?_
  refine lv_iload hx hb dX5_layMinors_90 (lv_at hl 0 rfl) ?_
  refine lv_iadd hx hb dX5_layMinors_92 ?_
  refine lv_eqi (v := 18) (by decide) ?_
  refine ld_l hx hb hK.1 hP 1 1 rfl rfl (ix_lit (by decide)) 18 (by decide) (v := fr 18) rfl dX5_layMinors_93 ?_
  refine lv_aload_n hx hb dX5_layMinors_94 rfl (lv_at hl 4 rfl) ?_
  refine va_get (D := D) (ci := 5) (v := .ref mD) (C := RX5) (T := TX5) (N := 17) hx hb hts k_2 hown hK.1 hP 0 rfl rfl 6 (by decide) k_1 (fun _ h9 => h9) rfl dX5_layMinors_95 ?_
  refine lv_iload_n hx hb dX5_layMinors_98 rfl (lv_at hl 5 rfl) ?_
  refine lv_iconst (v := 1) hx hb dX5_layMinors_99 (by decide) ?_
  refine lv_iload hx hb dX5_layMinors_100 (lv_at hl 0 rfl) ?_
  refine lv_ishl hx hb dX5_layMinors_102 ?_
  refine lv_eqi (v := 1) (by decide) ?_
  refine lv_isub hx hb dX5_layMinors_103 ?_
  refine lv_eqi (v := 44) (by decide) ?_
  refine ld_l hx hb hK.1 hP 2 1 rfl rfl (ix_lit (by decide)) 44 (by decide) (v := z5_mw44 fr) rfl dX5_layMinors_104 ?_
  refine lv_lmul hx hb dX5_layMinors_105 ?_
  refine lv_lstore (lv' := [(7, .long ((fr 18) * (z5_mw44 fr))), (6, .int 0), (5, .int 3), (3, .long 0), (2, .int 3), (0, .ref o), (1, .int 45)]) hx hb dX5_layMinors_106 hl (by decide) rfl (fun ls hl => ?_)
  refine lv_lload_n hx hb dX5_layMinors_108 rfl (lv_at hl 3 rfl) ?_
  refine lv_iload hx hb dX5_layMinors_109 (lv_at hl 2 rfl) ?_
  refine lv_iconst (v := 2) hx hb dX5_layMinors_111 (by decide) ?_
  refine lv_irem hx hb dX5_layMinors_112 (by decide) ?_
  refine lv_eqi (v := 1) (by decide) ?_
  refine lv_if_ne (tgt := 121) hx hb dX5_layMinors_113 (by decide) (fun _ => ?_) (fun h => absurd h (by decide))
  refine lv_lload hx hb dX5_layMinors_121 (lv_at hl 0 rfl) ?_
  refine lv_lneg hx hb dX5_layMinors_123 ?_
  refine lv_ladd hx hb dX5_layMinors_124 ?_
  refine lv_lstore_n (lv' := [(3, .long (0 + (-((fr 18) * (z5_mw44 fr))))), (7, .long ((fr 18) * (z5_mw44 fr))), (6, .int 0), (5, .int 3), (2, .int 3), (0, .ref o), (1, .int 45)]) hx hb dX5_layMinors_125 rfl hl (by decide) rfl (fun ls hl => ?_)
  refine lv_iinc (v := 2) (lv' := [(5, .int 2), (3, .long (0 + (-((fr 18) * (z5_mw44 fr))))), (7, .long ((fr 18) * (z5_mw44 fr))), (6, .int 0), (2, .int 3), (0, .ref o), (1, .int 45)]) hx hb dX5_layMinors_126 hl (k := 3) rfl (by decide) (by decide) rfl (fun ls hl => ?_)
  refine lv_iinc (v := 1) (lv' := [(6, .int 1), (5, .int 2), (3, .long (0 + (-((fr 18) * (z5_mw44 fr))))), (7, .long ((fr 18) * (z5_mw44 fr))), (2, .int 3), (0, .ref o), (1, .int 45)]) hx hb dX5_layMinors_129 hl (k := 3) rfl (by decide) (by decide) rfl (fun ls hl => ?_)
  refine lv_goto (tgt := 60) hx hb dX5_layMinors_132 (by decide) ?_
  refine lv_iload hx hb dX5_layMinors_60 (lv_at hl 0 rfl) ?_
  refine lv_bipush (v := 6) hx hb dX5_layMinors_62 (by decide) ?_
  refine lv_icmp_ge (tgt := 135) hx hb dX5_layMinors_64 (by decide) (fun h => absurd h (by decide)) (fun _ => ?_)
  refine lv_iload_n hx hb dX5_layMinors_67 rfl (lv_at hl 4 rfl) ?_
  refine lv_iconst (v := 5) hx hb dX5_layMinors_68 (by decide) ?_
  refine lv_icmp_ge (tgt := 135) hx hb dX5_layMinors_69 (by decide) (fun h => absurd h (by decide)) (fun _ => ?_)
  refine lv_iload_n hx hb dX5_layMinors_72 rfl (lv_at hl 6 rfl) ?_
  refine lv_iload hx hb dX5_layMinors_73 (lv_at hl 0 rfl) ?_
  refine lv_ishr hx hb dX5_layMinors_75 ?_
  refine lv_eqi (v := 22) (by decide) ?_
  refine lv_iconst (v := 1) hx hb dX5_layMinors_76 (by decide) ?_
  refine lv_iand hx hb dX5_layMinors_77 ?_
  refine lv_eqi (v := 0) (by decide) ?_
  refine lv_iconst (v := 1) hx hb dX5_layMinors_78 (by decide) ?_
  refine lv_icmp_ne (tgt := 129) hx hb dX5_layMinors_79 (by decide) (fun _ => ?_) (fun h => absurd h (by decide))
  refine lv_iinc (v := 2) (lv' := [(6, .int 2), (5, .int 2), (3, .long (0 + (-((fr 18) * (z5_mw44 fr))))), (7, .long ((fr 18) * (z5_mw44 fr))), (2, .int 3), (0, .ref o), (1, .int 45)]) hx hb dX5_layMinors_129 hl (k := 0) rfl (by decide) (by decide) rfl (fun ls hl => ?_)
  refine lv_goto (tgt := 60) hx hb dX5_layMinors_132 (by decide) ?_
  refine lv_iload hx hb dX5_layMinors_60 (lv_at hl 0 rfl) ?_
  refine lv_bipush (v := 6) hx hb dX5_layMinors_62 (by decide) ?_
  refine lv_icmp_ge (tgt := 135) hx hb dX5_layMinors_64 (by decide) (fun h => absurd h (by decide)) (fun _ => ?_)
  refine lv_iload_n hx hb dX5_layMinors_67 rfl (lv_at hl 4 rfl) ?_
  refine lv_iconst (v := 5) hx hb dX5_layMinors_68 (by decide) ?_
  refine lv_icmp_ge (tgt := 135) hx hb dX5_layMinors_69 (by decide) (fun h => absurd h (by decide)) (fun _ => ?_)
  refine lv_iload_n hx hb dX5_layMinors_72 rfl (lv_at hl 6 rfl) ?_
  refine lv_iload hx hb dX5_layMinors_73 (lv_at hl 0 rfl) ?_
  refine lv_ishr hx hb dX5_layMinors_75 ?_
  refine lv_eqi (v := 11) (by decide) ?_
  refine lv_iconst (v := 1) hx hb dX5_layMinors_76 (by decide) ?_
  refine lv_iand hx hb dX5_layMinors_77 ?_
  refine lv_eqi (v := 1) (by decide) ?_
  refine lv_iconst (v := 1) hx hb dX5_layMinors_78 (by decide) ?_
  refine lv_icmp_ne (tgt := 129) hx hb dX5_layMinors_79 (by decide) (fun h => absurd (by decide) h) (fun _ => ?_)
  refine lv_aload_n hx hb dX5_layMinors_82 rfl (lv_at hl 5 rfl) ?_
  refine va_get (D := D) (ci := 5) (v := .ref mR) (C := RX5) (T := TX5) (N := 17) hx hb hts k_2 hown hK.1 hP 0 rfl rfl 5 (by decide) k_4 (fun _ h9 => h9) rfl dX5_layMinors_83 ?_
  refine lv_bipush (v := 6) hx hb dX5_layMinors_86 (by decide) ?_
  refine lv_iload_n hx hb dX5_layMinors_88 rfl (lv_at hl 4 rfl) ?_
  refine lv_imul hx hb dX5_layMinors_89 ?_
  refine lv_eqi (v := 18) (by decide) ?_
  refine lv_iload hx hb dX5_layMinors_90 (lv_at hl 0 rfl) ?_
  refine lv_iadd hx hb dX5_layMinors_92 ?_
  refine lv_eqi (v := 20) (by decide) ?_
  refine ld_l hx hb hK.1 hP 1 1 rfl rfl (ix_lit (by decide)) 20 (by decide) (v := fr 20) rfl dX5_layMinors_93 ?_
  refine lv_aload_n hx hb dX5_layMinors_94 rfl (lv_at hl 5 rfl) ?_
  refine va_get (D := D) (ci := 5) (v := .ref mD) (C := RX5) (T := TX5) (N := 17) hx hb hts k_2 hown hK.1 hP 0 rfl rfl 6 (by decide) k_1 (fun _ h9 => h9) rfl dX5_layMinors_95 ?_
  refine lv_iload_n hx hb dX5_layMinors_98 rfl (lv_at hl 6 rfl) ?_
  refine lv_iconst (v := 1) hx hb dX5_layMinors_99 (by decide) ?_
  refine lv_iload hx hb dX5_layMinors_100 (lv_at hl 0 rfl) ?_
  refine lv_ishl hx hb dX5_layMinors_102 ?_
  refine lv_eqi (v := 4) (by decide) ?_
  refine lv_isub hx hb dX5_layMinors_103 ?_
  refine lv_eqi (v := 41) (by decide) ?_
  refine ld_l hx hb hK.1 hP 2 1 rfl rfl (ix_lit (by decide)) 41 (by decide) (v := z5_mw41 fr) rfl dX5_layMinors_104 ?_
  refine lv_lmul hx hb dX5_layMinors_105 ?_
  refine lv_lstore (lv' := [(7, .long ((fr 20) * (z5_mw41 fr))), (6, .int 2), (5, .int 2), (3, .long (0 + (-((fr 18) * (z5_mw44 fr))))), (2, .int 3), (0, .ref o), (1, .int 45)]) hx hb dX5_layMinors_106 hl (by decide) rfl (fun ls hl => ?_)
  refine lv_lload_n hx hb dX5_layMinors_108 rfl (lv_at hl 3 rfl) ?_
  refine lv_iload hx hb dX5_layMinors_109 (lv_at hl 2 rfl) ?_
  refine lv_iconst (v := 2) hx hb dX5_layMinors_111 (by decide) ?_
  refine lv_irem hx hb dX5_layMinors_112 (by decide) ?_
  refine lv_eqi (v := 0) (by decide) ?_
  refine lv_if_ne (tgt := 121) hx hb dX5_layMinors_113 (by decide) (fun h => absurd (by decide) h) (fun _ => ?_)
  refine lv_lload hx hb dX5_layMinors_116 (lv_at hl 0 rfl) ?_
  refine lv_goto (tgt := 124) hx hb dX5_layMinors_118 (by decide) ?_
  refine lv_ladd hx hb dX5_layMinors_124 ?_
  refine lv_lstore_n (lv' := [(3, .long ((0 + (-((fr 18) * (z5_mw44 fr)))) + ((fr 20) * (z5_mw41 fr)))), (7, .long ((fr 20) * (z5_mw41 fr))), (6, .int 2), (5, .int 2), (2, .int 3), (0, .ref o), (1, .int 45)]) hx hb dX5_layMinors_125 rfl hl (by decide) rfl (fun ls hl => ?_)
  refine lv_iinc (v := 1) (lv' := [(5, .int 1), (3, .long ((0 + (-((fr 18) * (z5_mw44 fr)))) + ((fr 20) * (z5_mw41 fr)))), (7, .long ((fr 20) * (z5_mw41 fr))), (6, .int 2), (2, .int 3), (0, .ref o), (1, .int 45)]) hx hb dX5_layMinors_126 hl (k := 3) rfl (by decide) (by decide) rfl (fun ls hl => ?_)
  refine lv_iinc (v := 3) (lv' := [(6, .int 3), (5, .int 1), (3, .long ((0 + (-((fr 18) * (z5_mw44 fr)))) + ((fr 20) * (z5_mw41 fr)))), (7, .long ((fr 20) * (z5_mw41 fr))), (2, .int 3), (0, .ref o), (1, .int 45)]) hx hb dX5_layMinors_129 hl (k := 3) rfl (by decide) (by decide) rfl (fun ls hl => ?_)
  refine lv_goto (tgt := 60) hx hb dX5_layMinors_132 (by decide) ?_
  refine lv_iload hx hb dX5_layMinors_60 (lv_at hl 0 rfl) ?_
  refine lv_bipush (v := 6) hx hb dX5_layMinors_62 (by decide) ?_
  refine lv_icmp_ge (tgt := 135) hx hb dX5_layMinors_64 (by decide) (fun h => absurd h (by decide)) (fun _ => ?_)
  refine lv_iload_n hx hb dX5_layMinors_67 rfl (lv_at hl 4 rfl) ?_
  refine lv_iconst (v := 5) hx hb dX5_layMinors_68 (by decide) ?_
  refine lv_icmp_ge (tgt := 135) hx hb dX5_layMinors_69 (by decide) (fun h => absurd h (by decide)) (fun _ => ?_)
  refine lv_iload_n hx hb dX5_layMinors_72 rfl (lv_at hl 6 rfl) ?_
  refine lv_iload hx hb dX5_layMinors_73 (lv_at hl 0 rfl) ?_
  refine lv_ishr hx hb dX5_layMinors_75 ?_
  refine lv_eqi (v := 5) (by decide) ?_
  refine lv_iconst (v := 1) hx hb dX5_layMinors_76 (by decide) ?_
  refine lv_iand hx hb dX5_layMinors_77 ?_
  refine lv_eqi (v := 1) (by decide) ?_
  refine lv_iconst (v := 1) hx hb dX5_layMinors_78 (by decide) ?_
  refine lv_icmp_ne (tgt := 129) hx hb dX5_layMinors_79 (by decide) (fun h => absurd (by decide) h) (fun _ => ?_)
  refine lv_aload_n hx hb dX5_layMinors_82 rfl (lv_at hl 5 rfl) ?_
  refine va_get (D := D) (ci := 5) (v := .ref mR) (C := RX5) (T := TX5) (N := 17) hx hb hts k_2 hown hK.1 hP 0 rfl rfl 5 (by decide) k_4 (fun _ h9 => h9) rfl dX5_layMinors_83 ?_
  refine lv_bipush (v := 6) hx hb dX5_layMinors_86 (by decide) ?_
  refine lv_iload_n hx hb dX5_layMinors_88 rfl (lv_at hl 4 rfl) ?_
  refine lv_imul hx hb dX5_layMinors_89 ?_
  refine lv_eqi (v := 18) (by decide) ?_
  refine lv_iload hx hb dX5_layMinors_90 (lv_at hl 0 rfl) ?_
  refine lv_iadd hx hb dX5_layMinors_92 ?_
  refine lv_eqi (v := 21) (by decide) ?_
  refine ld_l hx hb hK.1 hP 1 1 rfl rfl (ix_lit (by decide)) 21 (by decide) (v := fr 21) rfl dX5_layMinors_93 ?_
  refine lv_aload_n hx hb dX5_layMinors_94 rfl (lv_at hl 5 rfl) ?_
  refine va_get (D := D) (ci := 5) (v := .ref mD) (C := RX5) (T := TX5) (N := 17) hx hb hts k_2 hown hK.1 hP 0 rfl rfl 6 (by decide) k_1 (fun _ h9 => h9) rfl dX5_layMinors_95 ?_
  refine lv_iload_n hx hb dX5_layMinors_98 rfl (lv_at hl 6 rfl) ?_
  refine lv_iconst (v := 1) hx hb dX5_layMinors_99 (by decide) ?_
  refine lv_iload hx hb dX5_layMinors_100 (lv_at hl 0 rfl) ?_
  refine lv_ishl hx hb dX5_layMinors_102 ?_
  refine lv_eqi (v := 8) (by decide) ?_
  refine lv_isub hx hb dX5_layMinors_103 ?_
  refine lv_eqi (v := 37) (by decide) ?_
  refine ld_l hx hb hK.1 hP 2 1 rfl rfl (ix_lit (by decide)) 37 (by decide) (v := z5_mw37 fr) rfl dX5_layMinors_104 ?_
  refine lv_lmul hx hb dX5_layMinors_105 ?_
  refine lv_lstore (lv' := [(7, .long ((fr 21) * (z5_mw37 fr))), (6, .int 3), (5, .int 1), (3, .long ((0 + (-((fr 18) * (z5_mw44 fr)))) + ((fr 20) * (z5_mw41 fr)))), (2, .int 3), (0, .ref o), (1, .int 45)]) hx hb dX5_layMinors_106 hl (by decide) rfl (fun ls hl => ?_)
  refine lv_lload_n hx hb dX5_layMinors_108 rfl (lv_at hl 3 rfl) ?_
  refine lv_iload hx hb dX5_layMinors_109 (lv_at hl 2 rfl) ?_
  refine lv_iconst (v := 2) hx hb dX5_layMinors_111 (by decide) ?_
  refine lv_irem hx hb dX5_layMinors_112 (by decide) ?_
  refine lv_eqi (v := 1) (by decide) ?_
  refine lv_if_ne (tgt := 121) hx hb dX5_layMinors_113 (by decide) (fun _ => ?_) (fun h => absurd h (by decide))
  refine lv_lload hx hb dX5_layMinors_121 (lv_at hl 0 rfl) ?_
  refine lv_lneg hx hb dX5_layMinors_123 ?_
  refine lv_ladd hx hb dX5_layMinors_124 ?_
  refine lv_lstore_n (lv' := [(3, .long (((0 + (-((fr 18) * (z5_mw44 fr)))) + ((fr 20) * (z5_mw41 fr))) + (-((fr 21) * (z5_mw37 fr))))), (7, .long ((fr 21) * (z5_mw37 fr))), (6, .int 3), (5, .int 1), (2, .int 3), (0, .ref o), (1, .int 45)]) hx hb dX5_layMinors_125 rfl hl (by decide) rfl (fun ls hl => ?_)
  refine lv_iinc (v := 0) (lv' := [(5, .int 0), (3, .long (((0 + (-((fr 18) * (z5_mw44 fr)))) + ((fr 20) * (z5_mw41 fr))) + (-((fr 21) * (z5_mw37 fr))))), (7, .long ((fr 21) * (z5_mw37 fr))), (6, .int 3), (2, .int 3), (0, .ref o), (1, .int 45)]) hx hb dX5_layMinors_126 hl (k := 3) rfl (by decide) (by decide) rfl (fun ls hl => ?_)
  refine lv_iinc (v := 4) (lv' := [(6, .int 4), (5, .int 0), (3, .long (((0 + (-((fr 18) * (z5_mw44 fr)))) + ((fr 20) * (z5_mw41 fr))) + (-((fr 21) * (z5_mw37 fr))))), (7, .long ((fr 21) * (z5_mw37 fr))), (2, .int 3), (0, .ref o), (1, .int 45)]) hx hb dX5_layMinors_129 hl (k := 3) rfl (by decide) (by decide) rfl (fun ls hl => ?_)
  refine lv_goto (tgt := 60) hx hb dX5_layMinors_132 (by decide) ?_
  refine lv_iload hx hb dX5_layMinors_60 (lv_at hl 0 rfl) ?_
  refine lv_bipush (v := 6) hx hb dX5_layMinors_62 (by decide) ?_
  refine lv_icmp_ge (tgt := 135) hx hb dX5_layMinors_64 (by decide) (fun h => absurd h (by decide)) (fun _ => ?_)
  refine lv_iload_n hx hb dX5_layMinors_67 rfl (lv_at hl 4 rfl) ?_
  refine lv_iconst (v := 5) hx hb dX5_layMinors_68 (by decide) ?_
  refine lv_icmp_ge (tgt := 135) hx hb dX5_layMinors_69 (by decide) (fun h => absurd h (by decide)) (fun _ => ?_)
  refine lv_iload_n hx hb dX5_layMinors_72 rfl (lv_at hl 6 rfl) ?_
  refine lv_iload hx hb dX5_layMinors_73 (lv_at hl 0 rfl) ?_
  refine lv_ishr hx hb dX5_layMinors_75 ?_
  refine lv_eqi (v := 2) (by decide) ?_
  refine lv_iconst (v := 1) hx hb dX5_layMinors_76 (by decide) ?_
  refine lv_iand hx hb dX5_layMinors_77 ?_
  refine lv_eqi (v := 0) (by decide) ?_
  refine lv_iconst (v := 1) hx hb dX5_layMinors_78 (by decide) ?_
  refine lv_icmp_ne (tgt := 129) hx hb dX5_layMinors_79 (by decide) (fun _ => ?_) (fun h => absurd h (by decide))
  refine lv_iinc (v := 5) (lv' := [(6, .int 5), (5, .int 0), (3, .long (((0 + (-((fr 18) * (z5_mw44 fr)))) + ((fr 20) * (z5_mw41 fr))) + (-((fr 21) * (z5_mw37 fr))))), (7, .long ((fr 21) * (z5_mw37 fr))), (2, .int 3), (0, .ref o), (1, .int 45)]) hx hb dX5_layMinors_129 hl (k := 0) rfl (by decide) (by decide) rfl (fun ls hl => ?_)
  refine lv_goto (tgt := 60) hx hb dX5_layMinors_132 (by decide) ?_
  refine lv_iload hx hb dX5_layMinors_60 (lv_at hl 0 rfl) ?_
  refine lv_bipush (v := 6) hx hb dX5_layMinors_62 (by decide) ?_
  refine lv_icmp_ge (tgt := 135) hx hb dX5_layMinors_64 (by decide) (fun h => absurd h (by decide)) (fun _ => ?_)
  refine lv_iload_n hx hb dX5_layMinors_67 rfl (lv_at hl 4 rfl) ?_
  refine lv_iconst (v := 5) hx hb dX5_layMinors_68 (by decide) ?_
  refine lv_icmp_ge (tgt := 135) hx hb dX5_layMinors_69 (by decide) (fun h => absurd h (by decide)) (fun _ => ?_)
  refine lv_iload_n hx hb dX5_layMinors_72 rfl (lv_at hl 6 rfl) ?_
  refine lv_iload hx hb dX5_layMinors_73 (lv_at hl 0 rfl) ?_
  refine lv_ishr hx hb dX5_layMinors_75 ?_
  refine lv_eqi (v := 1) (by decide) ?_
  refine lv_iconst (v := 1) hx hb dX5_layMinors_76 (by decide) ?_
  refine lv_iand hx hb dX5_layMinors_77 ?_
  refine lv_eqi (v := 1) (by decide) ?_
  refine lv_iconst (v := 1) hx hb dX5_layMinors_78 (by decide) ?_
  refine lv_icmp_ne (tgt := 129) hx hb dX5_layMinors_79 (by decide) (fun h => absurd (by decide) h) (fun _ => ?_)
  refine lv_aload_n hx hb dX5_layMinors_82 rfl (lv_at hl 5 rfl) ?_
  refine va_get (D := D) (ci := 5) (v := .ref mR) (C := RX5) (T := TX5) (N := 17) hx hb hts k_2 hown hK.1 hP 0 rfl rfl 5 (by decide) k_4 (fun _ h9 => h9) rfl dX5_layMinors_83 ?_
  refine lv_bipush (v := 6) hx hb dX5_layMinors_86 (by decide) ?_
  refine lv_iload_n hx hb dX5_layMinors_88 rfl (lv_at hl 4 rfl) ?_
  refine lv_imul hx hb dX5_layMinors_89 ?_
  refine lv_eqi (v := 18) (by decide) ?_
  refine lv_iload hx hb dX5_layMinors_90 (lv_at hl 0 rfl) ?_
  refine lv_iadd hx hb dX5_layMinors_92 ?_
  refine lv_eqi (v := 23) (by decide) ?_
  refine ld_l hx hb hK.1 hP 1 1 rfl rfl (ix_lit (by decide)) 23 (by decide) (v := fr 23) rfl dX5_layMinors_93 ?_
  refine lv_aload_n hx hb dX5_layMinors_94 rfl (lv_at hl 5 rfl) ?_
  refine va_get (D := D) (ci := 5) (v := .ref mD) (C := RX5) (T := TX5) (N := 17) hx hb hts k_2 hown hK.1 hP 0 rfl rfl 6 (by decide) k_1 (fun _ h9 => h9) rfl dX5_layMinors_95 ?_
  refine lv_iload_n hx hb dX5_layMinors_98 rfl (lv_at hl 6 rfl) ?_
  refine lv_iconst (v := 1) hx hb dX5_layMinors_99 (by decide) ?_
  refine lv_iload hx hb dX5_layMinors_100 (lv_at hl 0 rfl) ?_
  refine lv_ishl hx hb dX5_layMinors_102 ?_
  refine lv_eqi (v := 32) (by decide) ?_
  refine lv_isub hx hb dX5_layMinors_103 ?_
  refine lv_eqi (v := 13) (by decide) ?_
  refine ld_l hx hb hK.1 hP 2 1 rfl rfl (ix_lit (by decide)) 13 (by decide) (v := z5_mw13 fr) rfl dX5_layMinors_104 ?_
  refine lv_lmul hx hb dX5_layMinors_105 ?_
  refine lv_lstore (lv' := [(7, .long ((fr 23) * (z5_mw13 fr))), (6, .int 5), (5, .int 0), (3, .long (((0 + (-((fr 18) * (z5_mw44 fr)))) + ((fr 20) * (z5_mw41 fr))) + (-((fr 21) * (z5_mw37 fr))))), (2, .int 3), (0, .ref o), (1, .int 45)]) hx hb dX5_layMinors_106 hl (by decide) rfl (fun ls hl => ?_)
  refine lv_lload_n hx hb dX5_layMinors_108 rfl (lv_at hl 3 rfl) ?_
  refine lv_iload hx hb dX5_layMinors_109 (lv_at hl 2 rfl) ?_
  refine lv_iconst (v := 2) hx hb dX5_layMinors_111 (by decide) ?_
  refine lv_irem hx hb dX5_layMinors_112 (by decide) ?_
  refine lv_eqi (v := 0) (by decide) ?_
  refine lv_if_ne (tgt := 121) hx hb dX5_layMinors_113 (by decide) (fun h => absurd (by decide) h) (fun _ => ?_)
  refine lv_lload hx hb dX5_layMinors_116 (lv_at hl 0 rfl) ?_
  refine lv_goto (tgt := 124) hx hb dX5_layMinors_118 (by decide) ?_
  refine lv_ladd hx hb dX5_layMinors_124 ?_
  refine lv_lstore_n (lv' := [(3, .long ((((0 + (-((fr 18) * (z5_mw44 fr)))) + ((fr 20) * (z5_mw41 fr))) + (-((fr 21) * (z5_mw37 fr)))) + ((fr 23) * (z5_mw13 fr)))), (7, .long ((fr 23) * (z5_mw13 fr))), (6, .int 5), (5, .int 0), (2, .int 3), (0, .ref o), (1, .int 45)]) hx hb dX5_layMinors_125 rfl hl (by decide) rfl (fun ls hl => ?_)
  refine lv_iinc (v := (-1)) (lv' := [(5, .int (-1)), (3, .long ((((0 + (-((fr 18) * (z5_mw44 fr)))) + ((fr 20) * (z5_mw41 fr))) + (-((fr 21) * (z5_mw37 fr)))) + ((fr 23) * (z5_mw13 fr)))), (7, .long ((fr 23) * (z5_mw13 fr))), (6, .int 5), (2, .int 3), (0, .ref o), (1, .int 45)]) hx hb dX5_layMinors_126 hl (k := 3) rfl (by decide) (by decide) rfl (fun ls hl => ?_)
  refine lv_iinc (v := 6) (lv' := [(6, .int 6), (5, .int (-1)), (3, .long ((((0 + (-((fr 18) * (z5_mw44 fr)))) + ((fr 20) * (z5_mw41 fr))) + (-((fr 21) * (z5_mw37 fr)))) + ((fr 23) * (z5_mw13 fr)))), (7, .long ((fr 23) * (z5_mw13 fr))), (2, .int 3), (0, .ref o), (1, .int 45)]) hx hb dX5_layMinors_129 hl (k := 3) rfl (by decide) (by decide) rfl (fun ls hl => ?_)
  refine lv_goto (tgt := 60) hx hb dX5_layMinors_132 (by decide) ?_
  refine lv_iload hx hb dX5_layMinors_60 (lv_at hl 0 rfl) ?_
  refine lv_bipush (v := 6) hx hb dX5_layMinors_62 (by decide) ?_
  refine lv_icmp_ge (tgt := 135) hx hb dX5_layMinors_64 (by decide) (fun _ => ?_) (fun h => absurd (by decide) h)
  refine lv_aload_n hx hb dX5_layMinors_135 rfl (lv_at hl 5 rfl) ?_
  refine va_get (D := D) (ci := 5) (v := .ref mD) (C := RX5) (T := TX5) (N := 17) hx hb hts k_2 hown hK.1 hP 0 rfl rfl 6 (by decide) k_1 (fun _ h9 => h9) rfl dX5_layMinors_136 ?_
  refine lv_iload_n hx hb dX5_layMinors_139 rfl (lv_at hl 6 rfl) ?_
  refine lv_lload_n hx hb dX5_layMinors_140 rfl (lv_at hl 2 rfl) ?_
  refine st_l hx hb hK.1 hP hD hS 2 1 rfl rfl (ix_lit (by decide)) 45 (by decide) dX5_layMinors_141 (fun H locs hP hD hS => ?_)
  have hP : va_P D vwCl [kM o mP mL mC mN mF mR mD mV mX mA mK cm mT pm mU mH mI, kJ mR cJ 30 fr, kJ mD cJ 64 (vp_updL (z5_mm45 fr fd) 45 ((((0 + (-((fr 18) * (z5_mw44 fr)))) + ((fr 20) * (z5_mw41 fr))) + (-((fr 21) * (z5_mw37 fr)))) + ((fr 23) * (z5_mw13 fr))))] H := hP
  have hD : va_D A [kM o mP mL mC mN mF mR mD mV mX mA mK cm mT pm mU mH mI, kJ mR cJ 30 fr, kJ mD cJ 64 (vp_updL (z5_mm45 fr fd) 45 ((((0 + (-((fr 18) * (z5_mw44 fr)))) + ((fr 20) * (z5_mw41 fr))) + (-((fr 21) * (z5_mw37 fr)))) + ((fr 23) * (z5_mw13 fr))))] := hD
  have hP : va_P D vwCl [kM o mP mL mC mN mF mR mD mV mX mA mK cm mT pm mU mH mI, kJ mR cJ 30 fr, kJ mD cJ 64 (z5_mm46 fr fd)] H := hP
  have hD : va_D A [kM o mP mL mC mN mF mR mD mV mX mA mK cm mT pm mU mH mI, kJ mR cJ 30 fr, kJ mD cJ 64 (z5_mm46 fr fd)] := hD
  refine lv_iinc (v := 46) (lv' := [(1, .int 46), (6, .int 6), (5, .int (-1)), (3, .long ((((0 + (-((fr 18) * (z5_mw44 fr)))) + ((fr 20) * (z5_mw41 fr))) + (-((fr 21) * (z5_mw37 fr)))) + ((fr 23) * (z5_mw13 fr)))), (7, .long ((fr 23) * (z5_mw13 fr))), (2, .int 3), (0, .ref o)]) hx hb dX5_layMinors_142 hl (k := 6) rfl (by decide) (by decide) rfl (fun ls hl => ?_)
  refine lv_goto (tgt := 9) hx hb dX5_layMinors_145 (by decide) ?_
  exact sg_X5_layMinors_46 hx hb hr hml hown hts hlk hK hA hP hD hS ls (lv_sub hl [6, 0] rfl)
set_option maxHeartbeats 4000000 in
set_option maxRecDepth 100000 in
theorem sg_X5_layMinors_44 {l : Launch} {D : va_G} {cI cJ : ClassId} {pG : Program} {eG : Env} {sG : State} {mG : MethodId} {below : List Frame} {meth : Method} {cG : Code} {A : Nat → Prop} {H : Heap} {locs : List Loc} {o : Nat} {mP : Nat} {mL : Nat} {mC : Nat} {mN : Nat} {mF : Nat} {mR : Nat} {mD : Nat} {mV : Nat} {mX : Nat} {mA : Nat} {mK : Nat} {mT : Nat} {mU : Nat} {mH : Nat} {mI : Nat} {cm : Int32} {pm : Int32} {fr : Nat → Int64} {fd : Nat → Int64} (hx : pG.tables.exec = Jvm.exec) (hb : cG.code = cX5_layMinors) (hr : meth.sig.returnType = none) (hml : cG.maxLocals = 9) (hown : sG.vm.findClass RX5 = some mG.cls) (hts : ∀ x ∈ wsX5_layMinors, x.before ([.ref o] : List Value).toArray sG = true) (hlk : meth.locks = false) (hK : gd_K D cI cJ sG) (hA : ∀ q : Nat, sG.heap.size ≤ q → A q) (hP : va_P D vwCl [kM o mP mL mC mN mF mR mD mV mX mA mK cm mT pm mU mH mI, kJ mR cJ 30 fr, kJ mD cJ 64 (z5_mm44 fr fd)] H) (hD : va_D A [kM o mP mL mC mN mF mR mD mV mX mA mK cm mT pm mU mH mI, kJ mR cJ 30 fr, kJ mD cJ 64 (z5_mm44 fr fd)]) (hS : va_S A sG.heap H locs) (ls : Array Slot) (hl : lv_has ls 9 [(0, .ref o), (1, .int 44)]) : W pG l eG (headSpec wsX5_layMinors ({ frames := 0, cells := 0, slots := 0, locals := 0 })).room sG mG ([.ref o] : List Value).toArray below meth cG H locs 0 0 (MQ below ((qe_v (fun _ : Unit => True) (fun uu => [kM o mP mL mC mN mF mR mD mV mX mA mK cm mT pm mU mH mI, kJ mR cJ 30 fr, kJ mD cJ 64 (z5_layMinors_f2 fr fd)])) D A) ([.ref o] : List Value).toArray sG 0 0 A) (F0 mG 9 ls []) := by
  have k_1 := hts (.fieldLink RX5 29 "ConicRowsModel" "minors" "[J") (by decide +kernel)
  have k_2 : ∀ w ∈ wsX50, w ∈ wsX5_layMinors := by decide +kernel
  have k_3 := hts (.constant RX5 122 (-1000001)) (by decide +kernel)
  have k_4 := hts (.fieldLink RX5 26 "ConicRowsModel" "rows" "[J") (by decide +kernel)
  refine lv_iload_n hx hb dX5_layMinors_9 rfl (lv_at hl 1 rfl) ?_
  refine lv_bipush (v := 64) hx hb dX5_layMinors_10 (by decide) ?_
  refine lv_icmp_ge (tgt := 148) hx hb dX5_layMinors_12 (by decide) (fun h => absurd h (by decide)) (fun _ => ?_)
  refine lv_ldc hx hb hown k_3 dX5_layMinors_15 ?_
  refine lv_istore_n (lv' := [(2, .int (-1000001)), (0, .ref o), (1, .int 44)]) hx hb dX5_layMinors_17 rfl hl (by decide) rfl (fun ls hl => ?_)
  refine lv_iconst (v := 0) hx hb dX5_layMinors_18 (by decide) ?_
  refine lv_istore_n (lv' := [(3, .int 0), (2, .int (-1000001)), (0, .ref o), (1, .int 44)]) hx hb dX5_layMinors_19 rfl hl (by decide) rfl (fun ls hl => ?_)
  refine lv_iload_n hx hb dX5_layMinors_20 rfl (lv_at hl 0 rfl) ?_
  refine lv_bipush (v := 6) hx hb dX5_layMinors_21 (by decide) ?_
  refine lv_icmp_ge (tgt := 52) hx hb dX5_layMinors_23 (by decide) (fun h => absurd h (by decide)) (fun _ => ?_)
  refine lv_iload_n hx hb dX5_layMinors_26 rfl (lv_at hl 1 rfl) ?_
  refine lv_ldc hx hb hown k_3 dX5_layMinors_27 ?_
  refine lv_icmp_ne (tgt := 36) hx hb dX5_layMinors_29 (by decide) (fun h => absurd (by decide) h) (fun _ => ?_)
  refine lv_iconst (v := (-1)) hx hb dX5_layMinors_32 (by decide) ?_
  refine lv_goto (tgt := 37) hx hb dX5_layMinors_33 (by decide) ?_
  refine lv_istore_n (lv' := [(2, .int (-1)), (3, .int 0), (0, .ref o), (1, .int 44)]) hx hb dX5_layMinors_37 rfl hl (by decide) rfl (fun ls hl => ?_)
  refine lv_iload_n hx hb dX5_layMinors_38 rfl (lv_at hl 0 rfl) ?_
  refine lv_iload_n hx hb dX5_layMinors_39 rfl (lv_at hl 3 rfl) ?_
  refine lv_iload_n hx hb dX5_layMinors_40 rfl (lv_at hl 1 rfl) ?_
  refine lv_ishr hx hb dX5_layMinors_41 ?_
  refine lv_eqi (v := 44) (by decide) ?_
  refine lv_iconst (v := 1) hx hb dX5_layMinors_42 (by decide) ?_
  refine lv_iand hx hb dX5_layMinors_43 ?_
  refine lv_eqi (v := 0) (by decide) ?_
  refine lv_iadd hx hb dX5_layMinors_44 ?_
  refine lv_eqi (v := (-1)) (by decide) ?_
  refine lv_istore_n (lv' := [(2, .int (-1)), (3, .int 0), (0, .ref o), (1, .int 44)]) hx hb dX5_layMinors_45 rfl hl (by decide) rfl (fun ls hl => ?_)
  refine lv_iinc (v := 1) (lv' := [(3, .int 1), (2, .int (-1)), (0, .ref o), (1, .int 44)]) hx hb dX5_layMinors_46 hl (k := 1) rfl (by decide) (by decide) rfl (fun ls hl => ?_)
  refine lv_goto (tgt := 20) hx hb dX5_layMinors_49 (by decide) ?_
  refine lv_iload_n hx hb dX5_layMinors_20 rfl (lv_at hl 0 rfl) ?_
  refine lv_bipush (v := 6) hx hb dX5_layMinors_21 (by decide) ?_
  refine lv_icmp_ge (tgt := 52) hx hb dX5_layMinors_23 (by decide) (fun h => absurd h (by decide)) (fun _ => ?_)
  refine lv_iload_n hx hb dX5_layMinors_26 rfl (lv_at hl 1 rfl) ?_
  refine lv_ldc hx hb hown k_3 dX5_layMinors_27 ?_
  refine lv_icmp_ne (tgt := 36) hx hb dX5_layMinors_29 (by decide) (fun _ => ?_) (fun h => absurd h (by decide))
  refine lv_iload_n hx hb dX5_layMinors_36 rfl (lv_at hl 1 rfl) ?_
  refine lv_istore_n (lv' := [(2, .int (-1)), (3, .int 1), (0, .ref o), (1, .int 44)]) hx hb dX5_layMinors_37 rfl hl (by decide) rfl (fun ls hl => ?_)
  refine lv_iload_n hx hb dX5_layMinors_38 rfl (lv_at hl 0 rfl) ?_
  refine lv_iload_n hx hb dX5_layMinors_39 rfl (lv_at hl 3 rfl) ?_
  refine lv_iload_n hx hb dX5_layMinors_40 rfl (lv_at hl 1 rfl) ?_
  refine lv_ishr hx hb dX5_layMinors_41 ?_
  refine lv_eqi (v := 22) (by decide) ?_
  refine lv_iconst (v := 1) hx hb dX5_layMinors_42 (by decide) ?_
  refine lv_iand hx hb dX5_layMinors_43 ?_
  refine lv_eqi (v := 0) (by decide) ?_
  refine lv_iadd hx hb dX5_layMinors_44 ?_
  refine lv_eqi (v := (-1)) (by decide) ?_
  refine lv_istore_n (lv' := [(2, .int (-1)), (3, .int 1), (0, .ref o), (1, .int 44)]) hx hb dX5_layMinors_45 rfl hl (by decide) rfl (fun ls hl => ?_)
  refine lv_iinc (v := 2) (lv' := [(3, .int 2), (2, .int (-1)), (0, .ref o), (1, .int 44)]) hx hb dX5_layMinors_46 hl (k := 1) rfl (by decide) (by decide) rfl (fun ls hl => ?_)
  refine lv_goto (tgt := 20) hx hb dX5_layMinors_49 (by decide) ?_
  refine lv_iload_n hx hb dX5_layMinors_20 rfl (lv_at hl 0 rfl) ?_
  refine lv_bipush (v := 6) hx hb dX5_layMinors_21 (by decide) ?_
  refine lv_icmp_ge (tgt := 52) hx hb dX5_layMinors_23 (by decide) (fun h => absurd h (by decide)) (fun _ => ?_)
  refine lv_iload_n hx hb dX5_layMinors_26 rfl (lv_at hl 1 rfl) ?_
  refine lv_ldc hx hb hown k_3 dX5_layMinors_27 ?_
  refine lv_icmp_ne (tgt := 36) hx hb dX5_layMinors_29 (by decide) (fun _ => ?_) (fun h => absurd h (by decide))
  refine lv_iload_n hx hb dX5_layMinors_36 rfl (lv_at hl 1 rfl) ?_
  refine lv_istore_n (lv' := [(2, .int (-1)), (3, .int 2), (0, .ref o), (1, .int 44)]) hx hb dX5_layMinors_37 rfl hl (by decide) rfl (fun ls hl => ?_)
  refine lv_iload_n hx hb dX5_layMinors_38 rfl (lv_at hl 0 rfl) ?_
  refine lv_iload_n hx hb dX5_layMinors_39 rfl (lv_at hl 3 rfl) ?_
  refine lv_iload_n hx hb dX5_layMinors_40 rfl (lv_at hl 1 rfl) ?_
  refine lv_ishr hx hb dX5_layMinors_41 ?_
  refine lv_eqi (v := 11) (by decide) ?_
  refine lv_iconst (v := 1) hx hb dX5_layMinors_42 (by decide) ?_
  refine lv_iand hx hb dX5_layMinors_43 ?_
  refine lv_eqi (v := 1) (by decide) ?_
  refine lv_iadd hx hb dX5_layMinors_44 ?_
  refine lv_eqi (v := 0) (by decide) ?_
  refine lv_istore_n (lv' := [(2, .int 0), (3, .int 2), (0, .ref o), (1, .int 44)]) hx hb dX5_layMinors_45 rfl hl (by decide) rfl (fun ls hl => ?_)
  refine lv_iinc (v := 3) (lv' := [(3, .int 3), (2, .int 0), (0, .ref o), (1, .int 44)]) hx hb dX5_layMinors_46 hl (k := 1) rfl (by decide) (by decide) rfl (fun ls hl => ?_)
  refine lv_goto (tgt := 20) hx hb dX5_layMinors_49 (by decide) ?_
  refine lv_iload_n hx hb dX5_layMinors_20 rfl (lv_at hl 0 rfl) ?_
  refine lv_bipush (v := 6) hx hb dX5_layMinors_21 (by decide) ?_
  refine lv_icmp_ge (tgt := 52) hx hb dX5_layMinors_23 (by decide) (fun h => absurd h (by decide)) (fun _ => ?_)
  refine lv_iload_n hx hb dX5_layMinors_26 rfl (lv_at hl 1 rfl) ?_
  refine lv_ldc hx hb hown k_3 dX5_layMinors_27 ?_
  refine lv_icmp_ne (tgt := 36) hx hb dX5_layMinors_29 (by decide) (fun _ => ?_) (fun h => absurd h (by decide))
  refine lv_iload_n hx hb dX5_layMinors_36 rfl (lv_at hl 1 rfl) ?_
  refine lv_istore_n (lv' := [(2, .int 0), (3, .int 3), (0, .ref o), (1, .int 44)]) hx hb dX5_layMinors_37 rfl hl (by decide) rfl (fun ls hl => ?_)
  refine lv_iload_n hx hb dX5_layMinors_38 rfl (lv_at hl 0 rfl) ?_
  refine lv_iload_n hx hb dX5_layMinors_39 rfl (lv_at hl 3 rfl) ?_
  refine lv_iload_n hx hb dX5_layMinors_40 rfl (lv_at hl 1 rfl) ?_
  refine lv_ishr hx hb dX5_layMinors_41 ?_
  refine lv_eqi (v := 5) (by decide) ?_
  refine lv_iconst (v := 1) hx hb dX5_layMinors_42 (by decide) ?_
  refine lv_iand hx hb dX5_layMinors_43 ?_
  refine lv_eqi (v := 1) (by decide) ?_
  refine lv_iadd hx hb dX5_layMinors_44 ?_
  refine lv_eqi (v := 1) (by decide) ?_
  refine lv_istore_n (lv' := [(2, .int 1), (3, .int 3), (0, .ref o), (1, .int 44)]) hx hb dX5_layMinors_45 rfl hl (by decide) rfl (fun ls hl => ?_)
  refine lv_iinc (v := 4) (lv' := [(3, .int 4), (2, .int 1), (0, .ref o), (1, .int 44)]) hx hb dX5_layMinors_46 hl (k := 1) rfl (by decide) (by decide) rfl (fun ls hl => ?_)
  refine lv_goto (tgt := 20) hx hb dX5_layMinors_49 (by decide) ?_
  refine lv_iload_n hx hb dX5_layMinors_20 rfl (lv_at hl 0 rfl) ?_
  refine lv_bipush (v := 6) hx hb dX5_layMinors_21 (by decide) ?_
  refine lv_icmp_ge (tgt := 52) hx hb dX5_layMinors_23 (by decide) (fun h => absurd h (by decide)) (fun _ => ?_)
  refine lv_iload_n hx hb dX5_layMinors_26 rfl (lv_at hl 1 rfl) ?_
  refine lv_ldc hx hb hown k_3 dX5_layMinors_27 ?_
  refine lv_icmp_ne (tgt := 36) hx hb dX5_layMinors_29 (by decide) (fun _ => ?_) (fun h => absurd h (by decide))
  refine lv_iload_n hx hb dX5_layMinors_36 rfl (lv_at hl 1 rfl) ?_
  refine lv_istore_n (lv' := [(2, .int 1), (3, .int 4), (0, .ref o), (1, .int 44)]) hx hb dX5_layMinors_37 rfl hl (by decide) rfl (fun ls hl => ?_)
  refine lv_iload_n hx hb dX5_layMinors_38 rfl (lv_at hl 0 rfl) ?_
  refine lv_iload_n hx hb dX5_layMinors_39 rfl (lv_at hl 3 rfl) ?_
  refine lv_iload_n hx hb dX5_layMinors_40 rfl (lv_at hl 1 rfl) ?_
  refine lv_ishr hx hb dX5_layMinors_41 ?_
  refine lv_eqi (v := 2) (by decide) ?_
  refine lv_iconst (v := 1) hx hb dX5_layMinors_42 (by decide) ?_
  refine lv_iand hx hb dX5_layMinors_43 ?_
  refine lv_eqi (v := 0) (by decide) ?_
  refine lv_iadd hx hb dX5_layMinors_44 ?_
  refine lv_eqi (v := 1) (by decide) ?_
  refine lv_istore_n (lv' := [(2, .int 1), (3, .int 4), (0, .ref o), (1, .int 44)]) hx hb dX5_layMinors_45 rfl hl (by decide) rfl (fun ls hl => ?_)
  refine lv_iinc (v := 5) (lv' := [(3, .int 5), (2, .int 1), (0, .ref o), (1, .int 44)]) hx hb dX5_layMinors_46 hl (k := 1) rfl (by decide) (by decide) rfl (fun ls hl => ?_)
  refine lv_goto (tgt := 20) hx hb dX5_layMinors_49 (by decide) ?_
  refine lv_iload_n hx hb dX5_layMinors_20 rfl (lv_at hl 0 rfl) ?_
  refine lv_bipush (v := 6) hx hb dX5_layMinors_21 (by decide) ?_
  refine lv_icmp_ge (tgt := 52) hx hb dX5_layMinors_23 (by decide) (fun h => absurd h (by decide)) (fun _ => ?_)
  refine lv_iload_n hx hb dX5_layMinors_26 rfl (lv_at hl 1 rfl) ?_
  refine lv_ldc hx hb hown k_3 dX5_layMinors_27 ?_
  refine lv_icmp_ne (tgt := 36) hx hb dX5_layMinors_29 (by decide) (fun _ => ?_) (fun h => absurd h (by decide))
  refine lv_iload_n hx hb dX5_layMinors_36 rfl (lv_at hl 1 rfl) ?_
  refine lv_istore_n (lv' := [(2, .int 1), (3, .int 5), (0, .ref o), (1, .int 44)]) hx hb dX5_layMinors_37 rfl hl (by decide) rfl (fun ls hl => ?_)
  refine lv_iload_n hx hb dX5_layMinors_38 rfl (lv_at hl 0 rfl) ?_
  refine lv_iload_n hx hb dX5_layMinors_39 rfl (lv_at hl 3 rfl) ?_
  refine lv_iload_n hx hb dX5_layMinors_40 rfl (lv_at hl 1 rfl) ?_
  refine lv_ishr hx hb dX5_layMinors_41 ?_
  refine lv_eqi (v := 1) (by decide) ?_
  refine lv_iconst (v := 1) hx hb dX5_layMinors_42 (by decide) ?_
  refine lv_iand hx hb dX5_layMinors_43 ?_
  refine lv_eqi (v := 1) (by decide) ?_
  refine lv_iadd hx hb dX5_layMinors_44 ?_
  refine lv_eqi (v := 2) (by decide) ?_
  refine lv_istore_n (lv' := [(2, .int 2), (3, .int 5), (0, .ref o), (1, .int 44)]) hx hb dX5_layMinors_45 rfl hl (by decide) rfl (fun ls hl => ?_)
  refine lv_iinc (v := 6) (lv' := [(3, .int 6), (2, .int 2), (0, .ref o), (1, .int 44)]) hx hb dX5_layMinors_46 hl (k := 1) rfl (by decide) (by decide) rfl (fun ls hl => ?_)
  refine lv_goto (tgt := 20) hx hb dX5_layMinors_49 (by decide) ?_
  refine lv_iload_n hx hb dX5_layMinors_20 rfl (lv_at hl 0 rfl) ?_
  refine lv_bipush (v := 6) hx hb dX5_layMinors_21 (by decide) ?_
  refine lv_icmp_ge (tgt := 52) hx hb dX5_layMinors_23 (by decide) (fun _ => ?_) (fun h => absurd (by decide) h)
  refine lv_lconst (v := 0) hx hb dX5_layMinors_52 (by decide) ?_
  refine lv_lstore_n (lv' := [(3, .long 0), (2, .int 2), (0, .ref o), (1, .int 44)]) hx hb dX5_layMinors_53 rfl hl (by decide) rfl (fun ls hl => ?_)
  refine lv_iload_n hx hb dX5_layMinors_54 rfl (lv_at hl 1 rfl) ?_
  refine lv_istore (lv' := [(5, .int 2), (3, .long 0), (2, .int 2), (0, .ref o), (1, .int 44)]) hx hb dX5_layMinors_55 hl (by decide) rfl (fun ls hl => ?_)
  refine lv_iconst (v := 0) hx hb dX5_layMinors_57 (by decide) ?_
  refine lv_istore (lv' := [(6, .int 0), (5, .int 2), (3, .long 0), (2, .int 2), (0, .ref o), (1, .int 44)]) hx hb dX5_layMinors_58 hl (by decide) rfl (fun ls hl => ?_)
  refine lv_iload hx hb dX5_layMinors_60 (lv_at hl 0 rfl) ?_
  refine lv_bipush (v := 6) hx hb dX5_layMinors_62 (by decide) ?_
  refine lv_icmp_ge (tgt := 135) hx hb dX5_layMinors_64 (by decide) (fun h => absurd h (by decide)) (fun _ => ?_)
  refine lv_iload_n hx hb dX5_layMinors_67 rfl (lv_at hl 3 rfl) ?_
  refine lv_iconst (v := 5) hx hb dX5_layMinors_68 (by decide) ?_
  refine lv_icmp_ge (tgt := 135) hx hb dX5_layMinors_69 (by decide) (fun h => absurd h (by decide)) (fun _ => ?_)
  refine lv_iload_n hx hb dX5_layMinors_72 rfl (lv_at hl 5 rfl) ?_
  refine lv_iload hx hb dX5_layMinors_73 (lv_at hl 0 rfl) ?_
  refine lv_ishr hx hb dX5_layMinors_75 ?_
  refine lv_eqi (v := 44) (by decide) ?_
  refine lv_iconst (v := 1) hx hb dX5_layMinors_76 (by decide) ?_
  refine lv_iand hx hb dX5_layMinors_77 ?_
  refine lv_eqi (v := 0) (by decide) ?_
  refine lv_iconst (v := 1) hx hb dX5_layMinors_78 (by decide) ?_
  refine lv_icmp_ne (tgt := 129) hx hb dX5_layMinors_79 (by decide) (fun _ => ?_) (fun h => absurd h (by decide))
  refine lv_iinc (v := 1) (lv' := [(6, .int 1), (5, .int 2), (3, .long 0), (2, .int 2), (0, .ref o), (1, .int 44)]) hx hb dX5_layMinors_129 hl (k := 0) rfl (by decide) (by decide) rfl (fun ls hl => ?_)
  refine lv_goto (tgt := 60) hx hb dX5_layMinors_132 (by decide) ?_
  refine lv_iload hx hb dX5_layMinors_60 (lv_at hl 0 rfl) ?_
  refine lv_bipush (v := 6) hx hb dX5_layMinors_62 (by decide) ?_
  refine lv_icmp_ge (tgt := 135) hx hb dX5_layMinors_64 (by decide) (fun h => absurd h (by decide)) (fun _ => ?_)
  refine lv_iload_n hx hb dX5_layMinors_67 rfl (lv_at hl 3 rfl) ?_
  refine lv_iconst (v := 5) hx hb dX5_layMinors_68 (by decide) ?_
  refine lv_icmp_ge (tgt := 135) hx hb dX5_layMinors_69 (by decide) (fun h => absurd h (by decide)) (fun _ => ?_)
  refine lv_iload_n hx hb dX5_layMinors_72 rfl (lv_at hl 5 rfl) ?_
  refine lv_iload hx hb dX5_layMinors_73 (lv_at hl 0 rfl) ?_
  refine lv_ishr hx hb dX5_layMinors_75 ?_
  refine lv_eqi (v := 22) (by decide) ?_
  refine lv_iconst (v := 1) hx hb dX5_layMinors_76 (by decide) ?_
  refine lv_iand hx hb dX5_layMinors_77 ?_
  refine lv_eqi (v := 0) (by decide) ?_
  refine lv_iconst (v := 1) hx hb dX5_layMinors_78 (by decide) ?_
  refine lv_icmp_ne (tgt := 129) hx hb dX5_layMinors_79 (by decide) (fun _ => ?_) (fun h => absurd h (by decide))
  refine lv_iinc (v := 2) (lv' := [(6, .int 2), (5, .int 2), (3, .long 0), (2, .int 2), (0, .ref o), (1, .int 44)]) hx hb dX5_layMinors_129 hl (k := 0) rfl (by decide) (by decide) rfl (fun ls hl => ?_)
  refine lv_goto (tgt := 60) hx hb dX5_layMinors_132 (by decide) ?_
  refine lv_iload hx hb dX5_layMinors_60 (lv_at hl 0 rfl) ?_
  refine lv_bipush (v := 6) hx hb dX5_layMinors_62 (by decide) ?_
  refine lv_icmp_ge (tgt := 135) hx hb dX5_layMinors_64 (by decide) (fun h => absurd h (by decide)) (fun _ => ?_)
  refine lv_iload_n hx hb dX5_layMinors_67 rfl (lv_at hl 3 rfl) ?_
  refine lv_iconst (v := 5) hx hb dX5_layMinors_68 (by decide) ?_
  refine lv_icmp_ge (tgt := 135) hx hb dX5_layMinors_69 (by decide) (fun h => absurd h (by decide)) (fun _ => ?_)
  refine lv_iload_n hx hb dX5_layMinors_72 rfl (lv_at hl 5 rfl) ?_
  refine lv_iload hx hb dX5_layMinors_73 (lv_at hl 0 rfl) ?_
  refine lv_ishr hx hb dX5_layMinors_75 ?_
  refine lv_eqi (v := 11) (by decide) ?_
  refine lv_iconst (v := 1) hx hb dX5_layMinors_76 (by decide) ?_
  refine lv_iand hx hb dX5_layMinors_77 ?_
  refine lv_eqi (v := 1) (by decide) ?_
  refine lv_iconst (v := 1) hx hb dX5_layMinors_78 (by decide) ?_
  refine lv_icmp_ne (tgt := 129) hx hb dX5_layMinors_79 (by decide) (fun h => absurd (by decide) h) (fun _ => ?_)
  refine lv_aload_n hx hb dX5_layMinors_82 rfl (lv_at hl 4 rfl) ?_
  refine va_get (D := D) (ci := 5) (v := .ref mR) (C := RX5) (T := TX5) (N := 17) hx hb hts k_2 hown hK.1 hP 0 rfl rfl 5 (by decide) k_4 (fun _ h9 => h9) rfl dX5_layMinors_83 ?_
  refine lv_bipush (v := 6) hx hb dX5_layMinors_86 (by decide) ?_
  refine lv_iload_n hx hb dX5_layMinors_88 rfl (lv_at hl 3 rfl) ?_
  refine lv_imul hx hb dX5_layMinors_89 ?_
  refine lv_eqi (v := 12) (by decide) ?_
  refine lv_iload hx hb dX5_layMinors_90 (lv_at hl 0 rfl) ?_
  refine lv_iadd hx hb dX5_layMinors_92 ?_
  refine lv_eqi (v := 14) (by decide) ?_
  refine ld_l hx hb hK.1 hP 1 1 rfl rfl (ix_lit (by decide)) 14 (by decide) (v := fr 14) rfl dX5_layMinors_93 ?_
  refine lv_aload_n hx hb dX5_layMinors_94 rfl (lv_at hl 4 rfl) ?_
  refine va_get (D := D) (ci := 5) (v := .ref mD) (C := RX5) (T := TX5) (N := 17) hx hb hts k_2 hown hK.1 hP 0 rfl rfl 6 (by decide) k_1 (fun _ h9 => h9) rfl dX5_layMinors_95 ?_
  refine lv_iload_n hx hb dX5_layMinors_98 rfl (lv_at hl 5 rfl) ?_
  refine lv_iconst (v := 1) hx hb dX5_layMinors_99 (by decide) ?_
  refine lv_iload hx hb dX5_layMinors_100 (lv_at hl 0 rfl) ?_
  refine lv_ishl hx hb dX5_layMinors_102 ?_
  refine lv_eqi (v := 4) (by decide) ?_
  refine lv_isub hx hb dX5_layMinors_103 ?_
  refine lv_eqi (v := 40) (by decide) ?_
  refine ld_l hx hb hK.1 hP 2 1 rfl rfl (ix_lit (by decide)) 40 (by decide) (v := z5_mw40 fr) rfl dX5_layMinors_104 ?_
  refine lv_lmul hx hb dX5_layMinors_105 ?_
  refine lv_lstore (lv' := [(7, .long ((fr 14) * (z5_mw40 fr))), (6, .int 2), (5, .int 2), (3, .long 0), (2, .int 2), (0, .ref o), (1, .int 44)]) hx hb dX5_layMinors_106 hl (by decide) rfl (fun ls hl => ?_)
  refine lv_lload_n hx hb dX5_layMinors_108 rfl (lv_at hl 3 rfl) ?_
  refine lv_iload hx hb dX5_layMinors_109 (lv_at hl 2 rfl) ?_
  refine lv_iconst (v := 2) hx hb dX5_layMinors_111 (by decide) ?_
  refine lv_irem hx hb dX5_layMinors_112 (by decide) ?_
  refine lv_eqi (v := 0) (by decide) ?_
  refine lv_if_ne (tgt := 121) hx hb dX5_layMinors_113 (by decide) (fun h => absurd (by decide) h) (fun _ => ?_)
  refine lv_lload hx hb dX5_layMinors_116 (lv_at hl 0 rfl) ?_
  refine lv_goto (tgt := 124) hx hb dX5_layMinors_118 (by decide) ?_
  refine lv_ladd hx hb dX5_layMinors_124 ?_
  refine lv_lstore_n (lv' := [(3, .long (0 + ((fr 14) * (z5_mw40 fr)))), (7, .long ((fr 14) * (z5_mw40 fr))), (6, .int 2), (5, .int 2), (2, .int 2), (0, .ref o), (1, .int 44)]) hx hb dX5_layMinors_125 rfl hl (by decide) rfl (fun ls hl => ?_)
  refine lv_iinc (v := 1) (lv' := [(5, .int 1), (3, .long (0 + ((fr 14) * (z5_mw40 fr)))), (7, .long ((fr 14) * (z5_mw40 fr))), (6, .int 2), (2, .int 2), (0, .ref o), (1, .int 44)]) hx hb dX5_layMinors_126 hl (k := 3) rfl (by decide) (by decide) rfl (fun ls hl => ?_)
  refine lv_iinc (v := 3) (lv' := [(6, .int 3), (5, .int 1), (3, .long (0 + ((fr 14) * (z5_mw40 fr)))), (7, .long ((fr 14) * (z5_mw40 fr))), (2, .int 2), (0, .ref o), (1, .int 44)]) hx hb dX5_layMinors_129 hl (k := 3) rfl (by decide) (by decide) rfl (fun ls hl => ?_)
  refine lv_goto (tgt := 60) hx hb dX5_layMinors_132 (by decide) ?_
  refine lv_iload hx hb dX5_layMinors_60 (lv_at hl 0 rfl) ?_
  refine lv_bipush (v := 6) hx hb dX5_layMinors_62 (by decide) ?_
  refine lv_icmp_ge (tgt := 135) hx hb dX5_layMinors_64 (by decide) (fun h => absurd h (by decide)) (fun _ => ?_)
  refine lv_iload_n hx hb dX5_layMinors_67 rfl (lv_at hl 4 rfl) ?_
  refine lv_iconst (v := 5) hx hb dX5_layMinors_68 (by decide) ?_
  refine lv_icmp_ge (tgt := 135) hx hb dX5_layMinors_69 (by decide) (fun h => absurd h (by decide)) (fun _ => ?_)
  refine lv_iload_n hx hb dX5_layMinors_72 rfl (lv_at hl 6 rfl) ?_
  refine lv_iload hx hb dX5_layMinors_73 (lv_at hl 0 rfl) ?_
  refine lv_ishr hx hb dX5_layMinors_75 ?_
  refine lv_eqi (v := 5) (by decide) ?_
  refine lv_iconst (v := 1) hx hb dX5_layMinors_76 (by decide) ?_
  refine lv_iand hx hb dX5_layMinors_77 ?_
  refine lv_eqi (v := 1) (by decide) ?_
  refine lv_iconst (v := 1) hx hb dX5_layMinors_78 (by decide) ?_
  refine lv_icmp_ne (tgt := 129) hx hb dX5_layMinors_79 (by decide) (fun h => absurd (by decide) h) (fun _ => ?_)
  refine lv_aload_n hx hb dX5_layMinors_82 rfl (lv_at hl 5 rfl) ?_
  refine va_get (D := D) (ci := 5) (v := .ref mR) (C := RX5) (T := TX5) (N := 17) hx hb hts k_2 hown hK.1 hP 0 rfl rfl 5 (by decide) k_4 (fun _ h9 => h9) rfl dX5_layMinors_83 ?_
  refine lv_bipush (v := 6) hx hb dX5_layMinors_86 (by decide) ?_
  refine lv_iload_n hx hb dX5_layMinors_88 rfl (lv_at hl 4 rfl) ?_
  refine lv_imul hx hb dX5_layMinors_89 ?_
  refine lv_eqi (v := 12) (by decide) ?_
  refine lv_iload hx hb dX5_layMinors_90 (lv_at hl 0 rfl) ?_
  refine lv_iadd hx hb dX5_layMinors_92 ?_
  refine lv_eqi (v := 15) (by decide) ?_
  refine ld_l hx hb hK.1 hP 1 1 rfl rfl (ix_lit (by decide)) 15 (by decide) (v := fr 15) rfl dX5_layMinors_93 ?_
  refine lv_aload_n hx hb dX5_layMinors_94 rfl (lv_at hl 5 rfl) ?_
  refine va_get (D := D) (ci := 5) (v := .ref mD) (C := RX5) (T := TX5) (N := 17) hx hb hts k_2 hown hK.1 hP 0 rfl rfl 6 (by decide) k_1 (fun _ h9 => h9) rfl dX5_layMinors_95 ?_
  refine lv_iload_n hx hb dX5_layMinors_98 rfl (lv_at hl 6 rfl) ?_
  refine lv_iconst (v := 1) hx hb dX5_layMinors_99 (by decide) ?_
  refine lv_iload hx hb dX5_layMinors_100 (lv_at hl 0 rfl) ?_
  refine lv_ishl hx hb dX5_layMinors_102 ?_
  refine lv_eqi (v := 8) (by decide) ?_
  refine lv_isub hx hb dX5_layMinors_103 ?_
  refine lv_eqi (v := 36) (by decide) ?_
  refine ld_l hx hb hK.1 hP 2 1 rfl rfl (ix_lit (by decide)) 36 (by decide) (v := z5_mw36 fr) rfl dX5_layMinors_104 ?_
  refine lv_lmul hx hb dX5_layMinors_105 ?_
  refine lv_lstore (lv' := [(7, .long ((fr 15) * (z5_mw36 fr))), (6, .int 3), (5, .int 1), (3, .long (0 + ((fr 14) * (z5_mw40 fr)))), (2, .int 2), (0, .ref o), (1, .int 44)]) hx hb dX5_layMinors_106 hl (by decide) rfl (fun ls hl => ?_)
  refine lv_lload_n hx hb dX5_layMinors_108 rfl (lv_at hl 3 rfl) ?_
  refine lv_iload hx hb dX5_layMinors_109 (lv_at hl 2 rfl) ?_
  refine lv_iconst (v := 2) hx hb dX5_layMinors_111 (by decide) ?_
  refine lv_irem hx hb dX5_layMinors_112 (by decide) ?_
  refine lv_eqi (v := 1) (by decide) ?_
  refine lv_if_ne (tgt := 121) hx hb dX5_layMinors_113 (by decide) (fun _ => ?_) (fun h => absurd h (by decide))
  refine lv_lload hx hb dX5_layMinors_121 (lv_at hl 0 rfl) ?_
  refine lv_lneg hx hb dX5_layMinors_123 ?_
  refine lv_ladd hx hb dX5_layMinors_124 ?_
  refine lv_lstore_n (lv' := [(3, .long ((0 + ((fr 14) * (z5_mw40 fr))) + (-((fr 15) * (z5_mw36 fr))))), (7, .long ((fr 15) * (z5_mw36 fr))), (6, .int 3), (5, .int 1), (2, .int 2), (0, .ref o), (1, .int 44)]) hx hb dX5_layMinors_125 rfl hl (by decide) rfl (fun ls hl => ?_)
  refine lv_iinc (v := 0) (lv' := [(5, .int 0), (3, .long ((0 + ((fr 14) * (z5_mw40 fr))) + (-((fr 15) * (z5_mw36 fr))))), (7, .long ((fr 15) * (z5_mw36 fr))), (6, .int 3), (2, .int 2), (0, .ref o), (1, .int 44)]) hx hb dX5_layMinors_126 hl (k := 3) rfl (by decide) (by decide) rfl (fun ls hl => ?_)
  refine lv_iinc (v := 4) (lv' := [(6, .int 4), (5, .int 0), (3, .long ((0 + ((fr 14) * (z5_mw40 fr))) + (-((fr 15) * (z5_mw36 fr))))), (7, .long ((fr 15) * (z5_mw36 fr))), (2, .int 2), (0, .ref o), (1, .int 44)]) hx hb dX5_layMinors_129 hl (k := 3) rfl (by decide) (by decide) rfl (fun ls hl => ?_)
  refine lv_goto (tgt := 60) hx hb dX5_layMinors_132 (by decide) ?_
  refine lv_iload hx hb dX5_layMinors_60 (lv_at hl 0 rfl) ?_
  refine lv_bipush (v := 6) hx hb dX5_layMinors_62 (by decide) ?_
  refine lv_icmp_ge (tgt := 135) hx hb dX5_layMinors_64 (by decide) (fun h => absurd h (by decide)) (fun _ => ?_)
  refine lv_iload_n hx hb dX5_layMinors_67 rfl (lv_at hl 4 rfl) ?_
  refine lv_iconst (v := 5) hx hb dX5_layMinors_68 (by decide) ?_
  refine lv_icmp_ge (tgt := 135) hx hb dX5_layMinors_69 (by decide) (fun h => absurd h (by decide)) (fun _ => ?_)
  refine lv_iload_n hx hb dX5_layMinors_72 rfl (lv_at hl 6 rfl) ?_
  refine lv_iload hx hb dX5_layMinors_73 (lv_at hl 0 rfl) ?_
  refine lv_ishr hx hb dX5_layMinors_75 ?_
  refine lv_eqi (v := 2) (by decide) ?_
  refine lv_iconst (v := 1) hx hb dX5_layMinors_76 (by decide) ?_
  refine lv_iand hx hb dX5_layMinors_77 ?_
  refine lv_eqi (v := 0) (by decide) ?_
  refine lv_iconst (v := 1) hx hb dX5_layMinors_78 (by decide) ?_
  refine lv_icmp_ne (tgt := 129) hx hb dX5_layMinors_79 (by decide) (fun _ => ?_) (fun h => absurd h (by decide))
  refine lv_iinc (v := 5) (lv' := [(6, .int 5), (5, .int 0), (3, .long ((0 + ((fr 14) * (z5_mw40 fr))) + (-((fr 15) * (z5_mw36 fr))))), (7, .long ((fr 15) * (z5_mw36 fr))), (2, .int 2), (0, .ref o), (1, .int 44)]) hx hb dX5_layMinors_129 hl (k := 0) rfl (by decide) (by decide) rfl (fun ls hl => ?_)
  refine lv_goto (tgt := 60) hx hb dX5_layMinors_132 (by decide) ?_
  refine lv_iload hx hb dX5_layMinors_60 (lv_at hl 0 rfl) ?_
  refine lv_bipush (v := 6) hx hb dX5_layMinors_62 (by decide) ?_
  refine lv_icmp_ge (tgt := 135) hx hb dX5_layMinors_64 (by decide) (fun h => absurd h (by decide)) (fun _ => ?_)
  refine lv_iload_n hx hb dX5_layMinors_67 rfl (lv_at hl 4 rfl) ?_
  refine lv_iconst (v := 5) hx hb dX5_layMinors_68 (by decide) ?_
  refine lv_icmp_ge (tgt := 135) hx hb dX5_layMinors_69 (by decide) (fun h => absurd h (by decide)) (fun _ => ?_)
  refine lv_iload_n hx hb dX5_layMinors_72 rfl (lv_at hl 6 rfl) ?_
  refine lv_iload hx hb dX5_layMinors_73 (lv_at hl 0 rfl) ?_
  refine lv_ishr hx hb dX5_layMinors_75 ?_
  refine lv_eqi (v := 1) (by decide) ?_
  refine lv_iconst (v := 1) hx hb dX5_layMinors_76 (by decide) ?_
  refine lv_iand hx hb dX5_layMinors_77 ?_
  refine lv_eqi (v := 1) (by decide) ?_
  refine lv_iconst (v := 1) hx hb dX5_layMinors_78 (by decide) ?_
  refine lv_icmp_ne (tgt := 129) hx hb dX5_layMinors_79 (by decide) (fun h => absurd (by decide) h) (fun _ => ?_)
  refine lv_aload_n hx hb dX5_layMinors_82 rfl (lv_at hl 5 rfl) ?_
  refine va_get (D := D) (ci := 5) (v := .ref mR) (C := RX5) (T := TX5) (N := 17) hx hb hts k_2 hown hK.1 hP 0 rfl rfl 5 (by decide) k_4 (fun _ h9 => h9) rfl dX5_layMinors_83 ?_
  refine lv_bipush (v := 6) hx hb dX5_layMinors_86 (by decide) ?_
  refine lv_iload_n hx hb dX5_layMinors_88 rfl (lv_at hl 4 rfl) ?_
  refine lv_imul hx hb dX5_layMinors_89 ?_
  refine lv_eqi (v := 12) (by decide) ?_
  refine lv_iload hx hb dX5_layMinors_90 (lv_at hl 0 rfl) ?_
  refine lv_iadd hx hb dX5_layMinors_92 ?_
  refine lv_eqi (v := 17) (by decide) ?_
  refine ld_l hx hb hK.1 hP 1 1 rfl rfl (ix_lit (by decide)) 17 (by decide) (v := fr 17) rfl dX5_layMinors_93 ?_
  refine lv_aload_n hx hb dX5_layMinors_94 rfl (lv_at hl 5 rfl) ?_
  refine va_get (D := D) (ci := 5) (v := .ref mD) (C := RX5) (T := TX5) (N := 17) hx hb hts k_2 hown hK.1 hP 0 rfl rfl 6 (by decide) k_1 (fun _ h9 => h9) rfl dX5_layMinors_95 ?_
  refine lv_iload_n hx hb dX5_layMinors_98 rfl (lv_at hl 6 rfl) ?_
  refine lv_iconst (v := 1) hx hb dX5_layMinors_99 (by decide) ?_
  refine lv_iload hx hb dX5_layMinors_100 (lv_at hl 0 rfl) ?_
  refine lv_ishl hx hb dX5_layMinors_102 ?_
  refine lv_eqi (v := 32) (by decide) ?_
  refine lv_isub hx hb dX5_layMinors_103 ?_
  refine lv_eqi (v := 12) (by decide) ?_
  refine ld_l hx hb hK.1 hP 2 1 rfl rfl (ix_lit (by decide)) 12 (by decide) (v := z5_mw12 fr) rfl dX5_layMinors_104 ?_
  refine lv_lmul hx hb dX5_layMinors_105 ?_
  refine lv_lstore (lv' := [(7, .long ((fr 17) * (z5_mw12 fr))), (6, .int 5), (5, .int 0), (3, .long ((0 + ((fr 14) * (z5_mw40 fr))) + (-((fr 15) * (z5_mw36 fr))))), (2, .int 2), (0, .ref o), (1, .int 44)]) hx hb dX5_layMinors_106 hl (by decide) rfl (fun ls hl => ?_)
  refine lv_lload_n hx hb dX5_layMinors_108 rfl (lv_at hl 3 rfl) ?_
  refine lv_iload hx hb dX5_layMinors_109 (lv_at hl 2 rfl) ?_
  refine lv_iconst (v := 2) hx hb dX5_layMinors_111 (by decide) ?_
  refine lv_irem hx hb dX5_layMinors_112 (by decide) ?_
  refine lv_eqi (v := 0) (by decide) ?_
  refine lv_if_ne (tgt := 121) hx hb dX5_layMinors_113 (by decide) (fun h => absurd (by decide) h) (fun _ => ?_)
  refine lv_lload hx hb dX5_layMinors_116 (lv_at hl 0 rfl) ?_
  refine lv_goto (tgt := 124) hx hb dX5_layMinors_118 (by decide) ?_
  refine lv_ladd hx hb dX5_layMinors_124 ?_
  refine lv_lstore_n (lv' := [(3, .long (((0 + ((fr 14) * (z5_mw40 fr))) + (-((fr 15) * (z5_mw36 fr)))) + ((fr 17) * (z5_mw12 fr)))), (7, .long ((fr 17) * (z5_mw12 fr))), (6, .int 5), (5, .int 0), (2, .int 2), (0, .ref o), (1, .int 44)]) hx hb dX5_layMinors_125 rfl hl (by decide) rfl (fun ls hl => ?_)
  refine lv_iinc (v := (-1)) (lv' := [(5, .int (-1)), (3, .long (((0 + ((fr 14) * (z5_mw40 fr))) + (-((fr 15) * (z5_mw36 fr)))) + ((fr 17) * (z5_mw12 fr)))), (7, .long ((fr 17) * (z5_mw12 fr))), (6, .int 5), (2, .int 2), (0, .ref o), (1, .int 44)]) hx hb dX5_layMinors_126 hl (k := 3) rfl (by decide) (by decide) rfl (fun ls hl => ?_)
  refine lv_iinc (v := 6) (lv' := [(6, .int 6), (5, .int (-1)), (3, .long (((0 + ((fr 14) * (z5_mw40 fr))) + (-((fr 15) * (z5_mw36 fr)))) + ((fr 17) * (z5_mw12 fr)))), (7, .long ((fr 17) * (z5_mw12 fr))), (2, .int 2), (0, .ref o), (1, .int 44)]) hx hb dX5_layMinors_129 hl (k := 3) rfl (by decide) (by decide) rfl (fun ls hl => ?_)
  refine lv_goto (tgt := 60) hx hb dX5_layMinors_132 (by decide) ?_
  refine lv_iload hx hb dX5_layMinors_60 (lv_at hl 0 rfl) ?_
  refine lv_bipush (v := 6) hx hb dX5_layMinors_62 (by decide) ?_
  refine lv_icmp_ge (tgt := 135) hx hb dX5_layMinors_64 (by decide) (fun _ => ?_) (fun h => absurd (by decide) h)
  refine lv_aload_n hx hb dX5_layMinors_135 rfl (lv_at hl 5 rfl) ?_
  refine va_get (D := D) (ci := 5) (v := .ref mD) (C := RX5) (T := TX5) (N := 17) hx hb hts k_2 hown hK.1 hP 0 rfl rfl 6 (by decide) k_1 (fun _ h9 => h9) rfl dX5_layMinors_136 ?_
  refine lv_iload_n hx hb dX5_layMinors_139 rfl (lv_at hl 6 rfl) ?_
  refine lv_lload_n hx hb dX5_layMinors_140 rfl (lv_at hl 2 rfl) ?_
  refine st_l hx hb hK.1 hP hD hS 2 1 rfl rfl (ix_lit (by decide)) 44 (by decide) dX5_layMinors_141 (fun H locs hP hD hS => ?_)
  have hP : va_P D vwCl [kM o mP mL mC mN mF mR mD mV mX mA mK cm mT pm mU mH mI, kJ mR cJ 30 fr, kJ mD cJ 64 (vp_updL (z5_mm44 fr fd) 44 (((0 + ((fr 14) * (z5_mw40 fr))) + (-((fr 15) * (z5_mw36 fr)))) + ((fr 17) * (z5_mw12 fr))))] H := hP
  have hD : va_D A [kM o mP mL mC mN mF mR mD mV mX mA mK cm mT pm mU mH mI, kJ mR cJ 30 fr, kJ mD cJ 64 (vp_updL (z5_mm44 fr fd) 44 (((0 + ((fr 14) * (z5_mw40 fr))) + (-((fr 15) * (z5_mw36 fr)))) + ((fr 17) * (z5_mw12 fr))))] := hD
  have hP : va_P D vwCl [kM o mP mL mC mN mF mR mD mV mX mA mK cm mT pm mU mH mI, kJ mR cJ 30 fr, kJ mD cJ 64 (z5_mm45 fr fd)] H := hP
  have hD : va_D A [kM o mP mL mC mN mF mR mD mV mX mA mK cm mT pm mU mH mI, kJ mR cJ 30 fr, kJ mD cJ 64 (z5_mm45 fr fd)] := hD
  refine lv_iinc (v := 45) (lv' := [(1, .int 45), (6, .int 6), (5, .int (-1)), (3, .long (((0 + ((fr 14) * (z5_mw40 fr))) + (-((fr 15) * (z5_mw36 fr)))) + ((fr 17) * (z5_mw12 fr)))), (7, .long ((fr 17) * (z5_mw12 fr))), (2, .int 2), (0, .ref o)]) hx hb dX5_layMinors_142 hl (k := 6) rfl (by decide) (by decide) rfl (fun ls hl => ?_)
  refine lv_goto (tgt := 9) hx hb dX5_layMinors_145 (by decide) ?_
  exact sg_X5_layMinors_45 hx hb hr hml hown hts hlk hK hA hP hD hS ls (lv_sub hl [6, 0] rfl)
set_option maxHeartbeats 4000000 in
set_option maxRecDepth 100000 in
theorem sg_X5_layMinors_43 {l : Launch} {D : va_G} {cI cJ : ClassId} {pG : Program} {eG : Env} {sG : State} {mG : MethodId} {below : List Frame} {meth : Method} {cG : Code} {A : Nat → Prop} {H : Heap} {locs : List Loc} {o : Nat} {mP : Nat} {mL : Nat} {mC : Nat} {mN : Nat} {mF : Nat} {mR : Nat} {mD : Nat} {mV : Nat} {mX : Nat} {mA : Nat} {mK : Nat} {mT : Nat} {mU : Nat} {mH : Nat} {mI : Nat} {cm : Int32} {pm : Int32} {fr : Nat → Int64} {fd : Nat → Int64} (hx : pG.tables.exec = Jvm.exec) (hb : cG.code = cX5_layMinors) (hr : meth.sig.returnType = none) (hml : cG.maxLocals = 9) (hown : sG.vm.findClass RX5 = some mG.cls) (hts : ∀ x ∈ wsX5_layMinors, x.before ([.ref o] : List Value).toArray sG = true) (hlk : meth.locks = false) (hK : gd_K D cI cJ sG) (hA : ∀ q : Nat, sG.heap.size ≤ q → A q) (hP : va_P D vwCl [kM o mP mL mC mN mF mR mD mV mX mA mK cm mT pm mU mH mI, kJ mR cJ 30 fr, kJ mD cJ 64 (z5_mm43 fr fd)] H) (hD : va_D A [kM o mP mL mC mN mF mR mD mV mX mA mK cm mT pm mU mH mI, kJ mR cJ 30 fr, kJ mD cJ 64 (z5_mm43 fr fd)]) (hS : va_S A sG.heap H locs) (ls : Array Slot) (hl : lv_has ls 9 [(0, .ref o), (1, .int 43)]) : W pG l eG (headSpec wsX5_layMinors ({ frames := 0, cells := 0, slots := 0, locals := 0 })).room sG mG ([.ref o] : List Value).toArray below meth cG H locs 0 0 (MQ below ((qe_v (fun _ : Unit => True) (fun uu => [kM o mP mL mC mN mF mR mD mV mX mA mK cm mT pm mU mH mI, kJ mR cJ 30 fr, kJ mD cJ 64 (z5_layMinors_f2 fr fd)])) D A) ([.ref o] : List Value).toArray sG 0 0 A) (F0 mG 9 ls []) := by
  have k_1 := hts (.fieldLink RX5 29 "ConicRowsModel" "minors" "[J") (by decide +kernel)
  have k_2 : ∀ w ∈ wsX50, w ∈ wsX5_layMinors := by decide +kernel
  have k_3 := hts (.constant RX5 122 (-1000001)) (by decide +kernel)
  have k_4 := hts (.fieldLink RX5 26 "ConicRowsModel" "rows" "[J") (by decide +kernel)
  refine lv_iload_n hx hb dX5_layMinors_9 rfl (lv_at hl 1 rfl) ?_
  refine lv_bipush (v := 64) hx hb dX5_layMinors_10 (by decide) ?_
  refine lv_icmp_ge (tgt := 148) hx hb dX5_layMinors_12 (by decide) (fun h => absurd h (by decide)) (fun _ => ?_)
  refine lv_ldc hx hb hown k_3 dX5_layMinors_15 ?_
  refine lv_istore_n (lv' := [(2, .int (-1000001)), (0, .ref o), (1, .int 43)]) hx hb dX5_layMinors_17 rfl hl (by decide) rfl (fun ls hl => ?_)
  refine lv_iconst (v := 0) hx hb dX5_layMinors_18 (by decide) ?_
  refine lv_istore_n (lv' := [(3, .int 0), (2, .int (-1000001)), (0, .ref o), (1, .int 43)]) hx hb dX5_layMinors_19 rfl hl (by decide) rfl (fun ls hl => ?_)
  refine lv_iload_n hx hb dX5_layMinors_20 rfl (lv_at hl 0 rfl) ?_
  refine lv_bipush (v := 6) hx hb dX5_layMinors_21 (by decide) ?_
  refine lv_icmp_ge (tgt := 52) hx hb dX5_layMinors_23 (by decide) (fun h => absurd h (by decide)) (fun _ => ?_)
  refine lv_iload_n hx hb dX5_layMinors_26 rfl (lv_at hl 1 rfl) ?_
  refine lv_ldc hx hb hown k_3 dX5_layMinors_27 ?_
  refine lv_icmp_ne (tgt := 36) hx hb dX5_layMinors_29 (by decide) (fun h => absurd (by decide) h) (fun _ => ?_)
  refine lv_iconst (v := (-1)) hx hb dX5_layMinors_32 (by decide) ?_
  refine lv_goto (tgt := 37) hx hb dX5_layMinors_33 (by decide) ?_
  refine lv_istore_n (lv' := [(2, .int (-1)), (3, .int 0), (0, .ref o), (1, .int 43)]) hx hb dX5_layMinors_37 rfl hl (by decide) rfl (fun ls hl => ?_)
  refine lv_iload_n hx hb dX5_layMinors_38 rfl (lv_at hl 0 rfl) ?_
  refine lv_iload_n hx hb dX5_layMinors_39 rfl (lv_at hl 3 rfl) ?_
  refine lv_iload_n hx hb dX5_layMinors_40 rfl (lv_at hl 1 rfl) ?_
  refine lv_ishr hx hb dX5_layMinors_41 ?_
  refine lv_eqi (v := 43) (by decide) ?_
  refine lv_iconst (v := 1) hx hb dX5_layMinors_42 (by decide) ?_
  refine lv_iand hx hb dX5_layMinors_43 ?_
  refine lv_eqi (v := 1) (by decide) ?_
  refine lv_iadd hx hb dX5_layMinors_44 ?_
  refine lv_eqi (v := 0) (by decide) ?_
  refine lv_istore_n (lv' := [(2, .int 0), (3, .int 0), (0, .ref o), (1, .int 43)]) hx hb dX5_layMinors_45 rfl hl (by decide) rfl (fun ls hl => ?_)
  refine lv_iinc (v := 1) (lv' := [(3, .int 1), (2, .int 0), (0, .ref o), (1, .int 43)]) hx hb dX5_layMinors_46 hl (k := 1) rfl (by decide) (by decide) rfl (fun ls hl => ?_)
  refine lv_goto (tgt := 20) hx hb dX5_layMinors_49 (by decide) ?_
  refine lv_iload_n hx hb dX5_layMinors_20 rfl (lv_at hl 0 rfl) ?_
  refine lv_bipush (v := 6) hx hb dX5_layMinors_21 (by decide) ?_
  refine lv_icmp_ge (tgt := 52) hx hb dX5_layMinors_23 (by decide) (fun h => absurd h (by decide)) (fun _ => ?_)
  refine lv_iload_n hx hb dX5_layMinors_26 rfl (lv_at hl 1 rfl) ?_
  refine lv_ldc hx hb hown k_3 dX5_layMinors_27 ?_
  refine lv_icmp_ne (tgt := 36) hx hb dX5_layMinors_29 (by decide) (fun _ => ?_) (fun h => absurd h (by decide))
  refine lv_iload_n hx hb dX5_layMinors_36 rfl (lv_at hl 1 rfl) ?_
  refine lv_istore_n (lv' := [(2, .int 0), (3, .int 1), (0, .ref o), (1, .int 43)]) hx hb dX5_layMinors_37 rfl hl (by decide) rfl (fun ls hl => ?_)
  refine lv_iload_n hx hb dX5_layMinors_38 rfl (lv_at hl 0 rfl) ?_
  refine lv_iload_n hx hb dX5_layMinors_39 rfl (lv_at hl 3 rfl) ?_
  refine lv_iload_n hx hb dX5_layMinors_40 rfl (lv_at hl 1 rfl) ?_
  refine lv_ishr hx hb dX5_layMinors_41 ?_
  refine lv_eqi (v := 21) (by decide) ?_
  refine lv_iconst (v := 1) hx hb dX5_layMinors_42 (by decide) ?_
  refine lv_iand hx hb dX5_layMinors_43 ?_
  refine lv_eqi (v := 1) (by decide) ?_
  refine lv_iadd hx hb dX5_layMinors_44 ?_
  refine lv_eqi (v := 1) (by decide) ?_
  refine lv_istore_n (lv' := [(2, .int 1), (3, .int 1), (0, .ref o), (1, .int 43)]) hx hb dX5_layMinors_45 rfl hl (by decide) rfl (fun ls hl => ?_)
  refine lv_iinc (v := 2) (lv' := [(3, .int 2), (2, .int 1), (0, .ref o), (1, .int 43)]) hx hb dX5_layMinors_46 hl (k := 1) rfl (by decide) (by decide) rfl (fun ls hl => ?_)
  refine lv_goto (tgt := 20) hx hb dX5_layMinors_49 (by decide) ?_
  refine lv_iload_n hx hb dX5_layMinors_20 rfl (lv_at hl 0 rfl) ?_
  refine lv_bipush (v := 6) hx hb dX5_layMinors_21 (by decide) ?_
  refine lv_icmp_ge (tgt := 52) hx hb dX5_layMinors_23 (by decide) (fun h => absurd h (by decide)) (fun _ => ?_)
  refine lv_iload_n hx hb dX5_layMinors_26 rfl (lv_at hl 1 rfl) ?_
  refine lv_ldc hx hb hown k_3 dX5_layMinors_27 ?_
  refine lv_icmp_ne (tgt := 36) hx hb dX5_layMinors_29 (by decide) (fun _ => ?_) (fun h => absurd h (by decide))
  refine lv_iload_n hx hb dX5_layMinors_36 rfl (lv_at hl 1 rfl) ?_
  refine lv_istore_n (lv' := [(2, .int 1), (3, .int 2), (0, .ref o), (1, .int 43)]) hx hb dX5_layMinors_37 rfl hl (by decide) rfl (fun ls hl => ?_)
  refine lv_iload_n hx hb dX5_layMinors_38 rfl (lv_at hl 0 rfl) ?_
  refine lv_iload_n hx hb dX5_layMinors_39 rfl (lv_at hl 3 rfl) ?_
  refine lv_iload_n hx hb dX5_layMinors_40 rfl (lv_at hl 1 rfl) ?_
  refine lv_ishr hx hb dX5_layMinors_41 ?_
  refine lv_eqi (v := 10) (by decide) ?_
  refine lv_iconst (v := 1) hx hb dX5_layMinors_42 (by decide) ?_
  refine lv_iand hx hb dX5_layMinors_43 ?_
  refine lv_eqi (v := 0) (by decide) ?_
  refine lv_iadd hx hb dX5_layMinors_44 ?_
  refine lv_eqi (v := 1) (by decide) ?_
  refine lv_istore_n (lv' := [(2, .int 1), (3, .int 2), (0, .ref o), (1, .int 43)]) hx hb dX5_layMinors_45 rfl hl (by decide) rfl (fun ls hl => ?_)
  refine lv_iinc (v := 3) (lv' := [(3, .int 3), (2, .int 1), (0, .ref o), (1, .int 43)]) hx hb dX5_layMinors_46 hl (k := 1) rfl (by decide) (by decide) rfl (fun ls hl => ?_)
  refine lv_goto (tgt := 20) hx hb dX5_layMinors_49 (by decide) ?_
  refine lv_iload_n hx hb dX5_layMinors_20 rfl (lv_at hl 0 rfl) ?_
  refine lv_bipush (v := 6) hx hb dX5_layMinors_21 (by decide) ?_
  refine lv_icmp_ge (tgt := 52) hx hb dX5_layMinors_23 (by decide) (fun h => absurd h (by decide)) (fun _ => ?_)
  refine lv_iload_n hx hb dX5_layMinors_26 rfl (lv_at hl 1 rfl) ?_
  refine lv_ldc hx hb hown k_3 dX5_layMinors_27 ?_
  refine lv_icmp_ne (tgt := 36) hx hb dX5_layMinors_29 (by decide) (fun _ => ?_) (fun h => absurd h (by decide))
  refine lv_iload_n hx hb dX5_layMinors_36 rfl (lv_at hl 1 rfl) ?_
  refine lv_istore_n (lv' := [(2, .int 1), (3, .int 3), (0, .ref o), (1, .int 43)]) hx hb dX5_layMinors_37 rfl hl (by decide) rfl (fun ls hl => ?_)
  refine lv_iload_n hx hb dX5_layMinors_38 rfl (lv_at hl 0 rfl) ?_
  refine lv_iload_n hx hb dX5_layMinors_39 rfl (lv_at hl 3 rfl) ?_
  refine lv_iload_n hx hb dX5_layMinors_40 rfl (lv_at hl 1 rfl) ?_
  refine lv_ishr hx hb dX5_layMinors_41 ?_
  refine lv_eqi (v := 5) (by decide) ?_
  refine lv_iconst (v := 1) hx hb dX5_layMinors_42 (by decide) ?_
  refine lv_iand hx hb dX5_layMinors_43 ?_
  refine lv_eqi (v := 1) (by decide) ?_
  refine lv_iadd hx hb dX5_layMinors_44 ?_
  refine lv_eqi (v := 2) (by decide) ?_
  refine lv_istore_n (lv' := [(2, .int 2), (3, .int 3), (0, .ref o), (1, .int 43)]) hx hb dX5_layMinors_45 rfl hl (by decide) rfl (fun ls hl => ?_)
  refine lv_iinc (v := 4) (lv' := [(3, .int 4), (2, .int 2), (0, .ref o), (1, .int 43)]) hx hb dX5_layMinors_46 hl (k := 1) rfl (by decide) (by decide) rfl (fun ls hl => ?_)
  refine lv_goto (tgt := 20) hx hb dX5_layMinors_49 (by decide) ?_
  refine lv_iload_n hx hb dX5_layMinors_20 rfl (lv_at hl 0 rfl) ?_
  refine lv_bipush (v := 6) hx hb dX5_layMinors_21 (by decide) ?_
  refine lv_icmp_ge (tgt := 52) hx hb dX5_layMinors_23 (by decide) (fun h => absurd h (by decide)) (fun _ => ?_)
  refine lv_iload_n hx hb dX5_layMinors_26 rfl (lv_at hl 1 rfl) ?_
  refine lv_ldc hx hb hown k_3 dX5_layMinors_27 ?_
  refine lv_icmp_ne (tgt := 36) hx hb dX5_layMinors_29 (by decide) (fun _ => ?_) (fun h => absurd h (by decide))
  refine lv_iload_n hx hb dX5_layMinors_36 rfl (lv_at hl 1 rfl) ?_
  refine lv_istore_n (lv' := [(2, .int 2), (3, .int 4), (0, .ref o), (1, .int 43)]) hx hb dX5_layMinors_37 rfl hl (by decide) rfl (fun ls hl => ?_)
  refine lv_iload_n hx hb dX5_layMinors_38 rfl (lv_at hl 0 rfl) ?_
  refine lv_iload_n hx hb dX5_layMinors_39 rfl (lv_at hl 3 rfl) ?_
  refine lv_iload_n hx hb dX5_layMinors_40 rfl (lv_at hl 1 rfl) ?_
  refine lv_ishr hx hb dX5_layMinors_41 ?_
  refine lv_eqi (v := 2) (by decide) ?_
  refine lv_iconst (v := 1) hx hb dX5_layMinors_42 (by decide) ?_
  refine lv_iand hx hb dX5_layMinors_43 ?_
  refine lv_eqi (v := 0) (by decide) ?_
  refine lv_iadd hx hb dX5_layMinors_44 ?_
  refine lv_eqi (v := 2) (by decide) ?_
  refine lv_istore_n (lv' := [(2, .int 2), (3, .int 4), (0, .ref o), (1, .int 43)]) hx hb dX5_layMinors_45 rfl hl (by decide) rfl (fun ls hl => ?_)
  refine lv_iinc (v := 5) (lv' := [(3, .int 5), (2, .int 2), (0, .ref o), (1, .int 43)]) hx hb dX5_layMinors_46 hl (k := 1) rfl (by decide) (by decide) rfl (fun ls hl => ?_)
  refine lv_goto (tgt := 20) hx hb dX5_layMinors_49 (by decide) ?_
  refine lv_iload_n hx hb dX5_layMinors_20 rfl (lv_at hl 0 rfl) ?_
  refine lv_bipush (v := 6) hx hb dX5_layMinors_21 (by decide) ?_
  refine lv_icmp_ge (tgt := 52) hx hb dX5_layMinors_23 (by decide) (fun h => absurd h (by decide)) (fun _ => ?_)
  refine lv_iload_n hx hb dX5_layMinors_26 rfl (lv_at hl 1 rfl) ?_
  refine lv_ldc hx hb hown k_3 dX5_layMinors_27 ?_
  refine lv_icmp_ne (tgt := 36) hx hb dX5_layMinors_29 (by decide) (fun _ => ?_) (fun h => absurd h (by decide))
  refine lv_iload_n hx hb dX5_layMinors_36 rfl (lv_at hl 1 rfl) ?_
  refine lv_istore_n (lv' := [(2, .int 2), (3, .int 5), (0, .ref o), (1, .int 43)]) hx hb dX5_layMinors_37 rfl hl (by decide) rfl (fun ls hl => ?_)
  refine lv_iload_n hx hb dX5_layMinors_38 rfl (lv_at hl 0 rfl) ?_
  refine lv_iload_n hx hb dX5_layMinors_39 rfl (lv_at hl 3 rfl) ?_
  refine lv_iload_n hx hb dX5_layMinors_40 rfl (lv_at hl 1 rfl) ?_
  refine lv_ishr hx hb dX5_layMinors_41 ?_
  refine lv_eqi (v := 1) (by decide) ?_
  refine lv_iconst (v := 1) hx hb dX5_layMinors_42 (by decide) ?_
  refine lv_iand hx hb dX5_layMinors_43 ?_
  refine lv_eqi (v := 1) (by decide) ?_
  refine lv_iadd hx hb dX5_layMinors_44 ?_
  refine lv_eqi (v := 3) (by decide) ?_
  refine lv_istore_n (lv' := [(2, .int 3), (3, .int 5), (0, .ref o), (1, .int 43)]) hx hb dX5_layMinors_45 rfl hl (by decide) rfl (fun ls hl => ?_)
  refine lv_iinc (v := 6) (lv' := [(3, .int 6), (2, .int 3), (0, .ref o), (1, .int 43)]) hx hb dX5_layMinors_46 hl (k := 1) rfl (by decide) (by decide) rfl (fun ls hl => ?_)
  refine lv_goto (tgt := 20) hx hb dX5_layMinors_49 (by decide) ?_
  refine lv_iload_n hx hb dX5_layMinors_20 rfl (lv_at hl 0 rfl) ?_
  refine lv_bipush (v := 6) hx hb dX5_layMinors_21 (by decide) ?_
  refine lv_icmp_ge (tgt := 52) hx hb dX5_layMinors_23 (by decide) (fun _ => ?_) (fun h => absurd (by decide) h)
  refine lv_lconst (v := 0) hx hb dX5_layMinors_52 (by decide) ?_
  refine lv_lstore_n (lv' := [(3, .long 0), (2, .int 3), (0, .ref o), (1, .int 43)]) hx hb dX5_layMinors_53 rfl hl (by decide) rfl (fun ls hl => ?_)
  refine lv_iload_n hx hb dX5_layMinors_54 rfl (lv_at hl 1 rfl) ?_
  refine lv_istore (lv' := [(5, .int 3), (3, .long 0), (2, .int 3), (0, .ref o), (1, .int 43)]) hx hb dX5_layMinors_55 hl (by decide) rfl (fun ls hl => ?_)
  refine lv_iconst (v := 0) hx hb dX5_layMinors_57 (by decide) ?_
  refine lv_istore (lv' := [(6, .int 0), (5, .int 3), (3, .long 0), (2, .int 3), (0, .ref o), (1, .int 43)]) hx hb dX5_layMinors_58 hl (by decide) rfl (fun ls hl => ?_)
  refine lv_iload hx hb dX5_layMinors_60 (lv_at hl 0 rfl) ?_
  refine lv_bipush (v := 6) hx hb dX5_layMinors_62 (by decide) ?_
  refine lv_icmp_ge (tgt := 135) hx hb dX5_layMinors_64 (by decide) (fun h => absurd h (by decide)) (fun _ => ?_)
  refine lv_iload_n hx hb dX5_layMinors_67 rfl (lv_at hl 3 rfl) ?_
  refine lv_iconst (v := 5) hx hb dX5_layMinors_68 (by decide) ?_
  refine lv_icmp_ge (tgt := 135) hx hb dX5_layMinors_69 (by decide) (fun h => absurd h (by decide)) (fun _ => ?_)
  refine lv_iload_n hx hb dX5_layMinors_72 rfl (lv_at hl 5 rfl) ?_
  refine lv_iload hx hb dX5_layMinors_73 (lv_at hl 0 rfl) ?_
  refine lv_ishr hx hb dX5_layMinors_75 ?_
  refine lv_eqi (v := 43) (by decide) ?_
  refine lv_iconst (v := 1) hx hb dX5_layMinors_76 (by decide) ?_
  refine lv_iand hx hb dX5_layMinors_77 ?_
  refine lv_eqi (v := 1) (by decide) ?_
  refine lv_iconst (v := 1) hx hb dX5_layMinors_78 (by decide) ?_
  refine lv_icmp_ne (tgt := 129) hx hb dX5_layMinors_79 (by decide) (fun h => absurd (by decide) h) (fun _ => ?_)
  refine lv_aload_n hx hb dX5_layMinors_82 rfl (lv_at hl 4 rfl) ?_
  refine va_get (D := D) (ci := 5) (v := .ref mR) (C := RX5) (T := TX5) (N := 17) hx hb hts k_2 hown hK.1 hP 0 rfl rfl 5 (by decide) k_4 (fun _ h9 => h9) rfl dX5_layMinors_83 ?_
  refine lv_bipush (v := 6) hx hb dX5_layMinors_86 (by decide) ?_
  refine lv_iload_n hx hb dX5_layMinors_88 rfl (lv_at hl 3 rfl) ?_
  refine lv_imul hx hb dX5_layMinors_89 ?_
  refine lv_eqi (v := 18) (by decide) ?_
  refine lv_iload hx hb dX5_layMinors_90 (lv_at hl 0 rfl) ?_
  refine lv_iadd hx hb dX5_layMinors_92 ?_
  refine lv_eqi (v := 18) (by decide) ?_
  refine ld_l hx hb hK.1 hP 1 1 rfl rfl (ix_lit (by decide)) 18 (by decide) (v := fr 18) rfl dX5_layMinors_93 ?_
  refine lv_aload_n hx hb dX5_layMinors_94 rfl (lv_at hl 4 rfl) ?_
  refine va_get (D := D) (ci := 5) (v := .ref mD) (C := RX5) (T := TX5) (N := 17) hx hb hts k_2 hown hK.1 hP 0 rfl rfl 6 (by decide) k_1 (fun _ h9 => h9) rfl dX5_layMinors_95 ?_
  refine lv_iload_n hx hb dX5_layMinors_98 rfl (lv_at hl 5 rfl) ?_
  refine lv_iconst (v := 1) hx hb dX5_layMinors_99 (by decide) ?_
  refine lv_iload hx hb dX5_layMinors_100 (lv_at hl 0 rfl) ?_
  refine lv_ishl hx hb dX5_layMinors_102 ?_
  refine lv_eqi (v := 1) (by decide) ?_
  refine lv_isub hx hb dX5_layMinors_103 ?_
  refine lv_eqi (v := 42) (by decide) ?_
  refine ld_l hx hb hK.1 hP 2 1 rfl rfl (ix_lit (by decide)) 42 (by decide) (v := z5_mw42 fr) rfl dX5_layMinors_104 ?_
  refine lv_lmul hx hb dX5_layMinors_105 ?_
  refine lv_lstore (lv' := [(7, .long ((fr 18) * (z5_mw42 fr))), (6, .int 0), (5, .int 3), (3, .long 0), (2, .int 3), (0, .ref o), (1, .int 43)]) hx hb dX5_layMinors_106 hl (by decide) rfl (fun ls hl => ?_)
  refine lv_lload_n hx hb dX5_layMinors_108 rfl (lv_at hl 3 rfl) ?_
  refine lv_iload hx hb dX5_layMinors_109 (lv_at hl 2 rfl) ?_
  refine lv_iconst (v := 2) hx hb dX5_layMinors_111 (by decide) ?_
  refine lv_irem hx hb dX5_layMinors_112 (by decide) ?_
  refine lv_eqi (v := 1) (by decide) ?_
  refine lv_if_ne (tgt := 121) hx hb dX5_layMinors_113 (by decide) (fun _ => ?_) (fun h => absurd h (by decide))
  refine lv_lload hx hb dX5_layMinors_121 (lv_at hl 0 rfl) ?_
  refine lv_lneg hx hb dX5_layMinors_123 ?_
  refine lv_ladd hx hb dX5_layMinors_124 ?_
  refine lv_lstore_n (lv' := [(3, .long (0 + (-((fr 18) * (z5_mw42 fr))))), (7, .long ((fr 18) * (z5_mw42 fr))), (6, .int 0), (5, .int 3), (2, .int 3), (0, .ref o), (1, .int 43)]) hx hb dX5_layMinors_125 rfl hl (by decide) rfl (fun ls hl => ?_)
  refine lv_iinc (v := 2) (lv' := [(5, .int 2), (3, .long (0 + (-((fr 18) * (z5_mw42 fr))))), (7, .long ((fr 18) * (z5_mw42 fr))), (6, .int 0), (2, .int 3), (0, .ref o), (1, .int 43)]) hx hb dX5_layMinors_126 hl (k := 3) rfl (by decide) (by decide) rfl (fun ls hl => ?_)
  refine lv_iinc (v := 1) (lv' := [(6, .int 1), (5, .int 2), (3, .long (0 + (-((fr 18) * (z5_mw42 fr))))), (7, .long ((fr 18) * (z5_mw42 fr))), (2, .int 3), (0, .ref o), (1, .int 43)]) hx hb dX5_layMinors_129 hl (k := 3) rfl (by decide) (by decide) rfl (fun ls hl => ?_)
  refine lv_goto (tgt := 60) hx hb dX5_layMinors_132 (by decide) ?_
  refine lv_iload hx hb dX5_layMinors_60 (lv_at hl 0 rfl) ?_
  refine lv_bipush (v := 6) hx hb dX5_layMinors_62 (by decide) ?_
  refine lv_icmp_ge (tgt := 135) hx hb dX5_layMinors_64 (by decide) (fun h => absurd h (by decide)) (fun _ => ?_)
  refine lv_iload_n hx hb dX5_layMinors_67 rfl (lv_at hl 4 rfl) ?_
  refine lv_iconst (v := 5) hx hb dX5_layMinors_68 (by decide) ?_
  refine lv_icmp_ge (tgt := 135) hx hb dX5_layMinors_69 (by decide) (fun h => absurd h (by decide)) (fun _ => ?_)
  refine lv_iload_n hx hb dX5_layMinors_72 rfl (lv_at hl 6 rfl) ?_
  refine lv_iload hx hb dX5_layMinors_73 (lv_at hl 0 rfl) ?_
  refine lv_ishr hx hb dX5_layMinors_75 ?_
  refine lv_eqi (v := 21) (by decide) ?_
  refine lv_iconst (v := 1) hx hb dX5_layMinors_76 (by decide) ?_
  refine lv_iand hx hb dX5_layMinors_77 ?_
  refine lv_eqi (v := 1) (by decide) ?_
  refine lv_iconst (v := 1) hx hb dX5_layMinors_78 (by decide) ?_
  refine lv_icmp_ne (tgt := 129) hx hb dX5_layMinors_79 (by decide) (fun h => absurd (by decide) h) (fun _ => ?_)
  refine lv_aload_n hx hb dX5_layMinors_82 rfl (lv_at hl 5 rfl) ?_
  refine va_get (D := D) (ci := 5) (v := .ref mR) (C := RX5) (T := TX5) (N := 17) hx hb hts k_2 hown hK.1 hP 0 rfl rfl 5 (by decide) k_4 (fun _ h9 => h9) rfl dX5_layMinors_83 ?_
  refine lv_bipush (v := 6) hx hb dX5_layMinors_86 (by decide) ?_
  refine lv_iload_n hx hb dX5_layMinors_88 rfl (lv_at hl 4 rfl) ?_
  refine lv_imul hx hb dX5_layMinors_89 ?_
  refine lv_eqi (v := 18) (by decide) ?_
  refine lv_iload hx hb dX5_layMinors_90 (lv_at hl 0 rfl) ?_
  refine lv_iadd hx hb dX5_layMinors_92 ?_
  refine lv_eqi (v := 19) (by decide) ?_
  refine ld_l hx hb hK.1 hP 1 1 rfl rfl (ix_lit (by decide)) 19 (by decide) (v := fr 19) rfl dX5_layMinors_93 ?_
  refine lv_aload_n hx hb dX5_layMinors_94 rfl (lv_at hl 5 rfl) ?_
  refine va_get (D := D) (ci := 5) (v := .ref mD) (C := RX5) (T := TX5) (N := 17) hx hb hts k_2 hown hK.1 hP 0 rfl rfl 6 (by decide) k_1 (fun _ h9 => h9) rfl dX5_layMinors_95 ?_
  refine lv_iload_n hx hb dX5_layMinors_98 rfl (lv_at hl 6 rfl) ?_
  refine lv_iconst (v := 1) hx hb dX5_layMinors_99 (by decide) ?_
  refine lv_iload hx hb dX5_layMinors_100 (lv_at hl 0 rfl) ?_
  refine lv_ishl hx hb dX5_layMinors_102 ?_
  refine lv_eqi (v := 2) (by decide) ?_
  refine lv_isub hx hb dX5_layMinors_103 ?_
  refine lv_eqi (v := 41) (by decide) ?_
  refine ld_l hx hb hK.1 hP 2 1 rfl rfl (ix_lit (by decide)) 41 (by decide) (v := z5_mw41 fr) rfl dX5_layMinors_104 ?_
  refine lv_lmul hx hb dX5_layMinors_105 ?_
  refine lv_lstore (lv' := [(7, .long ((fr 19) * (z5_mw41 fr))), (6, .int 1), (5, .int 2), (3, .long (0 + (-((fr 18) * (z5_mw42 fr))))), (2, .int 3), (0, .ref o), (1, .int 43)]) hx hb dX5_layMinors_106 hl (by decide) rfl (fun ls hl => ?_)
  refine lv_lload_n hx hb dX5_layMinors_108 rfl (lv_at hl 3 rfl) ?_
  refine lv_iload hx hb dX5_layMinors_109 (lv_at hl 2 rfl) ?_
  refine lv_iconst (v := 2) hx hb dX5_layMinors_111 (by decide) ?_
  refine lv_irem hx hb dX5_layMinors_112 (by decide) ?_
  refine lv_eqi (v := 0) (by decide) ?_
  refine lv_if_ne (tgt := 121) hx hb dX5_layMinors_113 (by decide) (fun h => absurd (by decide) h) (fun _ => ?_)
  refine lv_lload hx hb dX5_layMinors_116 (lv_at hl 0 rfl) ?_
  refine lv_goto (tgt := 124) hx hb dX5_layMinors_118 (by decide) ?_
  refine lv_ladd hx hb dX5_layMinors_124 ?_
  refine lv_lstore_n (lv' := [(3, .long ((0 + (-((fr 18) * (z5_mw42 fr)))) + ((fr 19) * (z5_mw41 fr)))), (7, .long ((fr 19) * (z5_mw41 fr))), (6, .int 1), (5, .int 2), (2, .int 3), (0, .ref o), (1, .int 43)]) hx hb dX5_layMinors_125 rfl hl (by decide) rfl (fun ls hl => ?_)
  refine lv_iinc (v := 1) (lv' := [(5, .int 1), (3, .long ((0 + (-((fr 18) * (z5_mw42 fr)))) + ((fr 19) * (z5_mw41 fr)))), (7, .long ((fr 19) * (z5_mw41 fr))), (6, .int 1), (2, .int 3), (0, .ref o), (1, .int 43)]) hx hb dX5_layMinors_126 hl (k := 3) rfl (by decide) (by decide) rfl (fun ls hl => ?_)
  refine lv_iinc (v := 2) (lv' := [(6, .int 2), (5, .int 1), (3, .long ((0 + (-((fr 18) * (z5_mw42 fr)))) + ((fr 19) * (z5_mw41 fr)))), (7, .long ((fr 19) * (z5_mw41 fr))), (2, .int 3), (0, .ref o), (1, .int 43)]) hx hb dX5_layMinors_129 hl (k := 3) rfl (by decide) (by decide) rfl (fun ls hl => ?_)
  refine lv_goto (tgt := 60) hx hb dX5_layMinors_132 (by decide) ?_
  refine lv_iload hx hb dX5_layMinors_60 (lv_at hl 0 rfl) ?_
  refine lv_bipush (v := 6) hx hb dX5_layMinors_62 (by decide) ?_
  refine lv_icmp_ge (tgt := 135) hx hb dX5_layMinors_64 (by decide) (fun h => absurd h (by decide)) (fun _ => ?_)
  refine lv_iload_n hx hb dX5_layMinors_67 rfl (lv_at hl 4 rfl) ?_
  refine lv_iconst (v := 5) hx hb dX5_layMinors_68 (by decide) ?_
  refine lv_icmp_ge (tgt := 135) hx hb dX5_layMinors_69 (by decide) (fun h => absurd h (by decide)) (fun _ => ?_)
  refine lv_iload_n hx hb dX5_layMinors_72 rfl (lv_at hl 6 rfl) ?_
  refine lv_iload hx hb dX5_layMinors_73 (lv_at hl 0 rfl) ?_
  refine lv_ishr hx hb dX5_layMinors_75 ?_
  refine lv_eqi (v := 10) (by decide) ?_
  refine lv_iconst (v := 1) hx hb dX5_layMinors_76 (by decide) ?_
  refine lv_iand hx hb dX5_layMinors_77 ?_
  refine lv_eqi (v := 0) (by decide) ?_
  refine lv_iconst (v := 1) hx hb dX5_layMinors_78 (by decide) ?_
  refine lv_icmp_ne (tgt := 129) hx hb dX5_layMinors_79 (by decide) (fun _ => ?_) (fun h => absurd h (by decide))
  refine lv_iinc (v := 3) (lv' := [(6, .int 3), (5, .int 1), (3, .long ((0 + (-((fr 18) * (z5_mw42 fr)))) + ((fr 19) * (z5_mw41 fr)))), (7, .long ((fr 19) * (z5_mw41 fr))), (2, .int 3), (0, .ref o), (1, .int 43)]) hx hb dX5_layMinors_129 hl (k := 0) rfl (by decide) (by decide) rfl (fun ls hl => ?_)
  refine lv_goto (tgt := 60) hx hb dX5_layMinors_132 (by decide) ?_
  refine lv_iload hx hb dX5_layMinors_60 (lv_at hl 0 rfl) ?_
  refine lv_bipush (v := 6) hx hb dX5_layMinors_62 (by decide) ?_
  refine lv_icmp_ge (tgt := 135) hx hb dX5_layMinors_64 (by decide) (fun h => absurd h (by decide)) (fun _ => ?_)
  refine lv_iload_n hx hb dX5_layMinors_67 rfl (lv_at hl 4 rfl) ?_
  refine lv_iconst (v := 5) hx hb dX5_layMinors_68 (by decide) ?_
  refine lv_icmp_ge (tgt := 135) hx hb dX5_layMinors_69 (by decide) (fun h => absurd h (by decide)) (fun _ => ?_)
  refine lv_iload_n hx hb dX5_layMinors_72 rfl (lv_at hl 6 rfl) ?_
  refine lv_iload hx hb dX5_layMinors_73 (lv_at hl 0 rfl) ?_
  refine lv_ishr hx hb dX5_layMinors_75 ?_
  refine lv_eqi (v := 5) (by decide) ?_
  refine lv_iconst (v := 1) hx hb dX5_layMinors_76 (by decide) ?_
  refine lv_iand hx hb dX5_layMinors_77 ?_
  refine lv_eqi (v := 1) (by decide) ?_
  refine lv_iconst (v := 1) hx hb dX5_layMinors_78 (by decide) ?_
  refine lv_icmp_ne (tgt := 129) hx hb dX5_layMinors_79 (by decide) (fun h => absurd (by decide) h) (fun _ => ?_)
  refine lv_aload_n hx hb dX5_layMinors_82 rfl (lv_at hl 5 rfl) ?_
  refine va_get (D := D) (ci := 5) (v := .ref mR) (C := RX5) (T := TX5) (N := 17) hx hb hts k_2 hown hK.1 hP 0 rfl rfl 5 (by decide) k_4 (fun _ h9 => h9) rfl dX5_layMinors_83 ?_
  refine lv_bipush (v := 6) hx hb dX5_layMinors_86 (by decide) ?_
  refine lv_iload_n hx hb dX5_layMinors_88 rfl (lv_at hl 4 rfl) ?_
  refine lv_imul hx hb dX5_layMinors_89 ?_
  refine lv_eqi (v := 18) (by decide) ?_
  refine lv_iload hx hb dX5_layMinors_90 (lv_at hl 0 rfl) ?_
  refine lv_iadd hx hb dX5_layMinors_92 ?_
  refine lv_eqi (v := 21) (by decide) ?_
  refine ld_l hx hb hK.1 hP 1 1 rfl rfl (ix_lit (by decide)) 21 (by decide) (v := fr 21) rfl dX5_layMinors_93 ?_
  refine lv_aload_n hx hb dX5_layMinors_94 rfl (lv_at hl 5 rfl) ?_
  refine va_get (D := D) (ci := 5) (v := .ref mD) (C := RX5) (T := TX5) (N := 17) hx hb hts k_2 hown hK.1 hP 0 rfl rfl 6 (by decide) k_1 (fun _ h9 => h9) rfl dX5_layMinors_95 ?_
  refine lv_iload_n hx hb dX5_layMinors_98 rfl (lv_at hl 6 rfl) ?_
  refine lv_iconst (v := 1) hx hb dX5_layMinors_99 (by decide) ?_
  refine lv_iload hx hb dX5_layMinors_100 (lv_at hl 0 rfl) ?_
  refine lv_ishl hx hb dX5_layMinors_102 ?_
  refine lv_eqi (v := 8) (by decide) ?_
  refine lv_isub hx hb dX5_layMinors_103 ?_
  refine lv_eqi (v := 35) (by decide) ?_
  refine ld_l hx hb hK.1 hP 2 1 rfl rfl (ix_lit (by decide)) 35 (by decide) (v := z5_mw35 fr) rfl dX5_layMinors_104 ?_
  refine lv_lmul hx hb dX5_layMinors_105 ?_
  refine lv_lstore (lv' := [(7, .long ((fr 21) * (z5_mw35 fr))), (6, .int 3), (5, .int 1), (3, .long ((0 + (-((fr 18) * (z5_mw42 fr)))) + ((fr 19) * (z5_mw41 fr)))), (2, .int 3), (0, .ref o), (1, .int 43)]) hx hb dX5_layMinors_106 hl (by decide) rfl (fun ls hl => ?_)
  refine lv_lload_n hx hb dX5_layMinors_108 rfl (lv_at hl 3 rfl) ?_
  refine lv_iload hx hb dX5_layMinors_109 (lv_at hl 2 rfl) ?_
  refine lv_iconst (v := 2) hx hb dX5_layMinors_111 (by decide) ?_
  refine lv_irem hx hb dX5_layMinors_112 (by decide) ?_
  refine lv_eqi (v := 1) (by decide) ?_
  refine lv_if_ne (tgt := 121) hx hb dX5_layMinors_113 (by decide) (fun _ => ?_) (fun h => absurd h (by decide))
  refine lv_lload hx hb dX5_layMinors_121 (lv_at hl 0 rfl) ?_
  refine lv_lneg hx hb dX5_layMinors_123 ?_
  refine lv_ladd hx hb dX5_layMinors_124 ?_
  refine lv_lstore_n (lv' := [(3, .long (((0 + (-((fr 18) * (z5_mw42 fr)))) + ((fr 19) * (z5_mw41 fr))) + (-((fr 21) * (z5_mw35 fr))))), (7, .long ((fr 21) * (z5_mw35 fr))), (6, .int 3), (5, .int 1), (2, .int 3), (0, .ref o), (1, .int 43)]) hx hb dX5_layMinors_125 rfl hl (by decide) rfl (fun ls hl => ?_)
  refine lv_iinc (v := 0) (lv' := [(5, .int 0), (3, .long (((0 + (-((fr 18) * (z5_mw42 fr)))) + ((fr 19) * (z5_mw41 fr))) + (-((fr 21) * (z5_mw35 fr))))), (7, .long ((fr 21) * (z5_mw35 fr))), (6, .int 3), (2, .int 3), (0, .ref o), (1, .int 43)]) hx hb dX5_layMinors_126 hl (k := 3) rfl (by decide) (by decide) rfl (fun ls hl => ?_)
  refine lv_iinc (v := 4) (lv' := [(6, .int 4), (5, .int 0), (3, .long (((0 + (-((fr 18) * (z5_mw42 fr)))) + ((fr 19) * (z5_mw41 fr))) + (-((fr 21) * (z5_mw35 fr))))), (7, .long ((fr 21) * (z5_mw35 fr))), (2, .int 3), (0, .ref o), (1, .int 43)]) hx hb dX5_layMinors_129 hl (k := 3) rfl (by decide) (by decide) rfl (fun ls hl => ?_)
  refine lv_goto (tgt := 60) hx hb dX5_layMinors_132 (by decide) ?_
  refine lv_iload hx hb dX5_layMinors_60 (lv_at hl 0 rfl) ?_
  refine lv_bipush (v := 6) hx hb dX5_layMinors_62 (by decide) ?_
  refine lv_icmp_ge (tgt := 135) hx hb dX5_layMinors_64 (by decide) (fun h => absurd h (by decide)) (fun _ => ?_)
  refine lv_iload_n hx hb dX5_layMinors_67 rfl (lv_at hl 4 rfl) ?_
  refine lv_iconst (v := 5) hx hb dX5_layMinors_68 (by decide) ?_
  refine lv_icmp_ge (tgt := 135) hx hb dX5_layMinors_69 (by decide) (fun h => absurd h (by decide)) (fun _ => ?_)
  refine lv_iload_n hx hb dX5_layMinors_72 rfl (lv_at hl 6 rfl) ?_
  refine lv_iload hx hb dX5_layMinors_73 (lv_at hl 0 rfl) ?_
  refine lv_ishr hx hb dX5_layMinors_75 ?_
  refine lv_eqi (v := 2) (by decide) ?_
  refine lv_iconst (v := 1) hx hb dX5_layMinors_76 (by decide) ?_
  refine lv_iand hx hb dX5_layMinors_77 ?_
  refine lv_eqi (v := 0) (by decide) ?_
  refine lv_iconst (v := 1) hx hb dX5_layMinors_78 (by decide) ?_
  refine lv_icmp_ne (tgt := 129) hx hb dX5_layMinors_79 (by decide) (fun _ => ?_) (fun h => absurd h (by decide))
  refine lv_iinc (v := 5) (lv' := [(6, .int 5), (5, .int 0), (3, .long (((0 + (-((fr 18) * (z5_mw42 fr)))) + ((fr 19) * (z5_mw41 fr))) + (-((fr 21) * (z5_mw35 fr))))), (7, .long ((fr 21) * (z5_mw35 fr))), (2, .int 3), (0, .ref o), (1, .int 43)]) hx hb dX5_layMinors_129 hl (k := 0) rfl (by decide) (by decide) rfl (fun ls hl => ?_)
  refine lv_goto (tgt := 60) hx hb dX5_layMinors_132 (by decide) ?_
  refine lv_iload hx hb dX5_layMinors_60 (lv_at hl 0 rfl) ?_
  refine lv_bipush (v := 6) hx hb dX5_layMinors_62 (by decide) ?_
  refine lv_icmp_ge (tgt := 135) hx hb dX5_layMinors_64 (by decide) (fun h => absurd h (by decide)) (fun _ => ?_)
  refine lv_iload_n hx hb dX5_layMinors_67 rfl (lv_at hl 4 rfl) ?_
  refine lv_iconst (v := 5) hx hb dX5_layMinors_68 (by decide) ?_
  refine lv_icmp_ge (tgt := 135) hx hb dX5_layMinors_69 (by decide) (fun h => absurd h (by decide)) (fun _ => ?_)
  refine lv_iload_n hx hb dX5_layMinors_72 rfl (lv_at hl 6 rfl) ?_
  refine lv_iload hx hb dX5_layMinors_73 (lv_at hl 0 rfl) ?_
  refine lv_ishr hx hb dX5_layMinors_75 ?_
  refine lv_eqi (v := 1) (by decide) ?_
  refine lv_iconst (v := 1) hx hb dX5_layMinors_76 (by decide) ?_
  refine lv_iand hx hb dX5_layMinors_77 ?_
  refine lv_eqi (v := 1) (by decide) ?_
  refine lv_iconst (v := 1) hx hb dX5_layMinors_78 (by decide) ?_
  refine lv_icmp_ne (tgt := 129) hx hb dX5_layMinors_79 (by decide) (fun h => absurd (by decide) h) (fun _ => ?_)
  refine lv_aload_n hx hb dX5_layMinors_82 rfl (lv_at hl 5 rfl) ?_
  refine va_get (D := D) (ci := 5) (v := .ref mR) (C := RX5) (T := TX5) (N := 17) hx hb hts k_2 hown hK.1 hP 0 rfl rfl 5 (by decide) k_4 (fun _ h9 => h9) rfl dX5_layMinors_83 ?_
  refine lv_bipush (v := 6) hx hb dX5_layMinors_86 (by decide) ?_
  refine lv_iload_n hx hb dX5_layMinors_88 rfl (lv_at hl 4 rfl) ?_
  refine lv_imul hx hb dX5_layMinors_89 ?_
  refine lv_eqi (v := 18) (by decide) ?_
  refine lv_iload hx hb dX5_layMinors_90 (lv_at hl 0 rfl) ?_
  refine lv_iadd hx hb dX5_layMinors_92 ?_
  refine lv_eqi (v := 23) (by decide) ?_
  refine ld_l hx hb hK.1 hP 1 1 rfl rfl (ix_lit (by decide)) 23 (by decide) (v := fr 23) rfl dX5_layMinors_93 ?_
  refine lv_aload_n hx hb dX5_layMinors_94 rfl (lv_at hl 5 rfl) ?_
  refine va_get (D := D) (ci := 5) (v := .ref mD) (C := RX5) (T := TX5) (N := 17) hx hb hts k_2 hown hK.1 hP 0 rfl rfl 6 (by decide) k_1 (fun _ h9 => h9) rfl dX5_layMinors_95 ?_
  refine lv_iload_n hx hb dX5_layMinors_98 rfl (lv_at hl 6 rfl) ?_
  refine lv_iconst (v := 1) hx hb dX5_layMinors_99 (by decide) ?_
  refine lv_iload hx hb dX5_layMinors_100 (lv_at hl 0 rfl) ?_
  refine lv_ishl hx hb dX5_layMinors_102 ?_
  refine lv_eqi (v := 32) (by decide) ?_
  refine lv_isub hx hb dX5_layMinors_103 ?_
  refine lv_eqi (v := 11) (by decide) ?_
  refine ld_l hx hb hK.1 hP 2 1 rfl rfl (ix_lit (by decide)) 11 (by decide) (v := z5_mw11 fr) rfl dX5_layMinors_104 ?_
  refine lv_lmul hx hb dX5_layMinors_105 ?_
  refine lv_lstore (lv' := [(7, .long ((fr 23) * (z5_mw11 fr))), (6, .int 5), (5, .int 0), (3, .long (((0 + (-((fr 18) * (z5_mw42 fr)))) + ((fr 19) * (z5_mw41 fr))) + (-((fr 21) * (z5_mw35 fr))))), (2, .int 3), (0, .ref o), (1, .int 43)]) hx hb dX5_layMinors_106 hl (by decide) rfl (fun ls hl => ?_)
  refine lv_lload_n hx hb dX5_layMinors_108 rfl (lv_at hl 3 rfl) ?_
  refine lv_iload hx hb dX5_layMinors_109 (lv_at hl 2 rfl) ?_
  refine lv_iconst (v := 2) hx hb dX5_layMinors_111 (by decide) ?_
  refine lv_irem hx hb dX5_layMinors_112 (by decide) ?_
  refine lv_eqi (v := 0) (by decide) ?_
  refine lv_if_ne (tgt := 121) hx hb dX5_layMinors_113 (by decide) (fun h => absurd (by decide) h) (fun _ => ?_)
  refine lv_lload hx hb dX5_layMinors_116 (lv_at hl 0 rfl) ?_
  refine lv_goto (tgt := 124) hx hb dX5_layMinors_118 (by decide) ?_
  refine lv_ladd hx hb dX5_layMinors_124 ?_
  refine lv_lstore_n (lv' := [(3, .long ((((0 + (-((fr 18) * (z5_mw42 fr)))) + ((fr 19) * (z5_mw41 fr))) + (-((fr 21) * (z5_mw35 fr)))) + ((fr 23) * (z5_mw11 fr)))), (7, .long ((fr 23) * (z5_mw11 fr))), (6, .int 5), (5, .int 0), (2, .int 3), (0, .ref o), (1, .int 43)]) hx hb dX5_layMinors_125 rfl hl (by decide) rfl (fun ls hl => ?_)
  refine lv_iinc (v := (-1)) (lv' := [(5, .int (-1)), (3, .long ((((0 + (-((fr 18) * (z5_mw42 fr)))) + ((fr 19) * (z5_mw41 fr))) + (-((fr 21) * (z5_mw35 fr)))) + ((fr 23) * (z5_mw11 fr)))), (7, .long ((fr 23) * (z5_mw11 fr))), (6, .int 5), (2, .int 3), (0, .ref o), (1, .int 43)]) hx hb dX5_layMinors_126 hl (k := 3) rfl (by decide) (by decide) rfl (fun ls hl => ?_)
  refine lv_iinc (v := 6) (lv' := [(6, .int 6), (5, .int (-1)), (3, .long ((((0 + (-((fr 18) * (z5_mw42 fr)))) + ((fr 19) * (z5_mw41 fr))) + (-((fr 21) * (z5_mw35 fr)))) + ((fr 23) * (z5_mw11 fr)))), (7, .long ((fr 23) * (z5_mw11 fr))), (2, .int 3), (0, .ref o), (1, .int 43)]) hx hb dX5_layMinors_129 hl (k := 3) rfl (by decide) (by decide) rfl (fun ls hl => ?_)
  refine lv_goto (tgt := 60) hx hb dX5_layMinors_132 (by decide) ?_
  refine lv_iload hx hb dX5_layMinors_60 (lv_at hl 0 rfl) ?_
  refine lv_bipush (v := 6) hx hb dX5_layMinors_62 (by decide) ?_
  refine lv_icmp_ge (tgt := 135) hx hb dX5_layMinors_64 (by decide) (fun _ => ?_) (fun h => absurd (by decide) h)
  refine lv_aload_n hx hb dX5_layMinors_135 rfl (lv_at hl 5 rfl) ?_
  refine va_get (D := D) (ci := 5) (v := .ref mD) (C := RX5) (T := TX5) (N := 17) hx hb hts k_2 hown hK.1 hP 0 rfl rfl 6 (by decide) k_1 (fun _ h9 => h9) rfl dX5_layMinors_136 ?_
  refine lv_iload_n hx hb dX5_layMinors_139 rfl (lv_at hl 6 rfl) ?_
  refine lv_lload_n hx hb dX5_layMinors_140 rfl (lv_at hl 2 rfl) ?_
  refine st_l hx hb hK.1 hP hD hS 2 1 rfl rfl (ix_lit (by decide)) 43 (by decide) dX5_layMinors_141 (fun H locs hP hD hS => ?_)
  have hP : va_P D vwCl [kM o mP mL mC mN mF mR mD mV mX mA mK cm mT pm mU mH mI, kJ mR cJ 30 fr, kJ mD cJ 64 (vp_updL (z5_mm43 fr fd) 43 ((((0 + (-((fr 18) * (z5_mw42 fr)))) + ((fr 19) * (z5_mw41 fr))) + (-((fr 21) * (z5_mw35 fr)))) + ((fr 23) * (z5_mw11 fr))))] H := hP
  have hD : va_D A [kM o mP mL mC mN mF mR mD mV mX mA mK cm mT pm mU mH mI, kJ mR cJ 30 fr, kJ mD cJ 64 (vp_updL (z5_mm43 fr fd) 43 ((((0 + (-((fr 18) * (z5_mw42 fr)))) + ((fr 19) * (z5_mw41 fr))) + (-((fr 21) * (z5_mw35 fr)))) + ((fr 23) * (z5_mw11 fr))))] := hD
  have hP : va_P D vwCl [kM o mP mL mC mN mF mR mD mV mX mA mK cm mT pm mU mH mI, kJ mR cJ 30 fr, kJ mD cJ 64 (z5_mm44 fr fd)] H := hP
  have hD : va_D A [kM o mP mL mC mN mF mR mD mV mX mA mK cm mT pm mU mH mI, kJ mR cJ 30 fr, kJ mD cJ 64 (z5_mm44 fr fd)] := hD
  refine lv_iinc (v := 44) (lv' := [(1, .int 44), (6, .int 6), (5, .int (-1)), (3, .long ((((0 + (-((fr 18) * (z5_mw42 fr)))) + ((fr 19) * (z5_mw41 fr))) + (-((fr 21) * (z5_mw35 fr)))) + ((fr 23) * (z5_mw11 fr)))), (7, .long ((fr 23) * (z5_mw11 fr))), (2, .int 3), (0, .ref o)]) hx hb dX5_layMinors_142 hl (k := 6) rfl (by decide) (by decide) rfl (fun ls hl => ?_)
  refine lv_goto (tgt := 9) hx hb dX5_layMinors_145 (by decide) ?_
  exact sg_X5_layMinors_44 hx hb hr hml hown hts hlk hK hA hP hD hS ls (lv_sub hl [6, 0] rfl)
set_option maxHeartbeats 4000000 in
set_option maxRecDepth 100000 in
theorem sg_X5_layMinors_42 {l : Launch} {D : va_G} {cI cJ : ClassId} {pG : Program} {eG : Env} {sG : State} {mG : MethodId} {below : List Frame} {meth : Method} {cG : Code} {A : Nat → Prop} {H : Heap} {locs : List Loc} {o : Nat} {mP : Nat} {mL : Nat} {mC : Nat} {mN : Nat} {mF : Nat} {mR : Nat} {mD : Nat} {mV : Nat} {mX : Nat} {mA : Nat} {mK : Nat} {mT : Nat} {mU : Nat} {mH : Nat} {mI : Nat} {cm : Int32} {pm : Int32} {fr : Nat → Int64} {fd : Nat → Int64} (hx : pG.tables.exec = Jvm.exec) (hb : cG.code = cX5_layMinors) (hr : meth.sig.returnType = none) (hml : cG.maxLocals = 9) (hown : sG.vm.findClass RX5 = some mG.cls) (hts : ∀ x ∈ wsX5_layMinors, x.before ([.ref o] : List Value).toArray sG = true) (hlk : meth.locks = false) (hK : gd_K D cI cJ sG) (hA : ∀ q : Nat, sG.heap.size ≤ q → A q) (hP : va_P D vwCl [kM o mP mL mC mN mF mR mD mV mX mA mK cm mT pm mU mH mI, kJ mR cJ 30 fr, kJ mD cJ 64 (z5_mm42 fr fd)] H) (hD : va_D A [kM o mP mL mC mN mF mR mD mV mX mA mK cm mT pm mU mH mI, kJ mR cJ 30 fr, kJ mD cJ 64 (z5_mm42 fr fd)]) (hS : va_S A sG.heap H locs) (ls : Array Slot) (hl : lv_has ls 9 [(0, .ref o), (1, .int 42)]) : W pG l eG (headSpec wsX5_layMinors ({ frames := 0, cells := 0, slots := 0, locals := 0 })).room sG mG ([.ref o] : List Value).toArray below meth cG H locs 0 0 (MQ below ((qe_v (fun _ : Unit => True) (fun uu => [kM o mP mL mC mN mF mR mD mV mX mA mK cm mT pm mU mH mI, kJ mR cJ 30 fr, kJ mD cJ 64 (z5_layMinors_f2 fr fd)])) D A) ([.ref o] : List Value).toArray sG 0 0 A) (F0 mG 9 ls []) := by
  have k_1 := hts (.fieldLink RX5 29 "ConicRowsModel" "minors" "[J") (by decide +kernel)
  have k_2 : ∀ w ∈ wsX50, w ∈ wsX5_layMinors := by decide +kernel
  have k_3 := hts (.constant RX5 122 (-1000001)) (by decide +kernel)
  have k_4 := hts (.fieldLink RX5 26 "ConicRowsModel" "rows" "[J") (by decide +kernel)
  refine lv_iload_n hx hb dX5_layMinors_9 rfl (lv_at hl 1 rfl) ?_
  refine lv_bipush (v := 64) hx hb dX5_layMinors_10 (by decide) ?_
  refine lv_icmp_ge (tgt := 148) hx hb dX5_layMinors_12 (by decide) (fun h => absurd h (by decide)) (fun _ => ?_)
  refine lv_ldc hx hb hown k_3 dX5_layMinors_15 ?_
  refine lv_istore_n (lv' := [(2, .int (-1000001)), (0, .ref o), (1, .int 42)]) hx hb dX5_layMinors_17 rfl hl (by decide) rfl (fun ls hl => ?_)
  refine lv_iconst (v := 0) hx hb dX5_layMinors_18 (by decide) ?_
  refine lv_istore_n (lv' := [(3, .int 0), (2, .int (-1000001)), (0, .ref o), (1, .int 42)]) hx hb dX5_layMinors_19 rfl hl (by decide) rfl (fun ls hl => ?_)
  refine lv_iload_n hx hb dX5_layMinors_20 rfl (lv_at hl 0 rfl) ?_
  refine lv_bipush (v := 6) hx hb dX5_layMinors_21 (by decide) ?_
  refine lv_icmp_ge (tgt := 52) hx hb dX5_layMinors_23 (by decide) (fun h => absurd h (by decide)) (fun _ => ?_)
  refine lv_iload_n hx hb dX5_layMinors_26 rfl (lv_at hl 1 rfl) ?_
  refine lv_ldc hx hb hown k_3 dX5_layMinors_27 ?_
  refine lv_icmp_ne (tgt := 36) hx hb dX5_layMinors_29 (by decide) (fun h => absurd (by decide) h) (fun _ => ?_)
  refine lv_iconst (v := (-1)) hx hb dX5_layMinors_32 (by decide) ?_
  refine lv_goto (tgt := 37) hx hb dX5_layMinors_33 (by decide) ?_
  refine lv_istore_n (lv' := [(2, .int (-1)), (3, .int 0), (0, .ref o), (1, .int 42)]) hx hb dX5_layMinors_37 rfl hl (by decide) rfl (fun ls hl => ?_)
  refine lv_iload_n hx hb dX5_layMinors_38 rfl (lv_at hl 0 rfl) ?_
  refine lv_iload_n hx hb dX5_layMinors_39 rfl (lv_at hl 3 rfl) ?_
  refine lv_iload_n hx hb dX5_layMinors_40 rfl (lv_at hl 1 rfl) ?_
  refine lv_ishr hx hb dX5_layMinors_41 ?_
  refine lv_eqi (v := 42) (by decide) ?_
  refine lv_iconst (v := 1) hx hb dX5_layMinors_42 (by decide) ?_
  refine lv_iand hx hb dX5_layMinors_43 ?_
  refine lv_eqi (v := 0) (by decide) ?_
  refine lv_iadd hx hb dX5_layMinors_44 ?_
  refine lv_eqi (v := (-1)) (by decide) ?_
  refine lv_istore_n (lv' := [(2, .int (-1)), (3, .int 0), (0, .ref o), (1, .int 42)]) hx hb dX5_layMinors_45 rfl hl (by decide) rfl (fun ls hl => ?_)
  refine lv_iinc (v := 1) (lv' := [(3, .int 1), (2, .int (-1)), (0, .ref o), (1, .int 42)]) hx hb dX5_layMinors_46 hl (k := 1) rfl (by decide) (by decide) rfl (fun ls hl => ?_)
  refine lv_goto (tgt := 20) hx hb dX5_layMinors_49 (by decide) ?_
  refine lv_iload_n hx hb dX5_layMinors_20 rfl (lv_at hl 0 rfl) ?_
  refine lv_bipush (v := 6) hx hb dX5_layMinors_21 (by decide) ?_
  refine lv_icmp_ge (tgt := 52) hx hb dX5_layMinors_23 (by decide) (fun h => absurd h (by decide)) (fun _ => ?_)
  refine lv_iload_n hx hb dX5_layMinors_26 rfl (lv_at hl 1 rfl) ?_
  refine lv_ldc hx hb hown k_3 dX5_layMinors_27 ?_
  refine lv_icmp_ne (tgt := 36) hx hb dX5_layMinors_29 (by decide) (fun _ => ?_) (fun h => absurd h (by decide))
  refine lv_iload_n hx hb dX5_layMinors_36 rfl (lv_at hl 1 rfl) ?_
  refine lv_istore_n (lv' := [(2, .int (-1)), (3, .int 1), (0, .ref o), (1, .int 42)]) hx hb dX5_layMinors_37 rfl hl (by decide) rfl (fun ls hl => ?_)
  refine lv_iload_n hx hb dX5_layMinors_38 rfl (lv_at hl 0 rfl) ?_
  refine lv_iload_n hx hb dX5_layMinors_39 rfl (lv_at hl 3 rfl) ?_
  refine lv_iload_n hx hb dX5_layMinors_40 rfl (lv_at hl 1 rfl) ?_
  refine lv_ishr hx hb dX5_layMinors_41 ?_
  refine lv_eqi (v := 21) (by decide) ?_
  refine lv_iconst (v := 1) hx hb dX5_layMinors_42 (by decide) ?_
  refine lv_iand hx hb dX5_layMinors_43 ?_
  refine lv_eqi (v := 1) (by decide) ?_
  refine lv_iadd hx hb dX5_layMinors_44 ?_
  refine lv_eqi (v := 0) (by decide) ?_
  refine lv_istore_n (lv' := [(2, .int 0), (3, .int 1), (0, .ref o), (1, .int 42)]) hx hb dX5_layMinors_45 rfl hl (by decide) rfl (fun ls hl => ?_)
  refine lv_iinc (v := 2) (lv' := [(3, .int 2), (2, .int 0), (0, .ref o), (1, .int 42)]) hx hb dX5_layMinors_46 hl (k := 1) rfl (by decide) (by decide) rfl (fun ls hl => ?_)
  refine lv_goto (tgt := 20) hx hb dX5_layMinors_49 (by decide) ?_
  refine lv_iload_n hx hb dX5_layMinors_20 rfl (lv_at hl 0 rfl) ?_
  refine lv_bipush (v := 6) hx hb dX5_layMinors_21 (by decide) ?_
  refine lv_icmp_ge (tgt := 52) hx hb dX5_layMinors_23 (by decide) (fun h => absurd h (by decide)) (fun _ => ?_)
  refine lv_iload_n hx hb dX5_layMinors_26 rfl (lv_at hl 1 rfl) ?_
  refine lv_ldc hx hb hown k_3 dX5_layMinors_27 ?_
  refine lv_icmp_ne (tgt := 36) hx hb dX5_layMinors_29 (by decide) (fun _ => ?_) (fun h => absurd h (by decide))
  refine lv_iload_n hx hb dX5_layMinors_36 rfl (lv_at hl 1 rfl) ?_
  refine lv_istore_n (lv' := [(2, .int 0), (3, .int 2), (0, .ref o), (1, .int 42)]) hx hb dX5_layMinors_37 rfl hl (by decide) rfl (fun ls hl => ?_)
  refine lv_iload_n hx hb dX5_layMinors_38 rfl (lv_at hl 0 rfl) ?_
  refine lv_iload_n hx hb dX5_layMinors_39 rfl (lv_at hl 3 rfl) ?_
  refine lv_iload_n hx hb dX5_layMinors_40 rfl (lv_at hl 1 rfl) ?_
  refine lv_ishr hx hb dX5_layMinors_41 ?_
  refine lv_eqi (v := 10) (by decide) ?_
  refine lv_iconst (v := 1) hx hb dX5_layMinors_42 (by decide) ?_
  refine lv_iand hx hb dX5_layMinors_43 ?_
  refine lv_eqi (v := 0) (by decide) ?_
  refine lv_iadd hx hb dX5_layMinors_44 ?_
  refine lv_eqi (v := 0) (by decide) ?_
  refine lv_istore_n (lv' := [(2, .int 0), (3, .int 2), (0, .ref o), (1, .int 42)]) hx hb dX5_layMinors_45 rfl hl (by decide) rfl (fun ls hl => ?_)
  refine lv_iinc (v := 3) (lv' := [(3, .int 3), (2, .int 0), (0, .ref o), (1, .int 42)]) hx hb dX5_layMinors_46 hl (k := 1) rfl (by decide) (by decide) rfl (fun ls hl => ?_)
  refine lv_goto (tgt := 20) hx hb dX5_layMinors_49 (by decide) ?_
  refine lv_iload_n hx hb dX5_layMinors_20 rfl (lv_at hl 0 rfl) ?_
  refine lv_bipush (v := 6) hx hb dX5_layMinors_21 (by decide) ?_
  refine lv_icmp_ge (tgt := 52) hx hb dX5_layMinors_23 (by decide) (fun h => absurd h (by decide)) (fun _ => ?_)
  refine lv_iload_n hx hb dX5_layMinors_26 rfl (lv_at hl 1 rfl) ?_
  refine lv_ldc hx hb hown k_3 dX5_layMinors_27 ?_
  refine lv_icmp_ne (tgt := 36) hx hb dX5_layMinors_29 (by decide) (fun _ => ?_) (fun h => absurd h (by decide))
  refine lv_iload_n hx hb dX5_layMinors_36 rfl (lv_at hl 1 rfl) ?_
  refine lv_istore_n (lv' := [(2, .int 0), (3, .int 3), (0, .ref o), (1, .int 42)]) hx hb dX5_layMinors_37 rfl hl (by decide) rfl (fun ls hl => ?_)
  refine lv_iload_n hx hb dX5_layMinors_38 rfl (lv_at hl 0 rfl) ?_
  refine lv_iload_n hx hb dX5_layMinors_39 rfl (lv_at hl 3 rfl) ?_
  refine lv_iload_n hx hb dX5_layMinors_40 rfl (lv_at hl 1 rfl) ?_
  refine lv_ishr hx hb dX5_layMinors_41 ?_
  refine lv_eqi (v := 5) (by decide) ?_
  refine lv_iconst (v := 1) hx hb dX5_layMinors_42 (by decide) ?_
  refine lv_iand hx hb dX5_layMinors_43 ?_
  refine lv_eqi (v := 1) (by decide) ?_
  refine lv_iadd hx hb dX5_layMinors_44 ?_
  refine lv_eqi (v := 1) (by decide) ?_
  refine lv_istore_n (lv' := [(2, .int 1), (3, .int 3), (0, .ref o), (1, .int 42)]) hx hb dX5_layMinors_45 rfl hl (by decide) rfl (fun ls hl => ?_)
  refine lv_iinc (v := 4) (lv' := [(3, .int 4), (2, .int 1), (0, .ref o), (1, .int 42)]) hx hb dX5_layMinors_46 hl (k := 1) rfl (by decide) (by decide) rfl (fun ls hl => ?_)
  refine lv_goto (tgt := 20) hx hb dX5_layMinors_49 (by decide) ?_
  refine lv_iload_n hx hb dX5_layMinors_20 rfl (lv_at hl 0 rfl) ?_
  refine lv_bipush (v := 6) hx hb dX5_layMinors_21 (by decide) ?_
  refine lv_icmp_ge (tgt := 52) hx hb dX5_layMinors_23 (by decide) (fun h => absurd h (by decide)) (fun _ => ?_)
  refine lv_iload_n hx hb dX5_layMinors_26 rfl (lv_at hl 1 rfl) ?_
  refine lv_ldc hx hb hown k_3 dX5_layMinors_27 ?_
  refine lv_icmp_ne (tgt := 36) hx hb dX5_layMinors_29 (by decide) (fun _ => ?_) (fun h => absurd h (by decide))
  refine lv_iload_n hx hb dX5_layMinors_36 rfl (lv_at hl 1 rfl) ?_
  refine lv_istore_n (lv' := [(2, .int 1), (3, .int 4), (0, .ref o), (1, .int 42)]) hx hb dX5_layMinors_37 rfl hl (by decide) rfl (fun ls hl => ?_)
  refine lv_iload_n hx hb dX5_layMinors_38 rfl (lv_at hl 0 rfl) ?_
  refine lv_iload_n hx hb dX5_layMinors_39 rfl (lv_at hl 3 rfl) ?_
  refine lv_iload_n hx hb dX5_layMinors_40 rfl (lv_at hl 1 rfl) ?_
  refine lv_ishr hx hb dX5_layMinors_41 ?_
  refine lv_eqi (v := 2) (by decide) ?_
  refine lv_iconst (v := 1) hx hb dX5_layMinors_42 (by decide) ?_
  refine lv_iand hx hb dX5_layMinors_43 ?_
  refine lv_eqi (v := 0) (by decide) ?_
  refine lv_iadd hx hb dX5_layMinors_44 ?_
  refine lv_eqi (v := 1) (by decide) ?_
  refine lv_istore_n (lv' := [(2, .int 1), (3, .int 4), (0, .ref o), (1, .int 42)]) hx hb dX5_layMinors_45 rfl hl (by decide) rfl (fun ls hl => ?_)
  refine lv_iinc (v := 5) (lv' := [(3, .int 5), (2, .int 1), (0, .ref o), (1, .int 42)]) hx hb dX5_layMinors_46 hl (k := 1) rfl (by decide) (by decide) rfl (fun ls hl => ?_)
  refine lv_goto (tgt := 20) hx hb dX5_layMinors_49 (by decide) ?_
  refine lv_iload_n hx hb dX5_layMinors_20 rfl (lv_at hl 0 rfl) ?_
  refine lv_bipush (v := 6) hx hb dX5_layMinors_21 (by decide) ?_
  refine lv_icmp_ge (tgt := 52) hx hb dX5_layMinors_23 (by decide) (fun h => absurd h (by decide)) (fun _ => ?_)
  refine lv_iload_n hx hb dX5_layMinors_26 rfl (lv_at hl 1 rfl) ?_
  refine lv_ldc hx hb hown k_3 dX5_layMinors_27 ?_
  refine lv_icmp_ne (tgt := 36) hx hb dX5_layMinors_29 (by decide) (fun _ => ?_) (fun h => absurd h (by decide))
  refine lv_iload_n hx hb dX5_layMinors_36 rfl (lv_at hl 1 rfl) ?_
  refine lv_istore_n (lv' := [(2, .int 1), (3, .int 5), (0, .ref o), (1, .int 42)]) hx hb dX5_layMinors_37 rfl hl (by decide) rfl (fun ls hl => ?_)
  refine lv_iload_n hx hb dX5_layMinors_38 rfl (lv_at hl 0 rfl) ?_
  refine lv_iload_n hx hb dX5_layMinors_39 rfl (lv_at hl 3 rfl) ?_
  refine lv_iload_n hx hb dX5_layMinors_40 rfl (lv_at hl 1 rfl) ?_
  refine lv_ishr hx hb dX5_layMinors_41 ?_
  refine lv_eqi (v := 1) (by decide) ?_
  refine lv_iconst (v := 1) hx hb dX5_layMinors_42 (by decide) ?_
  refine lv_iand hx hb dX5_layMinors_43 ?_
  refine lv_eqi (v := 1) (by decide) ?_
  refine lv_iadd hx hb dX5_layMinors_44 ?_
  refine lv_eqi (v := 2) (by decide) ?_
  refine lv_istore_n (lv' := [(2, .int 2), (3, .int 5), (0, .ref o), (1, .int 42)]) hx hb dX5_layMinors_45 rfl hl (by decide) rfl (fun ls hl => ?_)
  refine lv_iinc (v := 6) (lv' := [(3, .int 6), (2, .int 2), (0, .ref o), (1, .int 42)]) hx hb dX5_layMinors_46 hl (k := 1) rfl (by decide) (by decide) rfl (fun ls hl => ?_)
  refine lv_goto (tgt := 20) hx hb dX5_layMinors_49 (by decide) ?_
  refine lv_iload_n hx hb dX5_layMinors_20 rfl (lv_at hl 0 rfl) ?_
  refine lv_bipush (v := 6) hx hb dX5_layMinors_21 (by decide) ?_
  refine lv_icmp_ge (tgt := 52) hx hb dX5_layMinors_23 (by decide) (fun _ => ?_) (fun h => absurd (by decide) h)
  refine lv_lconst (v := 0) hx hb dX5_layMinors_52 (by decide) ?_
  refine lv_lstore_n (lv' := [(3, .long 0), (2, .int 2), (0, .ref o), (1, .int 42)]) hx hb dX5_layMinors_53 rfl hl (by decide) rfl (fun ls hl => ?_)
  refine lv_iload_n hx hb dX5_layMinors_54 rfl (lv_at hl 1 rfl) ?_
  refine lv_istore (lv' := [(5, .int 2), (3, .long 0), (2, .int 2), (0, .ref o), (1, .int 42)]) hx hb dX5_layMinors_55 hl (by decide) rfl (fun ls hl => ?_)
  refine lv_iconst (v := 0) hx hb dX5_layMinors_57 (by decide) ?_
  refine lv_istore (lv' := [(6, .int 0), (5, .int 2), (3, .long 0), (2, .int 2), (0, .ref o), (1, .int 42)]) hx hb dX5_layMinors_58 hl (by decide) rfl (fun ls hl => ?_)
  refine lv_iload hx hb dX5_layMinors_60 (lv_at hl 0 rfl) ?_
  refine lv_bipush (v := 6) hx hb dX5_layMinors_62 (by decide) ?_
  refine lv_icmp_ge (tgt := 135) hx hb dX5_layMinors_64 (by decide) (fun h => absurd h (by decide)) (fun _ => ?_)
  refine lv_iload_n hx hb dX5_layMinors_67 rfl (lv_at hl 3 rfl) ?_
  refine lv_iconst (v := 5) hx hb dX5_layMinors_68 (by decide) ?_
  refine lv_icmp_ge (tgt := 135) hx hb dX5_layMinors_69 (by decide) (fun h => absurd h (by decide)) (fun _ => ?_)
  refine lv_iload_n hx hb dX5_layMinors_72 rfl (lv_at hl 5 rfl) ?_
  refine lv_iload hx hb dX5_layMinors_73 (lv_at hl 0 rfl) ?_
  refine lv_ishr hx hb dX5_layMinors_75 ?_
  refine lv_eqi (v := 42) (by decide) ?_
  refine lv_iconst (v := 1) hx hb dX5_layMinors_76 (by decide) ?_
  refine lv_iand hx hb dX5_layMinors_77 ?_
  refine lv_eqi (v := 0) (by decide) ?_
  refine lv_iconst (v := 1) hx hb dX5_layMinors_78 (by decide) ?_
  refine lv_icmp_ne (tgt := 129) hx hb dX5_layMinors_79 (by decide) (fun _ => ?_) (fun h => absurd h (by decide))
  refine lv_iinc (v := 1) (lv' := [(6, .int 1), (5, .int 2), (3, .long 0), (2, .int 2), (0, .ref o), (1, .int 42)]) hx hb dX5_layMinors_129 hl (k := 0) rfl (by decide) (by decide) rfl (fun ls hl => ?_)
  refine lv_goto (tgt := 60) hx hb dX5_layMinors_132 (by decide) ?_
  refine lv_iload hx hb dX5_layMinors_60 (lv_at hl 0 rfl) ?_
  refine lv_bipush (v := 6) hx hb dX5_layMinors_62 (by decide) ?_
  refine lv_icmp_ge (tgt := 135) hx hb dX5_layMinors_64 (by decide) (fun h => absurd h (by decide)) (fun _ => ?_)
  refine lv_iload_n hx hb dX5_layMinors_67 rfl (lv_at hl 3 rfl) ?_
  refine lv_iconst (v := 5) hx hb dX5_layMinors_68 (by decide) ?_
  refine lv_icmp_ge (tgt := 135) hx hb dX5_layMinors_69 (by decide) (fun h => absurd h (by decide)) (fun _ => ?_)
  refine lv_iload_n hx hb dX5_layMinors_72 rfl (lv_at hl 5 rfl) ?_
  refine lv_iload hx hb dX5_layMinors_73 (lv_at hl 0 rfl) ?_
  refine lv_ishr hx hb dX5_layMinors_75 ?_
  refine lv_eqi (v := 21) (by decide) ?_
  refine lv_iconst (v := 1) hx hb dX5_layMinors_76 (by decide) ?_
  refine lv_iand hx hb dX5_layMinors_77 ?_
  refine lv_eqi (v := 1) (by decide) ?_
  refine lv_iconst (v := 1) hx hb dX5_layMinors_78 (by decide) ?_
  refine lv_icmp_ne (tgt := 129) hx hb dX5_layMinors_79 (by decide) (fun h => absurd (by decide) h) (fun _ => ?_)
  refine lv_aload_n hx hb dX5_layMinors_82 rfl (lv_at hl 4 rfl) ?_
  refine va_get (D := D) (ci := 5) (v := .ref mR) (C := RX5) (T := TX5) (N := 17) hx hb hts k_2 hown hK.1 hP 0 rfl rfl 5 (by decide) k_4 (fun _ h9 => h9) rfl dX5_layMinors_83 ?_
  refine lv_bipush (v := 6) hx hb dX5_layMinors_86 (by decide) ?_
  refine lv_iload_n hx hb dX5_layMinors_88 rfl (lv_at hl 3 rfl) ?_
  refine lv_imul hx hb dX5_layMinors_89 ?_
  refine lv_eqi (v := 12) (by decide) ?_
  refine lv_iload hx hb dX5_layMinors_90 (lv_at hl 0 rfl) ?_
  refine lv_iadd hx hb dX5_layMinors_92 ?_
  refine lv_eqi (v := 13) (by decide) ?_
  refine ld_l hx hb hK.1 hP 1 1 rfl rfl (ix_lit (by decide)) 13 (by decide) (v := fr 13) rfl dX5_layMinors_93 ?_
  refine lv_aload_n hx hb dX5_layMinors_94 rfl (lv_at hl 4 rfl) ?_
  refine va_get (D := D) (ci := 5) (v := .ref mD) (C := RX5) (T := TX5) (N := 17) hx hb hts k_2 hown hK.1 hP 0 rfl rfl 6 (by decide) k_1 (fun _ h9 => h9) rfl dX5_layMinors_95 ?_
  refine lv_iload_n hx hb dX5_layMinors_98 rfl (lv_at hl 5 rfl) ?_
  refine lv_iconst (v := 1) hx hb dX5_layMinors_99 (by decide) ?_
  refine lv_iload hx hb dX5_layMinors_100 (lv_at hl 0 rfl) ?_
  refine lv_ishl hx hb dX5_layMinors_102 ?_
  refine lv_eqi (v := 2) (by decide) ?_
  refine lv_isub hx hb dX5_layMinors_103 ?_
  refine lv_eqi (v := 40) (by decide) ?_
  refine ld_l hx hb hK.1 hP 2 1 rfl rfl (ix_lit (by decide)) 40 (by decide) (v := z5_mw40 fr) rfl dX5_layMinors_104 ?_
  refine lv_lmul hx hb dX5_layMinors_105 ?_
  refine lv_lstore (lv' := [(7, .long ((fr 13) * (z5_mw40 fr))), (6, .int 1), (5, .int 2), (3, .long 0), (2, .int 2), (0, .ref o), (1, .int 42)]) hx hb dX5_layMinors_106 hl (by decide) rfl (fun ls hl => ?_)
  refine lv_lload_n hx hb dX5_layMinors_108 rfl (lv_at hl 3 rfl) ?_
  refine lv_iload hx hb dX5_layMinors_109 (lv_at hl 2 rfl) ?_
  refine lv_iconst (v := 2) hx hb dX5_layMinors_111 (by decide) ?_
  refine lv_irem hx hb dX5_layMinors_112 (by decide) ?_
  refine lv_eqi (v := 0) (by decide) ?_
  refine lv_if_ne (tgt := 121) hx hb dX5_layMinors_113 (by decide) (fun h => absurd (by decide) h) (fun _ => ?_)
  refine lv_lload hx hb dX5_layMinors_116 (lv_at hl 0 rfl) ?_
  refine lv_goto (tgt := 124) hx hb dX5_layMinors_118 (by decide) ?_
  refine lv_ladd hx hb dX5_layMinors_124 ?_
  refine lv_lstore_n (lv' := [(3, .long (0 + ((fr 13) * (z5_mw40 fr)))), (7, .long ((fr 13) * (z5_mw40 fr))), (6, .int 1), (5, .int 2), (2, .int 2), (0, .ref o), (1, .int 42)]) hx hb dX5_layMinors_125 rfl hl (by decide) rfl (fun ls hl => ?_)
  refine lv_iinc (v := 1) (lv' := [(5, .int 1), (3, .long (0 + ((fr 13) * (z5_mw40 fr)))), (7, .long ((fr 13) * (z5_mw40 fr))), (6, .int 1), (2, .int 2), (0, .ref o), (1, .int 42)]) hx hb dX5_layMinors_126 hl (k := 3) rfl (by decide) (by decide) rfl (fun ls hl => ?_)
  refine lv_iinc (v := 2) (lv' := [(6, .int 2), (5, .int 1), (3, .long (0 + ((fr 13) * (z5_mw40 fr)))), (7, .long ((fr 13) * (z5_mw40 fr))), (2, .int 2), (0, .ref o), (1, .int 42)]) hx hb dX5_layMinors_129 hl (k := 3) rfl (by decide) (by decide) rfl (fun ls hl => ?_)
  refine lv_goto (tgt := 60) hx hb dX5_layMinors_132 (by decide) ?_
  refine lv_iload hx hb dX5_layMinors_60 (lv_at hl 0 rfl) ?_
  refine lv_bipush (v := 6) hx hb dX5_layMinors_62 (by decide) ?_
  refine lv_icmp_ge (tgt := 135) hx hb dX5_layMinors_64 (by decide) (fun h => absurd h (by decide)) (fun _ => ?_)
  refine lv_iload_n hx hb dX5_layMinors_67 rfl (lv_at hl 4 rfl) ?_
  refine lv_iconst (v := 5) hx hb dX5_layMinors_68 (by decide) ?_
  refine lv_icmp_ge (tgt := 135) hx hb dX5_layMinors_69 (by decide) (fun h => absurd h (by decide)) (fun _ => ?_)
  refine lv_iload_n hx hb dX5_layMinors_72 rfl (lv_at hl 6 rfl) ?_
  refine lv_iload hx hb dX5_layMinors_73 (lv_at hl 0 rfl) ?_
  refine lv_ishr hx hb dX5_layMinors_75 ?_
  refine lv_eqi (v := 10) (by decide) ?_
  refine lv_iconst (v := 1) hx hb dX5_layMinors_76 (by decide) ?_
  refine lv_iand hx hb dX5_layMinors_77 ?_
  refine lv_eqi (v := 0) (by decide) ?_
  refine lv_iconst (v := 1) hx hb dX5_layMinors_78 (by decide) ?_
  refine lv_icmp_ne (tgt := 129) hx hb dX5_layMinors_79 (by decide) (fun _ => ?_) (fun h => absurd h (by decide))
  refine lv_iinc (v := 3) (lv' := [(6, .int 3), (5, .int 1), (3, .long (0 + ((fr 13) * (z5_mw40 fr)))), (7, .long ((fr 13) * (z5_mw40 fr))), (2, .int 2), (0, .ref o), (1, .int 42)]) hx hb dX5_layMinors_129 hl (k := 0) rfl (by decide) (by decide) rfl (fun ls hl => ?_)
  refine lv_goto (tgt := 60) hx hb dX5_layMinors_132 (by decide) ?_
  refine lv_iload hx hb dX5_layMinors_60 (lv_at hl 0 rfl) ?_
  refine lv_bipush (v := 6) hx hb dX5_layMinors_62 (by decide) ?_
  refine lv_icmp_ge (tgt := 135) hx hb dX5_layMinors_64 (by decide) (fun h => absurd h (by decide)) (fun _ => ?_)
  refine lv_iload_n hx hb dX5_layMinors_67 rfl (lv_at hl 4 rfl) ?_
  refine lv_iconst (v := 5) hx hb dX5_layMinors_68 (by decide) ?_
  refine lv_icmp_ge (tgt := 135) hx hb dX5_layMinors_69 (by decide) (fun h => absurd h (by decide)) (fun _ => ?_)
  refine lv_iload_n hx hb dX5_layMinors_72 rfl (lv_at hl 6 rfl) ?_
  refine lv_iload hx hb dX5_layMinors_73 (lv_at hl 0 rfl) ?_
  refine lv_ishr hx hb dX5_layMinors_75 ?_
  refine lv_eqi (v := 5) (by decide) ?_
  refine lv_iconst (v := 1) hx hb dX5_layMinors_76 (by decide) ?_
  refine lv_iand hx hb dX5_layMinors_77 ?_
  refine lv_eqi (v := 1) (by decide) ?_
  refine lv_iconst (v := 1) hx hb dX5_layMinors_78 (by decide) ?_
  refine lv_icmp_ne (tgt := 129) hx hb dX5_layMinors_79 (by decide) (fun h => absurd (by decide) h) (fun _ => ?_)
  refine lv_aload_n hx hb dX5_layMinors_82 rfl (lv_at hl 5 rfl) ?_
  refine va_get (D := D) (ci := 5) (v := .ref mR) (C := RX5) (T := TX5) (N := 17) hx hb hts k_2 hown hK.1 hP 0 rfl rfl 5 (by decide) k_4 (fun _ h9 => h9) rfl dX5_layMinors_83 ?_
  refine lv_bipush (v := 6) hx hb dX5_layMinors_86 (by decide) ?_
  refine lv_iload_n hx hb dX5_layMinors_88 rfl (lv_at hl 4 rfl) ?_
  refine lv_imul hx hb dX5_layMinors_89 ?_
  refine lv_eqi (v := 12) (by decide) ?_
  refine lv_iload hx hb dX5_layMinors_90 (lv_at hl 0 rfl) ?_
  refine lv_iadd hx hb dX5_layMinors_92 ?_
  refine lv_eqi (v := 15) (by decide) ?_
  refine ld_l hx hb hK.1 hP 1 1 rfl rfl (ix_lit (by decide)) 15 (by decide) (v := fr 15) rfl dX5_layMinors_93 ?_
  refine lv_aload_n hx hb dX5_layMinors_94 rfl (lv_at hl 5 rfl) ?_
  refine va_get (D := D) (ci := 5) (v := .ref mD) (C := RX5) (T := TX5) (N := 17) hx hb hts k_2 hown hK.1 hP 0 rfl rfl 6 (by decide) k_1 (fun _ h9 => h9) rfl dX5_layMinors_95 ?_
  refine lv_iload_n hx hb dX5_layMinors_98 rfl (lv_at hl 6 rfl) ?_
  refine lv_iconst (v := 1) hx hb dX5_layMinors_99 (by decide) ?_
  refine lv_iload hx hb dX5_layMinors_100 (lv_at hl 0 rfl) ?_
  refine lv_ishl hx hb dX5_layMinors_102 ?_
  refine lv_eqi (v := 8) (by decide) ?_
  refine lv_isub hx hb dX5_layMinors_103 ?_
  refine lv_eqi (v := 34) (by decide) ?_
  refine ld_l hx hb hK.1 hP 2 1 rfl rfl (ix_lit (by decide)) 34 (by decide) (v := z5_mw34 fr) rfl dX5_layMinors_104 ?_
  refine lv_lmul hx hb dX5_layMinors_105 ?_
  refine lv_lstore (lv' := [(7, .long ((fr 15) * (z5_mw34 fr))), (6, .int 3), (5, .int 1), (3, .long (0 + ((fr 13) * (z5_mw40 fr)))), (2, .int 2), (0, .ref o), (1, .int 42)]) hx hb dX5_layMinors_106 hl (by decide) rfl (fun ls hl => ?_)
  refine lv_lload_n hx hb dX5_layMinors_108 rfl (lv_at hl 3 rfl) ?_
  refine lv_iload hx hb dX5_layMinors_109 (lv_at hl 2 rfl) ?_
  refine lv_iconst (v := 2) hx hb dX5_layMinors_111 (by decide) ?_
  refine lv_irem hx hb dX5_layMinors_112 (by decide) ?_
  refine lv_eqi (v := 1) (by decide) ?_
  refine lv_if_ne (tgt := 121) hx hb dX5_layMinors_113 (by decide) (fun _ => ?_) (fun h => absurd h (by decide))
  refine lv_lload hx hb dX5_layMinors_121 (lv_at hl 0 rfl) ?_
  refine lv_lneg hx hb dX5_layMinors_123 ?_
  refine lv_ladd hx hb dX5_layMinors_124 ?_
  refine lv_lstore_n (lv' := [(3, .long ((0 + ((fr 13) * (z5_mw40 fr))) + (-((fr 15) * (z5_mw34 fr))))), (7, .long ((fr 15) * (z5_mw34 fr))), (6, .int 3), (5, .int 1), (2, .int 2), (0, .ref o), (1, .int 42)]) hx hb dX5_layMinors_125 rfl hl (by decide) rfl (fun ls hl => ?_)
  refine lv_iinc (v := 0) (lv' := [(5, .int 0), (3, .long ((0 + ((fr 13) * (z5_mw40 fr))) + (-((fr 15) * (z5_mw34 fr))))), (7, .long ((fr 15) * (z5_mw34 fr))), (6, .int 3), (2, .int 2), (0, .ref o), (1, .int 42)]) hx hb dX5_layMinors_126 hl (k := 3) rfl (by decide) (by decide) rfl (fun ls hl => ?_)
  refine lv_iinc (v := 4) (lv' := [(6, .int 4), (5, .int 0), (3, .long ((0 + ((fr 13) * (z5_mw40 fr))) + (-((fr 15) * (z5_mw34 fr))))), (7, .long ((fr 15) * (z5_mw34 fr))), (2, .int 2), (0, .ref o), (1, .int 42)]) hx hb dX5_layMinors_129 hl (k := 3) rfl (by decide) (by decide) rfl (fun ls hl => ?_)
  refine lv_goto (tgt := 60) hx hb dX5_layMinors_132 (by decide) ?_
  refine lv_iload hx hb dX5_layMinors_60 (lv_at hl 0 rfl) ?_
  refine lv_bipush (v := 6) hx hb dX5_layMinors_62 (by decide) ?_
  refine lv_icmp_ge (tgt := 135) hx hb dX5_layMinors_64 (by decide) (fun h => absurd h (by decide)) (fun _ => ?_)
  refine lv_iload_n hx hb dX5_layMinors_67 rfl (lv_at hl 4 rfl) ?_
  refine lv_iconst (v := 5) hx hb dX5_layMinors_68 (by decide) ?_
  refine lv_icmp_ge (tgt := 135) hx hb dX5_layMinors_69 (by decide) (fun h => absurd h (by decide)) (fun _ => ?_)
  refine lv_iload_n hx hb dX5_layMinors_72 rfl (lv_at hl 6 rfl) ?_
  refine lv_iload hx hb dX5_layMinors_73 (lv_at hl 0 rfl) ?_
  refine lv_ishr hx hb dX5_layMinors_75 ?_
  refine lv_eqi (v := 2) (by decide) ?_
  refine lv_iconst (v := 1) hx hb dX5_layMinors_76 (by decide) ?_
  refine lv_iand hx hb dX5_layMinors_77 ?_
  refine lv_eqi (v := 0) (by decide) ?_
  refine lv_iconst (v := 1) hx hb dX5_layMinors_78 (by decide) ?_
  refine lv_icmp_ne (tgt := 129) hx hb dX5_layMinors_79 (by decide) (fun _ => ?_) (fun h => absurd h (by decide))
  refine lv_iinc (v := 5) (lv' := [(6, .int 5), (5, .int 0), (3, .long ((0 + ((fr 13) * (z5_mw40 fr))) + (-((fr 15) * (z5_mw34 fr))))), (7, .long ((fr 15) * (z5_mw34 fr))), (2, .int 2), (0, .ref o), (1, .int 42)]) hx hb dX5_layMinors_129 hl (k := 0) rfl (by decide) (by decide) rfl (fun ls hl => ?_)
  refine lv_goto (tgt := 60) hx hb dX5_layMinors_132 (by decide) ?_
  refine lv_iload hx hb dX5_layMinors_60 (lv_at hl 0 rfl) ?_
  refine lv_bipush (v := 6) hx hb dX5_layMinors_62 (by decide) ?_
  refine lv_icmp_ge (tgt := 135) hx hb dX5_layMinors_64 (by decide) (fun h => absurd h (by decide)) (fun _ => ?_)
  refine lv_iload_n hx hb dX5_layMinors_67 rfl (lv_at hl 4 rfl) ?_
  refine lv_iconst (v := 5) hx hb dX5_layMinors_68 (by decide) ?_
  refine lv_icmp_ge (tgt := 135) hx hb dX5_layMinors_69 (by decide) (fun h => absurd h (by decide)) (fun _ => ?_)
  refine lv_iload_n hx hb dX5_layMinors_72 rfl (lv_at hl 6 rfl) ?_
  refine lv_iload hx hb dX5_layMinors_73 (lv_at hl 0 rfl) ?_
  refine lv_ishr hx hb dX5_layMinors_75 ?_
  refine lv_eqi (v := 1) (by decide) ?_
  refine lv_iconst (v := 1) hx hb dX5_layMinors_76 (by decide) ?_
  refine lv_iand hx hb dX5_layMinors_77 ?_
  refine lv_eqi (v := 1) (by decide) ?_
  refine lv_iconst (v := 1) hx hb dX5_layMinors_78 (by decide) ?_
  refine lv_icmp_ne (tgt := 129) hx hb dX5_layMinors_79 (by decide) (fun h => absurd (by decide) h) (fun _ => ?_)
  refine lv_aload_n hx hb dX5_layMinors_82 rfl (lv_at hl 5 rfl) ?_
  refine va_get (D := D) (ci := 5) (v := .ref mR) (C := RX5) (T := TX5) (N := 17) hx hb hts k_2 hown hK.1 hP 0 rfl rfl 5 (by decide) k_4 (fun _ h9 => h9) rfl dX5_layMinors_83 ?_
  refine lv_bipush (v := 6) hx hb dX5_layMinors_86 (by decide) ?_
  refine lv_iload_n hx hb dX5_layMinors_88 rfl (lv_at hl 4 rfl) ?_
  refine lv_imul hx hb dX5_layMinors_89 ?_
  refine lv_eqi (v := 12) (by decide) ?_
  refine lv_iload hx hb dX5_layMinors_90 (lv_at hl 0 rfl) ?_
  refine lv_iadd hx hb dX5_layMinors_92 ?_
  refine lv_eqi (v := 17) (by decide) ?_
  refine ld_l hx hb hK.1 hP 1 1 rfl rfl (ix_lit (by decide)) 17 (by decide) (v := fr 17) rfl dX5_layMinors_93 ?_
  refine lv_aload_n hx hb dX5_layMinors_94 rfl (lv_at hl 5 rfl) ?_
  refine va_get (D := D) (ci := 5) (v := .ref mD) (C := RX5) (T := TX5) (N := 17) hx hb hts k_2 hown hK.1 hP 0 rfl rfl 6 (by decide) k_1 (fun _ h9 => h9) rfl dX5_layMinors_95 ?_
  refine lv_iload_n hx hb dX5_layMinors_98 rfl (lv_at hl 6 rfl) ?_
  refine lv_iconst (v := 1) hx hb dX5_layMinors_99 (by decide) ?_
  refine lv_iload hx hb dX5_layMinors_100 (lv_at hl 0 rfl) ?_
  refine lv_ishl hx hb dX5_layMinors_102 ?_
  refine lv_eqi (v := 32) (by decide) ?_
  refine lv_isub hx hb dX5_layMinors_103 ?_
  refine lv_eqi (v := 10) (by decide) ?_
  refine ld_l hx hb hK.1 hP 2 1 rfl rfl (ix_lit (by decide)) 10 (by decide) (v := z5_mw10 fr) rfl dX5_layMinors_104 ?_
  refine lv_lmul hx hb dX5_layMinors_105 ?_
  refine lv_lstore (lv' := [(7, .long ((fr 17) * (z5_mw10 fr))), (6, .int 5), (5, .int 0), (3, .long ((0 + ((fr 13) * (z5_mw40 fr))) + (-((fr 15) * (z5_mw34 fr))))), (2, .int 2), (0, .ref o), (1, .int 42)]) hx hb dX5_layMinors_106 hl (by decide) rfl (fun ls hl => ?_)
  refine lv_lload_n hx hb dX5_layMinors_108 rfl (lv_at hl 3 rfl) ?_
  refine lv_iload hx hb dX5_layMinors_109 (lv_at hl 2 rfl) ?_
  refine lv_iconst (v := 2) hx hb dX5_layMinors_111 (by decide) ?_
  refine lv_irem hx hb dX5_layMinors_112 (by decide) ?_
  refine lv_eqi (v := 0) (by decide) ?_
  refine lv_if_ne (tgt := 121) hx hb dX5_layMinors_113 (by decide) (fun h => absurd (by decide) h) (fun _ => ?_)
  refine lv_lload hx hb dX5_layMinors_116 (lv_at hl 0 rfl) ?_
  refine lv_goto (tgt := 124) hx hb dX5_layMinors_118 (by decide) ?_
  refine lv_ladd hx hb dX5_layMinors_124 ?_
  refine lv_lstore_n (lv' := [(3, .long (((0 + ((fr 13) * (z5_mw40 fr))) + (-((fr 15) * (z5_mw34 fr)))) + ((fr 17) * (z5_mw10 fr)))), (7, .long ((fr 17) * (z5_mw10 fr))), (6, .int 5), (5, .int 0), (2, .int 2), (0, .ref o), (1, .int 42)]) hx hb dX5_layMinors_125 rfl hl (by decide) rfl (fun ls hl => ?_)
  refine lv_iinc (v := (-1)) (lv' := [(5, .int (-1)), (3, .long (((0 + ((fr 13) * (z5_mw40 fr))) + (-((fr 15) * (z5_mw34 fr)))) + ((fr 17) * (z5_mw10 fr)))), (7, .long ((fr 17) * (z5_mw10 fr))), (6, .int 5), (2, .int 2), (0, .ref o), (1, .int 42)]) hx hb dX5_layMinors_126 hl (k := 3) rfl (by decide) (by decide) rfl (fun ls hl => ?_)
  refine lv_iinc (v := 6) (lv' := [(6, .int 6), (5, .int (-1)), (3, .long (((0 + ((fr 13) * (z5_mw40 fr))) + (-((fr 15) * (z5_mw34 fr)))) + ((fr 17) * (z5_mw10 fr)))), (7, .long ((fr 17) * (z5_mw10 fr))), (2, .int 2), (0, .ref o), (1, .int 42)]) hx hb dX5_layMinors_129 hl (k := 3) rfl (by decide) (by decide) rfl (fun ls hl => ?_)
  refine lv_goto (tgt := 60) hx hb dX5_layMinors_132 (by decide) ?_
  refine lv_iload hx hb dX5_layMinors_60 (lv_at hl 0 rfl) ?_
  refine lv_bipush (v := 6) hx hb dX5_layMinors_62 (by decide) ?_
  refine lv_icmp_ge (tgt := 135) hx hb dX5_layMinors_64 (by decide) (fun _ => ?_) (fun h => absurd (by decide) h)
  refine lv_aload_n hx hb dX5_layMinors_135 rfl (lv_at hl 5 rfl) ?_
  refine va_get (D := D) (ci := 5) (v := .ref mD) (C := RX5) (T := TX5) (N := 17) hx hb hts k_2 hown hK.1 hP 0 rfl rfl 6 (by decide) k_1 (fun _ h9 => h9) rfl dX5_layMinors_136 ?_
  refine lv_iload_n hx hb dX5_layMinors_139 rfl (lv_at hl 6 rfl) ?_
  refine lv_lload_n hx hb dX5_layMinors_140 rfl (lv_at hl 2 rfl) ?_
  refine st_l hx hb hK.1 hP hD hS 2 1 rfl rfl (ix_lit (by decide)) 42 (by decide) dX5_layMinors_141 (fun H locs hP hD hS => ?_)
  have hP : va_P D vwCl [kM o mP mL mC mN mF mR mD mV mX mA mK cm mT pm mU mH mI, kJ mR cJ 30 fr, kJ mD cJ 64 (vp_updL (z5_mm42 fr fd) 42 (((0 + ((fr 13) * (z5_mw40 fr))) + (-((fr 15) * (z5_mw34 fr)))) + ((fr 17) * (z5_mw10 fr))))] H := hP
  have hD : va_D A [kM o mP mL mC mN mF mR mD mV mX mA mK cm mT pm mU mH mI, kJ mR cJ 30 fr, kJ mD cJ 64 (vp_updL (z5_mm42 fr fd) 42 (((0 + ((fr 13) * (z5_mw40 fr))) + (-((fr 15) * (z5_mw34 fr)))) + ((fr 17) * (z5_mw10 fr))))] := hD
  have hP : va_P D vwCl [kM o mP mL mC mN mF mR mD mV mX mA mK cm mT pm mU mH mI, kJ mR cJ 30 fr, kJ mD cJ 64 (z5_mm43 fr fd)] H := hP
  have hD : va_D A [kM o mP mL mC mN mF mR mD mV mX mA mK cm mT pm mU mH mI, kJ mR cJ 30 fr, kJ mD cJ 64 (z5_mm43 fr fd)] := hD
  refine lv_iinc (v := 43) (lv' := [(1, .int 43), (6, .int 6), (5, .int (-1)), (3, .long (((0 + ((fr 13) * (z5_mw40 fr))) + (-((fr 15) * (z5_mw34 fr)))) + ((fr 17) * (z5_mw10 fr)))), (7, .long ((fr 17) * (z5_mw10 fr))), (2, .int 2), (0, .ref o)]) hx hb dX5_layMinors_142 hl (k := 6) rfl (by decide) (by decide) rfl (fun ls hl => ?_)
  refine lv_goto (tgt := 9) hx hb dX5_layMinors_145 (by decide) ?_
  exact sg_X5_layMinors_43 hx hb hr hml hown hts hlk hK hA hP hD hS ls (lv_sub hl [6, 0] rfl)
set_option maxHeartbeats 4000000 in
set_option maxRecDepth 100000 in
theorem sg_X5_layMinors_41 {l : Launch} {D : va_G} {cI cJ : ClassId} {pG : Program} {eG : Env} {sG : State} {mG : MethodId} {below : List Frame} {meth : Method} {cG : Code} {A : Nat → Prop} {H : Heap} {locs : List Loc} {o : Nat} {mP : Nat} {mL : Nat} {mC : Nat} {mN : Nat} {mF : Nat} {mR : Nat} {mD : Nat} {mV : Nat} {mX : Nat} {mA : Nat} {mK : Nat} {mT : Nat} {mU : Nat} {mH : Nat} {mI : Nat} {cm : Int32} {pm : Int32} {fr : Nat → Int64} {fd : Nat → Int64} (hx : pG.tables.exec = Jvm.exec) (hb : cG.code = cX5_layMinors) (hr : meth.sig.returnType = none) (hml : cG.maxLocals = 9) (hown : sG.vm.findClass RX5 = some mG.cls) (hts : ∀ x ∈ wsX5_layMinors, x.before ([.ref o] : List Value).toArray sG = true) (hlk : meth.locks = false) (hK : gd_K D cI cJ sG) (hA : ∀ q : Nat, sG.heap.size ≤ q → A q) (hP : va_P D vwCl [kM o mP mL mC mN mF mR mD mV mX mA mK cm mT pm mU mH mI, kJ mR cJ 30 fr, kJ mD cJ 64 (z5_mm41 fr fd)] H) (hD : va_D A [kM o mP mL mC mN mF mR mD mV mX mA mK cm mT pm mU mH mI, kJ mR cJ 30 fr, kJ mD cJ 64 (z5_mm41 fr fd)]) (hS : va_S A sG.heap H locs) (ls : Array Slot) (hl : lv_has ls 9 [(0, .ref o), (1, .int 41)]) : W pG l eG (headSpec wsX5_layMinors ({ frames := 0, cells := 0, slots := 0, locals := 0 })).room sG mG ([.ref o] : List Value).toArray below meth cG H locs 0 0 (MQ below ((qe_v (fun _ : Unit => True) (fun uu => [kM o mP mL mC mN mF mR mD mV mX mA mK cm mT pm mU mH mI, kJ mR cJ 30 fr, kJ mD cJ 64 (z5_layMinors_f2 fr fd)])) D A) ([.ref o] : List Value).toArray sG 0 0 A) (F0 mG 9 ls []) := by
  have k_1 := hts (.fieldLink RX5 29 "ConicRowsModel" "minors" "[J") (by decide +kernel)
  have k_2 : ∀ w ∈ wsX50, w ∈ wsX5_layMinors := by decide +kernel
  have k_3 := hts (.constant RX5 122 (-1000001)) (by decide +kernel)
  have k_4 := hts (.fieldLink RX5 26 "ConicRowsModel" "rows" "[J") (by decide +kernel)
  refine lv_iload_n hx hb dX5_layMinors_9 rfl (lv_at hl 1 rfl) ?_
  refine lv_bipush (v := 64) hx hb dX5_layMinors_10 (by decide) ?_
  refine lv_icmp_ge (tgt := 148) hx hb dX5_layMinors_12 (by decide) (fun h => absurd h (by decide)) (fun _ => ?_)
  refine lv_ldc hx hb hown k_3 dX5_layMinors_15 ?_
  refine lv_istore_n (lv' := [(2, .int (-1000001)), (0, .ref o), (1, .int 41)]) hx hb dX5_layMinors_17 rfl hl (by decide) rfl (fun ls hl => ?_)
  refine lv_iconst (v := 0) hx hb dX5_layMinors_18 (by decide) ?_
  refine lv_istore_n (lv' := [(3, .int 0), (2, .int (-1000001)), (0, .ref o), (1, .int 41)]) hx hb dX5_layMinors_19 rfl hl (by decide) rfl (fun ls hl => ?_)
  refine lv_iload_n hx hb dX5_layMinors_20 rfl (lv_at hl 0 rfl) ?_
  refine lv_bipush (v := 6) hx hb dX5_layMinors_21 (by decide) ?_
  refine lv_icmp_ge (tgt := 52) hx hb dX5_layMinors_23 (by decide) (fun h => absurd h (by decide)) (fun _ => ?_)
  refine lv_iload_n hx hb dX5_layMinors_26 rfl (lv_at hl 1 rfl) ?_
  refine lv_ldc hx hb hown k_3 dX5_layMinors_27 ?_
  refine lv_icmp_ne (tgt := 36) hx hb dX5_layMinors_29 (by decide) (fun h => absurd (by decide) h) (fun _ => ?_)
  refine lv_iconst (v := (-1)) hx hb dX5_layMinors_32 (by decide) ?_
  refine lv_goto (tgt := 37) hx hb dX5_layMinors_33 (by decide) ?_
  refine lv_istore_n (lv' := [(2, .int (-1)), (3, .int 0), (0, .ref o), (1, .int 41)]) hx hb dX5_layMinors_37 rfl hl (by decide) rfl (fun ls hl => ?_)
  refine lv_iload_n hx hb dX5_layMinors_38 rfl (lv_at hl 0 rfl) ?_
  refine lv_iload_n hx hb dX5_layMinors_39 rfl (lv_at hl 3 rfl) ?_
  refine lv_iload_n hx hb dX5_layMinors_40 rfl (lv_at hl 1 rfl) ?_
  refine lv_ishr hx hb dX5_layMinors_41 ?_
  refine lv_eqi (v := 41) (by decide) ?_
  refine lv_iconst (v := 1) hx hb dX5_layMinors_42 (by decide) ?_
  refine lv_iand hx hb dX5_layMinors_43 ?_
  refine lv_eqi (v := 1) (by decide) ?_
  refine lv_iadd hx hb dX5_layMinors_44 ?_
  refine lv_eqi (v := 0) (by decide) ?_
  refine lv_istore_n (lv' := [(2, .int 0), (3, .int 0), (0, .ref o), (1, .int 41)]) hx hb dX5_layMinors_45 rfl hl (by decide) rfl (fun ls hl => ?_)
  refine lv_iinc (v := 1) (lv' := [(3, .int 1), (2, .int 0), (0, .ref o), (1, .int 41)]) hx hb dX5_layMinors_46 hl (k := 1) rfl (by decide) (by decide) rfl (fun ls hl => ?_)
  refine lv_goto (tgt := 20) hx hb dX5_layMinors_49 (by decide) ?_
  refine lv_iload_n hx hb dX5_layMinors_20 rfl (lv_at hl 0 rfl) ?_
  refine lv_bipush (v := 6) hx hb dX5_layMinors_21 (by decide) ?_
  refine lv_icmp_ge (tgt := 52) hx hb dX5_layMinors_23 (by decide) (fun h => absurd h (by decide)) (fun _ => ?_)
  refine lv_iload_n hx hb dX5_layMinors_26 rfl (lv_at hl 1 rfl) ?_
  refine lv_ldc hx hb hown k_3 dX5_layMinors_27 ?_
  refine lv_icmp_ne (tgt := 36) hx hb dX5_layMinors_29 (by decide) (fun _ => ?_) (fun h => absurd h (by decide))
  refine lv_iload_n hx hb dX5_layMinors_36 rfl (lv_at hl 1 rfl) ?_
  refine lv_istore_n (lv' := [(2, .int 0), (3, .int 1), (0, .ref o), (1, .int 41)]) hx hb dX5_layMinors_37 rfl hl (by decide) rfl (fun ls hl => ?_)
  refine lv_iload_n hx hb dX5_layMinors_38 rfl (lv_at hl 0 rfl) ?_
  refine lv_iload_n hx hb dX5_layMinors_39 rfl (lv_at hl 3 rfl) ?_
  refine lv_iload_n hx hb dX5_layMinors_40 rfl (lv_at hl 1 rfl) ?_
  refine lv_ishr hx hb dX5_layMinors_41 ?_
  refine lv_eqi (v := 20) (by decide) ?_
  refine lv_iconst (v := 1) hx hb dX5_layMinors_42 (by decide) ?_
  refine lv_iand hx hb dX5_layMinors_43 ?_
  refine lv_eqi (v := 0) (by decide) ?_
  refine lv_iadd hx hb dX5_layMinors_44 ?_
  refine lv_eqi (v := 0) (by decide) ?_
  refine lv_istore_n (lv' := [(2, .int 0), (3, .int 1), (0, .ref o), (1, .int 41)]) hx hb dX5_layMinors_45 rfl hl (by decide) rfl (fun ls hl => ?_)
  refine lv_iinc (v := 2) (lv' := [(3, .int 2), (2, .int 0), (0, .ref o), (1, .int 41)]) hx hb dX5_layMinors_46 hl (k := 1) rfl (by decide) (by decide) rfl (fun ls hl => ?_)
  refine lv_goto (tgt := 20) hx hb dX5_layMinors_49 (by decide) ?_
  refine lv_iload_n hx hb dX5_layMinors_20 rfl (lv_at hl 0 rfl) ?_
  refine lv_bipush (v := 6) hx hb dX5_layMinors_21 (by decide) ?_
  refine lv_icmp_ge (tgt := 52) hx hb dX5_layMinors_23 (by decide) (fun h => absurd h (by decide)) (fun _ => ?_)
  refine lv_iload_n hx hb dX5_layMinors_26 rfl (lv_at hl 1 rfl) ?_
  refine lv_ldc hx hb hown k_3 dX5_layMinors_27 ?_
  refine lv_icmp_ne (tgt := 36) hx hb dX5_layMinors_29 (by decide) (fun _ => ?_) (fun h => absurd h (by decide))
  refine lv_iload_n hx hb dX5_layMinors_36 rfl (lv_at hl 1 rfl) ?_
  refine lv_istore_n (lv' := [(2, .int 0), (3, .int 2), (0, .ref o), (1, .int 41)]) hx hb dX5_layMinors_37 rfl hl (by decide) rfl (fun ls hl => ?_)
  refine lv_iload_n hx hb dX5_layMinors_38 rfl (lv_at hl 0 rfl) ?_
  refine lv_iload_n hx hb dX5_layMinors_39 rfl (lv_at hl 3 rfl) ?_
  refine lv_iload_n hx hb dX5_layMinors_40 rfl (lv_at hl 1 rfl) ?_
  refine lv_ishr hx hb dX5_layMinors_41 ?_
  refine lv_eqi (v := 10) (by decide) ?_
  refine lv_iconst (v := 1) hx hb dX5_layMinors_42 (by decide) ?_
  refine lv_iand hx hb dX5_layMinors_43 ?_
  refine lv_eqi (v := 0) (by decide) ?_
  refine lv_iadd hx hb dX5_layMinors_44 ?_
  refine lv_eqi (v := 0) (by decide) ?_
  refine lv_istore_n (lv' := [(2, .int 0), (3, .int 2), (0, .ref o), (1, .int 41)]) hx hb dX5_layMinors_45 rfl hl (by decide) rfl (fun ls hl => ?_)
  refine lv_iinc (v := 3) (lv' := [(3, .int 3), (2, .int 0), (0, .ref o), (1, .int 41)]) hx hb dX5_layMinors_46 hl (k := 1) rfl (by decide) (by decide) rfl (fun ls hl => ?_)
  refine lv_goto (tgt := 20) hx hb dX5_layMinors_49 (by decide) ?_
  refine lv_iload_n hx hb dX5_layMinors_20 rfl (lv_at hl 0 rfl) ?_
  refine lv_bipush (v := 6) hx hb dX5_layMinors_21 (by decide) ?_
  refine lv_icmp_ge (tgt := 52) hx hb dX5_layMinors_23 (by decide) (fun h => absurd h (by decide)) (fun _ => ?_)
  refine lv_iload_n hx hb dX5_layMinors_26 rfl (lv_at hl 1 rfl) ?_
  refine lv_ldc hx hb hown k_3 dX5_layMinors_27 ?_
  refine lv_icmp_ne (tgt := 36) hx hb dX5_layMinors_29 (by decide) (fun _ => ?_) (fun h => absurd h (by decide))
  refine lv_iload_n hx hb dX5_layMinors_36 rfl (lv_at hl 1 rfl) ?_
  refine lv_istore_n (lv' := [(2, .int 0), (3, .int 3), (0, .ref o), (1, .int 41)]) hx hb dX5_layMinors_37 rfl hl (by decide) rfl (fun ls hl => ?_)
  refine lv_iload_n hx hb dX5_layMinors_38 rfl (lv_at hl 0 rfl) ?_
  refine lv_iload_n hx hb dX5_layMinors_39 rfl (lv_at hl 3 rfl) ?_
  refine lv_iload_n hx hb dX5_layMinors_40 rfl (lv_at hl 1 rfl) ?_
  refine lv_ishr hx hb dX5_layMinors_41 ?_
  refine lv_eqi (v := 5) (by decide) ?_
  refine lv_iconst (v := 1) hx hb dX5_layMinors_42 (by decide) ?_
  refine lv_iand hx hb dX5_layMinors_43 ?_
  refine lv_eqi (v := 1) (by decide) ?_
  refine lv_iadd hx hb dX5_layMinors_44 ?_
  refine lv_eqi (v := 1) (by decide) ?_
  refine lv_istore_n (lv' := [(2, .int 1), (3, .int 3), (0, .ref o), (1, .int 41)]) hx hb dX5_layMinors_45 rfl hl (by decide) rfl (fun ls hl => ?_)
  refine lv_iinc (v := 4) (lv' := [(3, .int 4), (2, .int 1), (0, .ref o), (1, .int 41)]) hx hb dX5_layMinors_46 hl (k := 1) rfl (by decide) (by decide) rfl (fun ls hl => ?_)
  refine lv_goto (tgt := 20) hx hb dX5_layMinors_49 (by decide) ?_
  refine lv_iload_n hx hb dX5_layMinors_20 rfl (lv_at hl 0 rfl) ?_
  refine lv_bipush (v := 6) hx hb dX5_layMinors_21 (by decide) ?_
  refine lv_icmp_ge (tgt := 52) hx hb dX5_layMinors_23 (by decide) (fun h => absurd h (by decide)) (fun _ => ?_)
  refine lv_iload_n hx hb dX5_layMinors_26 rfl (lv_at hl 1 rfl) ?_
  refine lv_ldc hx hb hown k_3 dX5_layMinors_27 ?_
  refine lv_icmp_ne (tgt := 36) hx hb dX5_layMinors_29 (by decide) (fun _ => ?_) (fun h => absurd h (by decide))
  refine lv_iload_n hx hb dX5_layMinors_36 rfl (lv_at hl 1 rfl) ?_
  refine lv_istore_n (lv' := [(2, .int 1), (3, .int 4), (0, .ref o), (1, .int 41)]) hx hb dX5_layMinors_37 rfl hl (by decide) rfl (fun ls hl => ?_)
  refine lv_iload_n hx hb dX5_layMinors_38 rfl (lv_at hl 0 rfl) ?_
  refine lv_iload_n hx hb dX5_layMinors_39 rfl (lv_at hl 3 rfl) ?_
  refine lv_iload_n hx hb dX5_layMinors_40 rfl (lv_at hl 1 rfl) ?_
  refine lv_ishr hx hb dX5_layMinors_41 ?_
  refine lv_eqi (v := 2) (by decide) ?_
  refine lv_iconst (v := 1) hx hb dX5_layMinors_42 (by decide) ?_
  refine lv_iand hx hb dX5_layMinors_43 ?_
  refine lv_eqi (v := 0) (by decide) ?_
  refine lv_iadd hx hb dX5_layMinors_44 ?_
  refine lv_eqi (v := 1) (by decide) ?_
  refine lv_istore_n (lv' := [(2, .int 1), (3, .int 4), (0, .ref o), (1, .int 41)]) hx hb dX5_layMinors_45 rfl hl (by decide) rfl (fun ls hl => ?_)
  refine lv_iinc (v := 5) (lv' := [(3, .int 5), (2, .int 1), (0, .ref o), (1, .int 41)]) hx hb dX5_layMinors_46 hl (k := 1) rfl (by decide) (by decide) rfl (fun ls hl => ?_)
  refine lv_goto (tgt := 20) hx hb dX5_layMinors_49 (by decide) ?_
  refine lv_iload_n hx hb dX5_layMinors_20 rfl (lv_at hl 0 rfl) ?_
  refine lv_bipush (v := 6) hx hb dX5_layMinors_21 (by decide) ?_
  refine lv_icmp_ge (tgt := 52) hx hb dX5_layMinors_23 (by decide) (fun h => absurd h (by decide)) (fun _ => ?_)
  refine lv_iload_n hx hb dX5_layMinors_26 rfl (lv_at hl 1 rfl) ?_
  refine lv_ldc hx hb hown k_3 dX5_layMinors_27 ?_
  refine lv_icmp_ne (tgt := 36) hx hb dX5_layMinors_29 (by decide) (fun _ => ?_) (fun h => absurd h (by decide))
  refine lv_iload_n hx hb dX5_layMinors_36 rfl (lv_at hl 1 rfl) ?_
  refine lv_istore_n (lv' := [(2, .int 1), (3, .int 5), (0, .ref o), (1, .int 41)]) hx hb dX5_layMinors_37 rfl hl (by decide) rfl (fun ls hl => ?_)
  refine lv_iload_n hx hb dX5_layMinors_38 rfl (lv_at hl 0 rfl) ?_
  refine lv_iload_n hx hb dX5_layMinors_39 rfl (lv_at hl 3 rfl) ?_
  refine lv_iload_n hx hb dX5_layMinors_40 rfl (lv_at hl 1 rfl) ?_
  refine lv_ishr hx hb dX5_layMinors_41 ?_
  refine lv_eqi (v := 1) (by decide) ?_
  refine lv_iconst (v := 1) hx hb dX5_layMinors_42 (by decide) ?_
  refine lv_iand hx hb dX5_layMinors_43 ?_
  refine lv_eqi (v := 1) (by decide) ?_
  refine lv_iadd hx hb dX5_layMinors_44 ?_
  refine lv_eqi (v := 2) (by decide) ?_
  refine lv_istore_n (lv' := [(2, .int 2), (3, .int 5), (0, .ref o), (1, .int 41)]) hx hb dX5_layMinors_45 rfl hl (by decide) rfl (fun ls hl => ?_)
  refine lv_iinc (v := 6) (lv' := [(3, .int 6), (2, .int 2), (0, .ref o), (1, .int 41)]) hx hb dX5_layMinors_46 hl (k := 1) rfl (by decide) (by decide) rfl (fun ls hl => ?_)
  refine lv_goto (tgt := 20) hx hb dX5_layMinors_49 (by decide) ?_
  refine lv_iload_n hx hb dX5_layMinors_20 rfl (lv_at hl 0 rfl) ?_
  refine lv_bipush (v := 6) hx hb dX5_layMinors_21 (by decide) ?_
  refine lv_icmp_ge (tgt := 52) hx hb dX5_layMinors_23 (by decide) (fun _ => ?_) (fun h => absurd (by decide) h)
  refine lv_lconst (v := 0) hx hb dX5_layMinors_52 (by decide) ?_
  refine lv_lstore_n (lv' := [(3, .long 0), (2, .int 2), (0, .ref o), (1, .int 41)]) hx hb dX5_layMinors_53 rfl hl (by decide) rfl (fun ls hl => ?_)
  refine lv_iload_n hx hb dX5_layMinors_54 rfl (lv_at hl 1 rfl) ?_
  refine lv_istore (lv' := [(5, .int 2), (3, .long 0), (2, .int 2), (0, .ref o), (1, .int 41)]) hx hb dX5_layMinors_55 hl (by decide) rfl (fun ls hl => ?_)
  refine lv_iconst (v := 0) hx hb dX5_layMinors_57 (by decide) ?_
  refine lv_istore (lv' := [(6, .int 0), (5, .int 2), (3, .long 0), (2, .int 2), (0, .ref o), (1, .int 41)]) hx hb dX5_layMinors_58 hl (by decide) rfl (fun ls hl => ?_)
  refine lv_iload hx hb dX5_layMinors_60 (lv_at hl 0 rfl) ?_
  refine lv_bipush (v := 6) hx hb dX5_layMinors_62 (by decide) ?_
  refine lv_icmp_ge (tgt := 135) hx hb dX5_layMinors_64 (by decide) (fun h => absurd h (by decide)) (fun _ => ?_)
  refine lv_iload_n hx hb dX5_layMinors_67 rfl (lv_at hl 3 rfl) ?_
  refine lv_iconst (v := 5) hx hb dX5_layMinors_68 (by decide) ?_
  refine lv_icmp_ge (tgt := 135) hx hb dX5_layMinors_69 (by decide) (fun h => absurd h (by decide)) (fun _ => ?_)
  refine lv_iload_n hx hb dX5_layMinors_72 rfl (lv_at hl 5 rfl) ?_
  refine lv_iload hx hb dX5_layMinors_73 (lv_at hl 0 rfl) ?_
  refine lv_ishr hx hb dX5_layMinors_75 ?_
  refine lv_eqi (v := 41) (by decide) ?_
  refine lv_iconst (v := 1) hx hb dX5_layMinors_76 (by decide) ?_
  refine lv_iand hx hb dX5_layMinors_77 ?_
  refine lv_eqi (v := 1) (by decide) ?_
  refine lv_iconst (v := 1) hx hb dX5_layMinors_78 (by decide) ?_
  refine lv_icmp_ne (tgt := 129) hx hb dX5_layMinors_79 (by decide) (fun h => absurd (by decide) h) (fun _ => ?_)
  refine lv_aload_n hx hb dX5_layMinors_82 rfl (lv_at hl 4 rfl) ?_
  refine va_get (D := D) (ci := 5) (v := .ref mR) (C := RX5) (T := TX5) (N := 17) hx hb hts k_2 hown hK.1 hP 0 rfl rfl 5 (by decide) k_4 (fun _ h9 => h9) rfl dX5_layMinors_83 ?_
  refine lv_bipush (v := 6) hx hb dX5_layMinors_86 (by decide) ?_
  refine lv_iload_n hx hb dX5_layMinors_88 rfl (lv_at hl 3 rfl) ?_
  refine lv_imul hx hb dX5_layMinors_89 ?_
  refine lv_eqi (v := 12) (by decide) ?_
  refine lv_iload hx hb dX5_layMinors_90 (lv_at hl 0 rfl) ?_
  refine lv_iadd hx hb dX5_layMinors_92 ?_
  refine lv_eqi (v := 12) (by decide) ?_
  refine ld_l hx hb hK.1 hP 1 1 rfl rfl (ix_lit (by decide)) 12 (by decide) (v := fr 12) rfl dX5_layMinors_93 ?_
  refine lv_aload_n hx hb dX5_layMinors_94 rfl (lv_at hl 4 rfl) ?_
  refine va_get (D := D) (ci := 5) (v := .ref mD) (C := RX5) (T := TX5) (N := 17) hx hb hts k_2 hown hK.1 hP 0 rfl rfl 6 (by decide) k_1 (fun _ h9 => h9) rfl dX5_layMinors_95 ?_
  refine lv_iload_n hx hb dX5_layMinors_98 rfl (lv_at hl 5 rfl) ?_
  refine lv_iconst (v := 1) hx hb dX5_layMinors_99 (by decide) ?_
  refine lv_iload hx hb dX5_layMinors_100 (lv_at hl 0 rfl) ?_
  refine lv_ishl hx hb dX5_layMinors_102 ?_
  refine lv_eqi (v := 1) (by decide) ?_
  refine lv_isub hx hb dX5_layMinors_103 ?_
  refine lv_eqi (v := 40) (by decide) ?_
  refine ld_l hx hb hK.1 hP 2 1 rfl rfl (ix_lit (by decide)) 40 (by decide) (v := z5_mw40 fr) rfl dX5_layMinors_104 ?_
  refine lv_lmul hx hb dX5_layMinors_105 ?_
  refine lv_lstore (lv' := [(7, .long ((fr 12) * (z5_mw40 fr))), (6, .int 0), (5, .int 2), (3, .long 0), (2, .int 2), (0, .ref o), (1, .int 41)]) hx hb dX5_layMinors_106 hl (by decide) rfl (fun ls hl => ?_)
  refine lv_lload_n hx hb dX5_layMinors_108 rfl (lv_at hl 3 rfl) ?_
  refine lv_iload hx hb dX5_layMinors_109 (lv_at hl 2 rfl) ?_
  refine lv_iconst (v := 2) hx hb dX5_layMinors_111 (by decide) ?_
  refine lv_irem hx hb dX5_layMinors_112 (by decide) ?_
  refine lv_eqi (v := 0) (by decide) ?_
  refine lv_if_ne (tgt := 121) hx hb dX5_layMinors_113 (by decide) (fun h => absurd (by decide) h) (fun _ => ?_)
  refine lv_lload hx hb dX5_layMinors_116 (lv_at hl 0 rfl) ?_
  refine lv_goto (tgt := 124) hx hb dX5_layMinors_118 (by decide) ?_
  refine lv_ladd hx hb dX5_layMinors_124 ?_
  refine lv_lstore_n (lv' := [(3, .long (0 + ((fr 12) * (z5_mw40 fr)))), (7, .long ((fr 12) * (z5_mw40 fr))), (6, .int 0), (5, .int 2), (2, .int 2), (0, .ref o), (1, .int 41)]) hx hb dX5_layMinors_125 rfl hl (by decide) rfl (fun ls hl => ?_)
  refine lv_iinc (v := 1) (lv' := [(5, .int 1), (3, .long (0 + ((fr 12) * (z5_mw40 fr)))), (7, .long ((fr 12) * (z5_mw40 fr))), (6, .int 0), (2, .int 2), (0, .ref o), (1, .int 41)]) hx hb dX5_layMinors_126 hl (k := 3) rfl (by decide) (by decide) rfl (fun ls hl => ?_)
  refine lv_iinc (v := 1) (lv' := [(6, .int 1), (5, .int 1), (3, .long (0 + ((fr 12) * (z5_mw40 fr)))), (7, .long ((fr 12) * (z5_mw40 fr))), (2, .int 2), (0, .ref o), (1, .int 41)]) hx hb dX5_layMinors_129 hl (k := 3) rfl (by decide) (by decide) rfl (fun ls hl => ?_)
  refine lv_goto (tgt := 60) hx hb dX5_layMinors_132 (by decide) ?_
  refine lv_iload hx hb dX5_layMinors_60 (lv_at hl 0 rfl) ?_
  refine lv_bipush (v := 6) hx hb dX5_layMinors_62 (by decide) ?_
  refine lv_icmp_ge (tgt := 135) hx hb dX5_layMinors_64 (by decide) (fun h => absurd h (by decide)) (fun _ => ?_)
  refine lv_iload_n hx hb dX5_layMinors_67 rfl (lv_at hl 4 rfl) ?_
  refine lv_iconst (v := 5) hx hb dX5_layMinors_68 (by decide) ?_
  refine lv_icmp_ge (tgt := 135) hx hb dX5_layMinors_69 (by decide) (fun h => absurd h (by decide)) (fun _ => ?_)
  refine lv_iload_n hx hb dX5_layMinors_72 rfl (lv_at hl 6 rfl) ?_
  refine lv_iload hx hb dX5_layMinors_73 (lv_at hl 0 rfl) ?_
  refine lv_ishr hx hb dX5_layMinors_75 ?_
  refine lv_eqi (v := 20) (by decide) ?_
  refine lv_iconst (v := 1) hx hb dX5_layMinors_76 (by decide) ?_
  refine lv_iand hx hb dX5_layMinors_77 ?_
  refine lv_eqi (v := 0) (by decide) ?_
  refine lv_iconst (v := 1) hx hb dX5_layMinors_78 (by decide) ?_
  refine lv_icmp_ne (tgt := 129) hx hb dX5_layMinors_79 (by decide) (fun _ => ?_) (fun h => absurd h (by decide))
  refine lv_iinc (v := 2) (lv' := [(6, .int 2), (5, .int 1), (3, .long (0 + ((fr 12) * (z5_mw40 fr)))), (7, .long ((fr 12) * (z5_mw40 fr))), (2, .int 2), (0, .ref o), (1, .int 41)]) hx hb dX5_layMinors_129 hl (k := 0) rfl (by decide) (by decide) rfl (fun ls hl => ?_)
  refine lv_goto (tgt := 60) hx hb dX5_layMinors_132 (by decide) ?_
  refine lv_iload hx hb dX5_layMinors_60 (lv_at hl 0 rfl) ?_
  refine lv_bipush (v := 6) hx hb dX5_layMinors_62 (by decide) ?_
  refine lv_icmp_ge (tgt := 135) hx hb dX5_layMinors_64 (by decide) (fun h => absurd h (by decide)) (fun _ => ?_)
  refine lv_iload_n hx hb dX5_layMinors_67 rfl (lv_at hl 4 rfl) ?_
  refine lv_iconst (v := 5) hx hb dX5_layMinors_68 (by decide) ?_
  refine lv_icmp_ge (tgt := 135) hx hb dX5_layMinors_69 (by decide) (fun h => absurd h (by decide)) (fun _ => ?_)
  refine lv_iload_n hx hb dX5_layMinors_72 rfl (lv_at hl 6 rfl) ?_
  refine lv_iload hx hb dX5_layMinors_73 (lv_at hl 0 rfl) ?_
  refine lv_ishr hx hb dX5_layMinors_75 ?_
  refine lv_eqi (v := 10) (by decide) ?_
  refine lv_iconst (v := 1) hx hb dX5_layMinors_76 (by decide) ?_
  refine lv_iand hx hb dX5_layMinors_77 ?_
  refine lv_eqi (v := 0) (by decide) ?_
  refine lv_iconst (v := 1) hx hb dX5_layMinors_78 (by decide) ?_
  refine lv_icmp_ne (tgt := 129) hx hb dX5_layMinors_79 (by decide) (fun _ => ?_) (fun h => absurd h (by decide))
  refine lv_iinc (v := 3) (lv' := [(6, .int 3), (5, .int 1), (3, .long (0 + ((fr 12) * (z5_mw40 fr)))), (7, .long ((fr 12) * (z5_mw40 fr))), (2, .int 2), (0, .ref o), (1, .int 41)]) hx hb dX5_layMinors_129 hl (k := 0) rfl (by decide) (by decide) rfl (fun ls hl => ?_)
  refine lv_goto (tgt := 60) hx hb dX5_layMinors_132 (by decide) ?_
  refine lv_iload hx hb dX5_layMinors_60 (lv_at hl 0 rfl) ?_
  refine lv_bipush (v := 6) hx hb dX5_layMinors_62 (by decide) ?_
  refine lv_icmp_ge (tgt := 135) hx hb dX5_layMinors_64 (by decide) (fun h => absurd h (by decide)) (fun _ => ?_)
  refine lv_iload_n hx hb dX5_layMinors_67 rfl (lv_at hl 4 rfl) ?_
  refine lv_iconst (v := 5) hx hb dX5_layMinors_68 (by decide) ?_
  refine lv_icmp_ge (tgt := 135) hx hb dX5_layMinors_69 (by decide) (fun h => absurd h (by decide)) (fun _ => ?_)
  refine lv_iload_n hx hb dX5_layMinors_72 rfl (lv_at hl 6 rfl) ?_
  refine lv_iload hx hb dX5_layMinors_73 (lv_at hl 0 rfl) ?_
  refine lv_ishr hx hb dX5_layMinors_75 ?_
  refine lv_eqi (v := 5) (by decide) ?_
  refine lv_iconst (v := 1) hx hb dX5_layMinors_76 (by decide) ?_
  refine lv_iand hx hb dX5_layMinors_77 ?_
  refine lv_eqi (v := 1) (by decide) ?_
  refine lv_iconst (v := 1) hx hb dX5_layMinors_78 (by decide) ?_
  refine lv_icmp_ne (tgt := 129) hx hb dX5_layMinors_79 (by decide) (fun h => absurd (by decide) h) (fun _ => ?_)
  refine lv_aload_n hx hb dX5_layMinors_82 rfl (lv_at hl 5 rfl) ?_
  refine va_get (D := D) (ci := 5) (v := .ref mR) (C := RX5) (T := TX5) (N := 17) hx hb hts k_2 hown hK.1 hP 0 rfl rfl 5 (by decide) k_4 (fun _ h9 => h9) rfl dX5_layMinors_83 ?_
  refine lv_bipush (v := 6) hx hb dX5_layMinors_86 (by decide) ?_
  refine lv_iload_n hx hb dX5_layMinors_88 rfl (lv_at hl 4 rfl) ?_
  refine lv_imul hx hb dX5_layMinors_89 ?_
  refine lv_eqi (v := 12) (by decide) ?_
  refine lv_iload hx hb dX5_layMinors_90 (lv_at hl 0 rfl) ?_
  refine lv_iadd hx hb dX5_layMinors_92 ?_
  refine lv_eqi (v := 15) (by decide) ?_
  refine ld_l hx hb hK.1 hP 1 1 rfl rfl (ix_lit (by decide)) 15 (by decide) (v := fr 15) rfl dX5_layMinors_93 ?_
  refine lv_aload_n hx hb dX5_layMinors_94 rfl (lv_at hl 5 rfl) ?_
  refine va_get (D := D) (ci := 5) (v := .ref mD) (C := RX5) (T := TX5) (N := 17) hx hb hts k_2 hown hK.1 hP 0 rfl rfl 6 (by decide) k_1 (fun _ h9 => h9) rfl dX5_layMinors_95 ?_
  refine lv_iload_n hx hb dX5_layMinors_98 rfl (lv_at hl 6 rfl) ?_
  refine lv_iconst (v := 1) hx hb dX5_layMinors_99 (by decide) ?_
  refine lv_iload hx hb dX5_layMinors_100 (lv_at hl 0 rfl) ?_
  refine lv_ishl hx hb dX5_layMinors_102 ?_
  refine lv_eqi (v := 8) (by decide) ?_
  refine lv_isub hx hb dX5_layMinors_103 ?_
  refine lv_eqi (v := 33) (by decide) ?_
  refine ld_l hx hb hK.1 hP 2 1 rfl rfl (ix_lit (by decide)) 33 (by decide) (v := z5_mw33 fr) rfl dX5_layMinors_104 ?_
  refine lv_lmul hx hb dX5_layMinors_105 ?_
  refine lv_lstore (lv' := [(7, .long ((fr 15) * (z5_mw33 fr))), (6, .int 3), (5, .int 1), (3, .long (0 + ((fr 12) * (z5_mw40 fr)))), (2, .int 2), (0, .ref o), (1, .int 41)]) hx hb dX5_layMinors_106 hl (by decide) rfl (fun ls hl => ?_)
  refine lv_lload_n hx hb dX5_layMinors_108 rfl (lv_at hl 3 rfl) ?_
  refine lv_iload hx hb dX5_layMinors_109 (lv_at hl 2 rfl) ?_
  refine lv_iconst (v := 2) hx hb dX5_layMinors_111 (by decide) ?_
  refine lv_irem hx hb dX5_layMinors_112 (by decide) ?_
  refine lv_eqi (v := 1) (by decide) ?_
  refine lv_if_ne (tgt := 121) hx hb dX5_layMinors_113 (by decide) (fun _ => ?_) (fun h => absurd h (by decide))
  refine lv_lload hx hb dX5_layMinors_121 (lv_at hl 0 rfl) ?_
  refine lv_lneg hx hb dX5_layMinors_123 ?_
  refine lv_ladd hx hb dX5_layMinors_124 ?_
  refine lv_lstore_n (lv' := [(3, .long ((0 + ((fr 12) * (z5_mw40 fr))) + (-((fr 15) * (z5_mw33 fr))))), (7, .long ((fr 15) * (z5_mw33 fr))), (6, .int 3), (5, .int 1), (2, .int 2), (0, .ref o), (1, .int 41)]) hx hb dX5_layMinors_125 rfl hl (by decide) rfl (fun ls hl => ?_)
  refine lv_iinc (v := 0) (lv' := [(5, .int 0), (3, .long ((0 + ((fr 12) * (z5_mw40 fr))) + (-((fr 15) * (z5_mw33 fr))))), (7, .long ((fr 15) * (z5_mw33 fr))), (6, .int 3), (2, .int 2), (0, .ref o), (1, .int 41)]) hx hb dX5_layMinors_126 hl (k := 3) rfl (by decide) (by decide) rfl (fun ls hl => ?_)
  refine lv_iinc (v := 4) (lv' := [(6, .int 4), (5, .int 0), (3, .long ((0 + ((fr 12) * (z5_mw40 fr))) + (-((fr 15) * (z5_mw33 fr))))), (7, .long ((fr 15) * (z5_mw33 fr))), (2, .int 2), (0, .ref o), (1, .int 41)]) hx hb dX5_layMinors_129 hl (k := 3) rfl (by decide) (by decide) rfl (fun ls hl => ?_)
  refine lv_goto (tgt := 60) hx hb dX5_layMinors_132 (by decide) ?_
  refine lv_iload hx hb dX5_layMinors_60 (lv_at hl 0 rfl) ?_
  refine lv_bipush (v := 6) hx hb dX5_layMinors_62 (by decide) ?_
  refine lv_icmp_ge (tgt := 135) hx hb dX5_layMinors_64 (by decide) (fun h => absurd h (by decide)) (fun _ => ?_)
  refine lv_iload_n hx hb dX5_layMinors_67 rfl (lv_at hl 4 rfl) ?_
  refine lv_iconst (v := 5) hx hb dX5_layMinors_68 (by decide) ?_
  refine lv_icmp_ge (tgt := 135) hx hb dX5_layMinors_69 (by decide) (fun h => absurd h (by decide)) (fun _ => ?_)
  refine lv_iload_n hx hb dX5_layMinors_72 rfl (lv_at hl 6 rfl) ?_
  refine lv_iload hx hb dX5_layMinors_73 (lv_at hl 0 rfl) ?_
  refine lv_ishr hx hb dX5_layMinors_75 ?_
  refine lv_eqi (v := 2) (by decide) ?_
  refine lv_iconst (v := 1) hx hb dX5_layMinors_76 (by decide) ?_
  refine lv_iand hx hb dX5_layMinors_77 ?_
  refine lv_eqi (v := 0) (by decide) ?_
  refine lv_iconst (v := 1) hx hb dX5_layMinors_78 (by decide) ?_
  refine lv_icmp_ne (tgt := 129) hx hb dX5_layMinors_79 (by decide) (fun _ => ?_) (fun h => absurd h (by decide))
  refine lv_iinc (v := 5) (lv' := [(6, .int 5), (5, .int 0), (3, .long ((0 + ((fr 12) * (z5_mw40 fr))) + (-((fr 15) * (z5_mw33 fr))))), (7, .long ((fr 15) * (z5_mw33 fr))), (2, .int 2), (0, .ref o), (1, .int 41)]) hx hb dX5_layMinors_129 hl (k := 0) rfl (by decide) (by decide) rfl (fun ls hl => ?_)
  refine lv_goto (tgt := 60) hx hb dX5_layMinors_132 (by decide) ?_
  refine lv_iload hx hb dX5_layMinors_60 (lv_at hl 0 rfl) ?_
  refine lv_bipush (v := 6) hx hb dX5_layMinors_62 (by decide) ?_
  refine lv_icmp_ge (tgt := 135) hx hb dX5_layMinors_64 (by decide) (fun h => absurd h (by decide)) (fun _ => ?_)
  refine lv_iload_n hx hb dX5_layMinors_67 rfl (lv_at hl 4 rfl) ?_
  refine lv_iconst (v := 5) hx hb dX5_layMinors_68 (by decide) ?_
  refine lv_icmp_ge (tgt := 135) hx hb dX5_layMinors_69 (by decide) (fun h => absurd h (by decide)) (fun _ => ?_)
  refine lv_iload_n hx hb dX5_layMinors_72 rfl (lv_at hl 6 rfl) ?_
  refine lv_iload hx hb dX5_layMinors_73 (lv_at hl 0 rfl) ?_
  refine lv_ishr hx hb dX5_layMinors_75 ?_
  refine lv_eqi (v := 1) (by decide) ?_
  refine lv_iconst (v := 1) hx hb dX5_layMinors_76 (by decide) ?_
  refine lv_iand hx hb dX5_layMinors_77 ?_
  refine lv_eqi (v := 1) (by decide) ?_
  refine lv_iconst (v := 1) hx hb dX5_layMinors_78 (by decide) ?_
  refine lv_icmp_ne (tgt := 129) hx hb dX5_layMinors_79 (by decide) (fun h => absurd (by decide) h) (fun _ => ?_)
  refine lv_aload_n hx hb dX5_layMinors_82 rfl (lv_at hl 5 rfl) ?_
  refine va_get (D := D) (ci := 5) (v := .ref mR) (C := RX5) (T := TX5) (N := 17) hx hb hts k_2 hown hK.1 hP 0 rfl rfl 5 (by decide) k_4 (fun _ h9 => h9) rfl dX5_layMinors_83 ?_
  refine lv_bipush (v := 6) hx hb dX5_layMinors_86 (by decide) ?_
  refine lv_iload_n hx hb dX5_layMinors_88 rfl (lv_at hl 4 rfl) ?_
  refine lv_imul hx hb dX5_layMinors_89 ?_
  refine lv_eqi (v := 12) (by decide) ?_
  refine lv_iload hx hb dX5_layMinors_90 (lv_at hl 0 rfl) ?_
  refine lv_iadd hx hb dX5_layMinors_92 ?_
  refine lv_eqi (v := 17) (by decide) ?_
  refine ld_l hx hb hK.1 hP 1 1 rfl rfl (ix_lit (by decide)) 17 (by decide) (v := fr 17) rfl dX5_layMinors_93 ?_
  refine lv_aload_n hx hb dX5_layMinors_94 rfl (lv_at hl 5 rfl) ?_
  refine va_get (D := D) (ci := 5) (v := .ref mD) (C := RX5) (T := TX5) (N := 17) hx hb hts k_2 hown hK.1 hP 0 rfl rfl 6 (by decide) k_1 (fun _ h9 => h9) rfl dX5_layMinors_95 ?_
  refine lv_iload_n hx hb dX5_layMinors_98 rfl (lv_at hl 6 rfl) ?_
  refine lv_iconst (v := 1) hx hb dX5_layMinors_99 (by decide) ?_
  refine lv_iload hx hb dX5_layMinors_100 (lv_at hl 0 rfl) ?_
  refine lv_ishl hx hb dX5_layMinors_102 ?_
  refine lv_eqi (v := 32) (by decide) ?_
  refine lv_isub hx hb dX5_layMinors_103 ?_
  refine lv_eqi (v := 9) (by decide) ?_
  refine ld_l hx hb hK.1 hP 2 1 rfl rfl (ix_lit (by decide)) 9 (by decide) (v := z5_mw9 fr) rfl dX5_layMinors_104 ?_
  refine lv_lmul hx hb dX5_layMinors_105 ?_
  refine lv_lstore (lv' := [(7, .long ((fr 17) * (z5_mw9 fr))), (6, .int 5), (5, .int 0), (3, .long ((0 + ((fr 12) * (z5_mw40 fr))) + (-((fr 15) * (z5_mw33 fr))))), (2, .int 2), (0, .ref o), (1, .int 41)]) hx hb dX5_layMinors_106 hl (by decide) rfl (fun ls hl => ?_)
  refine lv_lload_n hx hb dX5_layMinors_108 rfl (lv_at hl 3 rfl) ?_
  refine lv_iload hx hb dX5_layMinors_109 (lv_at hl 2 rfl) ?_
  refine lv_iconst (v := 2) hx hb dX5_layMinors_111 (by decide) ?_
  refine lv_irem hx hb dX5_layMinors_112 (by decide) ?_
  refine lv_eqi (v := 0) (by decide) ?_
  refine lv_if_ne (tgt := 121) hx hb dX5_layMinors_113 (by decide) (fun h => absurd (by decide) h) (fun _ => ?_)
  refine lv_lload hx hb dX5_layMinors_116 (lv_at hl 0 rfl) ?_
  refine lv_goto (tgt := 124) hx hb dX5_layMinors_118 (by decide) ?_
  refine lv_ladd hx hb dX5_layMinors_124 ?_
  refine lv_lstore_n (lv' := [(3, .long (((0 + ((fr 12) * (z5_mw40 fr))) + (-((fr 15) * (z5_mw33 fr)))) + ((fr 17) * (z5_mw9 fr)))), (7, .long ((fr 17) * (z5_mw9 fr))), (6, .int 5), (5, .int 0), (2, .int 2), (0, .ref o), (1, .int 41)]) hx hb dX5_layMinors_125 rfl hl (by decide) rfl (fun ls hl => ?_)
  refine lv_iinc (v := (-1)) (lv' := [(5, .int (-1)), (3, .long (((0 + ((fr 12) * (z5_mw40 fr))) + (-((fr 15) * (z5_mw33 fr)))) + ((fr 17) * (z5_mw9 fr)))), (7, .long ((fr 17) * (z5_mw9 fr))), (6, .int 5), (2, .int 2), (0, .ref o), (1, .int 41)]) hx hb dX5_layMinors_126 hl (k := 3) rfl (by decide) (by decide) rfl (fun ls hl => ?_)
  refine lv_iinc (v := 6) (lv' := [(6, .int 6), (5, .int (-1)), (3, .long (((0 + ((fr 12) * (z5_mw40 fr))) + (-((fr 15) * (z5_mw33 fr)))) + ((fr 17) * (z5_mw9 fr)))), (7, .long ((fr 17) * (z5_mw9 fr))), (2, .int 2), (0, .ref o), (1, .int 41)]) hx hb dX5_layMinors_129 hl (k := 3) rfl (by decide) (by decide) rfl (fun ls hl => ?_)
  refine lv_goto (tgt := 60) hx hb dX5_layMinors_132 (by decide) ?_
  refine lv_iload hx hb dX5_layMinors_60 (lv_at hl 0 rfl) ?_
  refine lv_bipush (v := 6) hx hb dX5_layMinors_62 (by decide) ?_
  refine lv_icmp_ge (tgt := 135) hx hb dX5_layMinors_64 (by decide) (fun _ => ?_) (fun h => absurd (by decide) h)
  refine lv_aload_n hx hb dX5_layMinors_135 rfl (lv_at hl 5 rfl) ?_
  refine va_get (D := D) (ci := 5) (v := .ref mD) (C := RX5) (T := TX5) (N := 17) hx hb hts k_2 hown hK.1 hP 0 rfl rfl 6 (by decide) k_1 (fun _ h9 => h9) rfl dX5_layMinors_136 ?_
  refine lv_iload_n hx hb dX5_layMinors_139 rfl (lv_at hl 6 rfl) ?_
  refine lv_lload_n hx hb dX5_layMinors_140 rfl (lv_at hl 2 rfl) ?_
  refine st_l hx hb hK.1 hP hD hS 2 1 rfl rfl (ix_lit (by decide)) 41 (by decide) dX5_layMinors_141 (fun H locs hP hD hS => ?_)
  have hP : va_P D vwCl [kM o mP mL mC mN mF mR mD mV mX mA mK cm mT pm mU mH mI, kJ mR cJ 30 fr, kJ mD cJ 64 (vp_updL (z5_mm41 fr fd) 41 (((0 + ((fr 12) * (z5_mw40 fr))) + (-((fr 15) * (z5_mw33 fr)))) + ((fr 17) * (z5_mw9 fr))))] H := hP
  have hD : va_D A [kM o mP mL mC mN mF mR mD mV mX mA mK cm mT pm mU mH mI, kJ mR cJ 30 fr, kJ mD cJ 64 (vp_updL (z5_mm41 fr fd) 41 (((0 + ((fr 12) * (z5_mw40 fr))) + (-((fr 15) * (z5_mw33 fr)))) + ((fr 17) * (z5_mw9 fr))))] := hD
  have hP : va_P D vwCl [kM o mP mL mC mN mF mR mD mV mX mA mK cm mT pm mU mH mI, kJ mR cJ 30 fr, kJ mD cJ 64 (z5_mm42 fr fd)] H := hP
  have hD : va_D A [kM o mP mL mC mN mF mR mD mV mX mA mK cm mT pm mU mH mI, kJ mR cJ 30 fr, kJ mD cJ 64 (z5_mm42 fr fd)] := hD
  refine lv_iinc (v := 42) (lv' := [(1, .int 42), (6, .int 6), (5, .int (-1)), (3, .long (((0 + ((fr 12) * (z5_mw40 fr))) + (-((fr 15) * (z5_mw33 fr)))) + ((fr 17) * (z5_mw9 fr)))), (7, .long ((fr 17) * (z5_mw9 fr))), (2, .int 2), (0, .ref o)]) hx hb dX5_layMinors_142 hl (k := 6) rfl (by decide) (by decide) rfl (fun ls hl => ?_)
  refine lv_goto (tgt := 9) hx hb dX5_layMinors_145 (by decide) ?_
  exact sg_X5_layMinors_42 hx hb hr hml hown hts hlk hK hA hP hD hS ls (lv_sub hl [6, 0] rfl)
set_option maxHeartbeats 4000000 in
set_option maxRecDepth 100000 in
theorem sg_X5_layMinors_40 {l : Launch} {D : va_G} {cI cJ : ClassId} {pG : Program} {eG : Env} {sG : State} {mG : MethodId} {below : List Frame} {meth : Method} {cG : Code} {A : Nat → Prop} {H : Heap} {locs : List Loc} {o : Nat} {mP : Nat} {mL : Nat} {mC : Nat} {mN : Nat} {mF : Nat} {mR : Nat} {mD : Nat} {mV : Nat} {mX : Nat} {mA : Nat} {mK : Nat} {mT : Nat} {mU : Nat} {mH : Nat} {mI : Nat} {cm : Int32} {pm : Int32} {fr : Nat → Int64} {fd : Nat → Int64} (hx : pG.tables.exec = Jvm.exec) (hb : cG.code = cX5_layMinors) (hr : meth.sig.returnType = none) (hml : cG.maxLocals = 9) (hown : sG.vm.findClass RX5 = some mG.cls) (hts : ∀ x ∈ wsX5_layMinors, x.before ([.ref o] : List Value).toArray sG = true) (hlk : meth.locks = false) (hK : gd_K D cI cJ sG) (hA : ∀ q : Nat, sG.heap.size ≤ q → A q) (hP : va_P D vwCl [kM o mP mL mC mN mF mR mD mV mX mA mK cm mT pm mU mH mI, kJ mR cJ 30 fr, kJ mD cJ 64 (z5_mm40 fr fd)] H) (hD : va_D A [kM o mP mL mC mN mF mR mD mV mX mA mK cm mT pm mU mH mI, kJ mR cJ 30 fr, kJ mD cJ 64 (z5_mm40 fr fd)]) (hS : va_S A sG.heap H locs) (ls : Array Slot) (hl : lv_has ls 9 [(0, .ref o), (1, .int 40)]) : W pG l eG (headSpec wsX5_layMinors ({ frames := 0, cells := 0, slots := 0, locals := 0 })).room sG mG ([.ref o] : List Value).toArray below meth cG H locs 0 0 (MQ below ((qe_v (fun _ : Unit => True) (fun uu => [kM o mP mL mC mN mF mR mD mV mX mA mK cm mT pm mU mH mI, kJ mR cJ 30 fr, kJ mD cJ 64 (z5_layMinors_f2 fr fd)])) D A) ([.ref o] : List Value).toArray sG 0 0 A) (F0 mG 9 ls []) := by
  have k_1 := hts (.fieldLink RX5 29 "ConicRowsModel" "minors" "[J") (by decide +kernel)
  have k_2 : ∀ w ∈ wsX50, w ∈ wsX5_layMinors := by decide +kernel
  have k_3 := hts (.constant RX5 122 (-1000001)) (by decide +kernel)
  have k_4 := hts (.fieldLink RX5 26 "ConicRowsModel" "rows" "[J") (by decide +kernel)
  refine lv_iload_n hx hb dX5_layMinors_9 rfl (lv_at hl 1 rfl) ?_
  refine lv_bipush (v := 64) hx hb dX5_layMinors_10 (by decide) ?_
  refine lv_icmp_ge (tgt := 148) hx hb dX5_layMinors_12 (by decide) (fun h => absurd h (by decide)) (fun _ => ?_)
  refine lv_ldc hx hb hown k_3 dX5_layMinors_15 ?_
  refine lv_istore_n (lv' := [(2, .int (-1000001)), (0, .ref o), (1, .int 40)]) hx hb dX5_layMinors_17 rfl hl (by decide) rfl (fun ls hl => ?_)
  refine lv_iconst (v := 0) hx hb dX5_layMinors_18 (by decide) ?_
  refine lv_istore_n (lv' := [(3, .int 0), (2, .int (-1000001)), (0, .ref o), (1, .int 40)]) hx hb dX5_layMinors_19 rfl hl (by decide) rfl (fun ls hl => ?_)
  refine lv_iload_n hx hb dX5_layMinors_20 rfl (lv_at hl 0 rfl) ?_
  refine lv_bipush (v := 6) hx hb dX5_layMinors_21 (by decide) ?_
  refine lv_icmp_ge (tgt := 52) hx hb dX5_layMinors_23 (by decide) (fun h => absurd h (by decide)) (fun _ => ?_)
  refine lv_iload_n hx hb dX5_layMinors_26 rfl (lv_at hl 1 rfl) ?_
  refine lv_ldc hx hb hown k_3 dX5_layMinors_27 ?_
  refine lv_icmp_ne (tgt := 36) hx hb dX5_layMinors_29 (by decide) (fun h => absurd (by decide) h) (fun _ => ?_)
  refine lv_iconst (v := (-1)) hx hb dX5_layMinors_32 (by decide) ?_
  refine lv_goto (tgt := 37) hx hb dX5_layMinors_33 (by decide) ?_
  refine lv_istore_n (lv' := [(2, .int (-1)), (3, .int 0), (0, .ref o), (1, .int 40)]) hx hb dX5_layMinors_37 rfl hl (by decide) rfl (fun ls hl => ?_)
  refine lv_iload_n hx hb dX5_layMinors_38 rfl (lv_at hl 0 rfl) ?_
  refine lv_iload_n hx hb dX5_layMinors_39 rfl (lv_at hl 3 rfl) ?_
  refine lv_iload_n hx hb dX5_layMinors_40 rfl (lv_at hl 1 rfl) ?_
  refine lv_ishr hx hb dX5_layMinors_41 ?_
  refine lv_eqi (v := 40) (by decide) ?_
  refine lv_iconst (v := 1) hx hb dX5_layMinors_42 (by decide) ?_
  refine lv_iand hx hb dX5_layMinors_43 ?_
  refine lv_eqi (v := 0) (by decide) ?_
  refine lv_iadd hx hb dX5_layMinors_44 ?_
  refine lv_eqi (v := (-1)) (by decide) ?_
  refine lv_istore_n (lv' := [(2, .int (-1)), (3, .int 0), (0, .ref o), (1, .int 40)]) hx hb dX5_layMinors_45 rfl hl (by decide) rfl (fun ls hl => ?_)
  refine lv_iinc (v := 1) (lv' := [(3, .int 1), (2, .int (-1)), (0, .ref o), (1, .int 40)]) hx hb dX5_layMinors_46 hl (k := 1) rfl (by decide) (by decide) rfl (fun ls hl => ?_)
  refine lv_goto (tgt := 20) hx hb dX5_layMinors_49 (by decide) ?_
  refine lv_iload_n hx hb dX5_layMinors_20 rfl (lv_at hl 0 rfl) ?_
  refine lv_bipush (v := 6) hx hb dX5_layMinors_21 (by decide) ?_
  refine lv_icmp_ge (tgt := 52) hx hb dX5_layMinors_23 (by decide) (fun h => absurd h (by decide)) (fun _ => ?_)
  refine lv_iload_n hx hb dX5_layMinors_26 rfl (lv_at hl 1 rfl) ?_
  refine lv_ldc hx hb hown k_3 dX5_layMinors_27 ?_
  refine lv_icmp_ne (tgt := 36) hx hb dX5_layMinors_29 (by decide) (fun _ => ?_) (fun h => absurd h (by decide))
  refine lv_iload_n hx hb dX5_layMinors_36 rfl (lv_at hl 1 rfl) ?_
  refine lv_istore_n (lv' := [(2, .int (-1)), (3, .int 1), (0, .ref o), (1, .int 40)]) hx hb dX5_layMinors_37 rfl hl (by decide) rfl (fun ls hl => ?_)
  refine lv_iload_n hx hb dX5_layMinors_38 rfl (lv_at hl 0 rfl) ?_
  refine lv_iload_n hx hb dX5_layMinors_39 rfl (lv_at hl 3 rfl) ?_
  refine lv_iload_n hx hb dX5_layMinors_40 rfl (lv_at hl 1 rfl) ?_
  refine lv_ishr hx hb dX5_layMinors_41 ?_
  refine lv_eqi (v := 20) (by decide) ?_
  refine lv_iconst (v := 1) hx hb dX5_layMinors_42 (by decide) ?_
  refine lv_iand hx hb dX5_layMinors_43 ?_
  refine lv_eqi (v := 0) (by decide) ?_
  refine lv_iadd hx hb dX5_layMinors_44 ?_
  refine lv_eqi (v := (-1)) (by decide) ?_
  refine lv_istore_n (lv' := [(2, .int (-1)), (3, .int 1), (0, .ref o), (1, .int 40)]) hx hb dX5_layMinors_45 rfl hl (by decide) rfl (fun ls hl => ?_)
  refine lv_iinc (v := 2) (lv' := [(3, .int 2), (2, .int (-1)), (0, .ref o), (1, .int 40)]) hx hb dX5_layMinors_46 hl (k := 1) rfl (by decide) (by decide) rfl (fun ls hl => ?_)
  refine lv_goto (tgt := 20) hx hb dX5_layMinors_49 (by decide) ?_
  refine lv_iload_n hx hb dX5_layMinors_20 rfl (lv_at hl 0 rfl) ?_
  refine lv_bipush (v := 6) hx hb dX5_layMinors_21 (by decide) ?_
  refine lv_icmp_ge (tgt := 52) hx hb dX5_layMinors_23 (by decide) (fun h => absurd h (by decide)) (fun _ => ?_)
  refine lv_iload_n hx hb dX5_layMinors_26 rfl (lv_at hl 1 rfl) ?_
  refine lv_ldc hx hb hown k_3 dX5_layMinors_27 ?_
  refine lv_icmp_ne (tgt := 36) hx hb dX5_layMinors_29 (by decide) (fun _ => ?_) (fun h => absurd h (by decide))
  refine lv_iload_n hx hb dX5_layMinors_36 rfl (lv_at hl 1 rfl) ?_
  refine lv_istore_n (lv' := [(2, .int (-1)), (3, .int 2), (0, .ref o), (1, .int 40)]) hx hb dX5_layMinors_37 rfl hl (by decide) rfl (fun ls hl => ?_)
  refine lv_iload_n hx hb dX5_layMinors_38 rfl (lv_at hl 0 rfl) ?_
  refine lv_iload_n hx hb dX5_layMinors_39 rfl (lv_at hl 3 rfl) ?_
  refine lv_iload_n hx hb dX5_layMinors_40 rfl (lv_at hl 1 rfl) ?_
  refine lv_ishr hx hb dX5_layMinors_41 ?_
  refine lv_eqi (v := 10) (by decide) ?_
  refine lv_iconst (v := 1) hx hb dX5_layMinors_42 (by decide) ?_
  refine lv_iand hx hb dX5_layMinors_43 ?_
  refine lv_eqi (v := 0) (by decide) ?_
  refine lv_iadd hx hb dX5_layMinors_44 ?_
  refine lv_eqi (v := (-1)) (by decide) ?_
  refine lv_istore_n (lv' := [(2, .int (-1)), (3, .int 2), (0, .ref o), (1, .int 40)]) hx hb dX5_layMinors_45 rfl hl (by decide) rfl (fun ls hl => ?_)
  refine lv_iinc (v := 3) (lv' := [(3, .int 3), (2, .int (-1)), (0, .ref o), (1, .int 40)]) hx hb dX5_layMinors_46 hl (k := 1) rfl (by decide) (by decide) rfl (fun ls hl => ?_)
  refine lv_goto (tgt := 20) hx hb dX5_layMinors_49 (by decide) ?_
  refine lv_iload_n hx hb dX5_layMinors_20 rfl (lv_at hl 0 rfl) ?_
  refine lv_bipush (v := 6) hx hb dX5_layMinors_21 (by decide) ?_
  refine lv_icmp_ge (tgt := 52) hx hb dX5_layMinors_23 (by decide) (fun h => absurd h (by decide)) (fun _ => ?_)
  refine lv_iload_n hx hb dX5_layMinors_26 rfl (lv_at hl 1 rfl) ?_
  refine lv_ldc hx hb hown k_3 dX5_layMinors_27 ?_
  refine lv_icmp_ne (tgt := 36) hx hb dX5_layMinors_29 (by decide) (fun _ => ?_) (fun h => absurd h (by decide))
  refine lv_iload_n hx hb dX5_layMinors_36 rfl (lv_at hl 1 rfl) ?_
  refine lv_istore_n (lv' := [(2, .int (-1)), (3, .int 3), (0, .ref o), (1, .int 40)]) hx hb dX5_layMinors_37 rfl hl (by decide) rfl (fun ls hl => ?_)
  refine lv_iload_n hx hb dX5_layMinors_38 rfl (lv_at hl 0 rfl) ?_
  refine lv_iload_n hx hb dX5_layMinors_39 rfl (lv_at hl 3 rfl) ?_
  refine lv_iload_n hx hb dX5_layMinors_40 rfl (lv_at hl 1 rfl) ?_
  refine lv_ishr hx hb dX5_layMinors_41 ?_
  refine lv_eqi (v := 5) (by decide) ?_
  refine lv_iconst (v := 1) hx hb dX5_layMinors_42 (by decide) ?_
  refine lv_iand hx hb dX5_layMinors_43 ?_
  refine lv_eqi (v := 1) (by decide) ?_
  refine lv_iadd hx hb dX5_layMinors_44 ?_
  refine lv_eqi (v := 0) (by decide) ?_
  refine lv_istore_n (lv' := [(2, .int 0), (3, .int 3), (0, .ref o), (1, .int 40)]) hx hb dX5_layMinors_45 rfl hl (by decide) rfl (fun ls hl => ?_)
  refine lv_iinc (v := 4) (lv' := [(3, .int 4), (2, .int 0), (0, .ref o), (1, .int 40)]) hx hb dX5_layMinors_46 hl (k := 1) rfl (by decide) (by decide) rfl (fun ls hl => ?_)
  refine lv_goto (tgt := 20) hx hb dX5_layMinors_49 (by decide) ?_
  refine lv_iload_n hx hb dX5_layMinors_20 rfl (lv_at hl 0 rfl) ?_
  refine lv_bipush (v := 6) hx hb dX5_layMinors_21 (by decide) ?_
  refine lv_icmp_ge (tgt := 52) hx hb dX5_layMinors_23 (by decide) (fun h => absurd h (by decide)) (fun _ => ?_)
  refine lv_iload_n hx hb dX5_layMinors_26 rfl (lv_at hl 1 rfl) ?_
  refine lv_ldc hx hb hown k_3 dX5_layMinors_27 ?_
  refine lv_icmp_ne (tgt := 36) hx hb dX5_layMinors_29 (by decide) (fun _ => ?_) (fun h => absurd h (by decide))
  refine lv_iload_n hx hb dX5_layMinors_36 rfl (lv_at hl 1 rfl) ?_
  refine lv_istore_n (lv' := [(2, .int 0), (3, .int 4), (0, .ref o), (1, .int 40)]) hx hb dX5_layMinors_37 rfl hl (by decide) rfl (fun ls hl => ?_)
  refine lv_iload_n hx hb dX5_layMinors_38 rfl (lv_at hl 0 rfl) ?_
  refine lv_iload_n hx hb dX5_layMinors_39 rfl (lv_at hl 3 rfl) ?_
  refine lv_iload_n hx hb dX5_layMinors_40 rfl (lv_at hl 1 rfl) ?_
  refine lv_ishr hx hb dX5_layMinors_41 ?_
  refine lv_eqi (v := 2) (by decide) ?_
  refine lv_iconst (v := 1) hx hb dX5_layMinors_42 (by decide) ?_
  refine lv_iand hx hb dX5_layMinors_43 ?_
  refine lv_eqi (v := 0) (by decide) ?_
  refine lv_iadd hx hb dX5_layMinors_44 ?_
  refine lv_eqi (v := 0) (by decide) ?_
  refine lv_istore_n (lv' := [(2, .int 0), (3, .int 4), (0, .ref o), (1, .int 40)]) hx hb dX5_layMinors_45 rfl hl (by decide) rfl (fun ls hl => ?_)
  refine lv_iinc (v := 5) (lv' := [(3, .int 5), (2, .int 0), (0, .ref o), (1, .int 40)]) hx hb dX5_layMinors_46 hl (k := 1) rfl (by decide) (by decide) rfl (fun ls hl => ?_)
  refine lv_goto (tgt := 20) hx hb dX5_layMinors_49 (by decide) ?_
  refine lv_iload_n hx hb dX5_layMinors_20 rfl (lv_at hl 0 rfl) ?_
  refine lv_bipush (v := 6) hx hb dX5_layMinors_21 (by decide) ?_
  refine lv_icmp_ge (tgt := 52) hx hb dX5_layMinors_23 (by decide) (fun h => absurd h (by decide)) (fun _ => ?_)
  refine lv_iload_n hx hb dX5_layMinors_26 rfl (lv_at hl 1 rfl) ?_
  refine lv_ldc hx hb hown k_3 dX5_layMinors_27 ?_
  refine lv_icmp_ne (tgt := 36) hx hb dX5_layMinors_29 (by decide) (fun _ => ?_) (fun h => absurd h (by decide))
  refine lv_iload_n hx hb dX5_layMinors_36 rfl (lv_at hl 1 rfl) ?_
  refine lv_istore_n (lv' := [(2, .int 0), (3, .int 5), (0, .ref o), (1, .int 40)]) hx hb dX5_layMinors_37 rfl hl (by decide) rfl (fun ls hl => ?_)
  refine lv_iload_n hx hb dX5_layMinors_38 rfl (lv_at hl 0 rfl) ?_
  refine lv_iload_n hx hb dX5_layMinors_39 rfl (lv_at hl 3 rfl) ?_
  refine lv_iload_n hx hb dX5_layMinors_40 rfl (lv_at hl 1 rfl) ?_
  refine lv_ishr hx hb dX5_layMinors_41 ?_
  refine lv_eqi (v := 1) (by decide) ?_
  refine lv_iconst (v := 1) hx hb dX5_layMinors_42 (by decide) ?_
  refine lv_iand hx hb dX5_layMinors_43 ?_
  refine lv_eqi (v := 1) (by decide) ?_
  refine lv_iadd hx hb dX5_layMinors_44 ?_
  refine lv_eqi (v := 1) (by decide) ?_
  refine lv_istore_n (lv' := [(2, .int 1), (3, .int 5), (0, .ref o), (1, .int 40)]) hx hb dX5_layMinors_45 rfl hl (by decide) rfl (fun ls hl => ?_)
  refine lv_iinc (v := 6) (lv' := [(3, .int 6), (2, .int 1), (0, .ref o), (1, .int 40)]) hx hb dX5_layMinors_46 hl (k := 1) rfl (by decide) (by decide) rfl (fun ls hl => ?_)
  refine lv_goto (tgt := 20) hx hb dX5_layMinors_49 (by decide) ?_
  refine lv_iload_n hx hb dX5_layMinors_20 rfl (lv_at hl 0 rfl) ?_
  refine lv_bipush (v := 6) hx hb dX5_layMinors_21 (by decide) ?_
  refine lv_icmp_ge (tgt := 52) hx hb dX5_layMinors_23 (by decide) (fun _ => ?_) (fun h => absurd (by decide) h)
  refine lv_lconst (v := 0) hx hb dX5_layMinors_52 (by decide) ?_
  refine lv_lstore_n (lv' := [(3, .long 0), (2, .int 1), (0, .ref o), (1, .int 40)]) hx hb dX5_layMinors_53 rfl hl (by decide) rfl (fun ls hl => ?_)
  refine lv_iload_n hx hb dX5_layMinors_54 rfl (lv_at hl 1 rfl) ?_
  refine lv_istore (lv' := [(5, .int 1), (3, .long 0), (2, .int 1), (0, .ref o), (1, .int 40)]) hx hb dX5_layMinors_55 hl (by decide) rfl (fun ls hl => ?_)
  refine lv_iconst (v := 0) hx hb dX5_layMinors_57 (by decide) ?_
  refine lv_istore (lv' := [(6, .int 0), (5, .int 1), (3, .long 0), (2, .int 1), (0, .ref o), (1, .int 40)]) hx hb dX5_layMinors_58 hl (by decide) rfl (fun ls hl => ?_)
  refine lv_iload hx hb dX5_layMinors_60 (lv_at hl 0 rfl) ?_
  refine lv_bipush (v := 6) hx hb dX5_layMinors_62 (by decide) ?_
  refine lv_icmp_ge (tgt := 135) hx hb dX5_layMinors_64 (by decide) (fun h => absurd h (by decide)) (fun _ => ?_)
  refine lv_iload_n hx hb dX5_layMinors_67 rfl (lv_at hl 3 rfl) ?_
  refine lv_iconst (v := 5) hx hb dX5_layMinors_68 (by decide) ?_
  refine lv_icmp_ge (tgt := 135) hx hb dX5_layMinors_69 (by decide) (fun h => absurd h (by decide)) (fun _ => ?_)
  refine lv_iload_n hx hb dX5_layMinors_72 rfl (lv_at hl 5 rfl) ?_
  refine lv_iload hx hb dX5_layMinors_73 (lv_at hl 0 rfl) ?_
  refine lv_ishr hx hb dX5_layMinors_75 ?_
  refine lv_eqi (v := 40) (by decide) ?_
  refine lv_iconst (v := 1) hx hb dX5_layMinors_76 (by decide) ?_
  refine lv_iand hx hb dX5_layMinors_77 ?_
  refine lv_eqi (v := 0) (by decide) ?_
  refine lv_iconst (v := 1) hx hb dX5_layMinors_78 (by decide) ?_
  refine lv_icmp_ne (tgt := 129) hx hb dX5_layMinors_79 (by decide) (fun _ => ?_) (fun h => absurd h (by decide))
  refine lv_iinc (v := 1) (lv' := [(6, .int 1), (5, .int 1), (3, .long 0), (2, .int 1), (0, .ref o), (1, .int 40)]) hx hb dX5_layMinors_129 hl (k := 0) rfl (by decide) (by decide) rfl (fun ls hl => ?_)
  refine lv_goto (tgt := 60) hx hb dX5_layMinors_132 (by decide) ?_
  refine lv_iload hx hb dX5_layMinors_60 (lv_at hl 0 rfl) ?_
  refine lv_bipush (v := 6) hx hb dX5_layMinors_62 (by decide) ?_
  refine lv_icmp_ge (tgt := 135) hx hb dX5_layMinors_64 (by decide) (fun h => absurd h (by decide)) (fun _ => ?_)
  refine lv_iload_n hx hb dX5_layMinors_67 rfl (lv_at hl 3 rfl) ?_
  refine lv_iconst (v := 5) hx hb dX5_layMinors_68 (by decide) ?_
  refine lv_icmp_ge (tgt := 135) hx hb dX5_layMinors_69 (by decide) (fun h => absurd h (by decide)) (fun _ => ?_)
  refine lv_iload_n hx hb dX5_layMinors_72 rfl (lv_at hl 5 rfl) ?_
  refine lv_iload hx hb dX5_layMinors_73 (lv_at hl 0 rfl) ?_
  refine lv_ishr hx hb dX5_layMinors_75 ?_
  refine lv_eqi (v := 20) (by decide) ?_
  refine lv_iconst (v := 1) hx hb dX5_layMinors_76 (by decide) ?_
  refine lv_iand hx hb dX5_layMinors_77 ?_
  refine lv_eqi (v := 0) (by decide) ?_
  refine lv_iconst (v := 1) hx hb dX5_layMinors_78 (by decide) ?_
  refine lv_icmp_ne (tgt := 129) hx hb dX5_layMinors_79 (by decide) (fun _ => ?_) (fun h => absurd h (by decide))
  refine lv_iinc (v := 2) (lv' := [(6, .int 2), (5, .int 1), (3, .long 0), (2, .int 1), (0, .ref o), (1, .int 40)]) hx hb dX5_layMinors_129 hl (k := 0) rfl (by decide) (by decide) rfl (fun ls hl => ?_)
  refine lv_goto (tgt := 60) hx hb dX5_layMinors_132 (by decide) ?_
  refine lv_iload hx hb dX5_layMinors_60 (lv_at hl 0 rfl) ?_
  refine lv_bipush (v := 6) hx hb dX5_layMinors_62 (by decide) ?_
  refine lv_icmp_ge (tgt := 135) hx hb dX5_layMinors_64 (by decide) (fun h => absurd h (by decide)) (fun _ => ?_)
  refine lv_iload_n hx hb dX5_layMinors_67 rfl (lv_at hl 3 rfl) ?_
  refine lv_iconst (v := 5) hx hb dX5_layMinors_68 (by decide) ?_
  refine lv_icmp_ge (tgt := 135) hx hb dX5_layMinors_69 (by decide) (fun h => absurd h (by decide)) (fun _ => ?_)
  refine lv_iload_n hx hb dX5_layMinors_72 rfl (lv_at hl 5 rfl) ?_
  refine lv_iload hx hb dX5_layMinors_73 (lv_at hl 0 rfl) ?_
  refine lv_ishr hx hb dX5_layMinors_75 ?_
  refine lv_eqi (v := 10) (by decide) ?_
  refine lv_iconst (v := 1) hx hb dX5_layMinors_76 (by decide) ?_
  refine lv_iand hx hb dX5_layMinors_77 ?_
  refine lv_eqi (v := 0) (by decide) ?_
  refine lv_iconst (v := 1) hx hb dX5_layMinors_78 (by decide) ?_
  refine lv_icmp_ne (tgt := 129) hx hb dX5_layMinors_79 (by decide) (fun _ => ?_) (fun h => absurd h (by decide))
  refine lv_iinc (v := 3) (lv' := [(6, .int 3), (5, .int 1), (3, .long 0), (2, .int 1), (0, .ref o), (1, .int 40)]) hx hb dX5_layMinors_129 hl (k := 0) rfl (by decide) (by decide) rfl (fun ls hl => ?_)
  refine lv_goto (tgt := 60) hx hb dX5_layMinors_132 (by decide) ?_
  refine lv_iload hx hb dX5_layMinors_60 (lv_at hl 0 rfl) ?_
  refine lv_bipush (v := 6) hx hb dX5_layMinors_62 (by decide) ?_
  refine lv_icmp_ge (tgt := 135) hx hb dX5_layMinors_64 (by decide) (fun h => absurd h (by decide)) (fun _ => ?_)
  refine lv_iload_n hx hb dX5_layMinors_67 rfl (lv_at hl 3 rfl) ?_
  refine lv_iconst (v := 5) hx hb dX5_layMinors_68 (by decide) ?_
  refine lv_icmp_ge (tgt := 135) hx hb dX5_layMinors_69 (by decide) (fun h => absurd h (by decide)) (fun _ => ?_)
  refine lv_iload_n hx hb dX5_layMinors_72 rfl (lv_at hl 5 rfl) ?_
  refine lv_iload hx hb dX5_layMinors_73 (lv_at hl 0 rfl) ?_
  refine lv_ishr hx hb dX5_layMinors_75 ?_
  refine lv_eqi (v := 5) (by decide) ?_
  refine lv_iconst (v := 1) hx hb dX5_layMinors_76 (by decide) ?_
  refine lv_iand hx hb dX5_layMinors_77 ?_
  refine lv_eqi (v := 1) (by decide) ?_
  refine lv_iconst (v := 1) hx hb dX5_layMinors_78 (by decide) ?_
  refine lv_icmp_ne (tgt := 129) hx hb dX5_layMinors_79 (by decide) (fun h => absurd (by decide) h) (fun _ => ?_)
  refine lv_aload_n hx hb dX5_layMinors_82 rfl (lv_at hl 4 rfl) ?_
  refine va_get (D := D) (ci := 5) (v := .ref mR) (C := RX5) (T := TX5) (N := 17) hx hb hts k_2 hown hK.1 hP 0 rfl rfl 5 (by decide) k_4 (fun _ h9 => h9) rfl dX5_layMinors_83 ?_
  refine lv_bipush (v := 6) hx hb dX5_layMinors_86 (by decide) ?_
  refine lv_iload_n hx hb dX5_layMinors_88 rfl (lv_at hl 3 rfl) ?_
  refine lv_imul hx hb dX5_layMinors_89 ?_
  refine lv_eqi (v := 6) (by decide) ?_
  refine lv_iload hx hb dX5_layMinors_90 (lv_at hl 0 rfl) ?_
  refine lv_iadd hx hb dX5_layMinors_92 ?_
  refine lv_eqi (v := 9) (by decide) ?_
  refine ld_l hx hb hK.1 hP 1 1 rfl rfl (ix_lit (by decide)) 9 (by decide) (v := fr 9) rfl dX5_layMinors_93 ?_
  refine lv_aload_n hx hb dX5_layMinors_94 rfl (lv_at hl 4 rfl) ?_
  refine va_get (D := D) (ci := 5) (v := .ref mD) (C := RX5) (T := TX5) (N := 17) hx hb hts k_2 hown hK.1 hP 0 rfl rfl 6 (by decide) k_1 (fun _ h9 => h9) rfl dX5_layMinors_95 ?_
  refine lv_iload_n hx hb dX5_layMinors_98 rfl (lv_at hl 5 rfl) ?_
  refine lv_iconst (v := 1) hx hb dX5_layMinors_99 (by decide) ?_
  refine lv_iload hx hb dX5_layMinors_100 (lv_at hl 0 rfl) ?_
  refine lv_ishl hx hb dX5_layMinors_102 ?_
  refine lv_eqi (v := 8) (by decide) ?_
  refine lv_isub hx hb dX5_layMinors_103 ?_
  refine lv_eqi (v := 32) (by decide) ?_
  refine ld_l hx hb hK.1 hP 2 1 rfl rfl (ix_lit (by decide)) 32 (by decide) (v := z5_mw32 fr) rfl dX5_layMinors_104 ?_
  refine lv_lmul hx hb dX5_layMinors_105 ?_
  refine lv_lstore (lv' := [(7, .long ((fr 9) * (z5_mw32 fr))), (6, .int 3), (5, .int 1), (3, .long 0), (2, .int 1), (0, .ref o), (1, .int 40)]) hx hb dX5_layMinors_106 hl (by decide) rfl (fun ls hl => ?_)
  refine lv_lload_n hx hb dX5_layMinors_108 rfl (lv_at hl 3 rfl) ?_
  refine lv_iload hx hb dX5_layMinors_109 (lv_at hl 2 rfl) ?_
  refine lv_iconst (v := 2) hx hb dX5_layMinors_111 (by decide) ?_
  refine lv_irem hx hb dX5_layMinors_112 (by decide) ?_
  refine lv_eqi (v := 1) (by decide) ?_
  refine lv_if_ne (tgt := 121) hx hb dX5_layMinors_113 (by decide) (fun _ => ?_) (fun h => absurd h (by decide))
  refine lv_lload hx hb dX5_layMinors_121 (lv_at hl 0 rfl) ?_
  refine lv_lneg hx hb dX5_layMinors_123 ?_
  refine lv_ladd hx hb dX5_layMinors_124 ?_
  refine lv_lstore_n (lv' := [(3, .long (0 + (-((fr 9) * (z5_mw32 fr))))), (7, .long ((fr 9) * (z5_mw32 fr))), (6, .int 3), (5, .int 1), (2, .int 1), (0, .ref o), (1, .int 40)]) hx hb dX5_layMinors_125 rfl hl (by decide) rfl (fun ls hl => ?_)
  refine lv_iinc (v := 0) (lv' := [(5, .int 0), (3, .long (0 + (-((fr 9) * (z5_mw32 fr))))), (7, .long ((fr 9) * (z5_mw32 fr))), (6, .int 3), (2, .int 1), (0, .ref o), (1, .int 40)]) hx hb dX5_layMinors_126 hl (k := 3) rfl (by decide) (by decide) rfl (fun ls hl => ?_)
  refine lv_iinc (v := 4) (lv' := [(6, .int 4), (5, .int 0), (3, .long (0 + (-((fr 9) * (z5_mw32 fr))))), (7, .long ((fr 9) * (z5_mw32 fr))), (2, .int 1), (0, .ref o), (1, .int 40)]) hx hb dX5_layMinors_129 hl (k := 3) rfl (by decide) (by decide) rfl (fun ls hl => ?_)
  refine lv_goto (tgt := 60) hx hb dX5_layMinors_132 (by decide) ?_
  refine lv_iload hx hb dX5_layMinors_60 (lv_at hl 0 rfl) ?_
  refine lv_bipush (v := 6) hx hb dX5_layMinors_62 (by decide) ?_
  refine lv_icmp_ge (tgt := 135) hx hb dX5_layMinors_64 (by decide) (fun h => absurd h (by decide)) (fun _ => ?_)
  refine lv_iload_n hx hb dX5_layMinors_67 rfl (lv_at hl 4 rfl) ?_
  refine lv_iconst (v := 5) hx hb dX5_layMinors_68 (by decide) ?_
  refine lv_icmp_ge (tgt := 135) hx hb dX5_layMinors_69 (by decide) (fun h => absurd h (by decide)) (fun _ => ?_)
  refine lv_iload_n hx hb dX5_layMinors_72 rfl (lv_at hl 6 rfl) ?_
  refine lv_iload hx hb dX5_layMinors_73 (lv_at hl 0 rfl) ?_
  refine lv_ishr hx hb dX5_layMinors_75 ?_
  refine lv_eqi (v := 2) (by decide) ?_
  refine lv_iconst (v := 1) hx hb dX5_layMinors_76 (by decide) ?_
  refine lv_iand hx hb dX5_layMinors_77 ?_
  refine lv_eqi (v := 0) (by decide) ?_
  refine lv_iconst (v := 1) hx hb dX5_layMinors_78 (by decide) ?_
  refine lv_icmp_ne (tgt := 129) hx hb dX5_layMinors_79 (by decide) (fun _ => ?_) (fun h => absurd h (by decide))
  refine lv_iinc (v := 5) (lv' := [(6, .int 5), (5, .int 0), (3, .long (0 + (-((fr 9) * (z5_mw32 fr))))), (7, .long ((fr 9) * (z5_mw32 fr))), (2, .int 1), (0, .ref o), (1, .int 40)]) hx hb dX5_layMinors_129 hl (k := 0) rfl (by decide) (by decide) rfl (fun ls hl => ?_)
  refine lv_goto (tgt := 60) hx hb dX5_layMinors_132 (by decide) ?_
  refine lv_iload hx hb dX5_layMinors_60 (lv_at hl 0 rfl) ?_
  refine lv_bipush (v := 6) hx hb dX5_layMinors_62 (by decide) ?_
  refine lv_icmp_ge (tgt := 135) hx hb dX5_layMinors_64 (by decide) (fun h => absurd h (by decide)) (fun _ => ?_)
  refine lv_iload_n hx hb dX5_layMinors_67 rfl (lv_at hl 4 rfl) ?_
  refine lv_iconst (v := 5) hx hb dX5_layMinors_68 (by decide) ?_
  refine lv_icmp_ge (tgt := 135) hx hb dX5_layMinors_69 (by decide) (fun h => absurd h (by decide)) (fun _ => ?_)
  refine lv_iload_n hx hb dX5_layMinors_72 rfl (lv_at hl 6 rfl) ?_
  refine lv_iload hx hb dX5_layMinors_73 (lv_at hl 0 rfl) ?_
  refine lv_ishr hx hb dX5_layMinors_75 ?_
  refine lv_eqi (v := 1) (by decide) ?_
  refine lv_iconst (v := 1) hx hb dX5_layMinors_76 (by decide) ?_
  refine lv_iand hx hb dX5_layMinors_77 ?_
  refine lv_eqi (v := 1) (by decide) ?_
  refine lv_iconst (v := 1) hx hb dX5_layMinors_78 (by decide) ?_
  refine lv_icmp_ne (tgt := 129) hx hb dX5_layMinors_79 (by decide) (fun h => absurd (by decide) h) (fun _ => ?_)
  refine lv_aload_n hx hb dX5_layMinors_82 rfl (lv_at hl 5 rfl) ?_
  refine va_get (D := D) (ci := 5) (v := .ref mR) (C := RX5) (T := TX5) (N := 17) hx hb hts k_2 hown hK.1 hP 0 rfl rfl 5 (by decide) k_4 (fun _ h9 => h9) rfl dX5_layMinors_83 ?_
  refine lv_bipush (v := 6) hx hb dX5_layMinors_86 (by decide) ?_
  refine lv_iload_n hx hb dX5_layMinors_88 rfl (lv_at hl 4 rfl) ?_
  refine lv_imul hx hb dX5_layMinors_89 ?_
  refine lv_eqi (v := 6) (by decide) ?_
  refine lv_iload hx hb dX5_layMinors_90 (lv_at hl 0 rfl) ?_
  refine lv_iadd hx hb dX5_layMinors_92 ?_
  refine lv_eqi (v := 11) (by decide) ?_
  refine ld_l hx hb hK.1 hP 1 1 rfl rfl (ix_lit (by decide)) 11 (by decide) (v := fr 11) rfl dX5_layMinors_93 ?_
  refine lv_aload_n hx hb dX5_layMinors_94 rfl (lv_at hl 5 rfl) ?_
  refine va_get (D := D) (ci := 5) (v := .ref mD) (C := RX5) (T := TX5) (N := 17) hx hb hts k_2 hown hK.1 hP 0 rfl rfl 6 (by decide) k_1 (fun _ h9 => h9) rfl dX5_layMinors_95 ?_
  refine lv_iload_n hx hb dX5_layMinors_98 rfl (lv_at hl 6 rfl) ?_
  refine lv_iconst (v := 1) hx hb dX5_layMinors_99 (by decide) ?_
  refine lv_iload hx hb dX5_layMinors_100 (lv_at hl 0 rfl) ?_
  refine lv_ishl hx hb dX5_layMinors_102 ?_
  refine lv_eqi (v := 32) (by decide) ?_
  refine lv_isub hx hb dX5_layMinors_103 ?_
  refine lv_eqi (v := 8) (by decide) ?_
  refine ld_l hx hb hK.1 hP 2 1 rfl rfl (ix_lit (by decide)) 8 (by decide) (v := z5_mw8 fr) rfl dX5_layMinors_104 ?_
  refine lv_lmul hx hb dX5_layMinors_105 ?_
  refine lv_lstore (lv' := [(7, .long ((fr 11) * (z5_mw8 fr))), (6, .int 5), (5, .int 0), (3, .long (0 + (-((fr 9) * (z5_mw32 fr))))), (2, .int 1), (0, .ref o), (1, .int 40)]) hx hb dX5_layMinors_106 hl (by decide) rfl (fun ls hl => ?_)
  refine lv_lload_n hx hb dX5_layMinors_108 rfl (lv_at hl 3 rfl) ?_
  refine lv_iload hx hb dX5_layMinors_109 (lv_at hl 2 rfl) ?_
  refine lv_iconst (v := 2) hx hb dX5_layMinors_111 (by decide) ?_
  refine lv_irem hx hb dX5_layMinors_112 (by decide) ?_
  refine lv_eqi (v := 0) (by decide) ?_
  refine lv_if_ne (tgt := 121) hx hb dX5_layMinors_113 (by decide) (fun h => absurd (by decide) h) (fun _ => ?_)
  refine lv_lload hx hb dX5_layMinors_116 (lv_at hl 0 rfl) ?_
  refine lv_goto (tgt := 124) hx hb dX5_layMinors_118 (by decide) ?_
  refine lv_ladd hx hb dX5_layMinors_124 ?_
  refine lv_lstore_n (lv' := [(3, .long ((0 + (-((fr 9) * (z5_mw32 fr)))) + ((fr 11) * (z5_mw8 fr)))), (7, .long ((fr 11) * (z5_mw8 fr))), (6, .int 5), (5, .int 0), (2, .int 1), (0, .ref o), (1, .int 40)]) hx hb dX5_layMinors_125 rfl hl (by decide) rfl (fun ls hl => ?_)
  refine lv_iinc (v := (-1)) (lv' := [(5, .int (-1)), (3, .long ((0 + (-((fr 9) * (z5_mw32 fr)))) + ((fr 11) * (z5_mw8 fr)))), (7, .long ((fr 11) * (z5_mw8 fr))), (6, .int 5), (2, .int 1), (0, .ref o), (1, .int 40)]) hx hb dX5_layMinors_126 hl (k := 3) rfl (by decide) (by decide) rfl (fun ls hl => ?_)
  refine lv_iinc (v := 6) (lv' := [(6, .int 6), (5, .int (-1)), (3, .long ((0 + (-((fr 9) * (z5_mw32 fr)))) + ((fr 11) * (z5_mw8 fr)))), (7, .long ((fr 11) * (z5_mw8 fr))), (2, .int 1), (0, .ref o), (1, .int 40)]) hx hb dX5_layMinors_129 hl (k := 3) rfl (by decide) (by decide) rfl (fun ls hl => ?_)
  refine lv_goto (tgt := 60) hx hb dX5_layMinors_132 (by decide) ?_
  refine lv_iload hx hb dX5_layMinors_60 (lv_at hl 0 rfl) ?_
  refine lv_bipush (v := 6) hx hb dX5_layMinors_62 (by decide) ?_
  refine lv_icmp_ge (tgt := 135) hx hb dX5_layMinors_64 (by decide) (fun _ => ?_) (fun h => absurd (by decide) h)
  refine lv_aload_n hx hb dX5_layMinors_135 rfl (lv_at hl 5 rfl) ?_
  refine va_get (D := D) (ci := 5) (v := .ref mD) (C := RX5) (T := TX5) (N := 17) hx hb hts k_2 hown hK.1 hP 0 rfl rfl 6 (by decide) k_1 (fun _ h9 => h9) rfl dX5_layMinors_136 ?_
  refine lv_iload_n hx hb dX5_layMinors_139 rfl (lv_at hl 6 rfl) ?_
  refine lv_lload_n hx hb dX5_layMinors_140 rfl (lv_at hl 2 rfl) ?_
  refine st_l hx hb hK.1 hP hD hS 2 1 rfl rfl (ix_lit (by decide)) 40 (by decide) dX5_layMinors_141 (fun H locs hP hD hS => ?_)
  have hP : va_P D vwCl [kM o mP mL mC mN mF mR mD mV mX mA mK cm mT pm mU mH mI, kJ mR cJ 30 fr, kJ mD cJ 64 (vp_updL (z5_mm40 fr fd) 40 ((0 + (-((fr 9) * (z5_mw32 fr)))) + ((fr 11) * (z5_mw8 fr))))] H := hP
  have hD : va_D A [kM o mP mL mC mN mF mR mD mV mX mA mK cm mT pm mU mH mI, kJ mR cJ 30 fr, kJ mD cJ 64 (vp_updL (z5_mm40 fr fd) 40 ((0 + (-((fr 9) * (z5_mw32 fr)))) + ((fr 11) * (z5_mw8 fr))))] := hD
  have hP : va_P D vwCl [kM o mP mL mC mN mF mR mD mV mX mA mK cm mT pm mU mH mI, kJ mR cJ 30 fr, kJ mD cJ 64 (z5_mm41 fr fd)] H := hP
  have hD : va_D A [kM o mP mL mC mN mF mR mD mV mX mA mK cm mT pm mU mH mI, kJ mR cJ 30 fr, kJ mD cJ 64 (z5_mm41 fr fd)] := hD
  refine lv_iinc (v := 41) (lv' := [(1, .int 41), (6, .int 6), (5, .int (-1)), (3, .long ((0 + (-((fr 9) * (z5_mw32 fr)))) + ((fr 11) * (z5_mw8 fr)))), (7, .long ((fr 11) * (z5_mw8 fr))), (2, .int 1), (0, .ref o)]) hx hb dX5_layMinors_142 hl (k := 6) rfl (by decide) (by decide) rfl (fun ls hl => ?_)
  refine lv_goto (tgt := 9) hx hb dX5_layMinors_145 (by decide) ?_
  exact sg_X5_layMinors_41 hx hb hr hml hown hts hlk hK hA hP hD hS ls (lv_sub hl [6, 0] rfl)
set_option maxHeartbeats 4000000 in
set_option maxRecDepth 100000 in
theorem sg_X5_layMinors_39 {l : Launch} {D : va_G} {cI cJ : ClassId} {pG : Program} {eG : Env} {sG : State} {mG : MethodId} {below : List Frame} {meth : Method} {cG : Code} {A : Nat → Prop} {H : Heap} {locs : List Loc} {o : Nat} {mP : Nat} {mL : Nat} {mC : Nat} {mN : Nat} {mF : Nat} {mR : Nat} {mD : Nat} {mV : Nat} {mX : Nat} {mA : Nat} {mK : Nat} {mT : Nat} {mU : Nat} {mH : Nat} {mI : Nat} {cm : Int32} {pm : Int32} {fr : Nat → Int64} {fd : Nat → Int64} (hx : pG.tables.exec = Jvm.exec) (hb : cG.code = cX5_layMinors) (hr : meth.sig.returnType = none) (hml : cG.maxLocals = 9) (hown : sG.vm.findClass RX5 = some mG.cls) (hts : ∀ x ∈ wsX5_layMinors, x.before ([.ref o] : List Value).toArray sG = true) (hlk : meth.locks = false) (hK : gd_K D cI cJ sG) (hA : ∀ q : Nat, sG.heap.size ≤ q → A q) (hP : va_P D vwCl [kM o mP mL mC mN mF mR mD mV mX mA mK cm mT pm mU mH mI, kJ mR cJ 30 fr, kJ mD cJ 64 (z5_mm39 fr fd)] H) (hD : va_D A [kM o mP mL mC mN mF mR mD mV mX mA mK cm mT pm mU mH mI, kJ mR cJ 30 fr, kJ mD cJ 64 (z5_mm39 fr fd)]) (hS : va_S A sG.heap H locs) (ls : Array Slot) (hl : lv_has ls 9 [(0, .ref o), (1, .int 39)]) : W pG l eG (headSpec wsX5_layMinors ({ frames := 0, cells := 0, slots := 0, locals := 0 })).room sG mG ([.ref o] : List Value).toArray below meth cG H locs 0 0 (MQ below ((qe_v (fun _ : Unit => True) (fun uu => [kM o mP mL mC mN mF mR mD mV mX mA mK cm mT pm mU mH mI, kJ mR cJ 30 fr, kJ mD cJ 64 (z5_layMinors_f2 fr fd)])) D A) ([.ref o] : List Value).toArray sG 0 0 A) (F0 mG 9 ls []) := by
  have k_1 := hts (.fieldLink RX5 29 "ConicRowsModel" "minors" "[J") (by decide +kernel)
  have k_2 : ∀ w ∈ wsX50, w ∈ wsX5_layMinors := by decide +kernel
  have k_3 := hts (.constant RX5 122 (-1000001)) (by decide +kernel)
  have k_4 := hts (.fieldLink RX5 26 "ConicRowsModel" "rows" "[J") (by decide +kernel)
  refine lv_iload_n hx hb dX5_layMinors_9 rfl (lv_at hl 1 rfl) ?_
  refine lv_bipush (v := 64) hx hb dX5_layMinors_10 (by decide) ?_
  refine lv_icmp_ge (tgt := 148) hx hb dX5_layMinors_12 (by decide) (fun h => absurd h (by decide)) (fun _ => ?_)
  refine lv_ldc hx hb hown k_3 dX5_layMinors_15 ?_
  refine lv_istore_n (lv' := [(2, .int (-1000001)), (0, .ref o), (1, .int 39)]) hx hb dX5_layMinors_17 rfl hl (by decide) rfl (fun ls hl => ?_)
  refine lv_iconst (v := 0) hx hb dX5_layMinors_18 (by decide) ?_
  refine lv_istore_n (lv' := [(3, .int 0), (2, .int (-1000001)), (0, .ref o), (1, .int 39)]) hx hb dX5_layMinors_19 rfl hl (by decide) rfl (fun ls hl => ?_)
  refine lv_iload_n hx hb dX5_layMinors_20 rfl (lv_at hl 0 rfl) ?_
  refine lv_bipush (v := 6) hx hb dX5_layMinors_21 (by decide) ?_
  refine lv_icmp_ge (tgt := 52) hx hb dX5_layMinors_23 (by decide) (fun h => absurd h (by decide)) (fun _ => ?_)
  refine lv_iload_n hx hb dX5_layMinors_26 rfl (lv_at hl 1 rfl) ?_
  refine lv_ldc hx hb hown k_3 dX5_layMinors_27 ?_
  refine lv_icmp_ne (tgt := 36) hx hb dX5_layMinors_29 (by decide) (fun h => absurd (by decide) h) (fun _ => ?_)
  refine lv_iconst (v := (-1)) hx hb dX5_layMinors_32 (by decide) ?_
  refine lv_goto (tgt := 37) hx hb dX5_layMinors_33 (by decide) ?_
  refine lv_istore_n (lv' := [(2, .int (-1)), (3, .int 0), (0, .ref o), (1, .int 39)]) hx hb dX5_layMinors_37 rfl hl (by decide) rfl (fun ls hl => ?_)
  refine lv_iload_n hx hb dX5_layMinors_38 rfl (lv_at hl 0 rfl) ?_
  refine lv_iload_n hx hb dX5_layMinors_39 rfl (lv_at hl 3 rfl) ?_
  refine lv_iload_n hx hb dX5_layMinors_40 rfl (lv_at hl 1 rfl) ?_
  refine lv_ishr hx hb dX5_layMinors_41 ?_
  refine lv_eqi (v := 39) (by decide) ?_
  refine lv_iconst (v := 1) hx hb dX5_layMinors_42 (by decide) ?_
  refine lv_iand hx hb dX5_layMinors_43 ?_
  refine lv_eqi (v := 1) (by decide) ?_
  refine lv_iadd hx hb dX5_layMinors_44 ?_
  refine lv_eqi (v := 0) (by decide) ?_
  refine lv_istore_n (lv' := [(2, .int 0), (3, .int 0), (0, .ref o), (1, .int 39)]) hx hb dX5_layMinors_45 rfl hl (by decide) rfl (fun ls hl => ?_)
  refine lv_iinc (v := 1) (lv' := [(3, .int 1), (2, .int 0), (0, .ref o), (1, .int 39)]) hx hb dX5_layMinors_46 hl (k := 1) rfl (by decide) (by decide) rfl (fun ls hl => ?_)
  refine lv_goto (tgt := 20) hx hb dX5_layMinors_49 (by decide) ?_
  refine lv_iload_n hx hb dX5_layMinors_20 rfl (lv_at hl 0 rfl) ?_
  refine lv_bipush (v := 6) hx hb dX5_layMinors_21 (by decide) ?_
  refine lv_icmp_ge (tgt := 52) hx hb dX5_layMinors_23 (by decide) (fun h => absurd h (by decide)) (fun _ => ?_)
  refine lv_iload_n hx hb dX5_layMinors_26 rfl (lv_at hl 1 rfl) ?_
  refine lv_ldc hx hb hown k_3 dX5_layMinors_27 ?_
  refine lv_icmp_ne (tgt := 36) hx hb dX5_layMinors_29 (by decide) (fun _ => ?_) (fun h => absurd h (by decide))
  refine lv_iload_n hx hb dX5_layMinors_36 rfl (lv_at hl 1 rfl) ?_
  refine lv_istore_n (lv' := [(2, .int 0), (3, .int 1), (0, .ref o), (1, .int 39)]) hx hb dX5_layMinors_37 rfl hl (by decide) rfl (fun ls hl => ?_)
  refine lv_iload_n hx hb dX5_layMinors_38 rfl (lv_at hl 0 rfl) ?_
  refine lv_iload_n hx hb dX5_layMinors_39 rfl (lv_at hl 3 rfl) ?_
  refine lv_iload_n hx hb dX5_layMinors_40 rfl (lv_at hl 1 rfl) ?_
  refine lv_ishr hx hb dX5_layMinors_41 ?_
  refine lv_eqi (v := 19) (by decide) ?_
  refine lv_iconst (v := 1) hx hb dX5_layMinors_42 (by decide) ?_
  refine lv_iand hx hb dX5_layMinors_43 ?_
  refine lv_eqi (v := 1) (by decide) ?_
  refine lv_iadd hx hb dX5_layMinors_44 ?_
  refine lv_eqi (v := 1) (by decide) ?_
  refine lv_istore_n (lv' := [(2, .int 1), (3, .int 1), (0, .ref o), (1, .int 39)]) hx hb dX5_layMinors_45 rfl hl (by decide) rfl (fun ls hl => ?_)
  refine lv_iinc (v := 2) (lv' := [(3, .int 2), (2, .int 1), (0, .ref o), (1, .int 39)]) hx hb dX5_layMinors_46 hl (k := 1) rfl (by decide) (by decide) rfl (fun ls hl => ?_)
  refine lv_goto (tgt := 20) hx hb dX5_layMinors_49 (by decide) ?_
  refine lv_iload_n hx hb dX5_layMinors_20 rfl (lv_at hl 0 rfl) ?_
  refine lv_bipush (v := 6) hx hb dX5_layMinors_21 (by decide) ?_
  refine lv_icmp_ge (tgt := 52) hx hb dX5_layMinors_23 (by decide) (fun h => absurd h (by decide)) (fun _ => ?_)
  refine lv_iload_n hx hb dX5_layMinors_26 rfl (lv_at hl 1 rfl) ?_
  refine lv_ldc hx hb hown k_3 dX5_layMinors_27 ?_
  refine lv_icmp_ne (tgt := 36) hx hb dX5_layMinors_29 (by decide) (fun _ => ?_) (fun h => absurd h (by decide))
  refine lv_iload_n hx hb dX5_layMinors_36 rfl (lv_at hl 1 rfl) ?_
  refine lv_istore_n (lv' := [(2, .int 1), (3, .int 2), (0, .ref o), (1, .int 39)]) hx hb dX5_layMinors_37 rfl hl (by decide) rfl (fun ls hl => ?_)
  refine lv_iload_n hx hb dX5_layMinors_38 rfl (lv_at hl 0 rfl) ?_
  refine lv_iload_n hx hb dX5_layMinors_39 rfl (lv_at hl 3 rfl) ?_
  refine lv_iload_n hx hb dX5_layMinors_40 rfl (lv_at hl 1 rfl) ?_
  refine lv_ishr hx hb dX5_layMinors_41 ?_
  refine lv_eqi (v := 9) (by decide) ?_
  refine lv_iconst (v := 1) hx hb dX5_layMinors_42 (by decide) ?_
  refine lv_iand hx hb dX5_layMinors_43 ?_
  refine lv_eqi (v := 1) (by decide) ?_
  refine lv_iadd hx hb dX5_layMinors_44 ?_
  refine lv_eqi (v := 2) (by decide) ?_
  refine lv_istore_n (lv' := [(2, .int 2), (3, .int 2), (0, .ref o), (1, .int 39)]) hx hb dX5_layMinors_45 rfl hl (by decide) rfl (fun ls hl => ?_)
  refine lv_iinc (v := 3) (lv' := [(3, .int 3), (2, .int 2), (0, .ref o), (1, .int 39)]) hx hb dX5_layMinors_46 hl (k := 1) rfl (by decide) (by decide) rfl (fun ls hl => ?_)
  refine lv_goto (tgt := 20) hx hb dX5_layMinors_49 (by decide) ?_
  refine lv_iload_n hx hb dX5_layMinors_20 rfl (lv_at hl 0 rfl) ?_
  refine lv_bipush (v := 6) hx hb dX5_layMinors_21 (by decide) ?_
  refine lv_icmp_ge (tgt := 52) hx hb dX5_layMinors_23 (by decide) (fun h => absurd h (by decide)) (fun _ => ?_)
  refine lv_iload_n hx hb dX5_layMinors_26 rfl (lv_at hl 1 rfl) ?_
  refine lv_ldc hx hb hown k_3 dX5_layMinors_27 ?_
  refine lv_icmp_ne (tgt := 36) hx hb dX5_layMinors_29 (by decide) (fun _ => ?_) (fun h => absurd h (by decide))
  refine lv_iload_n hx hb dX5_layMinors_36 rfl (lv_at hl 1 rfl) ?_
  refine lv_istore_n (lv' := [(2, .int 2), (3, .int 3), (0, .ref o), (1, .int 39)]) hx hb dX5_layMinors_37 rfl hl (by decide) rfl (fun ls hl => ?_)
  refine lv_iload_n hx hb dX5_layMinors_38 rfl (lv_at hl 0 rfl) ?_
  refine lv_iload_n hx hb dX5_layMinors_39 rfl (lv_at hl 3 rfl) ?_
  refine lv_iload_n hx hb dX5_layMinors_40 rfl (lv_at hl 1 rfl) ?_
  refine lv_ishr hx hb dX5_layMinors_41 ?_
  refine lv_eqi (v := 4) (by decide) ?_
  refine lv_iconst (v := 1) hx hb dX5_layMinors_42 (by decide) ?_
  refine lv_iand hx hb dX5_layMinors_43 ?_
  refine lv_eqi (v := 0) (by decide) ?_
  refine lv_iadd hx hb dX5_layMinors_44 ?_
  refine lv_eqi (v := 2) (by decide) ?_
  refine lv_istore_n (lv' := [(2, .int 2), (3, .int 3), (0, .ref o), (1, .int 39)]) hx hb dX5_layMinors_45 rfl hl (by decide) rfl (fun ls hl => ?_)
  refine lv_iinc (v := 4) (lv' := [(3, .int 4), (2, .int 2), (0, .ref o), (1, .int 39)]) hx hb dX5_layMinors_46 hl (k := 1) rfl (by decide) (by decide) rfl (fun ls hl => ?_)
  refine lv_goto (tgt := 20) hx hb dX5_layMinors_49 (by decide) ?_
  refine lv_iload_n hx hb dX5_layMinors_20 rfl (lv_at hl 0 rfl) ?_
  refine lv_bipush (v := 6) hx hb dX5_layMinors_21 (by decide) ?_
  refine lv_icmp_ge (tgt := 52) hx hb dX5_layMinors_23 (by decide) (fun h => absurd h (by decide)) (fun _ => ?_)
  refine lv_iload_n hx hb dX5_layMinors_26 rfl (lv_at hl 1 rfl) ?_
  refine lv_ldc hx hb hown k_3 dX5_layMinors_27 ?_
  refine lv_icmp_ne (tgt := 36) hx hb dX5_layMinors_29 (by decide) (fun _ => ?_) (fun h => absurd h (by decide))
  refine lv_iload_n hx hb dX5_layMinors_36 rfl (lv_at hl 1 rfl) ?_
  refine lv_istore_n (lv' := [(2, .int 2), (3, .int 4), (0, .ref o), (1, .int 39)]) hx hb dX5_layMinors_37 rfl hl (by decide) rfl (fun ls hl => ?_)
  refine lv_iload_n hx hb dX5_layMinors_38 rfl (lv_at hl 0 rfl) ?_
  refine lv_iload_n hx hb dX5_layMinors_39 rfl (lv_at hl 3 rfl) ?_
  refine lv_iload_n hx hb dX5_layMinors_40 rfl (lv_at hl 1 rfl) ?_
  refine lv_ishr hx hb dX5_layMinors_41 ?_
  refine lv_eqi (v := 2) (by decide) ?_
  refine lv_iconst (v := 1) hx hb dX5_layMinors_42 (by decide) ?_
  refine lv_iand hx hb dX5_layMinors_43 ?_
  refine lv_eqi (v := 0) (by decide) ?_
  refine lv_iadd hx hb dX5_layMinors_44 ?_
  refine lv_eqi (v := 2) (by decide) ?_
  refine lv_istore_n (lv' := [(2, .int 2), (3, .int 4), (0, .ref o), (1, .int 39)]) hx hb dX5_layMinors_45 rfl hl (by decide) rfl (fun ls hl => ?_)
  refine lv_iinc (v := 5) (lv' := [(3, .int 5), (2, .int 2), (0, .ref o), (1, .int 39)]) hx hb dX5_layMinors_46 hl (k := 1) rfl (by decide) (by decide) rfl (fun ls hl => ?_)
  refine lv_goto (tgt := 20) hx hb dX5_layMinors_49 (by decide) ?_
  refine lv_iload_n hx hb dX5_layMinors_20 rfl (lv_at hl 0 rfl) ?_
  refine lv_bipush (v := 6) hx hb dX5_layMinors_21 (by decide) ?_
  refine lv_icmp_ge (tgt := 52) hx hb dX5_layMinors_23 (by decide) (fun h => absurd h (by decide)) (fun _ => ?_)
  refine lv_iload_n hx hb dX5_layMinors_26 rfl (lv_at hl 1 rfl) ?_
  refine lv_ldc hx hb hown k_3 dX5_layMinors_27 ?_
  refine lv_icmp_ne (tgt := 36) hx hb dX5_layMinors_29 (by decide) (fun _ => ?_) (fun h => absurd h (by decide))
  refine lv_iload_n hx hb dX5_layMinors_36 rfl (lv_at hl 1 rfl) ?_
  refine lv_istore_n (lv' := [(2, .int 2), (3, .int 5), (0, .ref o), (1, .int 39)]) hx hb dX5_layMinors_37 rfl hl (by decide) rfl (fun ls hl => ?_)
  refine lv_iload_n hx hb dX5_layMinors_38 rfl (lv_at hl 0 rfl) ?_
  refine lv_iload_n hx hb dX5_layMinors_39 rfl (lv_at hl 3 rfl) ?_
  refine lv_iload_n hx hb dX5_layMinors_40 rfl (lv_at hl 1 rfl) ?_
  refine lv_ishr hx hb dX5_layMinors_41 ?_
  refine lv_eqi (v := 1) (by decide) ?_
  refine lv_iconst (v := 1) hx hb dX5_layMinors_42 (by decide) ?_
  refine lv_iand hx hb dX5_layMinors_43 ?_
  refine lv_eqi (v := 1) (by decide) ?_
  refine lv_iadd hx hb dX5_layMinors_44 ?_
  refine lv_eqi (v := 3) (by decide) ?_
  refine lv_istore_n (lv' := [(2, .int 3), (3, .int 5), (0, .ref o), (1, .int 39)]) hx hb dX5_layMinors_45 rfl hl (by decide) rfl (fun ls hl => ?_)
  refine lv_iinc (v := 6) (lv' := [(3, .int 6), (2, .int 3), (0, .ref o), (1, .int 39)]) hx hb dX5_layMinors_46 hl (k := 1) rfl (by decide) (by decide) rfl (fun ls hl => ?_)
  refine lv_goto (tgt := 20) hx hb dX5_layMinors_49 (by decide) ?_
  refine lv_iload_n hx hb dX5_layMinors_20 rfl (lv_at hl 0 rfl) ?_
  refine lv_bipush (v := 6) hx hb dX5_layMinors_21 (by decide) ?_
  refine lv_icmp_ge (tgt := 52) hx hb dX5_layMinors_23 (by decide) (fun _ => ?_) (fun h => absurd (by decide) h)
  refine lv_lconst (v := 0) hx hb dX5_layMinors_52 (by decide) ?_
  refine lv_lstore_n (lv' := [(3, .long 0), (2, .int 3), (0, .ref o), (1, .int 39)]) hx hb dX5_layMinors_53 rfl hl (by decide) rfl (fun ls hl => ?_)
  refine lv_iload_n hx hb dX5_layMinors_54 rfl (lv_at hl 1 rfl) ?_
  refine lv_istore (lv' := [(5, .int 3), (3, .long 0), (2, .int 3), (0, .ref o), (1, .int 39)]) hx hb dX5_layMinors_55 hl (by decide) rfl (fun ls hl => ?_)
  refine lv_iconst (v := 0) hx hb dX5_layMinors_57 (by decide) ?_
  refine lv_istore (lv' := [(6, .int 0), (5, .int 3), (3, .long 0), (2, .int 3), (0, .ref o), (1, .int 39)]) hx hb dX5_layMinors_58 hl (by decide) rfl (fun ls hl => ?_)
  refine lv_iload hx hb dX5_layMinors_60 (lv_at hl 0 rfl) ?_
  refine lv_bipush (v := 6) hx hb dX5_layMinors_62 (by decide) ?_
  refine lv_icmp_ge (tgt := 135) hx hb dX5_layMinors_64 (by decide) (fun h => absurd h (by decide)) (fun _ => ?_)
  refine lv_iload_n hx hb dX5_layMinors_67 rfl (lv_at hl 3 rfl) ?_
  refine lv_iconst (v := 5) hx hb dX5_layMinors_68 (by decide) ?_
  refine lv_icmp_ge (tgt := 135) hx hb dX5_layMinors_69 (by decide) (fun h => absurd h (by decide)) (fun _ => ?_)
  refine lv_iload_n hx hb dX5_layMinors_72 rfl (lv_at hl 5 rfl) ?_
  refine lv_iload hx hb dX5_layMinors_73 (lv_at hl 0 rfl) ?_
  refine lv_ishr hx hb dX5_layMinors_75 ?_
  refine lv_eqi (v := 39) (by decide) ?_
  refine lv_iconst (v := 1) hx hb dX5_layMinors_76 (by decide) ?_
  refine lv_iand hx hb dX5_layMinors_77 ?_
  refine lv_eqi (v := 1) (by decide) ?_
  refine lv_iconst (v := 1) hx hb dX5_layMinors_78 (by decide) ?_
  refine lv_icmp_ne (tgt := 129) hx hb dX5_layMinors_79 (by decide) (fun h => absurd (by decide) h) (fun _ => ?_)
  refine lv_aload_n hx hb dX5_layMinors_82 rfl (lv_at hl 4 rfl) ?_
  refine va_get (D := D) (ci := 5) (v := .ref mR) (C := RX5) (T := TX5) (N := 17) hx hb hts k_2 hown hK.1 hP 0 rfl rfl 5 (by decide) k_4 (fun _ h9 => h9) rfl dX5_layMinors_83 ?_
  refine lv_bipush (v := 6) hx hb dX5_layMinors_86 (by decide) ?_
  refine lv_iload_n hx hb dX5_layMinors_88 rfl (lv_at hl 3 rfl) ?_
  refine lv_imul hx hb dX5_layMinors_89 ?_
  refine lv_eqi (v := 18) (by decide) ?_
  refine lv_iload hx hb dX5_layMinors_90 (lv_at hl 0 rfl) ?_
  refine lv_iadd hx hb dX5_layMinors_92 ?_
  refine lv_eqi (v := 18) (by decide) ?_
  refine ld_l hx hb hK.1 hP 1 1 rfl rfl (ix_lit (by decide)) 18 (by decide) (v := fr 18) rfl dX5_layMinors_93 ?_
  refine lv_aload_n hx hb dX5_layMinors_94 rfl (lv_at hl 4 rfl) ?_
  refine va_get (D := D) (ci := 5) (v := .ref mD) (C := RX5) (T := TX5) (N := 17) hx hb hts k_2 hown hK.1 hP 0 rfl rfl 6 (by decide) k_1 (fun _ h9 => h9) rfl dX5_layMinors_95 ?_
  refine lv_iload_n hx hb dX5_layMinors_98 rfl (lv_at hl 5 rfl) ?_
  refine lv_iconst (v := 1) hx hb dX5_layMinors_99 (by decide) ?_
  refine lv_iload hx hb dX5_layMinors_100 (lv_at hl 0 rfl) ?_
  refine lv_ishl hx hb dX5_layMinors_102 ?_
  refine lv_eqi (v := 1) (by decide) ?_
  refine lv_isub hx hb dX5_layMinors_103 ?_
  refine lv_eqi (v := 38) (by decide) ?_
  refine ld_l hx hb hK.1 hP 2 1 rfl rfl (ix_lit (by decide)) 38 (by decide) (v := z5_mw38 fr) rfl dX5_layMinors_104 ?_
  refine lv_lmul hx hb dX5_layMinors_105 ?_
  refine lv_lstore (lv' := [(7, .long ((fr 18) * (z5_mw38 fr))), (6, .int 0), (5, .int 3), (3, .long 0), (2, .int 3), (0, .ref o), (1, .int 39)]) hx hb dX5_layMinors_106 hl (by decide) rfl (fun ls hl => ?_)
  refine lv_lload_n hx hb dX5_layMinors_108 rfl (lv_at hl 3 rfl) ?_
  refine lv_iload hx hb dX5_layMinors_109 (lv_at hl 2 rfl) ?_
  refine lv_iconst (v := 2) hx hb dX5_layMinors_111 (by decide) ?_
  refine lv_irem hx hb dX5_layMinors_112 (by decide) ?_
  refine lv_eqi (v := 1) (by decide) ?_
  refine lv_if_ne (tgt := 121) hx hb dX5_layMinors_113 (by decide) (fun _ => ?_) (fun h => absurd h (by decide))
  refine lv_lload hx hb dX5_layMinors_121 (lv_at hl 0 rfl) ?_
  refine lv_lneg hx hb dX5_layMinors_123 ?_
  refine lv_ladd hx hb dX5_layMinors_124 ?_
  refine lv_lstore_n (lv' := [(3, .long (0 + (-((fr 18) * (z5_mw38 fr))))), (7, .long ((fr 18) * (z5_mw38 fr))), (6, .int 0), (5, .int 3), (2, .int 3), (0, .ref o), (1, .int 39)]) hx hb dX5_layMinors_125 rfl hl (by decide) rfl (fun ls hl => ?_)
  refine lv_iinc (v := 2) (lv' := [(5, .int 2), (3, .long (0 + (-((fr 18) * (z5_mw38 fr))))), (7, .long ((fr 18) * (z5_mw38 fr))), (6, .int 0), (2, .int 3), (0, .ref o), (1, .int 39)]) hx hb dX5_layMinors_126 hl (k := 3) rfl (by decide) (by decide) rfl (fun ls hl => ?_)
  refine lv_iinc (v := 1) (lv' := [(6, .int 1), (5, .int 2), (3, .long (0 + (-((fr 18) * (z5_mw38 fr))))), (7, .long ((fr 18) * (z5_mw38 fr))), (2, .int 3), (0, .ref o), (1, .int 39)]) hx hb dX5_layMinors_129 hl (k := 3) rfl (by decide) (by decide) rfl (fun ls hl => ?_)
  refine lv_goto (tgt := 60) hx hb dX5_layMinors_132 (by decide) ?_
  refine lv_iload hx hb dX5_layMinors_60 (lv_at hl 0 rfl) ?_
  refine lv_bipush (v := 6) hx hb dX5_layMinors_62 (by decide) ?_
  refine lv_icmp_ge (tgt := 135) hx hb dX5_layMinors_64 (by decide) (fun h => absurd h (by decide)) (fun _ => ?_)
  refine lv_iload_n hx hb dX5_layMinors_67 rfl (lv_at hl 4 rfl) ?_
  refine lv_iconst (v := 5) hx hb dX5_layMinors_68 (by decide) ?_
  refine lv_icmp_ge (tgt := 135) hx hb dX5_layMinors_69 (by decide) (fun h => absurd h (by decide)) (fun _ => ?_)
  refine lv_iload_n hx hb dX5_layMinors_72 rfl (lv_at hl 6 rfl) ?_
  refine lv_iload hx hb dX5_layMinors_73 (lv_at hl 0 rfl) ?_
  refine lv_ishr hx hb dX5_layMinors_75 ?_
  refine lv_eqi (v := 19) (by decide) ?_
  refine lv_iconst (v := 1) hx hb dX5_layMinors_76 (by decide) ?_
  refine lv_iand hx hb dX5_layMinors_77 ?_
  refine lv_eqi (v := 1) (by decide) ?_
  refine lv_iconst (v := 1) hx hb dX5_layMinors_78 (by decide) ?_
  refine lv_icmp_ne (tgt := 129) hx hb dX5_layMinors_79 (by decide) (fun h => absurd (by decide) h) (fun _ => ?_)
  refine lv_aload_n hx hb dX5_layMinors_82 rfl (lv_at hl 5 rfl) ?_
  refine va_get (D := D) (ci := 5) (v := .ref mR) (C := RX5) (T := TX5) (N := 17) hx hb hts k_2 hown hK.1 hP 0 rfl rfl 5 (by decide) k_4 (fun _ h9 => h9) rfl dX5_layMinors_83 ?_
  refine lv_bipush (v := 6) hx hb dX5_layMinors_86 (by decide) ?_
  refine lv_iload_n hx hb dX5_layMinors_88 rfl (lv_at hl 4 rfl) ?_
  refine lv_imul hx hb dX5_layMinors_89 ?_
  refine lv_eqi (v := 18) (by decide) ?_
  refine lv_iload hx hb dX5_layMinors_90 (lv_at hl 0 rfl) ?_
  refine lv_iadd hx hb dX5_layMinors_92 ?_
  refine lv_eqi (v := 19) (by decide) ?_
  refine ld_l hx hb hK.1 hP 1 1 rfl rfl (ix_lit (by decide)) 19 (by decide) (v := fr 19) rfl dX5_layMinors_93 ?_
  refine lv_aload_n hx hb dX5_layMinors_94 rfl (lv_at hl 5 rfl) ?_
  refine va_get (D := D) (ci := 5) (v := .ref mD) (C := RX5) (T := TX5) (N := 17) hx hb hts k_2 hown hK.1 hP 0 rfl rfl 6 (by decide) k_1 (fun _ h9 => h9) rfl dX5_layMinors_95 ?_
  refine lv_iload_n hx hb dX5_layMinors_98 rfl (lv_at hl 6 rfl) ?_
  refine lv_iconst (v := 1) hx hb dX5_layMinors_99 (by decide) ?_
  refine lv_iload hx hb dX5_layMinors_100 (lv_at hl 0 rfl) ?_
  refine lv_ishl hx hb dX5_layMinors_102 ?_
  refine lv_eqi (v := 2) (by decide) ?_
  refine lv_isub hx hb dX5_layMinors_103 ?_
  refine lv_eqi (v := 37) (by decide) ?_
  refine ld_l hx hb hK.1 hP 2 1 rfl rfl (ix_lit (by decide)) 37 (by decide) (v := z5_mw37 fr) rfl dX5_layMinors_104 ?_
  refine lv_lmul hx hb dX5_layMinors_105 ?_
  refine lv_lstore (lv' := [(7, .long ((fr 19) * (z5_mw37 fr))), (6, .int 1), (5, .int 2), (3, .long (0 + (-((fr 18) * (z5_mw38 fr))))), (2, .int 3), (0, .ref o), (1, .int 39)]) hx hb dX5_layMinors_106 hl (by decide) rfl (fun ls hl => ?_)
  refine lv_lload_n hx hb dX5_layMinors_108 rfl (lv_at hl 3 rfl) ?_
  refine lv_iload hx hb dX5_layMinors_109 (lv_at hl 2 rfl) ?_
  refine lv_iconst (v := 2) hx hb dX5_layMinors_111 (by decide) ?_
  refine lv_irem hx hb dX5_layMinors_112 (by decide) ?_
  refine lv_eqi (v := 0) (by decide) ?_
  refine lv_if_ne (tgt := 121) hx hb dX5_layMinors_113 (by decide) (fun h => absurd (by decide) h) (fun _ => ?_)
  refine lv_lload hx hb dX5_layMinors_116 (lv_at hl 0 rfl) ?_
  refine lv_goto (tgt := 124) hx hb dX5_layMinors_118 (by decide) ?_
  refine lv_ladd hx hb dX5_layMinors_124 ?_
  refine lv_lstore_n (lv' := [(3, .long ((0 + (-((fr 18) * (z5_mw38 fr)))) + ((fr 19) * (z5_mw37 fr)))), (7, .long ((fr 19) * (z5_mw37 fr))), (6, .int 1), (5, .int 2), (2, .int 3), (0, .ref o), (1, .int 39)]) hx hb dX5_layMinors_125 rfl hl (by decide) rfl (fun ls hl => ?_)
  refine lv_iinc (v := 1) (lv' := [(5, .int 1), (3, .long ((0 + (-((fr 18) * (z5_mw38 fr)))) + ((fr 19) * (z5_mw37 fr)))), (7, .long ((fr 19) * (z5_mw37 fr))), (6, .int 1), (2, .int 3), (0, .ref o), (1, .int 39)]) hx hb dX5_layMinors_126 hl (k := 3) rfl (by decide) (by decide) rfl (fun ls hl => ?_)
  refine lv_iinc (v := 2) (lv' := [(6, .int 2), (5, .int 1), (3, .long ((0 + (-((fr 18) * (z5_mw38 fr)))) + ((fr 19) * (z5_mw37 fr)))), (7, .long ((fr 19) * (z5_mw37 fr))), (2, .int 3), (0, .ref o), (1, .int 39)]) hx hb dX5_layMinors_129 hl (k := 3) rfl (by decide) (by decide) rfl (fun ls hl => ?_)
  refine lv_goto (tgt := 60) hx hb dX5_layMinors_132 (by decide) ?_
  refine lv_iload hx hb dX5_layMinors_60 (lv_at hl 0 rfl) ?_
  refine lv_bipush (v := 6) hx hb dX5_layMinors_62 (by decide) ?_
  refine lv_icmp_ge (tgt := 135) hx hb dX5_layMinors_64 (by decide) (fun h => absurd h (by decide)) (fun _ => ?_)
  refine lv_iload_n hx hb dX5_layMinors_67 rfl (lv_at hl 4 rfl) ?_
  refine lv_iconst (v := 5) hx hb dX5_layMinors_68 (by decide) ?_
  refine lv_icmp_ge (tgt := 135) hx hb dX5_layMinors_69 (by decide) (fun h => absurd h (by decide)) (fun _ => ?_)
  refine lv_iload_n hx hb dX5_layMinors_72 rfl (lv_at hl 6 rfl) ?_
  refine lv_iload hx hb dX5_layMinors_73 (lv_at hl 0 rfl) ?_
  refine lv_ishr hx hb dX5_layMinors_75 ?_
  refine lv_eqi (v := 9) (by decide) ?_
  refine lv_iconst (v := 1) hx hb dX5_layMinors_76 (by decide) ?_
  refine lv_iand hx hb dX5_layMinors_77 ?_
  refine lv_eqi (v := 1) (by decide) ?_
  refine lv_iconst (v := 1) hx hb dX5_layMinors_78 (by decide) ?_
  refine lv_icmp_ne (tgt := 129) hx hb dX5_layMinors_79 (by decide) (fun h => absurd (by decide) h) (fun _ => ?_)
  refine lv_aload_n hx hb dX5_layMinors_82 rfl (lv_at hl 5 rfl) ?_
  refine va_get (D := D) (ci := 5) (v := .ref mR) (C := RX5) (T := TX5) (N := 17) hx hb hts k_2 hown hK.1 hP 0 rfl rfl 5 (by decide) k_4 (fun _ h9 => h9) rfl dX5_layMinors_83 ?_
  refine lv_bipush (v := 6) hx hb dX5_layMinors_86 (by decide) ?_
  refine lv_iload_n hx hb dX5_layMinors_88 rfl (lv_at hl 4 rfl) ?_
  refine lv_imul hx hb dX5_layMinors_89 ?_
  refine lv_eqi (v := 18) (by decide) ?_
  refine lv_iload hx hb dX5_layMinors_90 (lv_at hl 0 rfl) ?_
  refine lv_iadd hx hb dX5_layMinors_92 ?_
  refine lv_eqi (v := 20) (by decide) ?_
  refine ld_l hx hb hK.1 hP 1 1 rfl rfl (ix_lit (by decide)) 20 (by decide) (v := fr 20) rfl dX5_layMinors_93 ?_
  refine lv_aload_n hx hb dX5_layMinors_94 rfl (lv_at hl 5 rfl) ?_
  refine va_get (D := D) (ci := 5) (v := .ref mD) (C := RX5) (T := TX5) (N := 17) hx hb hts k_2 hown hK.1 hP 0 rfl rfl 6 (by decide) k_1 (fun _ h9 => h9) rfl dX5_layMinors_95 ?_
  refine lv_iload_n hx hb dX5_layMinors_98 rfl (lv_at hl 6 rfl) ?_
  refine lv_iconst (v := 1) hx hb dX5_layMinors_99 (by decide) ?_
  refine lv_iload hx hb dX5_layMinors_100 (lv_at hl 0 rfl) ?_
  refine lv_ishl hx hb dX5_layMinors_102 ?_
  refine lv_eqi (v := 4) (by decide) ?_
  refine lv_isub hx hb dX5_layMinors_103 ?_
  refine lv_eqi (v := 35) (by decide) ?_
  refine ld_l hx hb hK.1 hP 2 1 rfl rfl (ix_lit (by decide)) 35 (by decide) (v := z5_mw35 fr) rfl dX5_layMinors_104 ?_
  refine lv_lmul hx hb dX5_layMinors_105 ?_
  refine lv_lstore (lv' := [(7, .long ((fr 20) * (z5_mw35 fr))), (6, .int 2), (5, .int 1), (3, .long ((0 + (-((fr 18) * (z5_mw38 fr)))) + ((fr 19) * (z5_mw37 fr)))), (2, .int 3), (0, .ref o), (1, .int 39)]) hx hb dX5_layMinors_106 hl (by decide) rfl (fun ls hl => ?_)
  refine lv_lload_n hx hb dX5_layMinors_108 rfl (lv_at hl 3 rfl) ?_
  refine lv_iload hx hb dX5_layMinors_109 (lv_at hl 2 rfl) ?_
  refine lv_iconst (v := 2) hx hb dX5_layMinors_111 (by decide) ?_
  refine lv_irem hx hb dX5_layMinors_112 (by decide) ?_
  refine lv_eqi (v := 1) (by decide) ?_
  refine lv_if_ne (tgt := 121) hx hb dX5_layMinors_113 (by decide) (fun _ => ?_) (fun h => absurd h (by decide))
  refine lv_lload hx hb dX5_layMinors_121 (lv_at hl 0 rfl) ?_
  refine lv_lneg hx hb dX5_layMinors_123 ?_
  refine lv_ladd hx hb dX5_layMinors_124 ?_
  refine lv_lstore_n (lv' := [(3, .long (((0 + (-((fr 18) * (z5_mw38 fr)))) + ((fr 19) * (z5_mw37 fr))) + (-((fr 20) * (z5_mw35 fr))))), (7, .long ((fr 20) * (z5_mw35 fr))), (6, .int 2), (5, .int 1), (2, .int 3), (0, .ref o), (1, .int 39)]) hx hb dX5_layMinors_125 rfl hl (by decide) rfl (fun ls hl => ?_)
  refine lv_iinc (v := 0) (lv' := [(5, .int 0), (3, .long (((0 + (-((fr 18) * (z5_mw38 fr)))) + ((fr 19) * (z5_mw37 fr))) + (-((fr 20) * (z5_mw35 fr))))), (7, .long ((fr 20) * (z5_mw35 fr))), (6, .int 2), (2, .int 3), (0, .ref o), (1, .int 39)]) hx hb dX5_layMinors_126 hl (k := 3) rfl (by decide) (by decide) rfl (fun ls hl => ?_)
  refine lv_iinc (v := 3) (lv' := [(6, .int 3), (5, .int 0), (3, .long (((0 + (-((fr 18) * (z5_mw38 fr)))) + ((fr 19) * (z5_mw37 fr))) + (-((fr 20) * (z5_mw35 fr))))), (7, .long ((fr 20) * (z5_mw35 fr))), (2, .int 3), (0, .ref o), (1, .int 39)]) hx hb dX5_layMinors_129 hl (k := 3) rfl (by decide) (by decide) rfl (fun ls hl => ?_)
  refine lv_goto (tgt := 60) hx hb dX5_layMinors_132 (by decide) ?_
  refine lv_iload hx hb dX5_layMinors_60 (lv_at hl 0 rfl) ?_
  refine lv_bipush (v := 6) hx hb dX5_layMinors_62 (by decide) ?_
  refine lv_icmp_ge (tgt := 135) hx hb dX5_layMinors_64 (by decide) (fun h => absurd h (by decide)) (fun _ => ?_)
  refine lv_iload_n hx hb dX5_layMinors_67 rfl (lv_at hl 4 rfl) ?_
  refine lv_iconst (v := 5) hx hb dX5_layMinors_68 (by decide) ?_
  refine lv_icmp_ge (tgt := 135) hx hb dX5_layMinors_69 (by decide) (fun h => absurd h (by decide)) (fun _ => ?_)
  refine lv_iload_n hx hb dX5_layMinors_72 rfl (lv_at hl 6 rfl) ?_
  refine lv_iload hx hb dX5_layMinors_73 (lv_at hl 0 rfl) ?_
  refine lv_ishr hx hb dX5_layMinors_75 ?_
  refine lv_eqi (v := 4) (by decide) ?_
  refine lv_iconst (v := 1) hx hb dX5_layMinors_76 (by decide) ?_
  refine lv_iand hx hb dX5_layMinors_77 ?_
  refine lv_eqi (v := 0) (by decide) ?_
  refine lv_iconst (v := 1) hx hb dX5_layMinors_78 (by decide) ?_
  refine lv_icmp_ne (tgt := 129) hx hb dX5_layMinors_79 (by decide) (fun _ => ?_) (fun h => absurd h (by decide))
  refine lv_iinc (v := 4) (lv' := [(6, .int 4), (5, .int 0), (3, .long (((0 + (-((fr 18) * (z5_mw38 fr)))) + ((fr 19) * (z5_mw37 fr))) + (-((fr 20) * (z5_mw35 fr))))), (7, .long ((fr 20) * (z5_mw35 fr))), (2, .int 3), (0, .ref o), (1, .int 39)]) hx hb dX5_layMinors_129 hl (k := 0) rfl (by decide) (by decide) rfl (fun ls hl => ?_)
  refine lv_goto (tgt := 60) hx hb dX5_layMinors_132 (by decide) ?_
  refine lv_iload hx hb dX5_layMinors_60 (lv_at hl 0 rfl) ?_
  refine lv_bipush (v := 6) hx hb dX5_layMinors_62 (by decide) ?_
  refine lv_icmp_ge (tgt := 135) hx hb dX5_layMinors_64 (by decide) (fun h => absurd h (by decide)) (fun _ => ?_)
  refine lv_iload_n hx hb dX5_layMinors_67 rfl (lv_at hl 4 rfl) ?_
  refine lv_iconst (v := 5) hx hb dX5_layMinors_68 (by decide) ?_
  refine lv_icmp_ge (tgt := 135) hx hb dX5_layMinors_69 (by decide) (fun h => absurd h (by decide)) (fun _ => ?_)
  refine lv_iload_n hx hb dX5_layMinors_72 rfl (lv_at hl 6 rfl) ?_
  refine lv_iload hx hb dX5_layMinors_73 (lv_at hl 0 rfl) ?_
  refine lv_ishr hx hb dX5_layMinors_75 ?_
  refine lv_eqi (v := 2) (by decide) ?_
  refine lv_iconst (v := 1) hx hb dX5_layMinors_76 (by decide) ?_
  refine lv_iand hx hb dX5_layMinors_77 ?_
  refine lv_eqi (v := 0) (by decide) ?_
  refine lv_iconst (v := 1) hx hb dX5_layMinors_78 (by decide) ?_
  refine lv_icmp_ne (tgt := 129) hx hb dX5_layMinors_79 (by decide) (fun _ => ?_) (fun h => absurd h (by decide))
  refine lv_iinc (v := 5) (lv' := [(6, .int 5), (5, .int 0), (3, .long (((0 + (-((fr 18) * (z5_mw38 fr)))) + ((fr 19) * (z5_mw37 fr))) + (-((fr 20) * (z5_mw35 fr))))), (7, .long ((fr 20) * (z5_mw35 fr))), (2, .int 3), (0, .ref o), (1, .int 39)]) hx hb dX5_layMinors_129 hl (k := 0) rfl (by decide) (by decide) rfl (fun ls hl => ?_)
  refine lv_goto (tgt := 60) hx hb dX5_layMinors_132 (by decide) ?_
  refine lv_iload hx hb dX5_layMinors_60 (lv_at hl 0 rfl) ?_
  refine lv_bipush (v := 6) hx hb dX5_layMinors_62 (by decide) ?_
  refine lv_icmp_ge (tgt := 135) hx hb dX5_layMinors_64 (by decide) (fun h => absurd h (by decide)) (fun _ => ?_)
  refine lv_iload_n hx hb dX5_layMinors_67 rfl (lv_at hl 4 rfl) ?_
  refine lv_iconst (v := 5) hx hb dX5_layMinors_68 (by decide) ?_
  refine lv_icmp_ge (tgt := 135) hx hb dX5_layMinors_69 (by decide) (fun h => absurd h (by decide)) (fun _ => ?_)
  refine lv_iload_n hx hb dX5_layMinors_72 rfl (lv_at hl 6 rfl) ?_
  refine lv_iload hx hb dX5_layMinors_73 (lv_at hl 0 rfl) ?_
  refine lv_ishr hx hb dX5_layMinors_75 ?_
  refine lv_eqi (v := 1) (by decide) ?_
  refine lv_iconst (v := 1) hx hb dX5_layMinors_76 (by decide) ?_
  refine lv_iand hx hb dX5_layMinors_77 ?_
  refine lv_eqi (v := 1) (by decide) ?_
  refine lv_iconst (v := 1) hx hb dX5_layMinors_78 (by decide) ?_
  refine lv_icmp_ne (tgt := 129) hx hb dX5_layMinors_79 (by decide) (fun h => absurd (by decide) h) (fun _ => ?_)
  refine lv_aload_n hx hb dX5_layMinors_82 rfl (lv_at hl 5 rfl) ?_
  refine va_get (D := D) (ci := 5) (v := .ref mR) (C := RX5) (T := TX5) (N := 17) hx hb hts k_2 hown hK.1 hP 0 rfl rfl 5 (by decide) k_4 (fun _ h9 => h9) rfl dX5_layMinors_83 ?_
  refine lv_bipush (v := 6) hx hb dX5_layMinors_86 (by decide) ?_
  refine lv_iload_n hx hb dX5_layMinors_88 rfl (lv_at hl 4 rfl) ?_
  refine lv_imul hx hb dX5_layMinors_89 ?_
  refine lv_eqi (v := 18) (by decide) ?_
  refine lv_iload hx hb dX5_layMinors_90 (lv_at hl 0 rfl) ?_
  refine lv_iadd hx hb dX5_layMinors_92 ?_
  refine lv_eqi (v := 23) (by decide) ?_
  refine ld_l hx hb hK.1 hP 1 1 rfl rfl (ix_lit (by decide)) 23 (by decide) (v := fr 23) rfl dX5_layMinors_93 ?_
  refine lv_aload_n hx hb dX5_layMinors_94 rfl (lv_at hl 5 rfl) ?_
  refine va_get (D := D) (ci := 5) (v := .ref mD) (C := RX5) (T := TX5) (N := 17) hx hb hts k_2 hown hK.1 hP 0 rfl rfl 6 (by decide) k_1 (fun _ h9 => h9) rfl dX5_layMinors_95 ?_
  refine lv_iload_n hx hb dX5_layMinors_98 rfl (lv_at hl 6 rfl) ?_
  refine lv_iconst (v := 1) hx hb dX5_layMinors_99 (by decide) ?_
  refine lv_iload hx hb dX5_layMinors_100 (lv_at hl 0 rfl) ?_
  refine lv_ishl hx hb dX5_layMinors_102 ?_
  refine lv_eqi (v := 32) (by decide) ?_
  refine lv_isub hx hb dX5_layMinors_103 ?_
  refine lv_eqi (v := 7) (by decide) ?_
  refine ld_l hx hb hK.1 hP 2 1 rfl rfl (ix_lit (by decide)) 7 (by decide) (v := z5_mw7 fr) rfl dX5_layMinors_104 ?_
  refine lv_lmul hx hb dX5_layMinors_105 ?_
  refine lv_lstore (lv' := [(7, .long ((fr 23) * (z5_mw7 fr))), (6, .int 5), (5, .int 0), (3, .long (((0 + (-((fr 18) * (z5_mw38 fr)))) + ((fr 19) * (z5_mw37 fr))) + (-((fr 20) * (z5_mw35 fr))))), (2, .int 3), (0, .ref o), (1, .int 39)]) hx hb dX5_layMinors_106 hl (by decide) rfl (fun ls hl => ?_)
  refine lv_lload_n hx hb dX5_layMinors_108 rfl (lv_at hl 3 rfl) ?_
  refine lv_iload hx hb dX5_layMinors_109 (lv_at hl 2 rfl) ?_
  refine lv_iconst (v := 2) hx hb dX5_layMinors_111 (by decide) ?_
  refine lv_irem hx hb dX5_layMinors_112 (by decide) ?_
  refine lv_eqi (v := 0) (by decide) ?_
  refine lv_if_ne (tgt := 121) hx hb dX5_layMinors_113 (by decide) (fun h => absurd (by decide) h) (fun _ => ?_)
  refine lv_lload hx hb dX5_layMinors_116 (lv_at hl 0 rfl) ?_
  refine lv_goto (tgt := 124) hx hb dX5_layMinors_118 (by decide) ?_
  refine lv_ladd hx hb dX5_layMinors_124 ?_
  refine lv_lstore_n (lv' := [(3, .long ((((0 + (-((fr 18) * (z5_mw38 fr)))) + ((fr 19) * (z5_mw37 fr))) + (-((fr 20) * (z5_mw35 fr)))) + ((fr 23) * (z5_mw7 fr)))), (7, .long ((fr 23) * (z5_mw7 fr))), (6, .int 5), (5, .int 0), (2, .int 3), (0, .ref o), (1, .int 39)]) hx hb dX5_layMinors_125 rfl hl (by decide) rfl (fun ls hl => ?_)
  refine lv_iinc (v := (-1)) (lv' := [(5, .int (-1)), (3, .long ((((0 + (-((fr 18) * (z5_mw38 fr)))) + ((fr 19) * (z5_mw37 fr))) + (-((fr 20) * (z5_mw35 fr)))) + ((fr 23) * (z5_mw7 fr)))), (7, .long ((fr 23) * (z5_mw7 fr))), (6, .int 5), (2, .int 3), (0, .ref o), (1, .int 39)]) hx hb dX5_layMinors_126 hl (k := 3) rfl (by decide) (by decide) rfl (fun ls hl => ?_)
  refine lv_iinc (v := 6) (lv' := [(6, .int 6), (5, .int (-1)), (3, .long ((((0 + (-((fr 18) * (z5_mw38 fr)))) + ((fr 19) * (z5_mw37 fr))) + (-((fr 20) * (z5_mw35 fr)))) + ((fr 23) * (z5_mw7 fr)))), (7, .long ((fr 23) * (z5_mw7 fr))), (2, .int 3), (0, .ref o), (1, .int 39)]) hx hb dX5_layMinors_129 hl (k := 3) rfl (by decide) (by decide) rfl (fun ls hl => ?_)
  refine lv_goto (tgt := 60) hx hb dX5_layMinors_132 (by decide) ?_
  refine lv_iload hx hb dX5_layMinors_60 (lv_at hl 0 rfl) ?_
  refine lv_bipush (v := 6) hx hb dX5_layMinors_62 (by decide) ?_
  refine lv_icmp_ge (tgt := 135) hx hb dX5_layMinors_64 (by decide) (fun _ => ?_) (fun h => absurd (by decide) h)
  refine lv_aload_n hx hb dX5_layMinors_135 rfl (lv_at hl 5 rfl) ?_
  refine va_get (D := D) (ci := 5) (v := .ref mD) (C := RX5) (T := TX5) (N := 17) hx hb hts k_2 hown hK.1 hP 0 rfl rfl 6 (by decide) k_1 (fun _ h9 => h9) rfl dX5_layMinors_136 ?_
  refine lv_iload_n hx hb dX5_layMinors_139 rfl (lv_at hl 6 rfl) ?_
  refine lv_lload_n hx hb dX5_layMinors_140 rfl (lv_at hl 2 rfl) ?_
  refine st_l hx hb hK.1 hP hD hS 2 1 rfl rfl (ix_lit (by decide)) 39 (by decide) dX5_layMinors_141 (fun H locs hP hD hS => ?_)
  have hP : va_P D vwCl [kM o mP mL mC mN mF mR mD mV mX mA mK cm mT pm mU mH mI, kJ mR cJ 30 fr, kJ mD cJ 64 (vp_updL (z5_mm39 fr fd) 39 ((((0 + (-((fr 18) * (z5_mw38 fr)))) + ((fr 19) * (z5_mw37 fr))) + (-((fr 20) * (z5_mw35 fr)))) + ((fr 23) * (z5_mw7 fr))))] H := hP
  have hD : va_D A [kM o mP mL mC mN mF mR mD mV mX mA mK cm mT pm mU mH mI, kJ mR cJ 30 fr, kJ mD cJ 64 (vp_updL (z5_mm39 fr fd) 39 ((((0 + (-((fr 18) * (z5_mw38 fr)))) + ((fr 19) * (z5_mw37 fr))) + (-((fr 20) * (z5_mw35 fr)))) + ((fr 23) * (z5_mw7 fr))))] := hD
  have hP : va_P D vwCl [kM o mP mL mC mN mF mR mD mV mX mA mK cm mT pm mU mH mI, kJ mR cJ 30 fr, kJ mD cJ 64 (z5_mm40 fr fd)] H := hP
  have hD : va_D A [kM o mP mL mC mN mF mR mD mV mX mA mK cm mT pm mU mH mI, kJ mR cJ 30 fr, kJ mD cJ 64 (z5_mm40 fr fd)] := hD
  refine lv_iinc (v := 40) (lv' := [(1, .int 40), (6, .int 6), (5, .int (-1)), (3, .long ((((0 + (-((fr 18) * (z5_mw38 fr)))) + ((fr 19) * (z5_mw37 fr))) + (-((fr 20) * (z5_mw35 fr)))) + ((fr 23) * (z5_mw7 fr)))), (7, .long ((fr 23) * (z5_mw7 fr))), (2, .int 3), (0, .ref o)]) hx hb dX5_layMinors_142 hl (k := 6) rfl (by decide) (by decide) rfl (fun ls hl => ?_)
  refine lv_goto (tgt := 9) hx hb dX5_layMinors_145 (by decide) ?_
  exact sg_X5_layMinors_40 hx hb hr hml hown hts hlk hK hA hP hD hS ls (lv_sub hl [6, 0] rfl)
set_option maxHeartbeats 4000000 in
set_option maxRecDepth 100000 in
theorem sg_X5_layMinors_38 {l : Launch} {D : va_G} {cI cJ : ClassId} {pG : Program} {eG : Env} {sG : State} {mG : MethodId} {below : List Frame} {meth : Method} {cG : Code} {A : Nat → Prop} {H : Heap} {locs : List Loc} {o : Nat} {mP : Nat} {mL : Nat} {mC : Nat} {mN : Nat} {mF : Nat} {mR : Nat} {mD : Nat} {mV : Nat} {mX : Nat} {mA : Nat} {mK : Nat} {mT : Nat} {mU : Nat} {mH : Nat} {mI : Nat} {cm : Int32} {pm : Int32} {fr : Nat → Int64} {fd : Nat → Int64} (hx : pG.tables.exec = Jvm.exec) (hb : cG.code = cX5_layMinors) (hr : meth.sig.returnType = none) (hml : cG.maxLocals = 9) (hown : sG.vm.findClass RX5 = some mG.cls) (hts : ∀ x ∈ wsX5_layMinors, x.before ([.ref o] : List Value).toArray sG = true) (hlk : meth.locks = false) (hK : gd_K D cI cJ sG) (hA : ∀ q : Nat, sG.heap.size ≤ q → A q) (hP : va_P D vwCl [kM o mP mL mC mN mF mR mD mV mX mA mK cm mT pm mU mH mI, kJ mR cJ 30 fr, kJ mD cJ 64 (z5_mm38 fr fd)] H) (hD : va_D A [kM o mP mL mC mN mF mR mD mV mX mA mK cm mT pm mU mH mI, kJ mR cJ 30 fr, kJ mD cJ 64 (z5_mm38 fr fd)]) (hS : va_S A sG.heap H locs) (ls : Array Slot) (hl : lv_has ls 9 [(0, .ref o), (1, .int 38)]) : W pG l eG (headSpec wsX5_layMinors ({ frames := 0, cells := 0, slots := 0, locals := 0 })).room sG mG ([.ref o] : List Value).toArray below meth cG H locs 0 0 (MQ below ((qe_v (fun _ : Unit => True) (fun uu => [kM o mP mL mC mN mF mR mD mV mX mA mK cm mT pm mU mH mI, kJ mR cJ 30 fr, kJ mD cJ 64 (z5_layMinors_f2 fr fd)])) D A) ([.ref o] : List Value).toArray sG 0 0 A) (F0 mG 9 ls []) := by
  have k_1 := hts (.fieldLink RX5 29 "ConicRowsModel" "minors" "[J") (by decide +kernel)
  have k_2 : ∀ w ∈ wsX50, w ∈ wsX5_layMinors := by decide +kernel
  have k_3 := hts (.constant RX5 122 (-1000001)) (by decide +kernel)
  have k_4 := hts (.fieldLink RX5 26 "ConicRowsModel" "rows" "[J") (by decide +kernel)
  refine lv_iload_n hx hb dX5_layMinors_9 rfl (lv_at hl 1 rfl) ?_
  refine lv_bipush (v := 64) hx hb dX5_layMinors_10 (by decide) ?_
  refine lv_icmp_ge (tgt := 148) hx hb dX5_layMinors_12 (by decide) (fun h => absurd h (by decide)) (fun _ => ?_)
  refine lv_ldc hx hb hown k_3 dX5_layMinors_15 ?_
  refine lv_istore_n (lv' := [(2, .int (-1000001)), (0, .ref o), (1, .int 38)]) hx hb dX5_layMinors_17 rfl hl (by decide) rfl (fun ls hl => ?_)
  refine lv_iconst (v := 0) hx hb dX5_layMinors_18 (by decide) ?_
  refine lv_istore_n (lv' := [(3, .int 0), (2, .int (-1000001)), (0, .ref o), (1, .int 38)]) hx hb dX5_layMinors_19 rfl hl (by decide) rfl (fun ls hl => ?_)
  refine lv_iload_n hx hb dX5_layMinors_20 rfl (lv_at hl 0 rfl) ?_
  refine lv_bipush (v := 6) hx hb dX5_layMinors_21 (by decide) ?_
  refine lv_icmp_ge (tgt := 52) hx hb dX5_layMinors_23 (by decide) (fun h => absurd h (by decide)) (fun _ => ?_)
  refine lv_iload_n hx hb dX5_layMinors_26 rfl (lv_at hl 1 rfl) ?_
  refine lv_ldc hx hb hown k_3 dX5_layMinors_27 ?_
  refine lv_icmp_ne (tgt := 36) hx hb dX5_layMinors_29 (by decide) (fun h => absurd (by decide) h) (fun _ => ?_)
  refine lv_iconst (v := (-1)) hx hb dX5_layMinors_32 (by decide) ?_
  refine lv_goto (tgt := 37) hx hb dX5_layMinors_33 (by decide) ?_
  refine lv_istore_n (lv' := [(2, .int (-1)), (3, .int 0), (0, .ref o), (1, .int 38)]) hx hb dX5_layMinors_37 rfl hl (by decide) rfl (fun ls hl => ?_)
  refine lv_iload_n hx hb dX5_layMinors_38 rfl (lv_at hl 0 rfl) ?_
  refine lv_iload_n hx hb dX5_layMinors_39 rfl (lv_at hl 3 rfl) ?_
  refine lv_iload_n hx hb dX5_layMinors_40 rfl (lv_at hl 1 rfl) ?_
  refine lv_ishr hx hb dX5_layMinors_41 ?_
  refine lv_eqi (v := 38) (by decide) ?_
  refine lv_iconst (v := 1) hx hb dX5_layMinors_42 (by decide) ?_
  refine lv_iand hx hb dX5_layMinors_43 ?_
  refine lv_eqi (v := 0) (by decide) ?_
  refine lv_iadd hx hb dX5_layMinors_44 ?_
  refine lv_eqi (v := (-1)) (by decide) ?_
  refine lv_istore_n (lv' := [(2, .int (-1)), (3, .int 0), (0, .ref o), (1, .int 38)]) hx hb dX5_layMinors_45 rfl hl (by decide) rfl (fun ls hl => ?_)
  refine lv_iinc (v := 1) (lv' := [(3, .int 1), (2, .int (-1)), (0, .ref o), (1, .int 38)]) hx hb dX5_layMinors_46 hl (k := 1) rfl (by decide) (by decide) rfl (fun ls hl => ?_)
  refine lv_goto (tgt := 20) hx hb dX5_layMinors_49 (by decide) ?_
  refine lv_iload_n hx hb dX5_layMinors_20 rfl (lv_at hl 0 rfl) ?_
  refine lv_bipush (v := 6) hx hb dX5_layMinors_21 (by decide) ?_
  refine lv_icmp_ge (tgt := 52) hx hb dX5_layMinors_23 (by decide) (fun h => absurd h (by decide)) (fun _ => ?_)
  refine lv_iload_n hx hb dX5_layMinors_26 rfl (lv_at hl 1 rfl) ?_
  refine lv_ldc hx hb hown k_3 dX5_layMinors_27 ?_
  refine lv_icmp_ne (tgt := 36) hx hb dX5_layMinors_29 (by decide) (fun _ => ?_) (fun h => absurd h (by decide))
  refine lv_iload_n hx hb dX5_layMinors_36 rfl (lv_at hl 1 rfl) ?_
  refine lv_istore_n (lv' := [(2, .int (-1)), (3, .int 1), (0, .ref o), (1, .int 38)]) hx hb dX5_layMinors_37 rfl hl (by decide) rfl (fun ls hl => ?_)
  refine lv_iload_n hx hb dX5_layMinors_38 rfl (lv_at hl 0 rfl) ?_
  refine lv_iload_n hx hb dX5_layMinors_39 rfl (lv_at hl 3 rfl) ?_
  refine lv_iload_n hx hb dX5_layMinors_40 rfl (lv_at hl 1 rfl) ?_
  refine lv_ishr hx hb dX5_layMinors_41 ?_
  refine lv_eqi (v := 19) (by decide) ?_
  refine lv_iconst (v := 1) hx hb dX5_layMinors_42 (by decide) ?_
  refine lv_iand hx hb dX5_layMinors_43 ?_
  refine lv_eqi (v := 1) (by decide) ?_
  refine lv_iadd hx hb dX5_layMinors_44 ?_
  refine lv_eqi (v := 0) (by decide) ?_
  refine lv_istore_n (lv' := [(2, .int 0), (3, .int 1), (0, .ref o), (1, .int 38)]) hx hb dX5_layMinors_45 rfl hl (by decide) rfl (fun ls hl => ?_)
  refine lv_iinc (v := 2) (lv' := [(3, .int 2), (2, .int 0), (0, .ref o), (1, .int 38)]) hx hb dX5_layMinors_46 hl (k := 1) rfl (by decide) (by decide) rfl (fun ls hl => ?_)
  refine lv_goto (tgt := 20) hx hb dX5_layMinors_49 (by decide) ?_
  refine lv_iload_n hx hb dX5_layMinors_20 rfl (lv_at hl 0 rfl) ?_
  refine lv_bipush (v := 6) hx hb dX5_layMinors_21 (by decide) ?_
  refine lv_icmp_ge (tgt := 52) hx hb dX5_layMinors_23 (by decide) (fun h => absurd h (by decide)) (fun _ => ?_)
  refine lv_iload_n hx hb dX5_layMinors_26 rfl (lv_at hl 1 rfl) ?_
  refine lv_ldc hx hb hown k_3 dX5_layMinors_27 ?_
  refine lv_icmp_ne (tgt := 36) hx hb dX5_layMinors_29 (by decide) (fun _ => ?_) (fun h => absurd h (by decide))
  refine lv_iload_n hx hb dX5_layMinors_36 rfl (lv_at hl 1 rfl) ?_
  refine lv_istore_n (lv' := [(2, .int 0), (3, .int 2), (0, .ref o), (1, .int 38)]) hx hb dX5_layMinors_37 rfl hl (by decide) rfl (fun ls hl => ?_)
  refine lv_iload_n hx hb dX5_layMinors_38 rfl (lv_at hl 0 rfl) ?_
  refine lv_iload_n hx hb dX5_layMinors_39 rfl (lv_at hl 3 rfl) ?_
  refine lv_iload_n hx hb dX5_layMinors_40 rfl (lv_at hl 1 rfl) ?_
  refine lv_ishr hx hb dX5_layMinors_41 ?_
  refine lv_eqi (v := 9) (by decide) ?_
  refine lv_iconst (v := 1) hx hb dX5_layMinors_42 (by decide) ?_
  refine lv_iand hx hb dX5_layMinors_43 ?_
  refine lv_eqi (v := 1) (by decide) ?_
  refine lv_iadd hx hb dX5_layMinors_44 ?_
  refine lv_eqi (v := 1) (by decide) ?_
  refine lv_istore_n (lv' := [(2, .int 1), (3, .int 2), (0, .ref o), (1, .int 38)]) hx hb dX5_layMinors_45 rfl hl (by decide) rfl (fun ls hl => ?_)
  refine lv_iinc (v := 3) (lv' := [(3, .int 3), (2, .int 1), (0, .ref o), (1, .int 38)]) hx hb dX5_layMinors_46 hl (k := 1) rfl (by decide) (by decide) rfl (fun ls hl => ?_)
  refine lv_goto (tgt := 20) hx hb dX5_layMinors_49 (by decide) ?_
  refine lv_iload_n hx hb dX5_layMinors_20 rfl (lv_at hl 0 rfl) ?_
  refine lv_bipush (v := 6) hx hb dX5_layMinors_21 (by decide) ?_
  refine lv_icmp_ge (tgt := 52) hx hb dX5_layMinors_23 (by decide) (fun h => absurd h (by decide)) (fun _ => ?_)
  refine lv_iload_n hx hb dX5_layMinors_26 rfl (lv_at hl 1 rfl) ?_
  refine lv_ldc hx hb hown k_3 dX5_layMinors_27 ?_
  refine lv_icmp_ne (tgt := 36) hx hb dX5_layMinors_29 (by decide) (fun _ => ?_) (fun h => absurd h (by decide))
  refine lv_iload_n hx hb dX5_layMinors_36 rfl (lv_at hl 1 rfl) ?_
  refine lv_istore_n (lv' := [(2, .int 1), (3, .int 3), (0, .ref o), (1, .int 38)]) hx hb dX5_layMinors_37 rfl hl (by decide) rfl (fun ls hl => ?_)
  refine lv_iload_n hx hb dX5_layMinors_38 rfl (lv_at hl 0 rfl) ?_
  refine lv_iload_n hx hb dX5_layMinors_39 rfl (lv_at hl 3 rfl) ?_
  refine lv_iload_n hx hb dX5_layMinors_40 rfl (lv_at hl 1 rfl) ?_
  refine lv_ishr hx hb dX5_layMinors_41 ?_
  refine lv_eqi (v := 4) (by decide) ?_
  refine lv_iconst (v := 1) hx hb dX5_layMinors_42 (by decide) ?_
  refine lv_iand hx hb dX5_layMinors_43 ?_
  refine lv_eqi (v := 0) (by decide) ?_
  refine lv_iadd hx hb dX5_layMinors_44 ?_
  refine lv_eqi (v := 1) (by decide) ?_
  refine lv_istore_n (lv' := [(2, .int 1), (3, .int 3), (0, .ref o), (1, .int 38)]) hx hb dX5_layMinors_45 rfl hl (by decide) rfl (fun ls hl => ?_)
  refine lv_iinc (v := 4) (lv' := [(3, .int 4), (2, .int 1), (0, .ref o), (1, .int 38)]) hx hb dX5_layMinors_46 hl (k := 1) rfl (by decide) (by decide) rfl (fun ls hl => ?_)
  refine lv_goto (tgt := 20) hx hb dX5_layMinors_49 (by decide) ?_
  refine lv_iload_n hx hb dX5_layMinors_20 rfl (lv_at hl 0 rfl) ?_
  refine lv_bipush (v := 6) hx hb dX5_layMinors_21 (by decide) ?_
  refine lv_icmp_ge (tgt := 52) hx hb dX5_layMinors_23 (by decide) (fun h => absurd h (by decide)) (fun _ => ?_)
  refine lv_iload_n hx hb dX5_layMinors_26 rfl (lv_at hl 1 rfl) ?_
  refine lv_ldc hx hb hown k_3 dX5_layMinors_27 ?_
  refine lv_icmp_ne (tgt := 36) hx hb dX5_layMinors_29 (by decide) (fun _ => ?_) (fun h => absurd h (by decide))
  refine lv_iload_n hx hb dX5_layMinors_36 rfl (lv_at hl 1 rfl) ?_
  refine lv_istore_n (lv' := [(2, .int 1), (3, .int 4), (0, .ref o), (1, .int 38)]) hx hb dX5_layMinors_37 rfl hl (by decide) rfl (fun ls hl => ?_)
  refine lv_iload_n hx hb dX5_layMinors_38 rfl (lv_at hl 0 rfl) ?_
  refine lv_iload_n hx hb dX5_layMinors_39 rfl (lv_at hl 3 rfl) ?_
  refine lv_iload_n hx hb dX5_layMinors_40 rfl (lv_at hl 1 rfl) ?_
  refine lv_ishr hx hb dX5_layMinors_41 ?_
  refine lv_eqi (v := 2) (by decide) ?_
  refine lv_iconst (v := 1) hx hb dX5_layMinors_42 (by decide) ?_
  refine lv_iand hx hb dX5_layMinors_43 ?_
  refine lv_eqi (v := 0) (by decide) ?_
  refine lv_iadd hx hb dX5_layMinors_44 ?_
  refine lv_eqi (v := 1) (by decide) ?_
  refine lv_istore_n (lv' := [(2, .int 1), (3, .int 4), (0, .ref o), (1, .int 38)]) hx hb dX5_layMinors_45 rfl hl (by decide) rfl (fun ls hl => ?_)
  refine lv_iinc (v := 5) (lv' := [(3, .int 5), (2, .int 1), (0, .ref o), (1, .int 38)]) hx hb dX5_layMinors_46 hl (k := 1) rfl (by decide) (by decide) rfl (fun ls hl => ?_)
  refine lv_goto (tgt := 20) hx hb dX5_layMinors_49 (by decide) ?_
  refine lv_iload_n hx hb dX5_layMinors_20 rfl (lv_at hl 0 rfl) ?_
  refine lv_bipush (v := 6) hx hb dX5_layMinors_21 (by decide) ?_
  refine lv_icmp_ge (tgt := 52) hx hb dX5_layMinors_23 (by decide) (fun h => absurd h (by decide)) (fun _ => ?_)
  refine lv_iload_n hx hb dX5_layMinors_26 rfl (lv_at hl 1 rfl) ?_
  refine lv_ldc hx hb hown k_3 dX5_layMinors_27 ?_
  refine lv_icmp_ne (tgt := 36) hx hb dX5_layMinors_29 (by decide) (fun _ => ?_) (fun h => absurd h (by decide))
  refine lv_iload_n hx hb dX5_layMinors_36 rfl (lv_at hl 1 rfl) ?_
  refine lv_istore_n (lv' := [(2, .int 1), (3, .int 5), (0, .ref o), (1, .int 38)]) hx hb dX5_layMinors_37 rfl hl (by decide) rfl (fun ls hl => ?_)
  refine lv_iload_n hx hb dX5_layMinors_38 rfl (lv_at hl 0 rfl) ?_
  refine lv_iload_n hx hb dX5_layMinors_39 rfl (lv_at hl 3 rfl) ?_
  refine lv_iload_n hx hb dX5_layMinors_40 rfl (lv_at hl 1 rfl) ?_
  refine lv_ishr hx hb dX5_layMinors_41 ?_
  refine lv_eqi (v := 1) (by decide) ?_
  refine lv_iconst (v := 1) hx hb dX5_layMinors_42 (by decide) ?_
  refine lv_iand hx hb dX5_layMinors_43 ?_
  refine lv_eqi (v := 1) (by decide) ?_
  refine lv_iadd hx hb dX5_layMinors_44 ?_
  refine lv_eqi (v := 2) (by decide) ?_
  refine lv_istore_n (lv' := [(2, .int 2), (3, .int 5), (0, .ref o), (1, .int 38)]) hx hb dX5_layMinors_45 rfl hl (by decide) rfl (fun ls hl => ?_)
  refine lv_iinc (v := 6) (lv' := [(3, .int 6), (2, .int 2), (0, .ref o), (1, .int 38)]) hx hb dX5_layMinors_46 hl (k := 1) rfl (by decide) (by decide) rfl (fun ls hl => ?_)
  refine lv_goto (tgt := 20) hx hb dX5_layMinors_49 (by decide) ?_
  refine lv_iload_n hx hb dX5_layMinors_20 rfl (lv_at hl 0 rfl) ?_
  refine lv_bipush (v := 6) hx hb dX5_layMinors_21 (by decide) ?_
  refine lv_icmp_ge (tgt := 52) hx hb dX5_layMinors_23 (by decide) (fun _ => ?_) (fun h => absurd (by decide) h)
  refine lv_lconst (v := 0) hx hb dX5_layMinors_52 (by decide) ?_
  refine lv_lstore_n (lv' := [(3, .long 0), (2, .int 2), (0, .ref o), (1, .int 38)]) hx hb dX5_layMinors_53 rfl hl (by decide) rfl (fun ls hl => ?_)
  refine lv_iload_n hx hb dX5_layMinors_54 rfl (lv_at hl 1 rfl) ?_
  refine lv_istore (lv' := [(5, .int 2), (3, .long 0), (2, .int 2), (0, .ref o), (1, .int 38)]) hx hb dX5_layMinors_55 hl (by decide) rfl (fun ls hl => ?_)
  refine lv_iconst (v := 0) hx hb dX5_layMinors_57 (by decide) ?_
  refine lv_istore (lv' := [(6, .int 0), (5, .int 2), (3, .long 0), (2, .int 2), (0, .ref o), (1, .int 38)]) hx hb dX5_layMinors_58 hl (by decide) rfl (fun ls hl => ?_)
  refine lv_iload hx hb dX5_layMinors_60 (lv_at hl 0 rfl) ?_
  refine lv_bipush (v := 6) hx hb dX5_layMinors_62 (by decide) ?_
  refine lv_icmp_ge (tgt := 135) hx hb dX5_layMinors_64 (by decide) (fun h => absurd h (by decide)) (fun _ => ?_)
  refine lv_iload_n hx hb dX5_layMinors_67 rfl (lv_at hl 3 rfl) ?_
  refine lv_iconst (v := 5) hx hb dX5_layMinors_68 (by decide) ?_
  refine lv_icmp_ge (tgt := 135) hx hb dX5_layMinors_69 (by decide) (fun h => absurd h (by decide)) (fun _ => ?_)
  refine lv_iload_n hx hb dX5_layMinors_72 rfl (lv_at hl 5 rfl) ?_
  refine lv_iload hx hb dX5_layMinors_73 (lv_at hl 0 rfl) ?_
  refine lv_ishr hx hb dX5_layMinors_75 ?_
  refine lv_eqi (v := 38) (by decide) ?_
  refine lv_iconst (v := 1) hx hb dX5_layMinors_76 (by decide) ?_
  refine lv_iand hx hb dX5_layMinors_77 ?_
  refine lv_eqi (v := 0) (by decide) ?_
  refine lv_iconst (v := 1) hx hb dX5_layMinors_78 (by decide) ?_
  refine lv_icmp_ne (tgt := 129) hx hb dX5_layMinors_79 (by decide) (fun _ => ?_) (fun h => absurd h (by decide))
  refine lv_iinc (v := 1) (lv' := [(6, .int 1), (5, .int 2), (3, .long 0), (2, .int 2), (0, .ref o), (1, .int 38)]) hx hb dX5_layMinors_129 hl (k := 0) rfl (by decide) (by decide) rfl (fun ls hl => ?_)
  refine lv_goto (tgt := 60) hx hb dX5_layMinors_132 (by decide) ?_
  refine lv_iload hx hb dX5_layMinors_60 (lv_at hl 0 rfl) ?_
  refine lv_bipush (v := 6) hx hb dX5_layMinors_62 (by decide) ?_
  refine lv_icmp_ge (tgt := 135) hx hb dX5_layMinors_64 (by decide) (fun h => absurd h (by decide)) (fun _ => ?_)
  refine lv_iload_n hx hb dX5_layMinors_67 rfl (lv_at hl 3 rfl) ?_
  refine lv_iconst (v := 5) hx hb dX5_layMinors_68 (by decide) ?_
  refine lv_icmp_ge (tgt := 135) hx hb dX5_layMinors_69 (by decide) (fun h => absurd h (by decide)) (fun _ => ?_)
  refine lv_iload_n hx hb dX5_layMinors_72 rfl (lv_at hl 5 rfl) ?_
  refine lv_iload hx hb dX5_layMinors_73 (lv_at hl 0 rfl) ?_
  refine lv_ishr hx hb dX5_layMinors_75 ?_
  refine lv_eqi (v := 19) (by decide) ?_
  refine lv_iconst (v := 1) hx hb dX5_layMinors_76 (by decide) ?_
  refine lv_iand hx hb dX5_layMinors_77 ?_
  refine lv_eqi (v := 1) (by decide) ?_
  refine lv_iconst (v := 1) hx hb dX5_layMinors_78 (by decide) ?_
  refine lv_icmp_ne (tgt := 129) hx hb dX5_layMinors_79 (by decide) (fun h => absurd (by decide) h) (fun _ => ?_)
  refine lv_aload_n hx hb dX5_layMinors_82 rfl (lv_at hl 4 rfl) ?_
  refine va_get (D := D) (ci := 5) (v := .ref mR) (C := RX5) (T := TX5) (N := 17) hx hb hts k_2 hown hK.1 hP 0 rfl rfl 5 (by decide) k_4 (fun _ h9 => h9) rfl dX5_layMinors_83 ?_
  refine lv_bipush (v := 6) hx hb dX5_layMinors_86 (by decide) ?_
  refine lv_iload_n hx hb dX5_layMinors_88 rfl (lv_at hl 3 rfl) ?_
  refine lv_imul hx hb dX5_layMinors_89 ?_
  refine lv_eqi (v := 12) (by decide) ?_
  refine lv_iload hx hb dX5_layMinors_90 (lv_at hl 0 rfl) ?_
  refine lv_iadd hx hb dX5_layMinors_92 ?_
  refine lv_eqi (v := 13) (by decide) ?_
  refine ld_l hx hb hK.1 hP 1 1 rfl rfl (ix_lit (by decide)) 13 (by decide) (v := fr 13) rfl dX5_layMinors_93 ?_
  refine lv_aload_n hx hb dX5_layMinors_94 rfl (lv_at hl 4 rfl) ?_
  refine va_get (D := D) (ci := 5) (v := .ref mD) (C := RX5) (T := TX5) (N := 17) hx hb hts k_2 hown hK.1 hP 0 rfl rfl 6 (by decide) k_1 (fun _ h9 => h9) rfl dX5_layMinors_95 ?_
  refine lv_iload_n hx hb dX5_layMinors_98 rfl (lv_at hl 5 rfl) ?_
  refine lv_iconst (v := 1) hx hb dX5_layMinors_99 (by decide) ?_
  refine lv_iload hx hb dX5_layMinors_100 (lv_at hl 0 rfl) ?_
  refine lv_ishl hx hb dX5_layMinors_102 ?_
  refine lv_eqi (v := 2) (by decide) ?_
  refine lv_isub hx hb dX5_layMinors_103 ?_
  refine lv_eqi (v := 36) (by decide) ?_
  refine ld_l hx hb hK.1 hP 2 1 rfl rfl (ix_lit (by decide)) 36 (by decide) (v := z5_mw36 fr) rfl dX5_layMinors_104 ?_
  refine lv_lmul hx hb dX5_layMinors_105 ?_
  refine lv_lstore (lv' := [(7, .long ((fr 13) * (z5_mw36 fr))), (6, .int 1), (5, .int 2), (3, .long 0), (2, .int 2), (0, .ref o), (1, .int 38)]) hx hb dX5_layMinors_106 hl (by decide) rfl (fun ls hl => ?_)
  refine lv_lload_n hx hb dX5_layMinors_108 rfl (lv_at hl 3 rfl) ?_
  refine lv_iload hx hb dX5_layMinors_109 (lv_at hl 2 rfl) ?_
  refine lv_iconst (v := 2) hx hb dX5_layMinors_111 (by decide) ?_
  refine lv_irem hx hb dX5_layMinors_112 (by decide) ?_
  refine lv_eqi (v := 0) (by decide) ?_
  refine lv_if_ne (tgt := 121) hx hb dX5_layMinors_113 (by decide) (fun h => absurd (by decide) h) (fun _ => ?_)
  refine lv_lload hx hb dX5_layMinors_116 (lv_at hl 0 rfl) ?_
  refine lv_goto (tgt := 124) hx hb dX5_layMinors_118 (by decide) ?_
  refine lv_ladd hx hb dX5_layMinors_124 ?_
  refine lv_lstore_n (lv' := [(3, .long (0 + ((fr 13) * (z5_mw36 fr)))), (7, .long ((fr 13) * (z5_mw36 fr))), (6, .int 1), (5, .int 2), (2, .int 2), (0, .ref o), (1, .int 38)]) hx hb dX5_layMinors_125 rfl hl (by decide) rfl (fun ls hl => ?_)
  refine lv_iinc (v := 1) (lv' := [(5, .int 1), (3, .long (0 + ((fr 13) * (z5_mw36 fr)))), (7, .long ((fr 13) * (z5_mw36 fr))), (6, .int 1), (2, .int 2), (0, .ref o), (1, .int 38)]) hx hb dX5_layMinors_126 hl (k := 3) rfl (by decide) (by decide) rfl (fun ls hl => ?_)
  refine lv_iinc (v := 2) (lv' := [(6, .int 2), (5, .int 1), (3, .long (0 + ((fr 13) * (z5_mw36 fr)))), (7, .long ((fr 13) * (z5_mw36 fr))), (2, .int 2), (0, .ref o), (1, .int 38)]) hx hb dX5_layMinors_129 hl (k := 3) rfl (by decide) (by decide) rfl (fun ls hl => ?_)
  refine lv_goto (tgt := 60) hx hb dX5_layMinors_132 (by decide) ?_
  refine lv_iload hx hb dX5_layMinors_60 (lv_at hl 0 rfl) ?_
  refine lv_bipush (v := 6) hx hb dX5_layMinors_62 (by decide) ?_
  refine lv_icmp_ge (tgt := 135) hx hb dX5_layMinors_64 (by decide) (fun h => absurd h (by decide)) (fun _ => ?_)
  refine lv_iload_n hx hb dX5_layMinors_67 rfl (lv_at hl 4 rfl) ?_
  refine lv_iconst (v := 5) hx hb dX5_layMinors_68 (by decide) ?_
  refine lv_icmp_ge (tgt := 135) hx hb dX5_layMinors_69 (by decide) (fun h => absurd h (by decide)) (fun _ => ?_)
  refine lv_iload_n hx hb dX5_layMinors_72 rfl (lv_at hl 6 rfl) ?_
  refine lv_iload hx hb dX5_layMinors_73 (lv_at hl 0 rfl) ?_
  refine lv_ishr hx hb dX5_layMinors_75 ?_
  refine lv_eqi (v := 9) (by decide) ?_
  refine lv_iconst (v := 1) hx hb dX5_layMinors_76 (by decide) ?_
  refine lv_iand hx hb dX5_layMinors_77 ?_
  refine lv_eqi (v := 1) (by decide) ?_
  refine lv_iconst (v := 1) hx hb dX5_layMinors_78 (by decide) ?_
  refine lv_icmp_ne (tgt := 129) hx hb dX5_layMinors_79 (by decide) (fun h => absurd (by decide) h) (fun _ => ?_)
  refine lv_aload_n hx hb dX5_layMinors_82 rfl (lv_at hl 5 rfl) ?_
  refine va_get (D := D) (ci := 5) (v := .ref mR) (C := RX5) (T := TX5) (N := 17) hx hb hts k_2 hown hK.1 hP 0 rfl rfl 5 (by decide) k_4 (fun _ h9 => h9) rfl dX5_layMinors_83 ?_
  refine lv_bipush (v := 6) hx hb dX5_layMinors_86 (by decide) ?_
  refine lv_iload_n hx hb dX5_layMinors_88 rfl (lv_at hl 4 rfl) ?_
  refine lv_imul hx hb dX5_layMinors_89 ?_
  refine lv_eqi (v := 12) (by decide) ?_
  refine lv_iload hx hb dX5_layMinors_90 (lv_at hl 0 rfl) ?_
  refine lv_iadd hx hb dX5_layMinors_92 ?_
  refine lv_eqi (v := 14) (by decide) ?_
  refine ld_l hx hb hK.1 hP 1 1 rfl rfl (ix_lit (by decide)) 14 (by decide) (v := fr 14) rfl dX5_layMinors_93 ?_
  refine lv_aload_n hx hb dX5_layMinors_94 rfl (lv_at hl 5 rfl) ?_
  refine va_get (D := D) (ci := 5) (v := .ref mD) (C := RX5) (T := TX5) (N := 17) hx hb hts k_2 hown hK.1 hP 0 rfl rfl 6 (by decide) k_1 (fun _ h9 => h9) rfl dX5_layMinors_95 ?_
  refine lv_iload_n hx hb dX5_layMinors_98 rfl (lv_at hl 6 rfl) ?_
  refine lv_iconst (v := 1) hx hb dX5_layMinors_99 (by decide) ?_
  refine lv_iload hx hb dX5_layMinors_100 (lv_at hl 0 rfl) ?_
  refine lv_ishl hx hb dX5_layMinors_102 ?_
  refine lv_eqi (v := 4) (by decide) ?_
  refine lv_isub hx hb dX5_layMinors_103 ?_
  refine lv_eqi (v := 34) (by decide) ?_
  refine ld_l hx hb hK.1 hP 2 1 rfl rfl (ix_lit (by decide)) 34 (by decide) (v := z5_mw34 fr) rfl dX5_layMinors_104 ?_
  refine lv_lmul hx hb dX5_layMinors_105 ?_
  refine lv_lstore (lv' := [(7, .long ((fr 14) * (z5_mw34 fr))), (6, .int 2), (5, .int 1), (3, .long (0 + ((fr 13) * (z5_mw36 fr)))), (2, .int 2), (0, .ref o), (1, .int 38)]) hx hb dX5_layMinors_106 hl (by decide) rfl (fun ls hl => ?_)
  refine lv_lload_n hx hb dX5_layMinors_108 rfl (lv_at hl 3 rfl) ?_
  refine lv_iload hx hb dX5_layMinors_109 (lv_at hl 2 rfl) ?_
  refine lv_iconst (v := 2) hx hb dX5_layMinors_111 (by decide) ?_
  refine lv_irem hx hb dX5_layMinors_112 (by decide) ?_
  refine lv_eqi (v := 1) (by decide) ?_
  refine lv_if_ne (tgt := 121) hx hb dX5_layMinors_113 (by decide) (fun _ => ?_) (fun h => absurd h (by decide))
  refine lv_lload hx hb dX5_layMinors_121 (lv_at hl 0 rfl) ?_
  refine lv_lneg hx hb dX5_layMinors_123 ?_
  refine lv_ladd hx hb dX5_layMinors_124 ?_
  refine lv_lstore_n (lv' := [(3, .long ((0 + ((fr 13) * (z5_mw36 fr))) + (-((fr 14) * (z5_mw34 fr))))), (7, .long ((fr 14) * (z5_mw34 fr))), (6, .int 2), (5, .int 1), (2, .int 2), (0, .ref o), (1, .int 38)]) hx hb dX5_layMinors_125 rfl hl (by decide) rfl (fun ls hl => ?_)
  refine lv_iinc (v := 0) (lv' := [(5, .int 0), (3, .long ((0 + ((fr 13) * (z5_mw36 fr))) + (-((fr 14) * (z5_mw34 fr))))), (7, .long ((fr 14) * (z5_mw34 fr))), (6, .int 2), (2, .int 2), (0, .ref o), (1, .int 38)]) hx hb dX5_layMinors_126 hl (k := 3) rfl (by decide) (by decide) rfl (fun ls hl => ?_)
  refine lv_iinc (v := 3) (lv' := [(6, .int 3), (5, .int 0), (3, .long ((0 + ((fr 13) * (z5_mw36 fr))) + (-((fr 14) * (z5_mw34 fr))))), (7, .long ((fr 14) * (z5_mw34 fr))), (2, .int 2), (0, .ref o), (1, .int 38)]) hx hb dX5_layMinors_129 hl (k := 3) rfl (by decide) (by decide) rfl (fun ls hl => ?_)
  refine lv_goto (tgt := 60) hx hb dX5_layMinors_132 (by decide) ?_
  refine lv_iload hx hb dX5_layMinors_60 (lv_at hl 0 rfl) ?_
  refine lv_bipush (v := 6) hx hb dX5_layMinors_62 (by decide) ?_
  refine lv_icmp_ge (tgt := 135) hx hb dX5_layMinors_64 (by decide) (fun h => absurd h (by decide)) (fun _ => ?_)
  refine lv_iload_n hx hb dX5_layMinors_67 rfl (lv_at hl 4 rfl) ?_
  refine lv_iconst (v := 5) hx hb dX5_layMinors_68 (by decide) ?_
  refine lv_icmp_ge (tgt := 135) hx hb dX5_layMinors_69 (by decide) (fun h => absurd h (by decide)) (fun _ => ?_)
  refine lv_iload_n hx hb dX5_layMinors_72 rfl (lv_at hl 6 rfl) ?_
  refine lv_iload hx hb dX5_layMinors_73 (lv_at hl 0 rfl) ?_
  refine lv_ishr hx hb dX5_layMinors_75 ?_
  refine lv_eqi (v := 4) (by decide) ?_
  refine lv_iconst (v := 1) hx hb dX5_layMinors_76 (by decide) ?_
  refine lv_iand hx hb dX5_layMinors_77 ?_
  refine lv_eqi (v := 0) (by decide) ?_
  refine lv_iconst (v := 1) hx hb dX5_layMinors_78 (by decide) ?_
  refine lv_icmp_ne (tgt := 129) hx hb dX5_layMinors_79 (by decide) (fun _ => ?_) (fun h => absurd h (by decide))
  refine lv_iinc (v := 4) (lv' := [(6, .int 4), (5, .int 0), (3, .long ((0 + ((fr 13) * (z5_mw36 fr))) + (-((fr 14) * (z5_mw34 fr))))), (7, .long ((fr 14) * (z5_mw34 fr))), (2, .int 2), (0, .ref o), (1, .int 38)]) hx hb dX5_layMinors_129 hl (k := 0) rfl (by decide) (by decide) rfl (fun ls hl => ?_)
  refine lv_goto (tgt := 60) hx hb dX5_layMinors_132 (by decide) ?_
  refine lv_iload hx hb dX5_layMinors_60 (lv_at hl 0 rfl) ?_
  refine lv_bipush (v := 6) hx hb dX5_layMinors_62 (by decide) ?_
  refine lv_icmp_ge (tgt := 135) hx hb dX5_layMinors_64 (by decide) (fun h => absurd h (by decide)) (fun _ => ?_)
  refine lv_iload_n hx hb dX5_layMinors_67 rfl (lv_at hl 4 rfl) ?_
  refine lv_iconst (v := 5) hx hb dX5_layMinors_68 (by decide) ?_
  refine lv_icmp_ge (tgt := 135) hx hb dX5_layMinors_69 (by decide) (fun h => absurd h (by decide)) (fun _ => ?_)
  refine lv_iload_n hx hb dX5_layMinors_72 rfl (lv_at hl 6 rfl) ?_
  refine lv_iload hx hb dX5_layMinors_73 (lv_at hl 0 rfl) ?_
  refine lv_ishr hx hb dX5_layMinors_75 ?_
  refine lv_eqi (v := 2) (by decide) ?_
  refine lv_iconst (v := 1) hx hb dX5_layMinors_76 (by decide) ?_
  refine lv_iand hx hb dX5_layMinors_77 ?_
  refine lv_eqi (v := 0) (by decide) ?_
  refine lv_iconst (v := 1) hx hb dX5_layMinors_78 (by decide) ?_
  refine lv_icmp_ne (tgt := 129) hx hb dX5_layMinors_79 (by decide) (fun _ => ?_) (fun h => absurd h (by decide))
  refine lv_iinc (v := 5) (lv' := [(6, .int 5), (5, .int 0), (3, .long ((0 + ((fr 13) * (z5_mw36 fr))) + (-((fr 14) * (z5_mw34 fr))))), (7, .long ((fr 14) * (z5_mw34 fr))), (2, .int 2), (0, .ref o), (1, .int 38)]) hx hb dX5_layMinors_129 hl (k := 0) rfl (by decide) (by decide) rfl (fun ls hl => ?_)
  refine lv_goto (tgt := 60) hx hb dX5_layMinors_132 (by decide) ?_
  refine lv_iload hx hb dX5_layMinors_60 (lv_at hl 0 rfl) ?_
  refine lv_bipush (v := 6) hx hb dX5_layMinors_62 (by decide) ?_
  refine lv_icmp_ge (tgt := 135) hx hb dX5_layMinors_64 (by decide) (fun h => absurd h (by decide)) (fun _ => ?_)
  refine lv_iload_n hx hb dX5_layMinors_67 rfl (lv_at hl 4 rfl) ?_
  refine lv_iconst (v := 5) hx hb dX5_layMinors_68 (by decide) ?_
  refine lv_icmp_ge (tgt := 135) hx hb dX5_layMinors_69 (by decide) (fun h => absurd h (by decide)) (fun _ => ?_)
  refine lv_iload_n hx hb dX5_layMinors_72 rfl (lv_at hl 6 rfl) ?_
  refine lv_iload hx hb dX5_layMinors_73 (lv_at hl 0 rfl) ?_
  refine lv_ishr hx hb dX5_layMinors_75 ?_
  refine lv_eqi (v := 1) (by decide) ?_
  refine lv_iconst (v := 1) hx hb dX5_layMinors_76 (by decide) ?_
  refine lv_iand hx hb dX5_layMinors_77 ?_
  refine lv_eqi (v := 1) (by decide) ?_
  refine lv_iconst (v := 1) hx hb dX5_layMinors_78 (by decide) ?_
  refine lv_icmp_ne (tgt := 129) hx hb dX5_layMinors_79 (by decide) (fun h => absurd (by decide) h) (fun _ => ?_)
  refine lv_aload_n hx hb dX5_layMinors_82 rfl (lv_at hl 5 rfl) ?_
  refine va_get (D := D) (ci := 5) (v := .ref mR) (C := RX5) (T := TX5) (N := 17) hx hb hts k_2 hown hK.1 hP 0 rfl rfl 5 (by decide) k_4 (fun _ h9 => h9) rfl dX5_layMinors_83 ?_
  refine lv_bipush (v := 6) hx hb dX5_layMinors_86 (by decide) ?_
  refine lv_iload_n hx hb dX5_layMinors_88 rfl (lv_at hl 4 rfl) ?_
  refine lv_imul hx hb dX5_layMinors_89 ?_
  refine lv_eqi (v := 12) (by decide) ?_
  refine lv_iload hx hb dX5_layMinors_90 (lv_at hl 0 rfl) ?_
  refine lv_iadd hx hb dX5_layMinors_92 ?_
  refine lv_eqi (v := 17) (by decide) ?_
  refine ld_l hx hb hK.1 hP 1 1 rfl rfl (ix_lit (by decide)) 17 (by decide) (v := fr 17) rfl dX5_layMinors_93 ?_
  refine lv_aload_n hx hb dX5_layMinors_94 rfl (lv_at hl 5 rfl) ?_
  refine va_get (D := D) (ci := 5) (v := .ref mD) (C := RX5) (T := TX5) (N := 17) hx hb hts k_2 hown hK.1 hP 0 rfl rfl 6 (by decide) k_1 (fun _ h9 => h9) rfl dX5_layMinors_95 ?_
  refine lv_iload_n hx hb dX5_layMinors_98 rfl (lv_at hl 6 rfl) ?_
  refine lv_iconst (v := 1) hx hb dX5_layMinors_99 (by decide) ?_
  refine lv_iload hx hb dX5_layMinors_100 (lv_at hl 0 rfl) ?_
  refine lv_ishl hx hb dX5_layMinors_102 ?_
  refine lv_eqi (v := 32) (by decide) ?_
  refine lv_isub hx hb dX5_layMinors_103 ?_
  refine lv_eqi (v := 6) (by decide) ?_
  refine ld_l hx hb hK.1 hP 2 1 rfl rfl (ix_lit (by decide)) 6 (by decide) (v := z5_mw6 fr) rfl dX5_layMinors_104 ?_
  refine lv_lmul hx hb dX5_layMinors_105 ?_
  refine lv_lstore (lv' := [(7, .long ((fr 17) * (z5_mw6 fr))), (6, .int 5), (5, .int 0), (3, .long ((0 + ((fr 13) * (z5_mw36 fr))) + (-((fr 14) * (z5_mw34 fr))))), (2, .int 2), (0, .ref o), (1, .int 38)]) hx hb dX5_layMinors_106 hl (by decide) rfl (fun ls hl => ?_)
  refine lv_lload_n hx hb dX5_layMinors_108 rfl (lv_at hl 3 rfl) ?_
  refine lv_iload hx hb dX5_layMinors_109 (lv_at hl 2 rfl) ?_
  refine lv_iconst (v := 2) hx hb dX5_layMinors_111 (by decide) ?_
  refine lv_irem hx hb dX5_layMinors_112 (by decide) ?_
  refine lv_eqi (v := 0) (by decide) ?_
  refine lv_if_ne (tgt := 121) hx hb dX5_layMinors_113 (by decide) (fun h => absurd (by decide) h) (fun _ => ?_)
  refine lv_lload hx hb dX5_layMinors_116 (lv_at hl 0 rfl) ?_
  refine lv_goto (tgt := 124) hx hb dX5_layMinors_118 (by decide) ?_
  refine lv_ladd hx hb dX5_layMinors_124 ?_
  refine lv_lstore_n (lv' := [(3, .long (((0 + ((fr 13) * (z5_mw36 fr))) + (-((fr 14) * (z5_mw34 fr)))) + ((fr 17) * (z5_mw6 fr)))), (7, .long ((fr 17) * (z5_mw6 fr))), (6, .int 5), (5, .int 0), (2, .int 2), (0, .ref o), (1, .int 38)]) hx hb dX5_layMinors_125 rfl hl (by decide) rfl (fun ls hl => ?_)
  refine lv_iinc (v := (-1)) (lv' := [(5, .int (-1)), (3, .long (((0 + ((fr 13) * (z5_mw36 fr))) + (-((fr 14) * (z5_mw34 fr)))) + ((fr 17) * (z5_mw6 fr)))), (7, .long ((fr 17) * (z5_mw6 fr))), (6, .int 5), (2, .int 2), (0, .ref o), (1, .int 38)]) hx hb dX5_layMinors_126 hl (k := 3) rfl (by decide) (by decide) rfl (fun ls hl => ?_)
  refine lv_iinc (v := 6) (lv' := [(6, .int 6), (5, .int (-1)), (3, .long (((0 + ((fr 13) * (z5_mw36 fr))) + (-((fr 14) * (z5_mw34 fr)))) + ((fr 17) * (z5_mw6 fr)))), (7, .long ((fr 17) * (z5_mw6 fr))), (2, .int 2), (0, .ref o), (1, .int 38)]) hx hb dX5_layMinors_129 hl (k := 3) rfl (by decide) (by decide) rfl (fun ls hl => ?_)
  refine lv_goto (tgt := 60) hx hb dX5_layMinors_132 (by decide) ?_
  refine lv_iload hx hb dX5_layMinors_60 (lv_at hl 0 rfl) ?_
  refine lv_bipush (v := 6) hx hb dX5_layMinors_62 (by decide) ?_
  refine lv_icmp_ge (tgt := 135) hx hb dX5_layMinors_64 (by decide) (fun _ => ?_) (fun h => absurd (by decide) h)
  refine lv_aload_n hx hb dX5_layMinors_135 rfl (lv_at hl 5 rfl) ?_
  refine va_get (D := D) (ci := 5) (v := .ref mD) (C := RX5) (T := TX5) (N := 17) hx hb hts k_2 hown hK.1 hP 0 rfl rfl 6 (by decide) k_1 (fun _ h9 => h9) rfl dX5_layMinors_136 ?_
  refine lv_iload_n hx hb dX5_layMinors_139 rfl (lv_at hl 6 rfl) ?_
  refine lv_lload_n hx hb dX5_layMinors_140 rfl (lv_at hl 2 rfl) ?_
  refine st_l hx hb hK.1 hP hD hS 2 1 rfl rfl (ix_lit (by decide)) 38 (by decide) dX5_layMinors_141 (fun H locs hP hD hS => ?_)
  have hP : va_P D vwCl [kM o mP mL mC mN mF mR mD mV mX mA mK cm mT pm mU mH mI, kJ mR cJ 30 fr, kJ mD cJ 64 (vp_updL (z5_mm38 fr fd) 38 (((0 + ((fr 13) * (z5_mw36 fr))) + (-((fr 14) * (z5_mw34 fr)))) + ((fr 17) * (z5_mw6 fr))))] H := hP
  have hD : va_D A [kM o mP mL mC mN mF mR mD mV mX mA mK cm mT pm mU mH mI, kJ mR cJ 30 fr, kJ mD cJ 64 (vp_updL (z5_mm38 fr fd) 38 (((0 + ((fr 13) * (z5_mw36 fr))) + (-((fr 14) * (z5_mw34 fr)))) + ((fr 17) * (z5_mw6 fr))))] := hD
  have hP : va_P D vwCl [kM o mP mL mC mN mF mR mD mV mX mA mK cm mT pm mU mH mI, kJ mR cJ 30 fr, kJ mD cJ 64 (z5_mm39 fr fd)] H := hP
  have hD : va_D A [kM o mP mL mC mN mF mR mD mV mX mA mK cm mT pm mU mH mI, kJ mR cJ 30 fr, kJ mD cJ 64 (z5_mm39 fr fd)] := hD
  refine lv_iinc (v := 39) (lv' := [(1, .int 39), (6, .int 6), (5, .int (-1)), (3, .long (((0 + ((fr 13) * (z5_mw36 fr))) + (-((fr 14) * (z5_mw34 fr)))) + ((fr 17) * (z5_mw6 fr)))), (7, .long ((fr 17) * (z5_mw6 fr))), (2, .int 2), (0, .ref o)]) hx hb dX5_layMinors_142 hl (k := 6) rfl (by decide) (by decide) rfl (fun ls hl => ?_)
  refine lv_goto (tgt := 9) hx hb dX5_layMinors_145 (by decide) ?_
  exact sg_X5_layMinors_39 hx hb hr hml hown hts hlk hK hA hP hD hS ls (lv_sub hl [6, 0] rfl)
