-- laid by wip/whole/gen
section BASE2
variable {p : Program} {l : Launch} {e : Env} {R : Room} {s : State} {m : MethodId} {args : Array Value} {below : List Frame} {meth : Method} {c : Code} {H : Heap} {locs : List Loc} {cells slots : Nat} {Q : State → Prop}
variable {pc : Nat} {ls : Array Slot} {rest st0 : List Value} {a : Array Value} {cc : ByteArray}
theorem cr_a {v : Value} (hr : va_Run p l e R s m args below meth c H locs cells slots 0 0 (F0 m pc ls st0) rest (k2_QcV v a) (fun _ => False))
    (kk : W p l e R s m args below meth c H locs cells slots Q (F0 m (pc + 3) ls (v :: rest))) : W p l e R s m args below meth c H locs cells slots Q (F0 m pc ls st0) := W.callV hr.run kk
theorem rr_a {v : Value} {rt : FieldType} (hx : p.tables.exec = Jvm.exec) (hb : c.code = cc) (hr : meth.sig.returnType = some rt) (hrt : ∃ n, rt = .object n) (hv : v = .null ∨ ∃ a, v = .ref a) (hlk : meth.locks = false) (hdg : decode cc pc = .ok (.areturn, 1)) : W p l e R s m args below meth c s.heap [] 0 0 (MQ below (k2_QcV v) args s 0 0 (fun _ => False)) (F0 m pc ls [v]) :=
  W.aret hx hb hr (Or.inl hrt) hv (fun t ht hW => ⟨rfl, ht⟩) (fun q h => by cases h) hdg hlk
end BASE2
theorem sw_out {k : Int32} (h0 : ¬ k = 0) (h1 : ¬ k = 1) (h2 : ¬ k = 2) : k.toInt < 0 ∨ 2 < k.toInt := by
  have z0 : (0 : Int32).toInt = 0 := by decide
  have z1 : (1 : Int32).toInt = 1 := by decide
  have z2 : (2 : Int32).toInt = 2 := by decide
  have a0 : k.toInt ≠ 0 := fun q => h0 (Int32.toInt_inj.mp (q.trans z0.symm))
  have a1 : k.toInt ≠ 1 := fun q => h1 (Int32.toInt_inj.mp (q.trans z1.symm))
  have a2 : k.toInt ≠ 2 := fun q => h2 (Int32.toInt_inj.mp (q.trans z2.symm))
  omega
set_option maxHeartbeats 4000000 in
set_option maxRecDepth 100000 in
theorem c_X4_shelfOf_0 (l : Launch) (D : va_G) (cI cJ : ClassId) (o : Nat) (oP : Nat) (oL : Nat) (oC : Nat) (oX : Nat) (oY : Nat) (oF : Nat) (oS : Nat) (oT : Nat) (oM : Nat) (fL : Nat) (fR : Nat) (fN : Nat) (fM : Nat) (oR : Nat) (k : Int32) (h1 : k = 0) : mr_C l yX4_shelfOf wsX4_shelfOf ({ frames := 0, cells := 0, slots := 0, locals := 0 }) D cI cJ [.ref o, .int k] [kC o oP oL oC oX oY oF oS oT oM fL fR fN fM oR] (k2_QcV (.ref oP)) := by
  refine mr_in (cc := cX4_shelfOf) (lv := [(0, .ref o), (1, .int k)]) (by decide) rfl (Nat.le_of_ble_eq_true rfl) rfl ?_
  intro pG eG sG mG below meth cG ls hx hb hr hml hown hts hlk hP hK hl
  have hown : sG.vm.findClass RX4 = some mG.cls := hown
  have k_1 := hts (.fieldLink RX4 14 "ConicRows" "points" "LConicRows$Shelf;") (by decide +kernel)
  have k_2 : ∀ w ∈ wsX40, w ∈ wsX4_shelfOf := by decide +kernel
  refine lv_iload_n hx hb dX4_shelfOf_0 rfl (lv_at hl 1 rfl) ?_
  refine lv_tableIn (off := 27) (tgt := 28) hx hb dX4_shelfOf_1 (by rw [h1]; decide) (by rw [h1]; decide) (by rw [h1]; decide) (by decide) ?_
  refine lv_aload_n hx hb dX4_shelfOf_28 rfl (lv_at hl 0 rfl) ?_
  refine va_get (D := D) (ci := 4) (v := .ref oP) (C := RX4) (T := TX4) (N := 14) hx hb hts k_2 hown hK.1 hP 0 rfl rfl 0 (by decide) k_1 (fun _ h9 => h9) rfl dX4_shelfOf_29 ?_
  exact rr_a hx hb hr ⟨_, rfl⟩ (Or.inr ⟨_, rfl⟩) hlk dX4_shelfOf_32
set_option maxHeartbeats 4000000 in
set_option maxRecDepth 100000 in
theorem c_X4_shelfOf_1 (l : Launch) (D : va_G) (cI cJ : ClassId) (o : Nat) (oP : Nat) (oL : Nat) (oC : Nat) (oX : Nat) (oY : Nat) (oF : Nat) (oS : Nat) (oT : Nat) (oM : Nat) (fL : Nat) (fR : Nat) (fN : Nat) (fM : Nat) (oR : Nat) (k : Int32) (h1 : k = 1) : mr_C l yX4_shelfOf wsX4_shelfOf ({ frames := 0, cells := 0, slots := 0, locals := 0 }) D cI cJ [.ref o, .int k] [kC o oP oL oC oX oY oF oS oT oM fL fR fN fM oR] (k2_QcV (.ref oL)) := by
  refine mr_in (cc := cX4_shelfOf) (lv := [(0, .ref o), (1, .int k)]) (by decide) rfl (Nat.le_of_ble_eq_true rfl) rfl ?_
  intro pG eG sG mG below meth cG ls hx hb hr hml hown hts hlk hP hK hl
  have hown : sG.vm.findClass RX4 = some mG.cls := hown
  have k_1 := hts (.fieldLink RX4 18 "ConicRows" "lines" "LConicRows$Shelf;") (by decide +kernel)
  have k_2 : ∀ w ∈ wsX40, w ∈ wsX4_shelfOf := by decide +kernel
  refine lv_iload_n hx hb dX4_shelfOf_0 rfl (lv_at hl 1 rfl) ?_
  refine lv_tableIn (off := 32) (tgt := 33) hx hb dX4_shelfOf_1 (by rw [h1]; decide) (by rw [h1]; decide) (by rw [h1]; decide) (by decide) ?_
  refine lv_aload_n hx hb dX4_shelfOf_33 rfl (lv_at hl 0 rfl) ?_
  refine va_get (D := D) (ci := 4) (v := .ref oL) (C := RX4) (T := TX4) (N := 14) hx hb hts k_2 hown hK.1 hP 0 rfl rfl 1 (by decide) k_1 (fun _ h9 => h9) rfl dX4_shelfOf_34 ?_
  exact rr_a hx hb hr ⟨_, rfl⟩ (Or.inr ⟨_, rfl⟩) hlk dX4_shelfOf_37
set_option maxHeartbeats 4000000 in
set_option maxRecDepth 100000 in
theorem c_X4_shelfOf_2 (l : Launch) (D : va_G) (cI cJ : ClassId) (o : Nat) (oP : Nat) (oL : Nat) (oC : Nat) (oX : Nat) (oY : Nat) (oF : Nat) (oS : Nat) (oT : Nat) (oM : Nat) (fL : Nat) (fR : Nat) (fN : Nat) (fM : Nat) (oR : Nat) (k : Int32) (h1 : k = 2) : mr_C l yX4_shelfOf wsX4_shelfOf ({ frames := 0, cells := 0, slots := 0, locals := 0 }) D cI cJ [.ref o, .int k] [kC o oP oL oC oX oY oF oS oT oM fL fR fN fM oR] (k2_QcV (.ref oC)) := by
  refine mr_in (cc := cX4_shelfOf) (lv := [(0, .ref o), (1, .int k)]) (by decide) rfl (Nat.le_of_ble_eq_true rfl) rfl ?_
  intro pG eG sG mG below meth cG ls hx hb hr hml hown hts hlk hP hK hl
  have hown : sG.vm.findClass RX4 = some mG.cls := hown
  have k_1 := hts (.fieldLink RX4 21 "ConicRows" "conics" "LConicRows$Shelf;") (by decide +kernel)
  have k_2 : ∀ w ∈ wsX40, w ∈ wsX4_shelfOf := by decide +kernel
  refine lv_iload_n hx hb dX4_shelfOf_0 rfl (lv_at hl 1 rfl) ?_
  refine lv_tableIn (off := 37) (tgt := 38) hx hb dX4_shelfOf_1 (by rw [h1]; decide) (by rw [h1]; decide) (by rw [h1]; decide) (by decide) ?_
  refine lv_aload_n hx hb dX4_shelfOf_38 rfl (lv_at hl 0 rfl) ?_
  refine va_get (D := D) (ci := 4) (v := .ref oC) (C := RX4) (T := TX4) (N := 14) hx hb hts k_2 hown hK.1 hP 0 rfl rfl 2 (by decide) k_1 (fun _ h9 => h9) rfl dX4_shelfOf_39 ?_
  exact rr_a hx hb hr ⟨_, rfl⟩ (Or.inr ⟨_, rfl⟩) hlk dX4_shelfOf_42
set_option maxHeartbeats 4000000 in
set_option maxRecDepth 100000 in
theorem c_X4_shelfOf_n (l : Launch) (D : va_G) (cI cJ : ClassId) (o : Nat) (oP : Nat) (oL : Nat) (oC : Nat) (oX : Nat) (oY : Nat) (oF : Nat) (oS : Nat) (oT : Nat) (oM : Nat) (fL : Nat) (fR : Nat) (fN : Nat) (fM : Nat) (oR : Nat) (k : Int32) (h0 : ¬ k = 0) (h1 : ¬ k = 1) (h2 : ¬ k = 2) : mr_C l yX4_shelfOf wsX4_shelfOf ({ frames := 0, cells := 0, slots := 0, locals := 0 }) D cI cJ [.ref o, .int k] [kC o oP oL oC oX oY oF oS oT oM fL fR fN fM oR] (k2_QcV (.null)) := by
  refine mr_in (cc := cX4_shelfOf) (lv := [(0, .ref o), (1, .int k)]) (by decide) rfl (Nat.le_of_ble_eq_true rfl) rfl ?_
  intro pG eG sG mG below meth cG ls hx hb hr hml hown hts hlk hP hK hl
  have hown : sG.vm.findClass RX4 = some mG.cls := hown
  refine lv_iload_n hx hb dX4_shelfOf_0 rfl (lv_at hl 1 rfl) ?_
  refine lv_tableOut (tgt := 43) hx hb dX4_shelfOf_1 (sw_out h0 h1 h2) (by decide) ?_
  refine lv_null hx hb dX4_shelfOf_43 ?_
  exact rr_a hx hb hr ⟨_, rfl⟩ (Or.inl rfl) hlk dX4_shelfOf_44
def z4_count (np : Int32) (nl : Int32) (nc : Int32) (k : Int32) : Int32 := if k = 0 then np else if k = 1 then nl else if k = 2 then nc else (-1000003)
set_option maxHeartbeats 4000000 in
set_option maxRecDepth 100000 in
/-- X4.count -/
theorem c_X4_count (l : Launch) (D : va_G) (cI cJ : ClassId) (o : Nat) (oP : Nat) (oL : Nat) (oC : Nat) (oX : Nat) (oY : Nat) (oF : Nat) (oS : Nat) (oT : Nat) (oM : Nat) (fL : Nat) (fR : Nat) (fN : Nat) (fM : Nat) (oR : Nat) (qp : Nat) (np : Int32) (gp : Nat → Int32) (ql : Nat) (nl : Int32) (gl : Nat → Int32) (qc : Nat) (nc : Int32) (gc : Nat → Int32) (k : Int32) (hsp : sh_ok 3 180 np) (hsl : sh_ok 3 180 nl) (hsc : sh_ok 6 360 nc) : mr_C l yX4_count wsX4_count ({ frames := 1, cells := 0, slots := 0, locals := 21 }) D cI cJ [.ref o, .int k] [kC o oP oL oC oX oY oF oS oT oM fL fR fN fM oR, kS oP 3 qp np, kA qp cI 180 gp, kS oL 3 ql nl, kA ql cI 180 gl, kS oC 6 qc nc, kA qc cI 360 gc] (vp_Si (fun r : Int32 => r = z4_count np nl nc k)) := by
  refine mr_in (cc := cX4_count) (lv := [(0, .ref o), (1, .int k)]) (by decide) rfl (Nat.le_of_ble_eq_true rfl) rfl ?_
  intro pG eG sG mG below meth cG ls hx hb hr hml hown hts hlk hP hK hl
  have hown : sG.vm.findClass RX4 = some mG.cls := hown
  have k_1 : ∀ w ∈ wsX20, w ∈ wsX4_count := by decide +kernel
  have k_2 := hts (.constant RX4 91 (-1000003)) (by decide +kernel)
  by_cases c_1 : k = 0
  · skip
    refine lv_aload_n hx hb dX4_count_0 rfl (lv_at hl 0 rfl) ?_
    refine lv_iload_n hx hb dX4_count_1 rfl (lv_at hl 1 rfl) ?_
    have hPc := hP.sub (ws' := [kC o oP oL oC oX oY oF oS oT oM fL fR fN fM oR]) [0] rfl
    refine cr_a (va_runV (As := [.int k]) (rest := []) ⟨hx, hb, hml, hown, hts⟩ (c_X4_shelfOf_0 l D cI cJ o oP oL oC oX oY oF oS oT oM fL fR fN fM oR k c_1) (cwV 1 hts gX4_count_X4_shelfOf rfl rfl rfl (by decide +kernel) ⟨Nat.le_of_ble_eq_true rfl, Nat.le_of_ble_eq_true rfl⟩) ⟨gd_blR, va_recv hK.1 hPc (ci := 4) (q0 := 0) rfl rfl, gd_prR hPc hK⟩ rfl rfl hl.1 rfl (lv_room (Nat.le_of_ble_eq_true rfl)) dX4_count_2 ⟨Nat.zero_le _, Nat.zero_le _⟩) ?_
    clear hPc
    refine lv_astore_n (lv' := [(2, .ref oP), (0, .ref o), (1, .int k)]) hx hb dX4_count_5 rfl hl (by decide) rfl (fun ls hl => ?_)
    refine lv_aload_n hx hb dX4_count_6 rfl (lv_at hl 0 rfl) ?_
    refine lv_ifnonnull (tgt := 15) hx hb dX4_count_7 (by decide) ?_
    refine lv_aload_n hx hb dX4_count_15 rfl (lv_at hl 0 rfl) ?_
    refine va_getN (D := D) (ci := 2) (v := .int np) (C := RX2) (T := TX2) (N := 3) hx hb hts k_1 hown hK.1 hP 1 rfl rfl 2 (by decide) (nw_f hK.2 1 rfl) (fun _ h9 => h9) rfl dX4_count_16 ?_
    have he : z4_count np nl nc k = np := by unfold z4_count; rw [if_pos c_1]
    exact rr_i hx hb hr hlk dX4_count_19 he.symm
  · skip
    by_cases c_2 : k = 1
    · skip
      refine lv_aload_n hx hb dX4_count_0 rfl (lv_at hl 0 rfl) ?_
      refine lv_iload_n hx hb dX4_count_1 rfl (lv_at hl 1 rfl) ?_
      have hPc := hP.sub (ws' := [kC o oP oL oC oX oY oF oS oT oM fL fR fN fM oR]) [0] rfl
      refine cr_a (va_runV (As := [.int k]) (rest := []) ⟨hx, hb, hml, hown, hts⟩ (c_X4_shelfOf_1 l D cI cJ o oP oL oC oX oY oF oS oT oM fL fR fN fM oR k c_2) (cwV 1 hts gX4_count_X4_shelfOf rfl rfl rfl (by decide +kernel) ⟨Nat.le_of_ble_eq_true rfl, Nat.le_of_ble_eq_true rfl⟩) ⟨gd_blR, va_recv hK.1 hPc (ci := 4) (q0 := 0) rfl rfl, gd_prR hPc hK⟩ rfl rfl hl.1 rfl (lv_room (Nat.le_of_ble_eq_true rfl)) dX4_count_2 ⟨Nat.zero_le _, Nat.zero_le _⟩) ?_
      clear hPc
      refine lv_astore_n (lv' := [(2, .ref oL), (0, .ref o), (1, .int k)]) hx hb dX4_count_5 rfl hl (by decide) rfl (fun ls hl => ?_)
      refine lv_aload_n hx hb dX4_count_6 rfl (lv_at hl 0 rfl) ?_
      refine lv_ifnonnull (tgt := 15) hx hb dX4_count_7 (by decide) ?_
      refine lv_aload_n hx hb dX4_count_15 rfl (lv_at hl 0 rfl) ?_
      refine va_getN (D := D) (ci := 2) (v := .int nl) (C := RX2) (T := TX2) (N := 3) hx hb hts k_1 hown hK.1 hP 3 rfl rfl 2 (by decide) (nw_f hK.2 1 rfl) (fun _ h9 => h9) rfl dX4_count_16 ?_
      have he : z4_count np nl nc k = nl := by unfold z4_count; rw [if_neg c_1, if_pos c_2]
      exact rr_i hx hb hr hlk dX4_count_19 he.symm
    · skip
      by_cases c_3 : k = 2
      · skip
        refine lv_aload_n hx hb dX4_count_0 rfl (lv_at hl 0 rfl) ?_
        refine lv_iload_n hx hb dX4_count_1 rfl (lv_at hl 1 rfl) ?_
        have hPc := hP.sub (ws' := [kC o oP oL oC oX oY oF oS oT oM fL fR fN fM oR]) [0] rfl
        refine cr_a (va_runV (As := [.int k]) (rest := []) ⟨hx, hb, hml, hown, hts⟩ (c_X4_shelfOf_2 l D cI cJ o oP oL oC oX oY oF oS oT oM fL fR fN fM oR k c_3) (cwV 1 hts gX4_count_X4_shelfOf rfl rfl rfl (by decide +kernel) ⟨Nat.le_of_ble_eq_true rfl, Nat.le_of_ble_eq_true rfl⟩) ⟨gd_blR, va_recv hK.1 hPc (ci := 4) (q0 := 0) rfl rfl, gd_prR hPc hK⟩ rfl rfl hl.1 rfl (lv_room (Nat.le_of_ble_eq_true rfl)) dX4_count_2 ⟨Nat.zero_le _, Nat.zero_le _⟩) ?_
        clear hPc
        refine lv_astore_n (lv' := [(2, .ref oC), (0, .ref o), (1, .int k)]) hx hb dX4_count_5 rfl hl (by decide) rfl (fun ls hl => ?_)
        refine lv_aload_n hx hb dX4_count_6 rfl (lv_at hl 0 rfl) ?_
        refine lv_ifnonnull (tgt := 15) hx hb dX4_count_7 (by decide) ?_
        refine lv_aload_n hx hb dX4_count_15 rfl (lv_at hl 0 rfl) ?_
        refine va_getN (D := D) (ci := 2) (v := .int nc) (C := RX2) (T := TX2) (N := 3) hx hb hts k_1 hown hK.1 hP 5 rfl rfl 2 (by decide) (nw_f hK.2 1 rfl) (fun _ h9 => h9) rfl dX4_count_16 ?_
        have he : z4_count np nl nc k = nc := by unfold z4_count; rw [if_neg c_1, if_neg c_2, if_pos c_3]
        exact rr_i hx hb hr hlk dX4_count_19 he.symm
      · skip
        refine lv_aload_n hx hb dX4_count_0 rfl (lv_at hl 0 rfl) ?_
        refine lv_iload_n hx hb dX4_count_1 rfl (lv_at hl 1 rfl) ?_
        have hPc := hP.sub (ws' := [kC o oP oL oC oX oY oF oS oT oM fL fR fN fM oR]) [0] rfl
        refine cr_a (va_runV (As := [.int k]) (rest := []) ⟨hx, hb, hml, hown, hts⟩ (c_X4_shelfOf_n l D cI cJ o oP oL oC oX oY oF oS oT oM fL fR fN fM oR k c_1 c_2 c_3) (cwV 1 hts gX4_count_X4_shelfOf rfl rfl rfl (by decide +kernel) ⟨Nat.le_of_ble_eq_true rfl, Nat.le_of_ble_eq_true rfl⟩) ⟨gd_blR, va_recv hK.1 hPc (ci := 4) (q0 := 0) rfl rfl, gd_prR hPc hK⟩ rfl rfl hl.1 rfl (lv_room (Nat.le_of_ble_eq_true rfl)) dX4_count_2 ⟨Nat.zero_le _, Nat.zero_le _⟩) ?_
        clear hPc
        refine lv_astore_nN (lv' := [(2, .null), (0, .ref o), (1, .int k)]) hx hb dX4_count_5 rfl hl (by decide) rfl (fun ls hl => ?_)
        refine lv_aload_nN hx hb dX4_count_6 rfl (lv_at hl 0 rfl) ?_
        refine lv_ifnonnullN hx hb dX4_count_7 ?_
        refine lv_ldc hx hb hown k_2 dX4_count_10 ?_
        refine lv_goto (tgt := 19) hx hb dX4_count_12 (by decide) ?_
        have he : z4_count np nl nc k = (-1000003) := by unfold z4_count; rw [if_neg c_1, if_neg c_2, if_neg c_3]
        exact rr_i hx hb hr hlk dX4_count_19 he.symm
def z4_number (np : Int32) (gp : Nat → Int32) (nl : Int32) (gl : Nat → Int32) (nc : Int32) (gc : Nat → Int32) (s : Int32) (i : Int32) (k : Int32) : Int32 := if s = 0 then if (z2_has np i) = 0 then (-1000002) else if k < 0 then (-1000003) else if k < 3 then z2_get 3 np i k gp else (-1000003) else if s = 1 then if (z2_has nl i) = 0 then (-1000002) else if k < 0 then (-1000003) else if k < 3 then z2_get 3 nl i k gl else (-1000003) else if s = 2 then if (z2_has nc i) = 0 then (-1000002) else if k < 0 then (-1000003) else if k < 6 then z2_get 6 nc i k gc else (-1000003) else (-1000003)
set_option maxHeartbeats 4000000 in
set_option maxRecDepth 100000 in
/-- X4.number -/
theorem c_X4_number (l : Launch) (D : va_G) (cI cJ : ClassId) (o : Nat) (oP : Nat) (oL : Nat) (oC : Nat) (oX : Nat) (oY : Nat) (oF : Nat) (oS : Nat) (oT : Nat) (oM : Nat) (fL : Nat) (fR : Nat) (fN : Nat) (fM : Nat) (oR : Nat) (qp : Nat) (np : Int32) (gp : Nat → Int32) (ql : Nat) (nl : Int32) (gl : Nat → Int32) (qc : Nat) (nc : Int32) (gc : Nat → Int32) (s : Int32) (i : Int32) (k : Int32) (hsp : sh_ok 3 180 np) (hsl : sh_ok 3 180 nl) (hsc : sh_ok 6 360 nc) : mr_C l yX4_number wsX4_number ({ frames := 2, cells := 0, slots := 0, locals := 43 }) D cI cJ [.ref o, .int s, .int i, .int k] [kC o oP oL oC oX oY oF oS oT oM fL fR fN fM oR, kS oP 3 qp np, kA qp cI 180 gp, kS oL 3 ql nl, kA ql cI 180 gl, kS oC 6 qc nc, kA qc cI 360 gc] (vp_Si (fun r : Int32 => r = z4_number np gp nl gl nc gc s i k)) := by
  refine mr_in (cc := cX4_number) (lv := [(0, .ref o), (1, .int s), (2, .int i), (3, .int k)]) (by decide) rfl (Nat.le_of_ble_eq_true rfl) rfl ?_
  intro pG eG sG mG below meth cG ls hx hb hr hml hown hts hlk hP hK hl
  have hown : sG.vm.findClass RX4 = some mG.cls := hown
  have k_1 := hts (.constant RX4 91 (-1000003)) (by decide +kernel)
  have k_2 : ∀ w ∈ wsX20, w ∈ wsX4_number := by decide +kernel
  have k_3 := hts (.constant RX4 108 (-1000002)) (by decide +kernel)
  by_cases c_1 : s = 0
  · skip
    refine lv_aload_n hx hb dX4_number_0 rfl (lv_at hl 0 rfl) ?_
    refine lv_iload_n hx hb dX4_number_1 rfl (lv_at hl 1 rfl) ?_
    have hPc := hP.sub (ws' := [kC o oP oL oC oX oY oF oS oT oM fL fR fN fM oR]) [0] rfl
    refine cr_a (va_runV (As := [.int s]) (rest := []) ⟨hx, hb, hml, hown, hts⟩ (c_X4_shelfOf_0 l D cI cJ o oP oL oC oX oY oF oS oT oM fL fR fN fM oR s c_1) (cwV 1 hts gX4_number_X4_shelfOf rfl rfl rfl (by decide +kernel) ⟨Nat.le_of_ble_eq_true rfl, Nat.le_of_ble_eq_true rfl⟩) ⟨gd_blR, va_recv hK.1 hPc (ci := 4) (q0 := 0) rfl rfl, gd_prR hPc hK⟩ rfl rfl hl.1 rfl (lv_room (Nat.le_of_ble_eq_true rfl)) dX4_number_2 ⟨Nat.zero_le _, Nat.zero_le _⟩) ?_
    clear hPc
    refine lv_astore (lv' := [(4, .ref oP), (0, .ref o), (1, .int s), (2, .int i), (3, .int k)]) hx hb dX4_number_5 hl (by decide) rfl (fun ls hl => ?_)
    refine lv_aload hx hb dX4_number_7 (lv_at hl 0 rfl) ?_
    refine lv_ifnonnull (tgt := 15) hx hb dX4_number_9 (by decide) ?_
    refine lv_aload hx hb dX4_number_15 (lv_at hl 0 rfl) ?_
    refine lv_iload_n hx hb dX4_number_17 rfl (lv_at hl 3 rfl) ?_
    have hPc := hP.sub (ws' := [kS oP 3 qp np]) [1] rfl
    refine cr_i (va_runV (As := [.int i]) (rest := []) ⟨hx, hb, hml, hown, hts⟩ (c_X2_has l D cI cJ oP qp 3 np i) (cwV 1 hts gX4_number_X2_has rfl rfl rfl (by decide +kernel) ⟨Nat.le_of_ble_eq_true rfl, Nat.le_of_ble_eq_true rfl⟩) ⟨gd_blR, va_recv hK.1 hPc (ci := 2) (q0 := 0) rfl rfl, gd_prR hPc hK⟩ rfl rfl hl.1 rfl (lv_room (Nat.le_of_ble_eq_true rfl)) dX4_number_18 ⟨Nat.zero_le _, Nat.zero_le _⟩) (fun r_18 hw => ?_)
    subst hw
    clear hPc
    refine lv_if_ne (tgt := 27) hx hb dX4_number_21 (by decide) (fun c_2 => ?_) (fun c_2 => ?_)
    · skip
      refine lv_iload_n hx hb dX4_number_27 rfl (lv_at hl 4 rfl) ?_
      refine lv_if_lt (tgt := 40) hx hb dX4_number_28 (by decide) (fun c_3 => ?_) (fun c_3 => ?_)
      · skip
        refine lv_ldc hx hb hown k_1 dX4_number_40 ?_
        have he : z4_number np gp nl gl nc gc s i k = (-1000003) := by unfold z4_number; rw [if_pos c_1, if_neg c_2, if_pos c_3]
        exact rr_i hx hb hr hlk dX4_number_42 he.symm
      · skip
        refine lv_iload_n hx hb dX4_number_31 rfl (lv_at hl 4 rfl) ?_
        refine lv_aload hx hb dX4_number_32 (lv_at hl 0 rfl) ?_
        refine va_getN (D := D) (ci := 2) (v := .int 3) (C := RX2) (T := TX2) (N := 3) hx hb hts k_2 hown hK.1 hP 1 rfl rfl 0 (by decide) (nw_f hK.2 0 rfl) (fun _ h9 => h9) rfl dX4_number_34 ?_
        refine lv_icmp_lt (tgt := 43) hx hb dX4_number_37 (by decide) (fun c_4 => ?_) (fun c_4 => ?_)
        · skip
          refine lv_aload hx hb dX4_number_43 (lv_at hl 0 rfl) ?_
          refine lv_iload_n hx hb dX4_number_45 rfl (lv_at hl 3 rfl) ?_
          refine lv_iload_n hx hb dX4_number_46 rfl (lv_at hl 4 rfl) ?_
          have hPc := hP.sub (ws' := [kS oP 3 qp np, kA qp cI 180 gp]) [1, 2] rfl
          refine cr_i (va_runV (As := [.int i, .int k]) (rest := []) ⟨hx, hb, hml, hown, hts⟩ (c_X2_get l D cI cJ oP qp 180 3 np i k gp hsp) (cwV 2 hts gX4_number_X2_get rfl rfl rfl (by decide +kernel) ⟨Nat.le_of_ble_eq_true rfl, Nat.le_of_ble_eq_true rfl⟩) ⟨gd_blR, va_recv hK.1 hPc (ci := 2) (q0 := 0) rfl rfl, gd_prR hPc hK⟩ rfl rfl hl.1 rfl (lv_room (Nat.le_of_ble_eq_true rfl)) dX4_number_47 ⟨Nat.zero_le _, Nat.zero_le _⟩) (fun r_47 hw => ?_)
          subst hw
          clear hPc
          have he : z4_number np gp nl gl nc gc s i k = z2_get 3 np i k gp := by unfold z4_number; rw [if_pos c_1, if_neg c_2, if_neg c_3, if_pos c_4]
          exact rr_i hx hb hr hlk dX4_number_50 he.symm
        · skip
          refine lv_ldc hx hb hown k_1 dX4_number_40 ?_
          have he : z4_number np gp nl gl nc gc s i k = (-1000003) := by unfold z4_number; rw [if_pos c_1, if_neg c_2, if_neg c_3, if_neg c_4]
          exact rr_i hx hb hr hlk dX4_number_42 he.symm
    · skip
      refine lv_ldc hx hb hown k_3 dX4_number_24 ?_
      have he : z4_number np gp nl gl nc gc s i k = (-1000002) := by unfold z4_number; rw [if_pos c_1, if_pos c_2]
      exact rr_i hx hb hr hlk dX4_number_26 he.symm
  · skip
    by_cases c_5 : s = 1
    · skip
      refine lv_aload_n hx hb dX4_number_0 rfl (lv_at hl 0 rfl) ?_
      refine lv_iload_n hx hb dX4_number_1 rfl (lv_at hl 1 rfl) ?_
      have hPc := hP.sub (ws' := [kC o oP oL oC oX oY oF oS oT oM fL fR fN fM oR]) [0] rfl
      refine cr_a (va_runV (As := [.int s]) (rest := []) ⟨hx, hb, hml, hown, hts⟩ (c_X4_shelfOf_1 l D cI cJ o oP oL oC oX oY oF oS oT oM fL fR fN fM oR s c_5) (cwV 1 hts gX4_number_X4_shelfOf rfl rfl rfl (by decide +kernel) ⟨Nat.le_of_ble_eq_true rfl, Nat.le_of_ble_eq_true rfl⟩) ⟨gd_blR, va_recv hK.1 hPc (ci := 4) (q0 := 0) rfl rfl, gd_prR hPc hK⟩ rfl rfl hl.1 rfl (lv_room (Nat.le_of_ble_eq_true rfl)) dX4_number_2 ⟨Nat.zero_le _, Nat.zero_le _⟩) ?_
      clear hPc
      refine lv_astore (lv' := [(4, .ref oL), (0, .ref o), (1, .int s), (2, .int i), (3, .int k)]) hx hb dX4_number_5 hl (by decide) rfl (fun ls hl => ?_)
      refine lv_aload hx hb dX4_number_7 (lv_at hl 0 rfl) ?_
      refine lv_ifnonnull (tgt := 15) hx hb dX4_number_9 (by decide) ?_
      refine lv_aload hx hb dX4_number_15 (lv_at hl 0 rfl) ?_
      refine lv_iload_n hx hb dX4_number_17 rfl (lv_at hl 3 rfl) ?_
      have hPc := hP.sub (ws' := [kS oL 3 ql nl]) [3] rfl
      refine cr_i (va_runV (As := [.int i]) (rest := []) ⟨hx, hb, hml, hown, hts⟩ (c_X2_has l D cI cJ oL ql 3 nl i) (cwV 1 hts gX4_number_X2_has rfl rfl rfl (by decide +kernel) ⟨Nat.le_of_ble_eq_true rfl, Nat.le_of_ble_eq_true rfl⟩) ⟨gd_blR, va_recv hK.1 hPc (ci := 2) (q0 := 0) rfl rfl, gd_prR hPc hK⟩ rfl rfl hl.1 rfl (lv_room (Nat.le_of_ble_eq_true rfl)) dX4_number_18 ⟨Nat.zero_le _, Nat.zero_le _⟩) (fun r_18 hw => ?_)
      subst hw
      clear hPc
      refine lv_if_ne (tgt := 27) hx hb dX4_number_21 (by decide) (fun c_6 => ?_) (fun c_6 => ?_)
      · skip
        refine lv_iload_n hx hb dX4_number_27 rfl (lv_at hl 4 rfl) ?_
        refine lv_if_lt (tgt := 40) hx hb dX4_number_28 (by decide) (fun c_7 => ?_) (fun c_7 => ?_)
        · skip
          refine lv_ldc hx hb hown k_1 dX4_number_40 ?_
          have he : z4_number np gp nl gl nc gc s i k = (-1000003) := by unfold z4_number; rw [if_neg c_1, if_pos c_5, if_neg c_6, if_pos c_7]
          exact rr_i hx hb hr hlk dX4_number_42 he.symm
        · skip
          refine lv_iload_n hx hb dX4_number_31 rfl (lv_at hl 4 rfl) ?_
          refine lv_aload hx hb dX4_number_32 (lv_at hl 0 rfl) ?_
          refine va_getN (D := D) (ci := 2) (v := .int 3) (C := RX2) (T := TX2) (N := 3) hx hb hts k_2 hown hK.1 hP 3 rfl rfl 0 (by decide) (nw_f hK.2 0 rfl) (fun _ h9 => h9) rfl dX4_number_34 ?_
          refine lv_icmp_lt (tgt := 43) hx hb dX4_number_37 (by decide) (fun c_8 => ?_) (fun c_8 => ?_)
          · skip
            refine lv_aload hx hb dX4_number_43 (lv_at hl 0 rfl) ?_
            refine lv_iload_n hx hb dX4_number_45 rfl (lv_at hl 3 rfl) ?_
            refine lv_iload_n hx hb dX4_number_46 rfl (lv_at hl 4 rfl) ?_
            have hPc := hP.sub (ws' := [kS oL 3 ql nl, kA ql cI 180 gl]) [3, 4] rfl
            refine cr_i (va_runV (As := [.int i, .int k]) (rest := []) ⟨hx, hb, hml, hown, hts⟩ (c_X2_get l D cI cJ oL ql 180 3 nl i k gl hsl) (cwV 2 hts gX4_number_X2_get rfl rfl rfl (by decide +kernel) ⟨Nat.le_of_ble_eq_true rfl, Nat.le_of_ble_eq_true rfl⟩) ⟨gd_blR, va_recv hK.1 hPc (ci := 2) (q0 := 0) rfl rfl, gd_prR hPc hK⟩ rfl rfl hl.1 rfl (lv_room (Nat.le_of_ble_eq_true rfl)) dX4_number_47 ⟨Nat.zero_le _, Nat.zero_le _⟩) (fun r_47 hw => ?_)
            subst hw
            clear hPc
            have he : z4_number np gp nl gl nc gc s i k = z2_get 3 nl i k gl := by unfold z4_number; rw [if_neg c_1, if_pos c_5, if_neg c_6, if_neg c_7, if_pos c_8]
            exact rr_i hx hb hr hlk dX4_number_50 he.symm
          · skip
            refine lv_ldc hx hb hown k_1 dX4_number_40 ?_
            have he : z4_number np gp nl gl nc gc s i k = (-1000003) := by unfold z4_number; rw [if_neg c_1, if_pos c_5, if_neg c_6, if_neg c_7, if_neg c_8]
            exact rr_i hx hb hr hlk dX4_number_42 he.symm
      · skip
        refine lv_ldc hx hb hown k_3 dX4_number_24 ?_
        have he : z4_number np gp nl gl nc gc s i k = (-1000002) := by unfold z4_number; rw [if_neg c_1, if_pos c_5, if_pos c_6]
        exact rr_i hx hb hr hlk dX4_number_26 he.symm
    · skip
      by_cases c_9 : s = 2
      · skip
        refine lv_aload_n hx hb dX4_number_0 rfl (lv_at hl 0 rfl) ?_
        refine lv_iload_n hx hb dX4_number_1 rfl (lv_at hl 1 rfl) ?_
        have hPc := hP.sub (ws' := [kC o oP oL oC oX oY oF oS oT oM fL fR fN fM oR]) [0] rfl
        refine cr_a (va_runV (As := [.int s]) (rest := []) ⟨hx, hb, hml, hown, hts⟩ (c_X4_shelfOf_2 l D cI cJ o oP oL oC oX oY oF oS oT oM fL fR fN fM oR s c_9) (cwV 1 hts gX4_number_X4_shelfOf rfl rfl rfl (by decide +kernel) ⟨Nat.le_of_ble_eq_true rfl, Nat.le_of_ble_eq_true rfl⟩) ⟨gd_blR, va_recv hK.1 hPc (ci := 4) (q0 := 0) rfl rfl, gd_prR hPc hK⟩ rfl rfl hl.1 rfl (lv_room (Nat.le_of_ble_eq_true rfl)) dX4_number_2 ⟨Nat.zero_le _, Nat.zero_le _⟩) ?_
        clear hPc
        refine lv_astore (lv' := [(4, .ref oC), (0, .ref o), (1, .int s), (2, .int i), (3, .int k)]) hx hb dX4_number_5 hl (by decide) rfl (fun ls hl => ?_)
        refine lv_aload hx hb dX4_number_7 (lv_at hl 0 rfl) ?_
        refine lv_ifnonnull (tgt := 15) hx hb dX4_number_9 (by decide) ?_
        refine lv_aload hx hb dX4_number_15 (lv_at hl 0 rfl) ?_
        refine lv_iload_n hx hb dX4_number_17 rfl (lv_at hl 3 rfl) ?_
        have hPc := hP.sub (ws' := [kS oC 6 qc nc]) [5] rfl
        refine cr_i (va_runV (As := [.int i]) (rest := []) ⟨hx, hb, hml, hown, hts⟩ (c_X2_has l D cI cJ oC qc 6 nc i) (cwV 1 hts gX4_number_X2_has rfl rfl rfl (by decide +kernel) ⟨Nat.le_of_ble_eq_true rfl, Nat.le_of_ble_eq_true rfl⟩) ⟨gd_blR, va_recv hK.1 hPc (ci := 2) (q0 := 0) rfl rfl, gd_prR hPc hK⟩ rfl rfl hl.1 rfl (lv_room (Nat.le_of_ble_eq_true rfl)) dX4_number_18 ⟨Nat.zero_le _, Nat.zero_le _⟩) (fun r_18 hw => ?_)
        subst hw
        clear hPc
        refine lv_if_ne (tgt := 27) hx hb dX4_number_21 (by decide) (fun c_10 => ?_) (fun c_10 => ?_)
        · skip
          refine lv_iload_n hx hb dX4_number_27 rfl (lv_at hl 4 rfl) ?_
          refine lv_if_lt (tgt := 40) hx hb dX4_number_28 (by decide) (fun c_11 => ?_) (fun c_11 => ?_)
          · skip
            refine lv_ldc hx hb hown k_1 dX4_number_40 ?_
            have he : z4_number np gp nl gl nc gc s i k = (-1000003) := by unfold z4_number; rw [if_neg c_1, if_neg c_5, if_pos c_9, if_neg c_10, if_pos c_11]
            exact rr_i hx hb hr hlk dX4_number_42 he.symm
          · skip
            refine lv_iload_n hx hb dX4_number_31 rfl (lv_at hl 4 rfl) ?_
            refine lv_aload hx hb dX4_number_32 (lv_at hl 0 rfl) ?_
            refine va_getN (D := D) (ci := 2) (v := .int 6) (C := RX2) (T := TX2) (N := 3) hx hb hts k_2 hown hK.1 hP 5 rfl rfl 0 (by decide) (nw_f hK.2 0 rfl) (fun _ h9 => h9) rfl dX4_number_34 ?_
            refine lv_icmp_lt (tgt := 43) hx hb dX4_number_37 (by decide) (fun c_12 => ?_) (fun c_12 => ?_)
            · skip
              refine lv_aload hx hb dX4_number_43 (lv_at hl 0 rfl) ?_
              refine lv_iload_n hx hb dX4_number_45 rfl (lv_at hl 3 rfl) ?_
              refine lv_iload_n hx hb dX4_number_46 rfl (lv_at hl 4 rfl) ?_
              have hPc := hP.sub (ws' := [kS oC 6 qc nc, kA qc cI 360 gc]) [5, 6] rfl
              refine cr_i (va_runV (As := [.int i, .int k]) (rest := []) ⟨hx, hb, hml, hown, hts⟩ (c_X2_get l D cI cJ oC qc 360 6 nc i k gc hsc) (cwV 2 hts gX4_number_X2_get rfl rfl rfl (by decide +kernel) ⟨Nat.le_of_ble_eq_true rfl, Nat.le_of_ble_eq_true rfl⟩) ⟨gd_blR, va_recv hK.1 hPc (ci := 2) (q0 := 0) rfl rfl, gd_prR hPc hK⟩ rfl rfl hl.1 rfl (lv_room (Nat.le_of_ble_eq_true rfl)) dX4_number_47 ⟨Nat.zero_le _, Nat.zero_le _⟩) (fun r_47 hw => ?_)
              subst hw
              clear hPc
              have he : z4_number np gp nl gl nc gc s i k = z2_get 6 nc i k gc := by unfold z4_number; rw [if_neg c_1, if_neg c_5, if_pos c_9, if_neg c_10, if_neg c_11, if_pos c_12]
              exact rr_i hx hb hr hlk dX4_number_50 he.symm
            · skip
              refine lv_ldc hx hb hown k_1 dX4_number_40 ?_
              have he : z4_number np gp nl gl nc gc s i k = (-1000003) := by unfold z4_number; rw [if_neg c_1, if_neg c_5, if_pos c_9, if_neg c_10, if_neg c_11, if_neg c_12]
              exact rr_i hx hb hr hlk dX4_number_42 he.symm
        · skip
          refine lv_ldc hx hb hown k_3 dX4_number_24 ?_
          have he : z4_number np gp nl gl nc gc s i k = (-1000002) := by unfold z4_number; rw [if_neg c_1, if_neg c_5, if_pos c_9, if_pos c_10]
          exact rr_i hx hb hr hlk dX4_number_26 he.symm
      · skip
        refine lv_aload_n hx hb dX4_number_0 rfl (lv_at hl 0 rfl) ?_
        refine lv_iload_n hx hb dX4_number_1 rfl (lv_at hl 1 rfl) ?_
        have hPc := hP.sub (ws' := [kC o oP oL oC oX oY oF oS oT oM fL fR fN fM oR]) [0] rfl
        refine cr_a (va_runV (As := [.int s]) (rest := []) ⟨hx, hb, hml, hown, hts⟩ (c_X4_shelfOf_n l D cI cJ o oP oL oC oX oY oF oS oT oM fL fR fN fM oR s c_1 c_5 c_9) (cwV 1 hts gX4_number_X4_shelfOf rfl rfl rfl (by decide +kernel) ⟨Nat.le_of_ble_eq_true rfl, Nat.le_of_ble_eq_true rfl⟩) ⟨gd_blR, va_recv hK.1 hPc (ci := 4) (q0 := 0) rfl rfl, gd_prR hPc hK⟩ rfl rfl hl.1 rfl (lv_room (Nat.le_of_ble_eq_true rfl)) dX4_number_2 ⟨Nat.zero_le _, Nat.zero_le _⟩) ?_
        clear hPc
        refine lv_astoreN (lv' := [(4, .null), (0, .ref o), (1, .int s), (2, .int i), (3, .int k)]) hx hb dX4_number_5 hl (by decide) rfl (fun ls hl => ?_)
        refine lv_aloadN hx hb dX4_number_7 (lv_at hl 0 rfl) ?_
        refine lv_ifnonnullN hx hb dX4_number_9 ?_
        refine lv_ldc hx hb hown k_1 dX4_number_12 ?_
        have he : z4_number np gp nl gl nc gc s i k = (-1000003) := by unfold z4_number; rw [if_neg c_1, if_neg c_5, if_neg c_9]
        exact rr_i hx hb hr hlk dX4_number_14 he.symm
