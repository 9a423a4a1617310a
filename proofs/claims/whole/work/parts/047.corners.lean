-- laid by wip/whole/gen
theorem mr_inF {l : Launch} {y : MethodName} {ws ws' : List Cond} {rm : Room} {D : va_G} {cI cJ : ClassId} {av : List Value} {w : va_W} {Q : Array Value → State → Outcome → State → Prop} {cc : ByteArray} {maxL : Nat} {ret : Option FieldType} {lv : List (Nat × Value)}
    (hy : plainFor y = true) (hw : ws = Cond.code y cc maxL ret :: ws') (hlen : (lg_sl av).length ≤ maxL) (hlv : lv_args 0 av = lv)
    (body : ∀ (p : Program) (e : Env) (s : State) (m : MethodId) (below : List Frame) (meth : Method) (c : Code) (ls : Array Slot), p.tables.exec = Jvm.exec → c.code = cc → meth.sig.returnType = ret → c.maxLocals = maxL → s.vm.findClass y.cls = some m.cls → (∀ x ∈ ws, x.before av.toArray s = true) → meth.locks = false →
      va_P D vwCl w s.heap → gd_K D cI cJ s → lv_has ls maxL lv →
      W p l e (headSpec ws rm).room s m av.toArray below meth c s.heap [] 0 0 (MQ below Q av.toArray s 0 0 (fun _ => False)) (F0 m 0 ls [])) : mr_C l y ws rm D cI cJ av w Q := by
  refine va_MetF (cc := cc) (maxL := maxL) (ret := ret) hy hw ?_
  intro p e s m args below meth c s₁ B hml hv
  obtain ⟨rfl, hP, hK⟩ := hv
  have hl := lv_entry av (n := maxL) hlen
  rw [hlv] at hl
  rw [lg_entry_eq]
  exact body p e s m below meth c _ B.exec B.bytes B.returns hml (findClass_of_methodNamed B.named) (atoms_spec (ws := ws) B.pre) B.notSynchronized hP hK hl
def z9_floorMod (x : Int32) (y : Int32) : Int32 := if 0 ≤ (x ^^^ y) then x - x / y * y else if (x - x / y * y) = 0 then x - x / y * y else (x - x / y * y) + y
set_option maxHeartbeats 4000000 in
set_option maxRecDepth 100000 in
/-- J9.floorMod -/
theorem c_J9_floorMod (l : Launch) (D : va_G) (cI cJ : ClassId) (x : Int32) (y : Int32) (hy : ¬ y = 0) : mr_C l yJ9_floorMod_7cf53 wsJ9_floorMod_7cf53 ({ frames := 0, cells := 0, slots := 0, locals := 0 }) D cI cJ [.int x, .int y] [] (vp_Si (fun r : Int32 => r = z9_floorMod x y)) := by
  refine mr_inF (cc := cJ9_floorMod_7cf53) (lv := [(0, .int x), (1, .int y)]) (by decide +kernel) rfl (Nat.le_of_ble_eq_true rfl) rfl ?_
  intro pG eG sG mG below meth cG ls hx hb hr hml hown hts hlk hP hK hl
  have hown : sG.vm.findClass RJ9 = some mG.cls := hown
  refine lv_iload_n hx hb dJ9_floorMod_7cf53_0 rfl (lv_at hl 0 rfl) ?_
  refine lv_iload_n hx hb dJ9_floorMod_7cf53_1 rfl (lv_at hl 1 rfl) ?_
  refine lv_irem hx hb dJ9_floorMod_7cf53_2 hy ?_
  refine lv_istore_n (lv' := [(2, .int (x - x / y * y)), (0, .int x), (1, .int y)]) hx hb dJ9_floorMod_7cf53_3 rfl hl (by decide) rfl (fun ls hl => ?_)
  refine lv_iload_n hx hb dJ9_floorMod_7cf53_4 rfl (lv_at hl 1 rfl) ?_
  refine lv_iload_n hx hb dJ9_floorMod_7cf53_5 rfl (lv_at hl 2 rfl) ?_
  refine lv_ixor hx hb dJ9_floorMod_7cf53_6 ?_
  refine lv_if_ge (tgt := 18) hx hb dJ9_floorMod_7cf53_7 (by decide) (fun c_1 => ?_) (fun c_1 => ?_)
  · skip
    refine lv_iload_n hx hb dJ9_floorMod_7cf53_18 rfl (lv_at hl 0 rfl) ?_
    have he : z9_floorMod x y = x - x / y * y := by unfold z9_floorMod; rw [if_pos c_1]
    exact rr_i hx hb hr hlk dJ9_floorMod_7cf53_19 he.symm
  · skip
    refine lv_iload_n hx hb dJ9_floorMod_7cf53_10 rfl (lv_at hl 0 rfl) ?_
    refine lv_if_eq (tgt := 18) hx hb dJ9_floorMod_7cf53_11 (by decide) (fun c_2 => ?_) (fun c_2 => ?_)
    · skip
      refine lv_iload_n hx hb dJ9_floorMod_7cf53_18 rfl (lv_at hl 0 rfl) ?_
      have he : z9_floorMod x y = x - x / y * y := by unfold z9_floorMod; rw [if_neg c_1, if_pos c_2]
      exact rr_i hx hb hr hlk dJ9_floorMod_7cf53_19 he.symm
    · skip
      refine lv_iload_n hx hb dJ9_floorMod_7cf53_14 rfl (lv_at hl 0 rfl) ?_
      refine lv_iload_n hx hb dJ9_floorMod_7cf53_15 rfl (lv_at hl 2 rfl) ?_
      refine lv_iadd hx hb dJ9_floorMod_7cf53_16 ?_
      have he : z9_floorMod x y = (x - x / y * y) + y := by unfold z9_floorMod; rw [if_neg c_1, if_neg c_2]
      exact rr_i hx hb hr hlk dJ9_floorMod_7cf53_17 he.symm
theorem fm_in {i : Int32} (h0 : 0 ≤ i.toInt) (h1 : i.toInt < 100) : vp_in (z9_floorMod i 5) 5 := by
  have z0 : (0 : Int32).toInt = 0 := by decide
  have z1 : (100 : Int32).toInt = 100 := by decide
  obtain ⟨j, hj, rfl⟩ := nI_of2 (M := 100) (n := 100) (by decide) (show ¬ i < 0 by rw [i32_lt, z0]; omega) (by rw [i32_le, z1]; omega)
  have key : (List.range 101).all (fun j => decide (¬ (z9_floorMod (nI j) 5 < 0 ∨ 5 ≤ (z9_floorMod (nI j) 5).toNatClampNeg))) = true := by decide +kernel
  have h2 := of_decide_eq_true (List.all_eq_true.mp key j (List.mem_range.mpr (by omega)))
  exact h2
def z4_cornerAfter (gr : Nat → Int32) (i : Int32) (k : Int32) : Int32 := gr ((z9_floorMod (i + k) 5).toNatClampNeg)
set_option maxHeartbeats 4000000 in
set_option maxRecDepth 100000 in
/-- X4.cornerAfter -/
theorem c_X4_cornerAfter (l : Launch) (D : va_G) (cI cJ : ClassId) (o : Nat) (oP : Nat) (oL : Nat) (oC : Nat) (oX : Nat) (oY : Nat) (oF : Nat) (oS : Nat) (oT : Nat) (oM : Nat) (fL : Nat) (fR : Nat) (fN : Nat) (fM : Nat) (oR : Nat) (gr : Nat → Int32) (i : Int32) (k : Int32) (h0 : 0 ≤ (i + k).toInt) (h1 : (i + k).toInt < 100) : mr_C l yX4_cornerAfter wsX4_cornerAfter ({ frames := 1, cells := 0, slots := 0, locals := 22 }) D cI cJ [.ref o, .int i, .int k] [kC o oP oL oC oX oY oF oS oT oM fL fR fN fM oR, kA oR cI 5 gr] (vp_Si (fun r : Int32 => r = z4_cornerAfter gr i k)) := by
  refine mr_in (cc := cX4_cornerAfter) (lv := [(0, .ref o), (1, .int i), (2, .int k)]) (by decide) rfl (Nat.le_of_ble_eq_true rfl) rfl ?_
  intro pG eG sG mG below meth cG ls hx hb hr hml hown hts hlk hP hK hl
  have hown : sG.vm.findClass RX4 = some mG.cls := hown
  have k_1 := hts (.fieldLink RX4 66 "ConicRows" "corners" "[I") (by decide +kernel)
  have k_2 : ∀ w ∈ wsX40, w ∈ wsX4_cornerAfter := by decide +kernel
  refine lv_aload_n hx hb dX4_cornerAfter_0 rfl (lv_at hl 0 rfl) ?_
  refine va_get (D := D) (ci := 4) (v := .ref oR) (C := RX4) (T := TX4) (N := 14) hx hb hts k_2 hown hK.1 hP 0 rfl rfl 13 (by decide) k_1 (fun _ h9 => h9) rfl dX4_cornerAfter_1 ?_
  refine lv_iload_n hx hb dX4_cornerAfter_4 rfl (lv_at hl 1 rfl) ?_
  refine lv_iload_n hx hb dX4_cornerAfter_5 rfl (lv_at hl 2 rfl) ?_
  refine lv_iadd hx hb dX4_cornerAfter_6 ?_
  refine lv_iconst (v := 5) hx hb dX4_cornerAfter_7 (by decide) ?_
  have hPc := hP.sub (ws' := []) [] rfl
  refine cr_i (va_runS (As := [.int (i + k), .int 5]) (rest := [.ref oR]) ⟨hx, hb, hml, hown, hts⟩ (c_J9_floorMod l D cI cJ (i + k) 5 (by decide)) (va_cwS 2 hts gX4_cornerAfter_J9_floorMod_7cf53 rfl rfl rfl (by decide +kernel) ⟨Nat.le_of_ble_eq_true rfl, Nat.le_of_ble_eq_true rfl⟩) ⟨gd_blR, gd_prR hPc hK⟩ rfl rfl hl.1 rfl (lv_room (Nat.le_of_ble_eq_true rfl)) dX4_cornerAfter_8 ⟨Nat.zero_le _, Nat.zero_le _⟩) (fun r_8 hw => ?_)
  subst hw
  clear hPc
  refine ld_i hx hb hK.1 hP 1 0 rfl rfl (fm_in h0 h1) ((z9_floorMod (i + k) 5).toNatClampNeg) rfl (v := gr ((z9_floorMod (i + k) 5).toNatClampNeg)) rfl dX4_cornerAfter_11 ?_
  exact rr_i hx hb hr hlk dX4_cornerAfter_12 rfl
def z2_areSame (n : Int32) (i : Int32) (j : Int32) (f : Nat → Int32) : Int32 := if (z2_get 3 n i 0 f) = (z2_get 3 n j 0 f) then if (z2_get 3 n i 1 f) = (z2_get 3 n j 1 f) then if (z2_get 3 n i 2 f) = (z2_get 3 n j 2 f) then 1 else 0 else 0 else 0
set_option maxHeartbeats 4000000 in
set_option maxRecDepth 100000 in
/-- X2.areSame -/
theorem c_X2_areSame (l : Launch) (D : va_G) (cI cJ : ClassId) (h : Nat) (q : Nat) (n : Int32) (i : Int32) (j : Int32) (f : Nat → Int32) (hs : sh_ok 3 180 n) : mr_C l yX2_areSame wsX2_areSame ({ frames := 2, cells := 0, slots := 0, locals := 43 }) D cI cJ [.ref h, .int i, .int j] [kS h 3 q n, kA q cI 180 f] (vp_Si (fun r : Int32 => r = z2_areSame n i j f)) := by
  refine mr_in (cc := cX2_areSame) (lv := [(0, .ref h), (1, .int i), (2, .int j)]) (by decide) rfl (Nat.le_of_ble_eq_true rfl) rfl ?_
  intro pG eG sG mG below meth cG ls hx hb hr hml hown hts hlk hP hK hl
  have hown : sG.vm.findClass RX2 = some mG.cls := hown
  have k_1 := hts (.fieldLink RX2 9 "ConicRows$Shelf" "width" "I") (by decide +kernel)
  have k_2 : ∀ w ∈ wsX20, w ∈ wsX2_areSame := by decide +kernel
  refine lv_iconst (v := 0) hx hb dX2_areSame_0 (by decide) ?_
  refine lv_istore_n (lv' := [(3, .int 0), (0, .ref h), (1, .int i), (2, .int j)]) hx hb dX2_areSame_1 rfl hl (by decide) rfl (fun ls hl => ?_)
  refine lv_iload_n hx hb dX2_areSame_2 rfl (lv_at hl 0 rfl) ?_
  refine lv_aload_n hx hb dX2_areSame_3 rfl (lv_at hl 1 rfl) ?_
  refine va_get (D := D) (ci := 2) (v := .int 3) (C := RX2) (T := TX2) (N := 3) hx hb hts k_2 hown hK.1 hP 0 rfl rfl 0 (by decide) k_1 (fun _ h9 => h9) rfl dX2_areSame_4 ?_
  refine lv_icmp_ge (tgt := 33) hx hb dX2_areSame_7 (by decide) (fun h => absurd h (by decide)) (fun _ => ?_)
  refine lv_aload_n hx hb dX2_areSame_10 rfl (lv_at hl 1 rfl) ?_
  refine lv_iload_n hx hb dX2_areSame_11 rfl (lv_at hl 2 rfl) ?_
  refine lv_iload_n hx hb dX2_areSame_12 rfl (lv_at hl 0 rfl) ?_
  have hPc := hP.sub (ws' := [kS h 3 q n, kA q cI 180 f]) [0, 1] rfl
  refine cr_i (va_runV (As := [.int i, .int 0]) (rest := []) ⟨hx, hb, hml, hown, hts⟩ (c_X2_get l D cI cJ h q 180 3 n i 0 f hs) (cwV 2 hts gX2_areSame_X2_get rfl rfl rfl (by decide +kernel) ⟨Nat.le_of_ble_eq_true rfl, Nat.le_of_ble_eq_true rfl⟩) ⟨gd_blR, va_recv hK.1 hPc (ci := 2) (q0 := 0) rfl rfl, gd_prR hPc hK⟩ rfl rfl hl.1 rfl (lv_room (Nat.le_of_ble_eq_true rfl)) dX2_areSame_13 ⟨Nat.zero_le _, Nat.zero_le _⟩) (fun r_13 hw => ?_)
  subst hw
  clear hPc
  refine lv_aload_n hx hb dX2_areSame_16 rfl (lv_at hl 1 rfl) ?_
  refine lv_iload_n hx hb dX2_areSame_17 rfl (lv_at hl 3 rfl) ?_
  refine lv_iload_n hx hb dX2_areSame_18 rfl (lv_at hl 0 rfl) ?_
  have hPc := hP.sub (ws' := [kS h 3 q n, kA q cI 180 f]) [0, 1] rfl
  refine cr_i (va_runV (As := [.int j, .int 0]) (rest := [.int (z2_get 3 n i 0 f)]) ⟨hx, hb, hml, hown, hts⟩ (c_X2_get l D cI cJ h q 180 3 n j 0 f hs) (cwV 2 hts gX2_areSame_X2_get rfl rfl rfl (by decide +kernel) ⟨Nat.le_of_ble_eq_true rfl, Nat.le_of_ble_eq_true rfl⟩) ⟨gd_blR, va_recv hK.1 hPc (ci := 2) (q0 := 0) rfl rfl, gd_prR hPc hK⟩ rfl rfl hl.1 rfl (lv_room (Nat.le_of_ble_eq_true rfl)) dX2_areSame_19 ⟨Nat.zero_le _, Nat.zero_le _⟩) (fun r_19 hw => ?_)
  subst hw
  clear hPc
  refine lv_icmp_eq (tgt := 27) hx hb dX2_areSame_22 (by decide) (fun c_1 => ?_) (fun c_1 => ?_)
  · skip
    refine lv_iinc (v := 1) (lv' := [(3, .int 1), (0, .ref h), (1, .int i), (2, .int j)]) hx hb dX2_areSame_27 hl (k := 0) rfl (by decide) (by decide) rfl (fun ls hl => ?_)
    refine lv_goto (tgt := 2) hx hb dX2_areSame_30 (by decide) ?_
    refine lv_iload_n hx hb dX2_areSame_2 rfl (lv_at hl 0 rfl) ?_
    refine lv_aload_n hx hb dX2_areSame_3 rfl (lv_at hl 1 rfl) ?_
    refine va_get (D := D) (ci := 2) (v := .int 3) (C := RX2) (T := TX2) (N := 3) hx hb hts k_2 hown hK.1 hP 0 rfl rfl 0 (by decide) k_1 (fun _ h9 => h9) rfl dX2_areSame_4 ?_
    refine lv_icmp_ge (tgt := 33) hx hb dX2_areSame_7 (by decide) (fun h => absurd h (by decide)) (fun _ => ?_)
    refine lv_aload_n hx hb dX2_areSame_10 rfl (lv_at hl 1 rfl) ?_
    refine lv_iload_n hx hb dX2_areSame_11 rfl (lv_at hl 2 rfl) ?_
    refine lv_iload_n hx hb dX2_areSame_12 rfl (lv_at hl 0 rfl) ?_
    have hPc := hP.sub (ws' := [kS h 3 q n, kA q cI 180 f]) [0, 1] rfl
    refine cr_i (va_runV (As := [.int i, .int 1]) (rest := []) ⟨hx, hb, hml, hown, hts⟩ (c_X2_get l D cI cJ h q 180 3 n i 1 f hs) (cwV 2 hts gX2_areSame_X2_get rfl rfl rfl (by decide +kernel) ⟨Nat.le_of_ble_eq_true rfl, Nat.le_of_ble_eq_true rfl⟩) ⟨gd_blR, va_recv hK.1 hPc (ci := 2) (q0 := 0) rfl rfl, gd_prR hPc hK⟩ rfl rfl hl.1 rfl (lv_room (Nat.le_of_ble_eq_true rfl)) dX2_areSame_13 ⟨Nat.zero_le _, Nat.zero_le _⟩) (fun r_13 hw => ?_)
    subst hw
    clear hPc
    refine lv_aload_n hx hb dX2_areSame_16 rfl (lv_at hl 1 rfl) ?_
    refine lv_iload_n hx hb dX2_areSame_17 rfl (lv_at hl 3 rfl) ?_
    refine lv_iload_n hx hb dX2_areSame_18 rfl (lv_at hl 0 rfl) ?_
    have hPc := hP.sub (ws' := [kS h 3 q n, kA q cI 180 f]) [0, 1] rfl
    refine cr_i (va_runV (As := [.int j, .int 1]) (rest := [.int (z2_get 3 n i 1 f)]) ⟨hx, hb, hml, hown, hts⟩ (c_X2_get l D cI cJ h q 180 3 n j 1 f hs) (cwV 2 hts gX2_areSame_X2_get rfl rfl rfl (by decide +kernel) ⟨Nat.le_of_ble_eq_true rfl, Nat.le_of_ble_eq_true rfl⟩) ⟨gd_blR, va_recv hK.1 hPc (ci := 2) (q0 := 0) rfl rfl, gd_prR hPc hK⟩ rfl rfl hl.1 rfl (lv_room (Nat.le_of_ble_eq_true rfl)) dX2_areSame_19 ⟨Nat.zero_le _, Nat.zero_le _⟩) (fun r_19 hw => ?_)
    subst hw
    clear hPc
    refine lv_icmp_eq (tgt := 27) hx hb dX2_areSame_22 (by decide) (fun c_2 => ?_) (fun c_2 => ?_)
    · skip
      refine lv_iinc (v := 2) (lv' := [(3, .int 2), (0, .ref h), (1, .int i), (2, .int j)]) hx hb dX2_areSame_27 hl (k := 0) rfl (by decide) (by decide) rfl (fun ls hl => ?_)
      refine lv_goto (tgt := 2) hx hb dX2_areSame_30 (by decide) ?_
      refine lv_iload_n hx hb dX2_areSame_2 rfl (lv_at hl 0 rfl) ?_
      refine lv_aload_n hx hb dX2_areSame_3 rfl (lv_at hl 1 rfl) ?_
      refine va_get (D := D) (ci := 2) (v := .int 3) (C := RX2) (T := TX2) (N := 3) hx hb hts k_2 hown hK.1 hP 0 rfl rfl 0 (by decide) k_1 (fun _ h9 => h9) rfl dX2_areSame_4 ?_
      refine lv_icmp_ge (tgt := 33) hx hb dX2_areSame_7 (by decide) (fun h => absurd h (by decide)) (fun _ => ?_)
      refine lv_aload_n hx hb dX2_areSame_10 rfl (lv_at hl 1 rfl) ?_
      refine lv_iload_n hx hb dX2_areSame_11 rfl (lv_at hl 2 rfl) ?_
      refine lv_iload_n hx hb dX2_areSame_12 rfl (lv_at hl 0 rfl) ?_
      have hPc := hP.sub (ws' := [kS h 3 q n, kA q cI 180 f]) [0, 1] rfl
      refine cr_i (va_runV (As := [.int i, .int 2]) (rest := []) ⟨hx, hb, hml, hown, hts⟩ (c_X2_get l D cI cJ h q 180 3 n i 2 f hs) (cwV 2 hts gX2_areSame_X2_get rfl rfl rfl (by decide +kernel) ⟨Nat.le_of_ble_eq_true rfl, Nat.le_of_ble_eq_true rfl⟩) ⟨gd_blR, va_recv hK.1 hPc (ci := 2) (q0 := 0) rfl rfl, gd_prR hPc hK⟩ rfl rfl hl.1 rfl (lv_room (Nat.le_of_ble_eq_true rfl)) dX2_areSame_13 ⟨Nat.zero_le _, Nat.zero_le _⟩) (fun r_13 hw => ?_)
      subst hw
      clear hPc
      refine lv_aload_n hx hb dX2_areSame_16 rfl (lv_at hl 1 rfl) ?_
      refine lv_iload_n hx hb dX2_areSame_17 rfl (lv_at hl 3 rfl) ?_
      refine lv_iload_n hx hb dX2_areSame_18 rfl (lv_at hl 0 rfl) ?_
      have hPc := hP.sub (ws' := [kS h 3 q n, kA q cI 180 f]) [0, 1] rfl
      refine cr_i (va_runV (As := [.int j, .int 2]) (rest := [.int (z2_get 3 n i 2 f)]) ⟨hx, hb, hml, hown, hts⟩ (c_X2_get l D cI cJ h q 180 3 n j 2 f hs) (cwV 2 hts gX2_areSame_X2_get rfl rfl rfl (by decide +kernel) ⟨Nat.le_of_ble_eq_true rfl, Nat.le_of_ble_eq_true rfl⟩) ⟨gd_blR, va_recv hK.1 hPc (ci := 2) (q0 := 0) rfl rfl, gd_prR hPc hK⟩ rfl rfl hl.1 rfl (lv_room (Nat.le_of_ble_eq_true rfl)) dX2_areSame_19 ⟨Nat.zero_le _, Nat.zero_le _⟩) (fun r_19 hw => ?_)
      subst hw
      clear hPc
      refine lv_icmp_eq (tgt := 27) hx hb dX2_areSame_22 (by decide) (fun c_3 => ?_) (fun c_3 => ?_)
      · skip
        refine lv_iinc (v := 3) (lv' := [(3, .int 3), (0, .ref h), (1, .int i), (2, .int j)]) hx hb dX2_areSame_27 hl (k := 0) rfl (by decide) (by decide) rfl (fun ls hl => ?_)
        refine lv_goto (tgt := 2) hx hb dX2_areSame_30 (by decide) ?_
        refine lv_iload_n hx hb dX2_areSame_2 rfl (lv_at hl 0 rfl) ?_
        refine lv_aload_n hx hb dX2_areSame_3 rfl (lv_at hl 1 rfl) ?_
        refine va_get (D := D) (ci := 2) (v := .int 3) (C := RX2) (T := TX2) (N := 3) hx hb hts k_2 hown hK.1 hP 0 rfl rfl 0 (by decide) k_1 (fun _ h9 => h9) rfl dX2_areSame_4 ?_
        refine lv_icmp_ge (tgt := 33) hx hb dX2_areSame_7 (by decide) (fun _ => ?_) (fun h => absurd (by decide) h)
        refine lv_iconst (v := 1) hx hb dX2_areSame_33 (by decide) ?_
        have he : z2_areSame n i j f = 1 := by unfold z2_areSame; rw [if_pos c_1, if_pos c_2, if_pos c_3]
        exact rr_z hx hb hr rfl hlk dX2_areSame_34 he.symm
      · skip
        refine lv_iconst (v := 0) hx hb dX2_areSame_25 (by decide) ?_
        have he : z2_areSame n i j f = 0 := by unfold z2_areSame; rw [if_pos c_1, if_pos c_2, if_neg c_3]
        exact rr_z hx hb hr rfl hlk dX2_areSame_26 he.symm
    · skip
      refine lv_iconst (v := 0) hx hb dX2_areSame_25 (by decide) ?_
      have he : z2_areSame n i j f = 0 := by unfold z2_areSame; rw [if_pos c_1, if_neg c_2]
      exact rr_z hx hb hr rfl hlk dX2_areSame_26 he.symm
  · skip
    refine lv_iconst (v := 0) hx hb dX2_areSame_25 (by decide) ?_
    have he : z2_areSame n i j f = 0 := by unfold z2_areSame; rw [if_neg c_1]
    exact rr_z hx hb hr rfl hlk dX2_areSame_26 he.symm
def z4_twoCornersAreSame (np : Int32) (gp : Nat → Int32) (gr : Nat → Int32) : Int32 := if (z2_areSame np (gr 0) (gr 1) gp) = 0 then if (z2_areSame np (gr 0) (gr 2) gp) = 0 then if (z2_areSame np (gr 0) (gr 3) gp) = 0 then if (z2_areSame np (gr 0) (gr 4) gp) = 0 then if (z2_areSame np (gr 1) (gr 2) gp) = 0 then if (z2_areSame np (gr 1) (gr 3) gp) = 0 then if (z2_areSame np (gr 1) (gr 4) gp) = 0 then if (z2_areSame np (gr 2) (gr 3) gp) = 0 then if (z2_areSame np (gr 2) (gr 4) gp) = 0 then if (z2_areSame np (gr 3) (gr 4) gp) = 0 then 0 else 1 else 1 else 1 else 1 else 1 else 1 else 1 else 1 else 1 else 1
set_option maxHeartbeats 4000000 in
set_option maxRecDepth 100000 in
/-- X4.twoCornersAreSame -/
theorem c_X4_twoCornersAreSame (l : Launch) (D : va_G) (cI cJ : ClassId) (o : Nat) (oP : Nat) (oL : Nat) (oC : Nat) (oX : Nat) (oY : Nat) (oF : Nat) (oS : Nat) (oT : Nat) (oM : Nat) (fL : Nat) (fR : Nat) (fN : Nat) (fM : Nat) (oR : Nat) (qp : Nat) (np : Int32) (gp : Nat → Int32) (gr : Nat → Int32) (hsp : sh_ok 3 180 np) : mr_C l yX4_twoCornersAreSame wsX4_twoCornersAreSame ({ frames := 3, cells := 0, slots := 0, locals := 66 }) D cI cJ [.ref o] [kC o oP oL oC oX oY oF oS oT oM fL fR fN fM oR, kS oP 3 qp np, kA qp cI 180 gp, kA oR cI 5 gr] (vp_Si (fun r : Int32 => r = z4_twoCornersAreSame np gp gr)) := by
  refine mr_in (cc := cX4_twoCornersAreSame) (lv := [(0, .ref o)]) (by decide) rfl (Nat.le_of_ble_eq_true rfl) rfl ?_
  intro pG eG sG mG below meth cG ls hx hb hr hml hown hts hlk hP hK hl
  have hown : sG.vm.findClass RX4 = some mG.cls := hown
  have k_1 := hts (.fieldLink RX4 14 "ConicRows" "points" "LConicRows$Shelf;") (by decide +kernel)
  have k_2 : ∀ w ∈ wsX40, w ∈ wsX4_twoCornersAreSame := by decide +kernel
  have k_3 := hts (.fieldLink RX4 66 "ConicRows" "corners" "[I") (by decide +kernel)
  refine lv_iconst (v := 0) hx hb dX4_twoCornersAreSame_0 (by decide) ?_
  refine lv_istore_n (lv' := [(1, .int 0), (0, .ref o)]) hx hb dX4_twoCornersAreSame_1 rfl hl (by decide) rfl (fun ls hl => ?_)
  refine lv_iload_n hx hb dX4_twoCornersAreSame_2 rfl (lv_at hl 0 rfl) ?_
  refine lv_iconst (v := 5) hx hb dX4_twoCornersAreSame_3 (by decide) ?_
  refine lv_icmp_ge (tgt := 52) hx hb dX4_twoCornersAreSame_4 (by decide) (fun h => absurd h (by decide)) (fun _ => ?_)
  refine lv_iload_n hx hb dX4_twoCornersAreSame_7 rfl (lv_at hl 0 rfl) ?_
  refine lv_iconst (v := 1) hx hb dX4_twoCornersAreSame_8 (by decide) ?_
  refine lv_iadd hx hb dX4_twoCornersAreSame_9 ?_
  refine lv_eqi (v := 1) (by decide) ?_
  refine lv_istore_n (lv' := [(2, .int 1), (1, .int 0), (0, .ref o)]) hx hb dX4_twoCornersAreSame_10 rfl hl (by decide) rfl (fun ls hl => ?_)
  refine lv_iload_n hx hb dX4_twoCornersAreSame_11 rfl (lv_at hl 0 rfl) ?_
  refine lv_iconst (v := 5) hx hb dX4_twoCornersAreSame_12 (by decide) ?_
  refine lv_icmp_ge (tgt := 46) hx hb dX4_twoCornersAreSame_13 (by decide) (fun h => absurd h (by decide)) (fun _ => ?_)
  refine lv_aload_n hx hb dX4_twoCornersAreSame_16 rfl (lv_at hl 2 rfl) ?_
  refine va_get (D := D) (ci := 4) (v := .ref oP) (C := RX4) (T := TX4) (N := 14) hx hb hts k_2 hown hK.1 hP 0 rfl rfl 0 (by decide) k_1 (fun _ h9 => h9) rfl dX4_twoCornersAreSame_17 ?_
  refine lv_aload_n hx hb dX4_twoCornersAreSame_20 rfl (lv_at hl 2 rfl) ?_
  refine va_get (D := D) (ci := 4) (v := .ref oR) (C := RX4) (T := TX4) (N := 14) hx hb hts k_2 hown hK.1 hP 0 rfl rfl 13 (by decide) k_3 (fun _ h9 => h9) rfl dX4_twoCornersAreSame_21 ?_
  refine lv_iload_n hx hb dX4_twoCornersAreSame_24 rfl (lv_at hl 1 rfl) ?_
  refine ld_i hx hb hK.1 hP 3 0 rfl rfl (ix_lit (by decide)) 0 (by decide) (v := gr 0) rfl dX4_twoCornersAreSame_25 ?_
  refine lv_aload_n hx hb dX4_twoCornersAreSame_26 rfl (lv_at hl 2 rfl) ?_
  refine va_get (D := D) (ci := 4) (v := .ref oR) (C := RX4) (T := TX4) (N := 14) hx hb hts k_2 hown hK.1 hP 0 rfl rfl 13 (by decide) k_3 (fun _ h9 => h9) rfl dX4_twoCornersAreSame_27 ?_
  refine lv_iload_n hx hb dX4_twoCornersAreSame_30 rfl (lv_at hl 0 rfl) ?_
  refine ld_i hx hb hK.1 hP 3 0 rfl rfl (ix_lit (by decide)) 1 (by decide) (v := gr 1) rfl dX4_twoCornersAreSame_31 ?_
  have hPc := hP.sub (ws' := [kS oP 3 qp np, kA qp cI 180 gp]) [1, 2] rfl
  refine cr_i (va_runV (As := [.int (gr 0), .int (gr 1)]) (rest := []) ⟨hx, hb, hml, hown, hts⟩ (c_X2_areSame l D cI cJ oP qp np (gr 0) (gr 1) gp hsp) (cwV 2 hts gX4_twoCornersAreSame_X2_areSame rfl rfl rfl (by decide +kernel) ⟨Nat.le_of_ble_eq_true rfl, Nat.le_of_ble_eq_true rfl⟩) ⟨gd_blR, va_recv hK.1 hPc (ci := 2) (q0 := 0) rfl rfl, gd_prR hPc hK⟩ rfl rfl hl.1 rfl (lv_room (Nat.le_of_ble_eq_true rfl)) dX4_twoCornersAreSame_32 ⟨Nat.zero_le _, Nat.zero_le _⟩) (fun r_32 hw => ?_)
  subst hw
  clear hPc
  refine lv_if_eq (tgt := 40) hx hb dX4_twoCornersAreSame_35 (by decide) (fun c_1 => ?_) (fun c_1 => ?_)
  · skip
    refine lv_iinc (v := 2) (lv' := [(2, .int 2), (1, .int 0), (0, .ref o)]) hx hb dX4_twoCornersAreSame_40 hl (k := 0) rfl (by decide) (by decide) rfl (fun ls hl => ?_)
    refine lv_goto (tgt := 11) hx hb dX4_twoCornersAreSame_43 (by decide) ?_
    refine lv_iload_n hx hb dX4_twoCornersAreSame_11 rfl (lv_at hl 0 rfl) ?_
    refine lv_iconst (v := 5) hx hb dX4_twoCornersAreSame_12 (by decide) ?_
    refine lv_icmp_ge (tgt := 46) hx hb dX4_twoCornersAreSame_13 (by decide) (fun h => absurd h (by decide)) (fun _ => ?_)
    refine lv_aload_n hx hb dX4_twoCornersAreSame_16 rfl (lv_at hl 2 rfl) ?_
    refine va_get (D := D) (ci := 4) (v := .ref oP) (C := RX4) (T := TX4) (N := 14) hx hb hts k_2 hown hK.1 hP 0 rfl rfl 0 (by decide) k_1 (fun _ h9 => h9) rfl dX4_twoCornersAreSame_17 ?_
    refine lv_aload_n hx hb dX4_twoCornersAreSame_20 rfl (lv_at hl 2 rfl) ?_
    refine va_get (D := D) (ci := 4) (v := .ref oR) (C := RX4) (T := TX4) (N := 14) hx hb hts k_2 hown hK.1 hP 0 rfl rfl 13 (by decide) k_3 (fun _ h9 => h9) rfl dX4_twoCornersAreSame_21 ?_
    refine lv_iload_n hx hb dX4_twoCornersAreSame_24 rfl (lv_at hl 1 rfl) ?_
    refine ld_i hx hb hK.1 hP 3 0 rfl rfl (ix_lit (by decide)) 0 (by decide) (v := gr 0) rfl dX4_twoCornersAreSame_25 ?_
    refine lv_aload_n hx hb dX4_twoCornersAreSame_26 rfl (lv_at hl 2 rfl) ?_
    refine va_get (D := D) (ci := 4) (v := .ref oR) (C := RX4) (T := TX4) (N := 14) hx hb hts k_2 hown hK.1 hP 0 rfl rfl 13 (by decide) k_3 (fun _ h9 => h9) rfl dX4_twoCornersAreSame_27 ?_
    refine lv_iload_n hx hb dX4_twoCornersAreSame_30 rfl (lv_at hl 0 rfl) ?_
    refine ld_i hx hb hK.1 hP 3 0 rfl rfl (ix_lit (by decide)) 2 (by decide) (v := gr 2) rfl dX4_twoCornersAreSame_31 ?_
    have hPc := hP.sub (ws' := [kS oP 3 qp np, kA qp cI 180 gp]) [1, 2] rfl
    refine cr_i (va_runV (As := [.int (gr 0), .int (gr 2)]) (rest := []) ⟨hx, hb, hml, hown, hts⟩ (c_X2_areSame l D cI cJ oP qp np (gr 0) (gr 2) gp hsp) (cwV 2 hts gX4_twoCornersAreSame_X2_areSame rfl rfl rfl (by decide +kernel) ⟨Nat.le_of_ble_eq_true rfl, Nat.le_of_ble_eq_true rfl⟩) ⟨gd_blR, va_recv hK.1 hPc (ci := 2) (q0 := 0) rfl rfl, gd_prR hPc hK⟩ rfl rfl hl.1 rfl (lv_room (Nat.le_of_ble_eq_true rfl)) dX4_twoCornersAreSame_32 ⟨Nat.zero_le _, Nat.zero_le _⟩) (fun r_32 hw => ?_)
    subst hw
    clear hPc
    refine lv_if_eq (tgt := 40) hx hb dX4_twoCornersAreSame_35 (by decide) (fun c_2 => ?_) (fun c_2 => ?_)
    · skip
      refine lv_iinc (v := 3) (lv' := [(2, .int 3), (1, .int 0), (0, .ref o)]) hx hb dX4_twoCornersAreSame_40 hl (k := 0) rfl (by decide) (by decide) rfl (fun ls hl => ?_)
      refine lv_goto (tgt := 11) hx hb dX4_twoCornersAreSame_43 (by decide) ?_
      refine lv_iload_n hx hb dX4_twoCornersAreSame_11 rfl (lv_at hl 0 rfl) ?_
      refine lv_iconst (v := 5) hx hb dX4_twoCornersAreSame_12 (by decide) ?_
      refine lv_icmp_ge (tgt := 46) hx hb dX4_twoCornersAreSame_13 (by decide) (fun h => absurd h (by decide)) (fun _ => ?_)
      refine lv_aload_n hx hb dX4_twoCornersAreSame_16 rfl (lv_at hl 2 rfl) ?_
      refine va_get (D := D) (ci := 4) (v := .ref oP) (C := RX4) (T := TX4) (N := 14) hx hb hts k_2 hown hK.1 hP 0 rfl rfl 0 (by decide) k_1 (fun _ h9 => h9) rfl dX4_twoCornersAreSame_17 ?_
      refine lv_aload_n hx hb dX4_twoCornersAreSame_20 rfl (lv_at hl 2 rfl) ?_
      refine va_get (D := D) (ci := 4) (v := .ref oR) (C := RX4) (T := TX4) (N := 14) hx hb hts k_2 hown hK.1 hP 0 rfl rfl 13 (by decide) k_3 (fun _ h9 => h9) rfl dX4_twoCornersAreSame_21 ?_
      refine lv_iload_n hx hb dX4_twoCornersAreSame_24 rfl (lv_at hl 1 rfl) ?_
      refine ld_i hx hb hK.1 hP 3 0 rfl rfl (ix_lit (by decide)) 0 (by decide) (v := gr 0) rfl dX4_twoCornersAreSame_25 ?_
      refine lv_aload_n hx hb dX4_twoCornersAreSame_26 rfl (lv_at hl 2 rfl) ?_
      refine va_get (D := D) (ci := 4) (v := .ref oR) (C := RX4) (T := TX4) (N := 14) hx hb hts k_2 hown hK.1 hP 0 rfl rfl 13 (by decide) k_3 (fun _ h9 => h9) rfl dX4_twoCornersAreSame_27 ?_
      refine lv_iload_n hx hb dX4_twoCornersAreSame_30 rfl (lv_at hl 0 rfl) ?_
      refine ld_i hx hb hK.1 hP 3 0 rfl rfl (ix_lit (by decide)) 3 (by decide) (v := gr 3) rfl dX4_twoCornersAreSame_31 ?_
      have hPc := hP.sub (ws' := [kS oP 3 qp np, kA qp cI 180 gp]) [1, 2] rfl
      refine cr_i (va_runV (As := [.int (gr 0), .int (gr 3)]) (rest := []) ⟨hx, hb, hml, hown, hts⟩ (c_X2_areSame l D cI cJ oP qp np (gr 0) (gr 3) gp hsp) (cwV 2 hts gX4_twoCornersAreSame_X2_areSame rfl rfl rfl (by decide +kernel) ⟨Nat.le_of_ble_eq_true rfl, Nat.le_of_ble_eq_true rfl⟩) ⟨gd_blR, va_recv hK.1 hPc (ci := 2) (q0 := 0) rfl rfl, gd_prR hPc hK⟩ rfl rfl hl.1 rfl (lv_room (Nat.le_of_ble_eq_true rfl)) dX4_twoCornersAreSame_32 ⟨Nat.zero_le _, Nat.zero_le _⟩) (fun r_32 hw => ?_)
      subst hw
      clear hPc
      refine lv_if_eq (tgt := 40) hx hb dX4_twoCornersAreSame_35 (by decide) (fun c_3 => ?_) (fun c_3 => ?_)
      · skip
        refine lv_iinc (v := 4) (lv' := [(2, .int 4), (1, .int 0), (0, .ref o)]) hx hb dX4_twoCornersAreSame_40 hl (k := 0) rfl (by decide) (by decide) rfl (fun ls hl => ?_)
        refine lv_goto (tgt := 11) hx hb dX4_twoCornersAreSame_43 (by decide) ?_
        refine lv_iload_n hx hb dX4_twoCornersAreSame_11 rfl (lv_at hl 0 rfl) ?_
        refine lv_iconst (v := 5) hx hb dX4_twoCornersAreSame_12 (by decide) ?_
        refine lv_icmp_ge (tgt := 46) hx hb dX4_twoCornersAreSame_13 (by decide) (fun h => absurd h (by decide)) (fun _ => ?_)
        refine lv_aload_n hx hb dX4_twoCornersAreSame_16 rfl (lv_at hl 2 rfl) ?_
        refine va_get (D := D) (ci := 4) (v := .ref oP) (C := RX4) (T := TX4) (N := 14) hx hb hts k_2 hown hK.1 hP 0 rfl rfl 0 (by decide) k_1 (fun _ h9 => h9) rfl dX4_twoCornersAreSame_17 ?_
        refine lv_aload_n hx hb dX4_twoCornersAreSame_20 rfl (lv_at hl 2 rfl) ?_
        refine va_get (D := D) (ci := 4) (v := .ref oR) (C := RX4) (T := TX4) (N := 14) hx hb hts k_2 hown hK.1 hP 0 rfl rfl 13 (by decide) k_3 (fun _ h9 => h9) rfl dX4_twoCornersAreSame_21 ?_
        refine lv_iload_n hx hb dX4_twoCornersAreSame_24 rfl (lv_at hl 1 rfl) ?_
        refine ld_i hx hb hK.1 hP 3 0 rfl rfl (ix_lit (by decide)) 0 (by decide) (v := gr 0) rfl dX4_twoCornersAreSame_25 ?_
        refine lv_aload_n hx hb dX4_twoCornersAreSame_26 rfl (lv_at hl 2 rfl) ?_
        refine va_get (D := D) (ci := 4) (v := .ref oR) (C := RX4) (T := TX4) (N := 14) hx hb hts k_2 hown hK.1 hP 0 rfl rfl 13 (by decide) k_3 (fun _ h9 => h9) rfl dX4_twoCornersAreSame_27 ?_
        refine lv_iload_n hx hb dX4_twoCornersAreSame_30 rfl (lv_at hl 0 rfl) ?_
        refine ld_i hx hb hK.1 hP 3 0 rfl rfl (ix_lit (by decide)) 4 (by decide) (v := gr 4) rfl dX4_twoCornersAreSame_31 ?_
        have hPc := hP.sub (ws' := [kS oP 3 qp np, kA qp cI 180 gp]) [1, 2] rfl
        refine cr_i (va_runV (As := [.int (gr 0), .int (gr 4)]) (rest := []) ⟨hx, hb, hml, hown, hts⟩ (c_X2_areSame l D cI cJ oP qp np (gr 0) (gr 4) gp hsp) (cwV 2 hts gX4_twoCornersAreSame_X2_areSame rfl rfl rfl (by decide +kernel) ⟨Nat.le_of_ble_eq_true rfl, Nat.le_of_ble_eq_true rfl⟩) ⟨gd_blR, va_recv hK.1 hPc (ci := 2) (q0 := 0) rfl rfl, gd_prR hPc hK⟩ rfl rfl hl.1 rfl (lv_room (Nat.le_of_ble_eq_true rfl)) dX4_twoCornersAreSame_32 ⟨Nat.zero_le _, Nat.zero_le _⟩) (fun r_32 hw => ?_)
        subst hw
        clear hPc
        refine lv_if_eq (tgt := 40) hx hb dX4_twoCornersAreSame_35 (by decide) (fun c_4 => ?_) (fun c_4 => ?_)
        · skip
          refine lv_iinc (v := 5) (lv' := [(2, .int 5), (1, .int 0), (0, .ref o)]) hx hb dX4_twoCornersAreSame_40 hl (k := 0) rfl (by decide) (by decide) rfl (fun ls hl => ?_)
          refine lv_goto (tgt := 11) hx hb dX4_twoCornersAreSame_43 (by decide) ?_
          refine lv_iload_n hx hb dX4_twoCornersAreSame_11 rfl (lv_at hl 0 rfl) ?_
          refine lv_iconst (v := 5) hx hb dX4_twoCornersAreSame_12 (by decide) ?_
          refine lv_icmp_ge (tgt := 46) hx hb dX4_twoCornersAreSame_13 (by decide) (fun _ => ?_) (fun h => absurd (by decide) h)
          refine lv_iinc (v := 1) (lv' := [(1, .int 1), (2, .int 5), (0, .ref o)]) hx hb dX4_twoCornersAreSame_46 hl (k := 1) rfl (by decide) (by decide) rfl (fun ls hl => ?_)
          refine lv_goto (tgt := 2) hx hb dX4_twoCornersAreSame_49 (by decide) ?_
          refine lv_iload_n hx hb dX4_twoCornersAreSame_2 rfl (lv_at hl 0 rfl) ?_
          refine lv_iconst (v := 5) hx hb dX4_twoCornersAreSame_3 (by decide) ?_
          refine lv_icmp_ge (tgt := 52) hx hb dX4_twoCornersAreSame_4 (by decide) (fun h => absurd h (by decide)) (fun _ => ?_)
          refine lv_iload_n hx hb dX4_twoCornersAreSame_7 rfl (lv_at hl 0 rfl) ?_
          refine lv_iconst (v := 1) hx hb dX4_twoCornersAreSame_8 (by decide) ?_
          refine lv_iadd hx hb dX4_twoCornersAreSame_9 ?_
          refine lv_eqi (v := 2) (by decide) ?_
          refine lv_istore_n (lv' := [(2, .int 2), (1, .int 1), (0, .ref o)]) hx hb dX4_twoCornersAreSame_10 rfl hl (by decide) rfl (fun ls hl => ?_)
          refine lv_iload_n hx hb dX4_twoCornersAreSame_11 rfl (lv_at hl 0 rfl) ?_
          refine lv_iconst (v := 5) hx hb dX4_twoCornersAreSame_12 (by decide) ?_
          refine lv_icmp_ge (tgt := 46) hx hb dX4_twoCornersAreSame_13 (by decide) (fun h => absurd h (by decide)) (fun _ => ?_)
          refine lv_aload_n hx hb dX4_twoCornersAreSame_16 rfl (lv_at hl 2 rfl) ?_
          refine va_get (D := D) (ci := 4) (v := .ref oP) (C := RX4) (T := TX4) (N := 14) hx hb hts k_2 hown hK.1 hP 0 rfl rfl 0 (by decide) k_1 (fun _ h9 => h9) rfl dX4_twoCornersAreSame_17 ?_
          refine lv_aload_n hx hb dX4_twoCornersAreSame_20 rfl (lv_at hl 2 rfl) ?_
          refine va_get (D := D) (ci := 4) (v := .ref oR) (C := RX4) (T := TX4) (N := 14) hx hb hts k_2 hown hK.1 hP 0 rfl rfl 13 (by decide) k_3 (fun _ h9 => h9) rfl dX4_twoCornersAreSame_21 ?_
          refine lv_iload_n hx hb dX4_twoCornersAreSame_24 rfl (lv_at hl 1 rfl) ?_
          refine ld_i hx hb hK.1 hP 3 0 rfl rfl (ix_lit (by decide)) 1 (by decide) (v := gr 1) rfl dX4_twoCornersAreSame_25 ?_
          refine lv_aload_n hx hb dX4_twoCornersAreSame_26 rfl (lv_at hl 2 rfl) ?_
          refine va_get (D := D) (ci := 4) (v := .ref oR) (C := RX4) (T := TX4) (N := 14) hx hb hts k_2 hown hK.1 hP 0 rfl rfl 13 (by decide) k_3 (fun _ h9 => h9) rfl dX4_twoCornersAreSame_27 ?_
          refine lv_iload_n hx hb dX4_twoCornersAreSame_30 rfl (lv_at hl 0 rfl) ?_
          refine ld_i hx hb hK.1 hP 3 0 rfl rfl (ix_lit (by decide)) 2 (by decide) (v := gr 2) rfl dX4_twoCornersAreSame_31 ?_
          have hPc := hP.sub (ws' := [kS oP 3 qp np, kA qp cI 180 gp]) [1, 2] rfl
          refine cr_i (va_runV (As := [.int (gr 1), .int (gr 2)]) (rest := []) ⟨hx, hb, hml, hown, hts⟩ (c_X2_areSame l D cI cJ oP qp np (gr 1) (gr 2) gp hsp) (cwV 2 hts gX4_twoCornersAreSame_X2_areSame rfl rfl rfl (by decide +kernel) ⟨Nat.le_of_ble_eq_true rfl, Nat.le_of_ble_eq_true rfl⟩) ⟨gd_blR, va_recv hK.1 hPc (ci := 2) (q0 := 0) rfl rfl, gd_prR hPc hK⟩ rfl rfl hl.1 rfl (lv_room (Nat.le_of_ble_eq_true rfl)) dX4_twoCornersAreSame_32 ⟨Nat.zero_le _, Nat.zero_le _⟩) (fun r_32 hw => ?_)
          subst hw
          clear hPc
          refine lv_if_eq (tgt := 40) hx hb dX4_twoCornersAreSame_35 (by decide) (fun c_5 => ?_) (fun c_5 => ?_)
          · skip
            refine lv_iinc (v := 3) (lv' := [(2, .int 3), (1, .int 1), (0, .ref o)]) hx hb dX4_twoCornersAreSame_40 hl (k := 0) rfl (by decide) (by decide) rfl (fun ls hl => ?_)
            refine lv_goto (tgt := 11) hx hb dX4_twoCornersAreSame_43 (by decide) ?_
            refine lv_iload_n hx hb dX4_twoCornersAreSame_11 rfl (lv_at hl 0 rfl) ?_
            refine lv_iconst (v := 5) hx hb dX4_twoCornersAreSame_12 (by decide) ?_
            refine lv_icmp_ge (tgt := 46) hx hb dX4_twoCornersAreSame_13 (by decide) (fun h => absurd h (by decide)) (fun _ => ?_)
            refine lv_aload_n hx hb dX4_twoCornersAreSame_16 rfl (lv_at hl 2 rfl) ?_
            refine va_get (D := D) (ci := 4) (v := .ref oP) (C := RX4) (T := TX4) (N := 14) hx hb hts k_2 hown hK.1 hP 0 rfl rfl 0 (by decide) k_1 (fun _ h9 => h9) rfl dX4_twoCornersAreSame_17 ?_
            refine lv_aload_n hx hb dX4_twoCornersAreSame_20 rfl (lv_at hl 2 rfl) ?_
            refine va_get (D := D) (ci := 4) (v := .ref oR) (C := RX4) (T := TX4) (N := 14) hx hb hts k_2 hown hK.1 hP 0 rfl rfl 13 (by decide) k_3 (fun _ h9 => h9) rfl dX4_twoCornersAreSame_21 ?_
            refine lv_iload_n hx hb dX4_twoCornersAreSame_24 rfl (lv_at hl 1 rfl) ?_
            refine ld_i hx hb hK.1 hP 3 0 rfl rfl (ix_lit (by decide)) 1 (by decide) (v := gr 1) rfl dX4_twoCornersAreSame_25 ?_
            refine lv_aload_n hx hb dX4_twoCornersAreSame_26 rfl (lv_at hl 2 rfl) ?_
            refine va_get (D := D) (ci := 4) (v := .ref oR) (C := RX4) (T := TX4) (N := 14) hx hb hts k_2 hown hK.1 hP 0 rfl rfl 13 (by decide) k_3 (fun _ h9 => h9) rfl dX4_twoCornersAreSame_27 ?_
            refine lv_iload_n hx hb dX4_twoCornersAreSame_30 rfl (lv_at hl 0 rfl) ?_
            refine ld_i hx hb hK.1 hP 3 0 rfl rfl (ix_lit (by decide)) 3 (by decide) (v := gr 3) rfl dX4_twoCornersAreSame_31 ?_
            have hPc := hP.sub (ws' := [kS oP 3 qp np, kA qp cI 180 gp]) [1, 2] rfl
            refine cr_i (va_runV (As := [.int (gr 1), .int (gr 3)]) (rest := []) ⟨hx, hb, hml, hown, hts⟩ (c_X2_areSame l D cI cJ oP qp np (gr 1) (gr 3) gp hsp) (cwV 2 hts gX4_twoCornersAreSame_X2_areSame rfl rfl rfl (by decide +kernel) ⟨Nat.le_of_ble_eq_true rfl, Nat.le_of_ble_eq_true rfl⟩) ⟨gd_blR, va_recv hK.1 hPc (ci := 2) (q0 := 0) rfl rfl, gd_prR hPc hK⟩ rfl rfl hl.1 rfl (lv_room (Nat.le_of_ble_eq_true rfl)) dX4_twoCornersAreSame_32 ⟨Nat.zero_le _, Nat.zero_le _⟩) (fun r_32 hw => ?_)
            subst hw
            clear hPc
            refine lv_if_eq (tgt := 40) hx hb dX4_twoCornersAreSame_35 (by decide) (fun c_6 => ?_) (fun c_6 => ?_)
            · skip
              refine lv_iinc (v := 4) (lv' := [(2, .int 4), (1, .int 1), (0, .ref o)]) hx hb dX4_twoCornersAreSame_40 hl (k := 0) rfl (by decide) (by decide) rfl (fun ls hl => ?_)
              refine lv_goto (tgt := 11) hx hb dX4_twoCornersAreSame_43 (by decide) ?_
              refine lv_iload_n hx hb dX4_twoCornersAreSame_11 rfl (lv_at hl 0 rfl) ?_
              refine lv_iconst (v := 5) hx hb dX4_twoCornersAreSame_12 (by decide) ?_
              refine lv_icmp_ge (tgt := 46) hx hb dX4_twoCornersAreSame_13 (by decide) (fun h => absurd h (by decide)) (fun _ => ?_)
              refine lv_aload_n hx hb dX4_twoCornersAreSame_16 rfl (lv_at hl 2 rfl) ?_
              refine va_get (D := D) (ci := 4) (v := .ref oP) (C := RX4) (T := TX4) (N := 14) hx hb hts k_2 hown hK.1 hP 0 rfl rfl 0 (by decide) k_1 (fun _ h9 => h9) rfl dX4_twoCornersAreSame_17 ?_
              refine lv_aload_n hx hb dX4_twoCornersAreSame_20 rfl (lv_at hl 2 rfl) ?_
              refine va_get (D := D) (ci := 4) (v := .ref oR) (C := RX4) (T := TX4) (N := 14) hx hb hts k_2 hown hK.1 hP 0 rfl rfl 13 (by decide) k_3 (fun _ h9 => h9) rfl dX4_twoCornersAreSame_21 ?_
              refine lv_iload_n hx hb dX4_twoCornersAreSame_24 rfl (lv_at hl 1 rfl) ?_
              refine ld_i hx hb hK.1 hP 3 0 rfl rfl (ix_lit (by decide)) 1 (by decide) (v := gr 1) rfl dX4_twoCornersAreSame_25 ?_
              refine lv_aload_n hx hb dX4_twoCornersAreSame_26 rfl (lv_at hl 2 rfl) ?_
              refine va_get (D := D) (ci := 4) (v := .ref oR) (C := RX4) (T := TX4) (N := 14) hx hb hts k_2 hown hK.1 hP 0 rfl rfl 13 (by decide) k_3 (fun _ h9 => h9) rfl dX4_twoCornersAreSame_27 ?_
              refine lv_iload_n hx hb dX4_twoCornersAreSame_30 rfl (lv_at hl 0 rfl) ?_
              refine ld_i hx hb hK.1 hP 3 0 rfl rfl (ix_lit (by decide)) 4 (by decide) (v := gr 4) rfl dX4_twoCornersAreSame_31 ?_
              have hPc := hP.sub (ws' := [kS oP 3 qp np, kA qp cI 180 gp]) [1, 2] rfl
              refine cr_i (va_runV (As := [.int (gr 1), .int (gr 4)]) (rest := []) ⟨hx, hb, hml, hown, hts⟩ (c_X2_areSame l D cI cJ oP qp np (gr 1) (gr 4) gp hsp) (cwV 2 hts gX4_twoCornersAreSame_X2_areSame rfl rfl rfl (by decide +kernel) ⟨Nat.le_of_ble_eq_true rfl, Nat.le_of_ble_eq_true rfl⟩) ⟨gd_blR, va_recv hK.1 hPc (ci := 2) (q0 := 0) rfl rfl, gd_prR hPc hK⟩ rfl rfl hl.1 rfl (lv_room (Nat.le_of_ble_eq_true rfl)) dX4_twoCornersAreSame_32 ⟨Nat.zero_le _, Nat.zero_le _⟩) (fun r_32 hw => ?_)
              subst hw
              clear hPc
              refine lv_if_eq (tgt := 40) hx hb dX4_twoCornersAreSame_35 (by decide) (fun c_7 => ?_) (fun c_7 => ?_)
              · skip
                refine lv_iinc (v := 5) (lv' := [(2, .int 5), (1, .int 1), (0, .ref o)]) hx hb dX4_twoCornersAreSame_40 hl (k := 0) rfl (by decide) (by decide) rfl (fun ls hl => ?_)
                refine lv_goto (tgt := 11) hx hb dX4_twoCornersAreSame_43 (by decide) ?_
                refine lv_iload_n hx hb dX4_twoCornersAreSame_11 rfl (lv_at hl 0 rfl) ?_
                refine lv_iconst (v := 5) hx hb dX4_twoCornersAreSame_12 (by decide) ?_
                refine lv_icmp_ge (tgt := 46) hx hb dX4_twoCornersAreSame_13 (by decide) (fun _ => ?_) (fun h => absurd (by decide) h)
                refine lv_iinc (v := 2) (lv' := [(1, .int 2), (2, .int 5), (0, .ref o)]) hx hb dX4_twoCornersAreSame_46 hl (k := 1) rfl (by decide) (by decide) rfl (fun ls hl => ?_)
                refine lv_goto (tgt := 2) hx hb dX4_twoCornersAreSame_49 (by decide) ?_
                refine lv_iload_n hx hb dX4_twoCornersAreSame_2 rfl (lv_at hl 0 rfl) ?_
                refine lv_iconst (v := 5) hx hb dX4_twoCornersAreSame_3 (by decide) ?_
                refine lv_icmp_ge (tgt := 52) hx hb dX4_twoCornersAreSame_4 (by decide) (fun h => absurd h (by decide)) (fun _ => ?_)
                refine lv_iload_n hx hb dX4_twoCornersAreSame_7 rfl (lv_at hl 0 rfl) ?_
                refine lv_iconst (v := 1) hx hb dX4_twoCornersAreSame_8 (by decide) ?_
                refine lv_iadd hx hb dX4_twoCornersAreSame_9 ?_
                refine lv_eqi (v := 3) (by decide) ?_
                refine lv_istore_n (lv' := [(2, .int 3), (1, .int 2), (0, .ref o)]) hx hb dX4_twoCornersAreSame_10 rfl hl (by decide) rfl (fun ls hl => ?_)
                refine lv_iload_n hx hb dX4_twoCornersAreSame_11 rfl (lv_at hl 0 rfl) ?_
                refine lv_iconst (v := 5) hx hb dX4_twoCornersAreSame_12 (by decide) ?_
                refine lv_icmp_ge (tgt := 46) hx hb dX4_twoCornersAreSame_13 (by decide) (fun h => absurd h (by decide)) (fun _ => ?_)
                refine lv_aload_n hx hb dX4_twoCornersAreSame_16 rfl (lv_at hl 2 rfl) ?_
                refine va_get (D := D) (ci := 4) (v := .ref oP) (C := RX4) (T := TX4) (N := 14) hx hb hts k_2 hown hK.1 hP 0 rfl rfl 0 (by decide) k_1 (fun _ h9 => h9) rfl dX4_twoCornersAreSame_17 ?_
                refine lv_aload_n hx hb dX4_twoCornersAreSame_20 rfl (lv_at hl 2 rfl) ?_
                refine va_get (D := D) (ci := 4) (v := .ref oR) (C := RX4) (T := TX4) (N := 14) hx hb hts k_2 hown hK.1 hP 0 rfl rfl 13 (by decide) k_3 (fun _ h9 => h9) rfl dX4_twoCornersAreSame_21 ?_
                refine lv_iload_n hx hb dX4_twoCornersAreSame_24 rfl (lv_at hl 1 rfl) ?_
                refine ld_i hx hb hK.1 hP 3 0 rfl rfl (ix_lit (by decide)) 2 (by decide) (v := gr 2) rfl dX4_twoCornersAreSame_25 ?_
                refine lv_aload_n hx hb dX4_twoCornersAreSame_26 rfl (lv_at hl 2 rfl) ?_
                refine va_get (D := D) (ci := 4) (v := .ref oR) (C := RX4) (T := TX4) (N := 14) hx hb hts k_2 hown hK.1 hP 0 rfl rfl 13 (by decide) k_3 (fun _ h9 => h9) rfl dX4_twoCornersAreSame_27 ?_
                refine lv_iload_n hx hb dX4_twoCornersAreSame_30 rfl (lv_at hl 0 rfl) ?_
                refine ld_i hx hb hK.1 hP 3 0 rfl rfl (ix_lit (by decide)) 3 (by decide) (v := gr 3) rfl dX4_twoCornersAreSame_31 ?_
                have hPc := hP.sub (ws' := [kS oP 3 qp np, kA qp cI 180 gp]) [1, 2] rfl
                refine cr_i (va_runV (As := [.int (gr 2), .int (gr 3)]) (rest := []) ⟨hx, hb, hml, hown, hts⟩ (c_X2_areSame l D cI cJ oP qp np (gr 2) (gr 3) gp hsp) (cwV 2 hts gX4_twoCornersAreSame_X2_areSame rfl rfl rfl (by decide +kernel) ⟨Nat.le_of_ble_eq_true rfl, Nat.le_of_ble_eq_true rfl⟩) ⟨gd_blR, va_recv hK.1 hPc (ci := 2) (q0 := 0) rfl rfl, gd_prR hPc hK⟩ rfl rfl hl.1 rfl (lv_room (Nat.le_of_ble_eq_true rfl)) dX4_twoCornersAreSame_32 ⟨Nat.zero_le _, Nat.zero_le _⟩) (fun r_32 hw => ?_)
                subst hw
                clear hPc
                refine lv_if_eq (tgt := 40) hx hb dX4_twoCornersAreSame_35 (by decide) (fun c_8 => ?_) (fun c_8 => ?_)
                · skip
                  refine lv_iinc (v := 4) (lv' := [(2, .int 4), (1, .int 2), (0, .ref o)]) hx hb dX4_twoCornersAreSame_40 hl (k := 0) rfl (by decide) (by decide) rfl (fun ls hl => ?_)
                  refine lv_goto (tgt := 11) hx hb dX4_twoCornersAreSame_43 (by decide) ?_
                  refine lv_iload_n hx hb dX4_twoCornersAreSame_11 rfl (lv_at hl 0 rfl) ?_
                  refine lv_iconst (v := 5) hx hb dX4_twoCornersAreSame_12 (by decide) ?_
                  refine lv_icmp_ge (tgt := 46) hx hb dX4_twoCornersAreSame_13 (by decide) (fun h => absurd h (by decide)) (fun _ => ?_)
                  refine lv_aload_n hx hb dX4_twoCornersAreSame_16 rfl (lv_at hl 2 rfl) ?_
                  refine va_get (D := D) (ci := 4) (v := .ref oP) (C := RX4) (T := TX4) (N := 14) hx hb hts k_2 hown hK.1 hP 0 rfl rfl 0 (by decide) k_1 (fun _ h9 => h9) rfl dX4_twoCornersAreSame_17 ?_
                  refine lv_aload_n hx hb dX4_twoCornersAreSame_20 rfl (lv_at hl 2 rfl) ?_
                  refine va_get (D := D) (ci := 4) (v := .ref oR) (C := RX4) (T := TX4) (N := 14) hx hb hts k_2 hown hK.1 hP 0 rfl rfl 13 (by decide) k_3 (fun _ h9 => h9) rfl dX4_twoCornersAreSame_21 ?_
                  refine lv_iload_n hx hb dX4_twoCornersAreSame_24 rfl (lv_at hl 1 rfl) ?_
                  refine ld_i hx hb hK.1 hP 3 0 rfl rfl (ix_lit (by decide)) 2 (by decide) (v := gr 2) rfl dX4_twoCornersAreSame_25 ?_
                  refine lv_aload_n hx hb dX4_twoCornersAreSame_26 rfl (lv_at hl 2 rfl) ?_
                  refine va_get (D := D) (ci := 4) (v := .ref oR) (C := RX4) (T := TX4) (N := 14) hx hb hts k_2 hown hK.1 hP 0 rfl rfl 13 (by decide) k_3 (fun _ h9 => h9) rfl dX4_twoCornersAreSame_27 ?_
                  refine lv_iload_n hx hb dX4_twoCornersAreSame_30 rfl (lv_at hl 0 rfl) ?_
                  refine ld_i hx hb hK.1 hP 3 0 rfl rfl (ix_lit (by decide)) 4 (by decide) (v := gr 4) rfl dX4_twoCornersAreSame_31 ?_
                  have hPc := hP.sub (ws' := [kS oP 3 qp np, kA qp cI 180 gp]) [1, 2] rfl
                  refine cr_i (va_runV (As := [.int (gr 2), .int (gr 4)]) (rest := []) ⟨hx, hb, hml, hown, hts⟩ (c_X2_areSame l D cI cJ oP qp np (gr 2) (gr 4) gp hsp) (cwV 2 hts gX4_twoCornersAreSame_X2_areSame rfl rfl rfl (by decide +kernel) ⟨Nat.le_of_ble_eq_true rfl, Nat.le_of_ble_eq_true rfl⟩) ⟨gd_blR, va_recv hK.1 hPc (ci := 2) (q0 := 0) rfl rfl, gd_prR hPc hK⟩ rfl rfl hl.1 rfl (lv_room (Nat.le_of_ble_eq_true rfl)) dX4_twoCornersAreSame_32 ⟨Nat.zero_le _, Nat.zero_le _⟩) (fun r_32 hw => ?_)
                  subst hw
                  clear hPc
                  refine lv_if_eq (tgt := 40) hx hb dX4_twoCornersAreSame_35 (by decide) (fun c_9 => ?_) (fun c_9 => ?_)
                  · skip
                    refine lv_iinc (v := 5) (lv' := [(2, .int 5), (1, .int 2), (0, .ref o)]) hx hb dX4_twoCornersAreSame_40 hl (k := 0) rfl (by decide) (by decide) rfl (fun ls hl => ?_)
                    refine lv_goto (tgt := 11) hx hb dX4_twoCornersAreSame_43 (by decide) ?_
                    refine lv_iload_n hx hb dX4_twoCornersAreSame_11 rfl (lv_at hl 0 rfl) ?_
                    refine lv_iconst (v := 5) hx hb dX4_twoCornersAreSame_12 (by decide) ?_
                    refine lv_icmp_ge (tgt := 46) hx hb dX4_twoCornersAreSame_13 (by decide) (fun _ => ?_) (fun h => absurd (by decide) h)
                    refine lv_iinc (v := 3) (lv' := [(1, .int 3), (2, .int 5), (0, .ref o)]) hx hb dX4_twoCornersAreSame_46 hl (k := 1) rfl (by decide) (by decide) rfl (fun ls hl => ?_)
                    refine lv_goto (tgt := 2) hx hb dX4_twoCornersAreSame_49 (by decide) ?_
                    refine lv_iload_n hx hb dX4_twoCornersAreSame_2 rfl (lv_at hl 0 rfl) ?_
                    refine lv_iconst (v := 5) hx hb dX4_twoCornersAreSame_3 (by decide) ?_
                    refine lv_icmp_ge (tgt := 52) hx hb dX4_twoCornersAreSame_4 (by decide) (fun h => absurd h (by decide)) (fun _ => ?_)
                    refine lv_iload_n hx hb dX4_twoCornersAreSame_7 rfl (lv_at hl 0 rfl) ?_
                    refine lv_iconst (v := 1) hx hb dX4_twoCornersAreSame_8 (by decide) ?_
                    refine lv_iadd hx hb dX4_twoCornersAreSame_9 ?_
                    refine lv_eqi (v := 4) (by decide) ?_
                    refine lv_istore_n (lv' := [(2, .int 4), (1, .int 3), (0, .ref o)]) hx hb dX4_twoCornersAreSame_10 rfl hl (by decide) rfl (fun ls hl => ?_)
                    refine lv_iload_n hx hb dX4_twoCornersAreSame_11 rfl (lv_at hl 0 rfl) ?_
                    refine lv_iconst (v := 5) hx hb dX4_twoCornersAreSame_12 (by decide) ?_
                    refine lv_icmp_ge (tgt := 46) hx hb dX4_twoCornersAreSame_13 (by decide) (fun h => absurd h (by decide)) (fun _ => ?_)
                    refine lv_aload_n hx hb dX4_twoCornersAreSame_16 rfl (lv_at hl 2 rfl) ?_
                    refine va_get (D := D) (ci := 4) (v := .ref oP) (C := RX4) (T := TX4) (N := 14) hx hb hts k_2 hown hK.1 hP 0 rfl rfl 0 (by decide) k_1 (fun _ h9 => h9) rfl dX4_twoCornersAreSame_17 ?_
                    refine lv_aload_n hx hb dX4_twoCornersAreSame_20 rfl (lv_at hl 2 rfl) ?_
                    refine va_get (D := D) (ci := 4) (v := .ref oR) (C := RX4) (T := TX4) (N := 14) hx hb hts k_2 hown hK.1 hP 0 rfl rfl 13 (by decide) k_3 (fun _ h9 => h9) rfl dX4_twoCornersAreSame_21 ?_
                    refine lv_iload_n hx hb dX4_twoCornersAreSame_24 rfl (lv_at hl 1 rfl) ?_
                    refine ld_i hx hb hK.1 hP 3 0 rfl rfl (ix_lit (by decide)) 3 (by decide) (v := gr 3) rfl dX4_twoCornersAreSame_25 ?_
                    refine lv_aload_n hx hb dX4_twoCornersAreSame_26 rfl (lv_at hl 2 rfl) ?_
                    refine va_get (D := D) (ci := 4) (v := .ref oR) (C := RX4) (T := TX4) (N := 14) hx hb hts k_2 hown hK.1 hP 0 rfl rfl 13 (by decide) k_3 (fun _ h9 => h9) rfl dX4_twoCornersAreSame_27 ?_
                    refine lv_iload_n hx hb dX4_twoCornersAreSame_30 rfl (lv_at hl 0 rfl) ?_
                    refine ld_i hx hb hK.1 hP 3 0 rfl rfl (ix_lit (by decide)) 4 (by decide) (v := gr 4) rfl dX4_twoCornersAreSame_31 ?_
                    have hPc := hP.sub (ws' := [kS oP 3 qp np, kA qp cI 180 gp]) [1, 2] rfl
                    refine cr_i (va_runV (As := [.int (gr 3), .int (gr 4)]) (rest := []) ⟨hx, hb, hml, hown, hts⟩ (c_X2_areSame l D cI cJ oP qp np (gr 3) (gr 4) gp hsp) (cwV 2 hts gX4_twoCornersAreSame_X2_areSame rfl rfl rfl (by decide +kernel) ⟨Nat.le_of_ble_eq_true rfl, Nat.le_of_ble_eq_true rfl⟩) ⟨gd_blR, va_recv hK.1 hPc (ci := 2) (q0 := 0) rfl rfl, gd_prR hPc hK⟩ rfl rfl hl.1 rfl (lv_room (Nat.le_of_ble_eq_true rfl)) dX4_twoCornersAreSame_32 ⟨Nat.zero_le _, Nat.zero_le _⟩) (fun r_32 hw => ?_)
                    subst hw
                    clear hPc
                    refine lv_if_eq (tgt := 40) hx hb dX4_twoCornersAreSame_35 (by decide) (fun c_10 => ?_) (fun c_10 => ?_)
                    · skip
                      refine lv_iinc (v := 5) (lv' := [(2, .int 5), (1, .int 3), (0, .ref o)]) hx hb dX4_twoCornersAreSame_40 hl (k := 0) rfl (by decide) (by decide) rfl (fun ls hl => ?_)
                      refine lv_goto (tgt := 11) hx hb dX4_twoCornersAreSame_43 (by decide) ?_
                      refine lv_iload_n hx hb dX4_twoCornersAreSame_11 rfl (lv_at hl 0 rfl) ?_
                      refine lv_iconst (v := 5) hx hb dX4_twoCornersAreSame_12 (by decide) ?_
                      refine lv_icmp_ge (tgt := 46) hx hb dX4_twoCornersAreSame_13 (by decide) (fun _ => ?_) (fun h => absurd (by decide) h)
                      refine lv_iinc (v := 4) (lv' := [(1, .int 4), (2, .int 5), (0, .ref o)]) hx hb dX4_twoCornersAreSame_46 hl (k := 1) rfl (by decide) (by decide) rfl (fun ls hl => ?_)
                      refine lv_goto (tgt := 2) hx hb dX4_twoCornersAreSame_49 (by decide) ?_
                      refine lv_iload_n hx hb dX4_twoCornersAreSame_2 rfl (lv_at hl 0 rfl) ?_
                      refine lv_iconst (v := 5) hx hb dX4_twoCornersAreSame_3 (by decide) ?_
                      refine lv_icmp_ge (tgt := 52) hx hb dX4_twoCornersAreSame_4 (by decide) (fun h => absurd h (by decide)) (fun _ => ?_)
                      refine lv_iload_n hx hb dX4_twoCornersAreSame_7 rfl (lv_at hl 0 rfl) ?_
                      refine lv_iconst (v := 1) hx hb dX4_twoCornersAreSame_8 (by decide) ?_
                      refine lv_iadd hx hb dX4_twoCornersAreSame_9 ?_
                      refine lv_eqi (v := 5) (by decide) ?_
                      refine lv_istore_n (lv' := [(2, .int 5), (1, .int 4), (0, .ref o)]) hx hb dX4_twoCornersAreSame_10 rfl hl (by decide) rfl (fun ls hl => ?_)
                      refine lv_iload_n hx hb dX4_twoCornersAreSame_11 rfl (lv_at hl 0 rfl) ?_
                      refine lv_iconst (v := 5) hx hb dX4_twoCornersAreSame_12 (by decide) ?_
                      refine lv_icmp_ge (tgt := 46) hx hb dX4_twoCornersAreSame_13 (by decide) (fun _ => ?_) (fun h => absurd (by decide) h)
                      refine lv_iinc (v := 5) (lv' := [(1, .int 5), (2, .int 5), (0, .ref o)]) hx hb dX4_twoCornersAreSame_46 hl (k := 1) rfl (by decide) (by decide) rfl (fun ls hl => ?_)
                      refine lv_goto (tgt := 2) hx hb dX4_twoCornersAreSame_49 (by decide) ?_
                      refine lv_iload_n hx hb dX4_twoCornersAreSame_2 rfl (lv_at hl 0 rfl) ?_
                      refine lv_iconst (v := 5) hx hb dX4_twoCornersAreSame_3 (by decide) ?_
                      refine lv_icmp_ge (tgt := 52) hx hb dX4_twoCornersAreSame_4 (by decide) (fun _ => ?_) (fun h => absurd (by decide) h)
                      refine lv_iconst (v := 0) hx hb dX4_twoCornersAreSame_52 (by decide) ?_
                      have he : z4_twoCornersAreSame np gp gr = 0 := by unfold z4_twoCornersAreSame; rw [if_pos c_1, if_pos c_2, if_pos c_3, if_pos c_4, if_pos c_5, if_pos c_6, if_pos c_7, if_pos c_8, if_pos c_9, if_pos c_10]
                      exact rr_z hx hb hr rfl hlk dX4_twoCornersAreSame_53 he.symm
                    · skip
                      refine lv_iconst (v := 1) hx hb dX4_twoCornersAreSame_38 (by decide) ?_
                      have he : z4_twoCornersAreSame np gp gr = 1 := by unfold z4_twoCornersAreSame; rw [if_pos c_1, if_pos c_2, if_pos c_3, if_pos c_4, if_pos c_5, if_pos c_6, if_pos c_7, if_pos c_8, if_pos c_9, if_neg c_10]
                      exact rr_z hx hb hr rfl hlk dX4_twoCornersAreSame_39 he.symm
                  · skip
                    refine lv_iconst (v := 1) hx hb dX4_twoCornersAreSame_38 (by decide) ?_
                    have he : z4_twoCornersAreSame np gp gr = 1 := by unfold z4_twoCornersAreSame; rw [if_pos c_1, if_pos c_2, if_pos c_3, if_pos c_4, if_pos c_5, if_pos c_6, if_pos c_7, if_pos c_8, if_neg c_9]
                    exact rr_z hx hb hr rfl hlk dX4_twoCornersAreSame_39 he.symm
                · skip
                  refine lv_iconst (v := 1) hx hb dX4_twoCornersAreSame_38 (by decide) ?_
                  have he : z4_twoCornersAreSame np gp gr = 1 := by unfold z4_twoCornersAreSame; rw [if_pos c_1, if_pos c_2, if_pos c_3, if_pos c_4, if_pos c_5, if_pos c_6, if_pos c_7, if_neg c_8]
                  exact rr_z hx hb hr rfl hlk dX4_twoCornersAreSame_39 he.symm
              · skip
                refine lv_iconst (v := 1) hx hb dX4_twoCornersAreSame_38 (by decide) ?_
                have he : z4_twoCornersAreSame np gp gr = 1 := by unfold z4_twoCornersAreSame; rw [if_pos c_1, if_pos c_2, if_pos c_3, if_pos c_4, if_pos c_5, if_pos c_6, if_neg c_7]
                exact rr_z hx hb hr rfl hlk dX4_twoCornersAreSame_39 he.symm
            · skip
              refine lv_iconst (v := 1) hx hb dX4_twoCornersAreSame_38 (by decide) ?_
              have he : z4_twoCornersAreSame np gp gr = 1 := by unfold z4_twoCornersAreSame; rw [if_pos c_1, if_pos c_2, if_pos c_3, if_pos c_4, if_pos c_5, if_neg c_6]
              exact rr_z hx hb hr rfl hlk dX4_twoCornersAreSame_39 he.symm
          · skip
            refine lv_iconst (v := 1) hx hb dX4_twoCornersAreSame_38 (by decide) ?_
            have he : z4_twoCornersAreSame np gp gr = 1 := by unfold z4_twoCornersAreSame; rw [if_pos c_1, if_pos c_2, if_pos c_3, if_pos c_4, if_neg c_5]
            exact rr_z hx hb hr rfl hlk dX4_twoCornersAreSame_39 he.symm
        · skip
          refine lv_iconst (v := 1) hx hb dX4_twoCornersAreSame_38 (by decide) ?_
          have he : z4_twoCornersAreSame np gp gr = 1 := by unfold z4_twoCornersAreSame; rw [if_pos c_1, if_pos c_2, if_pos c_3, if_neg c_4]
          exact rr_z hx hb hr rfl hlk dX4_twoCornersAreSame_39 he.symm
      · skip
        refine lv_iconst (v := 1) hx hb dX4_twoCornersAreSame_38 (by decide) ?_
        have he : z4_twoCornersAreSame np gp gr = 1 := by unfold z4_twoCornersAreSame; rw [if_pos c_1, if_pos c_2, if_neg c_3]
        exact rr_z hx hb hr rfl hlk dX4_twoCornersAreSame_39 he.symm
    · skip
      refine lv_iconst (v := 1) hx hb dX4_twoCornersAreSame_38 (by decide) ?_
      have he : z4_twoCornersAreSame np gp gr = 1 := by unfold z4_twoCornersAreSame; rw [if_pos c_1, if_neg c_2]
      exact rr_z hx hb hr rfl hlk dX4_twoCornersAreSame_39 he.symm
  · skip
    refine lv_iconst (v := 1) hx hb dX4_twoCornersAreSame_38 (by decide) ?_
    have he : z4_twoCornersAreSame np gp gr = 1 := by unfold z4_twoCornersAreSame; rw [if_neg c_1]
    exact rr_z hx hb hr rfl hlk dX4_twoCornersAreSame_39 he.symm
def z4_isOnSecond (np : Int32) (gp : Nat → Int32) (x2 : Int64) (y2 : Int64) (z2 : Int64) (i : Int32) : Int32 := if (z3_times x2 y2 z2 (z3_read_x 3 np i gp) (z3_read_y 3 np i gp) (z3_read_z 3 np i gp)) = 0 then 1 else 0
set_option maxHeartbeats 4000000 in
set_option maxRecDepth 100000 in
/-- X4.isOnSecond -/
theorem c_X4_isOnSecond (l : Launch) (D : va_G) (cI cJ : ClassId) (o : Nat) (oP : Nat) (oL : Nat) (oC : Nat) (oX : Nat) (oY : Nat) (oF : Nat) (oS : Nat) (oT : Nat) (oM : Nat) (fL : Nat) (fR : Nat) (fN : Nat) (fM : Nat) (oR : Nat) (qp : Nat) (np : Int32) (gp : Nat → Int32) (x1 : Int64) (y1 : Int64) (z1 : Int64) (x2 : Int64) (y2 : Int64) (z2 : Int64) (i : Int32) (hsp : sh_ok 3 180 np) : mw_C l yX4_isOnSecond wsX4_isOnSecond ({ frames := 3, cells := 0, slots := 0, locals := 65 }) D cI cJ [.ref o, .int i] [kC o oP oL oC oX oY oF oS oT oM fL fR fN fM oR, kS oP 3 qp np, kA qp cI 180 gp, kT oF x1 y1 z1, kT oS x2 y2 z2] (qe_i (fun (r : Int32) (_ : Int64 × Int64 × Int64) => r = z4_isOnSecond np gp x2 y2 z2 i) (fun uu => [kC o oP oL oC oX oY oF oS oT oM fL fR fN fM oR, kS oP 3 qp np, kA qp cI 180 gp, kT oF uu.1 uu.2.1 uu.2.2, kT oS x2 y2 z2])) := by
  refine mw_in (cc := cX4_isOnSecond) (lv := [(0, .ref o), (1, .int i)]) (by decide) rfl (Nat.le_of_ble_eq_true rfl) rfl ?_
  intro pG eG sG mG below meth cG ls A hx hb hr hml hown hts hlk hin hP hK hD hA hS hl
  have hown : sG.vm.findClass RX4 = some mG.cls := hown
  have k_1 := hts (.fieldLink RX4 37 "ConicRows" "first" "LConicRows$Triple;") (by decide +kernel)
  have k_2 : ∀ w ∈ wsX40, w ∈ wsX4_isOnSecond := by decide +kernel
  have k_3 := hts (.fieldLink RX4 14 "ConicRows" "points" "LConicRows$Shelf;") (by decide +kernel)
  have k_4 := hts (.fieldLink RX4 41 "ConicRows" "second" "LConicRows$Triple;") (by decide +kernel)
  refine lv_aload_n hx hb dX4_isOnSecond_0 rfl (lv_at hl 0 rfl) ?_
  refine va_get (D := D) (ci := 4) (v := .ref oF) (C := RX4) (T := TX4) (N := 14) hx hb hts k_2 hown hK.1 hP 0 rfl rfl 5 (by decide) k_1 (fun _ h9 => h9) rfl dX4_isOnSecond_1 ?_
  refine lv_aload_n hx hb dX4_isOnSecond_4 rfl (lv_at hl 0 rfl) ?_
  refine va_get (D := D) (ci := 4) (v := .ref oP) (C := RX4) (T := TX4) (N := 14) hx hb hts k_2 hown hK.1 hP 0 rfl rfl 0 (by decide) k_3 (fun _ h9 => h9) rfl dX4_isOnSecond_5 ?_
  refine lv_iload_n hx hb dX4_isOnSecond_8 rfl (lv_at hl 1 rfl) ?_
  have hPc := hP.sub (ws' := [kT oF x1 y1 z1, kS oP 3 qp np, kA qp cI 180 gp]) [3, 1, 2] rfl
  have hDc := hD.sub (ws' := [kT oF x1 y1 z1, kS oP 3 qp np, kA qp cI 180 gp]) [3, 1, 2] (by decide) rfl
  refine cl_v (wc := [kT oF x1 y1 z1, kS oP 3 qp np, kA qp cI 180 gp]) (wr := [kC o oP oL oC oX oY oF oS oT oM fL fR fN fM oR, kT oS x2 y2 z2]) (w1 := fun uu : Unit => [kT oF (z3_read_x 3 np i gp) (z3_read_y 3 np i gp) (z3_read_z 3 np i gp), kS oP 3 qp np, kA qp cI 180 gp]) (wn := fun uu : Unit => [kC o oP oL oC oX oY oF oS oT oM fL fR fN fM oR, kS oP 3 qp np, kA qp cI 180 gp, kT oF (z3_read_x 3 np i gp) (z3_read_y 3 np i gp) (z3_read_z 3 np i gp), kT oS x2 y2 z2]) (va_runV (As := [.ref oP, .int i]) (rest := []) ⟨hx, hb, hml, hown, hts⟩ (c_X3_read l D cI cJ oF oP qp 180 x1 y1 z1 3 np i gp hsp _) (cwV 2 hts gX4_isOnSecond_X3_read rfl rfl rfl (by decide +kernel) ⟨Nat.le_of_ble_eq_true rfl, Nat.le_of_ble_eq_true rfl⟩) ⟨gd_blP, va_recv hK.1 hPc (ci := 3) (q0 := 0) rfl rfl, gd_prP hPc hK hDc⟩ rfl rfl hl.1 rfl (lv_room (Nat.le_of_ble_eq_true rfl)) dX4_isOnSecond_9 ⟨Nat.zero_le _, Nat.zero_le _⟩) hP hD hS hA [3, 1, 2] [0, 4] rfl rfl (by decide) (by decide) [0, 3, 4, 2, 1] (by decide) (fun _ => rfl) (fun uG H locs hw hP hD hS => ?_)
  have hP : va_P D vwCl [kC o oP oL oC oX oY oF oS oT oM fL fR fN fM oR, kS oP 3 qp np, kA qp cI 180 gp, kT oF (z3_read_x 3 np i gp) (z3_read_y 3 np i gp) (z3_read_z 3 np i gp), kT oS x2 y2 z2] H := hP
  have hD : va_D A [kC o oP oL oC oX oY oF oS oT oM fL fR fN fM oR, kS oP 3 qp np, kA qp cI 180 gp, kT oF (z3_read_x 3 np i gp) (z3_read_y 3 np i gp) (z3_read_z 3 np i gp), kT oS x2 y2 z2] := hD
  clear hPc hDc
  refine lv_aload_n hx hb dX4_isOnSecond_12 rfl (lv_at hl 0 rfl) ?_
  refine va_get (D := D) (ci := 4) (v := .ref oS) (C := RX4) (T := TX4) (N := 14) hx hb hts k_2 hown hK.1 hP 0 rfl rfl 6 (by decide) k_4 (fun _ h9 => h9) rfl dX4_isOnSecond_13 ?_
  refine lv_aload_n hx hb dX4_isOnSecond_16 rfl (lv_at hl 0 rfl) ?_
  refine va_get (D := D) (ci := 4) (v := .ref oF) (C := RX4) (T := TX4) (N := 14) hx hb hts k_2 hown hK.1 hP 0 rfl rfl 5 (by decide) k_1 (fun _ h9 => h9) rfl dX4_isOnSecond_17 ?_
  have hPc := hP.sub (ws' := [kT oS x2 y2 z2, kT oF (z3_read_x 3 np i gp) (z3_read_y 3 np i gp) (z3_read_z 3 np i gp)]) [4, 3] rfl
  refine cr_l (va_runV (As := [.ref oF]) (rest := []) ⟨hx, hb, hml, hown, hts⟩ (c_X3_times l D cI cJ oS oF x2 y2 z2 (z3_read_x 3 np i gp) (z3_read_y 3 np i gp) (z3_read_z 3 np i gp)) (cwV 1 hts gX4_isOnSecond_X3_times rfl rfl rfl (by decide +kernel) ⟨Nat.le_of_ble_eq_true rfl, Nat.le_of_ble_eq_true rfl⟩) ⟨gd_blR, va_recv hK.1 hPc (ci := 3) (q0 := 0) rfl rfl, gd_prR hPc hK⟩ rfl rfl hl.1 rfl (lv_room (Nat.le_of_ble_eq_true rfl)) dX4_isOnSecond_20 ⟨Nat.zero_le _, Nat.zero_le _⟩) (fun r_20 hw => ?_)
  subst hw
  clear hPc
  refine lv_lconst (v := 0) hx hb dX4_isOnSecond_23 (by decide) ?_
  refine lb_ne (tgt := 32) hx hb dX4_isOnSecond_24 rfl dX4_isOnSecond_25 (by decide) (fun c_1 => ?_) (fun c_1 => ?_)
  · skip
    refine lv_iconst (v := 0) hx hb dX4_isOnSecond_32 (by decide) ?_
    have he : z4_isOnSecond np gp x2 y2 z2 i = 0 := by unfold z4_isOnSecond; rw [if_neg c_1]
    exact rt_z (w1 := fun uu : Int64 × Int64 × Int64 => [kC o oP oL oC oX oY oF oS oT oM fL fR fN fM oR, kS oP 3 qp np, kA qp cI 180 gp, kT oF uu.1 uu.2.1 uu.2.2, kT oS x2 y2 z2]) hx hb hr rfl hlk hS dX4_isOnSecond_33 ((z3_read_x 3 np i gp, z3_read_y 3 np i gp, z3_read_z 3 np i gp)) he.symm (by dsimp only; exact hP) (by dsimp only; exact hD)
  · skip
    refine lv_iconst (v := 1) hx hb dX4_isOnSecond_28 (by decide) ?_
    refine lv_goto (tgt := 33) hx hb dX4_isOnSecond_29 (by decide) ?_
    have he : z4_isOnSecond np gp x2 y2 z2 i = 1 := by unfold z4_isOnSecond; rw [if_pos c_1]
    exact rt_z (w1 := fun uu : Int64 × Int64 × Int64 => [kC o oP oL oC oX oY oF oS oT oM fL fR fN fM oR, kS oP 3 qp np, kA qp cI 180 gp, kT oF uu.1 uu.2.1 uu.2.2, kT oS x2 y2 z2]) hx hb hr rfl hlk hS dX4_isOnSecond_33 ((z3_read_x 3 np i gp, z3_read_y 3 np i gp, z3_read_z 3 np i gp)) he.symm (by dsimp only; exact hP) (by dsimp only; exact hD)
def z4_setLineOf_x (np : Int32) (gp : Nat → Int32) (i : Int32) (j : Int32) : Int64 := z3_setAcross_x (z3_read_y 3 np i gp) (z3_read_z 3 np i gp) (z3_read_y 3 np j gp) (z3_read_z 3 np j gp)
def z4_setLineOf_y (np : Int32) (gp : Nat → Int32) (i : Int32) (j : Int32) : Int64 := z3_setAcross_y (z3_read_x 3 np i gp) (z3_read_z 3 np i gp) (z3_read_x 3 np j gp) (z3_read_z 3 np j gp)
def z4_setLineOf_z (np : Int32) (gp : Nat → Int32) (i : Int32) (j : Int32) : Int64 := z3_setAcross_z (z3_read_x 3 np i gp) (z3_read_y 3 np i gp) (z3_read_x 3 np j gp) (z3_read_y 3 np j gp)
set_option maxHeartbeats 4000000 in
set_option maxRecDepth 100000 in
/-- X4.setLineOf -/
theorem c_X4_setLineOf (l : Launch) (D : va_G) (cI cJ : ClassId) (o : Nat) (oP : Nat) (oL : Nat) (oC : Nat) (oX : Nat) (oY : Nat) (oF : Nat) (oS : Nat) (oT : Nat) (oM : Nat) (fL : Nat) (fR : Nat) (fN : Nat) (fM : Nat) (oR : Nat) (h : Nat) (qp : Nat) (np : Int32) (gp : Nat → Int32) (x : Int64) (y : Int64) (z : Int64) (x1 : Int64) (y1 : Int64) (z1 : Int64) (x4 : Int64) (y4 : Int64) (z4 : Int64) (i : Int32) (j : Int32) (hsp : sh_ok 3 180 np) : mw_C l yX4_setLineOf wsX4_setLineOf ({ frames := 3, cells := 0, slots := 0, locals := 65 }) D cI cJ [.ref o, .ref h, .int i, .int j] [kC o oP oL oC oX oY oF oS oT oM fL fR fN fM oR, kT h x y z, kS oP 3 qp np, kA qp cI 180 gp, kT oF x1 y1 z1, kT oM x4 y4 z4] (qe_v (fun _ : Int64 × Int64 × Int64 × Int64 × Int64 × Int64 => True) (fun uu => [kC o oP oL oC oX oY oF oS oT oM fL fR fN fM oR, kT h (z4_setLineOf_x np gp i j) (z4_setLineOf_y np gp i j) (z4_setLineOf_z np gp i j), kS oP 3 qp np, kA qp cI 180 gp, kT oF uu.1 uu.2.1 uu.2.2.1, kT oM uu.2.2.2.1 uu.2.2.2.2.1 uu.2.2.2.2.2])) := by
  refine mw_in (cc := cX4_setLineOf) (lv := [(0, .ref o), (1, .ref h), (2, .int i), (3, .int j)]) (by decide) rfl (Nat.le_of_ble_eq_true rfl) rfl ?_
  intro pG eG sG mG below meth cG ls A hx hb hr hml hown hts hlk hin hP hK hD hA hS hl
  have hown : sG.vm.findClass RX4 = some mG.cls := hown
  have k_1 := hts (.fieldLink RX4 37 "ConicRows" "first" "LConicRows$Triple;") (by decide +kernel)
  have k_2 : ∀ w ∈ wsX40, w ∈ wsX4_setLineOf := by decide +kernel
  have k_3 := hts (.fieldLink RX4 14 "ConicRows" "points" "LConicRows$Shelf;") (by decide +kernel)
  have k_4 := hts (.fieldLink RX4 47 "ConicRows" "made" "LConicRows$Triple;") (by decide +kernel)
  refine lv_aload_n hx hb dX4_setLineOf_0 rfl (lv_at hl 0 rfl) ?_
  refine va_get (D := D) (ci := 4) (v := .ref oF) (C := RX4) (T := TX4) (N := 14) hx hb hts k_2 hown hK.1 hP 0 rfl rfl 5 (by decide) k_1 (fun _ h9 => h9) rfl dX4_setLineOf_1 ?_
  refine lv_aload_n hx hb dX4_setLineOf_4 rfl (lv_at hl 0 rfl) ?_
  refine va_get (D := D) (ci := 4) (v := .ref oP) (C := RX4) (T := TX4) (N := 14) hx hb hts k_2 hown hK.1 hP 0 rfl rfl 0 (by decide) k_3 (fun _ h9 => h9) rfl dX4_setLineOf_5 ?_
  refine lv_iload_n hx hb dX4_setLineOf_8 rfl (lv_at hl 2 rfl) ?_
  have hPc := hP.sub (ws' := [kT oF x1 y1 z1, kS oP 3 qp np, kA qp cI 180 gp]) [4, 2, 3] rfl
  have hDc := hD.sub (ws' := [kT oF x1 y1 z1, kS oP 3 qp np, kA qp cI 180 gp]) [4, 2, 3] (by decide) rfl
  refine cl_v (wc := [kT oF x1 y1 z1, kS oP 3 qp np, kA qp cI 180 gp]) (wr := [kC o oP oL oC oX oY oF oS oT oM fL fR fN fM oR, kT h x y z, kT oM x4 y4 z4]) (w1 := fun uu : Unit => [kT oF (z3_read_x 3 np i gp) (z3_read_y 3 np i gp) (z3_read_z 3 np i gp), kS oP 3 qp np, kA qp cI 180 gp]) (wn := fun uu : Unit => [kC o oP oL oC oX oY oF oS oT oM fL fR fN fM oR, kT h x y z, kS oP 3 qp np, kA qp cI 180 gp, kT oF (z3_read_x 3 np i gp) (z3_read_y 3 np i gp) (z3_read_z 3 np i gp), kT oM x4 y4 z4]) (va_runV (As := [.ref oP, .int i]) (rest := []) ⟨hx, hb, hml, hown, hts⟩ (c_X3_read l D cI cJ oF oP qp 180 x1 y1 z1 3 np i gp hsp _) (cwV 2 hts gX4_setLineOf_X3_read rfl rfl rfl (by decide +kernel) ⟨Nat.le_of_ble_eq_true rfl, Nat.le_of_ble_eq_true rfl⟩) ⟨gd_blP, va_recv hK.1 hPc (ci := 3) (q0 := 0) rfl rfl, gd_prP hPc hK hDc⟩ rfl rfl hl.1 rfl (lv_room (Nat.le_of_ble_eq_true rfl)) dX4_setLineOf_9 ⟨Nat.zero_le _, Nat.zero_le _⟩) hP hD hS hA [4, 2, 3] [0, 1, 5] rfl rfl (by decide) (by decide) [0, 1, 4, 5, 3, 2] (by decide) (fun _ => rfl) (fun uG H locs hw hP hD hS => ?_)
  have hP : va_P D vwCl [kC o oP oL oC oX oY oF oS oT oM fL fR fN fM oR, kT h x y z, kS oP 3 qp np, kA qp cI 180 gp, kT oF (z3_read_x 3 np i gp) (z3_read_y 3 np i gp) (z3_read_z 3 np i gp), kT oM x4 y4 z4] H := hP
  have hD : va_D A [kC o oP oL oC oX oY oF oS oT oM fL fR fN fM oR, kT h x y z, kS oP 3 qp np, kA qp cI 180 gp, kT oF (z3_read_x 3 np i gp) (z3_read_y 3 np i gp) (z3_read_z 3 np i gp), kT oM x4 y4 z4] := hD
  clear hPc hDc
  refine lv_aload_n hx hb dX4_setLineOf_12 rfl (lv_at hl 0 rfl) ?_
  refine va_get (D := D) (ci := 4) (v := .ref oM) (C := RX4) (T := TX4) (N := 14) hx hb hts k_2 hown hK.1 hP 0 rfl rfl 8 (by decide) k_4 (fun _ h9 => h9) rfl dX4_setLineOf_13 ?_
  refine lv_aload_n hx hb dX4_setLineOf_16 rfl (lv_at hl 0 rfl) ?_
  refine va_get (D := D) (ci := 4) (v := .ref oP) (C := RX4) (T := TX4) (N := 14) hx hb hts k_2 hown hK.1 hP 0 rfl rfl 0 (by decide) k_3 (fun _ h9 => h9) rfl dX4_setLineOf_17 ?_
  refine lv_iload_n hx hb dX4_setLineOf_20 rfl (lv_at hl 3 rfl) ?_
  have hPc := hP.sub (ws' := [kT oM x4 y4 z4, kS oP 3 qp np, kA qp cI 180 gp]) [5, 2, 3] rfl
  have hDc := hD.sub (ws' := [kT oM x4 y4 z4, kS oP 3 qp np, kA qp cI 180 gp]) [5, 2, 3] (by decide) rfl
  refine cl_v (wc := [kT oM x4 y4 z4, kS oP 3 qp np, kA qp cI 180 gp]) (wr := [kC o oP oL oC oX oY oF oS oT oM fL fR fN fM oR, kT h x y z, kT oF (z3_read_x 3 np i gp) (z3_read_y 3 np i gp) (z3_read_z 3 np i gp)]) (w1 := fun uu : Unit => [kT oM (z3_read_x 3 np j gp) (z3_read_y 3 np j gp) (z3_read_z 3 np j gp), kS oP 3 qp np, kA qp cI 180 gp]) (wn := fun uu : Unit => [kC o oP oL oC oX oY oF oS oT oM fL fR fN fM oR, kT h x y z, kS oP 3 qp np, kA qp cI 180 gp, kT oF (z3_read_x 3 np i gp) (z3_read_y 3 np i gp) (z3_read_z 3 np i gp), kT oM (z3_read_x 3 np j gp) (z3_read_y 3 np j gp) (z3_read_z 3 np j gp)]) (va_runV (As := [.ref oP, .int j]) (rest := []) ⟨hx, hb, hml, hown, hts⟩ (c_X3_read l D cI cJ oM oP qp 180 x4 y4 z4 3 np j gp hsp _) (cwV 2 hts gX4_setLineOf_X3_read rfl rfl rfl (by decide +kernel) ⟨Nat.le_of_ble_eq_true rfl, Nat.le_of_ble_eq_true rfl⟩) ⟨gd_blP, va_recv hK.1 hPc (ci := 3) (q0 := 0) rfl rfl, gd_prP hPc hK hDc⟩ rfl rfl hl.1 rfl (lv_room (Nat.le_of_ble_eq_true rfl)) dX4_setLineOf_21 ⟨Nat.zero_le _, Nat.zero_le _⟩) hP hD hS hA [5, 2, 3] [0, 1, 4] rfl rfl (by decide) (by decide) [0, 1, 4, 5, 2, 3] (by decide) (fun _ => rfl) (fun uG H locs hw hP hD hS => ?_)
  have hP : va_P D vwCl [kC o oP oL oC oX oY oF oS oT oM fL fR fN fM oR, kT h x y z, kS oP 3 qp np, kA qp cI 180 gp, kT oF (z3_read_x 3 np i gp) (z3_read_y 3 np i gp) (z3_read_z 3 np i gp), kT oM (z3_read_x 3 np j gp) (z3_read_y 3 np j gp) (z3_read_z 3 np j gp)] H := hP
  have hD : va_D A [kC o oP oL oC oX oY oF oS oT oM fL fR fN fM oR, kT h x y z, kS oP 3 qp np, kA qp cI 180 gp, kT oF (z3_read_x 3 np i gp) (z3_read_y 3 np i gp) (z3_read_z 3 np i gp), kT oM (z3_read_x 3 np j gp) (z3_read_y 3 np j gp) (z3_read_z 3 np j gp)] := hD
  clear hPc hDc
  refine lv_aload_n hx hb dX4_setLineOf_24 rfl (lv_at hl 1 rfl) ?_
  refine lv_aload_n hx hb dX4_setLineOf_25 rfl (lv_at hl 0 rfl) ?_
  refine va_get (D := D) (ci := 4) (v := .ref oF) (C := RX4) (T := TX4) (N := 14) hx hb hts k_2 hown hK.1 hP 0 rfl rfl 5 (by decide) k_1 (fun _ h9 => h9) rfl dX4_setLineOf_26 ?_
  refine lv_aload_n hx hb dX4_setLineOf_29 rfl (lv_at hl 0 rfl) ?_
  refine va_get (D := D) (ci := 4) (v := .ref oM) (C := RX4) (T := TX4) (N := 14) hx hb hts k_2 hown hK.1 hP 0 rfl rfl 8 (by decide) k_4 (fun _ h9 => h9) rfl dX4_setLineOf_30 ?_
  have hPc := hP.sub (ws' := [kT h x y z, kT oF (z3_read_x 3 np i gp) (z3_read_y 3 np i gp) (z3_read_z 3 np i gp), kT oM (z3_read_x 3 np j gp) (z3_read_y 3 np j gp) (z3_read_z 3 np j gp)]) [1, 4, 5] rfl
  have hDc := hD.sub (ws' := [kT h x y z, kT oF (z3_read_x 3 np i gp) (z3_read_y 3 np i gp) (z3_read_z 3 np i gp), kT oM (z3_read_x 3 np j gp) (z3_read_y 3 np j gp) (z3_read_z 3 np j gp)]) [1, 4, 5] (by decide) rfl
  refine cl_v (wc := [kT h x y z, kT oF (z3_read_x 3 np i gp) (z3_read_y 3 np i gp) (z3_read_z 3 np i gp), kT oM (z3_read_x 3 np j gp) (z3_read_y 3 np j gp) (z3_read_z 3 np j gp)]) (wr := [kC o oP oL oC oX oY oF oS oT oM fL fR fN fM oR, kS oP 3 qp np, kA qp cI 180 gp]) (w1 := fun uu : Unit => [kT h (z3_setAcross_x (z3_read_y 3 np i gp) (z3_read_z 3 np i gp) (z3_read_y 3 np j gp) (z3_read_z 3 np j gp)) (z3_setAcross_y (z3_read_x 3 np i gp) (z3_read_z 3 np i gp) (z3_read_x 3 np j gp) (z3_read_z 3 np j gp)) (z3_setAcross_z (z3_read_x 3 np i gp) (z3_read_y 3 np i gp) (z3_read_x 3 np j gp) (z3_read_y 3 np j gp)), kT oF (z3_read_x 3 np i gp) (z3_read_y 3 np i gp) (z3_read_z 3 np i gp), kT oM (z3_read_x 3 np j gp) (z3_read_y 3 np j gp) (z3_read_z 3 np j gp)]) (wn := fun uu : Unit => [kC o oP oL oC oX oY oF oS oT oM fL fR fN fM oR, kT h (z3_setAcross_x (z3_read_y 3 np i gp) (z3_read_z 3 np i gp) (z3_read_y 3 np j gp) (z3_read_z 3 np j gp)) (z3_setAcross_y (z3_read_x 3 np i gp) (z3_read_z 3 np i gp) (z3_read_x 3 np j gp) (z3_read_z 3 np j gp)) (z3_setAcross_z (z3_read_x 3 np i gp) (z3_read_y 3 np i gp) (z3_read_x 3 np j gp) (z3_read_y 3 np j gp)), kS oP 3 qp np, kA qp cI 180 gp, kT oF (z3_read_x 3 np i gp) (z3_read_y 3 np i gp) (z3_read_z 3 np i gp), kT oM (z3_read_x 3 np j gp) (z3_read_y 3 np j gp) (z3_read_z 3 np j gp)]) (va_runV (As := [.ref oF, .ref oM]) (rest := []) ⟨hx, hb, hml, hown, hts⟩ (c_X3_setAcross l D cI cJ h oF oM x y z (z3_read_x 3 np i gp) (z3_read_y 3 np i gp) (z3_read_z 3 np i gp) (z3_read_x 3 np j gp) (z3_read_y 3 np j gp) (z3_read_z 3 np j gp) _) (cwV 2 hts gX4_setLineOf_X3_setAcross rfl rfl rfl (by decide +kernel) ⟨Nat.le_of_ble_eq_true rfl, Nat.le_of_ble_eq_true rfl⟩) ⟨gd_blP, va_recv hK.1 hPc (ci := 3) (q0 := 0) rfl rfl, gd_prP hPc hK hDc⟩ rfl rfl hl.1 rfl (lv_room (Nat.le_of_ble_eq_true rfl)) dX4_setLineOf_33 ⟨Nat.zero_le _, Nat.zero_le _⟩) hP hD hS hA [1, 4, 5] [0, 2, 3] rfl rfl (by decide) (by decide) [0, 3, 1, 2, 4, 5] (by decide) (fun _ => rfl) (fun uG H locs hw hP hD hS => ?_)
  have hP : va_P D vwCl [kC o oP oL oC oX oY oF oS oT oM fL fR fN fM oR, kT h (z3_setAcross_x (z3_read_y 3 np i gp) (z3_read_z 3 np i gp) (z3_read_y 3 np j gp) (z3_read_z 3 np j gp)) (z3_setAcross_y (z3_read_x 3 np i gp) (z3_read_z 3 np i gp) (z3_read_x 3 np j gp) (z3_read_z 3 np j gp)) (z3_setAcross_z (z3_read_x 3 np i gp) (z3_read_y 3 np i gp) (z3_read_x 3 np j gp) (z3_read_y 3 np j gp)), kS oP 3 qp np, kA qp cI 180 gp, kT oF (z3_read_x 3 np i gp) (z3_read_y 3 np i gp) (z3_read_z 3 np i gp), kT oM (z3_read_x 3 np j gp) (z3_read_y 3 np j gp) (z3_read_z 3 np j gp)] H := hP
  have hD : va_D A [kC o oP oL oC oX oY oF oS oT oM fL fR fN fM oR, kT h (z3_setAcross_x (z3_read_y 3 np i gp) (z3_read_z 3 np i gp) (z3_read_y 3 np j gp) (z3_read_z 3 np j gp)) (z3_setAcross_y (z3_read_x 3 np i gp) (z3_read_z 3 np i gp) (z3_read_x 3 np j gp) (z3_read_z 3 np j gp)) (z3_setAcross_z (z3_read_x 3 np i gp) (z3_read_y 3 np i gp) (z3_read_x 3 np j gp) (z3_read_y 3 np j gp)), kS oP 3 qp np, kA qp cI 180 gp, kT oF (z3_read_x 3 np i gp) (z3_read_y 3 np i gp) (z3_read_z 3 np i gp), kT oM (z3_read_x 3 np j gp) (z3_read_y 3 np j gp) (z3_read_z 3 np j gp)] := hD
  clear hPc hDc
  have he_0 : z4_setLineOf_x np gp i j = z3_setAcross_x (z3_read_y 3 np i gp) (z3_read_z 3 np i gp) (z3_read_y 3 np j gp) (z3_read_z 3 np j gp) := by delta z4_setLineOf_x; rfl
  have he_1 : z4_setLineOf_y np gp i j = z3_setAcross_y (z3_read_x 3 np i gp) (z3_read_z 3 np i gp) (z3_read_x 3 np j gp) (z3_read_z 3 np j gp) := by delta z4_setLineOf_y; rfl
  have he_2 : z4_setLineOf_z np gp i j = z3_setAcross_z (z3_read_x 3 np i gp) (z3_read_y 3 np i gp) (z3_read_x 3 np j gp) (z3_read_y 3 np j gp) := by delta z4_setLineOf_z; rfl
  exact rt_v (w1 := fun uu : Int64 × Int64 × Int64 × Int64 × Int64 × Int64 => [kC o oP oL oC oX oY oF oS oT oM fL fR fN fM oR, kT h (z4_setLineOf_x np gp i j) (z4_setLineOf_y np gp i j) (z4_setLineOf_z np gp i j), kS oP 3 qp np, kA qp cI 180 gp, kT oF uu.1 uu.2.1 uu.2.2.1, kT oM uu.2.2.2.1 uu.2.2.2.2.1 uu.2.2.2.2.2]) hx hb hr hlk hS dX4_setLineOf_36 (((z3_read_x 3 np i gp), (z3_read_y 3 np i gp), (z3_read_z 3 np i gp), (z3_read_x 3 np j gp), (z3_read_y 3 np j gp), (z3_read_z 3 np j gp))) trivial (by dsimp only; rw [he_0, he_1, he_2]; exact hP) (by dsimp only; rw [he_0, he_1, he_2]; exact hD)
def z4_setLinePair_v1 (np : Int32) (gp : Nat → Int32) (i : Int32) (j : Int32) (k : Int32) (m : Int32) : Int64 := z0_setLines_b (z4_setLineOf_x np gp i j) (z4_setLineOf_y np gp i j) (z4_setLineOf_x np gp k m) (z4_setLineOf_y np gp k m)
def z4_setLinePair_v2 (np : Int32) (gp : Nat → Int32) (i : Int32) (j : Int32) (k : Int32) (m : Int32) : Int64 := z0_setLines_d (z4_setLineOf_x np gp i j) (z4_setLineOf_z np gp i j) (z4_setLineOf_x np gp k m) (z4_setLineOf_z np gp k m)
def z4_setLinePair_v3 (np : Int32) (gp : Nat → Int32) (i : Int32) (j : Int32) (k : Int32) (m : Int32) : Int64 := z0_setLines_e (z4_setLineOf_y np gp i j) (z4_setLineOf_z np gp i j) (z4_setLineOf_y np gp k m) (z4_setLineOf_z np gp k m)
def z4_setLinePair_a (np : Int32) (gp : Nat → Int32) (i : Int32) (j : Int32) (k : Int32) (m : Int32) : Int64 := z0_setLines_a (z4_setLineOf_x np gp i j) (z4_setLineOf_x np gp k m)
def z4_setLinePair_b (np : Int32) (gp : Nat → Int32) (i : Int32) (j : Int32) (k : Int32) (m : Int32) : Int64 := z4_setLinePair_v1 np gp i j k m
def z4_setLinePair_c (np : Int32) (gp : Nat → Int32) (i : Int32) (j : Int32) (k : Int32) (m : Int32) : Int64 := z0_setLines_c (z4_setLineOf_y np gp i j) (z4_setLineOf_y np gp k m)
def z4_setLinePair_d (np : Int32) (gp : Nat → Int32) (i : Int32) (j : Int32) (k : Int32) (m : Int32) : Int64 := z4_setLinePair_v2 np gp i j k m
def z4_setLinePair_e (np : Int32) (gp : Nat → Int32) (i : Int32) (j : Int32) (k : Int32) (m : Int32) : Int64 := z4_setLinePair_v3 np gp i j k m
def z4_setLinePair_f (np : Int32) (gp : Nat → Int32) (i : Int32) (j : Int32) (k : Int32) (m : Int32) : Int64 := z0_setLines_f (z4_setLineOf_z np gp i j) (z4_setLineOf_z np gp k m)
set_option maxHeartbeats 4000000 in
set_option maxRecDepth 100000 in
/-- X4.setLinePair -/
theorem c_X4_setLinePair (l : Launch) (D : va_G) (cI cJ : ClassId) (o : Nat) (oP : Nat) (oL : Nat) (oC : Nat) (oX : Nat) (oY : Nat) (oF : Nat) (oS : Nat) (oT : Nat) (oM : Nat) (fL : Nat) (fR : Nat) (fN : Nat) (fM : Nat) (oR : Nat) (h : Nat) (qp : Nat) (np : Int32) (gp : Nat → Int32) (a : Int64) (b : Int64) (c : Int64) (d : Int64) (e : Int64) (f : Int64) (x1 : Int64) (y1 : Int64) (z1 : Int64) (x2 : Int64) (y2 : Int64) (z2 : Int64) (x3 : Int64) (y3 : Int64) (z3 : Int64) (x4 : Int64) (y4 : Int64) (z4 : Int64) (i : Int32) (j : Int32) (k : Int32) (m : Int32) (hsp : sh_ok 3 180 np) : mw_C l yX4_setLinePair wsX4_setLinePair ({ frames := 4, cells := 0, slots := 0, locals := 88 }) D cI cJ [.ref o, .ref h, .int i, .int j, .int k, .int m] [kC o oP oL oC oX oY oF oS oT oM fL fR fN fM oR, kF h a b c d e f, kS oP 3 qp np, kA qp cI 180 gp, kT oF x1 y1 z1, kT oS x2 y2 z2, kT oT x3 y3 z3, kT oM x4 y4 z4] (qe_v (fun _ : Int64 × Int64 × Int64 × Int64 × Int64 × Int64 × Int64 × Int64 × Int64 × Int64 × Int64 × Int64 => True) (fun uu => [kC o oP oL oC oX oY oF oS oT oM fL fR fN fM oR, kF h (z4_setLinePair_a np gp i j k m) (z4_setLinePair_b np gp i j k m) (z4_setLinePair_c np gp i j k m) (z4_setLinePair_d np gp i j k m) (z4_setLinePair_e np gp i j k m) (z4_setLinePair_f np gp i j k m), kS oP 3 qp np, kA qp cI 180 gp, kT oF uu.1 uu.2.1 uu.2.2.1, kT oS uu.2.2.2.1 uu.2.2.2.2.1 uu.2.2.2.2.2.1, kT oT uu.2.2.2.2.2.2.1 uu.2.2.2.2.2.2.2.1 uu.2.2.2.2.2.2.2.2.1, kT oM uu.2.2.2.2.2.2.2.2.2.1 uu.2.2.2.2.2.2.2.2.2.2.1 uu.2.2.2.2.2.2.2.2.2.2.2])) := by
  refine mw_in (cc := cX4_setLinePair) (lv := [(0, .ref o), (1, .ref h), (2, .int i), (3, .int j), (4, .int k), (5, .int m)]) (by decide) rfl (Nat.le_of_ble_eq_true rfl) rfl ?_
  intro pG eG sG mG below meth cG ls A hx hb hr hml hown hts hlk hin hP hK hD hA hS hl
  have hown : sG.vm.findClass RX4 = some mG.cls := hown
  have k_1 := hts (.fieldLink RX4 41 "ConicRows" "second" "LConicRows$Triple;") (by decide +kernel)
  have k_2 : ∀ w ∈ wsX40, w ∈ wsX4_setLinePair := by decide +kernel
  have k_3 := hts (.fieldLink RX4 44 "ConicRows" "third" "LConicRows$Triple;") (by decide +kernel)
  refine lv_aload_n hx hb dX4_setLinePair_0 rfl (lv_at hl 0 rfl) ?_
  refine lv_aload_n hx hb dX4_setLinePair_1 rfl (lv_at hl 0 rfl) ?_
  refine va_get (D := D) (ci := 4) (v := .ref oS) (C := RX4) (T := TX4) (N := 14) hx hb hts k_2 hown hK.1 hP 0 rfl rfl 6 (by decide) k_1 (fun _ h9 => h9) rfl dX4_setLinePair_2 ?_
  refine lv_iload_n hx hb dX4_setLinePair_5 rfl (lv_at hl 2 rfl) ?_
  refine lv_iload_n hx hb dX4_setLinePair_6 rfl (lv_at hl 3 rfl) ?_
  have hPc := hP.sub (ws' := [kC o oP oL oC oX oY oF oS oT oM fL fR fN fM oR, kT oS x2 y2 z2, kS oP 3 qp np, kA qp cI 180 gp, kT oF x1 y1 z1, kT oM x4 y4 z4]) [0, 5, 2, 3, 4, 7] rfl
  have hDc := hD.sub (ws' := [kC o oP oL oC oX oY oF oS oT oM fL fR fN fM oR, kT oS x2 y2 z2, kS oP 3 qp np, kA qp cI 180 gp, kT oF x1 y1 z1, kT oM x4 y4 z4]) [0, 5, 2, 3, 4, 7] (by decide) rfl
  refine cl_v (wc := [kC o oP oL oC oX oY oF oS oT oM fL fR fN fM oR, kT oS x2 y2 z2, kS oP 3 qp np, kA qp cI 180 gp, kT oF x1 y1 z1, kT oM x4 y4 z4]) (wr := [kF h a b c d e f, kT oT x3 y3 z3]) (w1 := fun uu : Int64 × Int64 × Int64 × Int64 × Int64 × Int64 => [kC o oP oL oC oX oY oF oS oT oM fL fR fN fM oR, kT oS (z4_setLineOf_x np gp i j) (z4_setLineOf_y np gp i j) (z4_setLineOf_z np gp i j), kS oP 3 qp np, kA qp cI 180 gp, kT oF uu.1 uu.2.1 uu.2.2.1, kT oM uu.2.2.2.1 uu.2.2.2.2.1 uu.2.2.2.2.2]) (wn := fun uu : Int64 × Int64 × Int64 × Int64 × Int64 × Int64 => [kC o oP oL oC oX oY oF oS oT oM fL fR fN fM oR, kF h a b c d e f, kS oP 3 qp np, kA qp cI 180 gp, kT oF uu.1 uu.2.1 uu.2.2.1, kT oS (z4_setLineOf_x np gp i j) (z4_setLineOf_y np gp i j) (z4_setLineOf_z np gp i j), kT oT x3 y3 z3, kT oM uu.2.2.2.1 uu.2.2.2.2.1 uu.2.2.2.2.2]) (va_runV (As := [.ref oS, .int i, .int j]) (rest := []) ⟨hx, hb, hml, hown, hts⟩ (c_X4_setLineOf l D cI cJ o oP oL oC oX oY oF oS oT oM fL fR fN fM oR oS qp np gp x2 y2 z2 x1 y1 z1 x4 y4 z4 i j hsp _) (cwV 3 hts gX4_setLinePair_X4_setLineOf rfl rfl rfl (by decide +kernel) ⟨Nat.le_of_ble_eq_true rfl, Nat.le_of_ble_eq_true rfl⟩) ⟨gd_blP, va_recv hK.1 hPc (ci := 4) (q0 := 0) rfl rfl, gd_prP hPc hK hDc⟩ rfl rfl hl.1 rfl (lv_room (Nat.le_of_ble_eq_true rfl)) dX4_setLinePair_7 ⟨Nat.zero_le _, Nat.zero_le _⟩) hP hD hS hA [0, 5, 2, 3, 4, 7] [1, 6] rfl rfl (by decide) (by decide) [2, 0, 4, 5, 6, 3, 1, 7] (by decide) (fun _ => rfl) (fun uG H locs hw hP hD hS => ?_)
  obtain ⟨y_7_0_1, y_7_1_2, y_7_2_3, y_7_3_4, y_7_4_5, y_7_5_6⟩ := uG
  have hP : va_P D vwCl [kC o oP oL oC oX oY oF oS oT oM fL fR fN fM oR, kF h a b c d e f, kS oP 3 qp np, kA qp cI 180 gp, kT oF y_7_0_1 y_7_1_2 y_7_2_3, kT oS (z4_setLineOf_x np gp i j) (z4_setLineOf_y np gp i j) (z4_setLineOf_z np gp i j), kT oT x3 y3 z3, kT oM y_7_3_4 y_7_4_5 y_7_5_6] H := hP
  have hD : va_D A [kC o oP oL oC oX oY oF oS oT oM fL fR fN fM oR, kF h a b c d e f, kS oP 3 qp np, kA qp cI 180 gp, kT oF y_7_0_1 y_7_1_2 y_7_2_3, kT oS (z4_setLineOf_x np gp i j) (z4_setLineOf_y np gp i j) (z4_setLineOf_z np gp i j), kT oT x3 y3 z3, kT oM y_7_3_4 y_7_4_5 y_7_5_6] := hD
  clear hPc hDc
  refine lv_aload_n hx hb dX4_setLinePair_10 rfl (lv_at hl 0 rfl) ?_
  refine lv_aload_n hx hb dX4_setLinePair_11 rfl (lv_at hl 0 rfl) ?_
  refine va_get (D := D) (ci := 4) (v := .ref oT) (C := RX4) (T := TX4) (N := 14) hx hb hts k_2 hown hK.1 hP 0 rfl rfl 7 (by decide) k_3 (fun _ h9 => h9) rfl dX4_setLinePair_12 ?_
  refine lv_iload hx hb dX4_setLinePair_15 (lv_at hl 4 rfl) ?_
  refine lv_iload hx hb dX4_setLinePair_17 (lv_at hl 5 rfl) ?_
  have hPc := hP.sub (ws' := [kC o oP oL oC oX oY oF oS oT oM fL fR fN fM oR, kT oT x3 y3 z3, kS oP 3 qp np, kA qp cI 180 gp, kT oF y_7_0_1 y_7_1_2 y_7_2_3, kT oM y_7_3_4 y_7_4_5 y_7_5_6]) [0, 6, 2, 3, 4, 7] rfl
  have hDc := hD.sub (ws' := [kC o oP oL oC oX oY oF oS oT oM fL fR fN fM oR, kT oT x3 y3 z3, kS oP 3 qp np, kA qp cI 180 gp, kT oF y_7_0_1 y_7_1_2 y_7_2_3, kT oM y_7_3_4 y_7_4_5 y_7_5_6]) [0, 6, 2, 3, 4, 7] (by decide) rfl
  refine cl_v (wc := [kC o oP oL oC oX oY oF oS oT oM fL fR fN fM oR, kT oT x3 y3 z3, kS oP 3 qp np, kA qp cI 180 gp, kT oF y_7_0_1 y_7_1_2 y_7_2_3, kT oM y_7_3_4 y_7_4_5 y_7_5_6]) (wr := [kF h a b c d e f, kT oS (z4_setLineOf_x np gp i j) (z4_setLineOf_y np gp i j) (z4_setLineOf_z np gp i j)]) (w1 := fun uu : Int64 × Int64 × Int64 × Int64 × Int64 × Int64 => [kC o oP oL oC oX oY oF oS oT oM fL fR fN fM oR, kT oT (z4_setLineOf_x np gp k m) (z4_setLineOf_y np gp k m) (z4_setLineOf_z np gp k m), kS oP 3 qp np, kA qp cI 180 gp, kT oF uu.1 uu.2.1 uu.2.2.1, kT oM uu.2.2.2.1 uu.2.2.2.2.1 uu.2.2.2.2.2]) (wn := fun uu : Int64 × Int64 × Int64 × Int64 × Int64 × Int64 => [kC o oP oL oC oX oY oF oS oT oM fL fR fN fM oR, kF h a b c d e f, kS oP 3 qp np, kA qp cI 180 gp, kT oF uu.1 uu.2.1 uu.2.2.1, kT oS (z4_setLineOf_x np gp i j) (z4_setLineOf_y np gp i j) (z4_setLineOf_z np gp i j), kT oT (z4_setLineOf_x np gp k m) (z4_setLineOf_y np gp k m) (z4_setLineOf_z np gp k m), kT oM uu.2.2.2.1 uu.2.2.2.2.1 uu.2.2.2.2.2]) (va_runV (As := [.ref oT, .int k, .int m]) (rest := []) ⟨hx, hb, hml, hown, hts⟩ (c_X4_setLineOf l D cI cJ o oP oL oC oX oY oF oS oT oM fL fR fN fM oR oT qp np gp x3 y3 z3 y_7_0_1 y_7_1_2 y_7_2_3 y_7_3_4 y_7_4_5 y_7_5_6 k m hsp _) (cwV 3 hts gX4_setLinePair_X4_setLineOf rfl rfl rfl (by decide +kernel) ⟨Nat.le_of_ble_eq_true rfl, Nat.le_of_ble_eq_true rfl⟩) ⟨gd_blP, va_recv hK.1 hPc (ci := 4) (q0 := 0) rfl rfl, gd_prP hPc hK hDc⟩ rfl rfl hl.1 rfl (lv_room (Nat.le_of_ble_eq_true rfl)) dX4_setLinePair_19 ⟨Nat.zero_le _, Nat.zero_le _⟩) hP hD hS hA [0, 6, 2, 3, 4, 7] [1, 5] rfl rfl (by decide) (by decide) [2, 0, 4, 5, 6, 1, 3, 7] (by decide) (fun _ => rfl) (fun uG H locs hw hP hD hS => ?_)
  obtain ⟨y_19_0_7, y_19_1_8, y_19_2_9, y_19_3_10, y_19_4_11, y_19_5_12⟩ := uG
  have hP : va_P D vwCl [kC o oP oL oC oX oY oF oS oT oM fL fR fN fM oR, kF h a b c d e f, kS oP 3 qp np, kA qp cI 180 gp, kT oF y_19_0_7 y_19_1_8 y_19_2_9, kT oS (z4_setLineOf_x np gp i j) (z4_setLineOf_y np gp i j) (z4_setLineOf_z np gp i j), kT oT (z4_setLineOf_x np gp k m) (z4_setLineOf_y np gp k m) (z4_setLineOf_z np gp k m), kT oM y_19_3_10 y_19_4_11 y_19_5_12] H := hP
  have hD : va_D A [kC o oP oL oC oX oY oF oS oT oM fL fR fN fM oR, kF h a b c d e f, kS oP 3 qp np, kA qp cI 180 gp, kT oF y_19_0_7 y_19_1_8 y_19_2_9, kT oS (z4_setLineOf_x np gp i j) (z4_setLineOf_y np gp i j) (z4_setLineOf_z np gp i j), kT oT (z4_setLineOf_x np gp k m) (z4_setLineOf_y np gp k m) (z4_setLineOf_z np gp k m), kT oM y_19_3_10 y_19_4_11 y_19_5_12] := hD
  clear hPc hDc
  refine lv_aload_n hx hb dX4_setLinePair_22 rfl (lv_at hl 1 rfl) ?_
  refine lv_aload_n hx hb dX4_setLinePair_23 rfl (lv_at hl 0 rfl) ?_
  refine va_get (D := D) (ci := 4) (v := .ref oS) (C := RX4) (T := TX4) (N := 14) hx hb hts k_2 hown hK.1 hP 0 rfl rfl 6 (by decide) k_1 (fun _ h9 => h9) rfl dX4_setLinePair_24 ?_
  refine lv_aload_n hx hb dX4_setLinePair_27 rfl (lv_at hl 0 rfl) ?_
  refine va_get (D := D) (ci := 4) (v := .ref oT) (C := RX4) (T := TX4) (N := 14) hx hb hts k_2 hown hK.1 hP 0 rfl rfl 7 (by decide) k_3 (fun _ h9 => h9) rfl dX4_setLinePair_28 ?_
  have hPc := hP.sub (ws' := [kF h a b c d e f, kT oS (z4_setLineOf_x np gp i j) (z4_setLineOf_y np gp i j) (z4_setLineOf_z np gp i j), kT oT (z4_setLineOf_x np gp k m) (z4_setLineOf_y np gp k m) (z4_setLineOf_z np gp k m)]) [1, 5, 6] rfl
  have hDc := hD.sub (ws' := [kF h a b c d e f, kT oS (z4_setLineOf_x np gp i j) (z4_setLineOf_y np gp i j) (z4_setLineOf_z np gp i j), kT oT (z4_setLineOf_x np gp k m) (z4_setLineOf_y np gp k m) (z4_setLineOf_z np gp k m)]) [1, 5, 6] (by decide) rfl
  refine cl_v (wc := [kF h a b c d e f, kT oS (z4_setLineOf_x np gp i j) (z4_setLineOf_y np gp i j) (z4_setLineOf_z np gp i j), kT oT (z4_setLineOf_x np gp k m) (z4_setLineOf_y np gp k m) (z4_setLineOf_z np gp k m)]) (wr := [kC o oP oL oC oX oY oF oS oT oM fL fR fN fM oR, kS oP 3 qp np, kA qp cI 180 gp, kT oF y_19_0_7 y_19_1_8 y_19_2_9, kT oM y_19_3_10 y_19_4_11 y_19_5_12]) (w1 := fun uu : Unit => [kF h (z0_setLines_a (z4_setLineOf_x np gp i j) (z4_setLineOf_x np gp k m)) (z0_setLines_b (z4_setLineOf_x np gp i j) (z4_setLineOf_y np gp i j) (z4_setLineOf_x np gp k m) (z4_setLineOf_y np gp k m)) (z0_setLines_c (z4_setLineOf_y np gp i j) (z4_setLineOf_y np gp k m)) (z0_setLines_d (z4_setLineOf_x np gp i j) (z4_setLineOf_z np gp i j) (z4_setLineOf_x np gp k m) (z4_setLineOf_z np gp k m)) (z0_setLines_e (z4_setLineOf_y np gp i j) (z4_setLineOf_z np gp i j) (z4_setLineOf_y np gp k m) (z4_setLineOf_z np gp k m)) (z0_setLines_f (z4_setLineOf_z np gp i j) (z4_setLineOf_z np gp k m)), kT oS (z4_setLineOf_x np gp i j) (z4_setLineOf_y np gp i j) (z4_setLineOf_z np gp i j), kT oT (z4_setLineOf_x np gp k m) (z4_setLineOf_y np gp k m) (z4_setLineOf_z np gp k m)]) (wn := fun uu : Unit => [kC o oP oL oC oX oY oF oS oT oM fL fR fN fM oR, kF h (z0_setLines_a (z4_setLineOf_x np gp i j) (z4_setLineOf_x np gp k m)) (z0_setLines_b (z4_setLineOf_x np gp i j) (z4_setLineOf_y np gp i j) (z4_setLineOf_x np gp k m) (z4_setLineOf_y np gp k m)) (z0_setLines_c (z4_setLineOf_y np gp i j) (z4_setLineOf_y np gp k m)) (z0_setLines_d (z4_setLineOf_x np gp i j) (z4_setLineOf_z np gp i j) (z4_setLineOf_x np gp k m) (z4_setLineOf_z np gp k m)) (z0_setLines_e (z4_setLineOf_y np gp i j) (z4_setLineOf_z np gp i j) (z4_setLineOf_y np gp k m) (z4_setLineOf_z np gp k m)) (z0_setLines_f (z4_setLineOf_z np gp i j) (z4_setLineOf_z np gp k m)), kS oP 3 qp np, kA qp cI 180 gp, kT oF y_19_0_7 y_19_1_8 y_19_2_9, kT oS (z4_setLineOf_x np gp i j) (z4_setLineOf_y np gp i j) (z4_setLineOf_z np gp i j), kT oT (z4_setLineOf_x np gp k m) (z4_setLineOf_y np gp k m) (z4_setLineOf_z np gp k m), kT oM y_19_3_10 y_19_4_11 y_19_5_12]) (va_runV (As := [.ref oS, .ref oT]) (rest := []) ⟨hx, hb, hml, hown, hts⟩ (c_X0_setLines l D cI cJ h oS oT a b c d e f (z4_setLineOf_x np gp i j) (z4_setLineOf_y np gp i j) (z4_setLineOf_z np gp i j) (z4_setLineOf_x np gp k m) (z4_setLineOf_y np gp k m) (z4_setLineOf_z np gp k m) _) (cwV 2 hts gX4_setLinePair_X0_setLines rfl rfl rfl (by decide +kernel) ⟨Nat.le_of_ble_eq_true rfl, Nat.le_of_ble_eq_true rfl⟩) ⟨gd_blP, va_recv hK.1 hPc (ci := 0) (q0 := 0) rfl rfl, gd_prP hPc hK hDc⟩ rfl rfl hl.1 rfl (lv_room (Nat.le_of_ble_eq_true rfl)) dX4_setLinePair_31 ⟨Nat.zero_le _, Nat.zero_le _⟩) hP hD hS hA [1, 5, 6] [0, 2, 3, 4, 7] rfl rfl (by decide) (by decide) [0, 5, 1, 2, 3, 6, 7, 4] (by decide) (fun _ => rfl) (fun uG H locs hw hP hD hS => ?_)
  have hP : va_P D vwCl [kC o oP oL oC oX oY oF oS oT oM fL fR fN fM oR, kF h (z0_setLines_a (z4_setLineOf_x np gp i j) (z4_setLineOf_x np gp k m)) (z0_setLines_b (z4_setLineOf_x np gp i j) (z4_setLineOf_y np gp i j) (z4_setLineOf_x np gp k m) (z4_setLineOf_y np gp k m)) (z0_setLines_c (z4_setLineOf_y np gp i j) (z4_setLineOf_y np gp k m)) (z0_setLines_d (z4_setLineOf_x np gp i j) (z4_setLineOf_z np gp i j) (z4_setLineOf_x np gp k m) (z4_setLineOf_z np gp k m)) (z0_setLines_e (z4_setLineOf_y np gp i j) (z4_setLineOf_z np gp i j) (z4_setLineOf_y np gp k m) (z4_setLineOf_z np gp k m)) (z0_setLines_f (z4_setLineOf_z np gp i j) (z4_setLineOf_z np gp k m)), kS oP 3 qp np, kA qp cI 180 gp, kT oF y_19_0_7 y_19_1_8 y_19_2_9, kT oS (z4_setLineOf_x np gp i j) (z4_setLineOf_y np gp i j) (z4_setLineOf_z np gp i j), kT oT (z4_setLineOf_x np gp k m) (z4_setLineOf_y np gp k m) (z4_setLineOf_z np gp k m), kT oM y_19_3_10 y_19_4_11 y_19_5_12] H := hP
  have hD : va_D A [kC o oP oL oC oX oY oF oS oT oM fL fR fN fM oR, kF h (z0_setLines_a (z4_setLineOf_x np gp i j) (z4_setLineOf_x np gp k m)) (z0_setLines_b (z4_setLineOf_x np gp i j) (z4_setLineOf_y np gp i j) (z4_setLineOf_x np gp k m) (z4_setLineOf_y np gp k m)) (z0_setLines_c (z4_setLineOf_y np gp i j) (z4_setLineOf_y np gp k m)) (z0_setLines_d (z4_setLineOf_x np gp i j) (z4_setLineOf_z np gp i j) (z4_setLineOf_x np gp k m) (z4_setLineOf_z np gp k m)) (z0_setLines_e (z4_setLineOf_y np gp i j) (z4_setLineOf_z np gp i j) (z4_setLineOf_y np gp k m) (z4_setLineOf_z np gp k m)) (z0_setLines_f (z4_setLineOf_z np gp i j) (z4_setLineOf_z np gp k m)), kS oP 3 qp np, kA qp cI 180 gp, kT oF y_19_0_7 y_19_1_8 y_19_2_9, kT oS (z4_setLineOf_x np gp i j) (z4_setLineOf_y np gp i j) (z4_setLineOf_z np gp i j), kT oT (z4_setLineOf_x np gp k m) (z4_setLineOf_y np gp k m) (z4_setLineOf_z np gp k m), kT oM y_19_3_10 y_19_4_11 y_19_5_12] := hD
  have ea_0 : z0_setLines_b (z4_setLineOf_x np gp i j) (z4_setLineOf_y np gp i j) (z4_setLineOf_x np gp k m) (z4_setLineOf_y np gp k m) = z4_setLinePair_v1 np gp i j k m := by delta z4_setLinePair_v1; rfl
  have ea_1 : z0_setLines_d (z4_setLineOf_x np gp i j) (z4_setLineOf_z np gp i j) (z4_setLineOf_x np gp k m) (z4_setLineOf_z np gp k m) = z4_setLinePair_v2 np gp i j k m := by delta z4_setLinePair_v2; rfl
  have ea_2 : z0_setLines_e (z4_setLineOf_y np gp i j) (z4_setLineOf_z np gp i j) (z4_setLineOf_y np gp k m) (z4_setLineOf_z np gp k m) = z4_setLinePair_v3 np gp i j k m := by delta z4_setLinePair_v3; rfl
  rw [ea_0, ea_1, ea_2] at hP hD
  clear ea_0 ea_1 ea_2
  clear hPc hDc
  have he_0 : z4_setLinePair_a np gp i j k m = z0_setLines_a (z4_setLineOf_x np gp i j) (z4_setLineOf_x np gp k m) := by delta z4_setLinePair_a; rfl
  have he_1 : z4_setLinePair_b np gp i j k m = z4_setLinePair_v1 np gp i j k m := by delta z4_setLinePair_b; rfl
  have he_2 : z4_setLinePair_c np gp i j k m = z0_setLines_c (z4_setLineOf_y np gp i j) (z4_setLineOf_y np gp k m) := by delta z4_setLinePair_c; rfl
  have he_3 : z4_setLinePair_d np gp i j k m = z4_setLinePair_v2 np gp i j k m := by delta z4_setLinePair_d; rfl
  have he_4 : z4_setLinePair_e np gp i j k m = z4_setLinePair_v3 np gp i j k m := by delta z4_setLinePair_e; rfl
  have he_5 : z4_setLinePair_f np gp i j k m = z0_setLines_f (z4_setLineOf_z np gp i j) (z4_setLineOf_z np gp k m) := by delta z4_setLinePair_f; rfl
  exact rt_v (w1 := fun uu : Int64 × Int64 × Int64 × Int64 × Int64 × Int64 × Int64 × Int64 × Int64 × Int64 × Int64 × Int64 => [kC o oP oL oC oX oY oF oS oT oM fL fR fN fM oR, kF h (z4_setLinePair_a np gp i j k m) (z4_setLinePair_b np gp i j k m) (z4_setLinePair_c np gp i j k m) (z4_setLinePair_d np gp i j k m) (z4_setLinePair_e np gp i j k m) (z4_setLinePair_f np gp i j k m), kS oP 3 qp np, kA qp cI 180 gp, kT oF uu.1 uu.2.1 uu.2.2.1, kT oS uu.2.2.2.1 uu.2.2.2.2.1 uu.2.2.2.2.2.1, kT oT uu.2.2.2.2.2.2.1 uu.2.2.2.2.2.2.2.1 uu.2.2.2.2.2.2.2.2.1, kT oM uu.2.2.2.2.2.2.2.2.2.1 uu.2.2.2.2.2.2.2.2.2.2.1 uu.2.2.2.2.2.2.2.2.2.2.2]) hx hb hr hlk hS dX4_setLinePair_34 ((y_19_0_7, y_19_1_8, y_19_2_9, (z4_setLineOf_x np gp i j), (z4_setLineOf_y np gp i j), (z4_setLineOf_z np gp i j), (z4_setLineOf_x np gp k m), (z4_setLineOf_y np gp k m), (z4_setLineOf_z np gp k m), y_19_3_10, y_19_4_11, y_19_5_12)) trivial (by dsimp only; rw [he_0, he_1, he_2, he_3, he_4, he_5]; exact hP) (by dsimp only; rw [he_0, he_1, he_2, he_3, he_4, he_5]; exact hD)
def z4_cornersAreSmall (np : Int32) (gp : Nat → Int32) (gr : Nat → Int32) : Int32 := if (z3_isWithin (z3_read_x 3 np (gr 0) gp) (z3_read_y 3 np (gr 0) gp) (z3_read_z 3 np (gr 0) gp) 30) = 0 then 0 else if (z3_isWithin (z3_read_x 3 np (gr 1) gp) (z3_read_y 3 np (gr 1) gp) (z3_read_z 3 np (gr 1) gp) 30) = 0 then 0 else if (z3_isWithin (z3_read_x 3 np (gr 2) gp) (z3_read_y 3 np (gr 2) gp) (z3_read_z 3 np (gr 2) gp) 30) = 0 then 0 else if (z3_isWithin (z3_read_x 3 np (gr 3) gp) (z3_read_y 3 np (gr 3) gp) (z3_read_z 3 np (gr 3) gp) 30) = 0 then 0 else if (z3_isWithin (z3_read_x 3 np (gr 4) gp) (z3_read_y 3 np (gr 4) gp) (z3_read_z 3 np (gr 4) gp) 30) = 0 then 0 else 1
set_option maxHeartbeats 4000000 in
set_option maxRecDepth 100000 in
/-- X4.cornersAreSmall -/
theorem c_X4_cornersAreSmall (l : Launch) (D : va_G) (cI cJ : ClassId) (o : Nat) (oP : Nat) (oL : Nat) (oC : Nat) (oX : Nat) (oY : Nat) (oF : Nat) (oS : Nat) (oT : Nat) (oM : Nat) (fL : Nat) (fR : Nat) (fN : Nat) (fM : Nat) (oR : Nat) (qp : Nat) (np : Int32) (gp : Nat → Int32) (gr : Nat → Int32) (x1 : Int64) (y1 : Int64) (z1 : Int64) (hsp : sh_ok 3 180 np) : mw_C l yX4_cornersAreSmall wsX4_cornersAreSmall ({ frames := 3, cells := 0, slots := 0, locals := 65 }) D cI cJ [.ref o] [kC o oP oL oC oX oY oF oS oT oM fL fR fN fM oR, kS oP 3 qp np, kA qp cI 180 gp, kA oR cI 5 gr, kT oF x1 y1 z1] (qe_i (fun (r : Int32) (_ : Int64 × Int64 × Int64) => r = z4_cornersAreSmall np gp gr) (fun uu => [kC o oP oL oC oX oY oF oS oT oM fL fR fN fM oR, kS oP 3 qp np, kA qp cI 180 gp, kA oR cI 5 gr, kT oF uu.1 uu.2.1 uu.2.2])) := by
  refine mw_in (cc := cX4_cornersAreSmall) (lv := [(0, .ref o)]) (by decide) rfl (Nat.le_of_ble_eq_true rfl) rfl ?_
  intro pG eG sG mG below meth cG ls A hx hb hr hml hown hts hlk hin hP hK hD hA hS hl
  have hown : sG.vm.findClass RX4 = some mG.cls := hown
  have k_1 := hts (.fieldLink RX4 37 "ConicRows" "first" "LConicRows$Triple;") (by decide +kernel)
  have k_2 : ∀ w ∈ wsX40, w ∈ wsX4_cornersAreSmall := by decide +kernel
  have k_3 := hts (.fieldLink RX4 14 "ConicRows" "points" "LConicRows$Shelf;") (by decide +kernel)
  have k_4 := hts (.fieldLink RX4 66 "ConicRows" "corners" "[I") (by decide +kernel)
  have k_5 := hts (.constantLong RX4 268 (30)) (by decide +kernel)
  refine lv_iconst (v := 0) hx hb dX4_cornersAreSmall_0 (by decide) ?_
  refine lv_istore_n (lv' := [(1, .int 0), (0, .ref o)]) hx hb dX4_cornersAreSmall_1 rfl hl (by decide) rfl (fun ls hl => ?_)
  refine lv_iload_n hx hb dX4_cornersAreSmall_2 rfl (lv_at hl 0 rfl) ?_
  refine lv_iconst (v := 5) hx hb dX4_cornersAreSmall_3 (by decide) ?_
  refine lv_icmp_ge (tgt := 45) hx hb dX4_cornersAreSmall_4 (by decide) (fun h => absurd h (by decide)) (fun _ => ?_)
  refine lv_aload_n hx hb dX4_cornersAreSmall_7 rfl (lv_at hl 1 rfl) ?_
  refine va_get (D := D) (ci := 4) (v := .ref oF) (C := RX4) (T := TX4) (N := 14) hx hb hts k_2 hown hK.1 hP 0 rfl rfl 5 (by decide) k_1 (fun _ h9 => h9) rfl dX4_cornersAreSmall_8 ?_
  refine lv_aload_n hx hb dX4_cornersAreSmall_11 rfl (lv_at hl 1 rfl) ?_
  refine va_get (D := D) (ci := 4) (v := .ref oP) (C := RX4) (T := TX4) (N := 14) hx hb hts k_2 hown hK.1 hP 0 rfl rfl 0 (by decide) k_3 (fun _ h9 => h9) rfl dX4_cornersAreSmall_12 ?_
  refine lv_aload_n hx hb dX4_cornersAreSmall_15 rfl (lv_at hl 1 rfl) ?_
  refine va_get (D := D) (ci := 4) (v := .ref oR) (C := RX4) (T := TX4) (N := 14) hx hb hts k_2 hown hK.1 hP 0 rfl rfl 13 (by decide) k_4 (fun _ h9 => h9) rfl dX4_cornersAreSmall_16 ?_
  refine lv_iload_n hx hb dX4_cornersAreSmall_19 rfl (lv_at hl 0 rfl) ?_
  refine ld_i hx hb hK.1 hP 3 0 rfl rfl (ix_lit (by decide)) 0 (by decide) (v := gr 0) rfl dX4_cornersAreSmall_20 ?_
  have hPc := hP.sub (ws' := [kT oF x1 y1 z1, kS oP 3 qp np, kA qp cI 180 gp]) [4, 1, 2] rfl
  have hDc := hD.sub (ws' := [kT oF x1 y1 z1, kS oP 3 qp np, kA qp cI 180 gp]) [4, 1, 2] (by decide) rfl
  refine cl_v (wc := [kT oF x1 y1 z1, kS oP 3 qp np, kA qp cI 180 gp]) (wr := [kC o oP oL oC oX oY oF oS oT oM fL fR fN fM oR, kA oR cI 5 gr]) (w1 := fun uu : Unit => [kT oF (z3_read_x 3 np (gr 0) gp) (z3_read_y 3 np (gr 0) gp) (z3_read_z 3 np (gr 0) gp), kS oP 3 qp np, kA qp cI 180 gp]) (wn := fun uu : Unit => [kC o oP oL oC oX oY oF oS oT oM fL fR fN fM oR, kS oP 3 qp np, kA qp cI 180 gp, kA oR cI 5 gr, kT oF (z3_read_x 3 np (gr 0) gp) (z3_read_y 3 np (gr 0) gp) (z3_read_z 3 np (gr 0) gp)]) (va_runV (As := [.ref oP, .int (gr 0)]) (rest := []) ⟨hx, hb, hml, hown, hts⟩ (c_X3_read l D cI cJ oF oP qp 180 x1 y1 z1 3 np (gr 0) gp hsp _) (cwV 2 hts gX4_cornersAreSmall_X3_read rfl rfl rfl (by decide +kernel) ⟨Nat.le_of_ble_eq_true rfl, Nat.le_of_ble_eq_true rfl⟩) ⟨gd_blP, va_recv hK.1 hPc (ci := 3) (q0 := 0) rfl rfl, gd_prP hPc hK hDc⟩ rfl rfl hl.1 rfl (lv_room (Nat.le_of_ble_eq_true rfl)) dX4_cornersAreSmall_21 ⟨Nat.zero_le _, Nat.zero_le _⟩) hP hD hS hA [4, 1, 2] [0, 3] rfl rfl (by decide) (by decide) [0, 3, 4, 1, 2] (by decide) (fun _ => rfl) (fun uG H locs hw hP hD hS => ?_)
  have hP : va_P D vwCl [kC o oP oL oC oX oY oF oS oT oM fL fR fN fM oR, kS oP 3 qp np, kA qp cI 180 gp, kA oR cI 5 gr, kT oF (z3_read_x 3 np (gr 0) gp) (z3_read_y 3 np (gr 0) gp) (z3_read_z 3 np (gr 0) gp)] H := hP
  have hD : va_D A [kC o oP oL oC oX oY oF oS oT oM fL fR fN fM oR, kS oP 3 qp np, kA qp cI 180 gp, kA oR cI 5 gr, kT oF (z3_read_x 3 np (gr 0) gp) (z3_read_y 3 np (gr 0) gp) (z3_read_z 3 np (gr 0) gp)] := hD
  clear hPc hDc
  refine lv_aload_n hx hb dX4_cornersAreSmall_24 rfl (lv_at hl 1 rfl) ?_
  refine va_get (D := D) (ci := 4) (v := .ref oF) (C := RX4) (T := TX4) (N := 14) hx hb hts k_2 hown hK.1 hP 0 rfl rfl 5 (by decide) k_1 (fun _ h9 => h9) rfl dX4_cornersAreSmall_25 ?_
  refine lv_ldc2 hx hb hown k_5 dX4_cornersAreSmall_28 ?_
  have hPc := hP.sub (ws' := [kT oF (z3_read_x 3 np (gr 0) gp) (z3_read_y 3 np (gr 0) gp) (z3_read_z 3 np (gr 0) gp)]) [4] rfl
  refine cr_i (va_runV (As := [.long 30]) (rest := []) ⟨hx, hb, hml, hown, hts⟩ (c_X3_isWithin l D cI cJ oF (z3_read_x 3 np (gr 0) gp) (z3_read_y 3 np (gr 0) gp) (z3_read_z 3 np (gr 0) gp) 30) (cwV 1 hts gX4_cornersAreSmall_X3_isWithin rfl rfl rfl (by decide +kernel) ⟨Nat.le_of_ble_eq_true rfl, Nat.le_of_ble_eq_true rfl⟩) ⟨gd_blR, va_recv hK.1 hPc (ci := 3) (q0 := 0) rfl rfl, gd_prR hPc hK⟩ rfl rfl hl.1 rfl (lv_room (Nat.le_of_ble_eq_true rfl)) dX4_cornersAreSmall_31 ⟨Nat.zero_le _, Nat.zero_le _⟩) (fun r_31 hw => ?_)
  subst hw
  clear hPc
  refine lv_if_ne (tgt := 39) hx hb dX4_cornersAreSmall_34 (by decide) (fun c_1 => ?_) (fun c_1 => ?_)
  · skip
    refine lv_iinc (v := 1) (lv' := [(1, .int 1), (0, .ref o)]) hx hb dX4_cornersAreSmall_39 hl (k := 0) rfl (by decide) (by decide) rfl (fun ls hl => ?_)
    refine lv_goto (tgt := 2) hx hb dX4_cornersAreSmall_42 (by decide) ?_
    refine lv_iload_n hx hb dX4_cornersAreSmall_2 rfl (lv_at hl 0 rfl) ?_
    refine lv_iconst (v := 5) hx hb dX4_cornersAreSmall_3 (by decide) ?_
    refine lv_icmp_ge (tgt := 45) hx hb dX4_cornersAreSmall_4 (by decide) (fun h => absurd h (by decide)) (fun _ => ?_)
    refine lv_aload_n hx hb dX4_cornersAreSmall_7 rfl (lv_at hl 1 rfl) ?_
    refine va_get (D := D) (ci := 4) (v := .ref oF) (C := RX4) (T := TX4) (N := 14) hx hb hts k_2 hown hK.1 hP 0 rfl rfl 5 (by decide) k_1 (fun _ h9 => h9) rfl dX4_cornersAreSmall_8 ?_
    refine lv_aload_n hx hb dX4_cornersAreSmall_11 rfl (lv_at hl 1 rfl) ?_
    refine va_get (D := D) (ci := 4) (v := .ref oP) (C := RX4) (T := TX4) (N := 14) hx hb hts k_2 hown hK.1 hP 0 rfl rfl 0 (by decide) k_3 (fun _ h9 => h9) rfl dX4_cornersAreSmall_12 ?_
    refine lv_aload_n hx hb dX4_cornersAreSmall_15 rfl (lv_at hl 1 rfl) ?_
    refine va_get (D := D) (ci := 4) (v := .ref oR) (C := RX4) (T := TX4) (N := 14) hx hb hts k_2 hown hK.1 hP 0 rfl rfl 13 (by decide) k_4 (fun _ h9 => h9) rfl dX4_cornersAreSmall_16 ?_
    refine lv_iload_n hx hb dX4_cornersAreSmall_19 rfl (lv_at hl 0 rfl) ?_
    refine ld_i hx hb hK.1 hP 3 0 rfl rfl (ix_lit (by decide)) 1 (by decide) (v := gr 1) rfl dX4_cornersAreSmall_20 ?_
    have hPc := hP.sub (ws' := [kT oF (z3_read_x 3 np (gr 0) gp) (z3_read_y 3 np (gr 0) gp) (z3_read_z 3 np (gr 0) gp), kS oP 3 qp np, kA qp cI 180 gp]) [4, 1, 2] rfl
    have hDc := hD.sub (ws' := [kT oF (z3_read_x 3 np (gr 0) gp) (z3_read_y 3 np (gr 0) gp) (z3_read_z 3 np (gr 0) gp), kS oP 3 qp np, kA qp cI 180 gp]) [4, 1, 2] (by decide) rfl
    refine cl_v (wc := [kT oF (z3_read_x 3 np (gr 0) gp) (z3_read_y 3 np (gr 0) gp) (z3_read_z 3 np (gr 0) gp), kS oP 3 qp np, kA qp cI 180 gp]) (wr := [kC o oP oL oC oX oY oF oS oT oM fL fR fN fM oR, kA oR cI 5 gr]) (w1 := fun uu : Unit => [kT oF (z3_read_x 3 np (gr 1) gp) (z3_read_y 3 np (gr 1) gp) (z3_read_z 3 np (gr 1) gp), kS oP 3 qp np, kA qp cI 180 gp]) (wn := fun uu : Unit => [kC o oP oL oC oX oY oF oS oT oM fL fR fN fM oR, kS oP 3 qp np, kA qp cI 180 gp, kA oR cI 5 gr, kT oF (z3_read_x 3 np (gr 1) gp) (z3_read_y 3 np (gr 1) gp) (z3_read_z 3 np (gr 1) gp)]) (va_runV (As := [.ref oP, .int (gr 1)]) (rest := []) ⟨hx, hb, hml, hown, hts⟩ (c_X3_read l D cI cJ oF oP qp 180 (z3_read_x 3 np (gr 0) gp) (z3_read_y 3 np (gr 0) gp) (z3_read_z 3 np (gr 0) gp) 3 np (gr 1) gp hsp _) (cwV 2 hts gX4_cornersAreSmall_X3_read rfl rfl rfl (by decide +kernel) ⟨Nat.le_of_ble_eq_true rfl, Nat.le_of_ble_eq_true rfl⟩) ⟨gd_blP, va_recv hK.1 hPc (ci := 3) (q0 := 0) rfl rfl, gd_prP hPc hK hDc⟩ rfl rfl hl.1 rfl (lv_room (Nat.le_of_ble_eq_true rfl)) dX4_cornersAreSmall_21 ⟨Nat.zero_le _, Nat.zero_le _⟩) hP hD hS hA [4, 1, 2] [0, 3] rfl rfl (by decide) (by decide) [0, 3, 4, 1, 2] (by decide) (fun _ => rfl) (fun uG H locs hw hP hD hS => ?_)
    have hP : va_P D vwCl [kC o oP oL oC oX oY oF oS oT oM fL fR fN fM oR, kS oP 3 qp np, kA qp cI 180 gp, kA oR cI 5 gr, kT oF (z3_read_x 3 np (gr 1) gp) (z3_read_y 3 np (gr 1) gp) (z3_read_z 3 np (gr 1) gp)] H := hP
    have hD : va_D A [kC o oP oL oC oX oY oF oS oT oM fL fR fN fM oR, kS oP 3 qp np, kA qp cI 180 gp, kA oR cI 5 gr, kT oF (z3_read_x 3 np (gr 1) gp) (z3_read_y 3 np (gr 1) gp) (z3_read_z 3 np (gr 1) gp)] := hD
    clear hPc hDc
    refine lv_aload_n hx hb dX4_cornersAreSmall_24 rfl (lv_at hl 1 rfl) ?_
    refine va_get (D := D) (ci := 4) (v := .ref oF) (C := RX4) (T := TX4) (N := 14) hx hb hts k_2 hown hK.1 hP 0 rfl rfl 5 (by decide) k_1 (fun _ h9 => h9) rfl dX4_cornersAreSmall_25 ?_
    refine lv_ldc2 hx hb hown k_5 dX4_cornersAreSmall_28 ?_
    have hPc := hP.sub (ws' := [kT oF (z3_read_x 3 np (gr 1) gp) (z3_read_y 3 np (gr 1) gp) (z3_read_z 3 np (gr 1) gp)]) [4] rfl
    refine cr_i (va_runV (As := [.long 30]) (rest := []) ⟨hx, hb, hml, hown, hts⟩ (c_X3_isWithin l D cI cJ oF (z3_read_x 3 np (gr 1) gp) (z3_read_y 3 np (gr 1) gp) (z3_read_z 3 np (gr 1) gp) 30) (cwV 1 hts gX4_cornersAreSmall_X3_isWithin rfl rfl rfl (by decide +kernel) ⟨Nat.le_of_ble_eq_true rfl, Nat.le_of_ble_eq_true rfl⟩) ⟨gd_blR, va_recv hK.1 hPc (ci := 3) (q0 := 0) rfl rfl, gd_prR hPc hK⟩ rfl rfl hl.1 rfl (lv_room (Nat.le_of_ble_eq_true rfl)) dX4_cornersAreSmall_31 ⟨Nat.zero_le _, Nat.zero_le _⟩) (fun r_31 hw => ?_)
    subst hw
    clear hPc
    refine lv_if_ne (tgt := 39) hx hb dX4_cornersAreSmall_34 (by decide) (fun c_2 => ?_) (fun c_2 => ?_)
    · skip
      refine lv_iinc (v := 2) (lv' := [(1, .int 2), (0, .ref o)]) hx hb dX4_cornersAreSmall_39 hl (k := 0) rfl (by decide) (by decide) rfl (fun ls hl => ?_)
      refine lv_goto (tgt := 2) hx hb dX4_cornersAreSmall_42 (by decide) ?_
      refine lv_iload_n hx hb dX4_cornersAreSmall_2 rfl (lv_at hl 0 rfl) ?_
      refine lv_iconst (v := 5) hx hb dX4_cornersAreSmall_3 (by decide) ?_
      refine lv_icmp_ge (tgt := 45) hx hb dX4_cornersAreSmall_4 (by decide) (fun h => absurd h (by decide)) (fun _ => ?_)
      refine lv_aload_n hx hb dX4_cornersAreSmall_7 rfl (lv_at hl 1 rfl) ?_
      refine va_get (D := D) (ci := 4) (v := .ref oF) (C := RX4) (T := TX4) (N := 14) hx hb hts k_2 hown hK.1 hP 0 rfl rfl 5 (by decide) k_1 (fun _ h9 => h9) rfl dX4_cornersAreSmall_8 ?_
      refine lv_aload_n hx hb dX4_cornersAreSmall_11 rfl (lv_at hl 1 rfl) ?_
      refine va_get (D := D) (ci := 4) (v := .ref oP) (C := RX4) (T := TX4) (N := 14) hx hb hts k_2 hown hK.1 hP 0 rfl rfl 0 (by decide) k_3 (fun _ h9 => h9) rfl dX4_cornersAreSmall_12 ?_
      refine lv_aload_n hx hb dX4_cornersAreSmall_15 rfl (lv_at hl 1 rfl) ?_
      refine va_get (D := D) (ci := 4) (v := .ref oR) (C := RX4) (T := TX4) (N := 14) hx hb hts k_2 hown hK.1 hP 0 rfl rfl 13 (by decide) k_4 (fun _ h9 => h9) rfl dX4_cornersAreSmall_16 ?_
      refine lv_iload_n hx hb dX4_cornersAreSmall_19 rfl (lv_at hl 0 rfl) ?_
      refine ld_i hx hb hK.1 hP 3 0 rfl rfl (ix_lit (by decide)) 2 (by decide) (v := gr 2) rfl dX4_cornersAreSmall_20 ?_
      have hPc := hP.sub (ws' := [kT oF (z3_read_x 3 np (gr 1) gp) (z3_read_y 3 np (gr 1) gp) (z3_read_z 3 np (gr 1) gp), kS oP 3 qp np, kA qp cI 180 gp]) [4, 1, 2] rfl
      have hDc := hD.sub (ws' := [kT oF (z3_read_x 3 np (gr 1) gp) (z3_read_y 3 np (gr 1) gp) (z3_read_z 3 np (gr 1) gp), kS oP 3 qp np, kA qp cI 180 gp]) [4, 1, 2] (by decide) rfl
      refine cl_v (wc := [kT oF (z3_read_x 3 np (gr 1) gp) (z3_read_y 3 np (gr 1) gp) (z3_read_z 3 np (gr 1) gp), kS oP 3 qp np, kA qp cI 180 gp]) (wr := [kC o oP oL oC oX oY oF oS oT oM fL fR fN fM oR, kA oR cI 5 gr]) (w1 := fun uu : Unit => [kT oF (z3_read_x 3 np (gr 2) gp) (z3_read_y 3 np (gr 2) gp) (z3_read_z 3 np (gr 2) gp), kS oP 3 qp np, kA qp cI 180 gp]) (wn := fun uu : Unit => [kC o oP oL oC oX oY oF oS oT oM fL fR fN fM oR, kS oP 3 qp np, kA qp cI 180 gp, kA oR cI 5 gr, kT oF (z3_read_x 3 np (gr 2) gp) (z3_read_y 3 np (gr 2) gp) (z3_read_z 3 np (gr 2) gp)]) (va_runV (As := [.ref oP, .int (gr 2)]) (rest := []) ⟨hx, hb, hml, hown, hts⟩ (c_X3_read l D cI cJ oF oP qp 180 (z3_read_x 3 np (gr 1) gp) (z3_read_y 3 np (gr 1) gp) (z3_read_z 3 np (gr 1) gp) 3 np (gr 2) gp hsp _) (cwV 2 hts gX4_cornersAreSmall_X3_read rfl rfl rfl (by decide +kernel) ⟨Nat.le_of_ble_eq_true rfl, Nat.le_of_ble_eq_true rfl⟩) ⟨gd_blP, va_recv hK.1 hPc (ci := 3) (q0 := 0) rfl rfl, gd_prP hPc hK hDc⟩ rfl rfl hl.1 rfl (lv_room (Nat.le_of_ble_eq_true rfl)) dX4_cornersAreSmall_21 ⟨Nat.zero_le _, Nat.zero_le _⟩) hP hD hS hA [4, 1, 2] [0, 3] rfl rfl (by decide) (by decide) [0, 3, 4, 1, 2] (by decide) (fun _ => rfl) (fun uG H locs hw hP hD hS => ?_)
      have hP : va_P D vwCl [kC o oP oL oC oX oY oF oS oT oM fL fR fN fM oR, kS oP 3 qp np, kA qp cI 180 gp, kA oR cI 5 gr, kT oF (z3_read_x 3 np (gr 2) gp) (z3_read_y 3 np (gr 2) gp) (z3_read_z 3 np (gr 2) gp)] H := hP
      have hD : va_D A [kC o oP oL oC oX oY oF oS oT oM fL fR fN fM oR, kS oP 3 qp np, kA qp cI 180 gp, kA oR cI 5 gr, kT oF (z3_read_x 3 np (gr 2) gp) (z3_read_y 3 np (gr 2) gp) (z3_read_z 3 np (gr 2) gp)] := hD
      clear hPc hDc
      refine lv_aload_n hx hb dX4_cornersAreSmall_24 rfl (lv_at hl 1 rfl) ?_
      refine va_get (D := D) (ci := 4) (v := .ref oF) (C := RX4) (T := TX4) (N := 14) hx hb hts k_2 hown hK.1 hP 0 rfl rfl 5 (by decide) k_1 (fun _ h9 => h9) rfl dX4_cornersAreSmall_25 ?_
      refine lv_ldc2 hx hb hown k_5 dX4_cornersAreSmall_28 ?_
      have hPc := hP.sub (ws' := [kT oF (z3_read_x 3 np (gr 2) gp) (z3_read_y 3 np (gr 2) gp) (z3_read_z 3 np (gr 2) gp)]) [4] rfl
      refine cr_i (va_runV (As := [.long 30]) (rest := []) ⟨hx, hb, hml, hown, hts⟩ (c_X3_isWithin l D cI cJ oF (z3_read_x 3 np (gr 2) gp) (z3_read_y 3 np (gr 2) gp) (z3_read_z 3 np (gr 2) gp) 30) (cwV 1 hts gX4_cornersAreSmall_X3_isWithin rfl rfl rfl (by decide +kernel) ⟨Nat.le_of_ble_eq_true rfl, Nat.le_of_ble_eq_true rfl⟩) ⟨gd_blR, va_recv hK.1 hPc (ci := 3) (q0 := 0) rfl rfl, gd_prR hPc hK⟩ rfl rfl hl.1 rfl (lv_room (Nat.le_of_ble_eq_true rfl)) dX4_cornersAreSmall_31 ⟨Nat.zero_le _, Nat.zero_le _⟩) (fun r_31 hw => ?_)
      subst hw
      clear hPc
      refine lv_if_ne (tgt := 39) hx hb dX4_cornersAreSmall_34 (by decide) (fun c_3 => ?_) (fun c_3 => ?_)
      · skip
        refine lv_iinc (v := 3) (lv' := [(1, .int 3), (0, .ref o)]) hx hb dX4_cornersAreSmall_39 hl (k := 0) rfl (by decide) (by decide) rfl (fun ls hl => ?_)
        refine lv_goto (tgt := 2) hx hb dX4_cornersAreSmall_42 (by decide) ?_
        refine lv_iload_n hx hb dX4_cornersAreSmall_2 rfl (lv_at hl 0 rfl) ?_
        refine lv_iconst (v := 5) hx hb dX4_cornersAreSmall_3 (by decide) ?_
        refine lv_icmp_ge (tgt := 45) hx hb dX4_cornersAreSmall_4 (by decide) (fun h => absurd h (by decide)) (fun _ => ?_)
        refine lv_aload_n hx hb dX4_cornersAreSmall_7 rfl (lv_at hl 1 rfl) ?_
        refine va_get (D := D) (ci := 4) (v := .ref oF) (C := RX4) (T := TX4) (N := 14) hx hb hts k_2 hown hK.1 hP 0 rfl rfl 5 (by decide) k_1 (fun _ h9 => h9) rfl dX4_cornersAreSmall_8 ?_
        refine lv_aload_n hx hb dX4_cornersAreSmall_11 rfl (lv_at hl 1 rfl) ?_
        refine va_get (D := D) (ci := 4) (v := .ref oP) (C := RX4) (T := TX4) (N := 14) hx hb hts k_2 hown hK.1 hP 0 rfl rfl 0 (by decide) k_3 (fun _ h9 => h9) rfl dX4_cornersAreSmall_12 ?_
        refine lv_aload_n hx hb dX4_cornersAreSmall_15 rfl (lv_at hl 1 rfl) ?_
        refine va_get (D := D) (ci := 4) (v := .ref oR) (C := RX4) (T := TX4) (N := 14) hx hb hts k_2 hown hK.1 hP 0 rfl rfl 13 (by decide) k_4 (fun _ h9 => h9) rfl dX4_cornersAreSmall_16 ?_
        refine lv_iload_n hx hb dX4_cornersAreSmall_19 rfl (lv_at hl 0 rfl) ?_
        refine ld_i hx hb hK.1 hP 3 0 rfl rfl (ix_lit (by decide)) 3 (by decide) (v := gr 3) rfl dX4_cornersAreSmall_20 ?_
        have hPc := hP.sub (ws' := [kT oF (z3_read_x 3 np (gr 2) gp) (z3_read_y 3 np (gr 2) gp) (z3_read_z 3 np (gr 2) gp), kS oP 3 qp np, kA qp cI 180 gp]) [4, 1, 2] rfl
        have hDc := hD.sub (ws' := [kT oF (z3_read_x 3 np (gr 2) gp) (z3_read_y 3 np (gr 2) gp) (z3_read_z 3 np (gr 2) gp), kS oP 3 qp np, kA qp cI 180 gp]) [4, 1, 2] (by decide) rfl
        refine cl_v (wc := [kT oF (z3_read_x 3 np (gr 2) gp) (z3_read_y 3 np (gr 2) gp) (z3_read_z 3 np (gr 2) gp), kS oP 3 qp np, kA qp cI 180 gp]) (wr := [kC o oP oL oC oX oY oF oS oT oM fL fR fN fM oR, kA oR cI 5 gr]) (w1 := fun uu : Unit => [kT oF (z3_read_x 3 np (gr 3) gp) (z3_read_y 3 np (gr 3) gp) (z3_read_z 3 np (gr 3) gp), kS oP 3 qp np, kA qp cI 180 gp]) (wn := fun uu : Unit => [kC o oP oL oC oX oY oF oS oT oM fL fR fN fM oR, kS oP 3 qp np, kA qp cI 180 gp, kA oR cI 5 gr, kT oF (z3_read_x 3 np (gr 3) gp) (z3_read_y 3 np (gr 3) gp) (z3_read_z 3 np (gr 3) gp)]) (va_runV (As := [.ref oP, .int (gr 3)]) (rest := []) ⟨hx, hb, hml, hown, hts⟩ (c_X3_read l D cI cJ oF oP qp 180 (z3_read_x 3 np (gr 2) gp) (z3_read_y 3 np (gr 2) gp) (z3_read_z 3 np (gr 2) gp) 3 np (gr 3) gp hsp _) (cwV 2 hts gX4_cornersAreSmall_X3_read rfl rfl rfl (by decide +kernel) ⟨Nat.le_of_ble_eq_true rfl, Nat.le_of_ble_eq_true rfl⟩) ⟨gd_blP, va_recv hK.1 hPc (ci := 3) (q0 := 0) rfl rfl, gd_prP hPc hK hDc⟩ rfl rfl hl.1 rfl (lv_room (Nat.le_of_ble_eq_true rfl)) dX4_cornersAreSmall_21 ⟨Nat.zero_le _, Nat.zero_le _⟩) hP hD hS hA [4, 1, 2] [0, 3] rfl rfl (by decide) (by decide) [0, 3, 4, 1, 2] (by decide) (fun _ => rfl) (fun uG H locs hw hP hD hS => ?_)
        have hP : va_P D vwCl [kC o oP oL oC oX oY oF oS oT oM fL fR fN fM oR, kS oP 3 qp np, kA qp cI 180 gp, kA oR cI 5 gr, kT oF (z3_read_x 3 np (gr 3) gp) (z3_read_y 3 np (gr 3) gp) (z3_read_z 3 np (gr 3) gp)] H := hP
        have hD : va_D A [kC o oP oL oC oX oY oF oS oT oM fL fR fN fM oR, kS oP 3 qp np, kA qp cI 180 gp, kA oR cI 5 gr, kT oF (z3_read_x 3 np (gr 3) gp) (z3_read_y 3 np (gr 3) gp) (z3_read_z 3 np (gr 3) gp)] := hD
        clear hPc hDc
        refine lv_aload_n hx hb dX4_cornersAreSmall_24 rfl (lv_at hl 1 rfl) ?_
        refine va_get (D := D) (ci := 4) (v := .ref oF) (C := RX4) (T := TX4) (N := 14) hx hb hts k_2 hown hK.1 hP 0 rfl rfl 5 (by decide) k_1 (fun _ h9 => h9) rfl dX4_cornersAreSmall_25 ?_
        refine lv_ldc2 hx hb hown k_5 dX4_cornersAreSmall_28 ?_
        have hPc := hP.sub (ws' := [kT oF (z3_read_x 3 np (gr 3) gp) (z3_read_y 3 np (gr 3) gp) (z3_read_z 3 np (gr 3) gp)]) [4] rfl
        refine cr_i (va_runV (As := [.long 30]) (rest := []) ⟨hx, hb, hml, hown, hts⟩ (c_X3_isWithin l D cI cJ oF (z3_read_x 3 np (gr 3) gp) (z3_read_y 3 np (gr 3) gp) (z3_read_z 3 np (gr 3) gp) 30) (cwV 1 hts gX4_cornersAreSmall_X3_isWithin rfl rfl rfl (by decide +kernel) ⟨Nat.le_of_ble_eq_true rfl, Nat.le_of_ble_eq_true rfl⟩) ⟨gd_blR, va_recv hK.1 hPc (ci := 3) (q0 := 0) rfl rfl, gd_prR hPc hK⟩ rfl rfl hl.1 rfl (lv_room (Nat.le_of_ble_eq_true rfl)) dX4_cornersAreSmall_31 ⟨Nat.zero_le _, Nat.zero_le _⟩) (fun r_31 hw => ?_)
        subst hw
        clear hPc
        refine lv_if_ne (tgt := 39) hx hb dX4_cornersAreSmall_34 (by decide) (fun c_4 => ?_) (fun c_4 => ?_)
        · skip
          refine lv_iinc (v := 4) (lv' := [(1, .int 4), (0, .ref o)]) hx hb dX4_cornersAreSmall_39 hl (k := 0) rfl (by decide) (by decide) rfl (fun ls hl => ?_)
          refine lv_goto (tgt := 2) hx hb dX4_cornersAreSmall_42 (by decide) ?_
          refine lv_iload_n hx hb dX4_cornersAreSmall_2 rfl (lv_at hl 0 rfl) ?_
          refine lv_iconst (v := 5) hx hb dX4_cornersAreSmall_3 (by decide) ?_
          refine lv_icmp_ge (tgt := 45) hx hb dX4_cornersAreSmall_4 (by decide) (fun h => absurd h (by decide)) (fun _ => ?_)
          refine lv_aload_n hx hb dX4_cornersAreSmall_7 rfl (lv_at hl 1 rfl) ?_
          refine va_get (D := D) (ci := 4) (v := .ref oF) (C := RX4) (T := TX4) (N := 14) hx hb hts k_2 hown hK.1 hP 0 rfl rfl 5 (by decide) k_1 (fun _ h9 => h9) rfl dX4_cornersAreSmall_8 ?_
          refine lv_aload_n hx hb dX4_cornersAreSmall_11 rfl (lv_at hl 1 rfl) ?_
          refine va_get (D := D) (ci := 4) (v := .ref oP) (C := RX4) (T := TX4) (N := 14) hx hb hts k_2 hown hK.1 hP 0 rfl rfl 0 (by decide) k_3 (fun _ h9 => h9) rfl dX4_cornersAreSmall_12 ?_
          refine lv_aload_n hx hb dX4_cornersAreSmall_15 rfl (lv_at hl 1 rfl) ?_
          refine va_get (D := D) (ci := 4) (v := .ref oR) (C := RX4) (T := TX4) (N := 14) hx hb hts k_2 hown hK.1 hP 0 rfl rfl 13 (by decide) k_4 (fun _ h9 => h9) rfl dX4_cornersAreSmall_16 ?_
          refine lv_iload_n hx hb dX4_cornersAreSmall_19 rfl (lv_at hl 0 rfl) ?_
          refine ld_i hx hb hK.1 hP 3 0 rfl rfl (ix_lit (by decide)) 4 (by decide) (v := gr 4) rfl dX4_cornersAreSmall_20 ?_
          have hPc := hP.sub (ws' := [kT oF (z3_read_x 3 np (gr 3) gp) (z3_read_y 3 np (gr 3) gp) (z3_read_z 3 np (gr 3) gp), kS oP 3 qp np, kA qp cI 180 gp]) [4, 1, 2] rfl
          have hDc := hD.sub (ws' := [kT oF (z3_read_x 3 np (gr 3) gp) (z3_read_y 3 np (gr 3) gp) (z3_read_z 3 np (gr 3) gp), kS oP 3 qp np, kA qp cI 180 gp]) [4, 1, 2] (by decide) rfl
          refine cl_v (wc := [kT oF (z3_read_x 3 np (gr 3) gp) (z3_read_y 3 np (gr 3) gp) (z3_read_z 3 np (gr 3) gp), kS oP 3 qp np, kA qp cI 180 gp]) (wr := [kC o oP oL oC oX oY oF oS oT oM fL fR fN fM oR, kA oR cI 5 gr]) (w1 := fun uu : Unit => [kT oF (z3_read_x 3 np (gr 4) gp) (z3_read_y 3 np (gr 4) gp) (z3_read_z 3 np (gr 4) gp), kS oP 3 qp np, kA qp cI 180 gp]) (wn := fun uu : Unit => [kC o oP oL oC oX oY oF oS oT oM fL fR fN fM oR, kS oP 3 qp np, kA qp cI 180 gp, kA oR cI 5 gr, kT oF (z3_read_x 3 np (gr 4) gp) (z3_read_y 3 np (gr 4) gp) (z3_read_z 3 np (gr 4) gp)]) (va_runV (As := [.ref oP, .int (gr 4)]) (rest := []) ⟨hx, hb, hml, hown, hts⟩ (c_X3_read l D cI cJ oF oP qp 180 (z3_read_x 3 np (gr 3) gp) (z3_read_y 3 np (gr 3) gp) (z3_read_z 3 np (gr 3) gp) 3 np (gr 4) gp hsp _) (cwV 2 hts gX4_cornersAreSmall_X3_read rfl rfl rfl (by decide +kernel) ⟨Nat.le_of_ble_eq_true rfl, Nat.le_of_ble_eq_true rfl⟩) ⟨gd_blP, va_recv hK.1 hPc (ci := 3) (q0 := 0) rfl rfl, gd_prP hPc hK hDc⟩ rfl rfl hl.1 rfl (lv_room (Nat.le_of_ble_eq_true rfl)) dX4_cornersAreSmall_21 ⟨Nat.zero_le _, Nat.zero_le _⟩) hP hD hS hA [4, 1, 2] [0, 3] rfl rfl (by decide) (by decide) [0, 3, 4, 1, 2] (by decide) (fun _ => rfl) (fun uG H locs hw hP hD hS => ?_)
          have hP : va_P D vwCl [kC o oP oL oC oX oY oF oS oT oM fL fR fN fM oR, kS oP 3 qp np, kA qp cI 180 gp, kA oR cI 5 gr, kT oF (z3_read_x 3 np (gr 4) gp) (z3_read_y 3 np (gr 4) gp) (z3_read_z 3 np (gr 4) gp)] H := hP
          have hD : va_D A [kC o oP oL oC oX oY oF oS oT oM fL fR fN fM oR, kS oP 3 qp np, kA qp cI 180 gp, kA oR cI 5 gr, kT oF (z3_read_x 3 np (gr 4) gp) (z3_read_y 3 np (gr 4) gp) (z3_read_z 3 np (gr 4) gp)] := hD
          clear hPc hDc
          refine lv_aload_n hx hb dX4_cornersAreSmall_24 rfl (lv_at hl 1 rfl) ?_
          refine va_get (D := D) (ci := 4) (v := .ref oF) (C := RX4) (T := TX4) (N := 14) hx hb hts k_2 hown hK.1 hP 0 rfl rfl 5 (by decide) k_1 (fun _ h9 => h9) rfl dX4_cornersAreSmall_25 ?_
          refine lv_ldc2 hx hb hown k_5 dX4_cornersAreSmall_28 ?_
          have hPc := hP.sub (ws' := [kT oF (z3_read_x 3 np (gr 4) gp) (z3_read_y 3 np (gr 4) gp) (z3_read_z 3 np (gr 4) gp)]) [4] rfl
          refine cr_i (va_runV (As := [.long 30]) (rest := []) ⟨hx, hb, hml, hown, hts⟩ (c_X3_isWithin l D cI cJ oF (z3_read_x 3 np (gr 4) gp) (z3_read_y 3 np (gr 4) gp) (z3_read_z 3 np (gr 4) gp) 30) (cwV 1 hts gX4_cornersAreSmall_X3_isWithin rfl rfl rfl (by decide +kernel) ⟨Nat.le_of_ble_eq_true rfl, Nat.le_of_ble_eq_true rfl⟩) ⟨gd_blR, va_recv hK.1 hPc (ci := 3) (q0 := 0) rfl rfl, gd_prR hPc hK⟩ rfl rfl hl.1 rfl (lv_room (Nat.le_of_ble_eq_true rfl)) dX4_cornersAreSmall_31 ⟨Nat.zero_le _, Nat.zero_le _⟩) (fun r_31 hw => ?_)
          subst hw
          clear hPc
          refine lv_if_ne (tgt := 39) hx hb dX4_cornersAreSmall_34 (by decide) (fun c_5 => ?_) (fun c_5 => ?_)
          · skip
            refine lv_iinc (v := 5) (lv' := [(1, .int 5), (0, .ref o)]) hx hb dX4_cornersAreSmall_39 hl (k := 0) rfl (by decide) (by decide) rfl (fun ls hl => ?_)
            refine lv_goto (tgt := 2) hx hb dX4_cornersAreSmall_42 (by decide) ?_
            refine lv_iload_n hx hb dX4_cornersAreSmall_2 rfl (lv_at hl 0 rfl) ?_
            refine lv_iconst (v := 5) hx hb dX4_cornersAreSmall_3 (by decide) ?_
            refine lv_icmp_ge (tgt := 45) hx hb dX4_cornersAreSmall_4 (by decide) (fun _ => ?_) (fun h => absurd (by decide) h)
            refine lv_iconst (v := 1) hx hb dX4_cornersAreSmall_45 (by decide) ?_
            have he : z4_cornersAreSmall np gp gr = 1 := by unfold z4_cornersAreSmall; rw [if_neg c_1, if_neg c_2, if_neg c_3, if_neg c_4, if_neg c_5]
            exact rt_z (w1 := fun uu : Int64 × Int64 × Int64 => [kC o oP oL oC oX oY oF oS oT oM fL fR fN fM oR, kS oP 3 qp np, kA qp cI 180 gp, kA oR cI 5 gr, kT oF uu.1 uu.2.1 uu.2.2]) hx hb hr rfl hlk hS dX4_cornersAreSmall_46 ((z3_read_x 3 np (gr 4) gp, z3_read_y 3 np (gr 4) gp, z3_read_z 3 np (gr 4) gp)) he.symm (by dsimp only; exact hP) (by dsimp only; exact hD)
          · skip
            refine lv_iconst (v := 0) hx hb dX4_cornersAreSmall_37 (by decide) ?_
            have he : z4_cornersAreSmall np gp gr = 0 := by unfold z4_cornersAreSmall; rw [if_neg c_1, if_neg c_2, if_neg c_3, if_neg c_4, if_pos c_5]
            exact rt_z (w1 := fun uu : Int64 × Int64 × Int64 => [kC o oP oL oC oX oY oF oS oT oM fL fR fN fM oR, kS oP 3 qp np, kA qp cI 180 gp, kA oR cI 5 gr, kT oF uu.1 uu.2.1 uu.2.2]) hx hb hr rfl hlk hS dX4_cornersAreSmall_38 ((z3_read_x 3 np (gr 4) gp, z3_read_y 3 np (gr 4) gp, z3_read_z 3 np (gr 4) gp)) he.symm (by dsimp only; exact hP) (by dsimp only; exact hD)
        · skip
          refine lv_iconst (v := 0) hx hb dX4_cornersAreSmall_37 (by decide) ?_
          have he : z4_cornersAreSmall np gp gr = 0 := by unfold z4_cornersAreSmall; rw [if_neg c_1, if_neg c_2, if_neg c_3, if_pos c_4]
          exact rt_z (w1 := fun uu : Int64 × Int64 × Int64 => [kC o oP oL oC oX oY oF oS oT oM fL fR fN fM oR, kS oP 3 qp np, kA qp cI 180 gp, kA oR cI 5 gr, kT oF uu.1 uu.2.1 uu.2.2]) hx hb hr rfl hlk hS dX4_cornersAreSmall_38 ((z3_read_x 3 np (gr 3) gp, z3_read_y 3 np (gr 3) gp, z3_read_z 3 np (gr 3) gp)) he.symm (by dsimp only; exact hP) (by dsimp only; exact hD)
      · skip
        refine lv_iconst (v := 0) hx hb dX4_cornersAreSmall_37 (by decide) ?_
        have he : z4_cornersAreSmall np gp gr = 0 := by unfold z4_cornersAreSmall; rw [if_neg c_1, if_neg c_2, if_pos c_3]
        exact rt_z (w1 := fun uu : Int64 × Int64 × Int64 => [kC o oP oL oC oX oY oF oS oT oM fL fR fN fM oR, kS oP 3 qp np, kA qp cI 180 gp, kA oR cI 5 gr, kT oF uu.1 uu.2.1 uu.2.2]) hx hb hr rfl hlk hS dX4_cornersAreSmall_38 ((z3_read_x 3 np (gr 2) gp, z3_read_y 3 np (gr 2) gp, z3_read_z 3 np (gr 2) gp)) he.symm (by dsimp only; exact hP) (by dsimp only; exact hD)
    · skip
      refine lv_iconst (v := 0) hx hb dX4_cornersAreSmall_37 (by decide) ?_
      have he : z4_cornersAreSmall np gp gr = 0 := by unfold z4_cornersAreSmall; rw [if_neg c_1, if_pos c_2]
      exact rt_z (w1 := fun uu : Int64 × Int64 × Int64 => [kC o oP oL oC oX oY oF oS oT oM fL fR fN fM oR, kS oP 3 qp np, kA qp cI 180 gp, kA oR cI 5 gr, kT oF uu.1 uu.2.1 uu.2.2]) hx hb hr rfl hlk hS dX4_cornersAreSmall_38 ((z3_read_x 3 np (gr 1) gp, z3_read_y 3 np (gr 1) gp, z3_read_z 3 np (gr 1) gp)) he.symm (by dsimp only; exact hP) (by dsimp only; exact hD)
  · skip
    refine lv_iconst (v := 0) hx hb dX4_cornersAreSmall_37 (by decide) ?_
    have he : z4_cornersAreSmall np gp gr = 0 := by unfold z4_cornersAreSmall; rw [if_pos c_1]
    exact rt_z (w1 := fun uu : Int64 × Int64 × Int64 => [kC o oP oL oC oX oY oF oS oT oM fL fR fN fM oR, kS oP 3 qp np, kA qp cI 180 gp, kA oR cI 5 gr, kT oF uu.1 uu.2.1 uu.2.2]) hx hb hr rfl hlk hS dX4_cornersAreSmall_38 ((z3_read_x 3 np (gr 0) gp, z3_read_y 3 np (gr 0) gp, z3_read_z 3 np (gr 0) gp)) he.symm (by dsimp only; exact hP) (by dsimp only; exact hD)
