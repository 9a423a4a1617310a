-- laid by wip/whole/gen
/-- a contract of a method that makes cells -/
def mn_C (l : Launch) (y : MethodName) (ws : List Cond) (rm : Room) (D : va_G) (cI cJ : ClassId) (av : List Value) (w : va_W) (Q : va_G → (Nat → Prop) → Array Value → State → Outcome → State → Prop) (mc ms : Nat) : Prop :=
  ∀ sz : Nat, Met l y ws rm (va_Pc av (gd_P D cI cJ sz w)) (Q D (va_A w sz)) mc ms (va_A w sz)
theorem mn_in {l : Launch} {y : MethodName} {ws ws' : List Cond} {rm : Room} {D : va_G} {cI cJ : ClassId} {av : List Value} {w : va_W} {Q : va_G → (Nat → Prop) → Array Value → State → Outcome → State → Prop} {mc ms : Nat} {cc : ByteArray} {maxL : Nat} {ret : Option FieldType} {lv : List (Nat × Value)}
    (hy : plainName y.cls = true) (hw : ws = Cond.code y cc maxL ret :: ws') (hlen : (lg_sl av).length ≤ maxL) (hlv : lv_args 0 av = lv)
    (body : ∀ (p : Program) (e : Env) (s : State) (m : MethodId) (below : List Frame) (meth : Method) (c : Code) (ls : Array Slot) (A : Nat → Prop), p.tables.exec = Jvm.exec → c.code = cc → meth.sig.returnType = ret → c.maxLocals = maxL → s.vm.findClass y.cls = some m.cls → (∀ x ∈ ws, x.before av.toArray s = true) → meth.locks = false → meth.name = y.name →
      va_P D vwCl w s.heap → gd_K D cI cJ s → va_D A w → (∀ q : Nat, s.heap.size ≤ q → A q) → va_S A s.heap s.heap [] → lv_has ls maxL lv →
      W p l e (headSpec ws rm).room s m av.toArray below meth c s.heap [] 0 0 (MQ below (Q D A) av.toArray s mc ms A) (F0 m 0 ls [])) : mn_C l y ws rm D cI cJ av w Q mc ms := by
  intro sz
  refine Met.ofW (cc := cc) (maxL := maxL) (ret := ret) hy hw ?_
  intro p e s m args below meth c s₁ B hml hv
  obtain ⟨rfl, hsz, hP, hK, hD0⟩ := hv
  subst hsz
  have hl := lv_entry av (n := maxL) hlen
  rw [hlv] at hl
  rw [lg_entry_eq]
  exact body p e s m below meth c _ (va_A w s.heap.size) B.exec B.bytes B.returns hml (findClass_of_methodNamed B.named) (atoms_spec (ws := ws) B.pre) B.notSynchronized ((name_of_methodNamed B.named B.method).1) hP hK hD0.self (fun q h => Or.inr h) va_S.rf hl
section CTOR
variable {p : Program} {l : Launch} {e : Env} {R : Room} {s : State} {m : MethodId} {args : Array Value} {below : List Frame} {meth : Method} {c : Code} {H : Heap} {locs : List Loc} {cells slots : Nat} {Q : State → Prop}
variable {pc : Nat} {ls : Array Slot} {rest st0 : List Value} {a : Array Value} {A0 : Nat → Prop} {H0 : Heap} {D : va_G} {ws wc wr : va_W} {cc : ByteArray} {mc ms : Nat}
theorem cl_n {S : Type} {post : S → Prop} {w1 wn : S → va_W} (hr : va_Run p l e R s m args below meth c H locs cells slots mc ms (F0 m pc ls st0) rest (qe_v post w1 D (va_A wc H.size) a) (va_A wc H.size)) (hP : va_P D vwCl ws H) (hD : va_D A0 ws) (hS : va_S A0 H0 H locs) (hA : ∀ q, H0.size ≤ q → A0 q) (isC isR : List Nat) (hC : isC.map (fun i => ws[i]?) = wc.map some) (hR : isR.map (fun i => ws[i]?) = wr.map some) (hn : va_nd isR = true) (hdis : ∀ i ∈ isR, i ∉ isC) (pm : List Nat) (hpm : va_nd pm = true) (hw : ∀ u, pm.map (fun i => (wr ++ w1 u)[i]?) = (wn u).map some)
    (kk : ∀ (u : S) (H1 : Heap) (locs1 : List Loc), post u → va_P D vwCl (wn u) H1 → va_D A0 (wn u) → va_S A0 H0 H1 locs1 → W p l e R s m args below meth c H1 locs1 (cells + mc) (slots + ms) Q (F0 m (pc + 3) ls rest)) : W p l e R s m args below meth c H locs cells slots Q (F0 m pc ls st0) := by
  have hFc := va_free hD hS hA isC hC
  refine va_callv hr hS (fun q _ h => hFc q h) hFc (fun u t H1 locs1 ht hvm hw1 hB hz1 hk1 hS1 => ?_)
  obtain ⟨hP1, hD1⟩ := hB
  rw [ht] at hP1
  obtain ⟨hP2, hD2⟩ := va_join hP hD isC isR hC hR hn hdis hk1 hFc hP1 hD1
  exact kk u H1 locs1 hw1 (hP2.sub pm (ls_fm (hw u))) (hD2.sub pm hpm (hw u)) hS1
theorem rt_n {S : Type} {post : S → Prop} {w1 : S → va_W} {A : Nat → Prop} (hx : p.tables.exec = Jvm.exec) (hb : c.code = cc) (hr : meth.sig.returnType = none) (hlk : meth.locks = false) (hS : va_S A s.heap H locs) (hdg : decode cc pc = .ok (.return_, 1)) (u : S) (hp : post u) (hP : va_P D vwCl (w1 u) H) (hD : va_D A (w1 u)) : W p l e R s m args below meth c H locs cells slots (MQ below (qe_v post w1 D A) args s cells slots A) (F0 m pc ls []) :=
  W.vret hx hb hr (fun t ht hW => ⟨⟨u, rfl, hp, by rw [ht]; exact hP, hD⟩, hS.F ht⟩) hS.2.2 hdg hlk
theorem na_i {A : Nat → Prop} {cI cJ : ClassId} (hx : p.tables.exec = Jvm.exec) (hb : c.code = cc) (harr : (Cond.arrayClass .int).before args s = true) (hK : gd_K D cI cJ s) (hP : va_P D vwCl ws H) (hD : va_D A ws) (hS : va_S A H0 H locs) (hA : ∀ q, H0.size ≤ q → A q) {n : Int32} {N : Nat} (hn : ¬ n < 0) (hN : n.toNatClampNeg = N) (hbytes : N * componentBytes .int ≤ 536870912) (hcells : cells + 1 ≤ R.cells) (hslots : slots + N ≤ R.slots) (hdg : decode cc pc = .ok (.newarray .int, 2))
    (kk : ∀ (q : Nat) (H1 : Heap), va_P D vwCl (ws ++ [kA q cI N (fun _ => 0)]) H1 → va_D A (ws ++ [kA q cI N (fun _ => 0)]) → va_S A H0 H1 locs → W p l e R s m args below meth c H1 locs (cells + 1) (slots + N) Q (F0 m (pc + 2) ls (.ref q :: rest))) : W p l e R s m args below meth c H locs cells slots Q (F0 m pc ls (.int n :: rest)) := by
  refine va_newa (atype := .int) (ty := .int) hx hb harr rfl hK.1 hP hD hS hA (a0 := (N, .inl (fun _ => 0))) (fun cA => vp_cell_i cA N _) hn hN hbytes hcells hslots hdg (fun q cA H1 hK1 hP1 hD1 hS1 => ?_)
  have e1 := va_nm_int (hK1.2 2 _ rfl).2
  have e2 := va_nm_int (hK.1.2 0 _ rfl).2
  cases Option.some.inj (e1.symm.trans e2)
  exact kk q H1 hP1 hD1 hS1
theorem na_l {A : Nat → Prop} {cI cJ : ClassId} (hx : p.tables.exec = Jvm.exec) (hb : c.code = cc) (harr : (Cond.arrayClass .long).before args s = true) (hK : gd_K D cI cJ s) (hP : va_P D vwCl ws H) (hD : va_D A ws) (hS : va_S A H0 H locs) (hA : ∀ q, H0.size ≤ q → A q) {n : Int32} {N : Nat} (hn : ¬ n < 0) (hN : n.toNatClampNeg = N) (hbytes : N * componentBytes .long ≤ 536870912) (hcells : cells + 1 ≤ R.cells) (hslots : slots + N ≤ R.slots) (hdg : decode cc pc = .ok (.newarray .long, 2))
    (kk : ∀ (q : Nat) (H1 : Heap), va_P D vwCl (ws ++ [kJ q cJ N (fun _ => 0)]) H1 → va_D A (ws ++ [kJ q cJ N (fun _ => 0)]) → va_S A H0 H1 locs → W p l e R s m args below meth c H1 locs (cells + 1) (slots + N) Q (F0 m (pc + 2) ls (.ref q :: rest))) : W p l e R s m args below meth c H locs cells slots Q (F0 m pc ls (.int n :: rest)) := by
  refine va_newa (atype := .long) (ty := .long) hx hb harr rfl hK.1 hP hD hS hA (a0 := (N, .inr (.inl (fun _ => 0)))) (fun cA => vp_cell_l cA N _) hn hN hbytes hcells hslots hdg (fun q cA H1 hK1 hP1 hD1 hS1 => ?_)
  have e1 := va_nm_long (hK1.2 2 _ rfl).2
  have e2 := va_nm_long (hK.1.2 1 _ rfl).2
  cases Option.some.inj (e1.symm.trans e2)
  exact kk q H1 hP1 hD1 hS1
end CTOR
set_option maxHeartbeats 4000000 in
set_option maxRecDepth 100000 in
theorem c_X3_init (l : Launch) (D : va_G) (cI cJ : ClassId) (h : Nat) (x : Int64) (y : Int64) (z : Int64) : mn_C l yX3_init wsX3_init ({ frames := 1, cells := 0, slots := 0, locals := 12 }) D cI cJ [.ref h] [kT h x y z] (qe_v (fun _ : Unit => True) (fun uu => [kT h x y z])) 0 0 := by
  refine mn_in (cc := cX3_init) (lv := [(0, .ref h)]) (by decide) rfl (Nat.le_of_ble_eq_true rfl) rfl ?_
  intro pG eG sG mG below meth cG ls A hx hb hr hml hown hts hlk hin hP hK hD hA hS hl
  have hown : sG.vm.findClass RX3 = some mG.cls := hown
  have k_1 := hts (.methodLink RX3 1 objectInit) (by decide +kernel)
  have k_2 := hts (.instanceMethod objectInit) (by decide +kernel)
  refine lv_aload_n hx hb dX3_init_0 rfl (lv_at hl 0 rfl) ?_
  refine W.objInit hx hb hown k_1 k_2 (hts (.code objectInit ⟨#[0xb1]⟩ 1 none) (List.mem_of_getElem? (i := 3) rfl)) rfl (by rw [hml]; exact hl.1) rfl dX3_init_1 (Nat.le_of_ble_eq_true rfl) (Nat.le_of_ble_eq_true rfl) ?_
  refine W.eq (g2 := F0 mG 4 ls []) rfl ?_
  exact rt_n (w1 := fun uu : Unit => [kT h x y z]) hx hb hr hlk hS dX3_init_4 (()) trivial hP hD
set_option maxHeartbeats 4000000 in
set_option maxRecDepth 100000 in
theorem c_X0_init (l : Launch) (D : va_G) (cI cJ : ClassId) (h : Nat) (a : Int64) (b : Int64) (c : Int64) (d : Int64) (e : Int64) (f : Int64) : mn_C l yX0_init wsX0_init ({ frames := 1, cells := 0, slots := 0, locals := 12 }) D cI cJ [.ref h] [kF h a b c d e f] (qe_v (fun _ : Unit => True) (fun uu => [kF h a b c d e f])) 0 0 := by
  refine mn_in (cc := cX0_init) (lv := [(0, .ref h)]) (by decide) rfl (Nat.le_of_ble_eq_true rfl) rfl ?_
  intro pG eG sG mG below meth cG ls A hx hb hr hml hown hts hlk hin hP hK hD hA hS hl
  have hown : sG.vm.findClass RX0 = some mG.cls := hown
  have k_1 := hts (.methodLink RX0 1 objectInit) (by decide +kernel)
  have k_2 := hts (.instanceMethod objectInit) (by decide +kernel)
  refine lv_aload_n hx hb dX0_init_0 rfl (lv_at hl 0 rfl) ?_
  refine W.objInit hx hb hown k_1 k_2 (hts (.code objectInit ⟨#[0xb1]⟩ 1 none) (List.mem_of_getElem? (i := 3) rfl)) rfl (by rw [hml]; exact hl.1) rfl dX0_init_1 (Nat.le_of_ble_eq_true rfl) (Nat.le_of_ble_eq_true rfl) ?_
  refine W.eq (g2 := F0 mG 4 ls []) rfl ?_
  exact rt_n (w1 := fun uu : Unit => [kF h a b c d e f]) hx hb hr hlk hS dX0_init_4 (()) trivial hP hD
set_option maxHeartbeats 4000000 in
set_option maxRecDepth 100000 in
theorem c_X2_init_3 (l : Launch) (D : va_G) (cI cJ : ClassId) (h : Nat) : mn_C l yX2_init wsX2_init ({ frames := 1, cells := 1, slots := 180, locals := 12 }) D cI cJ [.ref h, .int 3] [(h, .inr (2, [.int 0, .null, .int 0]))] (qe_v (fun _ : Nat => True) (fun uu => [kS h 3 uu 0, kA uu cI 180 (fun _ => 0)])) 1 180 := by
  refine mn_in (cc := cX2_init) (lv := [(0, .ref h), (1, .int 3)]) (by decide) rfl (Nat.le_of_ble_eq_true rfl) rfl ?_
  intro pG eG sG mG below meth cG ls A hx hb hr hml hown hts hlk hin hP hK hD hA hS hl
  have hown : sG.vm.findClass RX2 = some mG.cls := hown
  have k_1 := hts (.methodLink RX2 3 objectInit) (by decide +kernel)
  have k_2 := hts (.instanceMethod objectInit) (by decide +kernel)
  have k_3 := hts (.fieldLink RX2 9 "ConicRows$Shelf" "width" "I") (by decide +kernel)
  have k_4 : ∀ w ∈ wsX20, w ∈ wsX2_init := by decide +kernel
  have k_5 := hts (.arrayClass .int) (by decide +kernel)
  have k_6 := hts (.fieldLink RX2 15 "ConicRows$Shelf" "numbers" "[I") (by decide +kernel)
  have k_7 := hts (.fieldLink RX2 19 "ConicRows$Shelf" "size" "I") (by decide +kernel)
  refine lv_aload_n hx hb dX2_init_0 rfl (lv_at hl 0 rfl) ?_
  refine W.objInit hx hb hown k_1 k_2 (hts (.code objectInit ⟨#[0xb1]⟩ 1 none) (List.mem_of_getElem? (i := 3) rfl)) rfl (by rw [hml]; exact hl.1) rfl dX2_init_1 (Nat.le_of_ble_eq_true rfl) (Nat.le_of_ble_eq_true rfl) ?_
  refine W.eq (g2 := F0 mG 4 ls []) rfl ?_
  refine lv_aload_n hx hb dX2_init_4 rfl (lv_at hl 0 rfl) ?_
  refine lv_iload_n hx hb dX2_init_5 rfl (lv_at hl 1 rfl) ?_
  refine lv_bipush (v := 6) hx hb dX2_init_6 (by decide) ?_
  refine lv_icmp_ne (tgt := 16) hx hb dX2_init_8 (by decide) (fun _ => ?_) (fun h => absurd h (by decide))
  refine lv_iconst (v := 3) hx hb dX2_init_16 (by decide) ?_
  refine va_putF (D := D) (ci := 2) (v := .int 3) (ty := .int) (C := RX2) (T := TX2) (N := 3) hx hb hts k_4 tyX2 tyX2_ok nmX2 hown hK.1 hP hD hS 0 rfl rfl 0 (by decide) k_3 (fun _ h9 => h9) rfl hin rfl (by decide +kernel) rfl rfl (Nat.le_of_ble_eq_true rfl) dX2_init_17 (fun H locs hP hD hS => ?_)
  have hP : va_P D vwCl [(h, .inr (2, [.int 3, .null, .int 0]))] H := hP
  have hD : va_D A [(h, .inr (2, [.int 3, .null, .int 0]))] := hD
  refine lv_aload_n hx hb dX2_init_20 rfl (lv_at hl 0 rfl) ?_
  refine lv_bipush (v := 60) hx hb dX2_init_21 (by decide) ?_
  refine lv_aload_n hx hb dX2_init_23 rfl (lv_at hl 0 rfl) ?_
  refine va_get (D := D) (ci := 2) (v := .int 3) (C := RX2) (T := TX2) (N := 3) hx hb hts k_4 hown hK.1 hP 0 rfl rfl 0 (by decide) k_3 (fun _ h9 => h9) rfl dX2_init_24 ?_
  refine lv_imul hx hb dX2_init_27 ?_
  refine lv_eqi (v := 180) (by decide) ?_
  refine na_i (N := 180) hx hb k_5 hK hP hD hS hA (by decide) (by decide) (by decide) (Nat.le_of_ble_eq_true rfl) (Nat.le_of_ble_eq_true rfl) dX2_init_28 (fun q_28 H hP hD hS => ?_)
  have hP : va_P D vwCl [(h, .inr (2, [.int 3, .null, .int 0])), kA q_28 cI 180 (fun _ => 0)] H := hP
  have hD : va_D A [(h, .inr (2, [.int 3, .null, .int 0])), kA q_28 cI 180 (fun _ => 0)] := hD
  refine W.widen (k := 1) (n := 180) (by omega) (by omega) ?_
  refine va_putF (D := D) (ci := 2) (v := .ref q_28) (ty := .array .int) (C := RX2) (T := TX2) (N := 3) hx hb hts k_4 tyX2 tyX2_ok nmX2 hown hK.1 hP hD hS 0 rfl rfl 1 (by decide) k_6 (fun _ h9 => h9) rfl hin rfl (by decide +kernel) rfl rfl (Nat.le_of_ble_eq_true rfl) dX2_init_30 (fun H locs hP hD hS => ?_)
  have hP : va_P D vwCl [kS h 3 q_28 0, kA q_28 cI 180 (fun _ => 0)] H := hP
  have hD : va_D A [kS h 3 q_28 0, kA q_28 cI 180 (fun _ => 0)] := hD
  refine lv_aload_n hx hb dX2_init_33 rfl (lv_at hl 0 rfl) ?_
  refine lv_iconst (v := 0) hx hb dX2_init_34 (by decide) ?_
  refine va_put (D := D) (ci := 2) (v := .int 0) (ty := .int) (C := RX2) (T := TX2) (N := 3) hx hb hts k_4 tyX2 tyX2_ok nmX2 hown hK.1 hP hD hS 0 rfl rfl 2 (by decide) k_7 (fun _ h9 => h9) rfl (by decide +kernel) rfl rfl (Nat.le_of_ble_eq_true rfl) dX2_init_35 (fun H locs hP hD hS => ?_)
  have hP : va_P D vwCl [kS h 3 q_28 0, kA q_28 cI 180 (fun _ => 0)] H := hP
  have hD : va_D A [kS h 3 q_28 0, kA q_28 cI 180 (fun _ => 0)] := hD
  exact rt_n (w1 := fun uu : Nat => [kS h 3 uu 0, kA uu cI 180 (fun _ => 0)]) hx hb hr hlk hS dX2_init_38 (q_28) trivial hP hD
set_option maxHeartbeats 4000000 in
set_option maxRecDepth 100000 in
theorem c_X2_init_6 (l : Launch) (D : va_G) (cI cJ : ClassId) (h : Nat) : mn_C l yX2_init wsX2_init ({ frames := 1, cells := 1, slots := 360, locals := 12 }) D cI cJ [.ref h, .int 6] [(h, .inr (2, [.int 0, .null, .int 0]))] (qe_v (fun _ : Nat => True) (fun uu => [kS h 6 uu 0, kA uu cI 360 (fun _ => 0)])) 1 360 := by
  refine mn_in (cc := cX2_init) (lv := [(0, .ref h), (1, .int 6)]) (by decide) rfl (Nat.le_of_ble_eq_true rfl) rfl ?_
  intro pG eG sG mG below meth cG ls A hx hb hr hml hown hts hlk hin hP hK hD hA hS hl
  have hown : sG.vm.findClass RX2 = some mG.cls := hown
  have k_1 := hts (.methodLink RX2 3 objectInit) (by decide +kernel)
  have k_2 := hts (.instanceMethod objectInit) (by decide +kernel)
  have k_3 := hts (.fieldLink RX2 9 "ConicRows$Shelf" "width" "I") (by decide +kernel)
  have k_4 : ∀ w ∈ wsX20, w ∈ wsX2_init := by decide +kernel
  have k_5 := hts (.arrayClass .int) (by decide +kernel)
  have k_6 := hts (.fieldLink RX2 15 "ConicRows$Shelf" "numbers" "[I") (by decide +kernel)
  have k_7 := hts (.fieldLink RX2 19 "ConicRows$Shelf" "size" "I") (by decide +kernel)
  refine lv_aload_n hx hb dX2_init_0 rfl (lv_at hl 0 rfl) ?_
  refine W.objInit hx hb hown k_1 k_2 (hts (.code objectInit ⟨#[0xb1]⟩ 1 none) (List.mem_of_getElem? (i := 3) rfl)) rfl (by rw [hml]; exact hl.1) rfl dX2_init_1 (Nat.le_of_ble_eq_true rfl) (Nat.le_of_ble_eq_true rfl) ?_
  refine W.eq (g2 := F0 mG 4 ls []) rfl ?_
  refine lv_aload_n hx hb dX2_init_4 rfl (lv_at hl 0 rfl) ?_
  refine lv_iload_n hx hb dX2_init_5 rfl (lv_at hl 1 rfl) ?_
  refine lv_bipush (v := 6) hx hb dX2_init_6 (by decide) ?_
  refine lv_icmp_ne (tgt := 16) hx hb dX2_init_8 (by decide) (fun h => absurd (by decide) h) (fun _ => ?_)
  refine lv_bipush (v := 6) hx hb dX2_init_11 (by decide) ?_
  refine lv_goto (tgt := 17) hx hb dX2_init_13 (by decide) ?_
  refine va_putF (D := D) (ci := 2) (v := .int 6) (ty := .int) (C := RX2) (T := TX2) (N := 3) hx hb hts k_4 tyX2 tyX2_ok nmX2 hown hK.1 hP hD hS 0 rfl rfl 0 (by decide) k_3 (fun _ h9 => h9) rfl hin rfl (by decide +kernel) rfl rfl (Nat.le_of_ble_eq_true rfl) dX2_init_17 (fun H locs hP hD hS => ?_)
  have hP : va_P D vwCl [(h, .inr (2, [.int 6, .null, .int 0]))] H := hP
  have hD : va_D A [(h, .inr (2, [.int 6, .null, .int 0]))] := hD
  refine lv_aload_n hx hb dX2_init_20 rfl (lv_at hl 0 rfl) ?_
  refine lv_bipush (v := 60) hx hb dX2_init_21 (by decide) ?_
  refine lv_aload_n hx hb dX2_init_23 rfl (lv_at hl 0 rfl) ?_
  refine va_get (D := D) (ci := 2) (v := .int 6) (C := RX2) (T := TX2) (N := 3) hx hb hts k_4 hown hK.1 hP 0 rfl rfl 0 (by decide) k_3 (fun _ h9 => h9) rfl dX2_init_24 ?_
  refine lv_imul hx hb dX2_init_27 ?_
  refine lv_eqi (v := 360) (by decide) ?_
  refine na_i (N := 360) hx hb k_5 hK hP hD hS hA (by decide) (by decide) (by decide) (Nat.le_of_ble_eq_true rfl) (Nat.le_of_ble_eq_true rfl) dX2_init_28 (fun q_28 H hP hD hS => ?_)
  have hP : va_P D vwCl [(h, .inr (2, [.int 6, .null, .int 0])), kA q_28 cI 360 (fun _ => 0)] H := hP
  have hD : va_D A [(h, .inr (2, [.int 6, .null, .int 0])), kA q_28 cI 360 (fun _ => 0)] := hD
  refine W.widen (k := 1) (n := 360) (by omega) (by omega) ?_
  refine va_putF (D := D) (ci := 2) (v := .ref q_28) (ty := .array .int) (C := RX2) (T := TX2) (N := 3) hx hb hts k_4 tyX2 tyX2_ok nmX2 hown hK.1 hP hD hS 0 rfl rfl 1 (by decide) k_6 (fun _ h9 => h9) rfl hin rfl (by decide +kernel) rfl rfl (Nat.le_of_ble_eq_true rfl) dX2_init_30 (fun H locs hP hD hS => ?_)
  have hP : va_P D vwCl [kS h 6 q_28 0, kA q_28 cI 360 (fun _ => 0)] H := hP
  have hD : va_D A [kS h 6 q_28 0, kA q_28 cI 360 (fun _ => 0)] := hD
  refine lv_aload_n hx hb dX2_init_33 rfl (lv_at hl 0 rfl) ?_
  refine lv_iconst (v := 0) hx hb dX2_init_34 (by decide) ?_
  refine va_put (D := D) (ci := 2) (v := .int 0) (ty := .int) (C := RX2) (T := TX2) (N := 3) hx hb hts k_4 tyX2 tyX2_ok nmX2 hown hK.1 hP hD hS 0 rfl rfl 2 (by decide) k_7 (fun _ h9 => h9) rfl (by decide +kernel) rfl rfl (Nat.le_of_ble_eq_true rfl) dX2_init_35 (fun H locs hP hD hS => ?_)
  have hP : va_P D vwCl [kS h 6 q_28 0, kA q_28 cI 360 (fun _ => 0)] H := hP
  have hD : va_D A [kS h 6 q_28 0, kA q_28 cI 360 (fun _ => 0)] := hD
  exact rt_n (w1 := fun uu : Nat => [kS h 6 uu 0, kA uu cI 360 (fun _ => 0)]) hx hb hr hlk hS dX2_init_38 (q_28) trivial hP hD
set_option maxHeartbeats 4000000 in
set_option maxRecDepth 100000 in
theorem c_X1_init (l : Launch) (D : va_G) (cI cJ : ClassId) (h : Nat) : mn_C l yX1_init wsX1_init ({ frames := 2, cells := 2, slots := 6, locals := 32 }) D cI cJ [.ref h] [(h, .inr (1, [.null, .null, .int 0]))] (qe_v (fun _ : Nat × Nat => True) (fun uu => [kP h uu.1 uu.2 0, kT uu.1 0 0 0, kT uu.2 0 0 0])) 2 6 := by
  refine mn_in (cc := cX1_init) (lv := [(0, .ref h)]) (by decide) rfl (Nat.le_of_ble_eq_true rfl) rfl ?_
  intro pG eG sG mG below meth cG ls A hx hb hr hml hown hts hlk hin hP hK hD hA hS hl
  have hown : sG.vm.findClass RX1 = some mG.cls := hown
  have k_1 := hts (.methodLink RX1 3 objectInit) (by decide +kernel)
  have k_2 := hts (.instanceMethod objectInit) (by decide +kernel)
  have k_3 : ∀ w ∈ wsX30, w ∈ wsX1_init := by decide +kernel
  have k_4 := hts (.classLink RX1 9 RX3) (by decide +kernel)
  have k_5 := hts (.instantiable RX3 3) (by decide +kernel)
  have k_6 := hts (.initialized RX3) (by decide +kernel)
  have k_7 := hts (.instanceMethod yX3_init) (by decide +kernel)
  have k_8 := hts (.fieldLink RX1 12 "ConicRows$Pair" "one" "LConicRows$Triple;") (by decide +kernel)
  have k_9 : ∀ w ∈ wsX10, w ∈ wsX1_init := by decide +kernel
  have k_10 := hts (.fieldLink RX1 18 "ConicRows$Pair" "two" "LConicRows$Triple;") (by decide +kernel)
  have k_11 := hts (.fieldLink RX1 21 "ConicRows$Pair" "size" "I") (by decide +kernel)
  refine lv_aload_n hx hb dX1_init_0 rfl (lv_at hl 0 rfl) ?_
  refine W.objInit hx hb hown k_1 k_2 (hts (.code objectInit ⟨#[0xb1]⟩ 1 none) (List.mem_of_getElem? (i := 3) rfl)) rfl (by rw [hml]; exact hl.1) rfl dX1_init_1 (Nat.le_of_ble_eq_true rfl) (Nat.le_of_ble_eq_true rfl) ?_
  refine W.eq (g2 := F0 mG 4 ls []) rfl ?_
  refine lv_aload_n hx hb dX1_init_4 rfl (lv_at hl 0 rfl) ?_
  refine va_new (ci := 3) (fs := [.long 0, .long 0, .long 0]) (C := RX3) (T := TX3) (N := 3) hx hb hts k_3 tyX3 tyX3_ok hown k_4 k_5 k_6 hK.1 hP hD hS hA rfl (fun j hj => by rcases (show j = 0 ∨ j = 1 ∨ j = 2 by omega) with rfl | rfl | rfl <;> rfl) (Nat.le_of_ble_eq_true rfl) (Nat.le_of_ble_eq_true rfl) dX1_init_5 (fun q_5 H hP hD hS => ?_)
  have hP : va_P D vwCl [(h, .inr (1, [.null, .null, .int 0])), kT q_5 0 0 0] H := hP
  have hD : va_D A [(h, .inr (1, [.null, .null, .int 0])), kT q_5 0 0 0] := hD
  refine W.widen (k := 1) (n := 3) (by omega) (by omega) ?_
  refine lv_dup hx hb dX1_init_8 rfl ?_
  have hPc := hP.sub (ws' := [kT q_5 0 0 0]) [1] rfl
  have hDc := hD.sub (ws' := [kT q_5 0 0 0]) [1] (by decide) rfl
  refine cl_n (wc := [kT q_5 0 0 0]) (wr := [(h, .inr (1, [.null, .null, .int 0]))]) (w1 := fun uu : Unit => [kT q_5 0 0 0]) (wn := fun uu : Unit => [(h, .inr (1, [.null, .null, .int 0])), kT q_5 0 0 0]) (va_runIN (As := []) (rest := [.ref q_5, .ref h]) ⟨hx, hb, hml, hown, hts⟩ (c_X3_init l D cI cJ q_5 0 0 0 _) ⟨va_cnB 0 hts gX1_init_X3_init_n11 rfl rfl rfl (nw_m hK.2 0 rfl) k_6 (by decide +kernel) ⟨Nat.le_of_ble_eq_true rfl, Nat.le_of_ble_eq_true rfl⟩, rfl, k_7⟩ ⟨gd_blP, gd_prP hPc hK hDc⟩ rfl rfl hl.1 rfl (lv_room (Nat.le_of_ble_eq_true rfl)) dX1_init_9 ⟨Nat.le_of_ble_eq_true rfl, Nat.le_of_ble_eq_true rfl⟩) hP hD hS hA [1] [0] rfl rfl (by decide) (by decide) [0, 1] (by decide) (fun _ => rfl) (fun uG H locs hw hP hD hS => ?_)
  have hP : va_P D vwCl [(h, .inr (1, [.null, .null, .int 0])), kT q_5 0 0 0] H := hP
  have hD : va_D A [(h, .inr (1, [.null, .null, .int 0])), kT q_5 0 0 0] := hD
  refine W.widen (k := 1) (n := 3) (by omega) (by omega) ?_
  clear hPc hDc
  refine va_put (D := D) (ci := 1) (v := .ref q_5) (ty := .object "ConicRows$Triple") (C := RX1) (T := TX1) (N := 3) hx hb hts k_9 tyX1 tyX1_ok nmX1 hown hK.1 hP hD hS 0 rfl rfl 0 (by decide) k_8 (fun _ h9 => h9) rfl (by decide +kernel) rfl rfl (Nat.le_of_ble_eq_true rfl) dX1_init_12 (fun H locs hP hD hS => ?_)
  have hP : va_P D vwCl [(h, .inr (1, [.ref q_5, .null, .int 0])), kT q_5 0 0 0] H := hP
  have hD : va_D A [(h, .inr (1, [.ref q_5, .null, .int 0])), kT q_5 0 0 0] := hD
  refine lv_aload_n hx hb dX1_init_15 rfl (lv_at hl 0 rfl) ?_
  refine va_new (ci := 3) (fs := [.long 0, .long 0, .long 0]) (C := RX3) (T := TX3) (N := 3) hx hb hts k_3 tyX3 tyX3_ok hown k_4 k_5 k_6 hK.1 hP hD hS hA rfl (fun j hj => by rcases (show j = 0 ∨ j = 1 ∨ j = 2 by omega) with rfl | rfl | rfl <;> rfl) (Nat.le_of_ble_eq_true rfl) (Nat.le_of_ble_eq_true rfl) dX1_init_16 (fun q_16 H hP hD hS => ?_)
  have hP : va_P D vwCl [(h, .inr (1, [.ref q_5, .null, .int 0])), kT q_5 0 0 0, kT q_16 0 0 0] H := hP
  have hD : va_D A [(h, .inr (1, [.ref q_5, .null, .int 0])), kT q_5 0 0 0, kT q_16 0 0 0] := hD
  refine W.widen (k := 2) (n := 6) (by omega) (by omega) ?_
  refine lv_dup hx hb dX1_init_19 rfl ?_
  have hPc := hP.sub (ws' := [kT q_16 0 0 0]) [2] rfl
  have hDc := hD.sub (ws' := [kT q_16 0 0 0]) [2] (by decide) rfl
  refine cl_n (wc := [kT q_16 0 0 0]) (wr := [(h, .inr (1, [.ref q_5, .null, .int 0])), kT q_5 0 0 0]) (w1 := fun uu : Unit => [kT q_16 0 0 0]) (wn := fun uu : Unit => [(h, .inr (1, [.ref q_5, .null, .int 0])), kT q_5 0 0 0, kT q_16 0 0 0]) (va_runIN (As := []) (rest := [.ref q_16, .ref h]) ⟨hx, hb, hml, hown, hts⟩ (c_X3_init l D cI cJ q_16 0 0 0 _) ⟨va_cnB 0 hts gX1_init_X3_init_n11 rfl rfl rfl (nw_m hK.2 0 rfl) k_6 (by decide +kernel) ⟨Nat.le_of_ble_eq_true rfl, Nat.le_of_ble_eq_true rfl⟩, rfl, k_7⟩ ⟨gd_blP, gd_prP hPc hK hDc⟩ rfl rfl hl.1 rfl (lv_room (Nat.le_of_ble_eq_true rfl)) dX1_init_20 ⟨Nat.le_of_ble_eq_true rfl, Nat.le_of_ble_eq_true rfl⟩) hP hD hS hA [2] [0, 1] rfl rfl (by decide) (by decide) [0, 1, 2] (by decide) (fun _ => rfl) (fun uG H locs hw hP hD hS => ?_)
  have hP : va_P D vwCl [(h, .inr (1, [.ref q_5, .null, .int 0])), kT q_5 0 0 0, kT q_16 0 0 0] H := hP
  have hD : va_D A [(h, .inr (1, [.ref q_5, .null, .int 0])), kT q_5 0 0 0, kT q_16 0 0 0] := hD
  refine W.widen (k := 2) (n := 6) (by omega) (by omega) ?_
  clear hPc hDc
  refine va_put (D := D) (ci := 1) (v := .ref q_16) (ty := .object "ConicRows$Triple") (C := RX1) (T := TX1) (N := 3) hx hb hts k_9 tyX1 tyX1_ok nmX1 hown hK.1 hP hD hS 0 rfl rfl 1 (by decide) k_10 (fun _ h9 => h9) rfl (by decide +kernel) rfl rfl (Nat.le_of_ble_eq_true rfl) dX1_init_23 (fun H locs hP hD hS => ?_)
  have hP : va_P D vwCl [kP h q_5 q_16 0, kT q_5 0 0 0, kT q_16 0 0 0] H := hP
  have hD : va_D A [kP h q_5 q_16 0, kT q_5 0 0 0, kT q_16 0 0 0] := hD
  refine lv_aload_n hx hb dX1_init_26 rfl (lv_at hl 0 rfl) ?_
  refine lv_iconst (v := 0) hx hb dX1_init_27 (by decide) ?_
  refine va_put (D := D) (ci := 1) (v := .int 0) (ty := .int) (C := RX1) (T := TX1) (N := 3) hx hb hts k_9 tyX1 tyX1_ok nmX1 hown hK.1 hP hD hS 0 rfl rfl 2 (by decide) k_11 (fun _ h9 => h9) rfl (by decide +kernel) rfl rfl (Nat.le_of_ble_eq_true rfl) dX1_init_28 (fun H locs hP hD hS => ?_)
  have hP : va_P D vwCl [kP h q_5 q_16 0, kT q_5 0 0 0, kT q_16 0 0 0] H := hP
  have hD : va_D A [kP h q_5 q_16 0, kT q_5 0 0 0, kT q_16 0 0 0] := hD
  exact rt_n (w1 := fun uu : Nat × Nat => [kP h uu.1 uu.2 0, kT uu.1 0 0 0, kT uu.2 0 0 0]) hx hb hr hlk hS dX1_init_31 ((q_5, q_16)) trivial hP hD
