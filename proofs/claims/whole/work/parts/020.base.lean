-- written by wip/whole/gen/mkbase.py: the ground that all contracts stand on
def nw_F : List (String × Nat × String × String × String) := [("ConicRows", 109, "ConicRows$Shelf", "width", "I"), ("ConicRows", 100, "ConicRows$Shelf", "size", "I"), ("ConicRows$Shelf", 42, "ConicRows$Triple", "x", "J"), ("ConicRows$Form", 49, "ConicRows$Triple", "x", "J"), ("ConicRows", 281, "ConicRows$Triple", "x", "J"), ("ConicRows$Shelf", 50, "ConicRows$Triple", "y", "J"), ("ConicRows$Form", 54, "ConicRows$Triple", "y", "J"), ("ConicRows", 278, "ConicRows$Triple", "y", "J"), ("ConicRows$Shelf", 53, "ConicRows$Triple", "z", "J"), ("ConicRows$Form", 57, "ConicRows$Triple", "z", "J"), ("ConicRows", 275, "ConicRows$Triple", "z", "J"), ("ConicRows", 295, "ConicRows$Pair", "one", "LConicRows$Triple;"), ("ConicRows", 301, "ConicRows$Pair", "two", "LConicRows$Triple;"), ("ConicRows", 307, "ConicRows$Pair", "size", "I"), ("ConicRows$Shelf", 64, "ConicRows$Form", "a", "J"), ("ConicRows$Triple", 47, "ConicRows$Form", "a", "J"), ("ConicRows", 162, "ConicRows$Form", "a", "J"), ("ConicRows$Shelf", 67, "ConicRows$Form", "b", "J"), ("ConicRows$Triple", 52, "ConicRows$Form", "b", "J"), ("ConicRows", 180, "ConicRows$Form", "b", "J"), ("ConicRows$Shelf", 70, "ConicRows$Form", "c", "J"), ("ConicRows$Triple", 58, "ConicRows$Form", "c", "J"), ("ConicRows", 166, "ConicRows$Form", "c", "J"), ("ConicRows$Shelf", 73, "ConicRows$Form", "d", "J"), ("ConicRows$Triple", 55, "ConicRows$Form", "d", "J"), ("ConicRows", 198, "ConicRows$Form", "d", "J"), ("ConicRows$Shelf", 76, "ConicRows$Form", "e", "J"), ("ConicRows$Triple", 61, "ConicRows$Form", "e", "J"), ("ConicRows", 201, "ConicRows$Form", "e", "J"), ("ConicRows$Shelf", 79, "ConicRows$Form", "f", "J"), ("ConicRows$Triple", 64, "ConicRows$Form", "f", "J"), ("ConicRows", 204, "ConicRows$Form", "f", "J")]
def nw_M : List (String × Nat × MethodName) := [("ConicRows$Pair", 11, ⟨"ConicRows$Triple", "<init>", "()V"⟩), ("ConicRows", 36, ⟨"ConicRows$Triple", "<init>", "()V"⟩), ("ConicRows", 52, ⟨"ConicRows$Form", "<init>", "()V"⟩), ("ConicRows$Triple", 29, ⟨"ConicRows", "isWithin", "(JJ)Z"⟩), ("ConicRows$Triple", 41, ⟨"ConicRows", "commonDivisor", "(JJ)J"⟩), ("ConicRows$Form", 41, ⟨"ConicRows", "isWithin", "(JJ)Z"⟩), ("ConicRows$Form", 66, ⟨"ConicRows", "commonDivisor", "(JJ)J"⟩)]
/-- the links between nest mates, which the tables' words do not carry -/
def nw_all (U : State) : Prop := (∀ q ∈ nw_F, va_Nw (.fieldLinkNest q.1 q.2.1 q.2.2.1 q.2.2.2.1 q.2.2.2.2 "ConicRows") U) ∧ (∀ q ∈ nw_M, va_Nw (.methodLinkNest q.1 q.2.1 q.2.2 "ConicRows") U)
theorem nw_warm {s U : State} (hW : s.WarmedH U.vm) (h : nw_all s) : nw_all U := ⟨fun q hq => va_Nw.warmF hW (h.1 q hq), fun q hq => va_Nw.warmM hW (h.2 q hq)⟩
theorem nw_same {u U : State} (e : u.vm = U.vm) (h : nw_all u) : nw_all U := ⟨fun q hq => va_Nw.same rfl e (h.1 q hq), fun q hq => va_Nw.same rfl e (h.2 q hq)⟩
theorem nw_f {s : State} (h : nw_all s) (k : Nat) {o : String} {i : Nat} {r n d : String} (hk : nw_F[k]? = some (o, i, r, n, d)) {args : Array Value} : (Cond.fieldLinkNest o i r n d "ConicRows").before args s = true := va_Nw.use rfl (h.1 _ (List.mem_of_getElem? hk))
theorem nw_m {s : State} (h : nw_all s) (k : Nat) {o : String} {i : Nat} {y : MethodName} (hk : nw_M[k]? = some (o, i, y)) : va_Nw (.methodLinkNest o i y "ConicRows") s := h.2 _ (List.mem_of_getElem? hk)
/-- what is known of the tables: the classes, the two array classes, the nest links -/
def gd_K (D : va_G) (cI cJ : ClassId) (U : State) : Prop := va_K D vwCl [(cI, .int), (cJ, .long)] U ∧ nw_all U
/-- the start of a method that writes: its cells ws, apart from one another, in a heap of size sz -/
def gd_P (D : va_G) (cI cJ : ClassId) (sz : Nat) (ws : va_W) : State → Prop := fun U => U.heap.size = sz ∧ va_P D vwCl ws U.heap ∧ gd_K D cI cJ U ∧ va_D (fun _ => True) ws
/-- the start of a method that only reads -/
def gd_R (D : va_G) (cI cJ : ClassId) (ws : va_W) : State → Prop := fun U => va_P D vwCl ws U.heap ∧ gd_K D cI cJ U
/-- the end of a method that writes -/
def gd_B (D : va_G) (A : Nat → Prop) (w : va_W) (t : State) : Prop := va_P D vwCl w t.heap ∧ va_D A w
theorem gd_Kw {D : va_G} {cI cJ : ClassId} {s U : State} (hW : s.WarmedH U.vm) (h : gd_K D cI cJ s) : gd_K D cI cJ U := ⟨va_K.moved hW.alike h.1, nw_warm hW h.2⟩
theorem gd_Ks {D : va_G} {cI cJ : ClassId} {u U : State} (e : u.vm = U.vm) (h : gd_K D cI cJ u) : gd_K D cI cJ U := ⟨va_K.moved (by rw [e]; exact Vm.Alike.refl U.vm) h.1, nw_same e h.2⟩
theorem gd_blP {D : va_G} {cI cJ : ClassId} {sz : Nat} {ws : va_W} {av : List Value} : FrameBlind (va_Pc av (gd_P D cI cJ sz ws)) := fun a U g mk q => by
  obtain ⟨q0, q1, qP, qK, qD⟩ := q
  exact ⟨q0, q1, qP, gd_Ks (u := U) (U := U.calling g mk a) rfl qK, qD⟩
theorem gd_blR {D : va_G} {cI cJ : ClassId} {ws : va_W} {av : List Value} : FrameBlind (va_Pc av (gd_R D cI cJ ws)) := fun a U g mk q => by
  obtain ⟨q0, qP, qK⟩ := q
  exact ⟨q0, qP, gd_Ks (u := U) (U := U.calling g mk a) rfl qK⟩
theorem gd_prP {D : va_G} {cI cJ : ClassId} {s : State} {H : Heap} {A : Nat → Prop} {ws : va_W} {av : List Value} (hP : va_P D vwCl ws H) (hK : gd_K D cI cJ s) (hD : va_D A ws) : ∀ U : State, U.heap = H → s.WarmedH U.vm → va_Pc av (gd_P D cI cJ H.size ws) av.toArray U :=
  fun U hU hW => ⟨rfl, by rw [hU], by rw [hU]; exact hP, gd_Kw hW hK, hD.weaken (fun _ _ _ _ => trivial)⟩
theorem gd_prR {D : va_G} {cI cJ : ClassId} {s : State} {H : Heap} {ws : va_W} {av : List Value} (hP : va_P D vwCl ws H) (hK : gd_K D cI cJ s) : ∀ U : State, U.heap = H → s.WarmedH U.vm → va_Pc av (gd_R D cI cJ ws) av.toArray U :=
  fun U hU hW => ⟨rfl, by rw [hU]; exact hP, gd_Kw hW hK⟩
/-- the ends of a writing method: void, int, long; S: what its end leaves open -/
abbrev qe_v {S : Type} (post : S → Prop) (w1 : S → va_W) (D : va_G) (A : Nat → Prop) := va_Qv post (fun u t => gd_B D A (w1 u) t) A
abbrev qe_i {S : Type} (post : Int32 → S → Prop) (w1 : S → va_W) (D : va_G) (A : Nat → Prop) := va_Qi post (fun u t => gd_B D A (w1 u) t) A
abbrev qe_l {S : Type} (post : Int64 → S → Prop) (w1 : S → va_W) (D : va_G) (A : Nat → Prop) := va_Ql post (fun u t => gd_B D A (w1 u) t) A
/-- a contract of a writing method that makes nothing -/
def mw_C (l : Launch) (y : MethodName) (ws : List Cond) (rm : Room) (D : va_G) (cI cJ : ClassId) (av : List Value) (w : va_W) (Q : va_G → (Nat → Prop) → Array Value → State → Outcome → State → Prop) : Prop :=
  ∀ sz : Nat, Met l y ws rm (va_Pc av (gd_P D cI cJ sz w)) (Q D (va_A w sz)) 0 0 (va_A w sz)
/-- a contract of a reading method -/
def mr_C (l : Launch) (y : MethodName) (ws : List Cond) (rm : Room) (D : va_G) (cI cJ : ClassId) (av : List Value) (w : va_W) (Q : Array Value → State → Outcome → State → Prop) : Prop :=
  Met l y ws rm (va_Pc av (gd_R D cI cJ w)) Q 0 0 (fun _ => False)
theorem mw_in {l : Launch} {y : MethodName} {ws ws' : List Cond} {rm : Room} {D : va_G} {cI cJ : ClassId} {av : List Value} {w : va_W} {Q : va_G → (Nat → Prop) → Array Value → State → Outcome → State → Prop} {cc : ByteArray} {maxL : Nat} {ret : Option FieldType} {lv : List (Nat × Value)}
    (hy : plainName y.cls = true) (hw : ws = Cond.code y cc maxL ret :: ws') (hlen : (lg_sl av).length ≤ maxL) (hlv : lv_args 0 av = lv)
    (body : ∀ (p : Program) (e : Env) (s : State) (m : MethodId) (below : List Frame) (meth : Method) (c : Code) (ls : Array Slot) (A : Nat → Prop), p.tables.exec = Jvm.exec → c.code = cc → meth.sig.returnType = ret → c.maxLocals = maxL → s.vm.findClass y.cls = some m.cls → (∀ x ∈ ws, x.before av.toArray s = true) → meth.locks = false → meth.name = y.name →
      va_P D vwCl w s.heap → gd_K D cI cJ s → va_D A w → (∀ q : Nat, s.heap.size ≤ q → A q) → va_S A s.heap s.heap [] → lv_has ls maxL lv →
      W p l e (headSpec ws rm).room s m av.toArray below meth c s.heap [] 0 0 (MQ below (Q D A) av.toArray s 0 0 A) (F0 m 0 ls [])) : mw_C l y ws rm D cI cJ av w Q := by
  intro sz
  refine Met.ofW (cc := cc) (maxL := maxL) (ret := ret) hy hw ?_
  intro p e s m args below meth c s₁ B hml hv
  obtain ⟨rfl, hsz, hP, hK, hD0⟩ := hv
  subst hsz
  have hl := lv_entry av (n := maxL) hlen
  rw [hlv] at hl
  rw [lg_entry_eq]
  exact body p e s m below meth c _ (va_A w s.heap.size) B.exec B.bytes B.returns hml (findClass_of_methodNamed B.named) (atoms_spec (ws := ws) B.pre) B.notSynchronized ((name_of_methodNamed B.named B.method).1) hP hK hD0.self (fun q h => Or.inr h) va_S.rf hl
theorem mr_in {l : Launch} {y : MethodName} {ws ws' : List Cond} {rm : Room} {D : va_G} {cI cJ : ClassId} {av : List Value} {w : va_W} {Q : Array Value → State → Outcome → State → Prop} {cc : ByteArray} {maxL : Nat} {ret : Option FieldType} {lv : List (Nat × Value)}
    (hy : plainName y.cls = true) (hw : ws = Cond.code y cc maxL ret :: ws') (hlen : (lg_sl av).length ≤ maxL) (hlv : lv_args 0 av = lv)
    (body : ∀ (p : Program) (e : Env) (s : State) (m : MethodId) (below : List Frame) (meth : Method) (c : Code) (ls : Array Slot), p.tables.exec = Jvm.exec → c.code = cc → meth.sig.returnType = ret → c.maxLocals = maxL → s.vm.findClass y.cls = some m.cls → (∀ x ∈ ws, x.before av.toArray s = true) → meth.locks = false →
      va_P D vwCl w s.heap → gd_K D cI cJ s → lv_has ls maxL lv →
      W p l e (headSpec ws rm).room s m av.toArray below meth c s.heap [] 0 0 (MQ below Q av.toArray s 0 0 (fun _ => False)) (F0 m 0 ls [])) : mr_C l y ws rm D cI cJ av w Q := by
  refine Met.ofW (cc := cc) (maxL := maxL) (ret := ret) hy hw ?_
  intro p e s m args below meth c s₁ B hml hv
  obtain ⟨rfl, hP, hK⟩ := hv
  have hl := lv_entry av (n := maxL) hlen
  rw [hlv] at hl
  rw [lg_entry_eq]
  exact body p e s m below meth c _ B.exec B.bytes B.returns hml (findClass_of_methodNamed B.named) (atoms_spec (ws := ws) B.pre) B.notSynchronized hP hK hl
theorem ls_fm {α : Type} {f : Nat → Option α} : ∀ {is : List Nat} {l : List α}, is.map f = l.map some → is.filterMap f = l
  | [], [], _ => rfl
  | [], _ :: _, h => by simp at h
  | _ :: _, [], h => by simp at h
  | i :: is, a :: l, h => by
    simp only [List.map_cons, List.cons.injEq] at h
    rw [List.filterMap_cons, h.1]
    simp only [List.cons.injEq, true_and]
    exact ls_fm h.2
section BASE
variable {p : Program} {l : Launch} {e : Env} {R : Room} {s : State} {m : MethodId} {args : Array Value} {below : List Frame} {meth : Method} {c : Code} {H : Heap} {locs : List Loc} {cells slots : Nat} {Q : State → Prop}
variable {pc : Nat} {ls : Array Slot} {rest st0 : List Value} {a : Array Value} {A0 : Nat → Prop} {H0 : Heap} {D : va_G} {ws wc wr : va_W} {cc : ByteArray}
/-- behind a call that writes: the callee's cells changed in their places -/
theorem cl_v {S : Type} {post : S → Prop} {w1 wn : S → va_W} (hr : va_Run p l e R s m args below meth c H locs cells slots 0 0 (F0 m pc ls st0) rest (qe_v post w1 D (va_A wc H.size) a) (va_A wc H.size)) (hP : va_P D vwCl ws H) (hD : va_D A0 ws) (hS : va_S A0 H0 H locs) (hA : ∀ q, H0.size ≤ q → A0 q) (isC isR : List Nat) (hC : isC.map (fun i => ws[i]?) = wc.map some) (hR : isR.map (fun i => ws[i]?) = wr.map some) (hn : va_nd isR = true) (hdis : ∀ i ∈ isR, i ∉ isC) (pm : List Nat) (hpm : va_nd pm = true) (hw : ∀ u, pm.map (fun i => (wr ++ w1 u)[i]?) = (wn u).map some)
    (kk : ∀ (u : S) (H1 : Heap) (locs1 : List Loc), post u → va_P D vwCl (wn u) H1 → va_D A0 (wn u) → va_S A0 H0 H1 locs1 → W p l e R s m args below meth c H1 locs1 cells slots Q (F0 m (pc + 3) ls rest)) : W p l e R s m args below meth c H locs cells slots Q (F0 m pc ls st0) := by
  have hFc := va_free hD hS hA isC hC
  refine va_callv hr hS (fun q _ h => hFc q h) hFc (fun u t H1 locs1 ht hvm hw1 hB hz1 hk1 hS1 => ?_)
  obtain ⟨hP1, hD1⟩ := hB
  rw [ht] at hP1
  obtain ⟨hP2, hD2⟩ := va_join hP hD isC isR hC hR hn hdis hk1 hFc hP1 hD1
  exact kk u H1 locs1 hw1 (hP2.sub pm (ls_fm (hw u))) (hD2.sub pm hpm (hw u)) hS1
theorem cl_i {S : Type} {post : Int32 → S → Prop} {w1 wn : S → va_W} (hr : va_Run p l e R s m args below meth c H locs cells slots 0 0 (F0 m pc ls st0) rest (qe_i post w1 D (va_A wc H.size) a) (va_A wc H.size)) (hP : va_P D vwCl ws H) (hD : va_D A0 ws) (hS : va_S A0 H0 H locs) (hA : ∀ q, H0.size ≤ q → A0 q) (isC isR : List Nat) (hC : isC.map (fun i => ws[i]?) = wc.map some) (hR : isR.map (fun i => ws[i]?) = wr.map some) (hn : va_nd isR = true) (hdis : ∀ i ∈ isR, i ∉ isC) (pm : List Nat) (hpm : va_nd pm = true) (hw : ∀ u, pm.map (fun i => (wr ++ w1 u)[i]?) = (wn u).map some)
    (kk : ∀ (r : Int32) (u : S) (H1 : Heap) (locs1 : List Loc), post r u → va_P D vwCl (wn u) H1 → va_D A0 (wn u) → va_S A0 H0 H1 locs1 → W p l e R s m args below meth c H1 locs1 cells slots Q (F0 m (pc + 3) ls (.int r :: rest))) : W p l e R s m args below meth c H locs cells slots Q (F0 m pc ls st0) := by
  have hFc := va_free hD hS hA isC hC
  refine va_calli hr hS (fun q _ h => hFc q h) hFc (fun r u t H1 locs1 ht hvm hw1 hB hz1 hk1 hS1 => ?_)
  obtain ⟨hP1, hD1⟩ := hB
  rw [ht] at hP1
  obtain ⟨hP2, hD2⟩ := va_join hP hD isC isR hC hR hn hdis hk1 hFc hP1 hD1
  exact kk r u H1 locs1 hw1 (hP2.sub pm (ls_fm (hw u))) (hD2.sub pm hpm (hw u)) hS1
theorem cl_l {S : Type} {post : Int64 → S → Prop} {w1 wn : S → va_W} (hr : va_Run p l e R s m args below meth c H locs cells slots 0 0 (F0 m pc ls st0) rest (qe_l post w1 D (va_A wc H.size) a) (va_A wc H.size)) (hP : va_P D vwCl ws H) (hD : va_D A0 ws) (hS : va_S A0 H0 H locs) (hA : ∀ q, H0.size ≤ q → A0 q) (isC isR : List Nat) (hC : isC.map (fun i => ws[i]?) = wc.map some) (hR : isR.map (fun i => ws[i]?) = wr.map some) (hn : va_nd isR = true) (hdis : ∀ i ∈ isR, i ∉ isC) (pm : List Nat) (hpm : va_nd pm = true) (hw : ∀ u, pm.map (fun i => (wr ++ w1 u)[i]?) = (wn u).map some)
    (kk : ∀ (r : Int64) (u : S) (H1 : Heap) (locs1 : List Loc), post r u → va_P D vwCl (wn u) H1 → va_D A0 (wn u) → va_S A0 H0 H1 locs1 → W p l e R s m args below meth c H1 locs1 cells slots Q (F0 m (pc + 3) ls (.long r :: rest))) : W p l e R s m args below meth c H locs cells slots Q (F0 m pc ls st0) := by
  have hFc := va_free hD hS hA isC hC
  refine va_calll hr hS (fun q _ h => hFc q h) hFc (fun r u t H1 locs1 ht hvm hw1 hB hz1 hk1 hS1 => ?_)
  obtain ⟨hP1, hD1⟩ := hB
  rw [ht] at hP1
  obtain ⟨hP2, hD2⟩ := va_join hP hD isC isR hC hR hn hdis hk1 hFc hP1 hD1
  exact kk r u H1 locs1 hw1 (hP2.sub pm (ls_fm (hw u))) (hD2.sub pm hpm (hw u)) hS1
/-- behind a call that reads -/
theorem cr_i {post : Int32 → Prop} (hr : va_Run p l e R s m args below meth c H locs cells slots 0 0 (F0 m pc ls st0) rest (vp_Si post a) (fun _ => False))
    (kk : ∀ r : Int32, post r → W p l e R s m args below meth c H locs cells slots Q (F0 m (pc + 3) ls (.int r :: rest))) : W p l e R s m args below meth c H locs cells slots Q (F0 m pc ls st0) := vp_callSi hr.run kk
theorem cr_l {post : Int64 → Prop} (hr : va_Run p l e R s m args below meth c H locs cells slots 0 0 (F0 m pc ls st0) rest (vp_Sl post a) (fun _ => False))
    (kk : ∀ r : Int64, post r → W p l e R s m args below meth c H locs cells slots Q (F0 m (pc + 3) ls (.long r :: rest))) : W p l e R s m args below meth c H locs cells slots Q (F0 m pc ls st0) := vp_callSl hr.run kk
/-- the ends of a method -/
theorem rt_v {S : Type} {post : S → Prop} {w1 : S → va_W} {A : Nat → Prop} (hx : p.tables.exec = Jvm.exec) (hb : c.code = cc) (hr : meth.sig.returnType = none) (hlk : meth.locks = false) (hS : va_S A s.heap H locs) (hdg : decode cc pc = .ok (.return_, 1)) (u : S) (hp : post u) (hP : va_P D vwCl (w1 u) H) (hD : va_D A (w1 u)) : W p l e R s m args below meth c H locs 0 0 (MQ below (qe_v post w1 D A) args s 0 0 A) (F0 m pc ls []) :=
  W.vret hx hb hr (fun t ht hW => ⟨⟨u, rfl, hp, by rw [ht]; exact hP, hD⟩, hS.F ht⟩) hS.2.2 hdg hlk
theorem rt_i {S : Type} {post : Int32 → S → Prop} {w1 : S → va_W} {A : Nat → Prop} {v : Int32} (hx : p.tables.exec = Jvm.exec) (hb : c.code = cc) (hr : meth.sig.returnType = some .int) (hlk : meth.locks = false) (hS : va_S A s.heap H locs) (hdg : decode cc pc = .ok (.ireturn, 1)) (u : S) (hp : post v u) (hP : va_P D vwCl (w1 u) H) (hD : va_D A (w1 u)) : W p l e R s m args below meth c H locs 0 0 (MQ below (qe_i post w1 D A) args s 0 0 A) (F0 m pc ls [.int v]) :=
  W.iret hx hb hr (fun t ht hW => ⟨⟨v, u, rfl, hp, by rw [ht]; exact hP, hD⟩, hS.F ht⟩) hS.2.2 hdg hlk
theorem rt_z {S : Type} {post : Int32 → S → Prop} {w1 : S → va_W} {A : Nat → Prop} {v : Int32} (hx : p.tables.exec = Jvm.exec) (hb : c.code = cc) (hr : meth.sig.returnType = some .boolean) (hn : narrow .boolean (.int v) = .int v) (hlk : meth.locks = false) (hS : va_S A s.heap H locs) (hdg : decode cc pc = .ok (.ireturn, 1)) (u : S) (hp : post v u) (hP : va_P D vwCl (w1 u) H) (hD : va_D A (w1 u)) : W p l e R s m args below meth c H locs 0 0 (MQ below (qe_i post w1 D A) args s 0 0 A) (F0 m pc ls [.int v]) :=
  W.zret hx hb hr hn (fun t ht hW => ⟨⟨v, u, rfl, hp, by rw [ht]; exact hP, hD⟩, hS.F ht⟩) hS.2.2 hdg hlk
theorem rt_l {S : Type} {post : Int64 → S → Prop} {w1 : S → va_W} {A : Nat → Prop} {v : Int64} (hx : p.tables.exec = Jvm.exec) (hb : c.code = cc) (hr : meth.sig.returnType = some .long) (hlk : meth.locks = false) (hS : va_S A s.heap H locs) (hdg : decode cc pc = .ok (.lreturn, 1)) (u : S) (hp : post v u) (hP : va_P D vwCl (w1 u) H) (hD : va_D A (w1 u)) : W p l e R s m args below meth c H locs 0 0 (MQ below (qe_l post w1 D A) args s 0 0 A) (F0 m pc ls [.long v]) :=
  W.lret hx hb hr (fun t ht hW => ⟨⟨v, u, rfl, hp, by rw [ht]; exact hP, hD⟩, hS.F ht⟩) hS.2.2 hdg hlk
theorem rr_i {post : Int32 → Prop} {v : Int32} (hx : p.tables.exec = Jvm.exec) (hb : c.code = cc) (hr : meth.sig.returnType = some .int) (hlk : meth.locks = false) (hdg : decode cc pc = .ok (.ireturn, 1)) (hp : post v) : W p l e R s m args below meth c s.heap [] 0 0 (MQ below (vp_Si post) args s 0 0 (fun _ => False)) (F0 m pc ls [.int v]) :=
  W.iret hx hb hr (fun t ht hW => ⟨v, rfl, hp, ht⟩) (fun q h => by cases h) hdg hlk
theorem rr_z {post : Int32 → Prop} {v : Int32} (hx : p.tables.exec = Jvm.exec) (hb : c.code = cc) (hr : meth.sig.returnType = some .boolean) (hn : narrow .boolean (.int v) = .int v) (hlk : meth.locks = false) (hdg : decode cc pc = .ok (.ireturn, 1)) (hp : post v) : W p l e R s m args below meth c s.heap [] 0 0 (MQ below (vp_Si post) args s 0 0 (fun _ => False)) (F0 m pc ls [.int v]) :=
  W.zret hx hb hr hn (fun t ht hW => ⟨v, rfl, hp, ht⟩) (fun q h => by cases h) hdg hlk
theorem rr_l {post : Int64 → Prop} {v : Int64} (hx : p.tables.exec = Jvm.exec) (hb : c.code = cc) (hr : meth.sig.returnType = some .long) (hlk : meth.locks = false) (hdg : decode cc pc = .ok (.lreturn, 1)) (hp : post v) : W p l e R s m args below meth c s.heap [] 0 0 (MQ below (vp_Sl post) args s 0 0 (fun _ => False)) (F0 m pc ls [.long v]) :=
  W.lret hx hb hr (fun t ht hW => ⟨v, rfl, hp, ht⟩) (fun q h => by cases h) hdg hlk
/-- a compare of longs with the branch behind it -/
theorem lb_eq (hx : p.tables.exec = Jvm.exec) (hb : c.code = cc) {x y : Int64} {off : Int} {tgt pc1 : Nat} (h1 : decode cc pc = .ok (.lcmp, 1)) (hp1 : pc + 1 = pc1) (h2 : decode cc pc1 = .ok (.ifCond .eq off, 3)) (ht : (pc1 : Int) + off = (tgt : Int))
    (kt : x = y → W p l e R s m args below meth c H locs cells slots Q (F0 m tgt ls rest)) (kf : ¬ x = y → W p l e R s m args below meth c H locs cells slots Q (F0 m (pc1 + 3) ls rest)) : W p l e R s m args below meth c H locs cells slots Q (F0 m pc ls (.long y :: .long x :: rest)) := by
  subst hp1
  exact W.lcmp hx hb h1 (lv_if_eq hx hb h2 ht (fun h => kt ((lg_cmp_eq x y).mp h)) (fun h => kf (fun q => h ((lg_cmp_eq x y).mpr q))))
theorem lb_ne (hx : p.tables.exec = Jvm.exec) (hb : c.code = cc) {x y : Int64} {off : Int} {tgt pc1 : Nat} (h1 : decode cc pc = .ok (.lcmp, 1)) (hp1 : pc + 1 = pc1) (h2 : decode cc pc1 = .ok (.ifCond .ne off, 3)) (ht : (pc1 : Int) + off = (tgt : Int))
    (kt : ¬ x = y → W p l e R s m args below meth c H locs cells slots Q (F0 m tgt ls rest)) (kf : x = y → W p l e R s m args below meth c H locs cells slots Q (F0 m (pc1 + 3) ls rest)) : W p l e R s m args below meth c H locs cells slots Q (F0 m pc ls (.long y :: .long x :: rest)) := by
  subst hp1
  exact W.lcmp hx hb h1 (lv_if_ne hx hb h2 ht (fun h => kt (fun q => h ((lg_cmp_eq x y).mpr q))) (fun h => kf ((lg_cmp_eq x y).mp h)))
theorem lb_lt (hx : p.tables.exec = Jvm.exec) (hb : c.code = cc) {x y : Int64} {off : Int} {tgt pc1 : Nat} (h1 : decode cc pc = .ok (.lcmp, 1)) (hp1 : pc + 1 = pc1) (h2 : decode cc pc1 = .ok (.ifCond .lt off, 3)) (ht : (pc1 : Int) + off = (tgt : Int))
    (kt : x < y → W p l e R s m args below meth c H locs cells slots Q (F0 m tgt ls rest)) (kf : ¬ x < y → W p l e R s m args below meth c H locs cells slots Q (F0 m (pc1 + 3) ls rest)) : W p l e R s m args below meth c H locs cells slots Q (F0 m pc ls (.long y :: .long x :: rest)) := by
  subst hp1
  exact W.lcmp hx hb h1 (lv_if_lt hx hb h2 ht (fun h => kt ((lg_cmp_lt x y).mp h)) (fun h => kf (fun q => h ((lg_cmp_lt x y).mpr q))))
theorem lb_ge (hx : p.tables.exec = Jvm.exec) (hb : c.code = cc) {x y : Int64} {off : Int} {tgt pc1 : Nat} (h1 : decode cc pc = .ok (.lcmp, 1)) (hp1 : pc + 1 = pc1) (h2 : decode cc pc1 = .ok (.ifCond .ge off, 3)) (ht : (pc1 : Int) + off = (tgt : Int))
    (kt : y ≤ x → W p l e R s m args below meth c H locs cells slots Q (F0 m tgt ls rest)) (kf : ¬ y ≤ x → W p l e R s m args below meth c H locs cells slots Q (F0 m (pc1 + 3) ls rest)) : W p l e R s m args below meth c H locs cells slots Q (F0 m pc ls (.long y :: .long x :: rest)) := by
  subst hp1
  exact W.lcmp hx hb h1 (lv_if_ge hx hb h2 ht (fun h => kt ((lg_cmp_ge x y).mp h)) (fun h => kf (fun q => h ((lg_cmp_ge x y).mpr q))))
theorem lb_gt (hx : p.tables.exec = Jvm.exec) (hb : c.code = cc) {x y : Int64} {off : Int} {tgt pc1 : Nat} (h1 : decode cc pc = .ok (.lcmp, 1)) (hp1 : pc + 1 = pc1) (h2 : decode cc pc1 = .ok (.ifCond .gt off, 3)) (ht : (pc1 : Int) + off = (tgt : Int))
    (kt : y < x → W p l e R s m args below meth c H locs cells slots Q (F0 m tgt ls rest)) (kf : ¬ y < x → W p l e R s m args below meth c H locs cells slots Q (F0 m (pc1 + 3) ls rest)) : W p l e R s m args below meth c H locs cells slots Q (F0 m pc ls (.long y :: .long x :: rest)) := by
  subst hp1
  exact W.lcmp hx hb h1 (lv_if_gt hx hb h2 ht (fun h => kt ((lg_cmp_gt x y).mp h)) (fun h => kf (fun q => h ((lg_cmp_gt x y).mpr q))))
theorem lb_le (hx : p.tables.exec = Jvm.exec) (hb : c.code = cc) {x y : Int64} {off : Int} {tgt pc1 : Nat} (h1 : decode cc pc = .ok (.lcmp, 1)) (hp1 : pc + 1 = pc1) (h2 : decode cc pc1 = .ok (.ifCond .le off, 3)) (ht : (pc1 : Int) + off = (tgt : Int))
    (kt : x ≤ y → W p l e R s m args below meth c H locs cells slots Q (F0 m tgt ls rest)) (kf : ¬ x ≤ y → W p l e R s m args below meth c H locs cells slots Q (F0 m (pc1 + 3) ls rest)) : W p l e R s m args below meth c H locs cells slots Q (F0 m pc ls (.long y :: .long x :: rest)) := by
  subst hp1
  exact W.lcmp hx hb h1 (lv_if_le hx hb h2 ht (fun h => kt ((lg_cmp_le x y).mp h)) (fun h => kf (fun q => h ((lg_cmp_le x y).mpr q))))
/-- array cells: the place and the value by name -/
theorem ix_lit {i : Int32} {n : Nat} (h : decide (¬ (i < 0 ∨ n ≤ i.toNatClampNeg)) = true) : vp_in i n := by
  have h2 := of_decide_eq_true h
  exact h2
theorem lv_eqi {x v : Int32} (h : x = v) (k : W p l e R s m args below meth c H locs cells slots Q (F0 m pc ls (.int v :: rest))) : W p l e R s m args below meth c H locs cells slots Q (F0 m pc ls (.int x :: rest)) := by
  subst h
  exact k
theorem ld_i {cl : List vw_C} {tys : List (ClassId × FieldType)} {b : Nat} (hx : p.tables.exec = Jvm.exec) (hb : c.code = cc) (hK : va_K D cl tys s) (hP : va_P D cl ws H) (q0 t0 : Nat) {cA : ClassId} {n : Nat} {f : Nat → Int32} (ha : ws[q0]? = some (b, .inl (cA, n, .inl f))) (ht : tys[t0]? = some (cA, .int)) {i : Int32} (hin : vp_in i n) (j : Nat) (hj : i.toNatClampNeg = j) {v : Int32} (hv : f j = v) (hdg : decode cc pc = .ok (.iaload, 1))
    (kk : W p l e R s m args below meth c H locs cells slots Q (F0 m (pc + 1) ls (.int v :: rest))) : W p l e R s m args below meth c H locs cells slots Q (F0 m pc ls (.int i :: .ref b :: rest)) := by
  subst hv; subst hj
  exact va_iald hx hb hK hP q0 t0 ha ht hin hdg kk
theorem ld_l {cl : List vw_C} {tys : List (ClassId × FieldType)} {b : Nat} (hx : p.tables.exec = Jvm.exec) (hb : c.code = cc) (hK : va_K D cl tys s) (hP : va_P D cl ws H) (q0 t0 : Nat) {cA : ClassId} {n : Nat} {f : Nat → Int64} (ha : ws[q0]? = some (b, .inl (cA, n, .inr (.inl f)))) (ht : tys[t0]? = some (cA, .long)) {i : Int32} (hin : vp_in i n) (j : Nat) (hj : i.toNatClampNeg = j) {v : Int64} (hv : f j = v) (hdg : decode cc pc = .ok (.laload, 1))
    (kk : W p l e R s m args below meth c H locs cells slots Q (F0 m (pc + 1) ls (.long v :: rest))) : W p l e R s m args below meth c H locs cells slots Q (F0 m pc ls (.int i :: .ref b :: rest)) := by
  subst hv; subst hj
  exact va_lald hx hb hK hP q0 t0 ha ht hin hdg kk
theorem st_i {cl : List vw_C} {tys : List (ClassId × FieldType)} {b : Nat} {A : Nat → Prop} (hx : p.tables.exec = Jvm.exec) (hb : c.code = cc) (hK : va_K D cl tys s) (hP : va_P D cl ws H) (hD : va_D A ws) (hS : va_S A H0 H locs) (q0 t0 : Nat) {cA : ClassId} {n : Nat} {f : Nat → Int32} (ha : ws[q0]? = some (b, .inl (cA, n, .inl f))) (ht : tys[t0]? = some (cA, .int)) {i : Int32} {x : Int32} (hin : vp_in i n) (j : Nat) (hj : i.toNatClampNeg = j) (hdg : decode cc pc = .ok (.iastore, 1))
    (kk : ∀ (H1 : Heap) (locs1 : List Loc), va_P D cl (ws.set q0 (b, .inl (cA, n, .inl (upd f j x)))) H1 → va_D A (ws.set q0 (b, .inl (cA, n, .inl (upd f j x)))) → va_S A H0 H1 locs1 → W p l e R s m args below meth c H1 locs1 cells slots Q (F0 m (pc + 1) ls rest)) : W p l e R s m args below meth c H locs cells slots Q (F0 m pc ls (.int x :: .int i :: .ref b :: rest)) := by
  subst hj
  exact va_iast hx hb hK hP hD hS q0 t0 ha ht hin hdg kk
theorem st_l {cl : List vw_C} {tys : List (ClassId × FieldType)} {b : Nat} {A : Nat → Prop} (hx : p.tables.exec = Jvm.exec) (hb : c.code = cc) (hK : va_K D cl tys s) (hP : va_P D cl ws H) (hD : va_D A ws) (hS : va_S A H0 H locs) (q0 t0 : Nat) {cA : ClassId} {n : Nat} {f : Nat → Int64} (ha : ws[q0]? = some (b, .inl (cA, n, .inr (.inl f)))) (ht : tys[t0]? = some (cA, .long)) {i : Int32} {x : Int64} (hin : vp_in i n) (j : Nat) (hj : i.toNatClampNeg = j) (hdg : decode cc pc = .ok (.lastore, 1))
    (kk : ∀ (H1 : Heap) (locs1 : List Loc), va_P D cl (ws.set q0 (b, .inl (cA, n, .inr (.inl (vp_updL f j x))))) H1 → va_D A (ws.set q0 (b, .inl (cA, n, .inr (.inl (vp_updL f j x))))) → va_S A H0 H1 locs1 → W p l e R s m args below meth c H1 locs1 cells slots Q (F0 m (pc + 1) ls rest)) : W p l e R s m args below meth c H locs cells slots Q (F0 m pc ls (.long x :: .int i :: .ref b :: rest)) := by
  subst hj
  exact va_last hx hb hK hP hD hS q0 t0 ha ht hin hdg kk
end BASE
theorem lv_eql {p : Program} {l : Launch} {e : Env} {R : Room} {s : State} {m : MethodId} {args : Array Value} {below : List Frame} {meth : Method} {c : Code} {H : Heap} {locs : List Loc} {cells slots : Nat} {Q : State → Prop} {pc : Nat} {ls : Array Slot} {rest : List Value} {x v : Int64} (h : x = v) (k : W p l e R s m args below meth c H locs cells slots Q (F0 m pc ls (.long v :: rest))) : W p l e R s m args below meth c H locs cells slots Q (F0 m pc ls (.long x :: rest)) := by
  subst h
  exact k
abbrev lg_ab (x : Int64) : Int64 := if 0 < x then x else -x
-- cells: a Triple, a Form, a Shelf, a Pair, the object itself, rows of ints and of longs
abbrev kT (h : Nat) (x y z : Int64) : Nat × va_E := (h, .inr (3, [.long x, .long y, .long z]))
abbrev kF (h : Nat) (a b c d e f : Int64) : Nat × va_E := (h, .inr (0, [.long a, .long b, .long c, .long d, .long e, .long f]))
abbrev kS (h : Nat) (w : Int32) (q : Nat) (n : Int32) : Nat × va_E := (h, .inr (2, [.int w, .ref q, .int n]))
abbrev kP (h : Nat) (q1 q2 : Nat) (n : Int32) : Nat × va_E := (h, .inr (1, [.ref q1, .ref q2, .int n]))
abbrev kC (h p l c x y f s t m a b n g r : Nat) : Nat × va_E := (h, .inr (4, [.ref p, .ref l, .ref c, .ref x, .ref y, .ref f, .ref s, .ref t, .ref m, .ref a, .ref b, .ref n, .ref g, .ref r]))
abbrev kA (h : Nat) (cI : ClassId) (n : Nat) (f : Nat → Int32) : Nat × va_E := (h, .inl (cI, n, .inl f))
abbrev kJ (h : Nat) (cJ : ClassId) (n : Nat) (f : Nat → Int64) : Nat × va_E := (h, .inl (cJ, n, .inr (.inl f)))
