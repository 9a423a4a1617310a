/-! THE CLAIM OUT OF ONE WALK OF THE LAW'S BODY. Your part is whole_start (and what it stands on); all else here is the same for every law, but numbers. -/
def R_law : String := "ConicRowsLaw"
def lw_P (b : Addr) (xs : List Int32) (args : Array Value) (s : State) : Prop := args = #[.ref b] ∧ s.IntsAt b xs ∧ xs.length ≤ 3584 ∧ (Jvm.Cond.and given_1 narrow_1).before args s = true
def lw_Q (_ : Array Value) (s : State) (o : Outcome) (t : State) : Prop := o = .returned (some (.int 1)) ∧ Framed s o t [] 600000 7302250
def lw_Z (below : List Frame) (a : Array Value) (s : State) : State → Prop := fun t => ∃ o, t.status = .running ∧ Ended t below o ∧ lw_Q a s o t
/-- the law's own end, with 1 on the stack, nothing written that was there before, its room as the claim has it -/
theorem lw_ret {p : Program} {l : Launch} {e : Env} {s : State} {m : MethodId} {below : List Frame} {meth : Method} {c : Code} {b : Nat} (hx : p.tables.exec = Jvm.exec) (hb : c.code = code) (hr : meth.sig.returnType = ret) (hlocks : meth.locks = false) {pc : Nat} {H : Heap} {ls : Array Slot} (hdg : decode code pc = .ok (.ireturn, 1)) : W p l e room_1 s m #[Value.ref b] below meth c H [] 600000 7302250 (lw_Z below #[Value.ref b] s) (F0 m pc ls [.int 1]) := by
  intro T hT X
  obtain ⟨fs, hret, hrun, hended, hW, hframe⟩ := X.leave (v := some (.int 1)) (hlocks := hlocks) (fun h => by rw [hr] at h; cases h)
  have hmeth' : T.vm.method? m = some meth := X.method'
  refine ⟨T.setFrames fs, ?_, .returned (some (.int 1)), hrun, hended, rfl, ⟨_, rfl⟩, hW, hframe⟩
  jvm_step X.here [X.here.top, hx, hb, hdg, hmeth', hr, ret, narrow_b1]
  (try refine ⟨rfl, ?_⟩); (try refine ⟨rfl, ?_⟩)
  first | (intro acts; rw [hret _ acts rfl rfl rfl]) | rw [hret _ _ rfl rfl rfl]
  exact Steps.refl _
/-- what holds at the law's entry: the machine, the code, the tables' words (any of lw_tbl by 'hts w (by decide +kernel)'), the script of L ints xs at the cell b, what the Statement gives of the start (any of its parts by flat_of_before) -/
def lw_At (p : Program) (s : State) (m : MethodId) (meth : Method) (c : Code) (b L : Nat) (xs : Nat → Int32) : Prop :=
  p.tables.exec = Jvm.exec ∧ c.code = code ∧ meth.sig.returnType = ret ∧ c.maxLocals = 4 ∧ s.vm.findClass R_law = some m.cls ∧ (∀ w ∈ lw_tbl, w.before #[Value.ref b] s = true) ∧ va_X b L xs s s.heap ∧ b < s.heap.size ∧ meth.locks = false ∧ (Jvm.Cond.and given_1 narrow_1).before #[Value.ref b] s = true
def lwI (gm : Nat → Int32) (gp : Nat → Int32) (gl : Nat → Int32) (gc : Nat → Int32) (cn : Int32) (c1 : Int64) (c2 : Int64) (c3 : Int64) (c4 : Int64) (c5 : Int64) (c6 : Int64) (cm : Int32) (fk : Nat → Int64) (pn : Int32) (p1 : Int64) (p2 : Int64) (p3 : Int64) (p4 : Int64) (p5 : Int64) (p6 : Int64) (pm : Int32) (ft : Nat → Int64) : Prop := G3 gp (gm 0) ∧ G3 gl (gm 1) ∧ G6 gc (gm 2) ∧ pr_ok cn c1 c2 c3 c4 c5 c6 cm fk ∧ pr_ok pn p1 p2 p3 p4 p5 p6 pm ft
def lwAt (D : va_G) (cI cJ : ClassId) (A : Nat → Prop) (o : Nat) (oP : Nat) (oL : Nat) (oC : Nat) (oX : Nat) (oY : Nat) (oF : Nat) (oS : Nat) (oT : Nat) (oM : Nat) (fL : Nat) (fR : Nat) (fN : Nat) (fM : Nat) (oR : Nat) (qp : Nat) (ql : Nat) (qc : Nat) (om : Nat) (mP : Nat) (mL : Nat) (mC : Nat) (mN : Nat) (mF : Nat) (mR : Nat) (mD : Nat) (mV : Nat) (mX : Nat) (mA : Nat) (mK : Nat) (mT : Nat) (mU : Nat) (mH : Nat) (mI : Nat) (H : Heap) (gm : Nat → Int32) (gp : Nat → Int32) (gl : Nat → Int32) (gc : Nat → Int32) (cn : Int32) (c1 : Int64) (c2 : Int64) (c3 : Int64) (c4 : Int64) (c5 : Int64) (c6 : Int64) (cm : Int32) (fk : Nat → Int64) (pn : Int32) (p1 : Int64) (p2 : Int64) (p3 : Int64) (p4 : Int64) (p5 : Int64) (p6 : Int64) (pm : Int32) (ft : Nat → Int64) : Prop := ∃ (q1 : Nat) (q2 : Nat) (q3 : Nat) (q4 : Nat) (t11 : Int64) (t12 : Int64) (t13 : Int64) (t21 : Int64) (t22 : Int64) (t23 : Int64) (t31 : Int64) (t32 : Int64) (t33 : Int64) (t41 : Int64) (t42 : Int64) (t43 : Int64) (f11 : Int64) (f12 : Int64) (f13 : Int64) (f14 : Int64) (f15 : Int64) (f16 : Int64) (f21 : Int64) (f22 : Int64) (f23 : Int64) (f24 : Int64) (f25 : Int64) (f26 : Int64) (f31 : Int64) (f32 : Int64) (f33 : Int64) (f34 : Int64) (f35 : Int64) (f36 : Int64) (f41 : Int64) (f42 : Int64) (f43 : Int64) (f44 : Int64) (f45 : Int64) (f46 : Int64) (gr : Nat → Int32) (gv : Nat → Int32) (ff : Nat → Int64) (fr : Nat → Int64) (fd : Nat → Int64) (fx : Nat → Int64) (fa : Nat → Int64) (fg : Nat → Int64) (fh : Nat → Int64) (fi : Nat → Int64), va_P D vwCl [kC o oP oL oC oX oY oF oS oT oM fL fR fN fM oR, kS oP 3 qp (gm 0), kA qp cI 180 gp, kS oL 3 ql (gm 1), kA ql cI 180 gl, kS oC 6 qc (gm 2), kA qc cI 360 gc, kP oX q1 q2 cn, kT q1 c1 c2 c3, kT q2 c4 c5 c6, kP oY q3 q4 pn, kT q3 p1 p2 p3, kT q4 p4 p5 p6, kT oF t11 t12 t13, kT oS t21 t22 t23, kT oT t31 t32 t33, kT oM t41 t42 t43, kF fL f11 f12 f13 f14 f15 f16, kF fR f21 f22 f23 f24 f25 f26, kF fN f31 f32 f33 f34 f35 f36, kF fM f41 f42 f43 f44 f45 f46, kA oR cI 5 gr, kM om mP mL mC mN mF mR mD mV mX mA mK cm mT pm mU mH mI, kA mP cI 180 gp, kA mL cI 180 gl, kA mC cI 360 gc, kA mN cI 3 gm, kJ mF cJ 6 ff, kJ mR cJ 30 fr, kJ mD cJ 64 fd, kA mV cI 5 gv, kJ mX cJ 9 fx, kJ mA cJ 9 fa, kJ mK cJ 6 fk, kJ mT cJ 6 ft, kJ mU cJ 3 fg, kJ mH cJ 3 fh, kJ mI cJ 3 fi] H ∧ va_D A [kC o oP oL oC oX oY oF oS oT oM fL fR fN fM oR, kS oP 3 qp (gm 0), kA qp cI 180 gp, kS oL 3 ql (gm 1), kA ql cI 180 gl, kS oC 6 qc (gm 2), kA qc cI 360 gc, kP oX q1 q2 cn, kT q1 c1 c2 c3, kT q2 c4 c5 c6, kP oY q3 q4 pn, kT q3 p1 p2 p3, kT q4 p4 p5 p6, kT oF t11 t12 t13, kT oS t21 t22 t23, kT oT t31 t32 t33, kT oM t41 t42 t43, kF fL f11 f12 f13 f14 f15 f16, kF fR f21 f22 f23 f24 f25 f26, kF fN f31 f32 f33 f34 f35 f36, kF fM f41 f42 f43 f44 f45 f46, kA oR cI 5 gr, kM om mP mL mC mN mF mR mD mV mX mA mK cm mT pm mU mH mI, kA mP cI 180 gp, kA mL cI 180 gl, kA mC cI 360 gc, kA mN cI 3 gm, kJ mF cJ 6 ff, kJ mR cJ 30 fr, kJ mD cJ 64 fd, kA mV cI 5 gv, kJ mX cJ 9 fx, kJ mA cJ 9 fa, kJ mK cJ 6 fk, kJ mT cJ 6 ft, kJ mU cJ 3 fg, kJ mH cJ 3 fh, kJ mI cJ 3 fi]
theorem sh3 {n : Int32} (h : n_ok n) : sh_ok 3 180 n := by
  have z0 : (0 : Int32).toInt = 0 := by decide
  have z6 : (60 : Int32).toInt = 60 := by decide
  refine ⟨Or.inl ⟨rfl, rfl⟩, ?_, ?_⟩
  · rw [Int32.le_iff_toInt_le, z0]; exact h.1
  · rw [Int32.le_iff_toInt_le, z6]; exact h.2
theorem sh6 {n : Int32} (h : n_ok n) : sh_ok 6 360 n := by
  have z0 : (0 : Int32).toInt = 0 := by decide
  have z6 : (60 : Int32).toInt = 60 := by decide
  refine ⟨Or.inr ⟨rfl, rfl⟩, ?_, ?_⟩
  · rw [Int32.le_iff_toInt_le, z0]; exact h.1
  · rw [Int32.le_iff_toInt_le, z6]; exact h.2
theorem nz3_of {g : Nat → Int32} {n : Int32} (h : nk3 g n) : nz3 g n := by
  intro i q z
  exact nrm_nz (h i q) ⟨pu_nez.mp z.1, pu_nez.mp z.2.1, pu_nez.mp z.2.2⟩
