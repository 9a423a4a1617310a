/-! what the reference's cross and split need: no division by 0, no row beyond the matrix -/
theorem com_z {x y : Int64} (h : z5_common x y = 0) : y = 0 := by
  apply pu_abz
  apply Classical.byContradiction
  intro q
  exact pu_gB 99 _ _ q h
theorem cr_v11 (gl gc gm : Nat → Int32) (fx fg fh : Nat → Int64) (c i : Int32) (g1 : G3 gl (gm 1)) (g2 : G6 gc (gm 2)) (q : ¬ z2_has (gm 2) c = 0) (t : ¬ z2_has (gm 1) i = 0) (na : ¬ ((z5_valueAt gc c ((z5_layTwo gl fg fh i).1 0) ((z5_layTwo gl fg fh i).1 1) ((z5_layTwo gl fg fh i).1 2)) = 0 ∧ (z5_cross_v8 gl gc fx fg fh c i) = 0 ∧ (z5_valueAt gc c ((z5_layTwo gl fg fh i).2 0) ((z5_layTwo gl fg fh i).2 1) ((z5_layTwo gl fg fh i).2 2)) = 0)) (h : ¬ (z5_cross_v11 gl gc fx fg fh c i) = 0) (z : 2 * (z5_cross_v11 gl gc fx fg fh c i) = 0) : False := by
  obtain ⟨h1, bl, nk⟩ := g1
  obtain ⟨h2, bc, _⟩ := g2
  have hl := nrm_nz (nk i t)
  obtain ⟨p1, p2, p3, s1, s2, s3, i1, i2, i3, j1, j2, j3, tw⟩ := lt_spec gl fg fh i (ri3_0 bl h1 t) (ri3_1 bl h1 t) (ri3_2 bl h1 t) hl
  obtain ⟨va, vb, vd⟩ := cr_ok gl gc fx fg fh c i (ri6_0 bc h2 q) (ri6_1 bc h2 q) (ri6_2 bc h2 q) (ri6_3 bc h2 q) (ri6_4 bc h2 q) (ri6_5 bc h2 q) i1 i2 i3 j1 j2 j3
  obtain ⟨g, a', b', d', gn, ea, eb, ed, ia, ib, id', nz'⟩ := cr_div va vb vd (fun s => na ⟨(iv_z va).mpr s.1, (iv_z vb).mpr s.2.1, (iv_z vd).mpr s.2.2⟩)
  have ia : iv (z5_cross_v11 gl gc fx fg fh c i) a' 750000000 := ia
  have z2 := (iv_z (iv_mul iv_2 ia (by decide))).mp z
  exact h ((iv_z ia).mpr (by omega))
theorem cr_t2 (gl gc : Nat → Int32) (fx fg fh : Nat → Int64) (c i : Int32) (h : ¬ (z5_cross_v13 gl gc fx fg fh c i) = 0) (k : (z5_cross_v11 gl gc fx fg fh c i) = 0) (z : ((z5_cross_v8 gl gc fx fg fh c i) / (z5_cross_v10 gl gc fx fg fh c i)) = 0) : False := by
  apply h
  unfold z5_cross_v13
  rw [z, k]
  generalize z5_cross_v12 gl gc fx fg fh c i = v
  grind
theorem sp_f {gc gm : Nat → Int32} {fx : Nat → Int64} {c : Int32} {T1 T2 T3 : Int64} (g2 : G6 gc (gm 2)) (q : ¬ z2_has (gm 2) c = 0) (e0 : z5_detOf_f2 gc fx c 0 = 0) (e1 : z5_detOf_f2 gc fx c 1 - T3 = 0) (e2 : z5_detOf_f2 gc fx c 2 + T2 = 0) (e3 : z5_detOf_f2 gc fx c 3 + T3 = 0) (e4 : z5_detOf_f2 gc fx c 4 = 0) (e5 : z5_detOf_f2 gc fx c 5 - T1 = 0) (e6 : z5_detOf_f2 gc fx c 6 - T2 = 0) (e7 : z5_detOf_f2 gc fx c 7 + T1 = 0) (e8 : z5_detOf_f2 gc fx c 8 = 0) : False := by
  obtain ⟨h2, bc, nz⟩ := g2
  unfold z5_detOf_f2 at e0 e1 e2 e3 e4 e5 e6 e7 e8
  rw [lc_0] at e0
  rw [lc_1] at e1
  rw [lc_2] at e2
  rw [lc_3] at e3
  rw [lc_4] at e4
  rw [lc_5] at e5
  rw [lc_6] at e6
  rw [lc_7] at e7
  rw [lc_8] at e8
  have key : ∀ x : Int64, iv x x.toInt 500 → 2 * x = 0 → x = 0 := by
    intro x hx z
    have z2 := (iv_z (iv_mul iv_2 hx (by decide))).mp z
    exact (iv_z hx).mpr (by omega)
  have f1 : 2 * r6 gc c 1 = 0 := by grind
  have f3 : 2 * r6 gc c 3 = 0 := by grind
  have f4 : 2 * r6 gc c 4 = 0 := by grind
  exact nz c q ⟨key _ (ri6_0 bc h2 q) e0, key _ (ri6_1 bc h2 q) f1, key _ (ri6_2 bc h2 q) e4, key _ (ri6_3 bc h2 q) f3, key _ (ri6_4 bc h2 q) f4, key _ (ri6_5 bc h2 q) e8⟩
theorem sp_f0 {gc gm : Nat → Int32} {fx : Nat → Int64} {c : Int32} (g2 : G6 gc (gm 2)) (q : ¬ z2_has (gm 2) c = 0) (e0 : z5_detOf_f2 gc fx c 0 = 0) (e1 : z5_detOf_f2 gc fx c 1 = 0) (e2 : z5_detOf_f2 gc fx c 2 = 0) (e3 : z5_detOf_f2 gc fx c 3 = 0) (e4 : z5_detOf_f2 gc fx c 4 = 0) (e5 : z5_detOf_f2 gc fx c 5 = 0) (e6 : z5_detOf_f2 gc fx c 6 = 0) (e7 : z5_detOf_f2 gc fx c 7 = 0) (e8 : z5_detOf_f2 gc fx c 8 = 0) : False :=
  sp_f (T1 := 0) (T2 := 0) (T3 := 0) g2 q e0 (by rw [e1]; rfl) (by rw [e2]; rfl) (by rw [e3]; rfl) e4 (by rw [e5]; rfl) (by rw [e6]; rfl) (by rw [e7]; rfl) e8
theorem c_X5_split_a (l : Launch) (D : va_G) (cI cJ : ClassId) (o : Nat) (mP : Nat) (mL : Nat) (mC : Nat) (mN : Nat) (mF : Nat) (mR : Nat) (mD : Nat) (mV : Nat) (mX : Nat) (mA : Nat) (mK : Nat) (mT : Nat) (mU : Nat) (mH : Nat) (mI : Nat) (cm : Int32) (pm : Int32) (gm : Nat → Int32) (gc : Nat → Int32) (fx : Nat → Int64) (fa : Nat → Int64) (ft : Nat → Int64) (fi : Nat → Int64) (c : Int32) (hm2 : n_ok (gm 2)) (g2 : G6 gc (gm 2)) : mw_C l yX5_split wsX5_split ({ frames := 4, cells := 0, slots := 0, locals := 108 }) D cI cJ [.ref o, .int c] [kM o mP mL mC mN mF mR mD mV mX mA mK cm mT pm mU mH mI, kA mN cI 3 gm, kA mC cI 360 gc, kJ mX cJ 9 fx, kJ mA cJ 9 fa, kJ mT cJ 6 ft, kJ mI cJ 3 fi] (qe_i (fun (r : Int32) (_ : (Nat → Int64) × (Nat → Int64) × (Nat → Int64)) => r = (z5_split pm gm gc fx fa ft fi c).1) (fun uu => [kM o mP mL mC mN mF mR mD mV mX mA mK cm mT ((z5_split pm gm gc fx fa ft fi c).2.1) mU mH mI, kA mN cI 3 gm, kA mC cI 360 gc, kJ mX cJ 9 uu.1, kJ mA cJ 9 uu.2.1, kJ mT cJ 6 ((z5_split pm gm gc fx fa ft fi c).2.2), kJ mI cJ 3 uu.2.2])) := by
  by_cases hq : z5_isOf_2 gm c = 0
  · exact c_X5_split_n l D cI cJ o mP mL mC mN mF mR mD mV mX mA mK mT mU mH mI cm pm gm gc fx fa ft fi c hm2 hq
  · have q : ¬ z2_has (gm 2) c = 0 := by
      rw [← pu_is2 hm2]
      exact hq
    exact c_X5_split l D cI cJ o mP mL mC mN mF mR mD mV mX mA mK mT mU mH mI cm pm gm gc fx fa ft fi c hm2 (fun _ _ _ _ _ e0 e1 e2 e3 e4 e5 e6 e7 e8 => sp_f0 g2 q e0 e1 e2 e3 e4 e5 e6 e7 e8) (fun _ _ _ _ h _ _ _ _ _ _ _ _ _ => h rfl) (fun _ _ _ _ _ _ _ e0 e1 e2 e3 e4 e5 e6 e7 e8 => sp_f0 g2 q e0 e1 e2 e3 e4 e5 e6 e7 e8) (fun _ _ _ _ _ _ _ e0 e1 e2 e3 e4 e5 e6 e7 e8 => sp_f g2 q e0 e1 e2 e3 e4 e5 e6 e7 e8) (fun _ _ _ _ _ _ _ e0 e1 e2 e3 e4 e5 e6 e7 e8 => sp_f0 g2 q e0 e1 e2 e3 e4 e5 e6 e7 e8) (fun _ _ _ _ _ _ _ e0 e1 e2 e3 e4 e5 e6 e7 e8 => sp_f g2 q e0 e1 e2 e3 e4 e5 e6 e7 e8) (fun _ _ _ _ _ _ _ e0 e1 e2 e3 e4 e5 e6 e7 e8 => sp_f0 g2 q e0 e1 e2 e3 e4 e5 e6 e7 e8) (fun _ _ _ _ _ _ _ e0 e1 e2 e3 e4 e5 e6 e7 e8 => sp_f g2 q e0 e1 e2 e3 e4 e5 e6 e7 e8) (fun _ _ _ _ _ _ _ e0 e1 e2 e3 e4 e5 e6 e7 e8 => sp_f0 g2 q e0 e1 e2 e3 e4 e5 e6 e7 e8) (fun _ _ _ _ _ _ _ e0 e1 e2 e3 e4 e5 e6 e7 e8 => sp_f g2 q e0 e1 e2 e3 e4 e5 e6 e7 e8) (fun _ _ _ _ _ _ _ e0 e1 e2 e3 e4 e5 e6 e7 e8 => sp_f0 g2 q e0 e1 e2 e3 e4 e5 e6 e7 e8) (fun _ _ _ _ _ _ _ e0 e1 e2 e3 e4 e5 e6 e7 e8 => sp_f g2 q e0 e1 e2 e3 e4 e5 e6 e7 e8) (fun _ _ _ _ _ _ _ e0 e1 e2 e3 e4 e5 e6 e7 e8 => sp_f0 g2 q e0 e1 e2 e3 e4 e5 e6 e7 e8) (fun _ _ _ _ _ _ _ e0 e1 e2 e3 e4 e5 e6 e7 e8 => sp_f g2 q e0 e1 e2 e3 e4 e5 e6 e7 e8) (fun _ _ _ _ _ _ _ e0 e1 e2 e3 e4 e5 e6 e7 e8 => sp_f0 g2 q e0 e1 e2 e3 e4 e5 e6 e7 e8) (fun _ _ _ _ _ _ _ e0 e1 e2 e3 e4 e5 e6 e7 e8 => sp_f g2 q e0 e1 e2 e3 e4 e5 e6 e7 e8)
theorem c_X5_cross_a (l : Launch) (D : va_G) (cI cJ : ClassId) (o : Nat) (mP : Nat) (mL : Nat) (mC : Nat) (mN : Nat) (mF : Nat) (mR : Nat) (mD : Nat) (mV : Nat) (mX : Nat) (mA : Nat) (mK : Nat) (mT : Nat) (mU : Nat) (mH : Nat) (mI : Nat) (cm : Int32) (pm : Int32) (gm : Nat → Int32) (gl : Nat → Int32) (gc : Nat → Int32) (fx : Nat → Int64) (fk : Nat → Int64) (fg : Nat → Int64) (fh : Nat → Int64) (fi : Nat → Int64) (c : Int32) (i : Int32) (hm1 : n_ok (gm 1)) (hm2 : n_ok (gm 2)) (g1 : G3 gl (gm 1)) (g2 : G6 gc (gm 2)) : mw_C l yX5_cross wsX5_cross ({ frames := 3, cells := 0, slots := 0, locals := 83 }) D cI cJ [.ref o, .int c, .int i] [kM o mP mL mC mN mF mR mD mV mX mA mK cm mT pm mU mH mI, kA mN cI 3 gm, kA mL cI 180 gl, kA mC cI 360 gc, kJ mX cJ 9 fx, kJ mK cJ 6 fk, kJ mU cJ 3 fg, kJ mH cJ 3 fh, kJ mI cJ 3 fi] (qe_i (fun (r : Int32) (_ : (Nat → Int64) × (Nat → Int64) × (Nat → Int64) × (Nat → Int64)) => r = (z5_cross cm gm gl gc fx fk fg fh fi c i).1) (fun uu => [kM o mP mL mC mN mF mR mD mV mX mA mK ((z5_cross cm gm gl gc fx fk fg fh fi c i).2.1) mT pm mU mH mI, kA mN cI 3 gm, kA mL cI 180 gl, kA mC cI 360 gc, kJ mX cJ 9 uu.1, kJ mK cJ 6 ((z5_cross cm gm gl gc fx fk fg fh fi c i).2.2), kJ mU cJ 3 uu.2.1, kJ mH cJ 3 uu.2.2.1, kJ mI cJ 3 uu.2.2.2])) := by
  by_cases hq : z5_isOf_2 gm c = 0 ∨ z5_isOf_1 gm i = 0
  · exact c_X5_cross_n l D cI cJ o mP mL mC mN mF mR mD mV mX mA mK mT mU mH mI cm pm gm gl gc fx fk fg fh fi c i hm1 hm2 hq
  · have q : ¬ z2_has (gm 2) c = 0 := by
      rw [← pu_is2 hm2]
      exact fun s => hq (Or.inl s)
    have t : ¬ z2_has (gm 1) i = 0 := by
      rw [← pu_is1 hm1]
      exact fun s => hq (Or.inr s)
    exact c_X5_cross l D cI cJ o mP mL mC mN mF mR mD mV mX mA mK mT mU mH mI cm pm gm gl gc fx fk fg fh fi c i hm1 hm2 (fun h1 _ _ _ h5 z => cr_v11 gl gc gm fx fg fh c i g1 g2 q t (fun s => h1 s.1) h5 (com_z z)) (fun h1 _ _ _ h5 z => cr_v11 gl gc gm fx fg fh c i g1 g2 q t (fun s => h1 s.1) h5 (com_z z)) (fun _ _ _ h4 h5 z => cr_t2 gl gc fx fg fh c i h4 h5 (com_z z)) (fun h1 _ _ _ h5 z => cr_v11 gl gc gm fx fg fh c i g1 g2 q t (fun s => h1 s.1) h5 (com_z z)) (fun h1 _ _ _ h5 z => cr_v11 gl gc gm fx fg fh c i g1 g2 q t (fun s => h1 s.1) h5 (com_z z)) (fun _ h2 _ _ _ h6 z => cr_v11 gl gc gm fx fg fh c i g1 g2 q t (fun s => h2 s.2.1) h6 (com_z z)) (fun _ h2 _ _ _ h6 z => cr_v11 gl gc gm fx fg fh c i g1 g2 q t (fun s => h2 s.2.1) h6 (com_z z)) (fun _ _ _ _ h5 h6 z => cr_t2 gl gc fx fg fh c i h5 h6 (com_z z)) (fun _ h2 _ _ _ h6 z => cr_v11 gl gc gm fx fg fh c i g1 g2 q t (fun s => h2 s.2.1) h6 (com_z z)) (fun _ h2 _ _ _ h6 z => cr_v11 gl gc gm fx fg fh c i g1 g2 q t (fun s => h2 s.2.1) h6 (com_z z)) (fun _ _ h3 _ _ _ h7 z => cr_v11 gl gc gm fx fg fh c i g1 g2 q t (fun s => h3 s.2.2) h7 (com_z z)) (fun _ _ h3 _ _ _ h7 z => cr_v11 gl gc gm fx fg fh c i g1 g2 q t (fun s => h3 s.2.2) h7 (com_z z)) (fun _ _ _ _ _ h6 h7 z => cr_t2 gl gc fx fg fh c i h6 h7 (com_z z)) (fun _ _ h3 _ _ _ h7 z => cr_v11 gl gc gm fx fg fh c i g1 g2 q t (fun s => h3 s.2.2) h7 (com_z z)) (fun _ _ h3 _ _ _ h7 z => cr_v11 gl gc gm fx fg fh c i g1 g2 q t (fun s => h3 s.2.2) h7 (com_z z))
