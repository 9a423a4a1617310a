theorem cr_ok (gl gc : Nat → Int32) (fx fg fh : Nat → Int64) (c i : Int32) {A B C D E F p1 p2 p3 s1 s2 s3 : Int} (ha : iv (r6 gc c 0) A 500) (hb : iv (r6 gc c 1) B 500) (hc : iv (r6 gc c 2) C 500) (hd : iv (r6 gc c 3) D 500) (he : iv (r6 gc c 4) E 500) (hf : iv (r6 gc c 5) F 500) (i1 : iv ((z5_layTwo gl fg fh i).1 0) p1 500) (i2 : iv ((z5_layTwo gl fg fh i).1 1) p2 500) (i3 : iv ((z5_layTwo gl fg fh i).1 2) p3 500) (j1 : iv ((z5_layTwo gl fg fh i).2 0) s1 500) (j2 : iv ((z5_layTwo gl fg fh i).2 1) s2 500) (j3 : iv ((z5_layTwo gl fg fh i).2 2) s3 500) : iv (z5_valueAt gc c ((z5_layTwo gl fg fh i).1 0) ((z5_layTwo gl fg fh i).1 1) ((z5_layTwo gl fg fh i).1 2)) (qv A B C D E F p1 p2 p3) 750000000 ∧ iv (z5_cross_v8 gl gc fx fg fh c i) (bv A B C D E F p1 p2 p3 s1 s2 s3) 1500000000 ∧ iv (z5_valueAt gc c ((z5_layTwo gl fg fh i).2 0) ((z5_layTwo gl fg fh i).2 1) ((z5_layTwo gl fg fh i).2 2)) (qv A B C D E F s1 s2 s3) 750000000 := by
  refine ⟨?_, ?_, ?_⟩
  · simp only [z5_valueAt, r3_0, r6_0, r3_k, r6_k, rn_0, rn_1]
    exact (iv_add (iv_add (iv_add (iv_add (iv_add (iv_mul (iv_mul ha i1 (by decide)) i1 (by decide)) (iv_mul (iv_mul hb i1 (by decide)) i2 (by decide)) (by decide)) (iv_mul (iv_mul hc i2 (by decide)) i2 (by decide)) (by decide)) (iv_mul (iv_mul hd i1 (by decide)) i3 (by decide)) (by decide)) (iv_mul (iv_mul he i2 (by decide)) i3 (by decide)) (by decide)) (iv_mul (iv_mul hf i3 (by decide)) i3 (by decide)) (by decide))
  · have e : bv A B C D E F p1 p2 p3 s1 s2 s3 = (((((((((0) + ((2 * A) * p1) * s1) + ((B) * p1) * s2) + ((D) * p1) * s3) + ((B) * p2) * s1) + ((2 * C) * p2) * s2) + ((E) * p2) * s3) + ((D) * p3) * s1) + ((E) * p3) * s2) + ((2 * F) * p3) * s3 := by
      unfold bv
      grind
    rw [e]
    simp only [z5_cross_v1, z5_cross_v2, z5_cross_v3, z5_cross_v4, z5_cross_v5, z5_cross_v6, z5_cross_v7, z5_cross_v8, lc_0, lc_1, lc_2, lc_3, lc_4, lc_5, lc_6, lc_7, lc_8]
    exact (iv_add (iv_add (iv_add (iv_add (iv_add (iv_add (iv_add (iv_add (iv_add iv_0 (iv_mul (iv_mul (iv_mul iv_2 ha (by decide)) i1 (by decide)) j1 (by decide)) (by decide)) (iv_mul (iv_mul hb i1 (by decide)) j2 (by decide)) (by decide)) (iv_mul (iv_mul hd i1 (by decide)) j3 (by decide)) (by decide)) (iv_mul (iv_mul hb i2 (by decide)) j1 (by decide)) (by decide)) (iv_mul (iv_mul (iv_mul iv_2 hc (by decide)) i2 (by decide)) j2 (by decide)) (by decide)) (iv_mul (iv_mul he i2 (by decide)) j3 (by decide)) (by decide)) (iv_mul (iv_mul hd i3 (by decide)) j1 (by decide)) (by decide)) (iv_mul (iv_mul he i3 (by decide)) j2 (by decide)) (by decide)) (iv_mul (iv_mul (iv_mul iv_2 hf (by decide)) i3 (by decide)) j3 (by decide)) (by decide))
  · simp only [z5_valueAt, r3_0, r6_0, r3_k, r6_k, rn_0, rn_1]
    exact (iv_add (iv_add (iv_add (iv_add (iv_add (iv_mul (iv_mul ha j1 (by decide)) j1 (by decide)) (iv_mul (iv_mul hb j1 (by decide)) j2 (by decide)) (by decide)) (iv_mul (iv_mul hc j2 (by decide)) j2 (by decide)) (by decide)) (iv_mul (iv_mul hd j1 (by decide)) j3 (by decide)) (by decide)) (iv_mul (iv_mul he j2 (by decide)) j3 (by decide)) (by decide)) (iv_mul (iv_mul hf j3 (by decide)) j3 (by decide)) (by decide))
theorem com_dv {a b d : Int64} (ha : nm a) (hb : nm b) : z5_common (z5_common a b) d = dv3 a b d := by
  have e : z5_common a b = dv2 a b := rfl
  rw [e, pu_cn (by rw [pu_dv2 ha hb]; omega)]
  rfl
/-- the three numbers, divided by what divides all -/
theorem cr_div {a b d : Int64} {x y z : Int} (ha : iv a x 750000000) (hb : iv b y 1500000000) (hd : iv d z 750000000) (h : ¬ (x = 0 ∧ y = 0 ∧ z = 0)) : ∃ g x' y' z' : Int, g ≠ 0 ∧ x = g * x' ∧ y = g * y' ∧ z = g * z' ∧ iv (a / z5_common (z5_common a b) d) x' 750000000 ∧ iv (b / z5_common (z5_common a b) d) y' 1500000000 ∧ iv (d / z5_common (z5_common a b) d) z' 750000000 ∧ ¬ (x' = 0 ∧ y' = 0 ∧ z' = 0) := by
  have na := iv_nm ha (by decide)
  have nb := iv_nm hb (by decide)
  have nd := iv_nm hd (by decide)
  rw [com_dv na nb]
  have hG := pu_dv3 na nb nd
  rw [ha.1, hb.1, hd.1] at hG
  have hd0 : ¬ dv3 a b d = 0 := fun q => h ((z3iv ha hb hd).mp (pu_dv3z.mp q))
  have hGn : ¬ (dv3 a b d).toInt = 0 := fun q => hd0 (pu_nez.mpr q)
  rw [hG] at hGn
  have hg : iv (dv3 a b d) ((gg3 x y z : Nat) : Int) (gg3 x y z) := ⟨hG, by omega⟩
  have d1 : ((gg3 x y z : Nat) : Int) ∣ x := by
    rw [Int.ofNat_dvd_left]
    exact Nat.dvd_trans (Nat.gcd_dvd_left _ _) (Nat.gcd_dvd_left _ _)
  have d2 : ((gg3 x y z : Nat) : Int) ∣ y := by
    rw [Int.ofNat_dvd_left]
    exact Nat.dvd_trans (Nat.gcd_dvd_left _ _) (Nat.gcd_dvd_right _ _)
  have d3 : ((gg3 x y z : Nat) : Int) ∣ z := by
    rw [Int.ofNat_dvd_left]
    exact Nat.gcd_dvd_right _ _
  have m1 := Int.mul_tdiv_cancel' d1
  have m2 := Int.mul_tdiv_cancel' d2
  have m3 := Int.mul_tdiv_cancel' d3
  refine ⟨_, _, _, _, hGn, m1.symm, m2.symm, m3.symm, iv_div ha hg (by decide), iv_div hb hg (by decide), iv_div hd hg (by decide), ?_⟩
  rintro ⟨q1, q2, q3⟩
  rw [q1, Int.mul_zero] at m1
  rw [q2, Int.mul_zero] at m2
  rw [q3, Int.mul_zero] at m3
  exact h ⟨m1.symm, m2.symm, m3.symm⟩
/-- one crossing, laid into the array -/
theorem pc_ok (fg fh fi : Nat → Int64) {u v : Int64} {U V p1 p2 p3 s1 s2 s3 x y z : Int} (hu : iv u U 5000000000) (hv : iv v V 5000000000) (i1 : iv (fg 0) p1 500) (i2 : iv (fg 1) p2 500) (i3 : iv (fg 2) p3 500) (j1 : iv (fh 0) s1 500) (j2 : iv (fh 1) s2 500) (j3 : iv (fh 2) s3 500) (hl : ¬ (x = 0 ∧ y = 0 ∧ z = 0)) (tw : twoOn x y z p1 p2 p3 s1 s2 s3) (h : ¬ (U = 0 ∧ V = 0)) : ∃ P : Int64 × Int64 × Int64, z5_putCrossing_0_v1 fg fh fi u v 0 = P.1 ∧ z5_putCrossing_0_v1 fg fh fi u v 1 = P.2.1 ∧ z5_putCrossing_0_v1 fg fh fi u v 2 = P.2.2 ∧ nrm P.1.toInt P.2.1.toInt P.2.2.toInt ∧ par (U * p1 + V * s1) (U * p2 + V * s2) (U * p3 + V * s3) P.1.toInt P.2.1.toInt P.2.2.toInt ∧ ¬ (U * p1 + V * s1 = 0 ∧ U * p2 + V * s2 = 0 ∧ U * p3 + V * s3 = 0) := by
  have nu := iv_nm hu (by decide)
  have nv := iv_nm hv (by decide)
  have hG : (z5_common u v).toInt = ((Nat.gcd U.natAbs V.natAbs : Nat) : Int) := by
    have := pu_dv2 nu nv
    rw [hu.1, hv.1] at this
    exact this
  have gn : ((Nat.gcd U.natAbs V.natAbs : Nat) : Int) ≠ 0 := by
    intro q
    have q' : Nat.gcd U.natAbs V.natAbs = 0 := by omega
    have := Nat.gcd_eq_zero_iff.mp q'
    exact h ⟨by omega, by omega⟩
  have hg : iv (z5_common u v) ((Nat.gcd U.natAbs V.natAbs : Nat) : Int) (Nat.gcd U.natAbs V.natAbs) := ⟨hG, by omega⟩
  have d1 : ((Nat.gcd U.natAbs V.natAbs : Nat) : Int) ∣ U := by
    rw [Int.ofNat_dvd_left]
    exact Nat.gcd_dvd_left _ _
  have d2 : ((Nat.gcd U.natAbs V.natAbs : Nat) : Int) ∣ V := by
    rw [Int.ofNat_dvd_left]
    exact Nat.gcd_dvd_right _ _
  have m1 := Int.mul_tdiv_cancel' d1
  have m2 := Int.mul_tdiv_cancel' d2
  have ku := iv_div hu hg (by decide)
  have kv := iv_div hv hg (by decide)
  generalize ((Nat.gcd U.natAbs V.natAbs : Nat) : Int) = g at *
  generalize U.tdiv g = u' at *
  generalize V.tdiv g = v' at *
  have o1 := iv_add (iv_mul ku i1 (by decide)) (iv_mul kv j1 (by decide)) (by decide)
  have o2 := iv_add (iv_mul ku i2 (by decide)) (iv_mul kv j2 (by decide)) (by decide)
  have o3 := iv_add (iv_mul ku i3 (by decide)) (iv_mul kv j3 (by decide)) (by decide)
  have w0 := two_nz hl tw
  have nz : ¬ (u' * p1 + v' * s1 = 0 ∧ u' * p2 + v' * s2 = 0 ∧ u' * p3 + v' * s3 = 0) := by
    rintro ⟨q1, q2, q3⟩
    have uz : u' = 0 := by
      by_cases c : u' = 0
      · exact c
      · exact absurd ⟨mz (a := u') (by grind) c, mz (a := u') (by grind) c, mz (a := u') (by grind) c⟩ w0
    have vz : v' = 0 := by
      by_cases c : v' = 0
      · exact c
      · exact absurd ⟨mz (a := v') (by grind) c, mz (a := v') (by grind) c, mz (a := v') (by grind) c⟩ w0
    rw [uz, Int.mul_zero] at m1
    rw [vz, Int.mul_zero] at m2
    exact h ⟨m1.symm, m2.symm⟩
  obtain ⟨nn, pp⟩ := red_iv o1 o2 o3 (by decide) (by decide) (by decide) nz
  have nz' := fun t => nz ((z3iv o1 o2 o3).mp t)
  obtain ⟨a0, a1, a2⟩ := nr3v (vp_updL (vp_updL (vp_updL fi 0 (((u / (z5_common u v)) * (fg 0)) + ((v / (z5_common u v)) * (fh 0)))) 1 (((u / (z5_common u v)) * (fg 1)) + ((v / (z5_common u v)) * (fh 1)))) 2 (((u / (z5_common u v)) * (fg 2)) + ((v / (z5_common u v)) * (fh 2)))) (by simp only [ul_e, ul_0_1, ul_0_2, ul_0_3, ul_0_4, ul_0_5, ul_0_6, ul_0_7, ul_0_8, ul_1_0, ul_1_2, ul_1_3, ul_1_4, ul_1_5, ul_1_6, ul_1_7, ul_1_8, ul_2_0, ul_2_1, ul_2_3, ul_2_4, ul_2_5, ul_2_6, ul_2_7, ul_2_8, ul_3_0, ul_3_1, ul_3_2, ul_3_4, ul_3_5, ul_3_6, ul_3_7, ul_3_8, ul_4_0, ul_4_1, ul_4_2, ul_4_3, ul_4_5, ul_4_6, ul_4_7, ul_4_8, ul_5_0, ul_5_1, ul_5_2, ul_5_3, ul_5_4, ul_5_6, ul_5_7, ul_5_8, ul_6_0, ul_6_1, ul_6_2, ul_6_3, ul_6_4, ul_6_5, ul_6_7, ul_6_8, ul_7_0, ul_7_1, ul_7_2, ul_7_3, ul_7_4, ul_7_5, ul_7_6, ul_7_8, ul_8_0, ul_8_1, ul_8_2, ul_8_3, ul_8_4, ul_8_5, ul_8_6, ul_8_7]) (by simp only [ul_e, ul_0_1, ul_0_2, ul_0_3, ul_0_4, ul_0_5, ul_0_6, ul_0_7, ul_0_8, ul_1_0, ul_1_2, ul_1_3, ul_1_4, ul_1_5, ul_1_6, ul_1_7, ul_1_8, ul_2_0, ul_2_1, ul_2_3, ul_2_4, ul_2_5, ul_2_6, ul_2_7, ul_2_8, ul_3_0, ul_3_1, ul_3_2, ul_3_4, ul_3_5, ul_3_6, ul_3_7, ul_3_8, ul_4_0, ul_4_1, ul_4_2, ul_4_3, ul_4_5, ul_4_6, ul_4_7, ul_4_8, ul_5_0, ul_5_1, ul_5_2, ul_5_3, ul_5_4, ul_5_6, ul_5_7, ul_5_8, ul_6_0, ul_6_1, ul_6_2, ul_6_3, ul_6_4, ul_6_5, ul_6_7, ul_6_8, ul_7_0, ul_7_1, ul_7_2, ul_7_3, ul_7_4, ul_7_5, ul_7_6, ul_7_8, ul_8_0, ul_8_1, ul_8_2, ul_8_3, ul_8_4, ul_8_5, ul_8_6, ul_8_7]) (by simp only [ul_e, ul_0_1, ul_0_2, ul_0_3, ul_0_4, ul_0_5, ul_0_6, ul_0_7, ul_0_8, ul_1_0, ul_1_2, ul_1_3, ul_1_4, ul_1_5, ul_1_6, ul_1_7, ul_1_8, ul_2_0, ul_2_1, ul_2_3, ul_2_4, ul_2_5, ul_2_6, ul_2_7, ul_2_8, ul_3_0, ul_3_1, ul_3_2, ul_3_4, ul_3_5, ul_3_6, ul_3_7, ul_3_8, ul_4_0, ul_4_1, ul_4_2, ul_4_3, ul_4_5, ul_4_6, ul_4_7, ul_4_8, ul_5_0, ul_5_1, ul_5_2, ul_5_3, ul_5_4, ul_5_6, ul_5_7, ul_5_8, ul_6_0, ul_6_1, ul_6_2, ul_6_3, ul_6_4, ul_6_5, ul_6_7, ul_6_8, ul_7_0, ul_7_1, ul_7_2, ul_7_3, ul_7_4, ul_7_5, ul_7_6, ul_7_8, ul_8_0, ul_8_1, ul_8_2, ul_8_3, ul_8_4, ul_8_5, ul_8_6, ul_8_7]) (iv_nm o1 (by decide)) (iv_nm o2 (by decide)) nz'
  have k1 : U * p1 + V * s1 = g * (u' * p1 + v' * s1) := by rw [← m1, ← m2]; grind
  have k2 : U * p2 + V * s2 = g * (u' * p2 + v' * s2) := by rw [← m1, ← m2]; grind
  have k3 : U * p3 + V * s3 = g * (u' * p3 + v' * s3) := by rw [← m1, ← m2]; grind
  refine ⟨_, a0, a1, a2, nn, ?_, ?_⟩
  · rw [k1, k2, k3]
    exact par_trans nz (par_self _ _ _ _) pp
  · rw [k1, k2, k3]
    rintro ⟨q1, q2, q3⟩
    exact nz ⟨mz q1 gn, mz q2 gn, mz q3 gn⟩
theorem pc_01 (fg fh fi : Nat → Int64) (u v : Int64) : z5_putCrossing_1_v1 fg fh fi u v = z5_putCrossing_0_v1 fg fh fi u v := rfl
