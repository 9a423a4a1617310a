/-! Normalised triples. -/
def fst3 (x y z : Int) : Prop := 0 < x ∨ (x = 0 ∧ (0 < y ∨ (y = 0 ∧ 0 < z)))
def nrm (x y z : Int) : Prop := fst3 x y z ∧ gg3 x y z = 1
theorem gg3_mul (k x y z : Int) : gg3 (k * x) (k * y) (k * z) = k.natAbs * gg3 x y z := by
  unfold gg3
  rw [Int.natAbs_mul, Int.natAbs_mul, Int.natAbs_mul, Nat.gcd_mul_left, Nat.gcd_mul_left]
theorem nrm_uniq {x y z u v w : Int} (h : nrm x y z) (k : nrm u v w) (e1 : x * v = y * u) (e2 : x * w = z * u) (e3 : y * w = z * v) : x = u ∧ y = v ∧ z = w := by
  obtain ⟨h1, h2⟩ := h
  obtain ⟨k1, k2⟩ := k
  have a1 : u.natAbs = x.natAbs := by
    have p := gg3_mul u x y z
    have q := gg3_mul x u v w
    rw [h2] at p
    rw [k2] at q
    have e : gg3 (u * x) (u * y) (u * z) = gg3 (x * u) (x * v) (x * w) := by
      rw [e1, e2, Int.mul_comm u x, Int.mul_comm u y, Int.mul_comm u z]
    omega
  have a2 : v.natAbs = y.natAbs := by
    have p := gg3_mul v x y z
    have q := gg3_mul y u v w
    rw [h2] at p
    rw [k2] at q
    have e : gg3 (v * x) (v * y) (v * z) = gg3 (y * u) (y * v) (y * w) := by
      rw [← e1, e3, Int.mul_comm v x, Int.mul_comm v y, Int.mul_comm v z]
    omega
  have a3 : w.natAbs = z.natAbs := by
    have p := gg3_mul w x y z
    have q := gg3_mul z u v w
    rw [h2] at p
    rw [k2] at q
    have e : gg3 (w * x) (w * y) (w * z) = gg3 (z * u) (z * v) (z * w) := by
      rw [← e2, ← e3, Int.mul_comm w x, Int.mul_comm w y, Int.mul_comm w z]
    omega
  rcases h1 with h | ⟨h, h1⟩
  · have u1 : x = u := by
      rcases k1 with k | ⟨k, k1⟩ <;> omega
    subst u1
    have n : x ≠ 0 := by omega
    refine ⟨rfl, ?_, ?_⟩
    · apply Int.eq_of_mul_eq_mul_left n
      rw [e1, Int.mul_comm]
    · apply Int.eq_of_mul_eq_mul_left n
      rw [e2, Int.mul_comm]
  · have u0 : u = 0 := by omega
    rcases h1 with h1 | ⟨h1, h3⟩
    · have v1 : y = v := by
        rcases k1 with k | ⟨k, k1⟩
        · omega
        · rcases k1 with k1 | ⟨k1, k3⟩ <;> omega
      subst v1
      have n : y ≠ 0 := by omega
      refine ⟨by omega, rfl, ?_⟩
      apply Int.eq_of_mul_eq_mul_left n
      rw [e3, Int.mul_comm]
    · have v0 : v = 0 := by omega
      refine ⟨by omega, by omega, ?_⟩
      rcases k1 with k | ⟨k, k1⟩
      · omega
      · rcases k1 with k1 | ⟨k1, k3⟩ <;> omega
theorem pos_mul {s a : Int} (hs : 0 < s) (h : 0 < s * a) : 0 < a := by
  apply Classical.byContradiction
  intro c
  have : s * a ≤ s * 0 := Int.mul_le_mul_of_nonneg_left (by omega) (by omega)
  omega
theorem fst3_mul {s a b c : Int} (hs : 0 < s) (h : fst3 (s * a) (s * b) (s * c)) : fst3 a b c := by
  have z : ∀ t : Int, s * t = 0 → t = 0 := by
    intro t ht
    rcases Int.mul_eq_zero.mp ht with q | q
    · omega
    · exact q
  rcases h with h | ⟨h, h0 | ⟨h1, h2⟩⟩
  · exact Or.inl (pos_mul hs h)
  · exact Or.inr ⟨z _ h, Or.inl (pos_mul hs h0)⟩
  · exact Or.inr ⟨z _ h, Or.inr ⟨z _ h1, pos_mul hs h2⟩⟩
theorem pu_nez {x : Int64} : x = 0 ↔ x.toInt = 0 := by
  rw [← Int64.toInt_inj, pu_z0]
theorem sd3_spec {x y z : Int64} (h : ¬ (x = 0 ∧ y = 0 ∧ z = 0)) : (fst3 x.toInt y.toInt z.toInt ∧ sd3 x y z = dv3 x y z) ∨ (fst3 (-x.toInt) (-y.toInt) (-z.toInt) ∧ sd3 x y z = -(dv3 x y z)) := by
  unfold sd3 fst3
  by_cases c1 : x < 0
  · rw [if_pos c1]
    rw [Int64.lt_iff_toInt_lt, pu_z0] at c1
    exact Or.inr ⟨Or.inl (by omega), rfl⟩
  · rw [if_neg c1]
    by_cases c2 : x = 0
    · rw [if_pos c2]
      have x0 := pu_nez.mp c2
      by_cases c3 : y < 0
      · rw [if_pos c3]
        rw [Int64.lt_iff_toInt_lt, pu_z0] at c3
        exact Or.inr ⟨Or.inr ⟨by omega, Or.inl (by omega)⟩, rfl⟩
      · rw [if_neg c3]
        by_cases c4 : y = 0
        · rw [if_pos c4]
          have y0 := pu_nez.mp c4
          have zn : ¬ z.toInt = 0 := fun q => h ⟨c2, c4, pu_nez.mpr q⟩
          by_cases c5 : 0 ≤ z
          · rw [if_pos c5]
            rw [Int64.le_iff_toInt_le, pu_z0] at c5
            exact Or.inl ⟨Or.inr ⟨x0, Or.inr ⟨y0, by omega⟩⟩, rfl⟩
          · rw [if_neg c5]
            rw [Int64.le_iff_toInt_le, pu_z0] at c5
            exact Or.inr ⟨Or.inr ⟨by omega, Or.inr ⟨by omega, by omega⟩⟩, rfl⟩
        · rw [if_neg c4]
          rw [Int64.lt_iff_toInt_lt, pu_z0] at c3
          have y0 : ¬ y.toInt = 0 := fun q => c4 (pu_nez.mpr q)
          exact Or.inl ⟨Or.inr ⟨x0, Or.inl (by omega)⟩, rfl⟩
    · rw [if_neg c2]
      rw [Int64.lt_iff_toInt_lt, pu_z0] at c1
      have x0 : ¬ x.toInt = 0 := fun q => c2 (pu_nez.mpr q)
      exact Or.inl ⟨Or.inl (by omega), rfl⟩
theorem pu_divx {x s : Int64} (hx : nm x) : (x / s).toInt = x.toInt.tdiv s.toInt := by
  have hx : -9223372036854775808 < x.toInt := hx
  have h2 := Int64.toInt_lt x
  have b := Int.natAbs_tdiv_le_natAbs x.toInt s.toInt
  exact iv_b (Int64.toInt_div x s) (by omega)
/-- what reduce makes: normalised, and the old numbers are so many times the new -/
theorem red_spec {x y z : Int64} (hx : nm x) (hy : nm y) (hz : nm z) (h : ¬ (x = 0 ∧ y = 0 ∧ z = 0)) :
    nrm (z3_reduce x y z).1.toInt (z3_reduce x y z).2.1.toInt (z3_reduce x y z).2.2.toInt ∧ ∃ k : Int, k ≠ 0 ∧ x.toInt = k * (z3_reduce x y z).1.toInt ∧ y.toInt = k * (z3_reduce x y z).2.1.toInt ∧ z.toInt = k * (z3_reduce x y z).2.2.toInt := by
  have hd : ¬ dv3 x y z = 0 := fun q => h (pu_dv3z.mp q)
  have hs : ¬ sd3 x y z = 0 := fun q => hd (pu_sd3z.mp q)
  have e : z3_reduce x y z = (x / sd3 x y z, y / sd3 x y z, z / sd3 x y z) := by
    rw [pu_red3, if_neg hs]
  rw [e]
  show nrm (x / sd3 x y z).toInt (y / sd3 x y z).toInt (z / sd3 x y z).toInt ∧ ∃ k : Int, k ≠ 0 ∧ x.toInt = k * (x / sd3 x y z).toInt ∧ y.toInt = k * (y / sd3 x y z).toInt ∧ z.toInt = k * (z / sd3 x y z).toInt
  rw [pu_divx hx, pu_divx hy, pu_divx hz]
  have hG := pu_dv3 hx hy hz
  have hGn : ¬ (dv3 x y z).toInt = 0 := fun q => hd (pu_nez.mpr q)
  have d1 : ((gg3 x.toInt y.toInt z.toInt : Nat) : Int) ∣ x.toInt := by
    rw [Int.ofNat_dvd_left]
    exact Nat.dvd_trans (Nat.gcd_dvd_left _ _) (Nat.gcd_dvd_left _ _)
  have d2 : ((gg3 x.toInt y.toInt z.toInt : Nat) : Int) ∣ y.toInt := by
    rw [Int.ofNat_dvd_left]
    exact Nat.dvd_trans (Nat.gcd_dvd_left _ _) (Nat.gcd_dvd_right _ _)
  have d3 : ((gg3 x.toInt y.toInt z.toInt : Nat) : Int) ∣ z.toInt := by
    rw [Int.ofNat_dvd_left]
    exact Nat.gcd_dvd_right _ _
  have fin : ∀ k : Int, k ≠ 0 → k.natAbs = gg3 x.toInt y.toInt z.toInt → (0 < k ∧ fst3 x.toInt y.toInt z.toInt ∨ k < 0 ∧ fst3 (-x.toInt) (-y.toInt) (-z.toInt)) → nrm (x.toInt.tdiv k) (y.toInt.tdiv k) (z.toInt.tdiv k) ∧ ∃ k' : Int, k' ≠ 0 ∧ x.toInt = k' * (x.toInt.tdiv k) ∧ y.toInt = k' * (y.toInt.tdiv k) ∧ z.toInt = k' * (z.toInt.tdiv k) := by
    intro k kn ka ks
    rw [← ka] at d1 d2 d3
    have m1 : k * x.toInt.tdiv k = x.toInt := Int.mul_tdiv_cancel' (Int.natAbs_dvd.mp d1)
    have m2 : k * y.toInt.tdiv k = y.toInt := Int.mul_tdiv_cancel' (Int.natAbs_dvd.mp d2)
    have m3 : k * z.toInt.tdiv k = z.toInt := Int.mul_tdiv_cancel' (Int.natAbs_dvd.mp d3)
    refine ⟨⟨?_, ?_⟩, k, kn, m1.symm, m2.symm, m3.symm⟩
    · rcases ks with ⟨kp, f⟩ | ⟨kp, f⟩
      · apply fst3_mul kp
        rw [m1, m2, m3]
        exact f
      · have kp' : 0 < -k := by omega
        apply fst3_mul kp'
        rw [Int.neg_mul, Int.neg_mul, Int.neg_mul, m1, m2, m3]
        exact f
    · have g := gg3_mul k (x.toInt.tdiv k) (y.toInt.tdiv k) (z.toInt.tdiv k)
      rw [m1, m2, m3, ka] at g
      have gp : 0 < gg3 x.toInt y.toInt z.toInt := by omega
      exact Nat.eq_of_mul_eq_mul_left gp (by rw [← g, Nat.mul_one])
  have lim := Int64.toInt_lt (dv3 x y z)
  rcases sd3_spec h with ⟨f, q⟩ | ⟨f, q⟩
  · rw [q]
    exact fin _ hGn (by rw [hG]; rfl) (Or.inl ⟨by omega, f⟩)
  · rw [q]
    have en : (-(dv3 x y z)).toInt = -(dv3 x y z).toInt := iv_b (Int64.toInt_neg _) (by omega)
    rw [en]
    exact fin _ (by omega) (by rw [hG]; omega) (Or.inr ⟨by omega, f⟩)
theorem nrm_nz {x y z : Int} (h : nrm x y z) : ¬ (x = 0 ∧ y = 0 ∧ z = 0) := by
  rintro ⟨a, b, c⟩
  rcases h.1 with h | ⟨_, h | ⟨_, h⟩⟩ <;> omega
/-- two triples that stand for the same are reduced to the same -/
theorem red_same {x y z u v w : Int64} (hx : nm x) (hy : nm y) (hz : nm z) (hu : nm u) (hv : nm v) (hw : nm w) (h : ¬ (x = 0 ∧ y = 0 ∧ z = 0)) (h' : ¬ (u = 0 ∧ v = 0 ∧ w = 0))
    (e1 : x.toInt * v.toInt = y.toInt * u.toInt) (e2 : x.toInt * w.toInt = z.toInt * u.toInt) (e3 : y.toInt * w.toInt = z.toInt * v.toInt) : z3_reduce x y z = z3_reduce u v w := by
  obtain ⟨n1, k, kn, a1, a2, a3⟩ := red_spec hx hy hz h
  obtain ⟨n2, l, ln, b1, b2, b3⟩ := red_spec hu hv hw h'
  have kl : k * l ≠ 0 := fun q => (Int.mul_eq_zero.mp q).elim kn ln
  rw [a1, a2, b1, b2] at e1
  rw [a1, a3, b1, b3] at e2
  rw [a2, a3, b2, b3] at e3
  obtain ⟨q1, q2, q3⟩ := nrm_uniq n1 n2 (Int.eq_of_mul_eq_mul_left kl (by grind)) (Int.eq_of_mul_eq_mul_left kl (by grind)) (Int.eq_of_mul_eq_mul_left kl (by grind))
  exact Prod.ext (Int64.toInt_inj.mp q1) (Prod.ext (Int64.toInt_inj.mp q2) (Int64.toInt_inj.mp q3))
