/-! The pure side: the class's functions (z2_, z3_, z0_, z4_) against the reference's (z5_). -/
theorem pu_64lt {a b : Int32} : a.toInt64 < b.toInt64 ↔ a < b := by
  rw [Int64.lt_iff_toInt_lt, i32_64, i32_64, Int32.lt_iff_toInt_lt]
theorem pu_nsub {n : Int32} (hn : n_ok n) : (n - 1).toInt = n.toInt - 1 := by
  obtain ⟨a, b⟩ := hn
  have z1 : (1 : Int32).toInt = 1 := by decide
  rw [Int32.toInt_sub, z1]
  exact Int.bmod_eq_of_le (by omega) (by omega)
/-- has and isOf say the same -/
theorem pu_has {n i : Int32} (hn : n_ok n) : z2_has n i = z5_in i.toInt64 0 ((n - 1).toInt64) := by
  unfold z2_has z5_in
  have z0 : (0 : Int32).toInt64 = 0 := by decide
  have e1 : (i.toInt64 < 0) ↔ i < 0 := by rw [← z0]; exact pu_64lt
  have e2 : ((n - 1).toInt64 < i.toInt64) ↔ n ≤ i := by
    rw [pu_64lt, Int32.lt_iff_toInt_lt, pu_nsub hn, Int32.le_iff_toInt_le]
    omega
  by_cases c1 : i < 0
  · rw [if_pos c1, if_pos (e1.mpr c1)]
  · rw [if_neg c1, if_neg (fun q => c1 (e1.mp q))]
    by_cases c2 : n ≤ i
    · rw [if_pos c2, if_pos (e2.mpr c2)]
    · rw [if_neg c2, if_neg (fun q => c2 (e2.mp q))]
/-- isWithin and in -/
theorem pu_within {x : Int64} : z4_isWithin x 1000 = z5_isNear x := by
  unfold z4_isWithin z5_isNear z5_in
  have : (-(1000 : Int64)) = -1000 := by decide
  rw [this]
theorem pu_within5 {x : Int64} : z4_isWithin x 500 = z5_in x (-500) 500 := by
  unfold z4_isWithin z5_in
  have : (-(500 : Int64)) = -500 := by decide
  rw [this]
/-- a kept number, read by both -/
theorem pu_get3 {n i k : Int32} {f : Nat → Int32} (h : ¬ z2_has n i = 0) (h1 : ¬ k < 0) (h2 : ¬ 3 ≤ k) : z2_get 3 n i k f = f ((3 * i + k).toNatClampNeg) := by
  unfold z2_get
  rw [if_neg h, if_neg h1, if_neg h2, Int32.mul_comm]
theorem pu_get6 {n i k : Int32} {f : Nat → Int32} (h : ¬ z2_has n i = 0) (h1 : ¬ k < 0) (h2 : ¬ 6 ≤ k) : z2_get 6 n i k f = f ((6 * i + k).toNatClampNeg) := by
  unfold z2_get
  rw [if_neg h, if_neg h1, if_neg h2, Int32.mul_comm]
/-- Euclid: the first step out of 0, and no sign -/
theorem pu_g0 (n : Nat) (a : Int64) : z4_gcdl (n + 2) 0 a = a := by
  rw [z4_gcdl]
  by_cases c : a = 0
  · rw [if_pos c, c]
  · rw [if_neg c, z4_gcdl]
    have : (0 : Int64) - 0 / a * a = 0 := by
      rw [i64_rem]
      apply Int64.toInt_inj.mp
      rw [Int64.toInt_mod]
      have z0 : (0 : Int64).toInt = 0 := by decide
      rw [z0, Int.zero_tmod]
    rw [this, if_pos rfl]
theorem pu_gnn : ∀ (n : Nat) (a b : Int64), 0 ≤ a.toInt → 0 ≤ b.toInt → 0 ≤ (z4_gcdl n a b).toInt
  | 0, a, b, ha, _ => ha
  | n + 1, a, b, ha, hb => by
    rw [z4_gcdl]
    by_cases c : b = 0
    · rw [if_pos c]; exact ha
    · rw [if_neg c]
      refine pu_gnn n _ _ hb ?_
      rw [i64_rem, Int64.toInt_mod]
      exact Int.tmod_nonneg _ ha
theorem pu_ab {x : Int64} : lg_ab x = z5_ab x := by
  unfold z5_ab
  by_cases c : 0 < x
  · have : 0 ≤ x := Int64.le_of_lt c
    rw [if_pos this]
    exact if_pos c
  · by_cases q : 0 ≤ x
    · have e : x = 0 := by
        apply Int64.toInt_inj.mp
        rw [Int64.lt_iff_toInt_lt] at c
        rw [Int64.le_iff_toInt_le] at q
        omega
      subst e
      decide
    · rw [if_neg q]
      exact if_neg c
