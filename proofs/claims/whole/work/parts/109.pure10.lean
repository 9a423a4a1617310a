/-! Both ways to the root. -/
theorem bit_31 : ∀ n : Fin 31, ((1 : Int64) <<< ((nI n.val).toInt64 &&& 63)).toInt = 2 ^ n.val := by decide +kernel
theorem sq_mono {a b : Int} (ha : 0 ≤ a) (h : a ≤ b) : a * a ≤ b * b := Int.mul_le_mul h h ha (by omega)
theorem root4l : ∀ (n : Nat) (x r : Int64), n ≤ 31 → 0 ≤ r.toInt → r.toInt + 2 ^ n ≤ 2147483648 → r.toInt * r.toInt ≤ x.toInt → x.toInt < (r.toInt + 2 ^ n) * (r.toInt + 2 ^ n) → 0 ≤ (z4_rootl n x r).toInt ∧ (z4_rootl n x r).toInt < 2147483648 ∧ (z4_rootl n x r).toInt * (z4_rootl n x r).toInt ≤ x.toInt ∧ x.toInt < ((z4_rootl n x r).toInt + 1) * ((z4_rootl n x r).toInt + 1)
  | 0, x, r, _, h0, h1, h2, h3 => by
    rw [z4_rootl]
    have p : (2 : Int) ^ 0 = 1 := rfl
    rw [p] at h1 h3
    exact ⟨h0, by omega, h2, h3⟩
  | n + 1, x, r, hn, h0, h1, h2, h3 => by
    rw [z4_rootl]
    have bt := bit_31 ⟨n, by omega⟩
    generalize ((1 : Int64) <<< ((nI n).toInt64 &&& 63)) = bt' at *
    have p2 : (2 : Int) ^ (n + 1) = 2 * 2 ^ n := by rw [Int.pow_succ, Int.mul_comm]
    have pp : (0 : Int) < 2 ^ n := Int.pow_pos (by decide)
    rw [p2] at h1 h3
    generalize hP : (2 : Int) ^ n = P at *
    have bt : bt'.toInt = P := bt
    have e1 : (r + bt').toInt = r.toInt + P := i64_add rfl bt (by omega) (by omega)
    have s1 : 0 ≤ (r.toInt + P) * (r.toInt + P) := sq_nn _
    have s2 : (r.toInt + P) * (r.toInt + P) ≤ 2147483648 * 2147483648 := sq_mono (by omega) (by omega)
    have e2 : ((r + bt') * (r + bt')).toInt = (r.toInt + P) * (r.toInt + P) := by
      rw [Int64.toInt_mul, e1]
      exact Int.bmod_eq_of_le (by omega) (by omega)
    by_cases c : x < (r + bt') * (r + bt')
    · rw [if_pos c]
      rw [Int64.lt_iff_toInt_lt, e2] at c
      exact root4l n x r (by omega) h0 (by rw [hP]; omega) h2 (by rw [hP]; exact c)
    · rw [if_neg c]
      rw [Int64.lt_iff_toInt_lt, e2] at c
      refine root4l n x (r + bt') (by omega) (by omega) (by rw [hP]; omega) (by rw [e1]; omega) ?_
      rw [e1, hP]
      have : r.toInt + P + P = r.toInt + 2 * P := by omega
      rw [this]
      exact h3
theorem root4 {x : Int64} (h0 : 0 ≤ x.toInt) (h1 : x.toInt < 4611686018427387904) : 0 ≤ (z4_rootOf x).toInt ∧ (z4_rootOf x).toInt < 2147483648 ∧ (z4_rootOf x).toInt * (z4_rootOf x).toInt ≤ x.toInt ∧ x.toInt < ((z4_rootOf x).toInt + 1) * ((z4_rootOf x).toInt + 1) := by
  unfold z4_rootOf
  refine root4l 31 x 0 (by decide) (by rw [pu_z0]; decide) (by rw [pu_z0]; decide) (by rw [pu_z0]; exact h0) ?_
  rw [pu_z0]
  have : ((0 : Int) + 2 ^ 31) * (0 + 2 ^ 31) = 4611686018427387904 := by decide
  rw [this]
  exact h1
theorem root5l : ∀ (n : Nat) (v lo hi : Int64), ro_ok n lo hi → 0 ≤ v.toInt → lo.toInt * lo.toInt ≤ v.toInt → v.toInt < (hi.toInt + 1) * (hi.toInt + 1) → 0 ≤ (z5_rootl n v lo hi).toInt ∧ (z5_rootl n v lo hi).toInt ≤ 3000000000 ∧ (z5_rootl n v lo hi).toInt * (z5_rootl n v lo hi).toInt ≤ v.toInt ∧ v.toInt < ((z5_rootl n v lo hi).toInt + 1) * ((z5_rootl n v lo hi).toInt + 1)
  | 0, v, lo, hi, h, hv, h1, h2 => by
    have q := ro_0 h
    rw [Int64.le_iff_toInt_le] at q
    rw [z5_rootl]
    obtain ⟨a, b, c, d⟩ := h
    have e : hi.toInt = lo.toInt := by omega
    rw [e] at h2
    exact ⟨a, by omega, h1, h2⟩
  | n + 1, v, lo, hi, h, hv, h1, h2 => by
    rw [z5_rootl]
    by_cases q : hi ≤ lo
    · rw [if_pos q]
      rw [Int64.le_iff_toInt_le] at q
      obtain ⟨a, b, c, d⟩ := h
      have e : hi.toInt = lo.toInt := by omega
      rw [e] at h2
      exact ⟨a, by omega, h1, h2⟩
    · rw [if_neg q]
      have r1 := ro_lo h q
      have r2 := ro_hi h q
      obtain ⟨a, b, c, d⟩ := h
      have q' := q
      rw [Int64.le_iff_toInt_le] at q'
      have em := i64_mid a (by omega) c
      generalize (lo + hi + 1) / 2 = m at *
      have mp : 0 < m.toInt := by omega
      have z1 : (1 : Int64).toInt = 1 := by decide
      have em1 := i64_sub (a := m) (b := 1) rfl z1 (by omega) (by omega)
      have ed : (v / m).toInt = v.toInt / m.toInt := by
        have nv : nm v := by show _ < _; omega
        rw [pu_divx nv, Int.tdiv_eq_ediv_of_nonneg hv]
      by_cases t : v / m < m
      · rw [if_pos t]
        rw [Int64.lt_iff_toInt_lt, ed, Int.ediv_lt_iff_lt_mul mp] at t
        refine root5l n v lo (m - 1) r1 hv h1 ?_
        rw [em1]
        have : m.toInt - 1 + 1 = m.toInt := by omega
        rw [this]
        exact t
      · rw [if_neg t]
        rw [Int64.lt_iff_toInt_lt, ed, Int.ediv_lt_iff_lt_mul mp] at t
        exact root5l n v m hi r2 hv (by omega) h2
theorem root5 {v : Int64} (h0 : 0 ≤ v.toInt) (h1 : v.toInt < 9000000000000000000) : 0 ≤ (z5_rootOf v).toInt ∧ (z5_rootOf v).toInt ≤ 3000000000 ∧ (z5_rootOf v).toInt * (z5_rootOf v).toInt ≤ v.toInt ∧ v.toInt < ((z5_rootOf v).toInt + 1) * ((z5_rootOf v).toInt + 1) := by
  unfold z5_rootOf
  have z3 : (3000000000 : Int64).toInt = 3000000000 := by decide
  refine root5l 32 v 0 3000000000 ?_ h0 (by rw [pu_z0]; exact h0) ?_
  · unfold ro_ok
    rw [pu_z0, z3]
    decide
  · rw [z3]
    omega
/-- the root of a square is the number itself; what is no square has none -/
theorem root_sq {r x k : Int} (hr : 0 ≤ r) (h1 : r * r ≤ x) (h2 : x < (r + 1) * (r + 1)) (hk : x = k * k) : r = k ∨ r = -k := by
  have key : ∀ j : Int, 0 ≤ j → x = j * j → r = j := by
    intro j hj e
    rcases Int.lt_trichotomy r j with q | q | q
    · have := sq_mono (a := r + 1) (b := j) (by omega) (by omega)
      omega
    · exact q
    · have := sq_mono (a := j + 1) (b := r) (by omega) (by omega)
      have e3 : (j + 1) * (j + 1) = j * j + 2 * j + 1 := by grind
      omega
  rcases Int.le_total 0 k with q | q
  · exact Or.inl (key k q hk)
  · refine Or.inr (key (-k) (by omega) ?_)
    rw [hk]
    grind
theorem root_iff {r x : Int} (hr : 0 ≤ r) (h1 : r * r ≤ x) (h2 : x < (r + 1) * (r + 1)) : r * r = x ↔ ∃ k, x = k * k := by
  constructor
  · intro h
    exact ⟨r, h.symm⟩
  · rintro ⟨k, e⟩
    rcases root_sq hr h1 h2 e with q | q
    · rw [q, e]
    · rw [q, e]
      grind
