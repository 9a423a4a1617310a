/-! Forms that fall apart, over the whole numbers. -/
theorem sq_dvd {r B k : Nat} (h : B * B = r * r * k) : r ∣ B := by
  by_cases hg : Nat.gcd r B = 0
  · have := Nat.gcd_eq_zero_iff.mp hg
    rw [this.1, this.2]
    exact Nat.dvd_refl 0
  · obtain ⟨r', B', co, e1, e2⟩ := Nat.exists_coprime r B
    generalize Nat.gcd r B = g at *
    have hg2 : 0 < g * g := Nat.mul_pos (Nat.pos_of_ne_zero hg) (Nat.pos_of_ne_zero hg)
    have h2 : B' * B' = r' * r' * k := by
      apply Nat.eq_of_mul_eq_mul_left hg2
      rw [e1, e2] at h
      calc g * g * (B' * B') = B' * g * (B' * g) := by grind
        _ = r' * g * (r' * g) * k := h
        _ = g * g * (r' * r' * k) := by grind
    have d1 : r' ∣ B' * B' := ⟨r' * k, by rw [h2, Nat.mul_assoc]⟩
    have d2 : r' ∣ B' := Nat.Coprime.dvd_of_dvd_mul_left co d1
    have d3 : r' ∣ Nat.gcd r' B' := Nat.dvd_gcd (Nat.dvd_refl _) d2
    rw [co] at d3
    have r1 : r' = 1 := Nat.dvd_one.mp d3
    rw [e1, e2, r1, Nat.one_mul]
    exact Nat.dvd_mul_left _ _
theorem sq_div {r B k : Int} (h : B * B = r * r * k) : ∃ m, B = r * m := by
  have h2 : B.natAbs * B.natAbs = r.natAbs * r.natAbs * k.natAbs := by
    rw [← Int.natAbs_mul, h, Int.natAbs_mul, Int.natAbs_mul]
  exact Int.natAbs_dvd_natAbs.mp (sq_dvd h2)
theorem sq_root {u p q : Int} (h : u * (p * p) = q * q) (hp : p ≠ 0) : ∃ m, u = m * m := by
  obtain ⟨m, e⟩ := sq_div (r := p) (B := q) (k := u) (by rw [← h, Int.mul_comm])
  refine ⟨m, ?_⟩
  subst e
  have hpp : p * p ≠ 0 := fun z => (Int.mul_eq_zero.mp z).elim hp hp
  apply Int.eq_of_mul_eq_mul_left hpp
  grind
theorem sq_pos {a : Int} (h : a ≠ 0) : 0 < a * a := by
  rcases Int.lt_or_lt_of_ne h with q | q
  · exact Int.mul_pos_of_neg_of_neg q q
  · exact Int.mul_pos q q
theorem mz {a b : Int} (h : a * b = 0) (ha : a ≠ 0) : b = 0 := (Int.mul_eq_zero.mp h).resolve_left ha
/-- t is the turn of the two lines into which the form falls: its products are the minors, times -1 -/
def turn (a b c d e f t1 t2 t3 : Int) : Prop := t1 * t1 = e * e - 4 * c * f ∧ t1 * t2 = 2 * b * f - d * e ∧ t2 * t2 = d * d - 4 * a * f ∧ t1 * t3 = 2 * c * d - b * e ∧ t2 * t3 = 2 * a * e - b * d ∧ t3 * t3 = b * b - 4 * a * c
def detz (a b c d e f : Int) : Prop := 4 * a * c * f + b * d * e - a * e * e - c * d * d - f * b * b = 0
theorem turn_mt {a b c d e f t1 t2 t3 : Int} (h : turn a b c d e f t1 t2 t3) (z : detz a b c d e f) : 2 * a * t1 + b * t2 + d * t3 = 0 ∧ b * t1 + 2 * c * t2 + e * t3 = 0 ∧ d * t1 + e * t2 + 2 * f * t3 = 0 := by
  obtain ⟨h11, h12, h22, h13, h23, h33⟩ := h
  have z : 4 * a * c * f + b * d * e - a * e * e - c * d * d - f * b * b = 0 := z
  have k : ∀ s : Int, s * t1 = 0 → s * t2 = 0 → s * t3 = 0 → (t1 = 0 → t2 = 0 → t3 = 0 → s = 0) → s = 0 := by
    intro s s1 s2 s3 q
    by_cases hs : s = 0
    · exact hs
    · exact q (mz s1 hs) (mz s2 hs) (mz s3 hs)
  refine ⟨k _ ?_ ?_ ?_ ?_, k _ ?_ ?_ ?_ ?_, k _ ?_ ?_ ?_ ?_⟩
  · grind
  · grind
  · grind
  · intro q1 q2 q3; rw [q1, q2, q3]; omega
  · grind
  · grind
  · grind
  · intro q1 q2 q3; rw [q1, q2, q3]; omega
  · grind
  · grind
  · grind
  · intro q1 q2 q3; rw [q1, q2, q3]; omega
/-- all minors of two rows are 0 -/
def rank1 (n1 n2 n3 n4 n5 n6 n7 n8 n9 : Int) : Prop := n1 * n5 = n2 * n4 ∧ n1 * n6 = n3 * n4 ∧ n2 * n6 = n3 * n5 ∧ n1 * n8 = n2 * n7 ∧ n1 * n9 = n3 * n7 ∧ n2 * n9 = n3 * n8 ∧ n4 * n8 = n5 * n7 ∧ n4 * n9 = n6 * n7 ∧ n5 * n9 = n6 * n8
theorem turn_rank {a b c d e f t1 t2 t3 : Int} (h : turn a b c d e f t1 t2 t3) (z : detz a b c d e f) : rank1 (2 * a) (b - t3) (d + t2) (b + t3) (2 * c) (e - t1) (d - t2) (e + t1) (2 * f) := by
  obtain ⟨m1, m2, m3⟩ := turn_mt h z
  obtain ⟨h11, h12, h22, h13, h23, h33⟩ := h
  refine ⟨?_, ?_, ?_, ?_, ?_, ?_, ?_, ?_, ?_⟩ <;> grind
theorem turn_neg {a b c d e f t1 t2 t3 : Int} (h : turn a b c d e f t1 t2 t3) : turn a b c d e f (-t1) (-t2) (-t3) := by
  obtain ⟨h11, h12, h22, h13, h23, h33⟩ := h
  refine ⟨?_, ?_, ?_, ?_, ?_, ?_⟩ <;> grind
theorem turn_pm {a b c d e f t1 t2 t3 s1 s2 s3 : Int} (h : turn a b c d e f t1 t2 t3) (k : turn a b c d e f s1 s2 s3) : (s1 = t1 ∧ s2 = t2 ∧ s3 = t3) ∨ (s1 = -t1 ∧ s2 = -t2 ∧ s3 = -t3) := by
  obtain ⟨h11, h12, h22, h13, h23, h33⟩ := h
  obtain ⟨k11, k12, k22, k13, k23, k33⟩ := k
  have pm : ∀ s t : Int, s * s = t * t → s = t ∨ s = -t := by
    intro s t q
    have : (s - t) * (s + t) = 0 := by grind
    rcases Int.mul_eq_zero.mp this with w | w
    · exact Or.inl (by omega)
    · exact Or.inr (by omega)
  have z0 : ∀ s t : Int, s * s = t * t → t = 0 → s = 0 := by
    intro s t q w
    rcases pm s t q with v | v <;> omega
  have e11 : s1 * s1 = t1 * t1 := by rw [h11, k11]
  have e12 : s1 * s2 = t1 * t2 := by rw [h12, k12]
  have e22 : s2 * s2 = t2 * t2 := by rw [h22, k22]
  have e13 : s1 * s3 = t1 * t3 := by rw [h13, k13]
  have e23 : s2 * s3 = t2 * t3 := by rw [h23, k23]
  have e33 : s3 * s3 = t3 * t3 := by rw [h33, k33]
  by_cases n1 : t1 = 0
  · have w1 := z0 _ _ e11 n1
    by_cases n2 : t2 = 0
    · have w2 := z0 _ _ e22 n2
      rcases pm _ _ e33 with v | v
      · exact Or.inl ⟨by omega, by omega, v⟩
      · exact Or.inr ⟨by omega, by omega, v⟩
    · rcases pm _ _ e22 with v | v
      · refine Or.inl ⟨by omega, v, ?_⟩
        rw [v] at e23
        exact Int.eq_of_mul_eq_mul_left n2 e23
      · refine Or.inr ⟨by omega, v, ?_⟩
        rw [v] at e23
        apply Int.eq_of_mul_eq_mul_left n2
        grind
  · rcases pm _ _ e11 with v | v
    · rw [v] at e12 e13
      exact Or.inl ⟨v, Int.eq_of_mul_eq_mul_left n1 e12, Int.eq_of_mul_eq_mul_left n1 e13⟩
    · rw [v] at e12 e13
      refine Or.inr ⟨v, ?_, ?_⟩
      · apply Int.eq_of_mul_eq_mul_left n1
        grind
      · apply Int.eq_of_mul_eq_mul_left n1
        grind
/-- a minor of the diagonal, times -1, is a square other than 0: its row, divided by the root, is the turn -/
theorem turn_of1 {a b c d e f r : Int} (z : detz a b c d e f) (hr : r ≠ 0) (h : r * r = e * e - 4 * c * f) : ∃ t1 t2 t3, e * e - 4 * c * f = r * t1 ∧ 2 * b * f - d * e = r * t2 ∧ 2 * c * d - b * e = r * t3 ∧ turn a b c d e f t1 t2 t3 := by
  have z : 4 * a * c * f + b * d * e - a * e * e - c * d * d - f * b * b = 0 := z
  obtain ⟨t2, e2⟩ := sq_div (r := r) (B := 2 * b * f - d * e) (k := d * d - 4 * a * f) (by grind)
  obtain ⟨t3, e3⟩ := sq_div (r := r) (B := 2 * c * d - b * e) (k := b * b - 4 * a * c) (by grind)
  have rr : r * r ≠ 0 := fun q => (Int.mul_eq_zero.mp q).elim hr hr
  refine ⟨r, t2, t3, h.symm, e2, e3, h, e2.symm, ?_, e3.symm, ?_, ?_⟩
  · apply Int.eq_of_mul_eq_mul_left rr
    have : r * r * (t2 * t2) = (r * t2) * (r * t2) := by grind
    rw [this, ← e2, h]
    grind
  · apply Int.eq_of_mul_eq_mul_left rr
    have : r * r * (t2 * t3) = (r * t2) * (r * t3) := by grind
    rw [this, ← e2, ← e3, h]
    grind
  · apply Int.eq_of_mul_eq_mul_left rr
    have : r * r * (t3 * t3) = (r * t3) * (r * t3) := by grind
    rw [this, ← e3, h]
    grind
theorem turn_of2 {a b c d e f r : Int} (z : detz a b c d e f) (hr : r ≠ 0) (h : r * r = d * d - 4 * a * f) : ∃ t1 t2 t3, 2 * b * f - d * e = r * t1 ∧ d * d - 4 * a * f = r * t2 ∧ 2 * a * e - b * d = r * t3 ∧ turn a b c d e f t1 t2 t3 := by
  have z : 4 * a * c * f + b * d * e - a * e * e - c * d * d - f * b * b = 0 := z
  obtain ⟨t1, e1⟩ := sq_div (r := r) (B := 2 * b * f - d * e) (k := e * e - 4 * c * f) (by grind)
  obtain ⟨t3, e3⟩ := sq_div (r := r) (B := 2 * a * e - b * d) (k := b * b - 4 * a * c) (by grind)
  have rr : r * r ≠ 0 := fun q => (Int.mul_eq_zero.mp q).elim hr hr
  refine ⟨t1, r, t3, e1, h.symm, e3, ?_, by rw [e1, Int.mul_comm], h, ?_, e3.symm, ?_⟩
  · apply Int.eq_of_mul_eq_mul_left rr
    have : r * r * (t1 * t1) = (r * t1) * (r * t1) := by grind
    rw [this, ← e1, h]
    grind
  · apply Int.eq_of_mul_eq_mul_left rr
    have : r * r * (t1 * t3) = (r * t1) * (r * t3) := by grind
    rw [this, ← e1, ← e3, h]
    grind
  · apply Int.eq_of_mul_eq_mul_left rr
    have : r * r * (t3 * t3) = (r * t3) * (r * t3) := by grind
    rw [this, ← e3, h]
    grind
theorem turn_of3 {a b c d e f r : Int} (z : detz a b c d e f) (hr : r ≠ 0) (h : r * r = b * b - 4 * a * c) : ∃ t1 t2 t3, 2 * c * d - b * e = r * t1 ∧ 2 * a * e - b * d = r * t2 ∧ b * b - 4 * a * c = r * t3 ∧ turn a b c d e f t1 t2 t3 := by
  have z : 4 * a * c * f + b * d * e - a * e * e - c * d * d - f * b * b = 0 := z
  obtain ⟨t1, e1⟩ := sq_div (r := r) (B := 2 * c * d - b * e) (k := e * e - 4 * c * f) (by grind)
  obtain ⟨t2, e2⟩ := sq_div (r := r) (B := 2 * a * e - b * d) (k := d * d - 4 * a * f) (by grind)
  have rr : r * r ≠ 0 := fun q => (Int.mul_eq_zero.mp q).elim hr hr
  refine ⟨t1, t2, r, e1, e2, h.symm, ?_, ?_, ?_, by rw [e1, Int.mul_comm], by rw [e2, Int.mul_comm], h⟩
  · apply Int.eq_of_mul_eq_mul_left rr
    have : r * r * (t1 * t1) = (r * t1) * (r * t1) := by grind
    rw [this, ← e1, h]
    grind
  · apply Int.eq_of_mul_eq_mul_left rr
    have : r * r * (t1 * t2) = (r * t1) * (r * t2) := by grind
    rw [this, ← e1, ← e2, h]
    grind
  · apply Int.eq_of_mul_eq_mul_left rr
    have : r * r * (t2 * t2) = (r * t2) * (r * t2) := by grind
    rw [this, ← e2, h]
    grind
/-- no minor of the diagonal: all are 0, and so is the turn -/
theorem turn_zero {a b c d e f : Int} (z : detz a b c d e f) (h1 : e * e - 4 * c * f = 0) (h2 : d * d - 4 * a * f = 0) (h3 : b * b - 4 * a * c = 0) : turn a b c d e f 0 0 0 := by
  have z : 4 * a * c * f + b * d * e - a * e * e - c * d * d - f * b * b = 0 := z
  have s : ∀ x : Int, x * x = 0 → x = 0 := by
    intro x q
    rcases Int.mul_eq_zero.mp q with w | w <;> exact w
  refine ⟨by omega, ?_, by omega, ?_, ?_, by omega⟩
  · have := s (2 * b * f - d * e) (by grind)
    omega
  · have := s (2 * c * d - b * e) (by grind)
    omega
  · have := s (2 * a * e - b * d) (by grind)
    omega
