/-! Triples that stand for the same. -/
def par (x y z u v w : Int) : Prop := x * v = y * u ∧ x * w = z * u ∧ y * w = z * v
theorem par_sym {x y z u v w : Int} (h : par x y z u v w) : par u v w x y z := by
  obtain ⟨h1, h2, h3⟩ := h
  exact ⟨by grind, by grind, by grind⟩
theorem par_self (x y z k : Int) : par x y z (k * x) (k * y) (k * z) := ⟨by grind, by grind, by grind⟩
theorem par_0 (u v w : Int) : par 0 0 0 u v w := ⟨by omega, by omega, by omega⟩
theorem par_trans {a b c x y z u v w : Int} (hr : ¬ (a = 0 ∧ b = 0 ∧ c = 0)) (h : par a b c x y z) (k : par a b c u v w) : par x y z u v w := by
  have key : ∀ s : Int, a * s = 0 → b * s = 0 → c * s = 0 → s = 0 := by
    intro s h1 h2 h3
    by_cases hs : s = 0
    · exact hs
    · exact absurd ⟨mz (by rw [Int.mul_comm]; exact h1) hs, mz (by rw [Int.mul_comm]; exact h2) hs, mz (by rw [Int.mul_comm]; exact h3) hs⟩ hr
  obtain ⟨h1, h2, h3⟩ := h
  obtain ⟨k1, k2, k3⟩ := k
  have s1 : x * v - y * u = 0 := key _ (by grind) (by grind) (by grind)
  have s2 : x * w - z * u = 0 := key _ (by grind) (by grind) (by grind)
  have s3 : y * w - z * v = 0 := key _ (by grind) (by grind) (by grind)
  exact ⟨by omega, by omega, by omega⟩
theorem par_uniq {x y z u v w : Int} (h : nrm x y z) (k : nrm u v w) (p : par x y z u v w) : x = u ∧ y = v ∧ z = w :=
  nrm_uniq h k p.1 p.2.1 p.2.2
theorem par_mul {a b c k x y z : Int} (ha : a = k * x) (hb : b = k * y) (hc : c = k * z) : par a b c x y z := by
  subst ha hb hc
  exact ⟨by grind, by grind, by grind⟩
/-- the rows of a matrix all stand for the triple -/
def rowsp (n1 n2 n3 n4 n5 n6 n7 n8 n9 x y z : Int) : Prop := par n1 n2 n3 x y z ∧ par n4 n5 n6 x y z ∧ par n7 n8 n9 x y z
theorem rowsp_1 {n1 n2 n3 n4 n5 n6 n7 n8 n9 x y z : Int} (r : rank1 n1 n2 n3 n4 n5 n6 n7 n8 n9) (hn : ¬ (n1 = 0 ∧ n2 = 0 ∧ n3 = 0)) (p : par n1 n2 n3 x y z) : rowsp n1 n2 n3 n4 n5 n6 n7 n8 n9 x y z := by
  obtain ⟨r1, r2, r3, r4, r5, r6, r7, r8, r9⟩ := r
  exact ⟨p, par_trans hn ⟨r1, r2, r3⟩ p, par_trans hn ⟨r4, r5, r6⟩ p⟩
theorem rowsp_2 {n1 n2 n3 n4 n5 n6 n7 n8 n9 x y z : Int} (r : rank1 n1 n2 n3 n4 n5 n6 n7 n8 n9) (hn : ¬ (n4 = 0 ∧ n5 = 0 ∧ n6 = 0)) (p : par n4 n5 n6 x y z) : rowsp n1 n2 n3 n4 n5 n6 n7 n8 n9 x y z := by
  obtain ⟨r1, r2, r3, r4, r5, r6, r7, r8, r9⟩ := r
  exact ⟨par_trans hn (par_sym ⟨r1, r2, r3⟩) p, p, par_trans hn ⟨r7, r8, r9⟩ p⟩
theorem rowsp_3 {n1 n2 n3 n4 n5 n6 n7 n8 n9 x y z : Int} (r : rank1 n1 n2 n3 n4 n5 n6 n7 n8 n9) (hn : ¬ (n7 = 0 ∧ n8 = 0 ∧ n9 = 0)) (p : par n7 n8 n9 x y z) : rowsp n1 n2 n3 n4 n5 n6 n7 n8 n9 x y z := by
  obtain ⟨r1, r2, r3, r4, r5, r6, r7, r8, r9⟩ := r
  exact ⟨par_trans hn (par_sym ⟨r4, r5, r6⟩) p, par_trans hn (par_sym ⟨r7, r8, r9⟩) p, p⟩
theorem rank1_t {n1 n2 n3 n4 n5 n6 n7 n8 n9 : Int} (r : rank1 n1 n2 n3 n4 n5 n6 n7 n8 n9) : rank1 n1 n4 n7 n2 n5 n8 n3 n6 n9 := by
  obtain ⟨r1, r2, r3, r4, r5, r6, r7, r8, r9⟩ := r
  exact ⟨by grind, by grind, by grind, by grind, by grind, by grind, by grind, by grind, by grind⟩
/-- two normalised triples for which all rows stand are one -/
theorem rowsp_uniq {n1 n2 n3 n4 n5 n6 n7 n8 n9 x y z u v w : Int} (hn : ¬ ((n1 = 0 ∧ n2 = 0 ∧ n3 = 0) ∧ (n4 = 0 ∧ n5 = 0 ∧ n6 = 0) ∧ (n7 = 0 ∧ n8 = 0 ∧ n9 = 0))) (h : rowsp n1 n2 n3 n4 n5 n6 n7 n8 n9 x y z) (k : rowsp n1 n2 n3 n4 n5 n6 n7 n8 n9 u v w) (hx : nrm x y z) (hu : nrm u v w) : x = u ∧ y = v ∧ z = w := by
  obtain ⟨h1, h2, h3⟩ := h
  obtain ⟨k1, k2, k3⟩ := k
  apply par_uniq hx hu
  by_cases c1 : n1 = 0 ∧ n2 = 0 ∧ n3 = 0
  · by_cases c2 : n4 = 0 ∧ n5 = 0 ∧ n6 = 0
    · by_cases c3 : n7 = 0 ∧ n8 = 0 ∧ n9 = 0
      · exact absurd ⟨c1, c2, c3⟩ hn
      · exact par_trans c3 h3 k3
    · exact par_trans c2 h2 k2
  · exact par_trans c1 h1 k1
/-- rows and columns of the same triple: the matrix is symmetric -/
theorem rowsp_sym {n1 n2 n3 n4 n5 n6 n7 n8 n9 x y z : Int} (hx : ¬ (x = 0 ∧ y = 0 ∧ z = 0)) (h : rowsp n1 n2 n3 n4 n5 n6 n7 n8 n9 x y z) (k : rowsp n1 n4 n7 n2 n5 n8 n3 n6 n9 x y z) : n2 = n4 ∧ n3 = n7 ∧ n6 = n8 := by
  obtain ⟨⟨h1, h2, h3⟩, ⟨h4, h5, h6⟩, ⟨h7, h8, h9⟩⟩ := h
  obtain ⟨⟨k1, k2, k3⟩, ⟨k4, k5, k6⟩, ⟨k7, k8, k9⟩⟩ := k
  have key : ∀ s : Int, x * s = 0 → y * s = 0 → z * s = 0 → s = 0 := by
    intro s h1 h2 h3
    by_cases hs : s = 0
    · exact hs
    · exact absurd ⟨mz (by rw [Int.mul_comm]; exact h1) hs, mz (by rw [Int.mul_comm]; exact h2) hs, mz (by rw [Int.mul_comm]; exact h3) hs⟩ hx
  have s1 : n2 - n4 = 0 := key _ (by grind) (by grind) (by grind)
  have s2 : n3 - n7 = 0 := key _ (by grind) (by grind) (by grind)
  have s3 : n6 - n8 = 0 := key _ (by grind) (by grind) (by grind)
  exact ⟨by omega, by omega, by omega⟩
/-- the matrix of a form and its turn is 0 only if the form is -/
theorem mat_nz {a b c d e f t1 t2 t3 : Int} (h : ¬ (a = 0 ∧ b = 0 ∧ c = 0 ∧ d = 0 ∧ e = 0 ∧ f = 0)) : ¬ ((2 * a = 0 ∧ b - t3 = 0 ∧ d + t2 = 0) ∧ (b + t3 = 0 ∧ 2 * c = 0 ∧ e - t1 = 0) ∧ (d - t2 = 0 ∧ e + t1 = 0 ∧ 2 * f = 0)) := by
  rintro ⟨⟨q1, q2, q3⟩, ⟨q4, q5, q6⟩, ⟨q7, q8, q9⟩⟩
  exact h ⟨by omega, by omega, by omega, by omega, by omega, by omega⟩
