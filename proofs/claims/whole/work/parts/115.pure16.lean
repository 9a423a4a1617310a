/-! A line crosses a conic: over the whole numbers. -/
def qv (A B C D E F x y z : Int) : Int := A * x * x + B * x * y + C * y * y + D * x * z + E * y * z + F * z * z
def bv (A B C D E F x y z u v w : Int) : Int := 2 * A * x * u + B * (x * v + y * u) + 2 * C * y * v + D * (x * w + z * u) + E * (y * w + z * v) + 2 * F * z * w
theorem qv_add (A B C D E F x y z u v w m n : Int) : qv A B C D E F (m * x + n * u) (m * y + n * v) (m * z + n * w) = m * m * qv A B C D E F x y z + m * n * bv A B C D E F x y z u v w + n * n * qv A B C D E F u v w := by
  unfold qv bv
  grind
theorem qv_mul (A B C D E F x y z k : Int) : qv A B C D E F (k * x) (k * y) (k * z) = k * k * qv A B C D E F x y z := by
  unfold qv
  grind
/-- the crossed form -/
def xA (A B C D E F x y z : Int) : Int := qv A B C D E F 0 z (-y)
def xC (A B C D E F x y z : Int) : Int := qv A B C D E F (-z) 0 x
def xF (A B C D E F x y z : Int) : Int := qv A B C D E F y (-x) 0
def xB (A B C D E F x y z : Int) : Int := bv A B C D E F 0 z (-y) (-z) 0 x
def xD (A B C D E F x y z : Int) : Int := bv A B C D E F 0 z (-y) y (-x) 0
def xE (A B C D E F x y z : Int) : Int := bv A B C D E F (-z) 0 x y (-x) 0
theorem x_val (A B C D E F x y z u v w : Int) : qv (xA A B C D E F x y z) (xB A B C D E F x y z) (xC A B C D E F x y z) (xD A B C D E F x y z) (xE A B C D E F x y z) (xF A B C D E F x y z) u v w = qv A B C D E F (y * w - z * v) (z * u - x * w) (x * v - y * u) := by
  unfold xA xB xC xD xE xF qv bv
  grind
theorem x_null (A B C D E F x y z : Int) : 2 * xA A B C D E F x y z * x + xB A B C D E F x y z * y + xD A B C D E F x y z * z = 0 ∧ xB A B C D E F x y z * x + 2 * xC A B C D E F x y z * y + xE A B C D E F x y z * z = 0 ∧ xD A B C D E F x y z * x + xE A B C D E F x y z * y + 2 * xF A B C D E F x y z * z = 0 := by
  unfold xA xB xC xD xE xF qv bv
  exact ⟨by grind, by grind, by grind⟩
theorem det_null {A B C D E F x y z : Int} (h : ¬ (x = 0 ∧ y = 0 ∧ z = 0)) (h1 : 2 * A * x + B * y + D * z = 0) (h2 : B * x + 2 * C * y + E * z = 0) (h3 : D * x + E * y + 2 * F * z = 0) : detz A B C D E F := by
  show 4 * A * C * F + B * D * E - A * E * E - C * D * D - F * B * B = 0
  have k1 : x * (2 * (4 * A * C * F + B * D * E - A * E * E - C * D * D - F * B * B)) = (4 * C * F - E * E) * (2 * A * x + B * y + D * z) + (D * E - 2 * B * F) * (B * x + 2 * C * y + E * z) + (B * E - 2 * C * D) * (D * x + E * y + 2 * F * z) := by grind
  have k2 : y * (2 * (4 * A * C * F + B * D * E - A * E * E - C * D * D - F * B * B)) = (D * E - 2 * B * F) * (2 * A * x + B * y + D * z) + (4 * A * F - D * D) * (B * x + 2 * C * y + E * z) + (B * D - 2 * A * E) * (D * x + E * y + 2 * F * z) := by grind
  have k3 : z * (2 * (4 * A * C * F + B * D * E - A * E * E - C * D * D - F * B * B)) = (B * E - 2 * C * D) * (2 * A * x + B * y + D * z) + (B * D - 2 * A * E) * (B * x + 2 * C * y + E * z) + (4 * A * C - B * B) * (D * x + E * y + 2 * F * z) := by grind
  rw [h1, h2, h3, Int.mul_zero, Int.mul_zero, Int.mul_zero] at k1 k2 k3
  generalize 4 * A * C * F + B * D * E - A * E * E - C * D * D - F * B * B = T at *
  by_cases hT : T = 0
  · exact hT
  · have t2 : 2 * T ≠ 0 := by omega
    exact absurd ⟨mz (by rw [Int.mul_comm]; exact k1) t2, mz (by rw [Int.mul_comm]; exact k2) t2, mz (by rw [Int.mul_comm]; exact k3) t2⟩ h
def xK (A B C D E F x y z : Int) : Int := (4 * C * F - E * E) * x * x + 2 * (D * E - 2 * B * F) * x * y + (4 * A * F - D * D) * y * y + 2 * (B * E - 2 * C * D) * x * z + 2 * (B * D - 2 * A * E) * y * z + (4 * A * C - B * B) * z * z
set_option maxHeartbeats 2000000 in
theorem x_min (A B C D E F x y z : Int) : 4 * xC A B C D E F x y z * xF A B C D E F x y z - xE A B C D E F x y z * xE A B C D E F x y z = xK A B C D E F x y z * (x * x) ∧ 4 * xA A B C D E F x y z * xF A B C D E F x y z - xD A B C D E F x y z * xD A B C D E F x y z = xK A B C D E F x y z * (y * y) ∧ 4 * xA A B C D E F x y z * xC A B C D E F x y z - xB A B C D E F x y z * xB A B C D E F x y z = xK A B C D E F x y z * (z * z) ∧ xD A B C D E F x y z * xE A B C D E F x y z - 2 * xB A B C D E F x y z * xF A B C D E F x y z = xK A B C D E F x y z * (x * y) ∧ xB A B C D E F x y z * xE A B C D E F x y z - 2 * xC A B C D E F x y z * xD A B C D E F x y z = xK A B C D E F x y z * (x * z) ∧ xB A B C D E F x y z * xD A B C D E F x y z - 2 * xA A B C D E F x y z * xE A B C D E F x y z = xK A B C D E F x y z * (y * z) := by
  unfold xA xB xC xD xE xF xK qv bv
  exact ⟨by grind, by grind, by grind, by grind, by grind, by grind⟩
/-- Gram: the discriminant on a line through two points -/
theorem gram (A B C D E F p1 p2 p3 s1 s2 s3 : Int) : bv A B C D E F p1 p2 p3 s1 s2 s3 * bv A B C D E F p1 p2 p3 s1 s2 s3 - 4 * qv A B C D E F p1 p2 p3 * qv A B C D E F s1 s2 s3 = -(xK A B C D E F (p2 * s3 - p3 * s2) (p3 * s1 - p1 * s3) (p1 * s2 - p2 * s1)) := by
  unfold qv bv xK
  grind
theorem xK_mul (A B C D E F x y z k : Int) : xK A B C D E F (k * x) (k * y) (k * z) = k * k * xK A B C D E F x y z := by
  unfold xK
  grind
theorem sqz {x : Int} (h : x * x = 0) : x = 0 := by
  rcases Int.mul_eq_zero.mp h with q | q <;> exact q
theorem nrm2 {x y z : Int} (h : ¬ (x = 0 ∧ y = 0 ∧ z = 0)) : x * x + y * y + z * z ≠ 0 := by
  intro q
  have h1 := sq_nn x
  have h2 := sq_nn y
  have h3 := sq_nn z
  exact h ⟨sqz (by omega), sqz (by omega), sqz (by omega)⟩
/-- if the rows of the crossed matrix stand for a place, it lies on the line and on the conic -/
theorem x_zero {A B C D E F x y z t1 t2 t3 u v w : Int} (hl : ¬ (x = 0 ∧ y = 0 ∧ z = 0)) (hv : x * u + y * v + z * w = 0)
    (h : rowsp (2 * xA A B C D E F x y z) (xB A B C D E F x y z - t3) (xD A B C D E F x y z + t2) (xB A B C D E F x y z + t3) (2 * xC A B C D E F x y z) (xE A B C D E F x y z - t1) (xD A B C D E F x y z - t2) (xE A B C D E F x y z + t1) (2 * xF A B C D E F x y z) u v w) : qv A B C D E F u v w = 0 := by
  have xv := x_val A B C D E F x y z (v * z - w * y) (w * x - u * z) (u * y - v * x)
  generalize xA A B C D E F x y z = a at *
  generalize xB A B C D E F x y z = b at *
  generalize xC A B C D E F x y z = c at *
  generalize xD A B C D E F x y z = d at *
  generalize xE A B C D E F x y z = e at *
  generalize xF A B C D E F x y z = f at *
  obtain ⟨⟨p1, p2, p3⟩, ⟨p4, p5, p6⟩, ⟨p7, p8, p9⟩⟩ := h
  have r1 : 2 * a * (v * z - w * y) + (b - t3) * (w * x - u * z) + (d + t2) * (u * y - v * x) = 0 := by grind
  have r2 : (b + t3) * (v * z - w * y) + 2 * c * (w * x - u * z) + (e - t1) * (u * y - v * x) = 0 := by grind
  have r3 : (d - t2) * (v * z - w * y) + (e + t1) * (w * x - u * z) + 2 * f * (u * y - v * x) = 0 := by grind
  have q0 : 2 * qv a b c d e f (v * z - w * y) (w * x - u * z) (u * y - v * x) = (v * z - w * y) * (2 * a * (v * z - w * y) + (b - t3) * (w * x - u * z) + (d + t2) * (u * y - v * x)) + (w * x - u * z) * ((b + t3) * (v * z - w * y) + 2 * c * (w * x - u * z) + (e - t1) * (u * y - v * x)) + (u * y - v * x) * ((d - t2) * (v * z - w * y) + (e + t1) * (w * x - u * z) + 2 * f * (u * y - v * x)) := by
    unfold qv
    grind
  rw [r1, r2, r3, Int.mul_zero, Int.mul_zero, Int.mul_zero, xv] at q0
  have s1 : y * (u * y - v * x) - z * (w * x - u * z) = (x * x + y * y + z * z) * u := by grind
  have s2 : z * (v * z - w * y) - x * (u * y - v * x) = (x * x + y * y + z * z) * v := by grind
  have s3 : x * (w * x - u * z) - y * (v * z - w * y) = (x * x + y * y + z * z) * w := by grind
  rw [s1, s2, s3, qv_mul] at q0
  have nn := nrm2 hl
  have q1 : (x * x + y * y + z * z) * (x * x + y * y + z * z) * qv A B C D E F u v w = 0 := by omega
  exact mz q1 (fun t => (Int.mul_eq_zero.mp t).elim nn nn)
/-- the turn of the crossed form stands for the line -/
theorem x_turn {A B C D E F x y z t1 t2 t3 : Int} (h : turn (xA A B C D E F x y z) (xB A B C D E F x y z) (xC A B C D E F x y z) (xD A B C D E F x y z) (xE A B C D E F x y z) (xF A B C D E F x y z) t1 t2 t3) : t1 * y = t2 * x ∧ t1 * z = t3 * x ∧ t2 * z = t3 * y := by
  obtain ⟨h11, h12, h22, h13, h23, h33⟩ := h
  obtain ⟨k1, k2, k3, k4, k5, k6⟩ := x_min A B C D E F x y z
  generalize xK A B C D E F x y z = K at *
  have g11 : t1 * t1 = -(K * (x * x)) := by omega
  have g12 : t1 * t2 = -(K * (x * y)) := by omega
  have g22 : t2 * t2 = -(K * (y * y)) := by omega
  have g13 : t1 * t3 = -(K * (x * z)) := by omega
  have g23 : t2 * t3 = -(K * (y * z)) := by omega
  have g33 : t3 * t3 = -(K * (z * z)) := by omega
  clear h11 h12 h22 h13 h23 h33 k1 k2 k3 k4 k5 k6
  have d1 : (t1 * y - t2 * x) * (t1 * y - t2 * x) = (t1 * t1) * (y * y) - 2 * (t1 * t2) * (x * y) + (t2 * t2) * (x * x) := by grind
  have d2 : (t1 * z - t3 * x) * (t1 * z - t3 * x) = (t1 * t1) * (z * z) - 2 * (t1 * t3) * (x * z) + (t3 * t3) * (x * x) := by grind
  have d3 : (t2 * z - t3 * y) * (t2 * z - t3 * y) = (t2 * t2) * (z * z) - 2 * (t2 * t3) * (y * z) + (t3 * t3) * (y * y) := by grind
  rw [g11, g12, g22] at d1
  rw [g11, g13, g33] at d2
  rw [g22, g23, g33] at d3
  have e1 := sqz (x := t1 * y - t2 * x) (by rw [d1]; grind)
  have e2 := sqz (x := t1 * z - t3 * x) (by rw [d2]; grind)
  have e3 := sqz (x := t2 * z - t3 * y) (by rw [d3]; grind)
  exact ⟨by omega, by omega, by omega⟩
/-- the rows of the crossed matrix lie on the line -/
theorem x_rows {A B C D E F x y z t1 t2 t3 : Int} (h : turn (xA A B C D E F x y z) (xB A B C D E F x y z) (xC A B C D E F x y z) (xD A B C D E F x y z) (xE A B C D E F x y z) (xF A B C D E F x y z) t1 t2 t3) : x * (2 * xA A B C D E F x y z) + y * (xB A B C D E F x y z - t3) + z * (xD A B C D E F x y z + t2) = 0 ∧ x * (xB A B C D E F x y z + t3) + y * (2 * xC A B C D E F x y z) + z * (xE A B C D E F x y z - t1) = 0 ∧ x * (xD A B C D E F x y z - t2) + y * (xE A B C D E F x y z + t1) + z * (2 * xF A B C D E F x y z) = 0 := by
  obtain ⟨e1, e2, e3⟩ := x_turn h
  obtain ⟨n1, n2, n3⟩ := x_null A B C D E F x y z
  generalize xA A B C D E F x y z = a at *
  generalize xB A B C D E F x y z = b at *
  generalize xC A B C D E F x y z = c at *
  generalize xD A B C D E F x y z = d at *
  generalize xE A B C D E F x y z = e at *
  generalize xF A B C D E F x y z = f at *
  exact ⟨by grind, by grind, by grind⟩
theorem par_line {a b c u v w x y z : Int} (hn : ¬ (a = 0 ∧ b = 0 ∧ c = 0)) (p : par a b c u v w) (h : x * a + y * b + z * c = 0) : x * u + y * v + z * w = 0 := by
  obtain ⟨p1, p2, p3⟩ := p
  have k : ∀ s : Int, a * s = 0 → b * s = 0 → c * s = 0 → s = 0 := by
    intro s h1 h2 h3
    by_cases hs : s = 0
    · exact hs
    · exact absurd ⟨mz (by rw [Int.mul_comm]; exact h1) hs, mz (by rw [Int.mul_comm]; exact h2) hs, mz (by rw [Int.mul_comm]; exact h3) hs⟩ hn
  exact k _ (by grind) (by grind) (by grind)
/-- every place of the line by two of its places -/
theorem basis {p1 p2 p3 s1 s2 s3 Z1 Z2 Z3 : Int} (h : Z1 * (p2 * s3 - p3 * s2) + Z2 * (p3 * s1 - p1 * s3) + Z3 * (p1 * s2 - p2 * s1) = 0) (hn : ¬ (p2 * s3 - p3 * s2 = 0 ∧ p3 * s1 - p1 * s3 = 0 ∧ p1 * s2 - p2 * s1 = 0)) : ∃ k m n : Int, k ≠ 0 ∧ k * Z1 = m * p1 + n * s1 ∧ k * Z2 = m * p2 + n * s2 ∧ k * Z3 = m * p3 + n * s3 := by
  have kn := nrm2 hn
  refine ⟨_, (Z2 * s3 - Z3 * s2) * (p2 * s3 - p3 * s2) + (Z3 * s1 - Z1 * s3) * (p3 * s1 - p1 * s3) + (Z1 * s2 - Z2 * s1) * (p1 * s2 - p2 * s1), (p2 * Z3 - p3 * Z2) * (p2 * s3 - p3 * s2) + (p3 * Z1 - p1 * Z3) * (p3 * s1 - p1 * s3) + (p1 * Z2 - p2 * Z1) * (p1 * s2 - p2 * s1), kn, ?_, ?_, ?_⟩
  · have e : ((p2 * s3 - p3 * s2) * (p2 * s3 - p3 * s2) + (p3 * s1 - p1 * s3) * (p3 * s1 - p1 * s3) + (p1 * s2 - p2 * s1) * (p1 * s2 - p2 * s1)) * Z1 - (p2 * s3 - p3 * s2) * (Z1 * (p2 * s3 - p3 * s2) + Z2 * (p3 * s1 - p1 * s3) + Z3 * (p1 * s2 - p2 * s1)) = ((Z2 * s3 - Z3 * s2) * (p2 * s3 - p3 * s2) + (Z3 * s1 - Z1 * s3) * (p3 * s1 - p1 * s3) + (Z1 * s2 - Z2 * s1) * (p1 * s2 - p2 * s1)) * p1 + ((p2 * Z3 - p3 * Z2) * (p2 * s3 - p3 * s2) + (p3 * Z1 - p1 * Z3) * (p3 * s1 - p1 * s3) + (p1 * Z2 - p2 * Z1) * (p1 * s2 - p2 * s1)) * s1 := by grind
    rw [h, Int.mul_zero, Int.sub_zero] at e
    exact e
  · have e : ((p2 * s3 - p3 * s2) * (p2 * s3 - p3 * s2) + (p3 * s1 - p1 * s3) * (p3 * s1 - p1 * s3) + (p1 * s2 - p2 * s1) * (p1 * s2 - p2 * s1)) * Z2 - (p3 * s1 - p1 * s3) * (Z1 * (p2 * s3 - p3 * s2) + Z2 * (p3 * s1 - p1 * s3) + Z3 * (p1 * s2 - p2 * s1)) = ((Z2 * s3 - Z3 * s2) * (p2 * s3 - p3 * s2) + (Z3 * s1 - Z1 * s3) * (p3 * s1 - p1 * s3) + (Z1 * s2 - Z2 * s1) * (p1 * s2 - p2 * s1)) * p2 + ((p2 * Z3 - p3 * Z2) * (p2 * s3 - p3 * s2) + (p3 * Z1 - p1 * Z3) * (p3 * s1 - p1 * s3) + (p1 * Z2 - p2 * Z1) * (p1 * s2 - p2 * s1)) * s2 := by grind
    rw [h, Int.mul_zero, Int.sub_zero] at e
    exact e
  · have e : ((p2 * s3 - p3 * s2) * (p2 * s3 - p3 * s2) + (p3 * s1 - p1 * s3) * (p3 * s1 - p1 * s3) + (p1 * s2 - p2 * s1) * (p1 * s2 - p2 * s1)) * Z3 - (p1 * s2 - p2 * s1) * (Z1 * (p2 * s3 - p3 * s2) + Z2 * (p3 * s1 - p1 * s3) + Z3 * (p1 * s2 - p2 * s1)) = ((Z2 * s3 - Z3 * s2) * (p2 * s3 - p3 * s2) + (Z3 * s1 - Z1 * s3) * (p3 * s1 - p1 * s3) + (Z1 * s2 - Z2 * s1) * (p1 * s2 - p2 * s1)) * p3 + ((p2 * Z3 - p3 * Z2) * (p2 * s3 - p3 * s2) + (p3 * Z1 - p1 * Z3) * (p3 * s1 - p1 * s3) + (p1 * Z2 - p2 * Z1) * (p1 * s2 - p2 * s1)) * s3 := by grind
    rw [h, Int.mul_zero, Int.sub_zero] at e
    exact e
/-- the two places that the reference takes on a line -/
def twoOn (x y z p1 p2 p3 s1 s2 s3 : Int) : Prop := x * p1 + y * p2 + z * p3 = 0 ∧ x * s1 + y * s2 + z * s3 = 0 ∧ ∃ m n : Int, m ≠ 0 ∧ n ≠ 0 ∧ m * (p2 * s3 - p3 * s2) = n * x ∧ m * (p3 * s1 - p1 * s3) = n * y ∧ m * (p1 * s2 - p2 * s1) = n * z
theorem two_nz {x y z p1 p2 p3 s1 s2 s3 : Int} (hl : ¬ (x = 0 ∧ y = 0 ∧ z = 0)) (h : twoOn x y z p1 p2 p3 s1 s2 s3) : ¬ (p2 * s3 - p3 * s2 = 0 ∧ p3 * s1 - p1 * s3 = 0 ∧ p1 * s2 - p2 * s1 = 0) := by
  rintro ⟨q1, q2, q3⟩
  obtain ⟨_, _, m, n, mn, nn, e1, e2, e3⟩ := h
  rw [q1, Int.mul_zero] at e1
  rw [q2, Int.mul_zero] at e2
  rw [q3, Int.mul_zero] at e3
  exact hl ⟨mz e1.symm nn, mz e2.symm nn, mz e3.symm nn⟩
theorem two_by {x y z p1 p2 p3 s1 s2 s3 Z1 Z2 Z3 : Int} (hl : ¬ (x = 0 ∧ y = 0 ∧ z = 0)) (h : twoOn x y z p1 p2 p3 s1 s2 s3) (hz : x * Z1 + y * Z2 + z * Z3 = 0) : ∃ k m n : Int, k ≠ 0 ∧ k * Z1 = m * p1 + n * s1 ∧ k * Z2 = m * p2 + n * s2 ∧ k * Z3 = m * p3 + n * s3 := by
  have nz := two_nz hl h
  obtain ⟨_, _, m, n, mn, nn, e1, e2, e3⟩ := h
  refine basis ?_ nz
  apply mz (a := m) ?_ mn
  have : m * (Z1 * (p2 * s3 - p3 * s2) + Z2 * (p3 * s1 - p1 * s3) + Z3 * (p1 * s2 - p2 * s1)) = Z1 * (m * (p2 * s3 - p3 * s2)) + Z2 * (m * (p3 * s1 - p1 * s3)) + Z3 * (m * (p1 * s2 - p2 * s1)) := by grind
  rw [this, e1, e2, e3]
  have : Z1 * (n * x) + Z2 * (n * y) + Z3 * (n * z) = n * (x * Z1 + y * Z2 + z * Z3) := by grind
  rw [this, hz, Int.mul_zero]
/-- the discriminant, up to squares -/
theorem two_disc {A B C D E F x y z p1 p2 p3 s1 s2 s3 : Int} (h : twoOn x y z p1 p2 p3 s1 s2 s3) : ∃ m n : Int, m ≠ 0 ∧ n ≠ 0 ∧ m * m * (bv A B C D E F p1 p2 p3 s1 s2 s3 * bv A B C D E F p1 p2 p3 s1 s2 s3 - 4 * qv A B C D E F p1 p2 p3 * qv A B C D E F s1 s2 s3) = -(n * n * xK A B C D E F x y z) := by
  obtain ⟨_, _, m, n, mn, nn, e1, e2, e3⟩ := h
  refine ⟨m, n, mn, nn, ?_⟩
  rw [gram, ← xK_mul A B C D E F x y z n, ← e1, ← e2, ← e3, xK_mul]
  grind
/-- the form is 0 on the whole line just where the crossed form is 0 -/
theorem x_all {A B C D E F x y z p1 p2 p3 s1 s2 s3 : Int} (hl : ¬ (x = 0 ∧ y = 0 ∧ z = 0)) (h : twoOn x y z p1 p2 p3 s1 s2 s3) : (xA A B C D E F x y z = 0 ∧ xB A B C D E F x y z = 0 ∧ xC A B C D E F x y z = 0 ∧ xD A B C D E F x y z = 0 ∧ xE A B C D E F x y z = 0 ∧ xF A B C D E F x y z = 0) ↔ (qv A B C D E F p1 p2 p3 = 0 ∧ bv A B C D E F p1 p2 p3 s1 s2 s3 = 0 ∧ qv A B C D E F s1 s2 s3 = 0) := by
  have nn := nrm2 hl
  constructor
  · rintro ⟨qa, qb, qc, qd, qe, qf⟩
    have key : ∀ u v w : Int, x * u + y * v + z * w = 0 → qv A B C D E F u v w = 0 := by
      intro u v w hv
      have xv := x_val A B C D E F x y z (v * z - w * y) (w * x - u * z) (u * y - v * x)
      rw [qa, qb, qc, qd, qe, qf] at xv
      have s1 : y * (u * y - v * x) - z * (w * x - u * z) = (x * x + y * y + z * z) * u := by grind
      have s2 : z * (v * z - w * y) - x * (u * y - v * x) = (x * x + y * y + z * z) * v := by grind
      have s3 : x * (w * x - u * z) - y * (v * z - w * y) = (x * x + y * y + z * z) * w := by grind
      rw [s1, s2, s3, qv_mul] at xv
      have z0 : ∀ i j k : Int, qv 0 0 0 0 0 0 i j k = 0 := by
        intro i j k
        unfold qv
        omega
      rw [z0] at xv
      exact mz xv.symm (fun t => (Int.mul_eq_zero.mp t).elim nn nn)
    obtain ⟨hp, hs, _⟩ := h
    have k1 := key _ _ _ hp
    have k2 := key _ _ _ hs
    have k3 := key (p1 + s1) (p2 + s2) (p3 + s3) (by grind)
    refine ⟨k1, ?_, k2⟩
    have e := qv_add A B C D E F p1 p2 p3 s1 s2 s3 1 1
    rw [Int.one_mul, Int.one_mul, Int.one_mul, Int.one_mul, Int.one_mul, Int.one_mul, k3, k1, k2] at e
    omega
  · rintro ⟨ka, kb, kd⟩
    have key : ∀ u v w : Int, x * u + y * v + z * w = 0 → qv A B C D E F u v w = 0 := by
      intro u v w hv
      obtain ⟨k, m, n, kn, e1, e2, e3⟩ := two_by hl h hv
      have e := qv_add A B C D E F p1 p2 p3 s1 s2 s3 m n
      rw [← e1, ← e2, ← e3, qv_mul, ka, kb, kd, Int.mul_zero, Int.mul_zero, Int.mul_zero] at e
      exact mz (by omega) (fun t => (Int.mul_eq_zero.mp t).elim kn kn)
    have a1 := key 0 z (-y) (by grind)
    have a2 := key (-z) 0 x (by grind)
    have a3 := key y (-x) 0 (by grind)
    have b : ∀ u v w u' v' w' : Int, x * u + y * v + z * w = 0 → x * u' + y * v' + z * w' = 0 → bv A B C D E F u v w u' v' w' = 0 := by
      intro u v w u' v' w' h1 h2
      have k1 := key _ _ _ h1
      have k2 := key _ _ _ h2
      have k3 := key (u + u') (v + v') (w + w') (by grind)
      have e := qv_add A B C D E F u v w u' v' w' 1 1
      rw [Int.one_mul, Int.one_mul, Int.one_mul, Int.one_mul, Int.one_mul, Int.one_mul, k3, k1, k2] at e
      omega
    exact ⟨a1, b _ _ _ _ _ _ (by grind) (by grind), a2, b _ _ _ _ _ _ (by grind) (by grind), b _ _ _ _ _ _ (by grind) (by grind), a3⟩
/-- a place of the line on the conic is one of the two that the roots give -/
theorem two_roots {A B C D E F x y z p1 p2 p3 s1 s2 s3 a b d r Z1 Z2 Z3 g : Int} (hl : ¬ (x = 0 ∧ y = 0 ∧ z = 0)) (h : twoOn x y z p1 p2 p3 s1 s2 s3) (gn : g ≠ 0) (ea : qv A B C D E F p1 p2 p3 = g * a) (eb : bv A B C D E F p1 p2 p3 s1 s2 s3 = g * b) (ed : qv A B C D E F s1 s2 s3 = g * d) (an : a ≠ 0) (rr : r * r = b * b - 4 * a * d) (hz : x * Z1 + y * Z2 + z * Z3 = 0) (hq : qv A B C D E F Z1 Z2 Z3 = 0) (zn : ¬ (Z1 = 0 ∧ Z2 = 0 ∧ Z3 = 0)) :
    par Z1 Z2 Z3 ((r - b) * p1 + 2 * a * s1) ((r - b) * p2 + 2 * a * s2) ((r - b) * p3 + 2 * a * s3) ∨ par Z1 Z2 Z3 ((-r - b) * p1 + 2 * a * s1) ((-r - b) * p2 + 2 * a * s2) ((-r - b) * p3 + 2 * a * s3) := by
  obtain ⟨k, m, n, kn, e1, e2, e3⟩ := two_by hl h hz
  have e := qv_add A B C D E F p1 p2 p3 s1 s2 s3 m n
  rw [← e1, ← e2, ← e3, qv_mul, hq, Int.mul_zero, ea, eb, ed] at e
  have e' : a * (m * m) + b * (m * n) + d * (n * n) = 0 := by
    apply mz (a := g) ?_ gn
    grind
  have f : (2 * a * m + (b - r) * n) * (2 * a * m + (b + r) * n) = 0 := by grind
  have p : ∀ u v : Int, m * v = n * u → par Z1 Z2 Z3 (u * p1 + v * s1) (u * p2 + v * s2) (u * p3 + v * s3) := by
    intro u v q
    have t : ∀ P S P' S' V V' : Int, k * V = m * P + n * S → k * V' = m * P' + n * S' → V * (u * P' + v * S') = V' * (u * P + v * S) := by
      intro P S P' S' V V' h1 h2
      apply Int.eq_of_mul_eq_mul_left kn
      have g1 : k * (V * (u * P' + v * S')) = (m * P + n * S) * (u * P' + v * S') := by rw [← h1]; grind
      have g2 : k * (V' * (u * P + v * S)) = (m * P' + n * S') * (u * P + v * S) := by rw [← h2]; grind
      rw [g1, g2]
      grind
    exact ⟨t _ _ _ _ _ _ e1 e2, t _ _ _ _ _ _ e1 e3, t _ _ _ _ _ _ e2 e3⟩
  rcases Int.mul_eq_zero.mp f with q | q
  · exact Or.inl (p _ _ (by grind))
  · exact Or.inr (p _ _ (by grind))
/-- the same where the first place lies on the conic itself -/
theorem two_roots0 {A B C D E F x y z p1 p2 p3 s1 s2 s3 b d Z1 Z2 Z3 g : Int} (hl : ¬ (x = 0 ∧ y = 0 ∧ z = 0)) (h : twoOn x y z p1 p2 p3 s1 s2 s3) (gn : g ≠ 0) (ea : qv A B C D E F p1 p2 p3 = g * 0) (eb : bv A B C D E F p1 p2 p3 s1 s2 s3 = g * b) (ed : qv A B C D E F s1 s2 s3 = g * d) (hz : x * Z1 + y * Z2 + z * Z3 = 0) (hq : qv A B C D E F Z1 Z2 Z3 = 0) :
    par Z1 Z2 Z3 (1 * p1 + 0 * s1) (1 * p2 + 0 * s2) (1 * p3 + 0 * s3) ∨ par Z1 Z2 Z3 (-d * p1 + b * s1) (-d * p2 + b * s2) (-d * p3 + b * s3) := by
  obtain ⟨k, m, n, kn, e1, e2, e3⟩ := two_by hl h hz
  have e := qv_add A B C D E F p1 p2 p3 s1 s2 s3 m n
  rw [← e1, ← e2, ← e3, qv_mul, hq, Int.mul_zero, ea, eb, ed] at e
  have e' : n * (b * m + d * n) = 0 := by
    apply mz (a := g) ?_ gn
    grind
  have p : ∀ u v : Int, m * v = n * u → par Z1 Z2 Z3 (u * p1 + v * s1) (u * p2 + v * s2) (u * p3 + v * s3) := by
    intro u v q
    have t : ∀ P S P' S' V V' : Int, k * V = m * P + n * S → k * V' = m * P' + n * S' → V * (u * P' + v * S') = V' * (u * P + v * S) := by
      intro P S P' S' V V' h1 h2
      apply Int.eq_of_mul_eq_mul_left kn
      have g1 : k * (V * (u * P' + v * S')) = (m * P + n * S) * (u * P' + v * S') := by rw [← h1]; grind
      have g2 : k * (V' * (u * P + v * S)) = (m * P' + n * S') * (u * P + v * S) := by rw [← h2]; grind
      rw [g1, g2]
      grind
    exact ⟨t _ _ _ _ _ _ e1 e2, t _ _ _ _ _ _ e1 e3, t _ _ _ _ _ _ e2 e3⟩
  rcases Int.mul_eq_zero.mp e' with q | q
  · exact Or.inl (p _ _ (by rw [q]; omega))
  · exact Or.inr (p _ _ (by grind))
