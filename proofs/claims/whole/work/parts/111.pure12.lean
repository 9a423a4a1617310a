/-! How the class lets a form fall apart. -/
theorem isz3_z {x y z : Int64} (h : ¬ z3_isZero x y z = 0) : x = 0 ∧ y = 0 ∧ z = 0 :=
  Classical.byContradiction (fun q => h ((pu_isz3 x y z).mpr q))
theorem isz3_n {x y z : Int64} (h : z3_isZero x y z = 0) : ¬ (x = 0 ∧ y = 0 ∧ z = 0) := (pu_isz3 x y z).mp h
theorem z3iv {x y z : Int64} {u v w : Int} {I J K : Nat} (hx : iv x u I) (hy : iv y v J) (hz : iv z w K) : (x = 0 ∧ y = 0 ∧ z = 0) ↔ (u = 0 ∧ v = 0 ∧ w = 0) := by
  rw [iv_z hx, iv_z hy, iv_z hz]
/-- what reduce makes of three numbers of a known size -/
theorem red_iv {x y z : Int64} {u v w : Int} {I J K : Nat} (hx : iv x u I) (hy : iv y v J) (hz : iv z w K) (bx : I < 9223372036854775808) (bj : J < 9223372036854775808) (bz : K < 9223372036854775808) (h : ¬ (u = 0 ∧ v = 0 ∧ w = 0)) : nrm (z3_reduce x y z).1.toInt (z3_reduce x y z).2.1.toInt (z3_reduce x y z).2.2.toInt ∧ par u v w (z3_reduce x y z).1.toInt (z3_reduce x y z).2.1.toInt (z3_reduce x y z).2.2.toInt := by
  have h' : ¬ (x = 0 ∧ y = 0 ∧ z = 0) := fun q => h ((z3iv hx hy hz).mp q)
  obtain ⟨n, k, kn, e1, e2, e3⟩ := red_spec (iv_nm hx bx) (iv_nm hy bj) (iv_nm hz bz) h'
  rw [hx.1] at e1
  rw [hy.1] at e2
  rw [hz.1] at e3
  exact ⟨n, par_mul e1 e2 e3⟩
theorem setrow_spec {a b c d e f T1 T2 T3 : Int64} {A B C D E F t1 t2 t3 : Int} (ha : iv a A 700000000) (hb : iv b B 700000000) (hc : iv c C 700000000) (hd : iv d D 700000000) (he : iv e E 700000000) (hf : iv f F 700000000) (h1 : iv T1 t1 2450000000000000000) (h2 : iv T2 t2 2450000000000000000) (h3 : iv T3 t3 2450000000000000000) (r : rank1 (2 * A) (B - t3) (D + t2) (B + t3) (2 * C) (E - t1) (D - t2) (E + t1) (2 * F)) (nz : ¬ (A = 0 ∧ B = 0 ∧ C = 0 ∧ D = 0 ∧ E = 0 ∧ F = 0)) :
    nrm (z3_setRow a b c d e f T1 T2 T3).1.toInt (z3_setRow a b c d e f T1 T2 T3).2.1.toInt (z3_setRow a b c d e f T1 T2 T3).2.2.toInt ∧ rowsp (2 * A) (B - t3) (D + t2) (B + t3) (2 * C) (E - t1) (D - t2) (E + t1) (2 * F) (z3_setRow a b c d e f T1 T2 T3).1.toInt (z3_setRow a b c d e f T1 T2 T3).2.1.toInt (z3_setRow a b c d e f T1 T2 T3).2.2.toInt := by
  have i1 := iv_mul iv_2 ha (by decide)
  have i2 := iv_sub hb h3 (by decide)
  have i3 := iv_add hd h2 (by decide)
  have i4 := iv_add hb h3 (by decide)
  have i5 := iv_mul iv_2 hc (by decide)
  have i6 := iv_sub he h1 (by decide)
  have i7 := iv_sub hd h2 (by decide)
  have i8 := iv_add he h1 (by decide)
  have i9 := iv_mul iv_2 hf (by decide)
  unfold z3_setRow
  by_cases c1 : z3_isZero (2 * a) (b - T3) (d + T2) = 0
  · rw [if_pos c1, pr3]
    have q := fun t => isz3_n c1 ((z3iv i1 i2 i3).mpr t)
    obtain ⟨n, p⟩ := red_iv i1 i2 i3 (by decide) (by decide) (by decide) q
    exact ⟨n, rowsp_1 r q p⟩
  · rw [if_neg c1]
    have z1 := (z3iv i1 i2 i3).mp (isz3_z c1)
    by_cases c2 : z3_isZero (b + T3) (2 * c) (e - T1) = 0
    · rw [if_pos c2, pr3]
      have q := fun t => isz3_n c2 ((z3iv i4 i5 i6).mpr t)
      obtain ⟨n, p⟩ := red_iv i4 i5 i6 (by decide) (by decide) (by decide) q
      exact ⟨n, rowsp_2 r q p⟩
    · rw [if_neg c2, pr3]
      have z2 := (z3iv i4 i5 i6).mp (isz3_z c2)
      have q := fun t => mat_nz (t1 := t1) (t2 := t2) (t3 := t3) nz ⟨z1, z2, t⟩
      obtain ⟨n, p⟩ := red_iv i7 i8 i9 (by decide) (by decide) (by decide) q
      exact ⟨n, rowsp_3 r q p⟩
theorem ord1 (x y z u v w : Int64) : z1_order 1 x y z u v w = (1, x, y, z, u, v, w) := by
  unfold z1_order
  rw [if_neg (by decide)]
/-- the root of a minor, times -1 -/
theorem fa_at {m : Int64} {M : Int} (h : iv m M 2450000000000000000) : (0 < M ∧ ¬ 0 ≤ -m) ∨ (M < 0 ∧ 0 ≤ -m ∧ ¬ z4_rootOf (-m) * z4_rootOf (-m) = -m ∧ ¬ ∃ k, -M = k * k) ∨ (0 ≤ -m ∧ z4_rootOf (-m) * z4_rootOf (-m) = -m ∧ ∃ r, iv (z4_rootOf (-m)) r 2147483648 ∧ r * r = -M) := by
  have hn := iv_neg h (by decide)
  by_cases c : 0 ≤ -M
  · have c' := (iv_ge0 hn).mpr c
    have hb := hn.2
    obtain ⟨q0, q1, q2, q3⟩ := root4 (x := -m) (by rw [hn.1]; exact c) (by rw [hn.1]; omega)
    rw [hn.1] at q2 q3
    have hr : iv (z4_rootOf (-m)) (z4_rootOf (-m)).toInt 2147483648 := ⟨rfl, by omega⟩
    have hrr := iv_mul hr hr (by decide)
    have ri := root_iff q0 q2 q3
    by_cases e : z4_rootOf (-m) * z4_rootOf (-m) = -m
    · refine Or.inr (Or.inr ⟨c', e, _, hr, ?_⟩)
      have := congrArg Int64.toInt e
      rw [hrr.1, hn.1] at this
      exact this
    · have ne : ¬ ∃ k, -M = k * k := by
        intro q
        exact e (iv_eq hrr hn (ri.mpr q))
      refine Or.inr (Or.inl ⟨?_, c', e, ne⟩)
      rcases Int.lt_trichotomy M 0 with q | q | q
      · exact q
      · exact absurd ⟨0, by omega⟩ ne
      · omega
  · exact Or.inl ⟨by omega, fun q => c ((iv_ge0 hn).mp q)⟩
def faT (a b c d e f rt : Int64) : Int64 × Int64 × Int64 := z3_setTurn (z0_setMinors_a c e f) (z0_setMinors_b b d e f) (z0_setMinors_c a d f) (z0_setMinors_d b c d e) (z0_setMinors_e a b d e) (z0_setMinors_f a b c) rt
def faS (a b c d e f T1 T2 T3 : Int64) : Int32 × Int32 × Int64 × Int64 × Int64 × Int64 × Int64 × Int64 := (1, 1, (z3_setRow a b c d e f T1 T2 T3).1, (z3_setRow a b c d e f T1 T2 T3).2.1, (z3_setRow a b c d e f T1 T2 T3).2.2, (z3_setRow a b c d e f (-T1) (-T2) (-T3)).1, (z3_setRow a b c d e f (-T1) (-T2) (-T3)).2.1, (z3_setRow a b c d e f (-T1) (-T2) (-T3)).2.2)
def faO (a b c d e f T1 T2 T3 : Int64) : Int32 × Int64 × Int64 × Int64 × Int64 × Int64 × Int64 := z1_order 2 (z3_setRow a b c d e f T1 T2 T3).1 (z3_setRow a b c d e f T1 T2 T3).2.1 (z3_setRow a b c d e f T1 T2 T3).2.2 (z3_setRow a b c d e f (-T1) (-T2) (-T3)).1 (z3_setRow a b c d e f (-T1) (-T2) (-T3)).2.1 (z3_setRow a b c d e f (-T1) (-T2) (-T3)).2.2
def faP (p : Int32 × Int64 × Int64 × Int64 × Int64 × Int64 × Int64) : Int32 × Int32 × Int64 × Int64 × Int64 × Int64 × Int64 × Int64 := (p.1, p.1, p.2.1, p.2.2.1, p.2.2.2.1, p.2.2.2.2.1, p.2.2.2.2.2.1, p.2.2.2.2.2.2)
set_option maxHeartbeats 4000000 in
theorem fa_form (a b c d e f x y z u v w : Int64) (s : Int64) (hs : (z0_firstSquare (z0_setMinors_a c e f) (z0_setMinors_c a d f) (z0_setMinors_f a b c)) = s) : z4_fallApart a b c d e f x y z u v w = if 0 ≤ -s then if z4_rootOf (-s) * z4_rootOf (-s) = -s then if z4_rootOf (-s) = 0 then faS a b c d e f (faT a b c d e f (z4_rootOf (-s))).1 (faT a b c d e f (z4_rootOf (-s))).2.1 (faT a b c d e f (z4_rootOf (-s))).2.2 else faP (faO a b c d e f (faT a b c d e f (z4_rootOf (-s))).1 (faT a b c d e f (z4_rootOf (-s))).2.1 (faT a b c d e f (z4_rootOf (-s))).2.2) else (4, 0, x, y, z, u, v, w) else (0, 0, x, y, z, u, v, w) := by
  unfold z4_fallApart
  simp only [z4_fallApart_v1, z4_fallApart_v2, z4_fallApart_v3, z4_fallApart_v4, z4_fallApart_v5, z4_fallApart_v6, z4_fallApart_v7, z4_fallApart_v8, z4_fallApart_v9, z4_fallApart_v10, z4_fallApart_v11, z4_fallApart_v12, z4_fallApart_v13, z4_fallApart_v14, z4_fallApart_v15, z4_fallApart_v16, z4_fallApart_v17, z4_fallApart_v18, z4_fallApart_v19, z4_fallApart_v20, z4_fallApart_v21, z4_fallApart_v22, z4_fallApart_v23, ord1, hs]
  simp only [faS, faP, faO, faT]
theorem fa_spec {a b c d e f : Int64} {A B C D E F : Int} (x y z u v w : Int64) (ha : iv a A 700000000) (hb : iv b B 700000000) (hc : iv c C 700000000) (hd : iv d D 700000000) (he : iv e E 700000000) (hf : iv f F 700000000) (dz : detz A B C D E F) :
    ((0 < 4 * C * F - E * E ∨ 0 < 4 * A * F - D * D ∨ 0 < 4 * A * C - B * B) ∧ z4_fallApart a b c d e f x y z u v w = (0, 0, x, y, z, u, v, w))
    ∨ (((4 * C * F - E * E < 0 ∧ ¬ ∃ k, E * E - 4 * C * F = k * k) ∨ (4 * A * F - D * D < 0 ∧ ¬ ∃ k, D * D - 4 * A * F = k * k) ∨ (4 * A * C - B * B < 0 ∧ ¬ ∃ k, B * B - 4 * A * C = k * k)) ∧ z4_fallApart a b c d e f x y z u v w = (4, 0, x, y, z, u, v, w))
    ∨ ∃ T1 T2 T3 : Int64, ∃ t1 t2 t3 : Int, iv T1 t1 2450000000000000000 ∧ iv T2 t2 2450000000000000000 ∧ iv T3 t3 2450000000000000000 ∧ turn A B C D E F t1 t2 t3 ∧ (((t1 = 0 ∧ t2 = 0 ∧ t3 = 0) ∧ z4_fallApart a b c d e f x y z u v w = faS a b c d e f T1 T2 T3) ∨ (¬ (t1 = 0 ∧ t2 = 0 ∧ t3 = 0) ∧ z4_fallApart a b c d e f x y z u v w = faP (faO a b c d e f T1 T2 T3))) := by
  have ma : iv (z0_setMinors_a c e f) (((4 * C) * F) - (E * E)) 2450000000000000000 := (iv_sub (iv_mul (iv_mul iv_4 hc (by decide)) hf (by decide)) (iv_mul he he (by decide)) (by decide))
  have mb : iv (z0_setMinors_b b d e f) ((D * E) - ((2 * B) * F)) 2450000000000000000 := (iv_up (iv_sub (iv_mul hd he (by decide)) (iv_mul (iv_mul iv_2 hb (by decide)) hf (by decide)) (by decide)) (by decide))
  have mc : iv (z0_setMinors_c a d f) (((4 * A) * F) - (D * D)) 2450000000000000000 := (iv_sub (iv_mul (iv_mul iv_4 ha (by decide)) hf (by decide)) (iv_mul hd hd (by decide)) (by decide))
  have md : iv (z0_setMinors_d b c d e) ((B * E) - ((2 * C) * D)) 2450000000000000000 := (iv_up (iv_sub (iv_mul hb he (by decide)) (iv_mul (iv_mul iv_2 hc (by decide)) hd (by decide)) (by decide)) (by decide))
  have me : iv (z0_setMinors_e a b d e) ((B * D) - ((2 * A) * E)) 2450000000000000000 := (iv_up (iv_sub (iv_mul hb hd (by decide)) (iv_mul (iv_mul iv_2 ha (by decide)) he (by decide)) (by decide)) (by decide))
  have mf : iv (z0_setMinors_f a b c) (((4 * A) * C) - (B * B)) 2450000000000000000 := (iv_sub (iv_mul (iv_mul iv_4 ha (by decide)) hc (by decide)) (iv_mul hb hb (by decide)) (by decide))
  have n1 : -(4 * C * F - E * E) = E * E - 4 * C * F := by omega
  have n2 : -(4 * A * F - D * D) = D * D - 4 * A * F := by omega
  have n3 : -(4 * A * C - B * B) = B * B - 4 * A * C := by omega
  by_cases ca : z0_setMinors_a c e f = 0
  · by_cases cc : z0_setMinors_c a d f = 0
    · have fs : (z0_firstSquare (z0_setMinors_a c e f) (z0_setMinors_c a d f) (z0_setMinors_f a b c)) = z0_setMinors_f a b c := by
        unfold z0_firstSquare
        rw [if_pos ca, if_pos cc]
      have form := fa_form a b c d e f x y z u v w _ fs
      rcases fa_at mf with ⟨g, q⟩ | ⟨g, q1, q2, q3⟩ | ⟨q1, q2, r, hr, rr⟩
      · rw [if_neg q] at form
        exact Or.inl ⟨Or.inr (Or.inr g), form⟩
      · rw [if_pos q1, if_neg q2] at form
        rw [n3] at q3
        exact Or.inr (Or.inl ⟨Or.inr (Or.inr ⟨g, q3⟩), form⟩)
      · rw [if_pos q1, if_pos q2] at form
        rw [n3] at rr
        refine Or.inr (Or.inr ?_)
        by_cases r0 : z4_rootOf (-(z0_setMinors_f a b c)) = 0
        · have rz := (iv_z hr).mp r0
          have t0 : faT a b c d e f (z4_rootOf (-(z0_setMinors_f a b c))) = (0, 0, 0) := by
            unfold faT z3_setTurn
            rw [if_pos r0]
          rw [if_pos r0, t0] at form
          refine ⟨0, 0, 0, 0, 0, 0, iv_up iv_0 (by decide), iv_up iv_0 (by decide), iv_up iv_0 (by decide), ?_, Or.inl ⟨⟨rfl, rfl, rfl⟩, form⟩⟩
          have za := (iv_z ma).mp ca
          have zc := (iv_z mc).mp cc
          refine turn_zero dz (by omega) (by omega) ?_
          rw [rz] at rr
          omega
        · have rn : r ≠ 0 := fun q => r0 ((iv_z hr).mpr q)
          have t0 : faT a b c d e f (z4_rootOf (-(z0_setMinors_f a b c))) = ((-(z0_setMinors_d b c d e)) / z4_rootOf (-(z0_setMinors_f a b c)), (-(z0_setMinors_e a b d e)) / z4_rootOf (-(z0_setMinors_f a b c)), (-(z0_setMinors_f a b c)) / z4_rootOf (-(z0_setMinors_f a b c))) := by
            unfold faT z3_setTurn
            rw [if_neg r0, if_pos ca, if_pos cc]
          rw [if_neg r0, t0] at form
          obtain ⟨t1, t2, t3, e1, e2, e3, tu⟩ := turn_of3 dz rn rr
          have d1 := iv_div (iv_neg md (by decide)) hr (by decide)
          have d2 := iv_div (iv_neg me (by decide)) hr (by decide)
          have d3 := iv_div (iv_neg mf (by decide)) hr (by decide)
          rw [show -((B * E) - ((2 * C) * D)) = r * t1 by rw [← e1]; omega, Int.mul_tdiv_cancel_left _ rn] at d1
          rw [show -((B * D) - ((2 * A) * E)) = r * t2 by rw [← e2]; omega, Int.mul_tdiv_cancel_left _ rn] at d2
          rw [show -(((4 * A) * C) - (B * B)) = r * t3 by rw [← e3]; omega, Int.mul_tdiv_cancel_left _ rn] at d3
          refine ⟨_, _, _, t1, t2, t3, d1, d2, d3, tu, Or.inr ⟨?_, form⟩⟩
          rintro ⟨-, -, z3⟩
          rw [z3, Int.mul_zero] at e3
          rw [e3] at rr
          exact rn (by rcases Int.mul_eq_zero.mp rr with q | q <;> exact q)
    · have fs : (z0_firstSquare (z0_setMinors_a c e f) (z0_setMinors_c a d f) (z0_setMinors_f a b c)) = z0_setMinors_c a d f := by
        unfold z0_firstSquare
        rw [if_pos ca, if_neg cc]
      have form := fa_form a b c d e f x y z u v w _ fs
      rcases fa_at mc with ⟨g, q⟩ | ⟨g, q1, q2, q3⟩ | ⟨q1, q2, r, hr, rr⟩
      · rw [if_neg q] at form
        exact Or.inl ⟨Or.inr (Or.inl g), form⟩
      · rw [if_pos q1, if_neg q2] at form
        rw [n2] at q3
        exact Or.inr (Or.inl ⟨Or.inr (Or.inl ⟨g, q3⟩), form⟩)
      · rw [if_pos q1, if_pos q2] at form
        rw [n2] at rr
        refine Or.inr (Or.inr ?_)
        have zc : ¬ ((4 * A) * F) - (D * D) = 0 := fun q => cc ((iv_z mc).mpr q)
        have rn : r ≠ 0 := by
          intro q
          rw [q] at rr
          omega
        have r0 : ¬ z4_rootOf (-(z0_setMinors_c a d f)) = 0 := fun q => rn ((iv_z hr).mp q)
        have t0 : faT a b c d e f (z4_rootOf (-(z0_setMinors_c a d f))) = ((-(z0_setMinors_b b d e f)) / z4_rootOf (-(z0_setMinors_c a d f)), (-(z0_setMinors_c a d f)) / z4_rootOf (-(z0_setMinors_c a d f)), (-(z0_setMinors_e a b d e)) / z4_rootOf (-(z0_setMinors_c a d f))) := by
          unfold faT z3_setTurn
          rw [if_neg r0, if_pos ca, if_neg cc]
        rw [if_neg r0, t0] at form
        obtain ⟨t1, t2, t3, e1, e2, e3, tu⟩ := turn_of2 dz rn rr
        have d1 := iv_div (iv_neg mb (by decide)) hr (by decide)
        have d2 := iv_div (iv_neg mc (by decide)) hr (by decide)
        have d3 := iv_div (iv_neg me (by decide)) hr (by decide)
        rw [show -((D * E) - ((2 * B) * F)) = r * t1 by rw [← e1]; omega, Int.mul_tdiv_cancel_left _ rn] at d1
        rw [show -(((4 * A) * F) - (D * D)) = r * t2 by rw [← e2]; omega, Int.mul_tdiv_cancel_left _ rn] at d2
        rw [show -((B * D) - ((2 * A) * E)) = r * t3 by rw [← e3]; omega, Int.mul_tdiv_cancel_left _ rn] at d3
        refine ⟨_, _, _, t1, t2, t3, d1, d2, d3, tu, Or.inr ⟨?_, form⟩⟩
        rintro ⟨-, z2, -⟩
        rw [z2, Int.mul_zero] at e2
        omega
  · have fs : (z0_firstSquare (z0_setMinors_a c e f) (z0_setMinors_c a d f) (z0_setMinors_f a b c)) = z0_setMinors_a c e f := by
      unfold z0_firstSquare
      rw [if_neg ca]
    have form := fa_form a b c d e f x y z u v w _ fs
    rcases fa_at ma with ⟨g, q⟩ | ⟨g, q1, q2, q3⟩ | ⟨q1, q2, r, hr, rr⟩
    · rw [if_neg q] at form
      exact Or.inl ⟨Or.inl g, form⟩
    · rw [if_pos q1, if_neg q2] at form
      rw [n1] at q3
      exact Or.inr (Or.inl ⟨Or.inl ⟨g, q3⟩, form⟩)
    · rw [if_pos q1, if_pos q2] at form
      rw [n1] at rr
      refine Or.inr (Or.inr ?_)
      have za : ¬ ((4 * C) * F) - (E * E) = 0 := fun q => ca ((iv_z ma).mpr q)
      have rn : r ≠ 0 := by
        intro q
        rw [q] at rr
        omega
      have r0 : ¬ z4_rootOf (-(z0_setMinors_a c e f)) = 0 := fun q => rn ((iv_z hr).mp q)
      have t0 : faT a b c d e f (z4_rootOf (-(z0_setMinors_a c e f))) = ((-(z0_setMinors_a c e f)) / z4_rootOf (-(z0_setMinors_a c e f)), (-(z0_setMinors_b b d e f)) / z4_rootOf (-(z0_setMinors_a c e f)), (-(z0_setMinors_d b c d e)) / z4_rootOf (-(z0_setMinors_a c e f))) := by
        unfold faT z3_setTurn
        rw [if_neg r0, if_neg ca]
      rw [if_neg r0, t0] at form
      obtain ⟨t1, t2, t3, e1, e2, e3, tu⟩ := turn_of1 dz rn rr
      have d1 := iv_div (iv_neg ma (by decide)) hr (by decide)
      have d2 := iv_div (iv_neg mb (by decide)) hr (by decide)
      have d3 := iv_div (iv_neg md (by decide)) hr (by decide)
      rw [show -(((4 * C) * F) - (E * E)) = r * t1 by rw [← e1]; omega, Int.mul_tdiv_cancel_left _ rn] at d1
      rw [show -((D * E) - ((2 * B) * F)) = r * t2 by rw [← e2]; omega, Int.mul_tdiv_cancel_left _ rn] at d2
      rw [show -((B * E) - ((2 * C) * D)) = r * t3 by rw [← e3]; omega, Int.mul_tdiv_cancel_left _ rn] at d3
      refine ⟨_, _, _, t1, t2, t3, d1, d2, d3, tu, Or.inr ⟨?_, form⟩⟩
      rintro ⟨z1, -, -⟩
      rw [z1, Int.mul_zero] at e1
      omega
