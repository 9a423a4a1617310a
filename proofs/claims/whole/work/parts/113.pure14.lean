/-! split -/
theorem fa5_at {m : Int64} {M : Int} (h : iv m M 2450000000000000000) : (0 < M ∧ ¬ m ≤ 0) ∨ (M < 0 ∧ m ≤ 0 ∧ ¬ z5_rootOf (-m) * z5_rootOf (-m) = -m ∧ ¬ ∃ k, -M = k * k) ∨ (m ≤ 0 ∧ z5_rootOf (-m) * z5_rootOf (-m) = -m ∧ ∃ r, iv (z5_rootOf (-m)) r 3000000000 ∧ r * r = -M) := by
  have hn := iv_neg h (by decide)
  by_cases c : M ≤ 0
  · have c' := (iv_le0 h).mpr c
    have hb := hn.2
    obtain ⟨q0, q1, q2, q3⟩ := root5 (v := -m) (by rw [hn.1]; omega) (by rw [hn.1]; omega)
    rw [hn.1] at q2 q3
    have hr : iv (z5_rootOf (-m)) (z5_rootOf (-m)).toInt 3000000000 := ⟨rfl, by omega⟩
    have hrr := iv_mul hr hr (by decide)
    have ri := root_iff q0 q2 q3
    by_cases e : z5_rootOf (-m) * z5_rootOf (-m) = -m
    · refine Or.inr (Or.inr ⟨c', e, _, hr, ?_⟩)
      have := congrArg Int64.toInt e
      rw [hrr.1, hn.1] at this
      exact this
    · have ne : ¬ ∃ k, -M = k * k := by
        intro q
        exact e (iv_eq hrr hn (ri.mpr q))
      refine Or.inr (Or.inl ⟨?_, c', e, ne⟩)
      rcases Int.lt_trichotomy M 0 with q | q | q
      · exact q
      · exact absurd ⟨0, by omega⟩ ne
      · omega
  · exact Or.inl ⟨by omega, fun q => c ((iv_le0 h).mp q)⟩
theorem rowsp_T {A B C D E F t1 t2 t3 x y z : Int} (h : rowsp (2 * A) (B - -t3) (D + -t2) (B + -t3) (2 * C) (E - -t1) (D - -t2) (E + -t1) (2 * F) x y z) : rowsp (2 * A) (B + t3) (D - t2) (B - t3) (2 * C) (E + t1) (D + t2) (E - t1) (2 * F) x y z := by
  rw [show B - -t3 = B + t3 by omega, show D + -t2 = D - t2 by omega, show B + -t3 = B - t3 by omega, show E - -t1 = E + t1 by omega, show D - -t2 = D + t2 by omega, show E + -t1 = E - t1 by omega] at h
  exact h
theorem rowsp_T2 {A B C D E F t1 t2 t3 x y z : Int} (h : rowsp (2 * A) (B + -t3) (D - -t2) (B - -t3) (2 * C) (E + -t1) (D + -t2) (E - -t1) (2 * F) x y z) : rowsp (2 * A) (B - t3) (D + t2) (B + t3) (2 * C) (E - t1) (D - t2) (E + t1) (2 * F) x y z := by
  rw [show B - -t3 = B + t3 by omega, show D + -t2 = D - t2 by omega, show B + -t3 = B - t3 by omega, show E - -t1 = E + t1 by omega, show D - -t2 = D + t2 by omega, show E + -t1 = E - t1 by omega] at h
  exact h
theorem mat_nzT {a b c d e f t1 t2 t3 : Int} (h : ¬ (a = 0 ∧ b = 0 ∧ c = 0 ∧ d = 0 ∧ e = 0 ∧ f = 0)) : ¬ ((2 * a = 0 ∧ b + t3 = 0 ∧ d - t2 = 0) ∧ (b - t3 = 0 ∧ 2 * c = 0 ∧ e + t1 = 0) ∧ (d + t2 = 0 ∧ e - t1 = 0 ∧ 2 * f = 0)) := by
  rintro ⟨⟨q1, q2, q3⟩, ⟨q4, q5, q6⟩, ⟨q7, q8, q9⟩⟩
  exact h ⟨by omega, by omega, by omega, by omega, by omega, by omega⟩
set_option maxHeartbeats 4000000 in
theorem sp_spec (pm : Int32) (gm gc : Nat → Int32) (fx fa ft fi : Nat → Int64) (c : Int32) {A B C D E F : Int} (h2 : n_ok (gm 2)) (bc : b500 gc 6 (gm 2)) (q : ¬ z2_has (gm 2) c = 0) (ha : iv (r6 gc c 0) A 500) (hb : iv (r6 gc c 1) B 500) (hc : iv (r6 gc c 2) C 500) (hd : iv (r6 gc c 3) D 500) (he : iv (r6 gc c 4) E 500) (hf : iv (r6 gc c 5) F 500) (dz : detz A B C D E F) (nz : ¬ (A = 0 ∧ B = 0 ∧ C = 0 ∧ D = 0 ∧ E = 0 ∧ F = 0)) (dd : z5_detOf gc fx fa c = 0) :
    ((0 < 4 * C * F - E * E ∨ 0 < 4 * A * F - D * D ∨ 0 < 4 * A * C - B * B) ∧ z5_split pm gm gc fx fa ft fi c = (0, 0, ft))
    ∨ (((4 * C * F - E * E < 0 ∧ ¬ ∃ k, E * E - 4 * C * F = k * k) ∨ (4 * A * F - D * D < 0 ∧ ¬ ∃ k, D * D - 4 * A * F = k * k) ∨ (4 * A * C - B * B < 0 ∧ ¬ ∃ k, B * B - 4 * A * C = k * k)) ∧ z5_split pm gm gc fx fa ft fi c = (4, 0, ft))
    ∨ ∃ t1 t2 t3 : Int, turn A B C D E F t1 t2 t3 ∧ (((t1 = 0 ∧ t2 = 0 ∧ t3 = 0) ∧ ∃ G, z5_split pm gm gc fx fa ft fi c = (1, 1, G) ∧ ∃ fz, tkw fz G (2 * A) (B - t3) (D + t2) (B + t3) (2 * C) (E - t1) (D - t2) (E + t1) (2 * F)) ∨ (¬ (t1 = 0 ∧ t2 = 0 ∧ t3 = 0) ∧ ∃ G, z5_split pm gm gc fx fa ft fi c = (2, 2, z5_arrange G) ∧ ∃ fz, tkw fz G (2 * A) (B - t3) (D + t2) (B + t3) (2 * C) (E - t1) (D - t2) (E + t1) (2 * F))) := by
  have ma : iv (z0_setMinors_a (r6 gc c 2) (r6 gc c 4) (r6 gc c 5)) (((4 * C) * F) - (E * E)) 2450000000000000000 := iv_up (iv_sub (iv_mul (iv_mul iv_4 hc (by decide)) hf (by decide)) (iv_mul he he (by decide)) (by decide)) (by decide)
  have mb : iv (z0_setMinors_b (r6 gc c 1) (r6 gc c 3) (r6 gc c 4) (r6 gc c 5)) ((D * E) - ((2 * B) * F)) 2450000000000000000 := iv_up (iv_sub (iv_mul hd he (by decide)) (iv_mul (iv_mul iv_2 hb (by decide)) hf (by decide)) (by decide)) (by decide)
  have mc : iv (z0_setMinors_c (r6 gc c 0) (r6 gc c 3) (r6 gc c 5)) (((4 * A) * F) - (D * D)) 2450000000000000000 := iv_up (iv_sub (iv_mul (iv_mul iv_4 ha (by decide)) hf (by decide)) (iv_mul hd hd (by decide)) (by decide)) (by decide)
  have md : iv (z0_setMinors_d (r6 gc c 1) (r6 gc c 2) (r6 gc c 3) (r6 gc c 4)) ((B * E) - ((2 * C) * D)) 2450000000000000000 := iv_up (iv_sub (iv_mul hb he (by decide)) (iv_mul (iv_mul iv_2 hc (by decide)) hd (by decide)) (by decide)) (by decide)
  have me : iv (z0_setMinors_e (r6 gc c 0) (r6 gc c 1) (r6 gc c 3) (r6 gc c 4)) ((B * D) - ((2 * A) * E)) 2450000000000000000 := iv_up (iv_sub (iv_mul hb hd (by decide)) (iv_mul (iv_mul iv_2 ha (by decide)) he (by decide)) (by decide)) (by decide)
  have mf : iv (z0_setMinors_f (r6 gc c 0) (r6 gc c 1) (r6 gc c 2)) (((4 * A) * C) - (B * B)) 2450000000000000000 := iv_up (iv_sub (iv_mul (iv_mul iv_4 ha (by decide)) hc (by decide)) (iv_mul hb hb (by decide)) (by decide)) (by decide)
  have n1 : -(4 * C * F - E * E) = E * E - 4 * C * F := by omega
  have n2 : -(4 * A * F - D * D) = D * D - 4 * A * F := by omega
  have n3 : -(4 * A * C - B * B) = B * B - 4 * A * C := by omega
  have F0 : z5_detOf_f3 gc fx fa c 0 = z0_setMinors_a (r6 gc c 2) (r6 gc c 4) (r6 gc c 5) := ac_0 gc fx fa c
  have F1 : z5_detOf_f3 gc fx fa c 1 = z0_setMinors_b (r6 gc c 1) (r6 gc c 3) (r6 gc c 4) (r6 gc c 5) := ac_1 gc fx fa c
  have F2 : z5_detOf_f3 gc fx fa c 2 = z0_setMinors_d (r6 gc c 1) (r6 gc c 2) (r6 gc c 3) (r6 gc c 4) := ac_2 gc fx fa c
  have F3 : z5_detOf_f3 gc fx fa c 3 = z0_setMinors_b (r6 gc c 1) (r6 gc c 3) (r6 gc c 4) (r6 gc c 5) := ac_3 gc fx fa c
  have F4 : z5_detOf_f3 gc fx fa c 4 = z0_setMinors_c (r6 gc c 0) (r6 gc c 3) (r6 gc c 5) := ac_4 gc fx fa c
  have F5 : z5_detOf_f3 gc fx fa c 5 = z0_setMinors_e (r6 gc c 0) (r6 gc c 1) (r6 gc c 3) (r6 gc c 4) := ac_5 gc fx fa c
  have F6 : z5_detOf_f3 gc fx fa c 6 = z0_setMinors_d (r6 gc c 1) (r6 gc c 2) (r6 gc c 3) (r6 gc c 4) := ac_6 gc fx fa c
  have F7 : z5_detOf_f3 gc fx fa c 7 = z0_setMinors_e (r6 gc c 0) (r6 gc c 1) (r6 gc c 3) (r6 gc c 4) := ac_7 gc fx fa c
  have F8 : z5_detOf_f3 gc fx fa c 8 = z0_setMinors_f (r6 gc c 0) (r6 gc c 1) (r6 gc c 2) := ac_8 gc fx fa c
  unfold z5_split
  rw [pu_is2 h2, if_neg q, if_pos dd, F0, F4, F8]
  by_cases ca : z0_setMinors_a (r6 gc c 2) (r6 gc c 4) (r6 gc c 5) = 0
  · by_cases cc : z0_setMinors_c (r6 gc c 0) (r6 gc c 3) (r6 gc c 5) = 0
    · by_cases cf : z0_setMinors_f (r6 gc c 0) (r6 gc c 1) (r6 gc c 2) = 0
      · refine Or.inr (Or.inr ⟨0, 0, 0, ?_, Or.inl ⟨⟨rfl, rfl, rfl⟩, ?_⟩⟩)
        · have za := (iv_z ma).mp ca
          have zc := (iv_z mc).mp cc
          have zf := (iv_z mf).mp cf
          exact turn_zero dz (by omega) (by omega) (by omega)
        · have za := (iv_z ma).mp ca
          have zc := (iv_z mc).mp cc
          have zf := (iv_z mf).mp cf
          have tu := turn_zero dz (by omega) (by omega) (by omega)
          obtain ⟨G, g1, g2⟩ := tl_z (z5_layConic_f2 gc fx c) (z5_detOf_f3 gc fx fa c) ft fi
            (n1 := 2 * A) (n2 := B - 0) (n3 := D + 0) (n4 := B + 0) (n5 := 2 * C) (n6 := E - 0) (n7 := D - 0) (n8 := E + 0) (n9 := 2 * F)
            (by rw [lc_0]; exact iv_up (iv_mul iv_2 ha (by decide)) (by decide))
            (by rw [lc_1, Int.sub_zero]; exact iv_up hb (by decide))
            (by rw [lc_2, Int.add_zero]; exact iv_up hd (by decide))
            (by rw [lc_3, Int.add_zero]; exact iv_up hb (by decide))
            (by rw [lc_4]; exact iv_up (iv_mul iv_2 hc (by decide)) (by decide))
            (by rw [lc_5, Int.sub_zero]; exact iv_up he (by decide))
            (by rw [lc_6, Int.sub_zero]; exact iv_up hd (by decide))
            (by rw [lc_7, Int.add_zero]; exact iv_up he (by decide))
            (by rw [lc_8]; exact iv_up (iv_mul iv_2 hf (by decide)) (by decide))
            (turn_rank tu dz) (mat_nz nz)
          refine ⟨G, ?_, _, g2⟩
          rw [if_pos ca, if_pos cc, if_pos cf]
          unfold z5_detOf_f2
          rw [g1]
      · have zf : ¬ ((4 * A) * C) - (B * B) = 0 := fun t => cf ((iv_z mf).mpr t)
        rcases fa5_at mf with ⟨g, q⟩ | ⟨g, q1, q2, q3⟩ | ⟨q1, q2, r, hr, rr⟩
        · exact Or.inl ⟨Or.inr (Or.inr (g)), by rw [if_pos ca, if_pos cc, if_neg cf, if_neg q]⟩
        · rw [n3] at q3
          exact Or.inr (Or.inl ⟨Or.inr (Or.inr (⟨g, q3⟩)), by rw [if_pos ca, if_pos cc, if_neg cf, if_pos q1, if_neg q2]⟩)
        · rw [n3] at rr
          refine Or.inr (Or.inr ?_)
          have rn : r ≠ 0 := by
            intro t
            rw [t] at rr
            omega
          have r0 : ¬ z5_rootOf (-(z0_setMinors_f (r6 gc c 0) (r6 gc c 1) (r6 gc c 2))) = 0 := fun t => rn ((iv_z hr).mp t)
          obtain ⟨t1, t2, t3, e1, e2, e3, tu⟩ := turn_of3 dz rn rr
          have d1 := iv_div (iv_neg md (by decide)) hr (by decide)
          have d2 := iv_div (iv_neg me (by decide)) hr (by decide)
          have d3 := iv_div (iv_neg mf (by decide)) hr (by decide)
          rw [show -((B * E) - ((2 * C) * D)) = r * t1 by rw [← e1]; omega, Int.mul_tdiv_cancel_left _ rn] at d1
          rw [show -((B * D) - ((2 * A) * E)) = r * t2 by rw [← e2]; omega, Int.mul_tdiv_cancel_left _ rn] at d2
          rw [show -(((4 * A) * C) - (B * B)) = r * t3 by rw [← e3]; omega, Int.mul_tdiv_cancel_left _ rn] at d3
          obtain ⟨G, g1, g2⟩ := tl_2 (z5_layConic_f2 gc fx c) (z5_detOf_f3 gc fx fa c) ft fi (z5_rootOf (-(z0_setMinors_f (r6 gc c 0) (r6 gc c 1) (r6 gc c 2)))) r0
            (n1 := 2 * A) (n2 := B - t3) (n3 := D + t2) (n4 := B + t3) (n5 := 2 * C) (n6 := E - t1) (n7 := D - t2) (n8 := E + t1) (n9 := 2 * F)
            (by rw [lc_0]; exact iv_up (iv_mul iv_2 ha (by decide)) (by decide))
            (by rw [lc_1, F8]; exact iv_up (iv_sub hb d3 (by decide)) (by decide))
            (by rw [lc_2, F5]; exact iv_up (iv_add hd d2 (by decide)) (by decide))
            (by rw [lc_3, F8]; exact iv_up (iv_add hb d3 (by decide)) (by decide))
            (by rw [lc_4]; exact iv_up (iv_mul iv_2 hc (by decide)) (by decide))
            (by rw [lc_5, F2]; exact iv_up (iv_sub he d1 (by decide)) (by decide))
            (by rw [lc_6, F5]; exact iv_up (iv_sub hd d2 (by decide)) (by decide))
            (by rw [lc_7, F2]; exact iv_up (iv_add he d1 (by decide)) (by decide))
            (by rw [lc_8]; exact iv_up (iv_mul iv_2 hf (by decide)) (by decide))
            (turn_rank tu dz) (mat_nz nz)
          refine ⟨t1, t2, t3, tu, Or.inr ⟨?_, G, ?_, _, g2⟩⟩
          · rintro ⟨z1, z2, z3⟩
            rw [z3, Int.mul_zero] at e3
            omega
          · rw [if_pos ca, if_pos cc, if_neg cf, if_pos q1, if_pos q2]
            unfold z5_split_v3 z5_split_v1 z5_split_v2 z5_detOf_f2
            rw [F8, g1]
    · have zc : ¬ ((4 * A) * F) - (D * D) = 0 := fun t => cc ((iv_z mc).mpr t)
      by_cases cf : z0_setMinors_f (r6 gc c 0) (r6 gc c 1) (r6 gc c 2) = 0
      · skip
        rcases fa5_at mc with ⟨g, q⟩ | ⟨g, q1, q2, q3⟩ | ⟨q1, q2, r, hr, rr⟩
        · exact Or.inl ⟨Or.inr (Or.inl (g)), by rw [if_pos ca, if_neg cc, if_pos cf, if_neg q]⟩
        · rw [n2] at q3
          exact Or.inr (Or.inl ⟨Or.inr (Or.inl (⟨g, q3⟩)), by rw [if_pos ca, if_neg cc, if_pos cf, if_pos q1, if_neg q2]⟩)
        · rw [n2] at rr
          refine Or.inr (Or.inr ?_)
          have rn : r ≠ 0 := by
            intro t
            rw [t] at rr
            omega
          have r0 : ¬ z5_rootOf (-(z0_setMinors_c (r6 gc c 0) (r6 gc c 3) (r6 gc c 5))) = 0 := fun t => rn ((iv_z hr).mp t)
          obtain ⟨t1, t2, t3, e1, e2, e3, tu⟩ := turn_of2 dz rn rr
          have d1 := iv_div (iv_neg mb (by decide)) hr (by decide)
          have d2 := iv_div (iv_neg mc (by decide)) hr (by decide)
          have d3 := iv_div (iv_neg me (by decide)) hr (by decide)
          rw [show -((D * E) - ((2 * B) * F)) = r * t1 by rw [← e1]; omega, Int.mul_tdiv_cancel_left _ rn] at d1
          rw [show -(((4 * A) * F) - (D * D)) = r * t2 by rw [← e2]; omega, Int.mul_tdiv_cancel_left _ rn] at d2
          rw [show -((B * D) - ((2 * A) * E)) = r * t3 by rw [← e3]; omega, Int.mul_tdiv_cancel_left _ rn] at d3
          obtain ⟨G, g1, g2⟩ := tl_1 (z5_layConic_f2 gc fx c) (z5_detOf_f3 gc fx fa c) ft fi (z5_rootOf (-(z0_setMinors_c (r6 gc c 0) (r6 gc c 3) (r6 gc c 5)))) r0
            (n1 := 2 * A) (n2 := B - t3) (n3 := D + t2) (n4 := B + t3) (n5 := 2 * C) (n6 := E - t1) (n7 := D - t2) (n8 := E + t1) (n9 := 2 * F)
            (by rw [lc_0]; exact iv_up (iv_mul iv_2 ha (by decide)) (by decide))
            (by rw [lc_1, F7]; exact iv_up (iv_sub hb d3 (by decide)) (by decide))
            (by rw [lc_2, F4]; exact iv_up (iv_add hd d2 (by decide)) (by decide))
            (by rw [lc_3, F7]; exact iv_up (iv_add hb d3 (by decide)) (by decide))
            (by rw [lc_4]; exact iv_up (iv_mul iv_2 hc (by decide)) (by decide))
            (by rw [lc_5, F1]; exact iv_up (iv_sub he d1 (by decide)) (by decide))
            (by rw [lc_6, F4]; exact iv_up (iv_sub hd d2 (by decide)) (by decide))
            (by rw [lc_7, F1]; exact iv_up (iv_add he d1 (by decide)) (by decide))
            (by rw [lc_8]; exact iv_up (iv_mul iv_2 hf (by decide)) (by decide))
            (turn_rank tu dz) (mat_nz nz)
          refine ⟨t1, t2, t3, tu, Or.inr ⟨?_, G, ?_, _, g2⟩⟩
          · rintro ⟨z1, z2, z3⟩
            rw [z2, Int.mul_zero] at e2
            omega
          · rw [if_pos ca, if_neg cc, if_pos cf, if_pos q1, if_pos q2]
            unfold z5_split_v6 z5_split_v4 z5_split_v5 z5_detOf_f2
            rw [F4, g1]
      · have zf : ¬ ((4 * A) * C) - (B * B) = 0 := fun t => cf ((iv_z mf).mpr t)
        rcases fa5_at mf with ⟨g, q⟩ | ⟨g, q1, q2, q3⟩ | ⟨q1, q2, r, hr, rr⟩
        · exact Or.inl ⟨Or.inr (Or.inr (g)), by rw [if_pos ca, if_neg cc, if_neg cf, if_neg q]⟩
        · rw [n3] at q3
          exact Or.inr (Or.inl ⟨Or.inr (Or.inr (⟨g, q3⟩)), by rw [if_pos ca, if_neg cc, if_neg cf, if_pos q1, if_neg q2]⟩)
        · rw [n3] at rr
          refine Or.inr (Or.inr ?_)
          have rn : r ≠ 0 := by
            intro t
            rw [t] at rr
            omega
          have r0 : ¬ z5_rootOf (-(z0_setMinors_f (r6 gc c 0) (r6 gc c 1) (r6 gc c 2))) = 0 := fun t => rn ((iv_z hr).mp t)
          obtain ⟨t1, t2, t3, e1, e2, e3, tu⟩ := turn_of3 dz rn rr
          have d1 := iv_div (iv_neg md (by decide)) hr (by decide)
          have d2 := iv_div (iv_neg me (by decide)) hr (by decide)
          have d3 := iv_div (iv_neg mf (by decide)) hr (by decide)
          rw [show -((B * E) - ((2 * C) * D)) = r * t1 by rw [← e1]; omega, Int.mul_tdiv_cancel_left _ rn] at d1
          rw [show -((B * D) - ((2 * A) * E)) = r * t2 by rw [← e2]; omega, Int.mul_tdiv_cancel_left _ rn] at d2
          rw [show -(((4 * A) * C) - (B * B)) = r * t3 by rw [← e3]; omega, Int.mul_tdiv_cancel_left _ rn] at d3
          obtain ⟨G, g1, g2⟩ := tl_2 (z5_layConic_f2 gc fx c) (z5_detOf_f3 gc fx fa c) ft fi (z5_rootOf (-(z0_setMinors_f (r6 gc c 0) (r6 gc c 1) (r6 gc c 2)))) r0
            (n1 := 2 * A) (n2 := B - t3) (n3 := D + t2) (n4 := B + t3) (n5 := 2 * C) (n6 := E - t1) (n7 := D - t2) (n8 := E + t1) (n9 := 2 * F)
            (by rw [lc_0]; exact iv_up (iv_mul iv_2 ha (by decide)) (by decide))
            (by rw [lc_1, F8]; exact iv_up (iv_sub hb d3 (by decide)) (by decide))
            (by rw [lc_2, F5]; exact iv_up (iv_add hd d2 (by decide)) (by decide))
            (by rw [lc_3, F8]; exact iv_up (iv_add hb d3 (by decide)) (by decide))
            (by rw [lc_4]; exact iv_up (iv_mul iv_2 hc (by decide)) (by decide))
            (by rw [lc_5, F2]; exact iv_up (iv_sub he d1 (by decide)) (by decide))
            (by rw [lc_6, F5]; exact iv_up (iv_sub hd d2 (by decide)) (by decide))
            (by rw [lc_7, F2]; exact iv_up (iv_add he d1 (by decide)) (by decide))
            (by rw [lc_8]; exact iv_up (iv_mul iv_2 hf (by decide)) (by decide))
            (turn_rank tu dz) (mat_nz nz)
          refine ⟨t1, t2, t3, tu, Or.inr ⟨?_, G, ?_, _, g2⟩⟩
          · rintro ⟨z1, z2, z3⟩
            rw [z3, Int.mul_zero] at e3
            omega
          · rw [if_pos ca, if_neg cc, if_neg cf, if_pos q1, if_pos q2]
            unfold z5_split_v3 z5_split_v1 z5_split_v2 z5_detOf_f2
            rw [F8, g1]
  · have za : ¬ ((4 * C) * F) - (E * E) = 0 := fun t => ca ((iv_z ma).mpr t)
    by_cases cc : z0_setMinors_c (r6 gc c 0) (r6 gc c 3) (r6 gc c 5) = 0
    · by_cases cf : z0_setMinors_f (r6 gc c 0) (r6 gc c 1) (r6 gc c 2) = 0
      · skip
        rcases fa5_at ma with ⟨g, q⟩ | ⟨g, q1, q2, q3⟩ | ⟨q1, q2, r, hr, rr⟩
        · exact Or.inl ⟨Or.inl (g), by rw [if_neg ca, if_pos cc, if_pos cf, if_neg q]⟩
        · rw [n1] at q3
          exact Or.inr (Or.inl ⟨Or.inl (⟨g, q3⟩), by rw [if_neg ca, if_pos cc, if_pos cf, if_pos q1, if_neg q2]⟩)
        · rw [n1] at rr
          refine Or.inr (Or.inr ?_)
          have rn : r ≠ 0 := by
            intro t
            rw [t] at rr
            omega
          have r0 : ¬ z5_rootOf (-(z0_setMinors_a (r6 gc c 2) (r6 gc c 4) (r6 gc c 5))) = 0 := fun t => rn ((iv_z hr).mp t)
          obtain ⟨t1, t2, t3, e1, e2, e3, tu⟩ := turn_of1 dz rn rr
          have d1 := iv_div (iv_neg ma (by decide)) hr (by decide)
          have d2 := iv_div (iv_neg mb (by decide)) hr (by decide)
          have d3 := iv_div (iv_neg md (by decide)) hr (by decide)
          rw [show -(((4 * C) * F) - (E * E)) = r * t1 by rw [← e1]; omega, Int.mul_tdiv_cancel_left _ rn] at d1
          rw [show -((D * E) - ((2 * B) * F)) = r * t2 by rw [← e2]; omega, Int.mul_tdiv_cancel_left _ rn] at d2
          rw [show -((B * E) - ((2 * C) * D)) = r * t3 by rw [← e3]; omega, Int.mul_tdiv_cancel_left _ rn] at d3
          obtain ⟨G, g1, g2⟩ := tl_0 (z5_layConic_f2 gc fx c) (z5_detOf_f3 gc fx fa c) ft fi (z5_rootOf (-(z0_setMinors_a (r6 gc c 2) (r6 gc c 4) (r6 gc c 5)))) r0
            (n1 := 2 * A) (n2 := B - t3) (n3 := D + t2) (n4 := B + t3) (n5 := 2 * C) (n6 := E - t1) (n7 := D - t2) (n8 := E + t1) (n9 := 2 * F)
            (by rw [lc_0]; exact iv_up (iv_mul iv_2 ha (by decide)) (by decide))
            (by rw [lc_1, F6]; exact iv_up (iv_sub hb d3 (by decide)) (by decide))
            (by rw [lc_2, F3]; exact iv_up (iv_add hd d2 (by decide)) (by decide))
            (by rw [lc_3, F6]; exact iv_up (iv_add hb d3 (by decide)) (by decide))
            (by rw [lc_4]; exact iv_up (iv_mul iv_2 hc (by decide)) (by decide))
            (by rw [lc_5, F0]; exact iv_up (iv_sub he d1 (by decide)) (by decide))
            (by rw [lc_6, F3]; exact iv_up (iv_sub hd d2 (by decide)) (by decide))
            (by rw [lc_7, F0]; exact iv_up (iv_add he d1 (by decide)) (by decide))
            (by rw [lc_8]; exact iv_up (iv_mul iv_2 hf (by decide)) (by decide))
            (turn_rank tu dz) (mat_nz nz)
          refine ⟨t1, t2, t3, tu, Or.inr ⟨?_, G, ?_, _, g2⟩⟩
          · rintro ⟨z1, z2, z3⟩
            rw [z1, Int.mul_zero] at e1
            omega
          · rw [if_neg ca, if_pos cc, if_pos cf, if_pos q1, if_pos q2]
            unfold z5_split_v9 z5_split_v7 z5_split_v8 z5_detOf_f2
            rw [F0, g1]
      · have zf : ¬ ((4 * A) * C) - (B * B) = 0 := fun t => cf ((iv_z mf).mpr t)
        rcases fa5_at mf with ⟨g, q⟩ | ⟨g, q1, q2, q3⟩ | ⟨q1, q2, r, hr, rr⟩
        · exact Or.inl ⟨Or.inr (Or.inr (g)), by rw [if_neg ca, if_pos cc, if_neg cf, if_neg q]⟩
        · rw [n3] at q3
          exact Or.inr (Or.inl ⟨Or.inr (Or.inr (⟨g, q3⟩)), by rw [if_neg ca, if_pos cc, if_neg cf, if_pos q1, if_neg q2]⟩)
        · rw [n3] at rr
          refine Or.inr (Or.inr ?_)
          have rn : r ≠ 0 := by
            intro t
            rw [t] at rr
            omega
          have r0 : ¬ z5_rootOf (-(z0_setMinors_f (r6 gc c 0) (r6 gc c 1) (r6 gc c 2))) = 0 := fun t => rn ((iv_z hr).mp t)
          obtain ⟨t1, t2, t3, e1, e2, e3, tu⟩ := turn_of3 dz rn rr
          have d1 := iv_div (iv_neg md (by decide)) hr (by decide)
          have d2 := iv_div (iv_neg me (by decide)) hr (by decide)
          have d3 := iv_div (iv_neg mf (by decide)) hr (by decide)
          rw [show -((B * E) - ((2 * C) * D)) = r * t1 by rw [← e1]; omega, Int.mul_tdiv_cancel_left _ rn] at d1
          rw [show -((B * D) - ((2 * A) * E)) = r * t2 by rw [← e2]; omega, Int.mul_tdiv_cancel_left _ rn] at d2
          rw [show -(((4 * A) * C) - (B * B)) = r * t3 by rw [← e3]; omega, Int.mul_tdiv_cancel_left _ rn] at d3
          obtain ⟨G, g1, g2⟩ := tl_2 (z5_layConic_f2 gc fx c) (z5_detOf_f3 gc fx fa c) ft fi (z5_rootOf (-(z0_setMinors_f (r6 gc c 0) (r6 gc c 1) (r6 gc c 2)))) r0
            (n1 := 2 * A) (n2 := B - t3) (n3 := D + t2) (n4 := B + t3) (n5 := 2 * C) (n6 := E - t1) (n7 := D - t2) (n8 := E + t1) (n9 := 2 * F)
            (by rw [lc_0]; exact iv_up (iv_mul iv_2 ha (by decide)) (by decide))
            (by rw [lc_1, F8]; exact iv_up (iv_sub hb d3 (by decide)) (by decide))
            (by rw [lc_2, F5]; exact iv_up (iv_add hd d2 (by decide)) (by decide))
            (by rw [lc_3, F8]; exact iv_up (iv_add hb d3 (by decide)) (by decide))
            (by rw [lc_4]; exact iv_up (iv_mul iv_2 hc (by decide)) (by decide))
            (by rw [lc_5, F2]; exact iv_up (iv_sub he d1 (by decide)) (by decide))
            (by rw [lc_6, F5]; exact iv_up (iv_sub hd d2 (by decide)) (by decide))
            (by rw [lc_7, F2]; exact iv_up (iv_add he d1 (by decide)) (by decide))
            (by rw [lc_8]; exact iv_up (iv_mul iv_2 hf (by decide)) (by decide))
            (turn_rank tu dz) (mat_nz nz)
          refine ⟨t1, t2, t3, tu, Or.inr ⟨?_, G, ?_, _, g2⟩⟩
          · rintro ⟨z1, z2, z3⟩
            rw [z3, Int.mul_zero] at e3
            omega
          · rw [if_neg ca, if_pos cc, if_neg cf, if_pos q1, if_pos q2]
            unfold z5_split_v3 z5_split_v1 z5_split_v2 z5_detOf_f2
            rw [F8, g1]
    · have zc : ¬ ((4 * A) * F) - (D * D) = 0 := fun t => cc ((iv_z mc).mpr t)
      by_cases cf : z0_setMinors_f (r6 gc c 0) (r6 gc c 1) (r6 gc c 2) = 0
      · skip
        rcases fa5_at mc with ⟨g, q⟩ | ⟨g, q1, q2, q3⟩ | ⟨q1, q2, r, hr, rr⟩
        · exact Or.inl ⟨Or.inr (Or.inl (g)), by rw [if_neg ca, if_neg cc, if_pos cf, if_neg q]⟩
        · rw [n2] at q3
          exact Or.inr (Or.inl ⟨Or.inr (Or.inl (⟨g, q3⟩)), by rw [if_neg ca, if_neg cc, if_pos cf, if_pos q1, if_neg q2]⟩)
        · rw [n2] at rr
          refine Or.inr (Or.inr ?_)
          have rn : r ≠ 0 := by
            intro t
            rw [t] at rr
            omega
          have r0 : ¬ z5_rootOf (-(z0_setMinors_c (r6 gc c 0) (r6 gc c 3) (r6 gc c 5))) = 0 := fun t => rn ((iv_z hr).mp t)
          obtain ⟨t1, t2, t3, e1, e2, e3, tu⟩ := turn_of2 dz rn rr
          have d1 := iv_div (iv_neg mb (by decide)) hr (by decide)
          have d2 := iv_div (iv_neg mc (by decide)) hr (by decide)
          have d3 := iv_div (iv_neg me (by decide)) hr (by decide)
          rw [show -((D * E) - ((2 * B) * F)) = r * t1 by rw [← e1]; omega, Int.mul_tdiv_cancel_left _ rn] at d1
          rw [show -(((4 * A) * F) - (D * D)) = r * t2 by rw [← e2]; omega, Int.mul_tdiv_cancel_left _ rn] at d2
          rw [show -((B * D) - ((2 * A) * E)) = r * t3 by rw [← e3]; omega, Int.mul_tdiv_cancel_left _ rn] at d3
          obtain ⟨G, g1, g2⟩ := tl_1 (z5_layConic_f2 gc fx c) (z5_detOf_f3 gc fx fa c) ft fi (z5_rootOf (-(z0_setMinors_c (r6 gc c 0) (r6 gc c 3) (r6 gc c 5)))) r0
            (n1 := 2 * A) (n2 := B - t3) (n3 := D + t2) (n4 := B + t3) (n5 := 2 * C) (n6 := E - t1) (n7 := D - t2) (n8 := E + t1) (n9 := 2 * F)
            (by rw [lc_0]; exact iv_up (iv_mul iv_2 ha (by decide)) (by decide))
            (by rw [lc_1, F7]; exact iv_up (iv_sub hb d3 (by decide)) (by decide))
            (by rw [lc_2, F4]; exact iv_up (iv_add hd d2 (by decide)) (by decide))
            (by rw [lc_3, F7]; exact iv_up (iv_add hb d3 (by decide)) (by decide))
            (by rw [lc_4]; exact iv_up (iv_mul iv_2 hc (by decide)) (by decide))
            (by rw [lc_5, F1]; exact iv_up (iv_sub he d1 (by decide)) (by decide))
            (by rw [lc_6, F4]; exact iv_up (iv_sub hd d2 (by decide)) (by decide))
            (by rw [lc_7, F1]; exact iv_up (iv_add he d1 (by decide)) (by decide))
            (by rw [lc_8]; exact iv_up (iv_mul iv_2 hf (by decide)) (by decide))
            (turn_rank tu dz) (mat_nz nz)
          refine ⟨t1, t2, t3, tu, Or.inr ⟨?_, G, ?_, _, g2⟩⟩
          · rintro ⟨z1, z2, z3⟩
            rw [z2, Int.mul_zero] at e2
            omega
          · rw [if_neg ca, if_neg cc, if_pos cf, if_pos q1, if_pos q2]
            unfold z5_split_v6 z5_split_v4 z5_split_v5 z5_detOf_f2
            rw [F4, g1]
      · have zf : ¬ ((4 * A) * C) - (B * B) = 0 := fun t => cf ((iv_z mf).mpr t)
        rcases fa5_at mf with ⟨g, q⟩ | ⟨g, q1, q2, q3⟩ | ⟨q1, q2, r, hr, rr⟩
        · exact Or.inl ⟨Or.inr (Or.inr (g)), by rw [if_neg ca, if_neg cc, if_neg cf, if_neg q]⟩
        · rw [n3] at q3
          exact Or.inr (Or.inl ⟨Or.inr (Or.inr (⟨g, q3⟩)), by rw [if_neg ca, if_neg cc, if_neg cf, if_pos q1, if_neg q2]⟩)
        · rw [n3] at rr
          refine Or.inr (Or.inr ?_)
          have rn : r ≠ 0 := by
            intro t
            rw [t] at rr
            omega
          have r0 : ¬ z5_rootOf (-(z0_setMinors_f (r6 gc c 0) (r6 gc c 1) (r6 gc c 2))) = 0 := fun t => rn ((iv_z hr).mp t)
          obtain ⟨t1, t2, t3, e1, e2, e3, tu⟩ := turn_of3 dz rn rr
          have d1 := iv_div (iv_neg md (by decide)) hr (by decide)
          have d2 := iv_div (iv_neg me (by decide)) hr (by decide)
          have d3 := iv_div (iv_neg mf (by decide)) hr (by decide)
          rw [show -((B * E) - ((2 * C) * D)) = r * t1 by rw [← e1]; omega, Int.mul_tdiv_cancel_left _ rn] at d1
          rw [show -((B * D) - ((2 * A) * E)) = r * t2 by rw [← e2]; omega, Int.mul_tdiv_cancel_left _ rn] at d2
          rw [show -(((4 * A) * C) - (B * B)) = r * t3 by rw [← e3]; omega, Int.mul_tdiv_cancel_left _ rn] at d3
          obtain ⟨G, g1, g2⟩ := tl_2 (z5_layConic_f2 gc fx c) (z5_detOf_f3 gc fx fa c) ft fi (z5_rootOf (-(z0_setMinors_f (r6 gc c 0) (r6 gc c 1) (r6 gc c 2)))) r0
            (n1 := 2 * A) (n2 := B - t3) (n3 := D + t2) (n4 := B + t3) (n5 := 2 * C) (n6 := E - t1) (n7 := D - t2) (n8 := E + t1) (n9 := 2 * F)
            (by rw [lc_0]; exact iv_up (iv_mul iv_2 ha (by decide)) (by decide))
            (by rw [lc_1, F8]; exact iv_up (iv_sub hb d3 (by decide)) (by decide))
            (by rw [lc_2, F5]; exact iv_up (iv_add hd d2 (by decide)) (by decide))
            (by rw [lc_3, F8]; exact iv_up (iv_add hb d3 (by decide)) (by decide))
            (by rw [lc_4]; exact iv_up (iv_mul iv_2 hc (by decide)) (by decide))
            (by rw [lc_5, F2]; exact iv_up (iv_sub he d1 (by decide)) (by decide))
            (by rw [lc_6, F5]; exact iv_up (iv_sub hd d2 (by decide)) (by decide))
            (by rw [lc_7, F2]; exact iv_up (iv_add he d1 (by decide)) (by decide))
            (by rw [lc_8]; exact iv_up (iv_mul iv_2 hf (by decide)) (by decide))
            (turn_rank tu dz) (mat_nz nz)
          refine ⟨t1, t2, t3, tu, Or.inr ⟨?_, G, ?_, _, g2⟩⟩
          · rintro ⟨z1, z2, z3⟩
            rw [z3, Int.mul_zero] at e3
            omega
          · rw [if_neg ca, if_neg cc, if_neg cf, if_pos q1, if_pos q2]
            unfold z5_split_v3 z5_split_v1 z5_split_v2 z5_detOf_f2
            rw [F8, g1]

/-- a turn leaves no minor of the diagonal above 0, and makes each a square times -1 -/
theorem turn_np {A B C D E F t1 t2 t3 : Int} (h : turn A B C D E F t1 t2 t3) : ¬ (0 < 4 * C * F - E * E ∨ 0 < 4 * A * F - D * D ∨ 0 < 4 * A * C - B * B) := by
  obtain ⟨h11, h12, h22, h13, h23, h33⟩ := h
  have s1 := sq_nn t1
  have s2 := sq_nn t2
  have s3 := sq_nn t3
  omega
theorem turn_ns {A B C D E F t1 t2 t3 : Int} (h : turn A B C D E F t1 t2 t3) : ¬ ((4 * C * F - E * E < 0 ∧ ¬ ∃ k, E * E - 4 * C * F = k * k) ∨ (4 * A * F - D * D < 0 ∧ ¬ ∃ k, D * D - 4 * A * F = k * k) ∨ (4 * A * C - B * B < 0 ∧ ¬ ∃ k, B * B - 4 * A * C = k * k)) := by
  obtain ⟨h11, h12, h22, h13, h23, h33⟩ := h
  rintro (⟨_, n⟩ | ⟨_, n⟩ | ⟨_, n⟩)
  · exact n ⟨t1, h11.symm⟩
  · exact n ⟨t2, h22.symm⟩
  · exact n ⟨t3, h33.symm⟩
theorem neg_pos_no {p q s : Int} (h : p * q = s * s) (hp : 0 < p) (hq : q < 0) : False := by
  have h1 := sq_nn s
  have h2 := Int.mul_neg_of_pos_of_neg hp hq
  omega
theorem sgn_mix {A B C D E F : Int} (dz : detz A B C D E F) (h : 0 < 4 * C * F - E * E ∨ 0 < 4 * A * F - D * D ∨ 0 < 4 * A * C - B * B) (k : 4 * C * F - E * E < 0 ∨ 4 * A * F - D * D < 0 ∨ 4 * A * C - B * B < 0) : False := by
  have dz : 4 * A * C * F + B * D * E - A * E * E - C * D * D - F * B * B = 0 := dz
  have e1 : (4 * C * F - E * E) * (4 * A * F - D * D) = (D * E - 2 * B * F) * (D * E - 2 * B * F) := by grind
  have e2 : (4 * C * F - E * E) * (4 * A * C - B * B) = (B * E - 2 * C * D) * (B * E - 2 * C * D) := by grind
  have e3 : (4 * A * F - D * D) * (4 * A * C - B * B) = (B * D - 2 * A * E) * (B * D - 2 * A * E) := by grind
  have e1' := (Int.mul_comm _ _).trans e1
  have e2' := (Int.mul_comm _ _).trans e2
  have e3' := (Int.mul_comm _ _).trans e3
  rcases h with h | h | h <;> rcases k with k | k | k
  · omega
  · exact neg_pos_no e1 h k
  · exact neg_pos_no e2 h k
  · exact neg_pos_no e1' h k
  · omega
  · exact neg_pos_no e3 h k
  · exact neg_pos_no e2' h k
  · exact neg_pos_no e3' h k
  · omega
