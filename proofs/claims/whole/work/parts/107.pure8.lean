/-! The methods that only tell. -/
theorem pu_count (gm : Nat → Int32) (s : Int32) : z4_count (gm 0) (gm 1) (gm 2) s = z5_count gm s := rfl
theorem pu_in2 {k : Int32} : z5_in k.toInt64 0 2 = if k < 0 then 0 else if k < 3 then 1 else 0 := by
  unfold z5_in
  have z0 : (0 : Int32).toInt64 = 0 := by decide
  have z2 : (2 : Int32).toInt64 = 2 := by decide
  have e1 : (k.toInt64 < 0) ↔ k < 0 := by rw [← z0]; exact pu_64lt
  have e2 : (2 < k.toInt64) ↔ ¬ k < 3 := by
    rw [← z2, pu_64lt, Int32.lt_iff_toInt_lt, Int32.lt_iff_toInt_lt]
    have a2 : (2 : Int32).toInt = 2 := by decide
    have a3 : (3 : Int32).toInt = 3 := by decide
    rw [a2, a3]
    omega
  by_cases c1 : k < 0
  · rw [if_pos c1, if_pos (e1.mpr c1)]
  · rw [if_neg c1, if_neg (fun q => c1 (e1.mp q))]
    by_cases c2 : k < 3
    · rw [if_pos c2, if_neg (fun q => e2.mp q c2)]
    · rw [if_neg c2, if_pos (e2.mpr c2)]
theorem pu_in5 {k : Int32} : z5_in k.toInt64 0 5 = if k < 0 then 0 else if k < 6 then 1 else 0 := by
  unfold z5_in
  have z0 : (0 : Int32).toInt64 = 0 := by decide
  have z2 : (5 : Int32).toInt64 = 5 := by decide
  have e1 : (k.toInt64 < 0) ↔ k < 0 := by rw [← z0]; exact pu_64lt
  have e2 : (5 < k.toInt64) ↔ ¬ k < 6 := by
    rw [← z2, pu_64lt, Int32.lt_iff_toInt_lt, Int32.lt_iff_toInt_lt]
    have a2 : (5 : Int32).toInt = 5 := by decide
    have a3 : (6 : Int32).toInt = 6 := by decide
    rw [a2, a3]
    omega
  by_cases c1 : k < 0
  · rw [if_pos c1, if_pos (e1.mpr c1)]
  · rw [if_neg c1, if_neg (fun q => c1 (e1.mp q))]
    by_cases c2 : k < 6
    · rw [if_pos c2, if_neg (fun q => e2.mp q c2)]
    · rw [if_neg c2, if_pos (e2.mpr c2)]
theorem pu_in3 {k : Int32} : z5_in k.toInt64 0 3 = if k < 0 then 0 else if k ≤ 3 then 1 else 0 := by
  unfold z5_in
  have z0 : (0 : Int32).toInt64 = 0 := by decide
  have z2 : (3 : Int32).toInt64 = 3 := by decide
  have e1 : (k.toInt64 < 0) ↔ k < 0 := by rw [← z0]; exact pu_64lt
  have e2 : (3 < k.toInt64) ↔ ¬ k ≤ 3 := by
    rw [← z2, pu_64lt, Int32.lt_iff_toInt_lt, Int32.le_iff_toInt_le]
    omega
  by_cases c1 : k < 0
  · rw [if_pos c1, if_pos (e1.mpr c1)]
  · rw [if_neg c1, if_neg (fun q => c1 (e1.mp q))]
    by_cases c2 : k ≤ 3
    · rw [if_pos c2, if_neg (fun q => e2.mp q c2)]
    · rw [if_neg c2, if_pos (e2.mpr c2)]
theorem pu_number (gm gp gl gc : Nat → Int32) (s i k : Int32) (h0 : n_ok (gm 0)) (h1 : n_ok (gm 1)) (h2 : n_ok (gm 2)) : z4_number (gm 0) gp (gm 1) gl (gm 2) gc s i k = z5_number gm gp gl gc s i k := by
  unfold z4_number z5_number
  rw [pu_is0 h0, pu_is1 h1, pu_is2 h2, pu_in2, pu_in5]
  by_cases s0 : s = 0
  · rw [if_pos s0, if_pos s0]
    by_cases q : z2_has (gm 0) i = 0
    · rw [if_pos q, if_pos q]
    · rw [if_neg q, if_neg q]
      by_cases c1 : k < 0
      · rw [if_pos c1, if_pos c1, if_pos rfl]
      · rw [if_neg c1, if_neg c1]
        by_cases c2 : k < 3
        · rw [if_pos c2, if_pos c2, if_neg pu_10]
          exact pu_get3 q c1 (Int32.not_le.mpr c2)
        · rw [if_neg c2, if_neg c2, if_pos rfl]
  rw [if_neg s0, if_neg s0]
  by_cases s1 : s = 1
  · rw [if_pos s1, if_pos s1]
    by_cases q : z2_has (gm 1) i = 0
    · rw [if_pos q, if_pos q]
    · rw [if_neg q, if_neg q]
      by_cases c1 : k < 0
      · rw [if_pos c1, if_pos c1, if_pos rfl]
      · rw [if_neg c1, if_neg c1]
        by_cases c2 : k < 3
        · rw [if_pos c2, if_pos c2, if_neg pu_10]
          exact pu_get3 q c1 (Int32.not_le.mpr c2)
        · rw [if_neg c2, if_neg c2, if_pos rfl]
  rw [if_neg s1, if_neg s1]
  by_cases s2 : s = 2
  · rw [if_pos s2, if_pos s2]
    by_cases q : z2_has (gm 2) i = 0
    · rw [if_pos q, if_pos q]
    · rw [if_neg q, if_neg q]
      by_cases c1 : k < 0
      · rw [if_pos c1, if_pos c1, if_pos rfl]
      · rw [if_neg c1, if_neg c1]
        by_cases c2 : k < 6
        · rw [if_pos c2, if_pos c2, if_neg pu_10]
          exact pu_get6 q c1 (Int32.not_le.mpr c2)
        · rw [if_neg c2, if_neg c2, if_pos rfl]
  rw [if_neg s2, if_neg s2]
theorem pu_on (gm gp gl gc : Nat → Int32) (s i p : Int32) (h0 : n_ok (gm 0)) (h1 : n_ok (gm 1)) (h2 : n_ok (gm 2)) : z4_on (gm 0) gp (gm 1) gl (gm 2) gc s i p = z5_on gm gp gl gc s i p := by
  unfold z4_on z5_on
  rw [pu_is0 h0, pu_is1 h1, pu_is2 h2]
  by_cases s1 : s = 1
  · rw [if_pos s1, if_pos s1]
    by_cases q : z2_has (gm 1) i = 0
    · rw [if_pos q, if_pos q]
    · rw [if_neg q, if_neg q]
      by_cases t : z2_has (gm 0) p = 0
      · rw [if_pos t, if_pos t]
      · rw [if_neg t, if_neg t]
        have e : z4_on_v1 (gm 0) gp (gm 1) gl i p = z5_on_v2 gp gl i p := by
          simp only [z4_on_v1, z5_on_v2, z5_on_v1, z3_times, rd3_x q, rd3_y q, rd3_z q, rd3_x t, rd3_y t, rd3_z t, r3_0, r6_0, r3_k, r6_k, rn_0, rn_1, Int64.zero_add]
        rw [e]
  rw [if_neg s1, if_neg s1]
  by_cases s2 : s = 2
  · rw [if_pos s2, if_pos s2]
    by_cases q : z2_has (gm 2) i = 0
    · rw [if_pos q, if_pos q]
    · rw [if_neg q, if_neg q]
      by_cases t : z2_has (gm 0) p = 0
      · rw [if_pos t, if_pos t]
      · rw [if_neg t, if_neg t]
        have e : z4_on_v2 (gm 0) gp (gm 2) gc i p = z5_valueOf gc gp i p := by
          simp only [z4_on_v2, z5_valueOf, z5_valueOf_v1, z5_valueAt, z0_valueAt, rd6_a q, rd6_b q, rd6_c q, rd6_d q, rd6_e q, rd6_f q, rd3_x t, rd3_y t, rd3_z t, r3_0, r6_0, r3_k, r6_k, rn_0, rn_1]
        rw [e]
  rw [if_neg s2, if_neg s2]
theorem pu_told (gm gp gl gc : Nat → Int32) (fx fa : Nat → Int64) (c t : Int32) (h2 : n_ok (gm 2)) (bc : b500 gc 6 (gm 2)) : z4_told (gm 2) gc c t = z5_told gm gc fx fa c t := by
  unfold z4_told z5_told
  rw [pu_is2 h2]
  by_cases q : z2_has (gm 2) c = 0
  · rw [if_pos q, if_pos q]
  rw [if_neg q, if_neg q]
  rw [pu_det gc fx fa c bc h2 q, pu_disc]
  simp only [z4_told_v1, rd6_a q, rd6_b q, rd6_c q, rd6_d q, rd6_e q, rd6_f q]
theorem pu_z32 {x : Int32} : x.toInt64 = 0 ↔ x = 0 := by
  rw [pu_nez, i32_64]
  have z0 : (0 : Int32).toInt = 0 := by decide
  rw [← z0, Int32.toInt_inj]
theorem r6_z (g : Nat → Int32) (i k : Int32) : r6 g i k = 0 ↔ g ((6 * i + k).toNatClampNeg) = 0 := pu_z32
theorem r6_z0 (g : Nat → Int32) (i : Int32) : r6 g i 0 = 0 ↔ g ((6 * i).toNatClampNeg) = 0 := by
  rw [← r6_0]
  exact pu_z32
theorem pu_add32 {x y : Int32} (hx : x.toInt.natAbs ≤ 500) (hy : y.toInt.natAbs ≤ 500) : (x + y).toInt64 = x.toInt64 + y.toInt64 := by
  apply Int64.toInt_inj.mp
  rw [i32_64, Int32.toInt_add, Int64.toInt_add, i32_64, i32_64]
  have e1 : (x.toInt + y.toInt).bmod (2 ^ 32) = x.toInt + y.toInt := Int.bmod_eq_of_le (by omega) (by omega)
  have e2 : (x.toInt + y.toInt).bmod (2 ^ 64) = x.toInt + y.toInt := Int.bmod_eq_of_le (by omega) (by omega)
  rw [e1, e2]
theorem r6_b {g : Nat → Int32} {i k : Int32} (h : iv (r6 g i k) (r6 g i k).toInt 500) : (g ((6 * i + k).toNatClampNeg)).toInt.natAbs ≤ 500 := by
  have := h.2
  unfold r6 at this
  rw [i32_64] at this
  exact this
theorem r6_both {g : Nat → Int32} {c : Int32} (ha : iv (r6 g c 0) (r6 g c 0).toInt 500) (hc : iv (r6 g c 2) (r6 g c 2).toInt 500) : (g ((6 * c).toNatClampNeg) + g ((6 * c + 2).toNatClampNeg)).toInt64 = r6 g c 0 + r6 g c 2 := by
  have a := r6_b ha
  rw [Int32.add_zero] at a
  rw [pu_add32 a (r6_b hc), r6_0, r6_k]
theorem r6_bothz {g : Nat → Int32} {c : Int32} (ha : iv (r6 g c 0) (r6 g c 0).toInt 500) (hc : iv (r6 g c 2) (r6 g c 2).toInt 500) : g ((6 * c).toNatClampNeg) + g ((6 * c + 2).toNatClampNeg) = 0 ↔ r6 g c 0 + r6 g c 2 = 0 := by
  rw [← r6_both ha hc]
  exact pu_z32.symm
theorem r6_eq (g : Nat → Int32) (c : Int32) : r6 g c 0 = r6 g c 2 ↔ g ((6 * c).toNatClampNeg) = g ((6 * c + 2).toNatClampNeg) := by
  rw [← r6_0, ← r6_k]
  constructor
  · intro h
    apply Int32.toInt_inj.mp
    rw [← i32_64, h, i32_64]
  · intro h
    rw [h]
theorem pu_round (gm gp gl gc : Nat → Int32) (c : Int32) (h2 : n_ok (gm 2)) (bc : b500 gc 6 (gm 2)) : z4_round (gm 2) gc c = z5_round gm gc c := by
  unfold z4_round z5_round
  rw [pu_is2 h2]
  by_cases q : z2_has (gm 2) c = 0
  · rw [if_pos q, if_pos q]
  rw [if_neg q, if_neg q]
  have ha := ri6_0 bc h2 q
  have hc := ri6_2 bc h2 q
  simp only [rd6_a q, rd6_b q, rd6_c q, rd6_d q, rd6_e q, rd6_f q, r6_eq, ← r6_bothz ha hc, r6_z, Int32.add_zero]
theorem sgn_pp {s d : Int} (hs : 0 < s) (hd : 0 < d) : 0 ≤ s * d := Int.le_of_lt (Int.mul_pos hs hd)
theorem sgn_nn {s d : Int} (hs : s < 0) (hd : d < 0) : 0 ≤ s * d := Int.le_of_lt (Int.mul_pos_of_neg_of_neg hs hd)
theorem sgn_pn {s d : Int} (hs : 0 < s) (hd : d < 0) : ¬ 0 ≤ s * d := Int.not_le.mpr (Int.mul_neg_of_pos_of_neg hs hd)
theorem sgn_np {s d : Int} (hs : s < 0) (hd : 0 < d) : ¬ 0 ≤ s * d := Int.not_le.mpr (Int.mul_neg_of_neg_of_pos hs hd)
theorem sq_nn (a : Int) : 0 ≤ a * a := by
  rcases Int.le_total 0 a with h | h
  · exact Int.mul_nonneg h h
  · exact Int.mul_nonneg_of_nonpos_of_nonpos h h
theorem both_nz {a b c : Int} (h : b * b - 4 * a * c < 0) : a + c ≠ 0 := by
  intro e
  have e1 : c = -a := by omega
  subst e1
  have h1 := sq_nn b
  have h2 := sq_nn a
  have h3 : b * b - 4 * a * -a = b * b + 4 * (a * a) := by grind
  omega
theorem pu_kind (gm gp gl gc : Nat → Int32) (fx fa : Nat → Int64) (c : Int32) (h2 : n_ok (gm 2)) (bc : b500 gc 6 (gm 2)) : z4_kind (gm 2) gc c = z5_kind gm gc fx fa c := by
  unfold z4_kind z5_kind
  rw [pu_is2 h2]
  by_cases q : z2_has (gm 2) c = 0
  · rw [if_pos q, if_pos q]
  rw [if_neg q, if_neg q]
  have ha := ri6_0 bc h2 q
  have hb := ri6_1 bc h2 q
  have hc := ri6_2 bc h2 q
  have hd := ri6_3 bc h2 q
  have he := ri6_4 bc h2 q
  have hf := ri6_5 bc h2 q
  rw [pu_det gc fx fa c bc h2 q, pu_disc]
  have hD : iv (z0_det (r6 gc c 0) (r6 gc c 1) (r6 gc c 2) (r6 gc c 3) (r6 gc c 4) (r6 gc c 5)) _ _ := (iv_sub (iv_sub (iv_sub (iv_add (iv_mul (iv_mul (iv_mul iv_4 ha (by decide)) hc (by decide)) hf (by decide)) (iv_mul (iv_mul hb hd (by decide)) he (by decide)) (by decide)) (iv_mul (iv_mul ha he (by decide)) he (by decide)) (by decide)) (iv_mul (iv_mul hc hd (by decide)) hd (by decide)) (by decide)) (iv_mul (iv_mul hf hb (by decide)) hb (by decide)) (by decide))
  have hE : iv (z0_disc (r6 gc c 0) (r6 gc c 1) (r6 gc c 2)) _ _ := (iv_sub (iv_mul hb hb (by decide)) (iv_mul (iv_mul iv_4 ha (by decide)) hc (by decide)) (by decide))
  have hS : iv (r6 gc c 0 + r6 gc c 2) _ _ := iv_add ha hc (by decide)
  simp only [z4_kind_v1, z4_kind_v2, z4_kind_v3, z5_kind_v1, z4_flatKind, z4_properKind, r6_both ha hc, rd6_a q, rd6_b q, rd6_c q, rd6_d q, rd6_e q, rd6_f q, r3_0, r6_0, r3_k, r6_k, rn_0, rn_1, r6_z, Int32.add_zero]
  by_cases s : z0_det (r6 gc c 0) (r6 gc c 1) (r6 gc c 2) (r6 gc c 3) (r6 gc c 4) (r6 gc c 5) = 0
  · rw [if_pos s, if_pos s]
    by_cases t : z0_disc (r6 gc c 0) (r6 gc c 1) (r6 gc c 2) = 0
    · rw [if_pos t, if_pos t]
      generalize (r6 gc c 3 * r6 gc c 3 + r6 gc c 4 * r6 gc c 4 - 4 * (r6 gc c 0 + r6 gc c 2) * r6 gc c 5) = V
      have k : (if V = 0 then (6 : Int32) else if V ≤ 0 then 8 else 5) = if V ≤ 0 then if V = 0 then 6 else 8 else 5 := by
        by_cases v0 : V = 0
        · rw [if_pos v0, if_pos v0, v0, if_pos (by decide)]
        · rw [if_neg v0, if_neg v0]
      rw [k]
    · rw [if_neg t, if_neg t]
  · rw [if_neg s, if_neg s]
    by_cases t : z0_disc (r6 gc c 0) (r6 gc c 1) (r6 gc c 2) ≤ 0
    · rw [if_pos t, if_pos t]
      by_cases v : z0_disc (r6 gc c 0) (r6 gc c 1) (r6 gc c 2) = 0
      · rw [if_pos v, if_pos v]
      · rw [if_neg v, if_neg v]
        have dn := (iv_le0 hE).mp t
        have dz := fun z => v ((iv_z hE).mpr z)
        have bz := both_nz (Int.lt_iff_le_and_ne.mpr ⟨dn, dz⟩)
        have sz := fun z => s ((iv_z hD).mpr z)
        have hP := iv_mul hS hD (by decide)
        by_cases b1 : r6 gc c 0 + r6 gc c 2 ≤ 0
        · have b2 := Int.lt_iff_le_and_ne.mpr ⟨(iv_le0 hS).mp b1, bz⟩
          rw [if_pos b1]
          by_cases d1 : 0 ≤ z0_det (r6 gc c 0) (r6 gc c 1) (r6 gc c 2) (r6 gc c 3) (r6 gc c 4) (r6 gc c 5)
          · have d2 := Int.lt_iff_le_and_ne.mpr ⟨(iv_ge0 hD).mp d1, Ne.symm sz⟩
            rw [if_pos d1, if_neg (fun z => sgn_np b2 d2 ((iv_ge0 hP).mp z))]
          · have d2 := Int.not_le.mp (fun z => d1 ((iv_ge0 hD).mpr z))
            rw [if_neg d1, if_pos ((iv_ge0 hP).mpr (sgn_nn b2 d2))]
        · have b2 := Int.not_le.mp (fun z => b1 ((iv_le0 hS).mpr z))
          rw [if_neg b1]
          by_cases d1 : 0 ≤ z0_det (r6 gc c 0) (r6 gc c 1) (r6 gc c 2) (r6 gc c 3) (r6 gc c 4) (r6 gc c 5)
          · have d2 := Int.lt_iff_le_and_ne.mpr ⟨(iv_ge0 hD).mp d1, Ne.symm sz⟩
            rw [if_pos d1, if_pos ((iv_ge0 hP).mpr (sgn_pp b2 d2))]
          · have d2 := Int.not_le.mp (fun z => d1 ((iv_ge0 hD).mpr z))
            rw [if_neg d1, if_neg (fun z => sgn_pn b2 d2 ((iv_ge0 hP).mp z))]
    · rw [if_neg t, if_neg t]
theorem mx_k (ff : Nat → Int64) (g : Nat → Int32) (c d : Int32) (u v : Int64) : z5_mix_f1 ff g c d u v 0 = u * r6 g c 0 + v * r6 g d 0 ∧ z5_mix_f1 ff g c d u v 1 = u * r6 g c 1 + v * r6 g d 1 ∧ z5_mix_f1 ff g c d u v 2 = u * r6 g c 2 + v * r6 g d 2 ∧ z5_mix_f1 ff g c d u v 3 = u * r6 g c 3 + v * r6 g d 3 ∧ z5_mix_f1 ff g c d u v 4 = u * r6 g c 4 + v * r6 g d 4 ∧ z5_mix_f1 ff g c d u v 5 = u * r6 g c 5 + v * r6 g d 5 := by
  refine ⟨?_, ?_, ?_, ?_, ?_, ?_⟩ <;> simp only [z5_mix_f1, ul_e, ul_0_1, ul_0_2, ul_0_3, ul_0_4, ul_0_5, ul_0_6, ul_0_7, ul_0_8, ul_1_0, ul_1_2, ul_1_3, ul_1_4, ul_1_5, ul_1_6, ul_1_7, ul_1_8, ul_2_0, ul_2_1, ul_2_3, ul_2_4, ul_2_5, ul_2_6, ul_2_7, ul_2_8, ul_3_0, ul_3_1, ul_3_2, ul_3_4, ul_3_5, ul_3_6, ul_3_7, ul_3_8, ul_4_0, ul_4_1, ul_4_2, ul_4_3, ul_4_5, ul_4_6, ul_4_7, ul_4_8, ul_5_0, ul_5_1, ul_5_2, ul_5_3, ul_5_4, ul_5_6, ul_5_7, ul_5_8, ul_6_0, ul_6_1, ul_6_2, ul_6_3, ul_6_4, ul_6_5, ul_6_7, ul_6_8, ul_7_0, ul_7_1, ul_7_2, ul_7_3, ul_7_4, ul_7_5, ul_7_6, ul_7_8, ul_8_0, ul_8_1, ul_8_2, ul_8_3, ul_8_4, ul_8_5, ul_8_6, ul_8_7, r3_0, r6_0, r3_k, r6_k, rn_0, rn_1]
theorem lm_det (fx fa : Nat → Int64) (a b c d e f : Int64) : z5_det (z5_layMatrix_f1 fx a b c d e f) fa = (2 * z0_det a b c d e f) / 2 := by
  have h : ((z5_layMatrix_f1 fx a b c d e f) 0 * (z5_layAdjoint_f2 (z5_layMatrix_f1 fx a b c d e f) fa) 0 + (z5_layMatrix_f1 fx a b c d e f) 1 * (z5_layAdjoint_f2 (z5_layMatrix_f1 fx a b c d e f) fa) 3 + (z5_layMatrix_f1 fx a b c d e f) 2 * (z5_layAdjoint_f2 (z5_layMatrix_f1 fx a b c d e f) fa) 6) = 2 * z0_det a b c d e f := by
    simp only [la_0, la_3, la_6, z5_layMatrix_f1, ul_e, ul_0_1, ul_0_2, ul_0_3, ul_0_4, ul_0_5, ul_0_6, ul_0_7, ul_0_8, ul_1_0, ul_1_2, ul_1_3, ul_1_4, ul_1_5, ul_1_6, ul_1_7, ul_1_8, ul_2_0, ul_2_1, ul_2_3, ul_2_4, ul_2_5, ul_2_6, ul_2_7, ul_2_8, ul_3_0, ul_3_1, ul_3_2, ul_3_4, ul_3_5, ul_3_6, ul_3_7, ul_3_8, ul_4_0, ul_4_1, ul_4_2, ul_4_3, ul_4_5, ul_4_6, ul_4_7, ul_4_8, ul_5_0, ul_5_1, ul_5_2, ul_5_3, ul_5_4, ul_5_6, ul_5_7, ul_5_8, ul_6_0, ul_6_1, ul_6_2, ul_6_3, ul_6_4, ul_6_5, ul_6_7, ul_6_8, ul_7_0, ul_7_1, ul_7_2, ul_7_3, ul_7_4, ul_7_5, ul_7_6, ul_7_8, ul_8_0, ul_8_1, ul_8_2, ul_8_3, ul_8_4, ul_8_5, ul_8_6, ul_8_7, z0_det]
    grind
  unfold z5_det
  rw [h]
theorem pu_cubic (gm gp gl gc : Nat → Int32) (ff fx fa : Nat → Int64) (c d k : Int32) (h2 : n_ok (gm 2)) (bc : b500 gc 6 (gm 2)) : z4_cubic (gm 2) gc c d k = z5_cubic gm ff gc fx fa c d k := by
  unfold z4_cubic z5_cubic
  rw [pu_is2 h2, pu_is2 h2, pu_in3]
  by_cases q : z2_has (gm 2) c = 0
  · rw [if_pos q, if_pos q]
  rw [if_neg q, if_neg q]
  by_cases t : z2_has (gm 2) d = 0
  · rw [if_pos t, if_pos t]
  rw [if_neg t, if_neg t]
  by_cases c1 : k < 0
  · rw [if_pos c1, if_pos c1, if_pos rfl]
  rw [if_neg c1, if_neg c1]
  by_cases c2 : k ≤ 3
  · rw [if_pos c2, if_pos c2, if_neg pu_10]
    have ha := ri6_0 bc h2 q
    have hb := ri6_1 bc h2 q
    have hc := ri6_2 bc h2 q
    have hd := ri6_3 bc h2 q
    have he := ri6_4 bc h2 q
    have hf := ri6_5 bc h2 q
    have ka := ri6_0 bc h2 t
    have kb := ri6_1 bc h2 t
    have kc := ri6_2 bc h2 t
    have kd := ri6_3 bc h2 t
    have ke := ri6_4 bc h2 t
    have kf := ri6_5 bc h2 t
    have hD : iv (z0_det (r6 gc c 0) (r6 gc c 1) (r6 gc c 2) (r6 gc c 3) (r6 gc c 4) (r6 gc c 5)) _ _ := (iv_sub (iv_sub (iv_sub (iv_add (iv_mul (iv_mul (iv_mul iv_4 ha (by decide)) hc (by decide)) hf (by decide)) (iv_mul (iv_mul hb hd (by decide)) he (by decide)) (by decide)) (iv_mul (iv_mul ha he (by decide)) he (by decide)) (by decide)) (iv_mul (iv_mul hc hd (by decide)) hd (by decide)) (by decide)) (iv_mul (iv_mul hf hb (by decide)) hb (by decide)) (by decide))
    have kD : iv (z0_det (r6 gc d 0) (r6 gc d 1) (r6 gc d 2) (r6 gc d 3) (r6 gc d 4) (r6 gc d 5)) _ _ := (iv_sub (iv_sub (iv_sub (iv_add (iv_mul (iv_mul (iv_mul iv_4 ka (by decide)) kc (by decide)) kf (by decide)) (iv_mul (iv_mul kb kd (by decide)) ke (by decide)) (by decide)) (iv_mul (iv_mul ka ke (by decide)) ke (by decide)) (by decide)) (iv_mul (iv_mul kc kd (by decide)) kd (by decide)) (by decide)) (iv_mul (iv_mul kf kb (by decide)) kb (by decide)) (by decide))
    have hM : iv (z4_mixedDet (r6 gc c 0) (r6 gc c 1) (r6 gc c 2) (r6 gc c 3) (r6 gc c 4) (r6 gc c 5) (r6 gc d 0) (r6 gc d 1) (r6 gc d 2) (r6 gc d 3) (r6 gc d 4) (r6 gc d 5)) _ _ := (iv_add (iv_add (iv_add (iv_add (iv_add (iv_mul (iv_sub (iv_mul (iv_mul iv_4 hc (by decide)) hf (by decide)) (iv_mul he he (by decide)) (by decide)) ka (by decide)) (iv_mul (iv_sub (iv_mul hd he (by decide)) (iv_mul (iv_mul iv_2 hb (by decide)) hf (by decide)) (by decide)) kb (by decide)) (by decide)) (iv_mul (iv_sub (iv_mul (iv_mul iv_4 ha (by decide)) hf (by decide)) (iv_mul hd hd (by decide)) (by decide)) kc (by decide)) (by decide)) (iv_mul (iv_sub (iv_mul hb he (by decide)) (iv_mul (iv_mul iv_2 hc (by decide)) hd (by decide)) (by decide)) kd (by decide)) (by decide)) (iv_mul (iv_sub (iv_mul hb hd (by decide)) (iv_mul (iv_mul iv_2 ha (by decide)) he (by decide)) (by decide)) ke (by decide)) (by decide)) (iv_mul (iv_sub (iv_mul (iv_mul iv_4 ha (by decide)) hc (by decide)) (iv_mul hb hb (by decide)) (by decide)) kf (by decide)) (by decide))
    have kM : iv (z4_mixedDet (r6 gc d 0) (r6 gc d 1) (r6 gc d 2) (r6 gc d 3) (r6 gc d 4) (r6 gc d 5) (r6 gc c 0) (r6 gc c 1) (r6 gc c 2) (r6 gc c 3) (r6 gc c 4) (r6 gc c 5)) _ _ := (iv_add (iv_add (iv_add (iv_add (iv_add (iv_mul (iv_sub (iv_mul (iv_mul iv_4 kc (by decide)) kf (by decide)) (iv_mul ke ke (by decide)) (by decide)) ha (by decide)) (iv_mul (iv_sub (iv_mul kd ke (by decide)) (iv_mul (iv_mul iv_2 kb (by decide)) kf (by decide)) (by decide)) hb (by decide)) (by decide)) (iv_mul (iv_sub (iv_mul (iv_mul iv_4 ka (by decide)) kf (by decide)) (iv_mul kd kd (by decide)) (by decide)) hc (by decide)) (by decide)) (iv_mul (iv_sub (iv_mul kb ke (by decide)) (iv_mul (iv_mul iv_2 kc (by decide)) kd (by decide)) (by decide)) hd (by decide)) (by decide)) (iv_mul (iv_sub (iv_mul kb kd (by decide)) (iv_mul (iv_mul iv_2 ka (by decide)) ke (by decide)) (by decide)) he (by decide)) (by decide)) (iv_mul (iv_sub (iv_mul (iv_mul iv_4 ka (by decide)) kc (by decide)) (iv_mul kb kb (by decide)) (by decide)) hf (by decide)) (by decide))
    rw [pu_det gc fx fa c bc h2 q, pu_det gc _ _ d bc h2 t]
    simp only [z4_cubic_v1, z4_cubic_v2, z4_cubic_v3, z4_cubic_v4, rd6_a q, rd6_b q, rd6_c q, rd6_d q, rd6_e q, rd6_f q, rd6_a t, rd6_b t, rd6_c t, rd6_d t, rd6_e t, rd6_f t]
    obtain ⟨m0, m1, m2, m3, m4, m5⟩ := mx_k ff gc c d 1 1
    obtain ⟨n0, n1, n2, n3, n4, n5⟩ := mx_k (z5_detOfMix_f1 ff gc c d 1 1) gc c d 1 (-1)
    have eS : z5_cubic_v2 ff gc fx fa c d = z0_det (r6 gc c 0) (r6 gc c 1) (r6 gc c 2) (r6 gc c 3) (r6 gc c 4) (r6 gc c 5) + z4_mixedDet (r6 gc c 0) (r6 gc c 1) (r6 gc c 2) (r6 gc c 3) (r6 gc c 4) (r6 gc c 5) (r6 gc d 0) (r6 gc d 1) (r6 gc d 2) (r6 gc d 3) (r6 gc d 4) (r6 gc d 5) + z4_mixedDet (r6 gc d 0) (r6 gc d 1) (r6 gc d 2) (r6 gc d 3) (r6 gc d 4) (r6 gc d 5) (r6 gc c 0) (r6 gc c 1) (r6 gc c 2) (r6 gc c 3) (r6 gc c 4) (r6 gc c 5) + z0_det (r6 gc d 0) (r6 gc d 1) (r6 gc d 2) (r6 gc d 3) (r6 gc d 4) (r6 gc d 5) := by
      simp only [z5_cubic_v2, z5_detOfMix, z5_detOfMix_v1, m0, m1, m2, m3, m4, m5]
      rw [lm_det]
      have e : z0_det (1 * r6 gc c 0 + 1 * r6 gc d 0) (1 * r6 gc c 1 + 1 * r6 gc d 1) (1 * r6 gc c 2 + 1 * r6 gc d 2) (1 * r6 gc c 3 + 1 * r6 gc d 3) (1 * r6 gc c 4 + 1 * r6 gc d 4) (1 * r6 gc c 5 + 1 * r6 gc d 5) = z0_det (r6 gc c 0) (r6 gc c 1) (r6 gc c 2) (r6 gc c 3) (r6 gc c 4) (r6 gc c 5) + z4_mixedDet (r6 gc c 0) (r6 gc c 1) (r6 gc c 2) (r6 gc c 3) (r6 gc c 4) (r6 gc c 5) (r6 gc d 0) (r6 gc d 1) (r6 gc d 2) (r6 gc d 3) (r6 gc d 4) (r6 gc d 5) + z4_mixedDet (r6 gc d 0) (r6 gc d 1) (r6 gc d 2) (r6 gc d 3) (r6 gc d 4) (r6 gc d 5) (r6 gc c 0) (r6 gc c 1) (r6 gc c 2) (r6 gc c 3) (r6 gc c 4) (r6 gc c 5) + z0_det (r6 gc d 0) (r6 gc d 1) (r6 gc d 2) (r6 gc d 3) (r6 gc d 4) (r6 gc d 5) := by
        simp only [z0_det, z4_mixedDet, z0_setMinors_a, z0_setMinors_b, z0_setMinors_c, z0_setMinors_d, z0_setMinors_e, z0_setMinors_f]
        grind
      rw [e]
      exact half (iv_add (iv_add (iv_add hD hM (by decide)) kM (by decide)) kD (by decide)) (by decide)
    have eL : z5_cubic_v5 ff gc fx fa c d = z0_det (r6 gc c 0) (r6 gc c 1) (r6 gc c 2) (r6 gc c 3) (r6 gc c 4) (r6 gc c 5) - z4_mixedDet (r6 gc c 0) (r6 gc c 1) (r6 gc c 2) (r6 gc c 3) (r6 gc c 4) (r6 gc c 5) (r6 gc d 0) (r6 gc d 1) (r6 gc d 2) (r6 gc d 3) (r6 gc d 4) (r6 gc d 5) + z4_mixedDet (r6 gc d 0) (r6 gc d 1) (r6 gc d 2) (r6 gc d 3) (r6 gc d 4) (r6 gc d 5) (r6 gc c 0) (r6 gc c 1) (r6 gc c 2) (r6 gc c 3) (r6 gc c 4) (r6 gc c 5) - z0_det (r6 gc d 0) (r6 gc d 1) (r6 gc d 2) (r6 gc d 3) (r6 gc d 4) (r6 gc d 5) := by
      simp only [z5_cubic_v5, z5_detOfMix, z5_detOfMix_v1, n0, n1, n2, n3, n4, n5]
      rw [lm_det]
      have e : z0_det (1 * r6 gc c 0 + (-1) * r6 gc d 0) (1 * r6 gc c 1 + (-1) * r6 gc d 1) (1 * r6 gc c 2 + (-1) * r6 gc d 2) (1 * r6 gc c 3 + (-1) * r6 gc d 3) (1 * r6 gc c 4 + (-1) * r6 gc d 4) (1 * r6 gc c 5 + (-1) * r6 gc d 5) = z0_det (r6 gc c 0) (r6 gc c 1) (r6 gc c 2) (r6 gc c 3) (r6 gc c 4) (r6 gc c 5) - z4_mixedDet (r6 gc c 0) (r6 gc c 1) (r6 gc c 2) (r6 gc c 3) (r6 gc c 4) (r6 gc c 5) (r6 gc d 0) (r6 gc d 1) (r6 gc d 2) (r6 gc d 3) (r6 gc d 4) (r6 gc d 5) + z4_mixedDet (r6 gc d 0) (r6 gc d 1) (r6 gc d 2) (r6 gc d 3) (r6 gc d 4) (r6 gc d 5) (r6 gc c 0) (r6 gc c 1) (r6 gc c 2) (r6 gc c 3) (r6 gc c 4) (r6 gc c 5) - z0_det (r6 gc d 0) (r6 gc d 1) (r6 gc d 2) (r6 gc d 3) (r6 gc d 4) (r6 gc d 5) := by
        simp only [z0_det, z4_mixedDet, z0_setMinors_a, z0_setMinors_b, z0_setMinors_c, z0_setMinors_d, z0_setMinors_e, z0_setMinors_f]
        grind
      rw [e]
      exact half (iv_sub (iv_add (iv_sub hD hM (by decide)) kM (by decide)) kD (by decide)) (by decide)
    rw [eS, eL]
    generalize z0_det (r6 gc c 0) (r6 gc c 1) (r6 gc c 2) (r6 gc c 3) (r6 gc c 4) (r6 gc c 5) = D1 at *
    generalize z0_det (r6 gc d 0) (r6 gc d 1) (r6 gc d 2) (r6 gc d 3) (r6 gc d 4) (r6 gc d 5) = D2 at *
    generalize z4_mixedDet (r6 gc c 0) (r6 gc c 1) (r6 gc c 2) (r6 gc c 3) (r6 gc c 4) (r6 gc c 5) (r6 gc d 0) (r6 gc d 1) (r6 gc d 2) (r6 gc d 3) (r6 gc d 4) (r6 gc d 5) = M1 at *
    generalize z4_mixedDet (r6 gc d 0) (r6 gc d 1) (r6 gc d 2) (r6 gc d 3) (r6 gc d 4) (r6 gc d 5) (r6 gc c 0) (r6 gc c 1) (r6 gc c 2) (r6 gc c 3) (r6 gc c 4) (r6 gc c 5) = M2 at *
    have f1 : (D1 + M1 + M2 + D2 - (D1 - M1 + M2 - D2)) / 2 - D2 = M1 := by
      have e : D1 + M1 + M2 + D2 - (D1 - M1 + M2 - D2) = 2 * (M1 + D2) := by grind
      rw [e, half (iv_add hM kD (by decide)) (by decide)]
      grind
    have f2 : (D1 + M1 + M2 + D2 + (D1 - M1 + M2 - D2)) / 2 - D1 = M2 := by
      have e : D1 + M1 + M2 + D2 + (D1 - M1 + M2 - D2) = 2 * (D1 + M2) := by grind
      rw [e, half (iv_add hD kM (by decide)) (by decide)]
      grind
    rw [f1, f2]
  · rw [if_neg c2, if_neg c2, if_pos rfl]
/-- the pairs: crossings and parts -/
def pr_ok (n : Int32) (x y z u v w : Int64) (m : Int32) (f : Nat → Int64) : Prop := n = m ∧ 0 ≤ m.toInt ∧ m.toInt ≤ 2 ∧ (1 ≤ m.toInt → x = f 0 ∧ y = f 1 ∧ z = f 2) ∧ (2 ≤ m.toInt → u = f 3 ∧ v = f 4 ∧ w = f 5)
theorem pu_tell {n : Int32} {x y z u v w : Int64} {m : Int32} {f : Nat → Int64} (h : pr_ok n x y z u v w m f) (i k : Int32) : z1_tell n i k x y z u v w = z5_crossing m f i k := by
  obtain ⟨e, m0, m2, p1, p2⟩ := h
  subst e
  unfold z1_tell z5_crossing
  rw [pu_in2]
  by_cases c1 : k < 0
  · rw [if_pos c1, if_pos c1, if_pos rfl]
  rw [if_neg c1, if_neg c1]
  by_cases c2 : k < 3
  · rw [if_pos c2, if_pos c2, if_neg pu_10]
    have z0 : (0 : Int32).toInt = 0 := by decide
    have z1 : (1 : Int64).toInt = 1 := by decide
    have z3 : (3 : Int32).toInt = 3 := by decide
    have en : (n.toInt64 - 1).toInt = n.toInt - 1 := by
      rw [Int64.toInt_sub, i32_64, z1]
      exact Int.bmod_eq_of_le (by omega) (by omega)
    have ei : z5_in i.toInt64 0 (n.toInt64 - 1) = if i < 0 then 0 else if i < n then 1 else 0 := by
      unfold z5_in
      have e1 : (i.toInt64 < 0) ↔ i < 0 := by
        rw [Int64.lt_iff_toInt_lt, i32_64, pu_z0, Int32.lt_iff_toInt_lt, z0]
      have e2 : (n.toInt64 - 1 < i.toInt64) ↔ ¬ i < n := by
        rw [Int64.lt_iff_toInt_lt, i32_64, en, Int32.lt_iff_toInt_lt]
        omega
      by_cases d1 : i < 0
      · rw [if_pos d1, if_pos (e1.mpr d1)]
      · rw [if_neg d1, if_neg (fun q => d1 (e1.mp q))]
        by_cases d2 : i < n
        · rw [if_pos d2, if_neg (fun q => e2.mp q d2)]
        · rw [if_neg d2, if_pos (e2.mpr d2)]
    rw [ei]
    by_cases d1 : i < 0
    · rw [if_pos d1, if_pos d1, if_pos rfl]
    rw [if_neg d1, if_neg d1]
    by_cases d2 : i < n
    · rw [if_pos d2, if_pos d2, if_neg pu_10]
      rw [Int32.lt_iff_toInt_lt, z0] at c1 d1
      rw [Int32.lt_iff_toInt_lt] at d2
      rw [Int32.lt_iff_toInt_lt, z3] at c2
      have w3 : (3 : Int32).toInt.toNat = 3 := by decide
      have ix : (3 * i + k).toNatClampNeg = 3 * i.toInt.toNat + k.toInt.toNat := by
        rw [pu_ix (by decide) ⟨by omega, by omega⟩ ⟨by omega, by omega⟩, w3]
      rw [ix]
      have kk : k = 0 ∨ k = 1 ∨ k = 2 := by
        have a1 : (1 : Int32).toInt = 1 := by decide
        have a2 : (2 : Int32).toInt = 2 := by decide
        rcases (by omega : k.toInt = 0 ∨ k.toInt = 1 ∨ k.toInt = 2) with q | q | q
        · exact Or.inl (Int32.toInt_inj.mp (by rw [q, z0]))
        · exact Or.inr (Or.inl (Int32.toInt_inj.mp (by rw [q, a1])))
        · exact Or.inr (Or.inr (Int32.toInt_inj.mp (by rw [q, a2])))
      by_cases d3 : i = 0
      · obtain ⟨g0, g1, g2⟩ := p1 (by omega)
        rw [if_pos d3, d3]
        rcases kk with q | q | q <;> subst q
        · exact g0
        · exact g1
        · exact g2
      · have i1 : i.toInt = 1 := by
          have : i.toInt ≠ 0 := fun q => d3 (Int32.toInt_inj.mp (by rw [q, z0]))
          omega
        obtain ⟨g0, g1, g2⟩ := p2 (by omega)
        rw [if_neg d3, i1]
        rcases kk with q | q | q <;> subst q
        · exact g0
        · exact g1
        · exact g2
    · rw [if_neg d2, if_neg d2, if_pos rfl]
  · rw [if_neg c2, if_neg c2, if_pos rfl]
theorem pu_part (m : Int32) (f : Nat → Int64) (i k : Int32) : z5_part m f i k = z5_crossing m f i k := rfl
