/-! The methods that keep something, method by method. -/
theorem ul_e (f : Nat → Int64) (k : Nat) (x : Int64) : vp_updL f k x k = x := if_pos rfl
theorem ul_0_1 (f : Nat → Int64) (x : Int64) : vp_updL f 1 x 0 = f 0 := if_neg (by decide)
theorem ul_0_2 (f : Nat → Int64) (x : Int64) : vp_updL f 2 x 0 = f 0 := if_neg (by decide)
theorem ul_0_3 (f : Nat → Int64) (x : Int64) : vp_updL f 3 x 0 = f 0 := if_neg (by decide)
theorem ul_0_4 (f : Nat → Int64) (x : Int64) : vp_updL f 4 x 0 = f 0 := if_neg (by decide)
theorem ul_0_5 (f : Nat → Int64) (x : Int64) : vp_updL f 5 x 0 = f 0 := if_neg (by decide)
theorem ul_0_6 (f : Nat → Int64) (x : Int64) : vp_updL f 6 x 0 = f 0 := if_neg (by decide)
theorem ul_0_7 (f : Nat → Int64) (x : Int64) : vp_updL f 7 x 0 = f 0 := if_neg (by decide)
theorem ul_0_8 (f : Nat → Int64) (x : Int64) : vp_updL f 8 x 0 = f 0 := if_neg (by decide)
theorem ul_1_0 (f : Nat → Int64) (x : Int64) : vp_updL f 0 x 1 = f 1 := if_neg (by decide)
theorem ul_1_2 (f : Nat → Int64) (x : Int64) : vp_updL f 2 x 1 = f 1 := if_neg (by decide)
theorem ul_1_3 (f : Nat → Int64) (x : Int64) : vp_updL f 3 x 1 = f 1 := if_neg (by decide)
theorem ul_1_4 (f : Nat → Int64) (x : Int64) : vp_updL f 4 x 1 = f 1 := if_neg (by decide)
theorem ul_1_5 (f : Nat → Int64) (x : Int64) : vp_updL f 5 x 1 = f 1 := if_neg (by decide)
theorem ul_1_6 (f : Nat → Int64) (x : Int64) : vp_updL f 6 x 1 = f 1 := if_neg (by decide)
theorem ul_1_7 (f : Nat → Int64) (x : Int64) : vp_updL f 7 x 1 = f 1 := if_neg (by decide)
theorem ul_1_8 (f : Nat → Int64) (x : Int64) : vp_updL f 8 x 1 = f 1 := if_neg (by decide)
theorem ul_2_0 (f : Nat → Int64) (x : Int64) : vp_updL f 0 x 2 = f 2 := if_neg (by decide)
theorem ul_2_1 (f : Nat → Int64) (x : Int64) : vp_updL f 1 x 2 = f 2 := if_neg (by decide)
theorem ul_2_3 (f : Nat → Int64) (x : Int64) : vp_updL f 3 x 2 = f 2 := if_neg (by decide)
theorem ul_2_4 (f : Nat → Int64) (x : Int64) : vp_updL f 4 x 2 = f 2 := if_neg (by decide)
theorem ul_2_5 (f : Nat → Int64) (x : Int64) : vp_updL f 5 x 2 = f 2 := if_neg (by decide)
theorem ul_2_6 (f : Nat → Int64) (x : Int64) : vp_updL f 6 x 2 = f 2 := if_neg (by decide)
theorem ul_2_7 (f : Nat → Int64) (x : Int64) : vp_updL f 7 x 2 = f 2 := if_neg (by decide)
theorem ul_2_8 (f : Nat → Int64) (x : Int64) : vp_updL f 8 x 2 = f 2 := if_neg (by decide)
theorem ul_3_0 (f : Nat → Int64) (x : Int64) : vp_updL f 0 x 3 = f 3 := if_neg (by decide)
theorem ul_3_1 (f : Nat → Int64) (x : Int64) : vp_updL f 1 x 3 = f 3 := if_neg (by decide)
theorem ul_3_2 (f : Nat → Int64) (x : Int64) : vp_updL f 2 x 3 = f 3 := if_neg (by decide)
theorem ul_3_4 (f : Nat → Int64) (x : Int64) : vp_updL f 4 x 3 = f 3 := if_neg (by decide)
theorem ul_3_5 (f : Nat → Int64) (x : Int64) : vp_updL f 5 x 3 = f 3 := if_neg (by decide)
theorem ul_3_6 (f : Nat → Int64) (x : Int64) : vp_updL f 6 x 3 = f 3 := if_neg (by decide)
theorem ul_3_7 (f : Nat → Int64) (x : Int64) : vp_updL f 7 x 3 = f 3 := if_neg (by decide)
theorem ul_3_8 (f : Nat → Int64) (x : Int64) : vp_updL f 8 x 3 = f 3 := if_neg (by decide)
theorem ul_4_0 (f : Nat → Int64) (x : Int64) : vp_updL f 0 x 4 = f 4 := if_neg (by decide)
theorem ul_4_1 (f : Nat → Int64) (x : Int64) : vp_updL f 1 x 4 = f 4 := if_neg (by decide)
theorem ul_4_2 (f : Nat → Int64) (x : Int64) : vp_updL f 2 x 4 = f 4 := if_neg (by decide)
theorem ul_4_3 (f : Nat → Int64) (x : Int64) : vp_updL f 3 x 4 = f 4 := if_neg (by decide)
theorem ul_4_5 (f : Nat → Int64) (x : Int64) : vp_updL f 5 x 4 = f 4 := if_neg (by decide)
theorem ul_4_6 (f : Nat → Int64) (x : Int64) : vp_updL f 6 x 4 = f 4 := if_neg (by decide)
theorem ul_4_7 (f : Nat → Int64) (x : Int64) : vp_updL f 7 x 4 = f 4 := if_neg (by decide)
theorem ul_4_8 (f : Nat → Int64) (x : Int64) : vp_updL f 8 x 4 = f 4 := if_neg (by decide)
theorem ul_5_0 (f : Nat → Int64) (x : Int64) : vp_updL f 0 x 5 = f 5 := if_neg (by decide)
theorem ul_5_1 (f : Nat → Int64) (x : Int64) : vp_updL f 1 x 5 = f 5 := if_neg (by decide)
theorem ul_5_2 (f : Nat → Int64) (x : Int64) : vp_updL f 2 x 5 = f 5 := if_neg (by decide)
theorem ul_5_3 (f : Nat → Int64) (x : Int64) : vp_updL f 3 x 5 = f 5 := if_neg (by decide)
theorem ul_5_4 (f : Nat → Int64) (x : Int64) : vp_updL f 4 x 5 = f 5 := if_neg (by decide)
theorem ul_5_6 (f : Nat → Int64) (x : Int64) : vp_updL f 6 x 5 = f 5 := if_neg (by decide)
theorem ul_5_7 (f : Nat → Int64) (x : Int64) : vp_updL f 7 x 5 = f 5 := if_neg (by decide)
theorem ul_5_8 (f : Nat → Int64) (x : Int64) : vp_updL f 8 x 5 = f 5 := if_neg (by decide)
theorem ul_6_0 (f : Nat → Int64) (x : Int64) : vp_updL f 0 x 6 = f 6 := if_neg (by decide)
theorem ul_6_1 (f : Nat → Int64) (x : Int64) : vp_updL f 1 x 6 = f 6 := if_neg (by decide)
theorem ul_6_2 (f : Nat → Int64) (x : Int64) : vp_updL f 2 x 6 = f 6 := if_neg (by decide)
theorem ul_6_3 (f : Nat → Int64) (x : Int64) : vp_updL f 3 x 6 = f 6 := if_neg (by decide)
theorem ul_6_4 (f : Nat → Int64) (x : Int64) : vp_updL f 4 x 6 = f 6 := if_neg (by decide)
theorem ul_6_5 (f : Nat → Int64) (x : Int64) : vp_updL f 5 x 6 = f 6 := if_neg (by decide)
theorem ul_6_7 (f : Nat → Int64) (x : Int64) : vp_updL f 7 x 6 = f 6 := if_neg (by decide)
theorem ul_6_8 (f : Nat → Int64) (x : Int64) : vp_updL f 8 x 6 = f 6 := if_neg (by decide)
theorem ul_7_0 (f : Nat → Int64) (x : Int64) : vp_updL f 0 x 7 = f 7 := if_neg (by decide)
theorem ul_7_1 (f : Nat → Int64) (x : Int64) : vp_updL f 1 x 7 = f 7 := if_neg (by decide)
theorem ul_7_2 (f : Nat → Int64) (x : Int64) : vp_updL f 2 x 7 = f 7 := if_neg (by decide)
theorem ul_7_3 (f : Nat → Int64) (x : Int64) : vp_updL f 3 x 7 = f 7 := if_neg (by decide)
theorem ul_7_4 (f : Nat → Int64) (x : Int64) : vp_updL f 4 x 7 = f 7 := if_neg (by decide)
theorem ul_7_5 (f : Nat → Int64) (x : Int64) : vp_updL f 5 x 7 = f 7 := if_neg (by decide)
theorem ul_7_6 (f : Nat → Int64) (x : Int64) : vp_updL f 6 x 7 = f 7 := if_neg (by decide)
theorem ul_7_8 (f : Nat → Int64) (x : Int64) : vp_updL f 8 x 7 = f 7 := if_neg (by decide)
theorem ul_8_0 (f : Nat → Int64) (x : Int64) : vp_updL f 0 x 8 = f 8 := if_neg (by decide)
theorem ul_8_1 (f : Nat → Int64) (x : Int64) : vp_updL f 1 x 8 = f 8 := if_neg (by decide)
theorem ul_8_2 (f : Nat → Int64) (x : Int64) : vp_updL f 2 x 8 = f 8 := if_neg (by decide)
theorem ul_8_3 (f : Nat → Int64) (x : Int64) : vp_updL f 3 x 8 = f 8 := if_neg (by decide)
theorem ul_8_4 (f : Nat → Int64) (x : Int64) : vp_updL f 4 x 8 = f 8 := if_neg (by decide)
theorem ul_8_5 (f : Nat → Int64) (x : Int64) : vp_updL f 5 x 8 = f 8 := if_neg (by decide)
theorem ul_8_6 (f : Nat → Int64) (x : Int64) : vp_updL f 6 x 8 = f 8 := if_neg (by decide)
theorem ul_8_7 (f : Nat → Int64) (x : Int64) : vp_updL f 7 x 8 = f 8 := if_neg (by decide)
theorem pr3 {α β γ : Type} (K : α × β × γ) : (K.1, K.2.1, K.2.2) = K := rfl
theorem nm32 (x : Int32) : nm x.toInt64 := by
  show _ < _
  rw [i32_64]
  have := Int32.le_toInt x
  omega
theorem pu_is0 {gm : Nat → Int32} {i : Int32} (hn : n_ok (gm 0)) : z5_isOf_0 gm i = z2_has (gm 0) i := (pu_has hn).symm
theorem pu_is1 {gm : Nat → Int32} {i : Int32} (hn : n_ok (gm 1)) : z5_isOf_1 gm i = z2_has (gm 1) i := (pu_has hn).symm
theorem pu_is2 {gm : Nat → Int32} {i : Int32} (hn : n_ok (gm 2)) : z5_isOf_2 gm i = z2_has (gm 2) i := (pu_has hn).symm
def r3 (g : Nat → Int32) (i k : Int32) : Int64 := (g ((3 * i + k).toNatClampNeg)).toInt64
def r6 (g : Nat → Int32) (i k : Int32) : Int64 := (g ((6 * i + k).toNatClampNeg)).toInt64
theorem r3_0 (g : Nat → Int32) (i : Int32) : (g ((3 * i).toNatClampNeg)).toInt64 = r3 g i 0 := by
  unfold r3
  rw [Int32.add_zero]
theorem r6_0 (g : Nat → Int32) (i : Int32) : (g ((6 * i).toNatClampNeg)).toInt64 = r6 g i 0 := by
  unfold r6
  rw [Int32.add_zero]
theorem r3_k (g : Nat → Int32) (i k : Int32) : (g ((3 * i + k).toNatClampNeg)).toInt64 = r3 g i k := rfl
theorem r6_k (g : Nat → Int32) (i k : Int32) : (g ((6 * i + k).toNatClampNeg)).toInt64 = r6 g i k := rfl
theorem rn_0 (g : Nat → Int32) (i k : Int32) : (z5_numberOf_0 g i k).toInt64 = r3 g i k := rfl
theorem rn_1 (g : Nat → Int32) (i k : Int32) : (z5_numberOf_1 g i k).toInt64 = r3 g i k := rfl
theorem rd3_x {n i : Int32} {g : Nat → Int32} (h : ¬ z2_has n i = 0) : z3_read_x 3 n i g = r3 g i 0 := by
  unfold z3_read_x r3
  rw [pu_get3 h (by decide) (by decide)]
theorem rd3_y {n i : Int32} {g : Nat → Int32} (h : ¬ z2_has n i = 0) : z3_read_y 3 n i g = r3 g i 1 := by
  unfold z3_read_y r3
  rw [pu_get3 h (by decide) (by decide)]
theorem rd3_z {n i : Int32} {g : Nat → Int32} (h : ¬ z2_has n i = 0) : z3_read_z 3 n i g = r3 g i 2 := by
  unfold z3_read_z r3
  rw [pu_get3 h (by decide) (by decide)]
theorem rd6_a {n i : Int32} {g : Nat → Int32} (h : ¬ z2_has n i = 0) : z0_read_a 6 n i g = r6 g i 0 := by
  unfold z0_read_a r6
  rw [pu_get6 h (by decide) (by decide)]
theorem rd6_b {n i : Int32} {g : Nat → Int32} (h : ¬ z2_has n i = 0) : z0_read_b 6 n i g = r6 g i 1 := by
  unfold z0_read_b r6
  rw [pu_get6 h (by decide) (by decide)]
theorem rd6_c {n i : Int32} {g : Nat → Int32} (h : ¬ z2_has n i = 0) : z0_read_c 6 n i g = r6 g i 2 := by
  unfold z0_read_c r6
  rw [pu_get6 h (by decide) (by decide)]
theorem rd6_d {n i : Int32} {g : Nat → Int32} (h : ¬ z2_has n i = 0) : z0_read_d 6 n i g = r6 g i 3 := by
  unfold z0_read_d r6
  rw [pu_get6 h (by decide) (by decide)]
theorem rd6_e {n i : Int32} {g : Nat → Int32} (h : ¬ z2_has n i = 0) : z0_read_e 6 n i g = r6 g i 4 := by
  unfold z0_read_e r6
  rw [pu_get6 h (by decide) (by decide)]
theorem rd6_f {n i : Int32} {g : Nat → Int32} (h : ¬ z2_has n i = 0) : z0_read_f 6 n i g = r6 g i 5 := by
  unfold z0_read_f r6
  rw [pu_get6 h (by decide) (by decide)]
/-- all that is kept is at most 500 in size -/
def b500 (g : Nat → Int32) (w : Nat) (n : Int32) : Prop := ∀ j : Nat, j < w * n.toInt.toNat → (g j).toInt.natAbs ≤ 500
theorem pu_hasi {n i : Int32} (h : ¬ z2_has n i = 0) : 0 ≤ i.toInt ∧ i.toInt < n.toInt := by
  unfold z2_has at h
  have z0 : (0 : Int32).toInt = 0 := by decide
  by_cases c1 : i < 0
  · rw [if_pos c1] at h
    exact absurd rfl h
  · rw [if_neg c1] at h
    by_cases c2 : n ≤ i
    · rw [if_pos c2] at h
      exact absurd rfl h
    · rw [Int32.lt_iff_toInt_lt, z0] at c1
      rw [Int32.le_iff_toInt_le] at c2
      omega
theorem pu_ix {w i k : Int32} (hw : 0 ≤ w.toInt ∧ w.toInt ≤ 6) (hi : 0 ≤ i.toInt ∧ i.toInt < 60) (hk : 0 ≤ k.toInt ∧ k.toInt < 6) : (w * i + k).toNatClampNeg = w.toInt.toNat * i.toInt.toNat + k.toInt.toNat := by
  have b1 : 0 ≤ w.toInt * i.toInt := Int.mul_nonneg hw.1 hi.1
  have b2 : w.toInt * i.toInt ≤ 6 * 60 := Int.mul_le_mul hw.2 (by omega) hi.1 (by omega)
  have e1 : (w * i).toInt = w.toInt * i.toInt := by
    rw [Int32.toInt_mul]
    exact Int.bmod_eq_of_le (by omega) (by omega)
  have e2 : (w * i + k).toInt = w.toInt * i.toInt + k.toInt := by
    rw [Int32.toInt_add, e1]
    exact Int.bmod_eq_of_le (by omega) (by omega)
  show (w * i + k).toInt.toNat = _
  rw [e2]
  have h1 : (w.toInt.toNat : Int) = w.toInt := Int.toNat_of_nonneg hw.1
  have h2 : (i.toInt.toNat : Int) = i.toInt := Int.toNat_of_nonneg hi.1
  have h3 : (k.toInt.toNat : Int) = k.toInt := Int.toNat_of_nonneg hk.1
  have h4 : ((w.toInt.toNat * i.toInt.toNat + k.toInt.toNat : Nat) : Int) = w.toInt * i.toInt + k.toInt := by
    rw [Int.natCast_add, Int.natCast_mul, h1, h2, h3]
  omega
theorem ri3_0 {g : Nat → Int32} {n i : Int32} (b : b500 g 3 n) (hn : n_ok n) (h : ¬ z2_has n i = 0) : iv (r3 g i 0) (r3 g i 0).toInt 500 := by
  refine ⟨rfl, ?_⟩
  have hi := pu_hasi h
  have hn2 := hn.2
  unfold r3
  rw [i32_64, pu_ix (by decide) ⟨hi.1, by omega⟩ (by decide)]
  apply b
  have w1 : (3 : Int32).toInt.toNat = 3 := by decide
  have w2 : (0 : Int32).toInt.toNat = 0 := by decide
  rw [w1, w2]
  omega
theorem ri3_1 {g : Nat → Int32} {n i : Int32} (b : b500 g 3 n) (hn : n_ok n) (h : ¬ z2_has n i = 0) : iv (r3 g i 1) (r3 g i 1).toInt 500 := by
  refine ⟨rfl, ?_⟩
  have hi := pu_hasi h
  have hn2 := hn.2
  unfold r3
  rw [i32_64, pu_ix (by decide) ⟨hi.1, by omega⟩ (by decide)]
  apply b
  have w1 : (3 : Int32).toInt.toNat = 3 := by decide
  have w2 : (1 : Int32).toInt.toNat = 1 := by decide
  rw [w1, w2]
  omega
theorem ri3_2 {g : Nat → Int32} {n i : Int32} (b : b500 g 3 n) (hn : n_ok n) (h : ¬ z2_has n i = 0) : iv (r3 g i 2) (r3 g i 2).toInt 500 := by
  refine ⟨rfl, ?_⟩
  have hi := pu_hasi h
  have hn2 := hn.2
  unfold r3
  rw [i32_64, pu_ix (by decide) ⟨hi.1, by omega⟩ (by decide)]
  apply b
  have w1 : (3 : Int32).toInt.toNat = 3 := by decide
  have w2 : (2 : Int32).toInt.toNat = 2 := by decide
  rw [w1, w2]
  omega
theorem ri6_0 {g : Nat → Int32} {n i : Int32} (b : b500 g 6 n) (hn : n_ok n) (h : ¬ z2_has n i = 0) : iv (r6 g i 0) (r6 g i 0).toInt 500 := by
  refine ⟨rfl, ?_⟩
  have hi := pu_hasi h
  have hn2 := hn.2
  unfold r6
  rw [i32_64, pu_ix (by decide) ⟨hi.1, by omega⟩ (by decide)]
  apply b
  have w1 : (6 : Int32).toInt.toNat = 6 := by decide
  have w2 : (0 : Int32).toInt.toNat = 0 := by decide
  rw [w1, w2]
  omega
theorem ri6_1 {g : Nat → Int32} {n i : Int32} (b : b500 g 6 n) (hn : n_ok n) (h : ¬ z2_has n i = 0) : iv (r6 g i 1) (r6 g i 1).toInt 500 := by
  refine ⟨rfl, ?_⟩
  have hi := pu_hasi h
  have hn2 := hn.2
  unfold r6
  rw [i32_64, pu_ix (by decide) ⟨hi.1, by omega⟩ (by decide)]
  apply b
  have w1 : (6 : Int32).toInt.toNat = 6 := by decide
  have w2 : (1 : Int32).toInt.toNat = 1 := by decide
  rw [w1, w2]
  omega
theorem ri6_2 {g : Nat → Int32} {n i : Int32} (b : b500 g 6 n) (hn : n_ok n) (h : ¬ z2_has n i = 0) : iv (r6 g i 2) (r6 g i 2).toInt 500 := by
  refine ⟨rfl, ?_⟩
  have hi := pu_hasi h
  have hn2 := hn.2
  unfold r6
  rw [i32_64, pu_ix (by decide) ⟨hi.1, by omega⟩ (by decide)]
  apply b
  have w1 : (6 : Int32).toInt.toNat = 6 := by decide
  have w2 : (2 : Int32).toInt.toNat = 2 := by decide
  rw [w1, w2]
  omega
theorem ri6_3 {g : Nat → Int32} {n i : Int32} (b : b500 g 6 n) (hn : n_ok n) (h : ¬ z2_has n i = 0) : iv (r6 g i 3) (r6 g i 3).toInt 500 := by
  refine ⟨rfl, ?_⟩
  have hi := pu_hasi h
  have hn2 := hn.2
  unfold r6
  rw [i32_64, pu_ix (by decide) ⟨hi.1, by omega⟩ (by decide)]
  apply b
  have w1 : (6 : Int32).toInt.toNat = 6 := by decide
  have w2 : (3 : Int32).toInt.toNat = 3 := by decide
  rw [w1, w2]
  omega
theorem ri6_4 {g : Nat → Int32} {n i : Int32} (b : b500 g 6 n) (hn : n_ok n) (h : ¬ z2_has n i = 0) : iv (r6 g i 4) (r6 g i 4).toInt 500 := by
  refine ⟨rfl, ?_⟩
  have hi := pu_hasi h
  have hn2 := hn.2
  unfold r6
  rw [i32_64, pu_ix (by decide) ⟨hi.1, by omega⟩ (by decide)]
  apply b
  have w1 : (6 : Int32).toInt.toNat = 6 := by decide
  have w2 : (4 : Int32).toInt.toNat = 4 := by decide
  rw [w1, w2]
  omega
theorem ri6_5 {g : Nat → Int32} {n i : Int32} (b : b500 g 6 n) (hn : n_ok n) (h : ¬ z2_has n i = 0) : iv (r6 g i 5) (r6 g i 5).toInt 500 := by
  refine ⟨rfl, ?_⟩
  have hi := pu_hasi h
  have hn2 := hn.2
  unfold r6
  rw [i32_64, pu_ix (by decide) ⟨hi.1, by omega⟩ (by decide)]
  apply b
  have w1 : (6 : Int32).toInt.toNat = 6 := by decide
  have w2 : (5 : Int32).toInt.toNat = 5 := by decide
  rw [w1, w2]
  omega
/-- every point, or line, that is kept is normalised; no conic that is kept is all 0 -/
def nk3 (g : Nat → Int32) (n : Int32) : Prop := ∀ i : Int32, ¬ z2_has n i = 0 → nrm (r3 g i 0).toInt (r3 g i 1).toInt (r3 g i 2).toInt
def nz6 (g : Nat → Int32) (n : Int32) : Prop := ∀ i : Int32, ¬ z2_has n i = 0 → ¬ (r6 g i 0 = 0 ∧ r6 g i 1 = 0 ∧ r6 g i 2 = 0 ∧ r6 g i 3 = 0 ∧ r6 g i 4 = 0 ∧ r6 g i 5 = 0)
def G3 (g : Nat → Int32) (n : Int32) : Prop := n_ok n ∧ b500 g 3 n ∧ nk3 g n
def G6 (g : Nat → Int32) (n : Int32) : Prop := n_ok n ∧ b500 g 6 n ∧ nz6 g n
theorem w500 {x : Int64} (h : ¬ z4_isWithin x 500 = 0) : x.toInt.natAbs ≤ 500 ∧ x.toInt32.toInt = x.toInt ∧ x.toInt32.toInt64 = x := by
  have m5 : (-(500 : Int64)).toInt = -500 := by decide
  have p5 : (500 : Int64).toInt = 500 := by decide
  have b : x.toInt.natAbs ≤ 500 := by
    unfold z4_isWithin at h
    by_cases c1 : x < -500
    · rw [if_pos c1] at h
      exact absurd rfl h
    · rw [if_neg c1] at h
      by_cases c2 : 500 < x
      · rw [if_pos c2] at h
        exact absurd rfl h
      · rw [Int64.lt_iff_toInt_lt, m5] at c1
        rw [Int64.lt_iff_toInt_lt, p5] at c2
        omega
  have e : x.toInt32.toInt = x.toInt := by
    rw [Int64.toInt_toInt32]
    exact Int.bmod_eq_of_le (by omega) (by omega)
  refine ⟨b, e, Int64.toInt_inj.mp ?_⟩
  rw [i32_64, e]
theorem has_of {n i : Int32} (h : 0 ≤ i.toInt) (k : i.toInt < n.toInt) : ¬ z2_has n i = 0 := by
  unfold z2_has
  have z0 : (0 : Int32).toInt = 0 := by decide
  rw [if_neg (by rw [Int32.lt_iff_toInt_lt, z0]; omega), if_neg (by rw [Int32.le_iff_toInt_le]; omega)]
  exact pu_10
theorem n_inc {n : Int32} (h : n_ok n) (q : n < 60) : (n + 1).toInt = n.toInt + 1 ∧ n_ok (n + 1) := by
  have z6 : (60 : Int32).toInt = 60 := by decide
  have z1 : (1 : Int32).toInt = 1 := by decide
  obtain ⟨h1, h2⟩ := h
  rw [Int32.lt_iff_toInt_lt, z6] at q
  have e : (n + 1).toInt = n.toInt + 1 := by
    rw [Int32.toInt_add, z1]
    exact Int.bmod_eq_of_le (by omega) (by omega)
  exact ⟨e, by unfold n_ok; rw [e]; omega⟩
theorem app3 {g : Nat → Int32} {n : Int32} {s0 s1 s2 : Int64} (hn : n_ok n) (q : n < 60) (b : b500 g 3 n) (w0 : ¬ z4_isWithin s0 500 = 0) (w1 : ¬ z4_isWithin s1 500 = 0) (w2 : ¬ z4_isWithin s2 500 = 0) : b500 (upd (upd (upd g ((3 * n + 0).toNatClampNeg) (s0.toInt32)) ((3 * n + 1).toNatClampNeg) (s1.toInt32)) ((3 * n + 2).toNatClampNeg) (s2.toInt32)) 3 (n + 1) ∧ (∀ i : Int32, ¬ z2_has (n + 1) i = 0 → (¬ z2_has n i = 0 ∧ r3 (upd (upd (upd g ((3 * n + 0).toNatClampNeg) (s0.toInt32)) ((3 * n + 1).toNatClampNeg) (s1.toInt32)) ((3 * n + 2).toNatClampNeg) (s2.toInt32)) i 0 = r3 g i 0 ∧ r3 (upd (upd (upd g ((3 * n + 0).toNatClampNeg) (s0.toInt32)) ((3 * n + 1).toNatClampNeg) (s1.toInt32)) ((3 * n + 2).toNatClampNeg) (s2.toInt32)) i 1 = r3 g i 1 ∧ r3 (upd (upd (upd g ((3 * n + 0).toNatClampNeg) (s0.toInt32)) ((3 * n + 1).toNatClampNeg) (s1.toInt32)) ((3 * n + 2).toNatClampNeg) (s2.toInt32)) i 2 = r3 g i 2) ∨ (r3 (upd (upd (upd g ((3 * n + 0).toNatClampNeg) (s0.toInt32)) ((3 * n + 1).toNatClampNeg) (s1.toInt32)) ((3 * n + 2).toNatClampNeg) (s2.toInt32)) i 0 = s0 ∧ r3 (upd (upd (upd g ((3 * n + 0).toNatClampNeg) (s0.toInt32)) ((3 * n + 1).toNatClampNeg) (s1.toInt32)) ((3 * n + 2).toNatClampNeg) (s2.toInt32)) i 1 = s1 ∧ r3 (upd (upd (upd g ((3 * n + 0).toNatClampNeg) (s0.toInt32)) ((3 * n + 1).toNatClampNeg) (s1.toInt32)) ((3 * n + 2).toNatClampNeg) (s2.toInt32)) i 2 = s2)) := by
  have z6 : (60 : Int32).toInt = 60 := by decide
  obtain ⟨e1, n1⟩ := n_inc hn q
  have q' := q
  rw [Int32.lt_iff_toInt_lt, z6] at q'
  have ww : (3 : Int32).toInt.toNat = 3 := by decide
  have v0 : (0 : Int32).toInt.toNat = 0 := by decide
  have x0 : ((3 * n + 0).toNatClampNeg) = 3 * n.toInt.toNat + 0 := by
    rw [pu_ix (by decide) ⟨hn.1, by omega⟩ (by decide), ww, v0]
  have v1 : (1 : Int32).toInt.toNat = 1 := by decide
  have x1 : ((3 * n + 1).toNatClampNeg) = 3 * n.toInt.toNat + 1 := by
    rw [pu_ix (by decide) ⟨hn.1, by omega⟩ (by decide), ww, v1]
  have v2 : (2 : Int32).toInt.toNat = 2 := by decide
  have x2 : ((3 * n + 2).toNatClampNeg) = 3 * n.toInt.toNat + 2 := by
    rw [pu_ix (by decide) ⟨hn.1, by omega⟩ (by decide), ww, v2]
  rw [x0, x1, x2]
  have hN : n.toInt = (n.toInt.toNat : Int) := by have := hn.1; omega
  have eN : (n + 1).toInt.toNat = n.toInt.toNat + 1 := by have := hn.1; omega
  generalize n.toInt.toNat = N at *
  have old : ∀ j, j < 3 * N → (upd (upd (upd g (3 * N + 0) (s0.toInt32)) (3 * N + 1) (s1.toInt32)) (3 * N + 2) (s2.toInt32)) j = g j := by
    intro j hj
    unfold upd
    rw [if_neg (by omega), if_neg (by omega), if_neg (by omega)]
  have new0 : (upd (upd (upd g (3 * N + 0) (s0.toInt32)) (3 * N + 1) (s1.toInt32)) (3 * N + 2) (s2.toInt32)) (3 * N + 0) = s0.toInt32 := by
    unfold upd
    rw [if_neg (by omega), if_neg (by omega), if_pos rfl]
  have new1 : (upd (upd (upd g (3 * N + 0) (s0.toInt32)) (3 * N + 1) (s1.toInt32)) (3 * N + 2) (s2.toInt32)) (3 * N + 1) = s1.toInt32 := by
    unfold upd
    rw [if_neg (by omega), if_pos rfl]
  have new2 : (upd (upd (upd g (3 * N + 0) (s0.toInt32)) (3 * N + 1) (s1.toInt32)) (3 * N + 2) (s2.toInt32)) (3 * N + 2) = s2.toInt32 := by
    unfold upd
    rw [if_pos rfl]
  constructor
  · intro j hj
    rw [eN] at hj
    by_cases c : j < 3 * N
    · rw [old j c]
      exact b j (by rw [← (show n.toInt.toNat = N by omega)] at c; exact c)
    · rcases (show j = 3 * N + 0 ∨ j = 3 * N + 1 ∨ j = 3 * N + 2 by omega) with c | c | c
      · rw [c, new0, (w500 w0).2.1]
        exact (w500 w0).1
      · rw [c, new1, (w500 w1).2.1]
        exact (w500 w1).1
      · rw [c, new2, (w500 w2).2.1]
        exact (w500 w2).1
  · intro i hi
    have hi' := pu_hasi hi
    rw [e1] at hi'
    have ii : (i.toInt.toNat : Int) = i.toInt := Int.toNat_of_nonneg hi'.1
    have y0 : (3 * i + 0).toNatClampNeg = 3 * i.toInt.toNat + 0 := by
      rw [pu_ix (by decide) ⟨hi'.1, by omega⟩ (by decide), ww, v0]
    have y1 : (3 * i + 1).toNatClampNeg = 3 * i.toInt.toNat + 1 := by
      rw [pu_ix (by decide) ⟨hi'.1, by omega⟩ (by decide), ww, v1]
    have y2 : (3 * i + 2).toNatClampNeg = 3 * i.toInt.toNat + 2 := by
      rw [pu_ix (by decide) ⟨hi'.1, by omega⟩ (by decide), ww, v2]
    unfold r3
    rw [y0, y1, y2]
    by_cases c : i.toInt < n.toInt
    · refine Or.inl ⟨has_of hi'.1 c, ?_, ?_, ?_⟩
      · rw [old _ (by omega)]
      · rw [old _ (by omega)]
      · rw [old _ (by omega)]
    · have ie : i.toInt.toNat = N := by omega
      rw [ie]
      exact Or.inr ⟨by rw [new0, (w500 w0).2.2], by rw [new1, (w500 w1).2.2], by rw [new2, (w500 w2).2.2]⟩
theorem kt3_G {g : Nat → Int32} {n : Int32} {x y z : Int64} (h : G3 g n) (hx : nm x) (hy : nm y) (hz : nm z) (nz : ¬ (x = 0 ∧ y = 0 ∧ z = 0)) : G3 (kt3 n g x y z).2.2 (kt3 n g x y z).2.1 := by
  obtain ⟨hn, hb', hk⟩ := h
  have rs := (red_spec hx hy hz nz).1
  rw [pu_kt3]
  generalize (z3_reduce x y z).1 = s0 at *
  generalize (z3_reduce x y z).2.1 = s1 at *
  generalize (z3_reduce x y z).2.2 = s2 at *
  by_cases q : z3_isWithin s0 s1 s2 500 = 0
  · rw [if_pos q]
    exact ⟨hn, hb', hk⟩
  · rw [if_neg q]
    unfold z3_isWithin at q
    by_cases w0 : z4_isWithin s0 500 = 0
    · rw [if_pos w0] at q
      exact absurd rfl q
    rw [if_neg w0] at q
    by_cases w1 : z4_isWithin s1 500 = 0
    · rw [if_pos w1] at q
      exact absurd rfl q
    rw [if_neg w1] at q
    by_cases w2 : z4_isWithin s2 500 = 0
    · rw [if_pos w2] at q
      exact absurd rfl q
    rw [if_neg w2] at q
    clear q
    by_cases f60 : n = 60
    · have q1 : ¬ n < 60 := by rw [f60]; decide
      have q2 : 60 ≤ n := by rw [f60]; decide
      rw [pu_clf q1, pu_put60 q2, pu_put60 q2, pu_put60 q2]
      exact ⟨hn, hb', hk⟩
    obtain ⟨q1, q2⟩ := pu_lt60 hn f60
    rw [pu_cl60 q1, pu_put (k := 2) q2 (by decide) (by decide), pu_put (k := 1) q2 (by decide) (by decide), pu_put (k := 0) q2 (by decide) (by decide)]
    obtain ⟨e1, n1⟩ := n_inc hn q1
    obtain ⟨bb, nn⟩ := app3 hn q1 hb' w0 w1 w2
    refine ⟨n1, bb, fun i hi => ?_⟩
    rcases nn i hi with ⟨h1, r0, r1, r2⟩ | ⟨r0, r1, r2⟩
    · rw [r0, r1, r2]
      exact hk i h1
    · rw [r0, r1, r2]
      exact rs
theorem app6 {g : Nat → Int32} {n : Int32} {s0 s1 s2 s3 s4 s5 : Int64} (hn : n_ok n) (q : n < 60) (b : b500 g 6 n) (w0 : ¬ z4_isWithin s0 500 = 0) (w1 : ¬ z4_isWithin s1 500 = 0) (w2 : ¬ z4_isWithin s2 500 = 0) (w3 : ¬ z4_isWithin s3 500 = 0) (w4 : ¬ z4_isWithin s4 500 = 0) (w5 : ¬ z4_isWithin s5 500 = 0) : b500 (upd (upd (upd (upd (upd (upd g ((6 * n + 0).toNatClampNeg) (s0.toInt32)) ((6 * n + 1).toNatClampNeg) (s1.toInt32)) ((6 * n + 2).toNatClampNeg) (s2.toInt32)) ((6 * n + 3).toNatClampNeg) (s3.toInt32)) ((6 * n + 4).toNatClampNeg) (s4.toInt32)) ((6 * n + 5).toNatClampNeg) (s5.toInt32)) 6 (n + 1) ∧ (∀ i : Int32, ¬ z2_has (n + 1) i = 0 → (¬ z2_has n i = 0 ∧ r6 (upd (upd (upd (upd (upd (upd g ((6 * n + 0).toNatClampNeg) (s0.toInt32)) ((6 * n + 1).toNatClampNeg) (s1.toInt32)) ((6 * n + 2).toNatClampNeg) (s2.toInt32)) ((6 * n + 3).toNatClampNeg) (s3.toInt32)) ((6 * n + 4).toNatClampNeg) (s4.toInt32)) ((6 * n + 5).toNatClampNeg) (s5.toInt32)) i 0 = r6 g i 0 ∧ r6 (upd (upd (upd (upd (upd (upd g ((6 * n + 0).toNatClampNeg) (s0.toInt32)) ((6 * n + 1).toNatClampNeg) (s1.toInt32)) ((6 * n + 2).toNatClampNeg) (s2.toInt32)) ((6 * n + 3).toNatClampNeg) (s3.toInt32)) ((6 * n + 4).toNatClampNeg) (s4.toInt32)) ((6 * n + 5).toNatClampNeg) (s5.toInt32)) i 1 = r6 g i 1 ∧ r6 (upd (upd (upd (upd (upd (upd g ((6 * n + 0).toNatClampNeg) (s0.toInt32)) ((6 * n + 1).toNatClampNeg) (s1.toInt32)) ((6 * n + 2).toNatClampNeg) (s2.toInt32)) ((6 * n + 3).toNatClampNeg) (s3.toInt32)) ((6 * n + 4).toNatClampNeg) (s4.toInt32)) ((6 * n + 5).toNatClampNeg) (s5.toInt32)) i 2 = r6 g i 2 ∧ r6 (upd (upd (upd (upd (upd (upd g ((6 * n + 0).toNatClampNeg) (s0.toInt32)) ((6 * n + 1).toNatClampNeg) (s1.toInt32)) ((6 * n + 2).toNatClampNeg) (s2.toInt32)) ((6 * n + 3).toNatClampNeg) (s3.toInt32)) ((6 * n + 4).toNatClampNeg) (s4.toInt32)) ((6 * n + 5).toNatClampNeg) (s5.toInt32)) i 3 = r6 g i 3 ∧ r6 (upd (upd (upd (upd (upd (upd g ((6 * n + 0).toNatClampNeg) (s0.toInt32)) ((6 * n + 1).toNatClampNeg) (s1.toInt32)) ((6 * n + 2).toNatClampNeg) (s2.toInt32)) ((6 * n + 3).toNatClampNeg) (s3.toInt32)) ((6 * n + 4).toNatClampNeg) (s4.toInt32)) ((6 * n + 5).toNatClampNeg) (s5.toInt32)) i 4 = r6 g i 4 ∧ r6 (upd (upd (upd (upd (upd (upd g ((6 * n + 0).toNatClampNeg) (s0.toInt32)) ((6 * n + 1).toNatClampNeg) (s1.toInt32)) ((6 * n + 2).toNatClampNeg) (s2.toInt32)) ((6 * n + 3).toNatClampNeg) (s3.toInt32)) ((6 * n + 4).toNatClampNeg) (s4.toInt32)) ((6 * n + 5).toNatClampNeg) (s5.toInt32)) i 5 = r6 g i 5) ∨ (r6 (upd (upd (upd (upd (upd (upd g ((6 * n + 0).toNatClampNeg) (s0.toInt32)) ((6 * n + 1).toNatClampNeg) (s1.toInt32)) ((6 * n + 2).toNatClampNeg) (s2.toInt32)) ((6 * n + 3).toNatClampNeg) (s3.toInt32)) ((6 * n + 4).toNatClampNeg) (s4.toInt32)) ((6 * n + 5).toNatClampNeg) (s5.toInt32)) i 0 = s0 ∧ r6 (upd (upd (upd (upd (upd (upd g ((6 * n + 0).toNatClampNeg) (s0.toInt32)) ((6 * n + 1).toNatClampNeg) (s1.toInt32)) ((6 * n + 2).toNatClampNeg) (s2.toInt32)) ((6 * n + 3).toNatClampNeg) (s3.toInt32)) ((6 * n + 4).toNatClampNeg) (s4.toInt32)) ((6 * n + 5).toNatClampNeg) (s5.toInt32)) i 1 = s1 ∧ r6 (upd (upd (upd (upd (upd (upd g ((6 * n + 0).toNatClampNeg) (s0.toInt32)) ((6 * n + 1).toNatClampNeg) (s1.toInt32)) ((6 * n + 2).toNatClampNeg) (s2.toInt32)) ((6 * n + 3).toNatClampNeg) (s3.toInt32)) ((6 * n + 4).toNatClampNeg) (s4.toInt32)) ((6 * n + 5).toNatClampNeg) (s5.toInt32)) i 2 = s2 ∧ r6 (upd (upd (upd (upd (upd (upd g ((6 * n + 0).toNatClampNeg) (s0.toInt32)) ((6 * n + 1).toNatClampNeg) (s1.toInt32)) ((6 * n + 2).toNatClampNeg) (s2.toInt32)) ((6 * n + 3).toNatClampNeg) (s3.toInt32)) ((6 * n + 4).toNatClampNeg) (s4.toInt32)) ((6 * n + 5).toNatClampNeg) (s5.toInt32)) i 3 = s3 ∧ r6 (upd (upd (upd (upd (upd (upd g ((6 * n + 0).toNatClampNeg) (s0.toInt32)) ((6 * n + 1).toNatClampNeg) (s1.toInt32)) ((6 * n + 2).toNatClampNeg) (s2.toInt32)) ((6 * n + 3).toNatClampNeg) (s3.toInt32)) ((6 * n + 4).toNatClampNeg) (s4.toInt32)) ((6 * n + 5).toNatClampNeg) (s5.toInt32)) i 4 = s4 ∧ r6 (upd (upd (upd (upd (upd (upd g ((6 * n + 0).toNatClampNeg) (s0.toInt32)) ((6 * n + 1).toNatClampNeg) (s1.toInt32)) ((6 * n + 2).toNatClampNeg) (s2.toInt32)) ((6 * n + 3).toNatClampNeg) (s3.toInt32)) ((6 * n + 4).toNatClampNeg) (s4.toInt32)) ((6 * n + 5).toNatClampNeg) (s5.toInt32)) i 5 = s5)) := by
  have z6 : (60 : Int32).toInt = 60 := by decide
  obtain ⟨e1, n1⟩ := n_inc hn q
  have q' := q
  rw [Int32.lt_iff_toInt_lt, z6] at q'
  have ww : (6 : Int32).toInt.toNat = 6 := by decide
  have v0 : (0 : Int32).toInt.toNat = 0 := by decide
  have x0 : ((6 * n + 0).toNatClampNeg) = 6 * n.toInt.toNat + 0 := by
    rw [pu_ix (by decide) ⟨hn.1, by omega⟩ (by decide), ww, v0]
  have v1 : (1 : Int32).toInt.toNat = 1 := by decide
  have x1 : ((6 * n + 1).toNatClampNeg) = 6 * n.toInt.toNat + 1 := by
    rw [pu_ix (by decide) ⟨hn.1, by omega⟩ (by decide), ww, v1]
  have v2 : (2 : Int32).toInt.toNat = 2 := by decide
  have x2 : ((6 * n + 2).toNatClampNeg) = 6 * n.toInt.toNat + 2 := by
    rw [pu_ix (by decide) ⟨hn.1, by omega⟩ (by decide), ww, v2]
  have v3 : (3 : Int32).toInt.toNat = 3 := by decide
  have x3 : ((6 * n + 3).toNatClampNeg) = 6 * n.toInt.toNat + 3 := by
    rw [pu_ix (by decide) ⟨hn.1, by omega⟩ (by decide), ww, v3]
  have v4 : (4 : Int32).toInt.toNat = 4 := by decide
  have x4 : ((6 * n + 4).toNatClampNeg) = 6 * n.toInt.toNat + 4 := by
    rw [pu_ix (by decide) ⟨hn.1, by omega⟩ (by decide), ww, v4]
  have v5 : (5 : Int32).toInt.toNat = 5 := by decide
  have x5 : ((6 * n + 5).toNatClampNeg) = 6 * n.toInt.toNat + 5 := by
    rw [pu_ix (by decide) ⟨hn.1, by omega⟩ (by decide), ww, v5]
  rw [x0, x1, x2, x3, x4, x5]
  have hN : n.toInt = (n.toInt.toNat : Int) := by have := hn.1; omega
  have eN : (n + 1).toInt.toNat = n.toInt.toNat + 1 := by have := hn.1; omega
  generalize n.toInt.toNat = N at *
  have old : ∀ j, j < 6 * N → (upd (upd (upd (upd (upd (upd g (6 * N + 0) (s0.toInt32)) (6 * N + 1) (s1.toInt32)) (6 * N + 2) (s2.toInt32)) (6 * N + 3) (s3.toInt32)) (6 * N + 4) (s4.toInt32)) (6 * N + 5) (s5.toInt32)) j = g j := by
    intro j hj
    unfold upd
    rw [if_neg (by omega), if_neg (by omega), if_neg (by omega), if_neg (by omega), if_neg (by omega), if_neg (by omega)]
  have new0 : (upd (upd (upd (upd (upd (upd g (6 * N + 0) (s0.toInt32)) (6 * N + 1) (s1.toInt32)) (6 * N + 2) (s2.toInt32)) (6 * N + 3) (s3.toInt32)) (6 * N + 4) (s4.toInt32)) (6 * N + 5) (s5.toInt32)) (6 * N + 0) = s0.toInt32 := by
    unfold upd
    rw [if_neg (by omega), if_neg (by omega), if_neg (by omega), if_neg (by omega), if_neg (by omega), if_pos rfl]
  have new1 : (upd (upd (upd (upd (upd (upd g (6 * N + 0) (s0.toInt32)) (6 * N + 1) (s1.toInt32)) (6 * N + 2) (s2.toInt32)) (6 * N + 3) (s3.toInt32)) (6 * N + 4) (s4.toInt32)) (6 * N + 5) (s5.toInt32)) (6 * N + 1) = s1.toInt32 := by
    unfold upd
    rw [if_neg (by omega), if_neg (by omega), if_neg (by omega), if_neg (by omega), if_pos rfl]
  have new2 : (upd (upd (upd (upd (upd (upd g (6 * N + 0) (s0.toInt32)) (6 * N + 1) (s1.toInt32)) (6 * N + 2) (s2.toInt32)) (6 * N + 3) (s3.toInt32)) (6 * N + 4) (s4.toInt32)) (6 * N + 5) (s5.toInt32)) (6 * N + 2) = s2.toInt32 := by
    unfold upd
    rw [if_neg (by omega), if_neg (by omega), if_neg (by omega), if_pos rfl]
  have new3 : (upd (upd (upd (upd (upd (upd g (6 * N + 0) (s0.toInt32)) (6 * N + 1) (s1.toInt32)) (6 * N + 2) (s2.toInt32)) (6 * N + 3) (s3.toInt32)) (6 * N + 4) (s4.toInt32)) (6 * N + 5) (s5.toInt32)) (6 * N + 3) = s3.toInt32 := by
    unfold upd
    rw [if_neg (by omega), if_neg (by omega), if_pos rfl]
  have new4 : (upd (upd (upd (upd (upd (upd g (6 * N + 0) (s0.toInt32)) (6 * N + 1) (s1.toInt32)) (6 * N + 2) (s2.toInt32)) (6 * N + 3) (s3.toInt32)) (6 * N + 4) (s4.toInt32)) (6 * N + 5) (s5.toInt32)) (6 * N + 4) = s4.toInt32 := by
    unfold upd
    rw [if_neg (by omega), if_pos rfl]
  have new5 : (upd (upd (upd (upd (upd (upd g (6 * N + 0) (s0.toInt32)) (6 * N + 1) (s1.toInt32)) (6 * N + 2) (s2.toInt32)) (6 * N + 3) (s3.toInt32)) (6 * N + 4) (s4.toInt32)) (6 * N + 5) (s5.toInt32)) (6 * N + 5) = s5.toInt32 := by
    unfold upd
    rw [if_pos rfl]
  constructor
  · intro j hj
    rw [eN] at hj
    by_cases c : j < 6 * N
    · rw [old j c]
      exact b j (by rw [← (show n.toInt.toNat = N by omega)] at c; exact c)
    · rcases (show j = 6 * N + 0 ∨ j = 6 * N + 1 ∨ j = 6 * N + 2 ∨ j = 6 * N + 3 ∨ j = 6 * N + 4 ∨ j = 6 * N + 5 by omega) with c | c | c | c | c | c
      · rw [c, new0, (w500 w0).2.1]
        exact (w500 w0).1
      · rw [c, new1, (w500 w1).2.1]
        exact (w500 w1).1
      · rw [c, new2, (w500 w2).2.1]
        exact (w500 w2).1
      · rw [c, new3, (w500 w3).2.1]
        exact (w500 w3).1
      · rw [c, new4, (w500 w4).2.1]
        exact (w500 w4).1
      · rw [c, new5, (w500 w5).2.1]
        exact (w500 w5).1
  · intro i hi
    have hi' := pu_hasi hi
    rw [e1] at hi'
    have ii : (i.toInt.toNat : Int) = i.toInt := Int.toNat_of_nonneg hi'.1
    have y0 : (6 * i + 0).toNatClampNeg = 6 * i.toInt.toNat + 0 := by
      rw [pu_ix (by decide) ⟨hi'.1, by omega⟩ (by decide), ww, v0]
    have y1 : (6 * i + 1).toNatClampNeg = 6 * i.toInt.toNat + 1 := by
      rw [pu_ix (by decide) ⟨hi'.1, by omega⟩ (by decide), ww, v1]
    have y2 : (6 * i + 2).toNatClampNeg = 6 * i.toInt.toNat + 2 := by
      rw [pu_ix (by decide) ⟨hi'.1, by omega⟩ (by decide), ww, v2]
    have y3 : (6 * i + 3).toNatClampNeg = 6 * i.toInt.toNat + 3 := by
      rw [pu_ix (by decide) ⟨hi'.1, by omega⟩ (by decide), ww, v3]
    have y4 : (6 * i + 4).toNatClampNeg = 6 * i.toInt.toNat + 4 := by
      rw [pu_ix (by decide) ⟨hi'.1, by omega⟩ (by decide), ww, v4]
    have y5 : (6 * i + 5).toNatClampNeg = 6 * i.toInt.toNat + 5 := by
      rw [pu_ix (by decide) ⟨hi'.1, by omega⟩ (by decide), ww, v5]
    unfold r6
    rw [y0, y1, y2, y3, y4, y5]
    by_cases c : i.toInt < n.toInt
    · refine Or.inl ⟨has_of hi'.1 c, ?_, ?_, ?_, ?_, ?_, ?_⟩
      · rw [old _ (by omega)]
      · rw [old _ (by omega)]
      · rw [old _ (by omega)]
      · rw [old _ (by omega)]
      · rw [old _ (by omega)]
      · rw [old _ (by omega)]
    · have ie : i.toInt.toNat = N := by omega
      rw [ie]
      exact Or.inr ⟨by rw [new0, (w500 w0).2.2], by rw [new1, (w500 w1).2.2], by rw [new2, (w500 w2).2.2], by rw [new3, (w500 w3).2.2], by rw [new4, (w500 w4).2.2], by rw [new5, (w500 w5).2.2]⟩
theorem red6_nz {a b c d e f : Int64} (ha : nm a) (hb : nm b) (hc : nm c) (hd : nm d) (he : nm e) (hf : nm f) (nz : ¬ (a = 0 ∧ b = 0 ∧ c = 0 ∧ d = 0 ∧ e = 0 ∧ f = 0)) : ¬ ((z0_reduce a b c d e f).1 = 0 ∧ (z0_reduce a b c d e f).2.1 = 0 ∧ (z0_reduce a b c d e f).2.2.1 = 0 ∧ (z0_reduce a b c d e f).2.2.2.1 = 0 ∧ (z0_reduce a b c d e f).2.2.2.2.1 = 0 ∧ (z0_reduce a b c d e f).2.2.2.2.2 = 0) := by
  have dn : ¬ dv6 a b c d e f = 0 := fun q => nz (pu_dv6z.mp q)
  have sn : ¬ sd6 a b c d e f = 0 := fun q => dn (pu_sd6z.mp q)
  have er : (z0_reduce a b c d e f) = (a / sd6 a b c d e f, b / sd6 a b c d e f, c / sd6 a b c d e f, d / sd6 a b c d e f, e / sd6 a b c d e f, f / sd6 a b c d e f) := by
    rw [pu_red6, if_neg sn]
  rw [er]
  have hG := pu_dv6 ha hb hc hd he hf
  have lim := Int64.toInt_lt (dv6 a b c d e f)
  have sa : (sd6 a b c d e f).toInt.natAbs = gg6 a.toInt b.toInt c.toInt d.toInt e.toInt f.toInt := by
    unfold sd6
    by_cases q : 0 ≤ z0_firstNumber a b c d e f
    · rw [if_pos q, hG]
      omega
    · have en : (-(dv6 a b c d e f)).toInt = -(dv6 a b c d e f).toInt := iv_b (Int64.toInt_neg _) (by omega)
      rw [if_neg q, en, hG]
      omega
  have dv : ∀ x : Int64, nm x → gg6 a.toInt b.toInt c.toInt d.toInt e.toInt f.toInt ∣ x.toInt.natAbs → x / sd6 a b c d e f = 0 → x = 0 := by
    intro x hx d z
    have z' := congrArg Int64.toInt z
    rw [pu_divx hx, pu_z0] at z'
    rw [← sa] at d
    have m := Int.mul_tdiv_cancel' (Int.natAbs_dvd_natAbs.mp d)
    rw [z', Int.mul_zero] at m
    exact pu_nez.mpr m.symm
  rintro ⟨q0, q1, q2, q3, q4, q5⟩
  have g5 : gg6 a.toInt b.toInt c.toInt d.toInt e.toInt f.toInt ∣ gg5 a.toInt b.toInt c.toInt d.toInt e.toInt := Nat.gcd_dvd_left _ _
  have g4 : gg5 a.toInt b.toInt c.toInt d.toInt e.toInt ∣ gg4 a.toInt b.toInt c.toInt d.toInt := Nat.gcd_dvd_left _ _
  have g3 : gg4 a.toInt b.toInt c.toInt d.toInt ∣ gg3 a.toInt b.toInt c.toInt := Nat.gcd_dvd_left _ _
  have g2 : gg3 a.toInt b.toInt c.toInt ∣ Nat.gcd a.toInt.natAbs b.toInt.natAbs := Nat.gcd_dvd_left _ _
  have k4 := Nat.dvd_trans g5 g4
  have k3 := Nat.dvd_trans k4 g3
  have k2 := Nat.dvd_trans k3 g2
  exact nz ⟨dv a ha (Nat.dvd_trans k2 (Nat.gcd_dvd_left _ _)) q0, dv b hb (Nat.dvd_trans k2 (Nat.gcd_dvd_right _ _)) q1, dv c hc (Nat.dvd_trans k3 (Nat.gcd_dvd_right _ _)) q2, dv d hd (Nat.dvd_trans k4 (Nat.gcd_dvd_right _ _)) q3, dv e he (Nat.dvd_trans g5 (Nat.gcd_dvd_right _ _)) q4, dv f hf (Nat.gcd_dvd_right _ _) q5⟩
theorem kt6_G {g : Nat → Int32} {n : Int32} {a b c d e f : Int64} (h : G6 g n) (ha : nm a) (hb : nm b) (hc : nm c) (hd : nm d) (he : nm e) (hf : nm f) (nz : ¬ (a = 0 ∧ b = 0 ∧ c = 0 ∧ d = 0 ∧ e = 0 ∧ f = 0)) : G6 (kt6 n g a b c d e f).2.2 (kt6 n g a b c d e f).2.1 := by
  obtain ⟨hn, hb', hk⟩ := h
  have rs := red6_nz ha hb hc hd he hf nz
  rw [pu_kt6]
  generalize (z0_reduce a b c d e f).1 = s0 at *
  generalize (z0_reduce a b c d e f).2.1 = s1 at *
  generalize (z0_reduce a b c d e f).2.2.1 = s2 at *
  generalize (z0_reduce a b c d e f).2.2.2.1 = s3 at *
  generalize (z0_reduce a b c d e f).2.2.2.2.1 = s4 at *
  generalize (z0_reduce a b c d e f).2.2.2.2.2 = s5 at *
  by_cases q : z0_isWithin s0 s1 s2 s3 s4 s5 500 = 0
  · rw [if_pos q]
    exact ⟨hn, hb', hk⟩
  · rw [if_neg q]
    unfold z0_isWithin at q
    by_cases w0 : z4_isWithin s0 500 = 0
    · rw [if_pos w0] at q
      exact absurd rfl q
    rw [if_neg w0] at q
    by_cases w1 : z4_isWithin s1 500 = 0
    · rw [if_pos w1] at q
      exact absurd rfl q
    rw [if_neg w1] at q
    by_cases w2 : z4_isWithin s2 500 = 0
    · rw [if_pos w2] at q
      exact absurd rfl q
    rw [if_neg w2] at q
    by_cases w3 : z4_isWithin s3 500 = 0
    · rw [if_pos w3] at q
      exact absurd rfl q
    rw [if_neg w3] at q
    by_cases w4 : z4_isWithin s4 500 = 0
    · rw [if_pos w4] at q
      exact absurd rfl q
    rw [if_neg w4] at q
    by_cases w5 : z4_isWithin s5 500 = 0
    · rw [if_pos w5] at q
      exact absurd rfl q
    rw [if_neg w5] at q
    clear q
    by_cases f60 : n = 60
    · have q1 : ¬ n < 60 := by rw [f60]; decide
      have q2 : 60 ≤ n := by rw [f60]; decide
      rw [pu_clf q1, pu_put60 q2, pu_put60 q2, pu_put60 q2, pu_put60 q2, pu_put60 q2, pu_put60 q2]
      exact ⟨hn, hb', hk⟩
    obtain ⟨q1, q2⟩ := pu_lt60 hn f60
    rw [pu_cl60 q1, pu_put (k := 5) q2 (by decide) (by decide), pu_put (k := 4) q2 (by decide) (by decide), pu_put (k := 3) q2 (by decide) (by decide), pu_put (k := 2) q2 (by decide) (by decide), pu_put (k := 1) q2 (by decide) (by decide), pu_put (k := 0) q2 (by decide) (by decide)]
    obtain ⟨e1, n1⟩ := n_inc hn q1
    obtain ⟨bb, nn⟩ := app6 hn q1 hb' w0 w1 w2 w3 w4 w5
    refine ⟨n1, bb, fun i hi => ?_⟩
    rcases nn i hi with ⟨h1, r0, r1, r2, r3', r4, r5⟩ | ⟨r0, r1, r2, r3', r4, r5⟩
    · rw [r0, r1, r2, r3', r4, r5]
      exact hk i h1
    · rw [r0, r1, r2, r3', r4, r5]
      exact rs
