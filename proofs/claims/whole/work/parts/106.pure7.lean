/-! matrix and minors of a kept conic -/
theorem lc_0 (g : Nat → Int32) (fx : Nat → Int64) (c : Int32) : z5_layConic_f2 g fx c 0 = 2 * r6 g c 0 := by
  simp only [z5_layConic_f2, z5_layConic_v1, z5_layMatrix_f1, ul_e, ul_0_1, ul_0_2, ul_0_3, ul_0_4, ul_0_5, ul_0_6, ul_0_7, ul_0_8, ul_1_0, ul_1_2, ul_1_3, ul_1_4, ul_1_5, ul_1_6, ul_1_7, ul_1_8, ul_2_0, ul_2_1, ul_2_3, ul_2_4, ul_2_5, ul_2_6, ul_2_7, ul_2_8, ul_3_0, ul_3_1, ul_3_2, ul_3_4, ul_3_5, ul_3_6, ul_3_7, ul_3_8, ul_4_0, ul_4_1, ul_4_2, ul_4_3, ul_4_5, ul_4_6, ul_4_7, ul_4_8, ul_5_0, ul_5_1, ul_5_2, ul_5_3, ul_5_4, ul_5_6, ul_5_7, ul_5_8, ul_6_0, ul_6_1, ul_6_2, ul_6_3, ul_6_4, ul_6_5, ul_6_7, ul_6_8, ul_7_0, ul_7_1, ul_7_2, ul_7_3, ul_7_4, ul_7_5, ul_7_6, ul_7_8, ul_8_0, ul_8_1, ul_8_2, ul_8_3, ul_8_4, ul_8_5, ul_8_6, ul_8_7, r6_0, r6_k]
theorem lc_1 (g : Nat → Int32) (fx : Nat → Int64) (c : Int32) : z5_layConic_f2 g fx c 1 = r6 g c 1 := by
  simp only [z5_layConic_f2, z5_layConic_v1, z5_layMatrix_f1, ul_e, ul_0_1, ul_0_2, ul_0_3, ul_0_4, ul_0_5, ul_0_6, ul_0_7, ul_0_8, ul_1_0, ul_1_2, ul_1_3, ul_1_4, ul_1_5, ul_1_6, ul_1_7, ul_1_8, ul_2_0, ul_2_1, ul_2_3, ul_2_4, ul_2_5, ul_2_6, ul_2_7, ul_2_8, ul_3_0, ul_3_1, ul_3_2, ul_3_4, ul_3_5, ul_3_6, ul_3_7, ul_3_8, ul_4_0, ul_4_1, ul_4_2, ul_4_3, ul_4_5, ul_4_6, ul_4_7, ul_4_8, ul_5_0, ul_5_1, ul_5_2, ul_5_3, ul_5_4, ul_5_6, ul_5_7, ul_5_8, ul_6_0, ul_6_1, ul_6_2, ul_6_3, ul_6_4, ul_6_5, ul_6_7, ul_6_8, ul_7_0, ul_7_1, ul_7_2, ul_7_3, ul_7_4, ul_7_5, ul_7_6, ul_7_8, ul_8_0, ul_8_1, ul_8_2, ul_8_3, ul_8_4, ul_8_5, ul_8_6, ul_8_7, r6_0, r6_k]
theorem lc_2 (g : Nat → Int32) (fx : Nat → Int64) (c : Int32) : z5_layConic_f2 g fx c 2 = r6 g c 3 := by
  simp only [z5_layConic_f2, z5_layConic_v1, z5_layMatrix_f1, ul_e, ul_0_1, ul_0_2, ul_0_3, ul_0_4, ul_0_5, ul_0_6, ul_0_7, ul_0_8, ul_1_0, ul_1_2, ul_1_3, ul_1_4, ul_1_5, ul_1_6, ul_1_7, ul_1_8, ul_2_0, ul_2_1, ul_2_3, ul_2_4, ul_2_5, ul_2_6, ul_2_7, ul_2_8, ul_3_0, ul_3_1, ul_3_2, ul_3_4, ul_3_5, ul_3_6, ul_3_7, ul_3_8, ul_4_0, ul_4_1, ul_4_2, ul_4_3, ul_4_5, ul_4_6, ul_4_7, ul_4_8, ul_5_0, ul_5_1, ul_5_2, ul_5_3, ul_5_4, ul_5_6, ul_5_7, ul_5_8, ul_6_0, ul_6_1, ul_6_2, ul_6_3, ul_6_4, ul_6_5, ul_6_7, ul_6_8, ul_7_0, ul_7_1, ul_7_2, ul_7_3, ul_7_4, ul_7_5, ul_7_6, ul_7_8, ul_8_0, ul_8_1, ul_8_2, ul_8_3, ul_8_4, ul_8_5, ul_8_6, ul_8_7, r6_0, r6_k]
theorem lc_3 (g : Nat → Int32) (fx : Nat → Int64) (c : Int32) : z5_layConic_f2 g fx c 3 = r6 g c 1 := by
  simp only [z5_layConic_f2, z5_layConic_v1, z5_layMatrix_f1, ul_e, ul_0_1, ul_0_2, ul_0_3, ul_0_4, ul_0_5, ul_0_6, ul_0_7, ul_0_8, ul_1_0, ul_1_2, ul_1_3, ul_1_4, ul_1_5, ul_1_6, ul_1_7, ul_1_8, ul_2_0, ul_2_1, ul_2_3, ul_2_4, ul_2_5, ul_2_6, ul_2_7, ul_2_8, ul_3_0, ul_3_1, ul_3_2, ul_3_4, ul_3_5, ul_3_6, ul_3_7, ul_3_8, ul_4_0, ul_4_1, ul_4_2, ul_4_3, ul_4_5, ul_4_6, ul_4_7, ul_4_8, ul_5_0, ul_5_1, ul_5_2, ul_5_3, ul_5_4, ul_5_6, ul_5_7, ul_5_8, ul_6_0, ul_6_1, ul_6_2, ul_6_3, ul_6_4, ul_6_5, ul_6_7, ul_6_8, ul_7_0, ul_7_1, ul_7_2, ul_7_3, ul_7_4, ul_7_5, ul_7_6, ul_7_8, ul_8_0, ul_8_1, ul_8_2, ul_8_3, ul_8_4, ul_8_5, ul_8_6, ul_8_7, r6_0, r6_k]
theorem lc_4 (g : Nat → Int32) (fx : Nat → Int64) (c : Int32) : z5_layConic_f2 g fx c 4 = 2 * r6 g c 2 := by
  simp only [z5_layConic_f2, z5_layConic_v1, z5_layMatrix_f1, ul_e, ul_0_1, ul_0_2, ul_0_3, ul_0_4, ul_0_5, ul_0_6, ul_0_7, ul_0_8, ul_1_0, ul_1_2, ul_1_3, ul_1_4, ul_1_5, ul_1_6, ul_1_7, ul_1_8, ul_2_0, ul_2_1, ul_2_3, ul_2_4, ul_2_5, ul_2_6, ul_2_7, ul_2_8, ul_3_0, ul_3_1, ul_3_2, ul_3_4, ul_3_5, ul_3_6, ul_3_7, ul_3_8, ul_4_0, ul_4_1, ul_4_2, ul_4_3, ul_4_5, ul_4_6, ul_4_7, ul_4_8, ul_5_0, ul_5_1, ul_5_2, ul_5_3, ul_5_4, ul_5_6, ul_5_7, ul_5_8, ul_6_0, ul_6_1, ul_6_2, ul_6_3, ul_6_4, ul_6_5, ul_6_7, ul_6_8, ul_7_0, ul_7_1, ul_7_2, ul_7_3, ul_7_4, ul_7_5, ul_7_6, ul_7_8, ul_8_0, ul_8_1, ul_8_2, ul_8_3, ul_8_4, ul_8_5, ul_8_6, ul_8_7, r6_0, r6_k]
theorem lc_5 (g : Nat → Int32) (fx : Nat → Int64) (c : Int32) : z5_layConic_f2 g fx c 5 = r6 g c 4 := by
  simp only [z5_layConic_f2, z5_layConic_v1, z5_layMatrix_f1, ul_e, ul_0_1, ul_0_2, ul_0_3, ul_0_4, ul_0_5, ul_0_6, ul_0_7, ul_0_8, ul_1_0, ul_1_2, ul_1_3, ul_1_4, ul_1_5, ul_1_6, ul_1_7, ul_1_8, ul_2_0, ul_2_1, ul_2_3, ul_2_4, ul_2_5, ul_2_6, ul_2_7, ul_2_8, ul_3_0, ul_3_1, ul_3_2, ul_3_4, ul_3_5, ul_3_6, ul_3_7, ul_3_8, ul_4_0, ul_4_1, ul_4_2, ul_4_3, ul_4_5, ul_4_6, ul_4_7, ul_4_8, ul_5_0, ul_5_1, ul_5_2, ul_5_3, ul_5_4, ul_5_6, ul_5_7, ul_5_8, ul_6_0, ul_6_1, ul_6_2, ul_6_3, ul_6_4, ul_6_5, ul_6_7, ul_6_8, ul_7_0, ul_7_1, ul_7_2, ul_7_3, ul_7_4, ul_7_5, ul_7_6, ul_7_8, ul_8_0, ul_8_1, ul_8_2, ul_8_3, ul_8_4, ul_8_5, ul_8_6, ul_8_7, r6_0, r6_k]
theorem lc_6 (g : Nat → Int32) (fx : Nat → Int64) (c : Int32) : z5_layConic_f2 g fx c 6 = r6 g c 3 := by
  simp only [z5_layConic_f2, z5_layConic_v1, z5_layMatrix_f1, ul_e, ul_0_1, ul_0_2, ul_0_3, ul_0_4, ul_0_5, ul_0_6, ul_0_7, ul_0_8, ul_1_0, ul_1_2, ul_1_3, ul_1_4, ul_1_5, ul_1_6, ul_1_7, ul_1_8, ul_2_0, ul_2_1, ul_2_3, ul_2_4, ul_2_5, ul_2_6, ul_2_7, ul_2_8, ul_3_0, ul_3_1, ul_3_2, ul_3_4, ul_3_5, ul_3_6, ul_3_7, ul_3_8, ul_4_0, ul_4_1, ul_4_2, ul_4_3, ul_4_5, ul_4_6, ul_4_7, ul_4_8, ul_5_0, ul_5_1, ul_5_2, ul_5_3, ul_5_4, ul_5_6, ul_5_7, ul_5_8, ul_6_0, ul_6_1, ul_6_2, ul_6_3, ul_6_4, ul_6_5, ul_6_7, ul_6_8, ul_7_0, ul_7_1, ul_7_2, ul_7_3, ul_7_4, ul_7_5, ul_7_6, ul_7_8, ul_8_0, ul_8_1, ul_8_2, ul_8_3, ul_8_4, ul_8_5, ul_8_6, ul_8_7, r6_0, r6_k]
theorem lc_7 (g : Nat → Int32) (fx : Nat → Int64) (c : Int32) : z5_layConic_f2 g fx c 7 = r6 g c 4 := by
  simp only [z5_layConic_f2, z5_layConic_v1, z5_layMatrix_f1, ul_e, ul_0_1, ul_0_2, ul_0_3, ul_0_4, ul_0_5, ul_0_6, ul_0_7, ul_0_8, ul_1_0, ul_1_2, ul_1_3, ul_1_4, ul_1_5, ul_1_6, ul_1_7, ul_1_8, ul_2_0, ul_2_1, ul_2_3, ul_2_4, ul_2_5, ul_2_6, ul_2_7, ul_2_8, ul_3_0, ul_3_1, ul_3_2, ul_3_4, ul_3_5, ul_3_6, ul_3_7, ul_3_8, ul_4_0, ul_4_1, ul_4_2, ul_4_3, ul_4_5, ul_4_6, ul_4_7, ul_4_8, ul_5_0, ul_5_1, ul_5_2, ul_5_3, ul_5_4, ul_5_6, ul_5_7, ul_5_8, ul_6_0, ul_6_1, ul_6_2, ul_6_3, ul_6_4, ul_6_5, ul_6_7, ul_6_8, ul_7_0, ul_7_1, ul_7_2, ul_7_3, ul_7_4, ul_7_5, ul_7_6, ul_7_8, ul_8_0, ul_8_1, ul_8_2, ul_8_3, ul_8_4, ul_8_5, ul_8_6, ul_8_7, r6_0, r6_k]
theorem lc_8 (g : Nat → Int32) (fx : Nat → Int64) (c : Int32) : z5_layConic_f2 g fx c 8 = 2 * r6 g c 5 := by
  simp only [z5_layConic_f2, z5_layConic_v1, z5_layMatrix_f1, ul_e, ul_0_1, ul_0_2, ul_0_3, ul_0_4, ul_0_5, ul_0_6, ul_0_7, ul_0_8, ul_1_0, ul_1_2, ul_1_3, ul_1_4, ul_1_5, ul_1_6, ul_1_7, ul_1_8, ul_2_0, ul_2_1, ul_2_3, ul_2_4, ul_2_5, ul_2_6, ul_2_7, ul_2_8, ul_3_0, ul_3_1, ul_3_2, ul_3_4, ul_3_5, ul_3_6, ul_3_7, ul_3_8, ul_4_0, ul_4_1, ul_4_2, ul_4_3, ul_4_5, ul_4_6, ul_4_7, ul_4_8, ul_5_0, ul_5_1, ul_5_2, ul_5_3, ul_5_4, ul_5_6, ul_5_7, ul_5_8, ul_6_0, ul_6_1, ul_6_2, ul_6_3, ul_6_4, ul_6_5, ul_6_7, ul_6_8, ul_7_0, ul_7_1, ul_7_2, ul_7_3, ul_7_4, ul_7_5, ul_7_6, ul_7_8, ul_8_0, ul_8_1, ul_8_2, ul_8_3, ul_8_4, ul_8_5, ul_8_6, ul_8_7, r6_0, r6_k]
theorem la_0 (fx fa : Nat → Int64) : z5_layAdjoint_f2 fx fa 0 = (fx 4) * (fx 8) - (fx 5) * (fx 7) := by
  simp only [z5_layAdjoint_f2, ul_e, ul_0_1, ul_0_2, ul_0_3, ul_0_4, ul_0_5, ul_0_6, ul_0_7, ul_0_8, ul_1_0, ul_1_2, ul_1_3, ul_1_4, ul_1_5, ul_1_6, ul_1_7, ul_1_8, ul_2_0, ul_2_1, ul_2_3, ul_2_4, ul_2_5, ul_2_6, ul_2_7, ul_2_8, ul_3_0, ul_3_1, ul_3_2, ul_3_4, ul_3_5, ul_3_6, ul_3_7, ul_3_8, ul_4_0, ul_4_1, ul_4_2, ul_4_3, ul_4_5, ul_4_6, ul_4_7, ul_4_8, ul_5_0, ul_5_1, ul_5_2, ul_5_3, ul_5_4, ul_5_6, ul_5_7, ul_5_8, ul_6_0, ul_6_1, ul_6_2, ul_6_3, ul_6_4, ul_6_5, ul_6_7, ul_6_8, ul_7_0, ul_7_1, ul_7_2, ul_7_3, ul_7_4, ul_7_5, ul_7_6, ul_7_8, ul_8_0, ul_8_1, ul_8_2, ul_8_3, ul_8_4, ul_8_5, ul_8_6, ul_8_7]
theorem la_1 (fx fa : Nat → Int64) : z5_layAdjoint_f2 fx fa 1 = (fx 7) * (fx 2) - (fx 8) * (fx 1) := by
  simp only [z5_layAdjoint_f2, ul_e, ul_0_1, ul_0_2, ul_0_3, ul_0_4, ul_0_5, ul_0_6, ul_0_7, ul_0_8, ul_1_0, ul_1_2, ul_1_3, ul_1_4, ul_1_5, ul_1_6, ul_1_7, ul_1_8, ul_2_0, ul_2_1, ul_2_3, ul_2_4, ul_2_5, ul_2_6, ul_2_7, ul_2_8, ul_3_0, ul_3_1, ul_3_2, ul_3_4, ul_3_5, ul_3_6, ul_3_7, ul_3_8, ul_4_0, ul_4_1, ul_4_2, ul_4_3, ul_4_5, ul_4_6, ul_4_7, ul_4_8, ul_5_0, ul_5_1, ul_5_2, ul_5_3, ul_5_4, ul_5_6, ul_5_7, ul_5_8, ul_6_0, ul_6_1, ul_6_2, ul_6_3, ul_6_4, ul_6_5, ul_6_7, ul_6_8, ul_7_0, ul_7_1, ul_7_2, ul_7_3, ul_7_4, ul_7_5, ul_7_6, ul_7_8, ul_8_0, ul_8_1, ul_8_2, ul_8_3, ul_8_4, ul_8_5, ul_8_6, ul_8_7]
theorem la_2 (fx fa : Nat → Int64) : z5_layAdjoint_f2 fx fa 2 = (fx 1) * (fx 5) - (fx 2) * (fx 4) := by
  simp only [z5_layAdjoint_f2, ul_e, ul_0_1, ul_0_2, ul_0_3, ul_0_4, ul_0_5, ul_0_6, ul_0_7, ul_0_8, ul_1_0, ul_1_2, ul_1_3, ul_1_4, ul_1_5, ul_1_6, ul_1_7, ul_1_8, ul_2_0, ul_2_1, ul_2_3, ul_2_4, ul_2_5, ul_2_6, ul_2_7, ul_2_8, ul_3_0, ul_3_1, ul_3_2, ul_3_4, ul_3_5, ul_3_6, ul_3_7, ul_3_8, ul_4_0, ul_4_1, ul_4_2, ul_4_3, ul_4_5, ul_4_6, ul_4_7, ul_4_8, ul_5_0, ul_5_1, ul_5_2, ul_5_3, ul_5_4, ul_5_6, ul_5_7, ul_5_8, ul_6_0, ul_6_1, ul_6_2, ul_6_3, ul_6_4, ul_6_5, ul_6_7, ul_6_8, ul_7_0, ul_7_1, ul_7_2, ul_7_3, ul_7_4, ul_7_5, ul_7_6, ul_7_8, ul_8_0, ul_8_1, ul_8_2, ul_8_3, ul_8_4, ul_8_5, ul_8_6, ul_8_7]
theorem la_3 (fx fa : Nat → Int64) : z5_layAdjoint_f2 fx fa 3 = (fx 5) * (fx 6) - (fx 3) * (fx 8) := by
  simp only [z5_layAdjoint_f2, ul_e, ul_0_1, ul_0_2, ul_0_3, ul_0_4, ul_0_5, ul_0_6, ul_0_7, ul_0_8, ul_1_0, ul_1_2, ul_1_3, ul_1_4, ul_1_5, ul_1_6, ul_1_7, ul_1_8, ul_2_0, ul_2_1, ul_2_3, ul_2_4, ul_2_5, ul_2_6, ul_2_7, ul_2_8, ul_3_0, ul_3_1, ul_3_2, ul_3_4, ul_3_5, ul_3_6, ul_3_7, ul_3_8, ul_4_0, ul_4_1, ul_4_2, ul_4_3, ul_4_5, ul_4_6, ul_4_7, ul_4_8, ul_5_0, ul_5_1, ul_5_2, ul_5_3, ul_5_4, ul_5_6, ul_5_7, ul_5_8, ul_6_0, ul_6_1, ul_6_2, ul_6_3, ul_6_4, ul_6_5, ul_6_7, ul_6_8, ul_7_0, ul_7_1, ul_7_2, ul_7_3, ul_7_4, ul_7_5, ul_7_6, ul_7_8, ul_8_0, ul_8_1, ul_8_2, ul_8_3, ul_8_4, ul_8_5, ul_8_6, ul_8_7]
theorem la_4 (fx fa : Nat → Int64) : z5_layAdjoint_f2 fx fa 4 = (fx 8) * (fx 0) - (fx 6) * (fx 2) := by
  simp only [z5_layAdjoint_f2, ul_e, ul_0_1, ul_0_2, ul_0_3, ul_0_4, ul_0_5, ul_0_6, ul_0_7, ul_0_8, ul_1_0, ul_1_2, ul_1_3, ul_1_4, ul_1_5, ul_1_6, ul_1_7, ul_1_8, ul_2_0, ul_2_1, ul_2_3, ul_2_4, ul_2_5, ul_2_6, ul_2_7, ul_2_8, ul_3_0, ul_3_1, ul_3_2, ul_3_4, ul_3_5, ul_3_6, ul_3_7, ul_3_8, ul_4_0, ul_4_1, ul_4_2, ul_4_3, ul_4_5, ul_4_6, ul_4_7, ul_4_8, ul_5_0, ul_5_1, ul_5_2, ul_5_3, ul_5_4, ul_5_6, ul_5_7, ul_5_8, ul_6_0, ul_6_1, ul_6_2, ul_6_3, ul_6_4, ul_6_5, ul_6_7, ul_6_8, ul_7_0, ul_7_1, ul_7_2, ul_7_3, ul_7_4, ul_7_5, ul_7_6, ul_7_8, ul_8_0, ul_8_1, ul_8_2, ul_8_3, ul_8_4, ul_8_5, ul_8_6, ul_8_7]
theorem la_5 (fx fa : Nat → Int64) : z5_layAdjoint_f2 fx fa 5 = (fx 2) * (fx 3) - (fx 0) * (fx 5) := by
  simp only [z5_layAdjoint_f2, ul_e, ul_0_1, ul_0_2, ul_0_3, ul_0_4, ul_0_5, ul_0_6, ul_0_7, ul_0_8, ul_1_0, ul_1_2, ul_1_3, ul_1_4, ul_1_5, ul_1_6, ul_1_7, ul_1_8, ul_2_0, ul_2_1, ul_2_3, ul_2_4, ul_2_5, ul_2_6, ul_2_7, ul_2_8, ul_3_0, ul_3_1, ul_3_2, ul_3_4, ul_3_5, ul_3_6, ul_3_7, ul_3_8, ul_4_0, ul_4_1, ul_4_2, ul_4_3, ul_4_5, ul_4_6, ul_4_7, ul_4_8, ul_5_0, ul_5_1, ul_5_2, ul_5_3, ul_5_4, ul_5_6, ul_5_7, ul_5_8, ul_6_0, ul_6_1, ul_6_2, ul_6_3, ul_6_4, ul_6_5, ul_6_7, ul_6_8, ul_7_0, ul_7_1, ul_7_2, ul_7_3, ul_7_4, ul_7_5, ul_7_6, ul_7_8, ul_8_0, ul_8_1, ul_8_2, ul_8_3, ul_8_4, ul_8_5, ul_8_6, ul_8_7]
theorem la_6 (fx fa : Nat → Int64) : z5_layAdjoint_f2 fx fa 6 = (fx 3) * (fx 7) - (fx 4) * (fx 6) := by
  simp only [z5_layAdjoint_f2, ul_e, ul_0_1, ul_0_2, ul_0_3, ul_0_4, ul_0_5, ul_0_6, ul_0_7, ul_0_8, ul_1_0, ul_1_2, ul_1_3, ul_1_4, ul_1_5, ul_1_6, ul_1_7, ul_1_8, ul_2_0, ul_2_1, ul_2_3, ul_2_4, ul_2_5, ul_2_6, ul_2_7, ul_2_8, ul_3_0, ul_3_1, ul_3_2, ul_3_4, ul_3_5, ul_3_6, ul_3_7, ul_3_8, ul_4_0, ul_4_1, ul_4_2, ul_4_3, ul_4_5, ul_4_6, ul_4_7, ul_4_8, ul_5_0, ul_5_1, ul_5_2, ul_5_3, ul_5_4, ul_5_6, ul_5_7, ul_5_8, ul_6_0, ul_6_1, ul_6_2, ul_6_3, ul_6_4, ul_6_5, ul_6_7, ul_6_8, ul_7_0, ul_7_1, ul_7_2, ul_7_3, ul_7_4, ul_7_5, ul_7_6, ul_7_8, ul_8_0, ul_8_1, ul_8_2, ul_8_3, ul_8_4, ul_8_5, ul_8_6, ul_8_7]
theorem la_7 (fx fa : Nat → Int64) : z5_layAdjoint_f2 fx fa 7 = (fx 6) * (fx 1) - (fx 7) * (fx 0) := by
  simp only [z5_layAdjoint_f2, ul_e, ul_0_1, ul_0_2, ul_0_3, ul_0_4, ul_0_5, ul_0_6, ul_0_7, ul_0_8, ul_1_0, ul_1_2, ul_1_3, ul_1_4, ul_1_5, ul_1_6, ul_1_7, ul_1_8, ul_2_0, ul_2_1, ul_2_3, ul_2_4, ul_2_5, ul_2_6, ul_2_7, ul_2_8, ul_3_0, ul_3_1, ul_3_2, ul_3_4, ul_3_5, ul_3_6, ul_3_7, ul_3_8, ul_4_0, ul_4_1, ul_4_2, ul_4_3, ul_4_5, ul_4_6, ul_4_7, ul_4_8, ul_5_0, ul_5_1, ul_5_2, ul_5_3, ul_5_4, ul_5_6, ul_5_7, ul_5_8, ul_6_0, ul_6_1, ul_6_2, ul_6_3, ul_6_4, ul_6_5, ul_6_7, ul_6_8, ul_7_0, ul_7_1, ul_7_2, ul_7_3, ul_7_4, ul_7_5, ul_7_6, ul_7_8, ul_8_0, ul_8_1, ul_8_2, ul_8_3, ul_8_4, ul_8_5, ul_8_6, ul_8_7]
theorem la_8 (fx fa : Nat → Int64) : z5_layAdjoint_f2 fx fa 8 = (fx 0) * (fx 4) - (fx 1) * (fx 3) := by
  simp only [z5_layAdjoint_f2, ul_e, ul_0_1, ul_0_2, ul_0_3, ul_0_4, ul_0_5, ul_0_6, ul_0_7, ul_0_8, ul_1_0, ul_1_2, ul_1_3, ul_1_4, ul_1_5, ul_1_6, ul_1_7, ul_1_8, ul_2_0, ul_2_1, ul_2_3, ul_2_4, ul_2_5, ul_2_6, ul_2_7, ul_2_8, ul_3_0, ul_3_1, ul_3_2, ul_3_4, ul_3_5, ul_3_6, ul_3_7, ul_3_8, ul_4_0, ul_4_1, ul_4_2, ul_4_3, ul_4_5, ul_4_6, ul_4_7, ul_4_8, ul_5_0, ul_5_1, ul_5_2, ul_5_3, ul_5_4, ul_5_6, ul_5_7, ul_5_8, ul_6_0, ul_6_1, ul_6_2, ul_6_3, ul_6_4, ul_6_5, ul_6_7, ul_6_8, ul_7_0, ul_7_1, ul_7_2, ul_7_3, ul_7_4, ul_7_5, ul_7_6, ul_7_8, ul_8_0, ul_8_1, ul_8_2, ul_8_3, ul_8_4, ul_8_5, ul_8_6, ul_8_7]
theorem ac_0 (g : Nat → Int32) (fx fa : Nat → Int64) (c : Int32) : z5_layAdjoint_f2 (z5_layConic_f2 g fx c) fa 0 = z0_setMinors_a (r6 g c 2) (r6 g c 4) (r6 g c 5) := by
  simp only [la_0, lc_0, lc_1, lc_2, lc_3, lc_4, lc_5, lc_6, lc_7, lc_8, z0_setMinors_a] <;> grind
theorem ac_1 (g : Nat → Int32) (fx fa : Nat → Int64) (c : Int32) : z5_layAdjoint_f2 (z5_layConic_f2 g fx c) fa 1 = z0_setMinors_b (r6 g c 1) (r6 g c 3) (r6 g c 4) (r6 g c 5) := by
  simp only [la_1, lc_0, lc_1, lc_2, lc_3, lc_4, lc_5, lc_6, lc_7, lc_8, z0_setMinors_b] <;> grind
theorem ac_2 (g : Nat → Int32) (fx fa : Nat → Int64) (c : Int32) : z5_layAdjoint_f2 (z5_layConic_f2 g fx c) fa 2 = z0_setMinors_d (r6 g c 1) (r6 g c 2) (r6 g c 3) (r6 g c 4) := by
  simp only [la_2, lc_0, lc_1, lc_2, lc_3, lc_4, lc_5, lc_6, lc_7, lc_8, z0_setMinors_d] <;> grind
theorem ac_3 (g : Nat → Int32) (fx fa : Nat → Int64) (c : Int32) : z5_layAdjoint_f2 (z5_layConic_f2 g fx c) fa 3 = z0_setMinors_b (r6 g c 1) (r6 g c 3) (r6 g c 4) (r6 g c 5) := by
  simp only [la_3, lc_0, lc_1, lc_2, lc_3, lc_4, lc_5, lc_6, lc_7, lc_8, z0_setMinors_b] <;> grind
theorem ac_4 (g : Nat → Int32) (fx fa : Nat → Int64) (c : Int32) : z5_layAdjoint_f2 (z5_layConic_f2 g fx c) fa 4 = z0_setMinors_c (r6 g c 0) (r6 g c 3) (r6 g c 5) := by
  simp only [la_4, lc_0, lc_1, lc_2, lc_3, lc_4, lc_5, lc_6, lc_7, lc_8, z0_setMinors_c] <;> grind
theorem ac_5 (g : Nat → Int32) (fx fa : Nat → Int64) (c : Int32) : z5_layAdjoint_f2 (z5_layConic_f2 g fx c) fa 5 = z0_setMinors_e (r6 g c 0) (r6 g c 1) (r6 g c 3) (r6 g c 4) := by
  simp only [la_5, lc_0, lc_1, lc_2, lc_3, lc_4, lc_5, lc_6, lc_7, lc_8, z0_setMinors_e] <;> grind
theorem ac_6 (g : Nat → Int32) (fx fa : Nat → Int64) (c : Int32) : z5_layAdjoint_f2 (z5_layConic_f2 g fx c) fa 6 = z0_setMinors_d (r6 g c 1) (r6 g c 2) (r6 g c 3) (r6 g c 4) := by
  simp only [la_6, lc_0, lc_1, lc_2, lc_3, lc_4, lc_5, lc_6, lc_7, lc_8, z0_setMinors_d] <;> grind
theorem ac_7 (g : Nat → Int32) (fx fa : Nat → Int64) (c : Int32) : z5_layAdjoint_f2 (z5_layConic_f2 g fx c) fa 7 = z0_setMinors_e (r6 g c 0) (r6 g c 1) (r6 g c 3) (r6 g c 4) := by
  simp only [la_7, lc_0, lc_1, lc_2, lc_3, lc_4, lc_5, lc_6, lc_7, lc_8, z0_setMinors_e] <;> grind
theorem ac_8 (g : Nat → Int32) (fx fa : Nat → Int64) (c : Int32) : z5_layAdjoint_f2 (z5_layConic_f2 g fx c) fa 8 = z0_setMinors_f (r6 g c 0) (r6 g c 1) (r6 g c 2) := by
  simp only [la_8, lc_0, lc_1, lc_2, lc_3, lc_4, lc_5, lc_6, lc_7, lc_8, z0_setMinors_f] <;> grind
theorem half {x : Int64} {v : Int} {B : Nat} (h : iv x v B) (q : 2 * B < 9223372036854775808) : (2 * x) / 2 = x := by
  have h1 := iv_div (iv_mul iv_2 h q) iv_2 q
  refine iv_eq h1 h ?_
  exact Int.mul_tdiv_cancel_left v (by decide)
theorem pu_det (g : Nat → Int32) (fx fa : Nat → Int64) (c : Int32) {n : Int32} (bc : b500 g 6 n) (hn : n_ok n) (q : ¬ z2_has n c = 0) : z5_detOf g fx fa c = z0_det (r6 g c 0) (r6 g c 1) (r6 g c 2) (r6 g c 3) (r6 g c 4) (r6 g c 5) := by
  have ha := ri6_0 bc hn q
  have hb := ri6_1 bc hn q
  have hc := ri6_2 bc hn q
  have hd := ri6_3 bc hn q
  have he := ri6_4 bc hn q
  have hf := ri6_5 bc hn q
  unfold z5_detOf z5_det
  rw [ac_0, ac_3, ac_6, lc_0, lc_1, lc_2]
  have e : (2 * (r6 g c 0)) * (z0_setMinors_a (r6 g c 2) (r6 g c 4) (r6 g c 5)) + (r6 g c 1) * (z0_setMinors_b (r6 g c 1) (r6 g c 3) (r6 g c 4) (r6 g c 5)) + (r6 g c 3) * (z0_setMinors_d (r6 g c 1) (r6 g c 2) (r6 g c 3) (r6 g c 4)) = 2 * z0_det (r6 g c 0) (r6 g c 1) (r6 g c 2) (r6 g c 3) (r6 g c 4) (r6 g c 5) := by
    simp only [z0_setMinors_a, z0_setMinors_b, z0_setMinors_d, z0_det]
    grind
  rw [e]
  exact half (x := z0_det (r6 g c 0) (r6 g c 1) (r6 g c 2) (r6 g c 3) (r6 g c 4) (r6 g c 5)) (iv_sub (iv_sub (iv_sub (iv_add (iv_mul (iv_mul (iv_mul iv_4 ha (by decide)) hc (by decide)) hf (by decide)) (iv_mul (iv_mul hb hd (by decide)) he (by decide)) (by decide)) (iv_mul (iv_mul ha he (by decide)) he (by decide)) (by decide)) (iv_mul (iv_mul hc hd (by decide)) hd (by decide)) (by decide)) (iv_mul (iv_mul hf hb (by decide)) hb (by decide)) (by decide)) (by decide)
theorem pu_disc (g : Nat → Int32) (fx : Nat → Int64) (c : Int32) : z5_discOf g fx c = z0_disc (r6 g c 0) (r6 g c 1) (r6 g c 2) := by
  unfold z5_discOf
  simp only [lc_0, lc_1, lc_2, lc_3, lc_4, lc_5, lc_6, lc_7, lc_8, z0_disc]
  grind
theorem pu_join (gm gp gl gc : Nat → Int32) (ff : Nat → Int64) (i j : Int32) (g0 : G3 gp (gm 0)) (g1 : G3 gl (gm 1)) (g2 : G6 gc (gm 2)) : pk3 1 gm (z5_crossed_0 gm ff gp gl i j) (z4_keepAcross 3 (gm 0) 3 (gm 1) i j gp gl) := by
  have h0 := g0.1
  have h1 := g1.1
  have h2 := g2.1
  have bp := g0.2.1
  have bl := g1.2.1
  have bc := g2.2.1
  unfold z5_crossed_0 z4_keepAcross
  rw [pu_is0 h0, pu_is0 h0]
  by_cases q : z2_has (gm 0) i = 0
  · rw [if_pos q, if_pos q]; exact pk3_s g1
  rw [if_neg q, if_neg q]
  by_cases t : z2_has (gm 0) j = 0
  · rw [if_pos t, if_pos t]; exact pk3_s g1
  rw [if_neg t, if_neg t]
  have ix := ri3_0 bp h0 q
  have iy := ri3_1 bp h0 q
  have iz := ri3_2 bp h0 q
  have jx := ri3_0 bp h0 t
  have jy := ri3_1 bp h0 t
  have jz := ri3_2 bp h0 t
  simp only [z5_crossed_0_v1, z5_crossed_0_v2, z5_crossed_0_v3, z4_keepAcross_v1, z4_keepAcross_v2, z4_keepAcross_v3, rd3_x q, rd3_y q, rd3_z q, rd3_x t, rd3_y t, rd3_z t, r3_0, r6_0, r3_k, r6_k, rn_0, rn_1]
  rw [pr3, pr3, ku3]
  refine kp1 gm _ gl (-1000004) _ _ _ g1 ?_ ?_ ?_ ?_ ?_ ?_
  · simp only [ul_e, ul_0_1, ul_0_2, ul_0_3, ul_0_4, ul_0_5, ul_0_6, ul_0_7, ul_0_8, ul_1_0, ul_1_2, ul_1_3, ul_1_4, ul_1_5, ul_1_6, ul_1_7, ul_1_8, ul_2_0, ul_2_1, ul_2_3, ul_2_4, ul_2_5, ul_2_6, ul_2_7, ul_2_8, ul_3_0, ul_3_1, ul_3_2, ul_3_4, ul_3_5, ul_3_6, ul_3_7, ul_3_8, ul_4_0, ul_4_1, ul_4_2, ul_4_3, ul_4_5, ul_4_6, ul_4_7, ul_4_8, ul_5_0, ul_5_1, ul_5_2, ul_5_3, ul_5_4, ul_5_6, ul_5_7, ul_5_8, ul_6_0, ul_6_1, ul_6_2, ul_6_3, ul_6_4, ul_6_5, ul_6_7, ul_6_8, ul_7_0, ul_7_1, ul_7_2, ul_7_3, ul_7_4, ul_7_5, ul_7_6, ul_7_8, ul_8_0, ul_8_1, ul_8_2, ul_8_3, ul_8_4, ul_8_5, ul_8_6, ul_8_7, z3_setAcross_x]
  · simp only [ul_e, ul_0_1, ul_0_2, ul_0_3, ul_0_4, ul_0_5, ul_0_6, ul_0_7, ul_0_8, ul_1_0, ul_1_2, ul_1_3, ul_1_4, ul_1_5, ul_1_6, ul_1_7, ul_1_8, ul_2_0, ul_2_1, ul_2_3, ul_2_4, ul_2_5, ul_2_6, ul_2_7, ul_2_8, ul_3_0, ul_3_1, ul_3_2, ul_3_4, ul_3_5, ul_3_6, ul_3_7, ul_3_8, ul_4_0, ul_4_1, ul_4_2, ul_4_3, ul_4_5, ul_4_6, ul_4_7, ul_4_8, ul_5_0, ul_5_1, ul_5_2, ul_5_3, ul_5_4, ul_5_6, ul_5_7, ul_5_8, ul_6_0, ul_6_1, ul_6_2, ul_6_3, ul_6_4, ul_6_5, ul_6_7, ul_6_8, ul_7_0, ul_7_1, ul_7_2, ul_7_3, ul_7_4, ul_7_5, ul_7_6, ul_7_8, ul_8_0, ul_8_1, ul_8_2, ul_8_3, ul_8_4, ul_8_5, ul_8_6, ul_8_7, z3_setAcross_y]
  · simp only [ul_e, ul_0_1, ul_0_2, ul_0_3, ul_0_4, ul_0_5, ul_0_6, ul_0_7, ul_0_8, ul_1_0, ul_1_2, ul_1_3, ul_1_4, ul_1_5, ul_1_6, ul_1_7, ul_1_8, ul_2_0, ul_2_1, ul_2_3, ul_2_4, ul_2_5, ul_2_6, ul_2_7, ul_2_8, ul_3_0, ul_3_1, ul_3_2, ul_3_4, ul_3_5, ul_3_6, ul_3_7, ul_3_8, ul_4_0, ul_4_1, ul_4_2, ul_4_3, ul_4_5, ul_4_6, ul_4_7, ul_4_8, ul_5_0, ul_5_1, ul_5_2, ul_5_3, ul_5_4, ul_5_6, ul_5_7, ul_5_8, ul_6_0, ul_6_1, ul_6_2, ul_6_3, ul_6_4, ul_6_5, ul_6_7, ul_6_8, ul_7_0, ul_7_1, ul_7_2, ul_7_3, ul_7_4, ul_7_5, ul_7_6, ul_7_8, ul_8_0, ul_8_1, ul_8_2, ul_8_3, ul_8_4, ul_8_5, ul_8_6, ul_8_7, z3_setAcross_z]
  · exact iv_nm (iv_sub (iv_mul iy jz (by decide)) (iv_mul iz jy (by decide)) (by decide)) (by decide)
  · exact iv_nm (iv_sub (iv_mul iz jx (by decide)) (iv_mul ix jz (by decide)) (by decide)) (by decide)
  · exact iv_nm (iv_sub (iv_mul ix jy (by decide)) (iv_mul iy jx (by decide)) (by decide)) (by decide)
theorem pu_meet (gm gp gl gc : Nat → Int32) (ff : Nat → Int64) (i j : Int32) (g0 : G3 gp (gm 0)) (g1 : G3 gl (gm 1)) (g2 : G6 gc (gm 2)) : pk3 0 gm (z5_crossed_1 gm ff gp gl i j) (z4_keepAcross 3 (gm 1) 3 (gm 0) i j gl gp) := by
  have h0 := g0.1
  have h1 := g1.1
  have h2 := g2.1
  have bp := g0.2.1
  have bl := g1.2.1
  have bc := g2.2.1
  unfold z5_crossed_1 z4_keepAcross
  rw [pu_is1 h1, pu_is1 h1]
  by_cases q : z2_has (gm 1) i = 0
  · rw [if_pos q, if_pos q]; exact pk3_s g0
  rw [if_neg q, if_neg q]
  by_cases t : z2_has (gm 1) j = 0
  · rw [if_pos t, if_pos t]; exact pk3_s g0
  rw [if_neg t, if_neg t]
  have ix := ri3_0 bl h1 q
  have iy := ri3_1 bl h1 q
  have iz := ri3_2 bl h1 q
  have jx := ri3_0 bl h1 t
  have jy := ri3_1 bl h1 t
  have jz := ri3_2 bl h1 t
  simp only [z5_crossed_1_v1, z5_crossed_1_v2, z5_crossed_1_v3, z4_keepAcross_v1, z4_keepAcross_v2, z4_keepAcross_v3, rd3_x q, rd3_y q, rd3_z q, rd3_x t, rd3_y t, rd3_z t, r3_0, r6_0, r3_k, r6_k, rn_0, rn_1]
  rw [pr3, pr3, ku3]
  refine kp0 gm _ gp (-1000004) _ _ _ g0 ?_ ?_ ?_ ?_ ?_ ?_
  · simp only [ul_e, ul_0_1, ul_0_2, ul_0_3, ul_0_4, ul_0_5, ul_0_6, ul_0_7, ul_0_8, ul_1_0, ul_1_2, ul_1_3, ul_1_4, ul_1_5, ul_1_6, ul_1_7, ul_1_8, ul_2_0, ul_2_1, ul_2_3, ul_2_4, ul_2_5, ul_2_6, ul_2_7, ul_2_8, ul_3_0, ul_3_1, ul_3_2, ul_3_4, ul_3_5, ul_3_6, ul_3_7, ul_3_8, ul_4_0, ul_4_1, ul_4_2, ul_4_3, ul_4_5, ul_4_6, ul_4_7, ul_4_8, ul_5_0, ul_5_1, ul_5_2, ul_5_3, ul_5_4, ul_5_6, ul_5_7, ul_5_8, ul_6_0, ul_6_1, ul_6_2, ul_6_3, ul_6_4, ul_6_5, ul_6_7, ul_6_8, ul_7_0, ul_7_1, ul_7_2, ul_7_3, ul_7_4, ul_7_5, ul_7_6, ul_7_8, ul_8_0, ul_8_1, ul_8_2, ul_8_3, ul_8_4, ul_8_5, ul_8_6, ul_8_7, z3_setAcross_x]
  · simp only [ul_e, ul_0_1, ul_0_2, ul_0_3, ul_0_4, ul_0_5, ul_0_6, ul_0_7, ul_0_8, ul_1_0, ul_1_2, ul_1_3, ul_1_4, ul_1_5, ul_1_6, ul_1_7, ul_1_8, ul_2_0, ul_2_1, ul_2_3, ul_2_4, ul_2_5, ul_2_6, ul_2_7, ul_2_8, ul_3_0, ul_3_1, ul_3_2, ul_3_4, ul_3_5, ul_3_6, ul_3_7, ul_3_8, ul_4_0, ul_4_1, ul_4_2, ul_4_3, ul_4_5, ul_4_6, ul_4_7, ul_4_8, ul_5_0, ul_5_1, ul_5_2, ul_5_3, ul_5_4, ul_5_6, ul_5_7, ul_5_8, ul_6_0, ul_6_1, ul_6_2, ul_6_3, ul_6_4, ul_6_5, ul_6_7, ul_6_8, ul_7_0, ul_7_1, ul_7_2, ul_7_3, ul_7_4, ul_7_5, ul_7_6, ul_7_8, ul_8_0, ul_8_1, ul_8_2, ul_8_3, ul_8_4, ul_8_5, ul_8_6, ul_8_7, z3_setAcross_y]
  · simp only [ul_e, ul_0_1, ul_0_2, ul_0_3, ul_0_4, ul_0_5, ul_0_6, ul_0_7, ul_0_8, ul_1_0, ul_1_2, ul_1_3, ul_1_4, ul_1_5, ul_1_6, ul_1_7, ul_1_8, ul_2_0, ul_2_1, ul_2_3, ul_2_4, ul_2_5, ul_2_6, ul_2_7, ul_2_8, ul_3_0, ul_3_1, ul_3_2, ul_3_4, ul_3_5, ul_3_6, ul_3_7, ul_3_8, ul_4_0, ul_4_1, ul_4_2, ul_4_3, ul_4_5, ul_4_6, ul_4_7, ul_4_8, ul_5_0, ul_5_1, ul_5_2, ul_5_3, ul_5_4, ul_5_6, ul_5_7, ul_5_8, ul_6_0, ul_6_1, ul_6_2, ul_6_3, ul_6_4, ul_6_5, ul_6_7, ul_6_8, ul_7_0, ul_7_1, ul_7_2, ul_7_3, ul_7_4, ul_7_5, ul_7_6, ul_7_8, ul_8_0, ul_8_1, ul_8_2, ul_8_3, ul_8_4, ul_8_5, ul_8_6, ul_8_7, z3_setAcross_z]
  · exact iv_nm (iv_sub (iv_mul iy jz (by decide)) (iv_mul iz jy (by decide)) (by decide)) (by decide)
  · exact iv_nm (iv_sub (iv_mul iz jx (by decide)) (iv_mul ix jz (by decide)) (by decide)) (by decide)
  · exact iv_nm (iv_sub (iv_mul ix jy (by decide)) (iv_mul iy jx (by decide)) (by decide)) (by decide)
theorem pu_polar (gm gp gl gc : Nat → Int32) (ff fx : Nat → Int64) (c p : Int32) (g0 : G3 gp (gm 0)) (g1 : G3 gl (gm 1)) (g2 : G6 gc (gm 2)) : pk3 1 gm (z5_polar gm ff fx gp gl gc c p) (z4_polar (gm 0) gp (gm 1) gl (gm 2) gc c p) := by
  have h0 := g0.1
  have h1 := g1.1
  have h2 := g2.1
  have bp := g0.2.1
  have bl := g1.2.1
  have bc := g2.2.1
  unfold z5_polar z4_polar
  rw [pu_is2 h2, pu_is0 h0]
  by_cases q : z2_has (gm 2) c = 0
  · rw [if_pos q, if_pos q]; exact pk3_s g1
  rw [if_neg q, if_neg q]
  by_cases t : z2_has (gm 0) p = 0
  · rw [if_pos t, if_pos t]; exact pk3_s g1
  rw [if_neg t, if_neg t]
  have ca := ri6_0 bc h2 q
  have cb := ri6_1 bc h2 q
  have cc := ri6_2 bc h2 q
  have cd := ri6_3 bc h2 q
  have ce := ri6_4 bc h2 q
  have cf := ri6_5 bc h2 q
  have px := ri3_0 bp h0 t
  have py := ri3_1 bp h0 t
  have pz := ri3_2 bp h0 t
  simp only [z5_keepTimes_1, z5_keepTimes_1_f1, z5_keepTimes_1_f5, z5_keepTimes_1_v1, z5_keepTimes_1_v2, z5_keepTimes_1_v3, z4_polar_v1, z4_polar_v2, z4_polar_v3, z4_polar_v4, z4_polar_v5, z4_polar_v6, rd6_a q, rd6_b q, rd6_c q, rd6_d q, rd6_e q, rd6_f q, rd3_x t, rd3_y t, rd3_z t, r3_0, r6_0, r3_k, r6_k, rn_0, rn_1]
  rw [pr3, pr3, ku3]
  refine kp1 gm _ gl (-1000004) _ _ _ g1 ?_ ?_ ?_ ?_ ?_ ?_
  · simp only [ul_e, ul_0_1, ul_0_2, ul_0_3, ul_0_4, ul_0_5, ul_0_6, ul_0_7, ul_0_8, ul_1_0, ul_1_2, ul_1_3, ul_1_4, ul_1_5, ul_1_6, ul_1_7, ul_1_8, ul_2_0, ul_2_1, ul_2_3, ul_2_4, ul_2_5, ul_2_6, ul_2_7, ul_2_8, ul_3_0, ul_3_1, ul_3_2, ul_3_4, ul_3_5, ul_3_6, ul_3_7, ul_3_8, ul_4_0, ul_4_1, ul_4_2, ul_4_3, ul_4_5, ul_4_6, ul_4_7, ul_4_8, ul_5_0, ul_5_1, ul_5_2, ul_5_3, ul_5_4, ul_5_6, ul_5_7, ul_5_8, ul_6_0, ul_6_1, ul_6_2, ul_6_3, ul_6_4, ul_6_5, ul_6_7, ul_6_8, ul_7_0, ul_7_1, ul_7_2, ul_7_3, ul_7_4, ul_7_5, ul_7_6, ul_7_8, ul_8_0, ul_8_1, ul_8_2, ul_8_3, ul_8_4, ul_8_5, ul_8_6, ul_8_7, lc_0, lc_1, lc_2, lc_3, lc_4, lc_5, lc_6, lc_7, lc_8, z3_setPolar_x, Int64.zero_add]
  · simp only [ul_e, ul_0_1, ul_0_2, ul_0_3, ul_0_4, ul_0_5, ul_0_6, ul_0_7, ul_0_8, ul_1_0, ul_1_2, ul_1_3, ul_1_4, ul_1_5, ul_1_6, ul_1_7, ul_1_8, ul_2_0, ul_2_1, ul_2_3, ul_2_4, ul_2_5, ul_2_6, ul_2_7, ul_2_8, ul_3_0, ul_3_1, ul_3_2, ul_3_4, ul_3_5, ul_3_6, ul_3_7, ul_3_8, ul_4_0, ul_4_1, ul_4_2, ul_4_3, ul_4_5, ul_4_6, ul_4_7, ul_4_8, ul_5_0, ul_5_1, ul_5_2, ul_5_3, ul_5_4, ul_5_6, ul_5_7, ul_5_8, ul_6_0, ul_6_1, ul_6_2, ul_6_3, ul_6_4, ul_6_5, ul_6_7, ul_6_8, ul_7_0, ul_7_1, ul_7_2, ul_7_3, ul_7_4, ul_7_5, ul_7_6, ul_7_8, ul_8_0, ul_8_1, ul_8_2, ul_8_3, ul_8_4, ul_8_5, ul_8_6, ul_8_7, lc_0, lc_1, lc_2, lc_3, lc_4, lc_5, lc_6, lc_7, lc_8, z3_setPolar_y, Int64.zero_add]
  · simp only [ul_e, ul_0_1, ul_0_2, ul_0_3, ul_0_4, ul_0_5, ul_0_6, ul_0_7, ul_0_8, ul_1_0, ul_1_2, ul_1_3, ul_1_4, ul_1_5, ul_1_6, ul_1_7, ul_1_8, ul_2_0, ul_2_1, ul_2_3, ul_2_4, ul_2_5, ul_2_6, ul_2_7, ul_2_8, ul_3_0, ul_3_1, ul_3_2, ul_3_4, ul_3_5, ul_3_6, ul_3_7, ul_3_8, ul_4_0, ul_4_1, ul_4_2, ul_4_3, ul_4_5, ul_4_6, ul_4_7, ul_4_8, ul_5_0, ul_5_1, ul_5_2, ul_5_3, ul_5_4, ul_5_6, ul_5_7, ul_5_8, ul_6_0, ul_6_1, ul_6_2, ul_6_3, ul_6_4, ul_6_5, ul_6_7, ul_6_8, ul_7_0, ul_7_1, ul_7_2, ul_7_3, ul_7_4, ul_7_5, ul_7_6, ul_7_8, ul_8_0, ul_8_1, ul_8_2, ul_8_3, ul_8_4, ul_8_5, ul_8_6, ul_8_7, lc_0, lc_1, lc_2, lc_3, lc_4, lc_5, lc_6, lc_7, lc_8, z3_setPolar_z, Int64.zero_add]
  · exact iv_nm (iv_add (iv_add (iv_mul (iv_mul iv_2 ca (by decide)) px (by decide)) (iv_mul cb py (by decide)) (by decide)) (iv_mul cd pz (by decide)) (by decide)) (by decide)
  · exact iv_nm (iv_add (iv_add (iv_mul cb px (by decide)) (iv_mul (iv_mul iv_2 cc (by decide)) py (by decide)) (by decide)) (iv_mul ce pz (by decide)) (by decide)) (by decide)
  · exact iv_nm (iv_add (iv_add (iv_mul cd px (by decide)) (iv_mul ce py (by decide)) (by decide)) (iv_mul (iv_mul iv_2 cf (by decide)) pz (by decide)) (by decide)) (by decide)
theorem pu_pole (gm gp gl gc : Nat → Int32) (ff fx fa : Nat → Int64) (c i : Int32) (g0 : G3 gp (gm 0)) (g1 : G3 gl (gm 1)) (g2 : G6 gc (gm 2)) : pk3 0 gm (z5_pole gm ff fx fa gp gl gc c i) (z4_pole (gm 0) gp (gm 1) gl (gm 2) gc c i) := by
  have h0 := g0.1
  have h1 := g1.1
  have h2 := g2.1
  have bp := g0.2.1
  have bl := g1.2.1
  have bc := g2.2.1
  unfold z5_pole z4_pole
  rw [pu_is2 h2, pu_is1 h1]
  by_cases q : z2_has (gm 2) c = 0
  · rw [if_pos q, if_pos q]; exact pk3_s g0
  rw [if_neg q, if_neg q]
  by_cases t : z2_has (gm 1) i = 0
  · rw [if_pos t, if_pos t]; exact pk3_s g0
  rw [if_neg t, if_neg t]
  rw [pu_det gc fx fa c bc h2 q]
  simp only [z4_pole_v1, rd6_a q, rd6_b q, rd6_c q, rd6_d q, rd6_e q, rd6_f q]
  by_cases s : z0_det (r6 gc c 0) (r6 gc c 1) (r6 gc c 2) (r6 gc c 3) (r6 gc c 4) (r6 gc c 5) = 0
  · rw [if_pos s, if_pos s]; exact pk3_s g0
  rw [if_neg s, if_neg s]
  have ca := ri6_0 bc h2 q
  have cb := ri6_1 bc h2 q
  have cc := ri6_2 bc h2 q
  have cd := ri6_3 bc h2 q
  have ce := ri6_4 bc h2 q
  have cf := ri6_5 bc h2 q
  have px := ri3_0 bl h1 t
  have py := ri3_1 bl h1 t
  have pz := ri3_2 bl h1 t
  have mA : iv (z0_setMinors_a (r6 gc c 2) (r6 gc c 4) (r6 gc c 5)) _ _ := (iv_sub (iv_mul (iv_mul iv_4 cc (by decide)) cf (by decide)) (iv_mul ce ce (by decide)) (by decide))
  have mB : iv (z0_setMinors_b (r6 gc c 1) (r6 gc c 3) (r6 gc c 4) (r6 gc c 5)) _ _ := (iv_sub (iv_mul cd ce (by decide)) (iv_mul (iv_mul iv_2 cb (by decide)) cf (by decide)) (by decide))
  have mC : iv (z0_setMinors_c (r6 gc c 0) (r6 gc c 3) (r6 gc c 5)) _ _ := (iv_sub (iv_mul (iv_mul iv_4 ca (by decide)) cf (by decide)) (iv_mul cd cd (by decide)) (by decide))
  have mD : iv (z0_setMinors_d (r6 gc c 1) (r6 gc c 2) (r6 gc c 3) (r6 gc c 4)) _ _ := (iv_sub (iv_mul cb ce (by decide)) (iv_mul (iv_mul iv_2 cc (by decide)) cd (by decide)) (by decide))
  have mE : iv (z0_setMinors_e (r6 gc c 0) (r6 gc c 1) (r6 gc c 3) (r6 gc c 4)) _ _ := (iv_sub (iv_mul cb cd (by decide)) (iv_mul (iv_mul iv_2 ca (by decide)) ce (by decide)) (by decide))
  have mF : iv (z0_setMinors_f (r6 gc c 0) (r6 gc c 1) (r6 gc c 2)) _ _ := (iv_sub (iv_mul (iv_mul iv_4 ca (by decide)) cc (by decide)) (iv_mul cb cb (by decide)) (by decide))
  simp only [z5_keepTimes_0, z5_keepTimes_0_f1, z5_keepTimes_0_f4, z5_keepTimes_0_v1, z5_keepTimes_0_v2, z5_keepTimes_0_v3, z4_pole_v2, z4_pole_v3, z4_pole_v4, z4_pole_v5, z4_pole_v6, z4_pole_v7, rd6_a q, rd6_b q, rd6_c q, rd6_d q, rd6_e q, rd6_f q, rd3_x t, rd3_y t, rd3_z t, r3_0, r6_0, r3_k, r6_k, rn_0, rn_1]
  rw [pr3, pr3, ku3]
  refine kp0 gm _ gp (-1000004) _ _ _ g0 ?_ ?_ ?_ ?_ ?_ ?_
  · simp only [ul_e, ul_0_1, ul_0_2, ul_0_3, ul_0_4, ul_0_5, ul_0_6, ul_0_7, ul_0_8, ul_1_0, ul_1_2, ul_1_3, ul_1_4, ul_1_5, ul_1_6, ul_1_7, ul_1_8, ul_2_0, ul_2_1, ul_2_3, ul_2_4, ul_2_5, ul_2_6, ul_2_7, ul_2_8, ul_3_0, ul_3_1, ul_3_2, ul_3_4, ul_3_5, ul_3_6, ul_3_7, ul_3_8, ul_4_0, ul_4_1, ul_4_2, ul_4_3, ul_4_5, ul_4_6, ul_4_7, ul_4_8, ul_5_0, ul_5_1, ul_5_2, ul_5_3, ul_5_4, ul_5_6, ul_5_7, ul_5_8, ul_6_0, ul_6_1, ul_6_2, ul_6_3, ul_6_4, ul_6_5, ul_6_7, ul_6_8, ul_7_0, ul_7_1, ul_7_2, ul_7_3, ul_7_4, ul_7_5, ul_7_6, ul_7_8, ul_8_0, ul_8_1, ul_8_2, ul_8_3, ul_8_4, ul_8_5, ul_8_6, ul_8_7, z5_detOf_f3, z5_det_f2, ac_0, ac_1, ac_2, ac_3, ac_4, ac_5, ac_6, ac_7, ac_8, z3_setProduct_x, Int64.zero_add]
  · simp only [ul_e, ul_0_1, ul_0_2, ul_0_3, ul_0_4, ul_0_5, ul_0_6, ul_0_7, ul_0_8, ul_1_0, ul_1_2, ul_1_3, ul_1_4, ul_1_5, ul_1_6, ul_1_7, ul_1_8, ul_2_0, ul_2_1, ul_2_3, ul_2_4, ul_2_5, ul_2_6, ul_2_7, ul_2_8, ul_3_0, ul_3_1, ul_3_2, ul_3_4, ul_3_5, ul_3_6, ul_3_7, ul_3_8, ul_4_0, ul_4_1, ul_4_2, ul_4_3, ul_4_5, ul_4_6, ul_4_7, ul_4_8, ul_5_0, ul_5_1, ul_5_2, ul_5_3, ul_5_4, ul_5_6, ul_5_7, ul_5_8, ul_6_0, ul_6_1, ul_6_2, ul_6_3, ul_6_4, ul_6_5, ul_6_7, ul_6_8, ul_7_0, ul_7_1, ul_7_2, ul_7_3, ul_7_4, ul_7_5, ul_7_6, ul_7_8, ul_8_0, ul_8_1, ul_8_2, ul_8_3, ul_8_4, ul_8_5, ul_8_6, ul_8_7, z5_detOf_f3, z5_det_f2, ac_0, ac_1, ac_2, ac_3, ac_4, ac_5, ac_6, ac_7, ac_8, z3_setProduct_y, Int64.zero_add]
  · simp only [ul_e, ul_0_1, ul_0_2, ul_0_3, ul_0_4, ul_0_5, ul_0_6, ul_0_7, ul_0_8, ul_1_0, ul_1_2, ul_1_3, ul_1_4, ul_1_5, ul_1_6, ul_1_7, ul_1_8, ul_2_0, ul_2_1, ul_2_3, ul_2_4, ul_2_5, ul_2_6, ul_2_7, ul_2_8, ul_3_0, ul_3_1, ul_3_2, ul_3_4, ul_3_5, ul_3_6, ul_3_7, ul_3_8, ul_4_0, ul_4_1, ul_4_2, ul_4_3, ul_4_5, ul_4_6, ul_4_7, ul_4_8, ul_5_0, ul_5_1, ul_5_2, ul_5_3, ul_5_4, ul_5_6, ul_5_7, ul_5_8, ul_6_0, ul_6_1, ul_6_2, ul_6_3, ul_6_4, ul_6_5, ul_6_7, ul_6_8, ul_7_0, ul_7_1, ul_7_2, ul_7_3, ul_7_4, ul_7_5, ul_7_6, ul_7_8, ul_8_0, ul_8_1, ul_8_2, ul_8_3, ul_8_4, ul_8_5, ul_8_6, ul_8_7, z5_detOf_f3, z5_det_f2, ac_0, ac_1, ac_2, ac_3, ac_4, ac_5, ac_6, ac_7, ac_8, z3_setProduct_z, Int64.zero_add]
  · exact iv_nm (iv_add (iv_add (iv_mul mA px (by decide)) (iv_mul mB py (by decide)) (by decide)) (iv_mul mD pz (by decide)) (by decide)) (by decide)
  · exact iv_nm (iv_add (iv_add (iv_mul mB px (by decide)) (iv_mul mC py (by decide)) (by decide)) (iv_mul mE pz (by decide)) (by decide)) (by decide)
  · exact iv_nm (iv_add (iv_add (iv_mul mD px (by decide)) (iv_mul mE py (by decide)) (by decide)) (iv_mul mF pz (by decide)) (by decide)) (by decide)
theorem pu_centre (gm gp gl gc : Nat → Int32) (ff fx fa : Nat → Int64) (c : Int32) (g0 : G3 gp (gm 0)) (g1 : G3 gl (gm 1)) (g2 : G6 gc (gm 2)) : pk3 0 gm (z5_centre gm ff fx fa gp gc c) (z4_centre (gm 0) gp (gm 2) gc c) := by
  have h0 := g0.1
  have h1 := g1.1
  have h2 := g2.1
  have bp := g0.2.1
  have bl := g1.2.1
  have bc := g2.2.1
  unfold z5_centre z4_centre
  rw [pu_is2 h2]
  by_cases q : z2_has (gm 2) c = 0
  · rw [if_pos q, if_pos q]; exact pk3_s g0
  rw [if_neg q, if_neg q]
  have ca := ri6_0 bc h2 q
  have cb := ri6_1 bc h2 q
  have cc := ri6_2 bc h2 q
  have cd := ri6_3 bc h2 q
  have ce := ri6_4 bc h2 q
  have cf := ri6_5 bc h2 q
  have mA : iv (z0_setMinors_a (r6 gc c 2) (r6 gc c 4) (r6 gc c 5)) _ _ := (iv_sub (iv_mul (iv_mul iv_4 cc (by decide)) cf (by decide)) (iv_mul ce ce (by decide)) (by decide))
  have mB : iv (z0_setMinors_b (r6 gc c 1) (r6 gc c 3) (r6 gc c 4) (r6 gc c 5)) _ _ := (iv_sub (iv_mul cd ce (by decide)) (iv_mul (iv_mul iv_2 cb (by decide)) cf (by decide)) (by decide))
  have mC : iv (z0_setMinors_c (r6 gc c 0) (r6 gc c 3) (r6 gc c 5)) _ _ := (iv_sub (iv_mul (iv_mul iv_4 ca (by decide)) cf (by decide)) (iv_mul cd cd (by decide)) (by decide))
  have mD : iv (z0_setMinors_d (r6 gc c 1) (r6 gc c 2) (r6 gc c 3) (r6 gc c 4)) _ _ := (iv_sub (iv_mul cb ce (by decide)) (iv_mul (iv_mul iv_2 cc (by decide)) cd (by decide)) (by decide))
  have mE : iv (z0_setMinors_e (r6 gc c 0) (r6 gc c 1) (r6 gc c 3) (r6 gc c 4)) _ _ := (iv_sub (iv_mul cb cd (by decide)) (iv_mul (iv_mul iv_2 ca (by decide)) ce (by decide)) (by decide))
  have mF : iv (z0_setMinors_f (r6 gc c 0) (r6 gc c 1) (r6 gc c 2)) _ _ := (iv_sub (iv_mul (iv_mul iv_4 ca (by decide)) cc (by decide)) (iv_mul cb cb (by decide)) (by decide))
  simp only [z5_centre_v1, z5_centre_v2, z5_centre_v3, z4_centre_v1, z4_centre_v2, z4_centre_v3, rd6_a q, rd6_b q, rd6_c q, rd6_d q, rd6_e q, rd6_f q, r3_0, r6_0, r3_k, r6_k, rn_0, rn_1]
  rw [pr3, pr3, ku3]
  refine kp0 gm _ gp (-1000004) _ _ _ g0 ?_ ?_ ?_ ?_ ?_ ?_
  · simp only [ul_e, ul_0_1, ul_0_2, ul_0_3, ul_0_4, ul_0_5, ul_0_6, ul_0_7, ul_0_8, ul_1_0, ul_1_2, ul_1_3, ul_1_4, ul_1_5, ul_1_6, ul_1_7, ul_1_8, ul_2_0, ul_2_1, ul_2_3, ul_2_4, ul_2_5, ul_2_6, ul_2_7, ul_2_8, ul_3_0, ul_3_1, ul_3_2, ul_3_4, ul_3_5, ul_3_6, ul_3_7, ul_3_8, ul_4_0, ul_4_1, ul_4_2, ul_4_3, ul_4_5, ul_4_6, ul_4_7, ul_4_8, ul_5_0, ul_5_1, ul_5_2, ul_5_3, ul_5_4, ul_5_6, ul_5_7, ul_5_8, ul_6_0, ul_6_1, ul_6_2, ul_6_3, ul_6_4, ul_6_5, ul_6_7, ul_6_8, ul_7_0, ul_7_1, ul_7_2, ul_7_3, ul_7_4, ul_7_5, ul_7_6, ul_7_8, ul_8_0, ul_8_1, ul_8_2, ul_8_3, ul_8_4, ul_8_5, ul_8_6, ul_8_7, ac_0, ac_1, ac_2, ac_3, ac_4, ac_5, ac_6, ac_7, ac_8]
  · simp only [ul_e, ul_0_1, ul_0_2, ul_0_3, ul_0_4, ul_0_5, ul_0_6, ul_0_7, ul_0_8, ul_1_0, ul_1_2, ul_1_3, ul_1_4, ul_1_5, ul_1_6, ul_1_7, ul_1_8, ul_2_0, ul_2_1, ul_2_3, ul_2_4, ul_2_5, ul_2_6, ul_2_7, ul_2_8, ul_3_0, ul_3_1, ul_3_2, ul_3_4, ul_3_5, ul_3_6, ul_3_7, ul_3_8, ul_4_0, ul_4_1, ul_4_2, ul_4_3, ul_4_5, ul_4_6, ul_4_7, ul_4_8, ul_5_0, ul_5_1, ul_5_2, ul_5_3, ul_5_4, ul_5_6, ul_5_7, ul_5_8, ul_6_0, ul_6_1, ul_6_2, ul_6_3, ul_6_4, ul_6_5, ul_6_7, ul_6_8, ul_7_0, ul_7_1, ul_7_2, ul_7_3, ul_7_4, ul_7_5, ul_7_6, ul_7_8, ul_8_0, ul_8_1, ul_8_2, ul_8_3, ul_8_4, ul_8_5, ul_8_6, ul_8_7, ac_0, ac_1, ac_2, ac_3, ac_4, ac_5, ac_6, ac_7, ac_8]
  · simp only [ul_e, ul_0_1, ul_0_2, ul_0_3, ul_0_4, ul_0_5, ul_0_6, ul_0_7, ul_0_8, ul_1_0, ul_1_2, ul_1_3, ul_1_4, ul_1_5, ul_1_6, ul_1_7, ul_1_8, ul_2_0, ul_2_1, ul_2_3, ul_2_4, ul_2_5, ul_2_6, ul_2_7, ul_2_8, ul_3_0, ul_3_1, ul_3_2, ul_3_4, ul_3_5, ul_3_6, ul_3_7, ul_3_8, ul_4_0, ul_4_1, ul_4_2, ul_4_3, ul_4_5, ul_4_6, ul_4_7, ul_4_8, ul_5_0, ul_5_1, ul_5_2, ul_5_3, ul_5_4, ul_5_6, ul_5_7, ul_5_8, ul_6_0, ul_6_1, ul_6_2, ul_6_3, ul_6_4, ul_6_5, ul_6_7, ul_6_8, ul_7_0, ul_7_1, ul_7_2, ul_7_3, ul_7_4, ul_7_5, ul_7_6, ul_7_8, ul_8_0, ul_8_1, ul_8_2, ul_8_3, ul_8_4, ul_8_5, ul_8_6, ul_8_7, ac_0, ac_1, ac_2, ac_3, ac_4, ac_5, ac_6, ac_7, ac_8]
  · exact iv_nm mD (by decide)
  · exact iv_nm mE (by decide)
  · exact iv_nm mF (by decide)
theorem pu_dual (gm gp gl gc : Nat → Int32) (ff fx fa : Nat → Int64) (c : Int32) (g0 : G3 gp (gm 0)) (g1 : G3 gl (gm 1)) (g2 : G6 gc (gm 2)) : pk6 2 gm (z5_dual gm ff fx fa gc c) (z4_dual (gm 2) gc c) := by
  have h0 := g0.1
  have h1 := g1.1
  have h2 := g2.1
  have bp := g0.2.1
  have bl := g1.2.1
  have bc := g2.2.1
  unfold z5_dual z4_dual
  rw [pu_is2 h2]
  by_cases q : z2_has (gm 2) c = 0
  · rw [if_pos q, if_pos q]; exact pk6_s g2
  rw [if_neg q, if_neg q]
  rw [pu_det gc fx fa c bc h2 q]
  simp only [z4_dual_v1, rd6_a q, rd6_b q, rd6_c q, rd6_d q, rd6_e q, rd6_f q]
  by_cases s : z0_det (r6 gc c 0) (r6 gc c 1) (r6 gc c 2) (r6 gc c 3) (r6 gc c 4) (r6 gc c 5) = 0
  · rw [if_pos s, if_pos s]; exact pk6_s g2
  rw [if_neg s, if_neg s]
  have ca := ri6_0 bc h2 q
  have cb := ri6_1 bc h2 q
  have cc := ri6_2 bc h2 q
  have cd := ri6_3 bc h2 q
  have ce := ri6_4 bc h2 q
  have cf := ri6_5 bc h2 q
  have mA : iv (z0_setMinors_a (r6 gc c 2) (r6 gc c 4) (r6 gc c 5)) _ _ := (iv_sub (iv_mul (iv_mul iv_4 cc (by decide)) cf (by decide)) (iv_mul ce ce (by decide)) (by decide))
  have mB : iv (z0_setMinors_b (r6 gc c 1) (r6 gc c 3) (r6 gc c 4) (r6 gc c 5)) _ _ := (iv_sub (iv_mul cd ce (by decide)) (iv_mul (iv_mul iv_2 cb (by decide)) cf (by decide)) (by decide))
  have mC : iv (z0_setMinors_c (r6 gc c 0) (r6 gc c 3) (r6 gc c 5)) _ _ := (iv_sub (iv_mul (iv_mul iv_4 ca (by decide)) cf (by decide)) (iv_mul cd cd (by decide)) (by decide))
  have mD : iv (z0_setMinors_d (r6 gc c 1) (r6 gc c 2) (r6 gc c 3) (r6 gc c 4)) _ _ := (iv_sub (iv_mul cb ce (by decide)) (iv_mul (iv_mul iv_2 cc (by decide)) cd (by decide)) (by decide))
  have mE : iv (z0_setMinors_e (r6 gc c 0) (r6 gc c 1) (r6 gc c 3) (r6 gc c 4)) _ _ := (iv_sub (iv_mul cb cd (by decide)) (iv_mul (iv_mul iv_2 ca (by decide)) ce (by decide)) (by decide))
  have mF : iv (z0_setMinors_f (r6 gc c 0) (r6 gc c 1) (r6 gc c 2)) _ _ := (iv_sub (iv_mul (iv_mul iv_4 ca (by decide)) cc (by decide)) (iv_mul cb cb (by decide)) (by decide))
  simp only [z5_dual_v1, z5_dual_v2, z5_dual_v3, z4_dual_v2, z4_dual_v3, z4_dual_v4, z5_detOf_f3, z5_det_f2, ac_0, ac_1, ac_2, ac_3, ac_4, ac_5, ac_6, ac_7, ac_8, rd6_a q, rd6_b q, rd6_c q, rd6_d q, rd6_e q, rd6_f q, r3_0, r6_0, r3_k, r6_k, rn_0, rn_1]
  rw [pr3, pr3, ku6]
  refine kp2 gm _ gc (-1000004) _ _ _ _ _ _ g2 ?_ ?_ ?_ ?_ ?_ ?_ ?_ ?_ ?_ ?_ ?_ ?_
  · simp only [ul_e, ul_0_1, ul_0_2, ul_0_3, ul_0_4, ul_0_5, ul_0_6, ul_0_7, ul_0_8, ul_1_0, ul_1_2, ul_1_3, ul_1_4, ul_1_5, ul_1_6, ul_1_7, ul_1_8, ul_2_0, ul_2_1, ul_2_3, ul_2_4, ul_2_5, ul_2_6, ul_2_7, ul_2_8, ul_3_0, ul_3_1, ul_3_2, ul_3_4, ul_3_5, ul_3_6, ul_3_7, ul_3_8, ul_4_0, ul_4_1, ul_4_2, ul_4_3, ul_4_5, ul_4_6, ul_4_7, ul_4_8, ul_5_0, ul_5_1, ul_5_2, ul_5_3, ul_5_4, ul_5_6, ul_5_7, ul_5_8, ul_6_0, ul_6_1, ul_6_2, ul_6_3, ul_6_4, ul_6_5, ul_6_7, ul_6_8, ul_7_0, ul_7_1, ul_7_2, ul_7_3, ul_7_4, ul_7_5, ul_7_6, ul_7_8, ul_8_0, ul_8_1, ul_8_2, ul_8_3, ul_8_4, ul_8_5, ul_8_6, ul_8_7]
  · simp only [ul_e, ul_0_1, ul_0_2, ul_0_3, ul_0_4, ul_0_5, ul_0_6, ul_0_7, ul_0_8, ul_1_0, ul_1_2, ul_1_3, ul_1_4, ul_1_5, ul_1_6, ul_1_7, ul_1_8, ul_2_0, ul_2_1, ul_2_3, ul_2_4, ul_2_5, ul_2_6, ul_2_7, ul_2_8, ul_3_0, ul_3_1, ul_3_2, ul_3_4, ul_3_5, ul_3_6, ul_3_7, ul_3_8, ul_4_0, ul_4_1, ul_4_2, ul_4_3, ul_4_5, ul_4_6, ul_4_7, ul_4_8, ul_5_0, ul_5_1, ul_5_2, ul_5_3, ul_5_4, ul_5_6, ul_5_7, ul_5_8, ul_6_0, ul_6_1, ul_6_2, ul_6_3, ul_6_4, ul_6_5, ul_6_7, ul_6_8, ul_7_0, ul_7_1, ul_7_2, ul_7_3, ul_7_4, ul_7_5, ul_7_6, ul_7_8, ul_8_0, ul_8_1, ul_8_2, ul_8_3, ul_8_4, ul_8_5, ul_8_6, ul_8_7]
  · simp only [ul_e, ul_0_1, ul_0_2, ul_0_3, ul_0_4, ul_0_5, ul_0_6, ul_0_7, ul_0_8, ul_1_0, ul_1_2, ul_1_3, ul_1_4, ul_1_5, ul_1_6, ul_1_7, ul_1_8, ul_2_0, ul_2_1, ul_2_3, ul_2_4, ul_2_5, ul_2_6, ul_2_7, ul_2_8, ul_3_0, ul_3_1, ul_3_2, ul_3_4, ul_3_5, ul_3_6, ul_3_7, ul_3_8, ul_4_0, ul_4_1, ul_4_2, ul_4_3, ul_4_5, ul_4_6, ul_4_7, ul_4_8, ul_5_0, ul_5_1, ul_5_2, ul_5_3, ul_5_4, ul_5_6, ul_5_7, ul_5_8, ul_6_0, ul_6_1, ul_6_2, ul_6_3, ul_6_4, ul_6_5, ul_6_7, ul_6_8, ul_7_0, ul_7_1, ul_7_2, ul_7_3, ul_7_4, ul_7_5, ul_7_6, ul_7_8, ul_8_0, ul_8_1, ul_8_2, ul_8_3, ul_8_4, ul_8_5, ul_8_6, ul_8_7]
  · simp only [ul_e, ul_0_1, ul_0_2, ul_0_3, ul_0_4, ul_0_5, ul_0_6, ul_0_7, ul_0_8, ul_1_0, ul_1_2, ul_1_3, ul_1_4, ul_1_5, ul_1_6, ul_1_7, ul_1_8, ul_2_0, ul_2_1, ul_2_3, ul_2_4, ul_2_5, ul_2_6, ul_2_7, ul_2_8, ul_3_0, ul_3_1, ul_3_2, ul_3_4, ul_3_5, ul_3_6, ul_3_7, ul_3_8, ul_4_0, ul_4_1, ul_4_2, ul_4_3, ul_4_5, ul_4_6, ul_4_7, ul_4_8, ul_5_0, ul_5_1, ul_5_2, ul_5_3, ul_5_4, ul_5_6, ul_5_7, ul_5_8, ul_6_0, ul_6_1, ul_6_2, ul_6_3, ul_6_4, ul_6_5, ul_6_7, ul_6_8, ul_7_0, ul_7_1, ul_7_2, ul_7_3, ul_7_4, ul_7_5, ul_7_6, ul_7_8, ul_8_0, ul_8_1, ul_8_2, ul_8_3, ul_8_4, ul_8_5, ul_8_6, ul_8_7]
  · simp only [ul_e, ul_0_1, ul_0_2, ul_0_3, ul_0_4, ul_0_5, ul_0_6, ul_0_7, ul_0_8, ul_1_0, ul_1_2, ul_1_3, ul_1_4, ul_1_5, ul_1_6, ul_1_7, ul_1_8, ul_2_0, ul_2_1, ul_2_3, ul_2_4, ul_2_5, ul_2_6, ul_2_7, ul_2_8, ul_3_0, ul_3_1, ul_3_2, ul_3_4, ul_3_5, ul_3_6, ul_3_7, ul_3_8, ul_4_0, ul_4_1, ul_4_2, ul_4_3, ul_4_5, ul_4_6, ul_4_7, ul_4_8, ul_5_0, ul_5_1, ul_5_2, ul_5_3, ul_5_4, ul_5_6, ul_5_7, ul_5_8, ul_6_0, ul_6_1, ul_6_2, ul_6_3, ul_6_4, ul_6_5, ul_6_7, ul_6_8, ul_7_0, ul_7_1, ul_7_2, ul_7_3, ul_7_4, ul_7_5, ul_7_6, ul_7_8, ul_8_0, ul_8_1, ul_8_2, ul_8_3, ul_8_4, ul_8_5, ul_8_6, ul_8_7]
  · simp only [ul_e, ul_0_1, ul_0_2, ul_0_3, ul_0_4, ul_0_5, ul_0_6, ul_0_7, ul_0_8, ul_1_0, ul_1_2, ul_1_3, ul_1_4, ul_1_5, ul_1_6, ul_1_7, ul_1_8, ul_2_0, ul_2_1, ul_2_3, ul_2_4, ul_2_5, ul_2_6, ul_2_7, ul_2_8, ul_3_0, ul_3_1, ul_3_2, ul_3_4, ul_3_5, ul_3_6, ul_3_7, ul_3_8, ul_4_0, ul_4_1, ul_4_2, ul_4_3, ul_4_5, ul_4_6, ul_4_7, ul_4_8, ul_5_0, ul_5_1, ul_5_2, ul_5_3, ul_5_4, ul_5_6, ul_5_7, ul_5_8, ul_6_0, ul_6_1, ul_6_2, ul_6_3, ul_6_4, ul_6_5, ul_6_7, ul_6_8, ul_7_0, ul_7_1, ul_7_2, ul_7_3, ul_7_4, ul_7_5, ul_7_6, ul_7_8, ul_8_0, ul_8_1, ul_8_2, ul_8_3, ul_8_4, ul_8_5, ul_8_6, ul_8_7]
  · exact iv_nm mA (by decide)
  · exact iv_nm (iv_mul iv_2 mB (by decide)) (by decide)
  · exact iv_nm mC (by decide)
  · exact iv_nm (iv_mul iv_2 mD (by decide)) (by decide)
  · exact iv_nm (iv_mul iv_2 mE (by decide)) (by decide)
  · exact iv_nm mF (by decide)
theorem pu_in500 {u : Int32} (h : ¬ z5_in u.toInt64 (-500) 500 = 0) : iv u.toInt64 u.toInt 500 := by
  refine iv_32 ?_
  unfold z5_in at h
  have m5 : (-500 : Int64).toInt = -500 := by decide
  have p5 : (500 : Int64).toInt = 500 := by decide
  by_cases c1 : u.toInt64 < -500
  · rw [if_pos c1] at h
    exact absurd rfl h
  · rw [if_neg c1] at h
    by_cases c2 : 500 < u.toInt64
    · rw [if_pos c2] at h
      exact absurd rfl h
    · rw [Int64.lt_iff_toInt_lt, i32_64, m5] at c1
      rw [Int64.lt_iff_toInt_lt, i32_64, p5] at c2
      omega
theorem pu_member (gm gp gl gc : Nat → Int32) (ff : Nat → Int64) (c d u v : Int32) (g0 : G3 gp (gm 0)) (g1 : G3 gl (gm 1)) (g2 : G6 gc (gm 2)) : pk6 2 gm (z5_member gm ff gc c d u v) (z4_member (gm 2) gc c d u v) := by
  have h0 := g0.1
  have h1 := g1.1
  have h2 := g2.1
  have bp := g0.2.1
  have bl := g1.2.1
  have bc := g2.2.1
  unfold z5_member z4_member
  rw [pu_is2 h2, pu_is2 h2, pu_within5, pu_within5]
  by_cases q : z2_has (gm 2) c = 0
  · rw [if_pos q, if_pos q]; exact pk6_s g2
  rw [if_neg q, if_neg q]
  by_cases t : z2_has (gm 2) d = 0
  · rw [if_pos t, if_pos t]; exact pk6_s g2
  rw [if_neg t, if_neg t]
  by_cases m : z5_in u.toInt64 (-500) 500 = 0
  · rw [if_pos m, if_pos m]; exact pk6_s g2
  rw [if_neg m, if_neg m]
  by_cases n : z5_in v.toInt64 (-500) 500 = 0
  · rw [if_pos n, if_pos n]; exact pk6_s g2
  rw [if_neg n, if_neg n]
  have ca := ri6_0 bc h2 q
  have cb := ri6_1 bc h2 q
  have cc := ri6_2 bc h2 q
  have cd := ri6_3 bc h2 q
  have ce := ri6_4 bc h2 q
  have cf := ri6_5 bc h2 q
  have da := ri6_0 bc h2 t
  have db := ri6_1 bc h2 t
  have dc := ri6_2 bc h2 t
  have dd := ri6_3 bc h2 t
  have de := ri6_4 bc h2 t
  have df := ri6_5 bc h2 t
  have hu := pu_in500 m
  have hv := pu_in500 n
  simp only [z4_member_v1, z4_member_v2, z4_member_v3, rd6_a q, rd6_b q, rd6_c q, rd6_d q, rd6_e q, rd6_f q, rd6_a t, rd6_b t, rd6_c t, rd6_d t, rd6_e t, rd6_f t]
  rw [pr3, pr3, ku6]
  refine kp2 gm _ gc (-1000004) _ _ _ _ _ _ g2 ?_ ?_ ?_ ?_ ?_ ?_ ?_ ?_ ?_ ?_ ?_ ?_
  · simp only [z5_mix_f1, ul_e, ul_0_1, ul_0_2, ul_0_3, ul_0_4, ul_0_5, ul_0_6, ul_0_7, ul_0_8, ul_1_0, ul_1_2, ul_1_3, ul_1_4, ul_1_5, ul_1_6, ul_1_7, ul_1_8, ul_2_0, ul_2_1, ul_2_3, ul_2_4, ul_2_5, ul_2_6, ul_2_7, ul_2_8, ul_3_0, ul_3_1, ul_3_2, ul_3_4, ul_3_5, ul_3_6, ul_3_7, ul_3_8, ul_4_0, ul_4_1, ul_4_2, ul_4_3, ul_4_5, ul_4_6, ul_4_7, ul_4_8, ul_5_0, ul_5_1, ul_5_2, ul_5_3, ul_5_4, ul_5_6, ul_5_7, ul_5_8, ul_6_0, ul_6_1, ul_6_2, ul_6_3, ul_6_4, ul_6_5, ul_6_7, ul_6_8, ul_7_0, ul_7_1, ul_7_2, ul_7_3, ul_7_4, ul_7_5, ul_7_6, ul_7_8, ul_8_0, ul_8_1, ul_8_2, ul_8_3, ul_8_4, ul_8_5, ul_8_6, ul_8_7, r3_0, r6_0, r3_k, r6_k, rn_0, rn_1, z0_setTogether_a]
  · simp only [z5_mix_f1, ul_e, ul_0_1, ul_0_2, ul_0_3, ul_0_4, ul_0_5, ul_0_6, ul_0_7, ul_0_8, ul_1_0, ul_1_2, ul_1_3, ul_1_4, ul_1_5, ul_1_6, ul_1_7, ul_1_8, ul_2_0, ul_2_1, ul_2_3, ul_2_4, ul_2_5, ul_2_6, ul_2_7, ul_2_8, ul_3_0, ul_3_1, ul_3_2, ul_3_4, ul_3_5, ul_3_6, ul_3_7, ul_3_8, ul_4_0, ul_4_1, ul_4_2, ul_4_3, ul_4_5, ul_4_6, ul_4_7, ul_4_8, ul_5_0, ul_5_1, ul_5_2, ul_5_3, ul_5_4, ul_5_6, ul_5_7, ul_5_8, ul_6_0, ul_6_1, ul_6_2, ul_6_3, ul_6_4, ul_6_5, ul_6_7, ul_6_8, ul_7_0, ul_7_1, ul_7_2, ul_7_3, ul_7_4, ul_7_5, ul_7_6, ul_7_8, ul_8_0, ul_8_1, ul_8_2, ul_8_3, ul_8_4, ul_8_5, ul_8_6, ul_8_7, r3_0, r6_0, r3_k, r6_k, rn_0, rn_1, z0_setTogether_b]
  · simp only [z5_mix_f1, ul_e, ul_0_1, ul_0_2, ul_0_3, ul_0_4, ul_0_5, ul_0_6, ul_0_7, ul_0_8, ul_1_0, ul_1_2, ul_1_3, ul_1_4, ul_1_5, ul_1_6, ul_1_7, ul_1_8, ul_2_0, ul_2_1, ul_2_3, ul_2_4, ul_2_5, ul_2_6, ul_2_7, ul_2_8, ul_3_0, ul_3_1, ul_3_2, ul_3_4, ul_3_5, ul_3_6, ul_3_7, ul_3_8, ul_4_0, ul_4_1, ul_4_2, ul_4_3, ul_4_5, ul_4_6, ul_4_7, ul_4_8, ul_5_0, ul_5_1, ul_5_2, ul_5_3, ul_5_4, ul_5_6, ul_5_7, ul_5_8, ul_6_0, ul_6_1, ul_6_2, ul_6_3, ul_6_4, ul_6_5, ul_6_7, ul_6_8, ul_7_0, ul_7_1, ul_7_2, ul_7_3, ul_7_4, ul_7_5, ul_7_6, ul_7_8, ul_8_0, ul_8_1, ul_8_2, ul_8_3, ul_8_4, ul_8_5, ul_8_6, ul_8_7, r3_0, r6_0, r3_k, r6_k, rn_0, rn_1, z0_setTogether_c]
  · simp only [z5_mix_f1, ul_e, ul_0_1, ul_0_2, ul_0_3, ul_0_4, ul_0_5, ul_0_6, ul_0_7, ul_0_8, ul_1_0, ul_1_2, ul_1_3, ul_1_4, ul_1_5, ul_1_6, ul_1_7, ul_1_8, ul_2_0, ul_2_1, ul_2_3, ul_2_4, ul_2_5, ul_2_6, ul_2_7, ul_2_8, ul_3_0, ul_3_1, ul_3_2, ul_3_4, ul_3_5, ul_3_6, ul_3_7, ul_3_8, ul_4_0, ul_4_1, ul_4_2, ul_4_3, ul_4_5, ul_4_6, ul_4_7, ul_4_8, ul_5_0, ul_5_1, ul_5_2, ul_5_3, ul_5_4, ul_5_6, ul_5_7, ul_5_8, ul_6_0, ul_6_1, ul_6_2, ul_6_3, ul_6_4, ul_6_5, ul_6_7, ul_6_8, ul_7_0, ul_7_1, ul_7_2, ul_7_3, ul_7_4, ul_7_5, ul_7_6, ul_7_8, ul_8_0, ul_8_1, ul_8_2, ul_8_3, ul_8_4, ul_8_5, ul_8_6, ul_8_7, r3_0, r6_0, r3_k, r6_k, rn_0, rn_1, z0_setTogether_d]
  · simp only [z5_mix_f1, ul_e, ul_0_1, ul_0_2, ul_0_3, ul_0_4, ul_0_5, ul_0_6, ul_0_7, ul_0_8, ul_1_0, ul_1_2, ul_1_3, ul_1_4, ul_1_5, ul_1_6, ul_1_7, ul_1_8, ul_2_0, ul_2_1, ul_2_3, ul_2_4, ul_2_5, ul_2_6, ul_2_7, ul_2_8, ul_3_0, ul_3_1, ul_3_2, ul_3_4, ul_3_5, ul_3_6, ul_3_7, ul_3_8, ul_4_0, ul_4_1, ul_4_2, ul_4_3, ul_4_5, ul_4_6, ul_4_7, ul_4_8, ul_5_0, ul_5_1, ul_5_2, ul_5_3, ul_5_4, ul_5_6, ul_5_7, ul_5_8, ul_6_0, ul_6_1, ul_6_2, ul_6_3, ul_6_4, ul_6_5, ul_6_7, ul_6_8, ul_7_0, ul_7_1, ul_7_2, ul_7_3, ul_7_4, ul_7_5, ul_7_6, ul_7_8, ul_8_0, ul_8_1, ul_8_2, ul_8_3, ul_8_4, ul_8_5, ul_8_6, ul_8_7, r3_0, r6_0, r3_k, r6_k, rn_0, rn_1, z0_setTogether_e]
  · simp only [z5_mix_f1, ul_e, ul_0_1, ul_0_2, ul_0_3, ul_0_4, ul_0_5, ul_0_6, ul_0_7, ul_0_8, ul_1_0, ul_1_2, ul_1_3, ul_1_4, ul_1_5, ul_1_6, ul_1_7, ul_1_8, ul_2_0, ul_2_1, ul_2_3, ul_2_4, ul_2_5, ul_2_6, ul_2_7, ul_2_8, ul_3_0, ul_3_1, ul_3_2, ul_3_4, ul_3_5, ul_3_6, ul_3_7, ul_3_8, ul_4_0, ul_4_1, ul_4_2, ul_4_3, ul_4_5, ul_4_6, ul_4_7, ul_4_8, ul_5_0, ul_5_1, ul_5_2, ul_5_3, ul_5_4, ul_5_6, ul_5_7, ul_5_8, ul_6_0, ul_6_1, ul_6_2, ul_6_3, ul_6_4, ul_6_5, ul_6_7, ul_6_8, ul_7_0, ul_7_1, ul_7_2, ul_7_3, ul_7_4, ul_7_5, ul_7_6, ul_7_8, ul_8_0, ul_8_1, ul_8_2, ul_8_3, ul_8_4, ul_8_5, ul_8_6, ul_8_7, r3_0, r6_0, r3_k, r6_k, rn_0, rn_1, z0_setTogether_f]
  · exact iv_nm (iv_add (iv_mul hu ca (by decide)) (iv_mul hv da (by decide)) (by decide)) (by decide)
  · exact iv_nm (iv_add (iv_mul hu cb (by decide)) (iv_mul hv db (by decide)) (by decide)) (by decide)
  · exact iv_nm (iv_add (iv_mul hu cc (by decide)) (iv_mul hv dc (by decide)) (by decide)) (by decide)
  · exact iv_nm (iv_add (iv_mul hu cd (by decide)) (iv_mul hv dd (by decide)) (by decide)) (by decide)
  · exact iv_nm (iv_add (iv_mul hu ce (by decide)) (iv_mul hv de (by decide)) (by decide)) (by decide)
  · exact iv_nm (iv_add (iv_mul hu cf (by decide)) (iv_mul hv df (by decide)) (by decide)) (by decide)
theorem pu_value (gc gp : Nat → Int32) (c p : Int32) : z5_valueOf gc gp c p = z0_valueAt (r6 gc c 0) (r6 gc c 1) (r6 gc c 2) (r6 gc c 3) (r6 gc c 4) (r6 gc c 5) (r3 gp p 0) (r3 gp p 1) (r3 gp p 2) := by
  simp only [z5_valueOf, z5_valueOf_v1, z5_valueAt, r3_0, r6_0, r3_k, r6_k, rn_0, rn_1, z0_valueAt]
theorem pu_through (gm gp gl gc : Nat → Int32) (ff : Nat → Int64) (c d p : Int32) (g0 : G3 gp (gm 0)) (g1 : G3 gl (gm 1)) (g2 : G6 gc (gm 2)) : pk6 2 gm (z5_through gm ff gp gc c d p) (z4_through (gm 0) gp (gm 2) gc c d p) := by
  have h0 := g0.1
  have h1 := g1.1
  have h2 := g2.1
  have bp := g0.2.1
  have bl := g1.2.1
  have bc := g2.2.1
  unfold z5_through z4_through
  rw [pu_is2 h2, pu_is2 h2, pu_is0 h0]
  by_cases q : z2_has (gm 2) c = 0
  · rw [if_pos q, if_pos q]; exact pk6_s g2
  rw [if_neg q, if_neg q]
  by_cases t : z2_has (gm 2) d = 0
  · rw [if_pos t, if_pos t]; exact pk6_s g2
  rw [if_neg t, if_neg t]
  by_cases m : z2_has (gm 0) p = 0
  · rw [if_pos m, if_pos m]; exact pk6_s g2
  rw [if_neg m, if_neg m]
  have ca := ri6_0 bc h2 q
  have cb := ri6_1 bc h2 q
  have cc := ri6_2 bc h2 q
  have cd := ri6_3 bc h2 q
  have ce := ri6_4 bc h2 q
  have cf := ri6_5 bc h2 q
  have da := ri6_0 bc h2 t
  have db := ri6_1 bc h2 t
  have dc := ri6_2 bc h2 t
  have dd := ri6_3 bc h2 t
  have de := ri6_4 bc h2 t
  have df := ri6_5 bc h2 t
  have px := ri3_0 bp h0 m
  have py := ri3_1 bp h0 m
  have pz := ri3_2 bp h0 m
  have vc : iv (z0_valueAt (r6 gc c 0) (r6 gc c 1) (r6 gc c 2) (r6 gc c 3) (r6 gc c 4) (r6 gc c 5) (r3 gp p 0) (r3 gp p 1) (r3 gp p 2)) _ _ := (iv_add (iv_add (iv_add (iv_add (iv_add (iv_mul (iv_mul ca px (by decide)) px (by decide)) (iv_mul (iv_mul cb px (by decide)) py (by decide)) (by decide)) (iv_mul (iv_mul cc py (by decide)) py (by decide)) (by decide)) (iv_mul (iv_mul cd px (by decide)) pz (by decide)) (by decide)) (iv_mul (iv_mul ce py (by decide)) pz (by decide)) (by decide)) (iv_mul (iv_mul cf pz (by decide)) pz (by decide)) (by decide))
  have vd : iv (z0_valueAt (r6 gc d 0) (r6 gc d 1) (r6 gc d 2) (r6 gc d 3) (r6 gc d 4) (r6 gc d 5) (r3 gp p 0) (r3 gp p 1) (r3 gp p 2)) _ _ := (iv_add (iv_add (iv_add (iv_add (iv_add (iv_mul (iv_mul da px (by decide)) px (by decide)) (iv_mul (iv_mul db px (by decide)) py (by decide)) (by decide)) (iv_mul (iv_mul dc py (by decide)) py (by decide)) (by decide)) (iv_mul (iv_mul dd px (by decide)) pz (by decide)) (by decide)) (iv_mul (iv_mul de py (by decide)) pz (by decide)) (by decide)) (iv_mul (iv_mul df pz (by decide)) pz (by decide)) (by decide))
  simp only [z4_through_v1, z4_through_v2, z4_through_v3, z4_through_v4, z4_through_v5, z4_through_v6, z4_through_v7, z4_through_v8, z4_through_v9, rd6_a q, rd6_b q, rd6_c q, rd6_d q, rd6_e q, rd6_f q, rd6_a t, rd6_b t, rd6_c t, rd6_d t, rd6_e t, rd6_f t, rd3_x m, rd3_y m, rd3_z m, pu_value]
  rw [pr3, pr3, ku6]
  refine kp2 gm _ gc (-1000004) _ _ _ _ _ _ g2 ?_ ?_ ?_ ?_ ?_ ?_ ?_ ?_ ?_ ?_ ?_ ?_
  · simp only [z5_mix_f1, ul_e, ul_0_1, ul_0_2, ul_0_3, ul_0_4, ul_0_5, ul_0_6, ul_0_7, ul_0_8, ul_1_0, ul_1_2, ul_1_3, ul_1_4, ul_1_5, ul_1_6, ul_1_7, ul_1_8, ul_2_0, ul_2_1, ul_2_3, ul_2_4, ul_2_5, ul_2_6, ul_2_7, ul_2_8, ul_3_0, ul_3_1, ul_3_2, ul_3_4, ul_3_5, ul_3_6, ul_3_7, ul_3_8, ul_4_0, ul_4_1, ul_4_2, ul_4_3, ul_4_5, ul_4_6, ul_4_7, ul_4_8, ul_5_0, ul_5_1, ul_5_2, ul_5_3, ul_5_4, ul_5_6, ul_5_7, ul_5_8, ul_6_0, ul_6_1, ul_6_2, ul_6_3, ul_6_4, ul_6_5, ul_6_7, ul_6_8, ul_7_0, ul_7_1, ul_7_2, ul_7_3, ul_7_4, ul_7_5, ul_7_6, ul_7_8, ul_8_0, ul_8_1, ul_8_2, ul_8_3, ul_8_4, ul_8_5, ul_8_6, ul_8_7, r3_0, r6_0, r3_k, r6_k, rn_0, rn_1, z0_setThrough_a, z0_setTogether_a]
  · simp only [z5_mix_f1, ul_e, ul_0_1, ul_0_2, ul_0_3, ul_0_4, ul_0_5, ul_0_6, ul_0_7, ul_0_8, ul_1_0, ul_1_2, ul_1_3, ul_1_4, ul_1_5, ul_1_6, ul_1_7, ul_1_8, ul_2_0, ul_2_1, ul_2_3, ul_2_4, ul_2_5, ul_2_6, ul_2_7, ul_2_8, ul_3_0, ul_3_1, ul_3_2, ul_3_4, ul_3_5, ul_3_6, ul_3_7, ul_3_8, ul_4_0, ul_4_1, ul_4_2, ul_4_3, ul_4_5, ul_4_6, ul_4_7, ul_4_8, ul_5_0, ul_5_1, ul_5_2, ul_5_3, ul_5_4, ul_5_6, ul_5_7, ul_5_8, ul_6_0, ul_6_1, ul_6_2, ul_6_3, ul_6_4, ul_6_5, ul_6_7, ul_6_8, ul_7_0, ul_7_1, ul_7_2, ul_7_3, ul_7_4, ul_7_5, ul_7_6, ul_7_8, ul_8_0, ul_8_1, ul_8_2, ul_8_3, ul_8_4, ul_8_5, ul_8_6, ul_8_7, r3_0, r6_0, r3_k, r6_k, rn_0, rn_1, z0_setThrough_b, z0_setTogether_b]
  · simp only [z5_mix_f1, ul_e, ul_0_1, ul_0_2, ul_0_3, ul_0_4, ul_0_5, ul_0_6, ul_0_7, ul_0_8, ul_1_0, ul_1_2, ul_1_3, ul_1_4, ul_1_5, ul_1_6, ul_1_7, ul_1_8, ul_2_0, ul_2_1, ul_2_3, ul_2_4, ul_2_5, ul_2_6, ul_2_7, ul_2_8, ul_3_0, ul_3_1, ul_3_2, ul_3_4, ul_3_5, ul_3_6, ul_3_7, ul_3_8, ul_4_0, ul_4_1, ul_4_2, ul_4_3, ul_4_5, ul_4_6, ul_4_7, ul_4_8, ul_5_0, ul_5_1, ul_5_2, ul_5_3, ul_5_4, ul_5_6, ul_5_7, ul_5_8, ul_6_0, ul_6_1, ul_6_2, ul_6_3, ul_6_4, ul_6_5, ul_6_7, ul_6_8, ul_7_0, ul_7_1, ul_7_2, ul_7_3, ul_7_4, ul_7_5, ul_7_6, ul_7_8, ul_8_0, ul_8_1, ul_8_2, ul_8_3, ul_8_4, ul_8_5, ul_8_6, ul_8_7, r3_0, r6_0, r3_k, r6_k, rn_0, rn_1, z0_setThrough_c, z0_setTogether_c]
  · simp only [z5_mix_f1, ul_e, ul_0_1, ul_0_2, ul_0_3, ul_0_4, ul_0_5, ul_0_6, ul_0_7, ul_0_8, ul_1_0, ul_1_2, ul_1_3, ul_1_4, ul_1_5, ul_1_6, ul_1_7, ul_1_8, ul_2_0, ul_2_1, ul_2_3, ul_2_4, ul_2_5, ul_2_6, ul_2_7, ul_2_8, ul_3_0, ul_3_1, ul_3_2, ul_3_4, ul_3_5, ul_3_6, ul_3_7, ul_3_8, ul_4_0, ul_4_1, ul_4_2, ul_4_3, ul_4_5, ul_4_6, ul_4_7, ul_4_8, ul_5_0, ul_5_1, ul_5_2, ul_5_3, ul_5_4, ul_5_6, ul_5_7, ul_5_8, ul_6_0, ul_6_1, ul_6_2, ul_6_3, ul_6_4, ul_6_5, ul_6_7, ul_6_8, ul_7_0, ul_7_1, ul_7_2, ul_7_3, ul_7_4, ul_7_5, ul_7_6, ul_7_8, ul_8_0, ul_8_1, ul_8_2, ul_8_3, ul_8_4, ul_8_5, ul_8_6, ul_8_7, r3_0, r6_0, r3_k, r6_k, rn_0, rn_1, z0_setThrough_d, z0_setTogether_d]
  · simp only [z5_mix_f1, ul_e, ul_0_1, ul_0_2, ul_0_3, ul_0_4, ul_0_5, ul_0_6, ul_0_7, ul_0_8, ul_1_0, ul_1_2, ul_1_3, ul_1_4, ul_1_5, ul_1_6, ul_1_7, ul_1_8, ul_2_0, ul_2_1, ul_2_3, ul_2_4, ul_2_5, ul_2_6, ul_2_7, ul_2_8, ul_3_0, ul_3_1, ul_3_2, ul_3_4, ul_3_5, ul_3_6, ul_3_7, ul_3_8, ul_4_0, ul_4_1, ul_4_2, ul_4_3, ul_4_5, ul_4_6, ul_4_7, ul_4_8, ul_5_0, ul_5_1, ul_5_2, ul_5_3, ul_5_4, ul_5_6, ul_5_7, ul_5_8, ul_6_0, ul_6_1, ul_6_2, ul_6_3, ul_6_4, ul_6_5, ul_6_7, ul_6_8, ul_7_0, ul_7_1, ul_7_2, ul_7_3, ul_7_4, ul_7_5, ul_7_6, ul_7_8, ul_8_0, ul_8_1, ul_8_2, ul_8_3, ul_8_4, ul_8_5, ul_8_6, ul_8_7, r3_0, r6_0, r3_k, r6_k, rn_0, rn_1, z0_setThrough_e, z0_setTogether_e]
  · simp only [z5_mix_f1, ul_e, ul_0_1, ul_0_2, ul_0_3, ul_0_4, ul_0_5, ul_0_6, ul_0_7, ul_0_8, ul_1_0, ul_1_2, ul_1_3, ul_1_4, ul_1_5, ul_1_6, ul_1_7, ul_1_8, ul_2_0, ul_2_1, ul_2_3, ul_2_4, ul_2_5, ul_2_6, ul_2_7, ul_2_8, ul_3_0, ul_3_1, ul_3_2, ul_3_4, ul_3_5, ul_3_6, ul_3_7, ul_3_8, ul_4_0, ul_4_1, ul_4_2, ul_4_3, ul_4_5, ul_4_6, ul_4_7, ul_4_8, ul_5_0, ul_5_1, ul_5_2, ul_5_3, ul_5_4, ul_5_6, ul_5_7, ul_5_8, ul_6_0, ul_6_1, ul_6_2, ul_6_3, ul_6_4, ul_6_5, ul_6_7, ul_6_8, ul_7_0, ul_7_1, ul_7_2, ul_7_3, ul_7_4, ul_7_5, ul_7_6, ul_7_8, ul_8_0, ul_8_1, ul_8_2, ul_8_3, ul_8_4, ul_8_5, ul_8_6, ul_8_7, r3_0, r6_0, r3_k, r6_k, rn_0, rn_1, z0_setThrough_f, z0_setTogether_f]
  · exact iv_nm (iv_add (iv_mul vd ca (by decide)) (iv_mul (iv_neg vc (by decide)) da (by decide)) (by decide)) (by decide)
  · exact iv_nm (iv_add (iv_mul vd cb (by decide)) (iv_mul (iv_neg vc (by decide)) db (by decide)) (by decide)) (by decide)
  · exact iv_nm (iv_add (iv_mul vd cc (by decide)) (iv_mul (iv_neg vc (by decide)) dc (by decide)) (by decide)) (by decide)
  · exact iv_nm (iv_add (iv_mul vd cd (by decide)) (iv_mul (iv_neg vc (by decide)) dd (by decide)) (by decide)) (by decide)
  · exact iv_nm (iv_add (iv_mul vd ce (by decide)) (iv_mul (iv_neg vc (by decide)) de (by decide)) (by decide)) (by decide)
  · exact iv_nm (iv_add (iv_mul vd cf (by decide)) (iv_mul (iv_neg vc (by decide)) df (by decide)) (by decide)) (by decide)
