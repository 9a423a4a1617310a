def pk3 (s : Nat) (gm : Nat → Int32) (S : Int32 × (Nat → Int32) × (Nat → Int32)) (R : Int32 × Int32 × (Nat → Int32)) : Prop := S = lf s gm R ∧ G3 R.2.2 R.2.1
def pk6 (s : Nat) (gm : Nat → Int32) (S : Int32 × (Nat → Int32) × (Nat → Int32)) (R : Int32 × Int32 × (Nat → Int32)) : Prop := S = lf s gm R ∧ G6 R.2.2 R.2.1
theorem pk3_s {s : Nat} {gm g : Nat → Int32} {a : Int32} (h : G3 g (gm s)) : pk3 s gm (a, gm, g) (a, gm s, g) := ⟨(lf_same s gm a g).symm, h⟩
theorem pk6_s {s : Nat} {gm g : Nat → Int32} {a : Int32} (h : G6 g (gm s)) : pk6 s gm (a, gm, g) (a, gm s, g) := ⟨(lf_same s gm a g).symm, h⟩
theorem kp0 (gm : Nat → Int32) (F : Nat → Int64) (g : Nat → Int32) (r : Int32) (x y z : Int64) (hG : G3 g (gm 0)) (e0 : F 0 = x) (e1 : F 1 = y) (e2 : F 2 = z) (hx : nm x) (hy : nm y) (hz : nm z) : pk3 0 gm (z5_keep_0 gm F g r) (if z3_isZero x y z = 0 then kt3 (gm 0) g x y z else (r, gm 0, g)) := by
  subst e0 e1 e2
  rw [pu_keep0 gm F g r hG.1 hx hy]
  by_cases q : F 0 = 0 ∧ F 1 = 0 ∧ F 2 = 0
  · rw [if_pos q, if_neg (fun t => (pu_isz3 _ _ _).mp t q)]
    exact pk3_s hG
  · rw [if_neg q, if_pos ((pu_isz3 _ _ _).mpr q)]
    exact ⟨rfl, kt3_G hG hx hy hz q⟩
theorem kp1 (gm : Nat → Int32) (F : Nat → Int64) (g : Nat → Int32) (r : Int32) (x y z : Int64) (hG : G3 g (gm 1)) (e0 : F 0 = x) (e1 : F 1 = y) (e2 : F 2 = z) (hx : nm x) (hy : nm y) (hz : nm z) : pk3 1 gm (z5_keep_1 gm F g r) (if z3_isZero x y z = 0 then kt3 (gm 1) g x y z else (r, gm 1, g)) := by
  subst e0 e1 e2
  rw [pu_keep1 gm F g r hG.1 hx hy]
  by_cases q : F 0 = 0 ∧ F 1 = 0 ∧ F 2 = 0
  · rw [if_pos q, if_neg (fun t => (pu_isz3 _ _ _).mp t q)]
    exact pk3_s hG
  · rw [if_neg q, if_pos ((pu_isz3 _ _ _).mpr q)]
    exact ⟨rfl, kt3_G hG hx hy hz q⟩
theorem kp2 (gm : Nat → Int32) (F : Nat → Int64) (g : Nat → Int32) (r : Int32) (a b c d e f : Int64) (hG : G6 g (gm 2)) (e0 : F 0 = a) (e1 : F 1 = b) (e2 : F 2 = c) (e3 : F 3 = d) (e4 : F 4 = e) (e5 : F 5 = f) (ha : nm a) (hb : nm b) (hc : nm c) (hd : nm d) (he : nm e) (hf : nm f) : pk6 2 gm (z5_keep_2 gm F g r) (if z0_isZero a b c d e f = 0 then kt6 (gm 2) g a b c d e f else (r, gm 2, g)) := by
  subst e0 e1 e2 e3 e4 e5
  rw [pu_keep2 gm F g r hG.1 ha hb hc hd he]
  by_cases q : F 0 = 0 ∧ F 1 = 0 ∧ F 2 = 0 ∧ F 3 = 0 ∧ F 4 = 0 ∧ F 5 = 0
  · rw [if_pos q, if_neg (fun t => (pu_isz6 _ _ _ _ _ _).mp t q)]
    exact pk6_s hG
  · rw [if_neg q, if_pos ((pu_isz6 _ _ _ _ _ _).mpr q)]
    exact ⟨rfl, kt6_G hG ha hb hc hd he hf q⟩
theorem ku3 (n : Int32) (g : Nat → Int32) (x y z : Int64) : z4_keepTripleUnlessZero 3 n g x y z = if z3_isZero x y z = 0 then kt3 n g x y z else (-1000004, n, g) := rfl
theorem ku6 (n : Int32) (g : Nat → Int32) (a b c d e f : Int64) : z4_keepFormUnlessZero n g a b c d e f = if z0_isZero a b c d e f = 0 then kt6 n g a b c d e f else (-1000004, n, g) := rfl
theorem pu_told3_0 (gm : Nat → Int32) (ff : Nat → Int64) (g : Nat → Int32) (x y z : Int32) (hG : G3 g (gm 0)) : pk3 0 gm (z5_told3_0 gm ff g x y z) (z4_keepGiven 3 (gm 0) g x y z) := by
  unfold z5_told3_0 z4_keepGiven z3_isWithin
  rw [pu_within, pu_within, pu_within]
  by_cases c0 : z5_isNear x.toInt64 = 0
  · rw [if_pos c0, if_pos c0, if_pos rfl]; exact pk3_s hG
  rw [if_neg c0, if_neg c0]
  by_cases c1 : z5_isNear y.toInt64 = 0
  · rw [if_pos c1, if_pos c1, if_pos rfl]; exact pk3_s hG
  rw [if_neg c1, if_neg c1]
  by_cases c2 : z5_isNear z.toInt64 = 0
  · rw [if_pos c2, if_pos c2, if_pos rfl]; exact pk3_s hG
  rw [if_neg c2, if_neg c2, if_neg pu_10, pr3]
  exact kp0 gm _ g (-1000003) x.toInt64 y.toInt64 z.toInt64 hG (by simp only [ul_e, ul_0_1, ul_0_2, ul_0_3, ul_0_4, ul_0_5, ul_0_6, ul_0_7, ul_0_8, ul_1_0, ul_1_2, ul_1_3, ul_1_4, ul_1_5, ul_1_6, ul_1_7, ul_1_8, ul_2_0, ul_2_1, ul_2_3, ul_2_4, ul_2_5, ul_2_6, ul_2_7, ul_2_8, ul_3_0, ul_3_1, ul_3_2, ul_3_4, ul_3_5, ul_3_6, ul_3_7, ul_3_8, ul_4_0, ul_4_1, ul_4_2, ul_4_3, ul_4_5, ul_4_6, ul_4_7, ul_4_8, ul_5_0, ul_5_1, ul_5_2, ul_5_3, ul_5_4, ul_5_6, ul_5_7, ul_5_8, ul_6_0, ul_6_1, ul_6_2, ul_6_3, ul_6_4, ul_6_5, ul_6_7, ul_6_8, ul_7_0, ul_7_1, ul_7_2, ul_7_3, ul_7_4, ul_7_5, ul_7_6, ul_7_8, ul_8_0, ul_8_1, ul_8_2, ul_8_3, ul_8_4, ul_8_5, ul_8_6, ul_8_7]) (by simp only [ul_e, ul_0_1, ul_0_2, ul_0_3, ul_0_4, ul_0_5, ul_0_6, ul_0_7, ul_0_8, ul_1_0, ul_1_2, ul_1_3, ul_1_4, ul_1_5, ul_1_6, ul_1_7, ul_1_8, ul_2_0, ul_2_1, ul_2_3, ul_2_4, ul_2_5, ul_2_6, ul_2_7, ul_2_8, ul_3_0, ul_3_1, ul_3_2, ul_3_4, ul_3_5, ul_3_6, ul_3_7, ul_3_8, ul_4_0, ul_4_1, ul_4_2, ul_4_3, ul_4_5, ul_4_6, ul_4_7, ul_4_8, ul_5_0, ul_5_1, ul_5_2, ul_5_3, ul_5_4, ul_5_6, ul_5_7, ul_5_8, ul_6_0, ul_6_1, ul_6_2, ul_6_3, ul_6_4, ul_6_5, ul_6_7, ul_6_8, ul_7_0, ul_7_1, ul_7_2, ul_7_3, ul_7_4, ul_7_5, ul_7_6, ul_7_8, ul_8_0, ul_8_1, ul_8_2, ul_8_3, ul_8_4, ul_8_5, ul_8_6, ul_8_7]) (by simp only [ul_e, ul_0_1, ul_0_2, ul_0_3, ul_0_4, ul_0_5, ul_0_6, ul_0_7, ul_0_8, ul_1_0, ul_1_2, ul_1_3, ul_1_4, ul_1_5, ul_1_6, ul_1_7, ul_1_8, ul_2_0, ul_2_1, ul_2_3, ul_2_4, ul_2_5, ul_2_6, ul_2_7, ul_2_8, ul_3_0, ul_3_1, ul_3_2, ul_3_4, ul_3_5, ul_3_6, ul_3_7, ul_3_8, ul_4_0, ul_4_1, ul_4_2, ul_4_3, ul_4_5, ul_4_6, ul_4_7, ul_4_8, ul_5_0, ul_5_1, ul_5_2, ul_5_3, ul_5_4, ul_5_6, ul_5_7, ul_5_8, ul_6_0, ul_6_1, ul_6_2, ul_6_3, ul_6_4, ul_6_5, ul_6_7, ul_6_8, ul_7_0, ul_7_1, ul_7_2, ul_7_3, ul_7_4, ul_7_5, ul_7_6, ul_7_8, ul_8_0, ul_8_1, ul_8_2, ul_8_3, ul_8_4, ul_8_5, ul_8_6, ul_8_7]) (nm32 x) (nm32 y) (nm32 z)
theorem pu_told3_1 (gm : Nat → Int32) (ff : Nat → Int64) (g : Nat → Int32) (x y z : Int32) (hG : G3 g (gm 1)) : pk3 1 gm (z5_told3_1 gm ff g x y z) (z4_keepGiven 3 (gm 1) g x y z) := by
  unfold z5_told3_1 z4_keepGiven z3_isWithin
  rw [pu_within, pu_within, pu_within]
  by_cases c0 : z5_isNear x.toInt64 = 0
  · rw [if_pos c0, if_pos c0, if_pos rfl]; exact pk3_s hG
  rw [if_neg c0, if_neg c0]
  by_cases c1 : z5_isNear y.toInt64 = 0
  · rw [if_pos c1, if_pos c1, if_pos rfl]; exact pk3_s hG
  rw [if_neg c1, if_neg c1]
  by_cases c2 : z5_isNear z.toInt64 = 0
  · rw [if_pos c2, if_pos c2, if_pos rfl]; exact pk3_s hG
  rw [if_neg c2, if_neg c2, if_neg pu_10, pr3]
  exact kp1 gm _ g (-1000003) x.toInt64 y.toInt64 z.toInt64 hG (by simp only [ul_e, ul_0_1, ul_0_2, ul_0_3, ul_0_4, ul_0_5, ul_0_6, ul_0_7, ul_0_8, ul_1_0, ul_1_2, ul_1_3, ul_1_4, ul_1_5, ul_1_6, ul_1_7, ul_1_8, ul_2_0, ul_2_1, ul_2_3, ul_2_4, ul_2_5, ul_2_6, ul_2_7, ul_2_8, ul_3_0, ul_3_1, ul_3_2, ul_3_4, ul_3_5, ul_3_6, ul_3_7, ul_3_8, ul_4_0, ul_4_1, ul_4_2, ul_4_3, ul_4_5, ul_4_6, ul_4_7, ul_4_8, ul_5_0, ul_5_1, ul_5_2, ul_5_3, ul_5_4, ul_5_6, ul_5_7, ul_5_8, ul_6_0, ul_6_1, ul_6_2, ul_6_3, ul_6_4, ul_6_5, ul_6_7, ul_6_8, ul_7_0, ul_7_1, ul_7_2, ul_7_3, ul_7_4, ul_7_5, ul_7_6, ul_7_8, ul_8_0, ul_8_1, ul_8_2, ul_8_3, ul_8_4, ul_8_5, ul_8_6, ul_8_7]) (by simp only [ul_e, ul_0_1, ul_0_2, ul_0_3, ul_0_4, ul_0_5, ul_0_6, ul_0_7, ul_0_8, ul_1_0, ul_1_2, ul_1_3, ul_1_4, ul_1_5, ul_1_6, ul_1_7, ul_1_8, ul_2_0, ul_2_1, ul_2_3, ul_2_4, ul_2_5, ul_2_6, ul_2_7, ul_2_8, ul_3_0, ul_3_1, ul_3_2, ul_3_4, ul_3_5, ul_3_6, ul_3_7, ul_3_8, ul_4_0, ul_4_1, ul_4_2, ul_4_3, ul_4_5, ul_4_6, ul_4_7, ul_4_8, ul_5_0, ul_5_1, ul_5_2, ul_5_3, ul_5_4, ul_5_6, ul_5_7, ul_5_8, ul_6_0, ul_6_1, ul_6_2, ul_6_3, ul_6_4, ul_6_5, ul_6_7, ul_6_8, ul_7_0, ul_7_1, ul_7_2, ul_7_3, ul_7_4, ul_7_5, ul_7_6, ul_7_8, ul_8_0, ul_8_1, ul_8_2, ul_8_3, ul_8_4, ul_8_5, ul_8_6, ul_8_7]) (by simp only [ul_e, ul_0_1, ul_0_2, ul_0_3, ul_0_4, ul_0_5, ul_0_6, ul_0_7, ul_0_8, ul_1_0, ul_1_2, ul_1_3, ul_1_4, ul_1_5, ul_1_6, ul_1_7, ul_1_8, ul_2_0, ul_2_1, ul_2_3, ul_2_4, ul_2_5, ul_2_6, ul_2_7, ul_2_8, ul_3_0, ul_3_1, ul_3_2, ul_3_4, ul_3_5, ul_3_6, ul_3_7, ul_3_8, ul_4_0, ul_4_1, ul_4_2, ul_4_3, ul_4_5, ul_4_6, ul_4_7, ul_4_8, ul_5_0, ul_5_1, ul_5_2, ul_5_3, ul_5_4, ul_5_6, ul_5_7, ul_5_8, ul_6_0, ul_6_1, ul_6_2, ul_6_3, ul_6_4, ul_6_5, ul_6_7, ul_6_8, ul_7_0, ul_7_1, ul_7_2, ul_7_3, ul_7_4, ul_7_5, ul_7_6, ul_7_8, ul_8_0, ul_8_1, ul_8_2, ul_8_3, ul_8_4, ul_8_5, ul_8_6, ul_8_7]) (nm32 x) (nm32 y) (nm32 z)
theorem pu_conic (gm : Nat → Int32) (ff : Nat → Int64) (g : Nat → Int32) (a b c d e f : Int32) (hG : G6 g (gm 2)) : pk6 2 gm (z5_conic gm ff g a b c d e f) (z4_conic (gm 2) g a b c d e f) := by
  unfold z5_conic z4_conic z0_isWithin
  rw [pu_within, pu_within, pu_within, pu_within, pu_within, pu_within]
  by_cases c0 : z5_isNear a.toInt64 = 0
  · rw [if_pos c0, if_pos c0, if_pos rfl]; exact pk6_s hG
  rw [if_neg c0, if_neg c0]
  by_cases c1 : z5_isNear b.toInt64 = 0
  · rw [if_pos c1, if_pos c1, if_pos rfl]; exact pk6_s hG
  rw [if_neg c1, if_neg c1]
  by_cases c2 : z5_isNear c.toInt64 = 0
  · rw [if_pos c2, if_pos c2, if_pos rfl]; exact pk6_s hG
  rw [if_neg c2, if_neg c2]
  by_cases c3 : z5_isNear d.toInt64 = 0
  · rw [if_pos c3, if_pos c3, if_pos rfl]; exact pk6_s hG
  rw [if_neg c3, if_neg c3]
  by_cases c4 : z5_isNear e.toInt64 = 0
  · rw [if_pos c4, if_pos c4, if_pos rfl]; exact pk6_s hG
  rw [if_neg c4, if_neg c4]
  by_cases c5 : z5_isNear f.toInt64 = 0
  · rw [if_pos c5, if_pos c5, if_pos rfl]; exact pk6_s hG
  rw [if_neg c5, if_neg c5]
  rw [if_neg pu_10]
  unfold z5_conic_v1 z5_conic_v2 z5_conic_v3
  rw [pr3]
  exact kp2 gm _ g (-1000003) a.toInt64 b.toInt64 c.toInt64 d.toInt64 e.toInt64 f.toInt64 hG (by simp only [ul_e, ul_0_1, ul_0_2, ul_0_3, ul_0_4, ul_0_5, ul_0_6, ul_0_7, ul_0_8, ul_1_0, ul_1_2, ul_1_3, ul_1_4, ul_1_5, ul_1_6, ul_1_7, ul_1_8, ul_2_0, ul_2_1, ul_2_3, ul_2_4, ul_2_5, ul_2_6, ul_2_7, ul_2_8, ul_3_0, ul_3_1, ul_3_2, ul_3_4, ul_3_5, ul_3_6, ul_3_7, ul_3_8, ul_4_0, ul_4_1, ul_4_2, ul_4_3, ul_4_5, ul_4_6, ul_4_7, ul_4_8, ul_5_0, ul_5_1, ul_5_2, ul_5_3, ul_5_4, ul_5_6, ul_5_7, ul_5_8, ul_6_0, ul_6_1, ul_6_2, ul_6_3, ul_6_4, ul_6_5, ul_6_7, ul_6_8, ul_7_0, ul_7_1, ul_7_2, ul_7_3, ul_7_4, ul_7_5, ul_7_6, ul_7_8, ul_8_0, ul_8_1, ul_8_2, ul_8_3, ul_8_4, ul_8_5, ul_8_6, ul_8_7]) (by simp only [ul_e, ul_0_1, ul_0_2, ul_0_3, ul_0_4, ul_0_5, ul_0_6, ul_0_7, ul_0_8, ul_1_0, ul_1_2, ul_1_3, ul_1_4, ul_1_5, ul_1_6, ul_1_7, ul_1_8, ul_2_0, ul_2_1, ul_2_3, ul_2_4, ul_2_5, ul_2_6, ul_2_7, ul_2_8, ul_3_0, ul_3_1, ul_3_2, ul_3_4, ul_3_5, ul_3_6, ul_3_7, ul_3_8, ul_4_0, ul_4_1, ul_4_2, ul_4_3, ul_4_5, ul_4_6, ul_4_7, ul_4_8, ul_5_0, ul_5_1, ul_5_2, ul_5_3, ul_5_4, ul_5_6, ul_5_7, ul_5_8, ul_6_0, ul_6_1, ul_6_2, ul_6_3, ul_6_4, ul_6_5, ul_6_7, ul_6_8, ul_7_0, ul_7_1, ul_7_2, ul_7_3, ul_7_4, ul_7_5, ul_7_6, ul_7_8, ul_8_0, ul_8_1, ul_8_2, ul_8_3, ul_8_4, ul_8_5, ul_8_6, ul_8_7]) (by simp only [ul_e, ul_0_1, ul_0_2, ul_0_3, ul_0_4, ul_0_5, ul_0_6, ul_0_7, ul_0_8, ul_1_0, ul_1_2, ul_1_3, ul_1_4, ul_1_5, ul_1_6, ul_1_7, ul_1_8, ul_2_0, ul_2_1, ul_2_3, ul_2_4, ul_2_5, ul_2_6, ul_2_7, ul_2_8, ul_3_0, ul_3_1, ul_3_2, ul_3_4, ul_3_5, ul_3_6, ul_3_7, ul_3_8, ul_4_0, ul_4_1, ul_4_2, ul_4_3, ul_4_5, ul_4_6, ul_4_7, ul_4_8, ul_5_0, ul_5_1, ul_5_2, ul_5_3, ul_5_4, ul_5_6, ul_5_7, ul_5_8, ul_6_0, ul_6_1, ul_6_2, ul_6_3, ul_6_4, ul_6_5, ul_6_7, ul_6_8, ul_7_0, ul_7_1, ul_7_2, ul_7_3, ul_7_4, ul_7_5, ul_7_6, ul_7_8, ul_8_0, ul_8_1, ul_8_2, ul_8_3, ul_8_4, ul_8_5, ul_8_6, ul_8_7]) (by simp only [ul_e, ul_0_1, ul_0_2, ul_0_3, ul_0_4, ul_0_5, ul_0_6, ul_0_7, ul_0_8, ul_1_0, ul_1_2, ul_1_3, ul_1_4, ul_1_5, ul_1_6, ul_1_7, ul_1_8, ul_2_0, ul_2_1, ul_2_3, ul_2_4, ul_2_5, ul_2_6, ul_2_7, ul_2_8, ul_3_0, ul_3_1, ul_3_2, ul_3_4, ul_3_5, ul_3_6, ul_3_7, ul_3_8, ul_4_0, ul_4_1, ul_4_2, ul_4_3, ul_4_5, ul_4_6, ul_4_7, ul_4_8, ul_5_0, ul_5_1, ul_5_2, ul_5_3, ul_5_4, ul_5_6, ul_5_7, ul_5_8, ul_6_0, ul_6_1, ul_6_2, ul_6_3, ul_6_4, ul_6_5, ul_6_7, ul_6_8, ul_7_0, ul_7_1, ul_7_2, ul_7_3, ul_7_4, ul_7_5, ul_7_6, ul_7_8, ul_8_0, ul_8_1, ul_8_2, ul_8_3, ul_8_4, ul_8_5, ul_8_6, ul_8_7]) (by simp only [ul_e, ul_0_1, ul_0_2, ul_0_3, ul_0_4, ul_0_5, ul_0_6, ul_0_7, ul_0_8, ul_1_0, ul_1_2, ul_1_3, ul_1_4, ul_1_5, ul_1_6, ul_1_7, ul_1_8, ul_2_0, ul_2_1, ul_2_3, ul_2_4, ul_2_5, ul_2_6, ul_2_7, ul_2_8, ul_3_0, ul_3_1, ul_3_2, ul_3_4, ul_3_5, ul_3_6, ul_3_7, ul_3_8, ul_4_0, ul_4_1, ul_4_2, ul_4_3, ul_4_5, ul_4_6, ul_4_7, ul_4_8, ul_5_0, ul_5_1, ul_5_2, ul_5_3, ul_5_4, ul_5_6, ul_5_7, ul_5_8, ul_6_0, ul_6_1, ul_6_2, ul_6_3, ul_6_4, ul_6_5, ul_6_7, ul_6_8, ul_7_0, ul_7_1, ul_7_2, ul_7_3, ul_7_4, ul_7_5, ul_7_6, ul_7_8, ul_8_0, ul_8_1, ul_8_2, ul_8_3, ul_8_4, ul_8_5, ul_8_6, ul_8_7]) (by simp only [ul_e, ul_0_1, ul_0_2, ul_0_3, ul_0_4, ul_0_5, ul_0_6, ul_0_7, ul_0_8, ul_1_0, ul_1_2, ul_1_3, ul_1_4, ul_1_5, ul_1_6, ul_1_7, ul_1_8, ul_2_0, ul_2_1, ul_2_3, ul_2_4, ul_2_5, ul_2_6, ul_2_7, ul_2_8, ul_3_0, ul_3_1, ul_3_2, ul_3_4, ul_3_5, ul_3_6, ul_3_7, ul_3_8, ul_4_0, ul_4_1, ul_4_2, ul_4_3, ul_4_5, ul_4_6, ul_4_7, ul_4_8, ul_5_0, ul_5_1, ul_5_2, ul_5_3, ul_5_4, ul_5_6, ul_5_7, ul_5_8, ul_6_0, ul_6_1, ul_6_2, ul_6_3, ul_6_4, ul_6_5, ul_6_7, ul_6_8, ul_7_0, ul_7_1, ul_7_2, ul_7_3, ul_7_4, ul_7_5, ul_7_6, ul_7_8, ul_8_0, ul_8_1, ul_8_2, ul_8_3, ul_8_4, ul_8_5, ul_8_6, ul_8_7]) (nm32 a) (nm32 b) (nm32 c) (nm32 d) (nm32 e) (nm32 f)
