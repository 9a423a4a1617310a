/-! cross: class against reference -/
theorem iv_cast {x : Int64} {v w : Int} {B : Nat} (h : iv x v B) (e : v = w) : iv x w B := e ▸ h
theorem xi_A (gl gc : Nat → Int32) (c i : Int32) {A B C D E F x y z : Int} (ha : iv (r6 gc c 0) A 500) (hb : iv (r6 gc c 1) B 500) (hc : iv (r6 gc c 2) C 500) (hd : iv (r6 gc c 3) D 500) (he : iv (r6 gc c 4) E 500) (hf : iv (r6 gc c 5) F 500) (l1 : iv (r3 gl i 0) x 500) (l2 : iv (r3 gl i 1) y 500) (l3 : iv (r3 gl i 2) z 500) : iv (z4_setCrossed_a (r6 gc c 0) (r6 gc c 1) (r6 gc c 2) (r6 gc c 3) (r6 gc c 4) (r6 gc c 5) (r3 gl i 1) (r3 gl i 2)) (xA A B C D E F x y z) 700000000 := by
  refine iv_cast (iv_up (iv_add (iv_add (iv_add (iv_add (iv_add (iv_mul (iv_mul ha iv_0 (by decide)) iv_0 (by decide)) (iv_mul (iv_mul hb iv_0 (by decide)) l3 (by decide)) (by decide)) (iv_mul (iv_mul hc l3 (by decide)) l3 (by decide)) (by decide)) (iv_mul (iv_mul hd iv_0 (by decide)) (iv_neg l2 (by decide)) (by decide)) (by decide)) (iv_mul (iv_mul he l3 (by decide)) (iv_neg l2 (by decide)) (by decide)) (by decide)) (iv_mul (iv_mul hf (iv_neg l2 (by decide)) (by decide)) (iv_neg l2 (by decide)) (by decide)) (by decide)) (by decide)) ?_
  unfold xA qv
  grind
theorem xi_B (gl gc : Nat → Int32) (c i : Int32) {A B C D E F x y z : Int} (ha : iv (r6 gc c 0) A 500) (hb : iv (r6 gc c 1) B 500) (hc : iv (r6 gc c 2) C 500) (hd : iv (r6 gc c 3) D 500) (he : iv (r6 gc c 4) E 500) (hf : iv (r6 gc c 5) F 500) (l1 : iv (r3 gl i 0) x 500) (l2 : iv (r3 gl i 1) y 500) (l3 : iv (r3 gl i 2) z 500) : iv (z4_setCrossed_b (r6 gc c 0) (r6 gc c 1) (r6 gc c 2) (r6 gc c 3) (r6 gc c 4) (r6 gc c 5) (r3 gl i 0) (r3 gl i 1) (r3 gl i 2)) (xB A B C D E F x y z) 700000000 := by
  refine iv_cast (iv_up (iv_add (iv_add (iv_mul (iv_add (iv_add (iv_mul (iv_mul iv_2 ha (by decide)) iv_0 (by decide)) (iv_mul hb l3 (by decide)) (by decide)) (iv_mul hd (iv_neg l2 (by decide)) (by decide)) (by decide)) (iv_neg l3 (by decide)) (by decide)) (iv_mul (iv_add (iv_add (iv_mul hb iv_0 (by decide)) (iv_mul (iv_mul iv_2 hc (by decide)) l3 (by decide)) (by decide)) (iv_mul he (iv_neg l2 (by decide)) (by decide)) (by decide)) iv_0 (by decide)) (by decide)) (iv_mul (iv_add (iv_add (iv_mul hd iv_0 (by decide)) (iv_mul he l3 (by decide)) (by decide)) (iv_mul (iv_mul iv_2 hf (by decide)) (iv_neg l2 (by decide)) (by decide)) (by decide)) l1 (by decide)) (by decide)) (by decide)) ?_
  unfold xB bv
  grind
theorem xi_C (gl gc : Nat → Int32) (c i : Int32) {A B C D E F x y z : Int} (ha : iv (r6 gc c 0) A 500) (hb : iv (r6 gc c 1) B 500) (hc : iv (r6 gc c 2) C 500) (hd : iv (r6 gc c 3) D 500) (he : iv (r6 gc c 4) E 500) (hf : iv (r6 gc c 5) F 500) (l1 : iv (r3 gl i 0) x 500) (l2 : iv (r3 gl i 1) y 500) (l3 : iv (r3 gl i 2) z 500) : iv (z4_setCrossed_c (r6 gc c 0) (r6 gc c 1) (r6 gc c 2) (r6 gc c 3) (r6 gc c 4) (r6 gc c 5) (r3 gl i 0) (r3 gl i 2)) (xC A B C D E F x y z) 700000000 := by
  refine iv_cast (iv_up (iv_add (iv_add (iv_add (iv_add (iv_add (iv_mul (iv_mul ha (iv_neg l3 (by decide)) (by decide)) (iv_neg l3 (by decide)) (by decide)) (iv_mul (iv_mul hb (iv_neg l3 (by decide)) (by decide)) iv_0 (by decide)) (by decide)) (iv_mul (iv_mul hc iv_0 (by decide)) iv_0 (by decide)) (by decide)) (iv_mul (iv_mul hd (iv_neg l3 (by decide)) (by decide)) l1 (by decide)) (by decide)) (iv_mul (iv_mul he iv_0 (by decide)) l1 (by decide)) (by decide)) (iv_mul (iv_mul hf l1 (by decide)) l1 (by decide)) (by decide)) (by decide)) ?_
  unfold xC qv
  grind
theorem xi_D (gl gc : Nat → Int32) (c i : Int32) {A B C D E F x y z : Int} (ha : iv (r6 gc c 0) A 500) (hb : iv (r6 gc c 1) B 500) (hc : iv (r6 gc c 2) C 500) (hd : iv (r6 gc c 3) D 500) (he : iv (r6 gc c 4) E 500) (hf : iv (r6 gc c 5) F 500) (l1 : iv (r3 gl i 0) x 500) (l2 : iv (r3 gl i 1) y 500) (l3 : iv (r3 gl i 2) z 500) : iv (z4_setCrossed_d (r6 gc c 0) (r6 gc c 1) (r6 gc c 2) (r6 gc c 3) (r6 gc c 4) (r6 gc c 5) (r3 gl i 0) (r3 gl i 1) (r3 gl i 2)) (xD A B C D E F x y z) 700000000 := by
  refine iv_cast (iv_up (iv_add (iv_add (iv_mul (iv_add (iv_add (iv_mul (iv_mul iv_2 ha (by decide)) iv_0 (by decide)) (iv_mul hb l3 (by decide)) (by decide)) (iv_mul hd (iv_neg l2 (by decide)) (by decide)) (by decide)) l2 (by decide)) (iv_mul (iv_add (iv_add (iv_mul hb iv_0 (by decide)) (iv_mul (iv_mul iv_2 hc (by decide)) l3 (by decide)) (by decide)) (iv_mul he (iv_neg l2 (by decide)) (by decide)) (by decide)) (iv_neg l1 (by decide)) (by decide)) (by decide)) (iv_mul (iv_add (iv_add (iv_mul hd iv_0 (by decide)) (iv_mul he l3 (by decide)) (by decide)) (iv_mul (iv_mul iv_2 hf (by decide)) (iv_neg l2 (by decide)) (by decide)) (by decide)) iv_0 (by decide)) (by decide)) (by decide)) ?_
  unfold xD bv
  grind
theorem xi_E (gl gc : Nat → Int32) (c i : Int32) {A B C D E F x y z : Int} (ha : iv (r6 gc c 0) A 500) (hb : iv (r6 gc c 1) B 500) (hc : iv (r6 gc c 2) C 500) (hd : iv (r6 gc c 3) D 500) (he : iv (r6 gc c 4) E 500) (hf : iv (r6 gc c 5) F 500) (l1 : iv (r3 gl i 0) x 500) (l2 : iv (r3 gl i 1) y 500) (l3 : iv (r3 gl i 2) z 500) : iv (z4_setCrossed_e (r6 gc c 0) (r6 gc c 1) (r6 gc c 2) (r6 gc c 3) (r6 gc c 4) (r6 gc c 5) (r3 gl i 0) (r3 gl i 1) (r3 gl i 2)) (xE A B C D E F x y z) 700000000 := by
  refine iv_cast (iv_up (iv_add (iv_add (iv_mul (iv_add (iv_add (iv_mul (iv_mul iv_2 ha (by decide)) l2 (by decide)) (iv_mul hb (iv_neg l1 (by decide)) (by decide)) (by decide)) (iv_mul hd iv_0 (by decide)) (by decide)) (iv_neg l3 (by decide)) (by decide)) (iv_mul (iv_add (iv_add (iv_mul hb l2 (by decide)) (iv_mul (iv_mul iv_2 hc (by decide)) (iv_neg l1 (by decide)) (by decide)) (by decide)) (iv_mul he iv_0 (by decide)) (by decide)) iv_0 (by decide)) (by decide)) (iv_mul (iv_add (iv_add (iv_mul hd l2 (by decide)) (iv_mul he (iv_neg l1 (by decide)) (by decide)) (by decide)) (iv_mul (iv_mul iv_2 hf (by decide)) iv_0 (by decide)) (by decide)) l1 (by decide)) (by decide)) (by decide)) ?_
  unfold xE bv
  grind
theorem xi_F (gl gc : Nat → Int32) (c i : Int32) {A B C D E F x y z : Int} (ha : iv (r6 gc c 0) A 500) (hb : iv (r6 gc c 1) B 500) (hc : iv (r6 gc c 2) C 500) (hd : iv (r6 gc c 3) D 500) (he : iv (r6 gc c 4) E 500) (hf : iv (r6 gc c 5) F 500) (l1 : iv (r3 gl i 0) x 500) (l2 : iv (r3 gl i 1) y 500) (l3 : iv (r3 gl i 2) z 500) : iv (z4_setCrossed_f (r6 gc c 0) (r6 gc c 1) (r6 gc c 2) (r6 gc c 3) (r6 gc c 4) (r6 gc c 5) (r3 gl i 0) (r3 gl i 1)) (xF A B C D E F x y z) 700000000 := by
  refine iv_cast (iv_up (iv_add (iv_add (iv_add (iv_add (iv_add (iv_mul (iv_mul ha l2 (by decide)) l2 (by decide)) (iv_mul (iv_mul hb l2 (by decide)) (iv_neg l1 (by decide)) (by decide)) (by decide)) (iv_mul (iv_mul hc (iv_neg l1 (by decide)) (by decide)) (iv_neg l1 (by decide)) (by decide)) (by decide)) (iv_mul (iv_mul hd l2 (by decide)) iv_0 (by decide)) (by decide)) (iv_mul (iv_mul he (iv_neg l1 (by decide)) (by decide)) iv_0 (by decide)) (by decide)) (iv_mul (iv_mul hf iv_0 (by decide)) iv_0 (by decide)) (by decide)) (by decide)) ?_
  unfold xF qv
  grind
theorem cr_form (cm : Int32) (gm gl gc : Nat → Int32) (fx fk fg fh fi : Nat → Int64) (c i : Int32) (h1 : n_ok (gm 1)) (h2 : n_ok (gm 2)) (q : ¬ z2_has (gm 2) c = 0) (t : ¬ z2_has (gm 1) i = 0) : z5_cross cm gm gl gc fx fk fg fh fi c i = if (z5_valueAt gc c ((z5_layTwo gl fg fh i).1 0) ((z5_layTwo gl fg fh i).1 1) ((z5_layTwo gl fg fh i).1 2)) = 0 ∧ (z5_cross_v8 gl gc fx fg fh c i) = 0 ∧ (z5_valueAt gc c ((z5_layTwo gl fg fh i).2 0) ((z5_layTwo gl fg fh i).2 1) ((z5_layTwo gl fg fh i).2 2)) = 0 then (3, 0, fk) else if 0 ≤ (z5_cross_v13 gl gc fx fg fh c i) then if (z5_rootOf (z5_cross_v13 gl gc fx fg fh c i)) * (z5_rootOf (z5_cross_v13 gl gc fx fg fh c i)) = (z5_cross_v13 gl gc fx fg fh c i) then if (z5_cross_v13 gl gc fx fg fh c i) = 0 then if (z5_cross_v11 gl gc fx fg fh c i) = 0 then (1, 1, z5_putCrossing_0_f1 fk ((z5_layTwo gl fg fh i).1) ((z5_layTwo gl fg fh i).2) fi 1 0) else (1, 1, z5_cross_v16 gl gc fx fk fg fh fi c i) else if (z5_cross_v11 gl gc fx fg fh c i) = 0 then (2, 2, z5_arrange (z5_cross_v18 gl gc fx fk fg fh fi c i)) else (2, 2, z5_arrange (z5_cross_v16 gl gc fx fk fg fh fi c i)) else (4, 0, fk) else (0, 0, fk) := by
  unfold z5_cross
  rw [pu_is2 h2, pu_is1 h1, if_neg q, if_neg t]
  by_cases ca : (z5_valueAt gc c ((z5_layTwo gl fg fh i).1 0) ((z5_layTwo gl fg fh i).1 1) ((z5_layTwo gl fg fh i).1 2)) = 0
  · by_cases cb : (z5_cross_v8 gl gc fx fg fh c i) = 0
    · by_cases cd : (z5_valueAt gc c ((z5_layTwo gl fg fh i).2 0) ((z5_layTwo gl fg fh i).2 1) ((z5_layTwo gl fg fh i).2 2)) = 0
      · rw [if_pos ca, if_pos cb, if_pos cd, if_pos ⟨ca, cb, cd⟩]
      · have nd : ¬ ((z5_valueAt gc c ((z5_layTwo gl fg fh i).1 0) ((z5_layTwo gl fg fh i).1 1) ((z5_layTwo gl fg fh i).1 2)) = 0 ∧ (z5_cross_v8 gl gc fx fg fh c i) = 0 ∧ (z5_valueAt gc c ((z5_layTwo gl fg fh i).2 0) ((z5_layTwo gl fg fh i).2 1) ((z5_layTwo gl fg fh i).2 2)) = 0) := fun s => cd s.2.2
        rw [if_pos ca, if_pos cb, if_neg cd, if_neg nd]
    · have nd : ¬ ((z5_valueAt gc c ((z5_layTwo gl fg fh i).1 0) ((z5_layTwo gl fg fh i).1 1) ((z5_layTwo gl fg fh i).1 2)) = 0 ∧ (z5_cross_v8 gl gc fx fg fh c i) = 0 ∧ (z5_valueAt gc c ((z5_layTwo gl fg fh i).2 0) ((z5_layTwo gl fg fh i).2 1) ((z5_layTwo gl fg fh i).2 2)) = 0) := fun s => cb s.2.1
      rw [if_pos ca, if_neg cb, if_neg nd]
  · have nd : ¬ ((z5_valueAt gc c ((z5_layTwo gl fg fh i).1 0) ((z5_layTwo gl fg fh i).1 1) ((z5_layTwo gl fg fh i).1 2)) = 0 ∧ (z5_cross_v8 gl gc fx fg fh c i) = 0 ∧ (z5_valueAt gc c ((z5_layTwo gl fg fh i).2 0) ((z5_layTwo gl fg fh i).2 1) ((z5_layTwo gl fg fh i).2 2)) = 0) := fun s => ca s.1
    rw [if_neg ca, if_neg nd]
theorem v16_ok (gl gc : Nat → Int32) (fx fk fg fh fi : Nat → Int64) (c i : Int32) {P Q : Int64 × Int64 × Int64} (a0 : z5_putCrossing_0_v1 ((z5_layTwo gl fg fh i).1) ((z5_layTwo gl fg fh i).2) fi ((z5_rootOf (z5_cross_v13 gl gc fx fg fh c i)) - ((z5_cross_v8 gl gc fx fg fh c i) / (z5_cross_v10 gl gc fx fg fh c i))) (2 * (z5_cross_v11 gl gc fx fg fh c i)) 0 = P.1) (a1 : z5_putCrossing_0_v1 ((z5_layTwo gl fg fh i).1) ((z5_layTwo gl fg fh i).2) fi ((z5_rootOf (z5_cross_v13 gl gc fx fg fh c i)) - ((z5_cross_v8 gl gc fx fg fh c i) / (z5_cross_v10 gl gc fx fg fh c i))) (2 * (z5_cross_v11 gl gc fx fg fh c i)) 1 = P.2.1) (a2 : z5_putCrossing_0_v1 ((z5_layTwo gl fg fh i).1) ((z5_layTwo gl fg fh i).2) fi ((z5_rootOf (z5_cross_v13 gl gc fx fg fh c i)) - ((z5_cross_v8 gl gc fx fg fh c i) / (z5_cross_v10 gl gc fx fg fh c i))) (2 * (z5_cross_v11 gl gc fx fg fh c i)) 2 = P.2.2)
    (b0 : z5_putCrossing_0_v1 ((z5_layTwo gl fg fh i).1) ((z5_layTwo gl fg fh i).2) (z5_cross_v15 gl gc fx fg fh fi c i) (-(z5_rootOf (z5_cross_v13 gl gc fx fg fh c i)) - ((z5_cross_v8 gl gc fx fg fh c i) / (z5_cross_v10 gl gc fx fg fh c i))) (2 * (z5_cross_v11 gl gc fx fg fh c i)) 0 = Q.1) (b1 : z5_putCrossing_0_v1 ((z5_layTwo gl fg fh i).1) ((z5_layTwo gl fg fh i).2) (z5_cross_v15 gl gc fx fg fh fi c i) (-(z5_rootOf (z5_cross_v13 gl gc fx fg fh c i)) - ((z5_cross_v8 gl gc fx fg fh c i) / (z5_cross_v10 gl gc fx fg fh c i))) (2 * (z5_cross_v11 gl gc fx fg fh c i)) 1 = Q.2.1) (b2 : z5_putCrossing_0_v1 ((z5_layTwo gl fg fh i).1) ((z5_layTwo gl fg fh i).2) (z5_cross_v15 gl gc fx fg fh fi c i) (-(z5_rootOf (z5_cross_v13 gl gc fx fg fh c i)) - ((z5_cross_v8 gl gc fx fg fh c i) / (z5_cross_v10 gl gc fx fg fh c i))) (2 * (z5_cross_v11 gl gc fx fg fh c i)) 2 = Q.2.2) : tkok (z5_cross_v16 gl gc fx fk fg fh fi c i) P Q := by
  refine ⟨?_, ?_, ?_, ?_, ?_, ?_⟩
  · simp only [z5_cross_v16, z5_putCrossing_1_f1, ul_e, ul_0_1, ul_0_2, ul_0_3, ul_0_4, ul_0_5, ul_0_6, ul_0_7, ul_0_8, ul_1_0, ul_1_2, ul_1_3, ul_1_4, ul_1_5, ul_1_6, ul_1_7, ul_1_8, ul_2_0, ul_2_1, ul_2_3, ul_2_4, ul_2_5, ul_2_6, ul_2_7, ul_2_8, ul_3_0, ul_3_1, ul_3_2, ul_3_4, ul_3_5, ul_3_6, ul_3_7, ul_3_8, ul_4_0, ul_4_1, ul_4_2, ul_4_3, ul_4_5, ul_4_6, ul_4_7, ul_4_8, ul_5_0, ul_5_1, ul_5_2, ul_5_3, ul_5_4, ul_5_6, ul_5_7, ul_5_8, ul_6_0, ul_6_1, ul_6_2, ul_6_3, ul_6_4, ul_6_5, ul_6_7, ul_6_8, ul_7_0, ul_7_1, ul_7_2, ul_7_3, ul_7_4, ul_7_5, ul_7_6, ul_7_8, ul_8_0, ul_8_1, ul_8_2, ul_8_3, ul_8_4, ul_8_5, ul_8_6, ul_8_7]
    simp only [z5_cross_v14, z5_putCrossing_0_f1, ul_e, ul_0_1, ul_0_2, ul_0_3, ul_0_4, ul_0_5, ul_0_6, ul_0_7, ul_0_8, ul_1_0, ul_1_2, ul_1_3, ul_1_4, ul_1_5, ul_1_6, ul_1_7, ul_1_8, ul_2_0, ul_2_1, ul_2_3, ul_2_4, ul_2_5, ul_2_6, ul_2_7, ul_2_8, ul_3_0, ul_3_1, ul_3_2, ul_3_4, ul_3_5, ul_3_6, ul_3_7, ul_3_8, ul_4_0, ul_4_1, ul_4_2, ul_4_3, ul_4_5, ul_4_6, ul_4_7, ul_4_8, ul_5_0, ul_5_1, ul_5_2, ul_5_3, ul_5_4, ul_5_6, ul_5_7, ul_5_8, ul_6_0, ul_6_1, ul_6_2, ul_6_3, ul_6_4, ul_6_5, ul_6_7, ul_6_8, ul_7_0, ul_7_1, ul_7_2, ul_7_3, ul_7_4, ul_7_5, ul_7_6, ul_7_8, ul_8_0, ul_8_1, ul_8_2, ul_8_3, ul_8_4, ul_8_5, ul_8_6, ul_8_7, a0]
  · simp only [z5_cross_v16, z5_putCrossing_1_f1, ul_e, ul_0_1, ul_0_2, ul_0_3, ul_0_4, ul_0_5, ul_0_6, ul_0_7, ul_0_8, ul_1_0, ul_1_2, ul_1_3, ul_1_4, ul_1_5, ul_1_6, ul_1_7, ul_1_8, ul_2_0, ul_2_1, ul_2_3, ul_2_4, ul_2_5, ul_2_6, ul_2_7, ul_2_8, ul_3_0, ul_3_1, ul_3_2, ul_3_4, ul_3_5, ul_3_6, ul_3_7, ul_3_8, ul_4_0, ul_4_1, ul_4_2, ul_4_3, ul_4_5, ul_4_6, ul_4_7, ul_4_8, ul_5_0, ul_5_1, ul_5_2, ul_5_3, ul_5_4, ul_5_6, ul_5_7, ul_5_8, ul_6_0, ul_6_1, ul_6_2, ul_6_3, ul_6_4, ul_6_5, ul_6_7, ul_6_8, ul_7_0, ul_7_1, ul_7_2, ul_7_3, ul_7_4, ul_7_5, ul_7_6, ul_7_8, ul_8_0, ul_8_1, ul_8_2, ul_8_3, ul_8_4, ul_8_5, ul_8_6, ul_8_7]
    simp only [z5_cross_v14, z5_putCrossing_0_f1, ul_e, ul_0_1, ul_0_2, ul_0_3, ul_0_4, ul_0_5, ul_0_6, ul_0_7, ul_0_8, ul_1_0, ul_1_2, ul_1_3, ul_1_4, ul_1_5, ul_1_6, ul_1_7, ul_1_8, ul_2_0, ul_2_1, ul_2_3, ul_2_4, ul_2_5, ul_2_6, ul_2_7, ul_2_8, ul_3_0, ul_3_1, ul_3_2, ul_3_4, ul_3_5, ul_3_6, ul_3_7, ul_3_8, ul_4_0, ul_4_1, ul_4_2, ul_4_3, ul_4_5, ul_4_6, ul_4_7, ul_4_8, ul_5_0, ul_5_1, ul_5_2, ul_5_3, ul_5_4, ul_5_6, ul_5_7, ul_5_8, ul_6_0, ul_6_1, ul_6_2, ul_6_3, ul_6_4, ul_6_5, ul_6_7, ul_6_8, ul_7_0, ul_7_1, ul_7_2, ul_7_3, ul_7_4, ul_7_5, ul_7_6, ul_7_8, ul_8_0, ul_8_1, ul_8_2, ul_8_3, ul_8_4, ul_8_5, ul_8_6, ul_8_7, a1]
  · simp only [z5_cross_v16, z5_putCrossing_1_f1, ul_e, ul_0_1, ul_0_2, ul_0_3, ul_0_4, ul_0_5, ul_0_6, ul_0_7, ul_0_8, ul_1_0, ul_1_2, ul_1_3, ul_1_4, ul_1_5, ul_1_6, ul_1_7, ul_1_8, ul_2_0, ul_2_1, ul_2_3, ul_2_4, ul_2_5, ul_2_6, ul_2_7, ul_2_8, ul_3_0, ul_3_1, ul_3_2, ul_3_4, ul_3_5, ul_3_6, ul_3_7, ul_3_8, ul_4_0, ul_4_1, ul_4_2, ul_4_3, ul_4_5, ul_4_6, ul_4_7, ul_4_8, ul_5_0, ul_5_1, ul_5_2, ul_5_3, ul_5_4, ul_5_6, ul_5_7, ul_5_8, ul_6_0, ul_6_1, ul_6_2, ul_6_3, ul_6_4, ul_6_5, ul_6_7, ul_6_8, ul_7_0, ul_7_1, ul_7_2, ul_7_3, ul_7_4, ul_7_5, ul_7_6, ul_7_8, ul_8_0, ul_8_1, ul_8_2, ul_8_3, ul_8_4, ul_8_5, ul_8_6, ul_8_7]
    simp only [z5_cross_v14, z5_putCrossing_0_f1, ul_e, ul_0_1, ul_0_2, ul_0_3, ul_0_4, ul_0_5, ul_0_6, ul_0_7, ul_0_8, ul_1_0, ul_1_2, ul_1_3, ul_1_4, ul_1_5, ul_1_6, ul_1_7, ul_1_8, ul_2_0, ul_2_1, ul_2_3, ul_2_4, ul_2_5, ul_2_6, ul_2_7, ul_2_8, ul_3_0, ul_3_1, ul_3_2, ul_3_4, ul_3_5, ul_3_6, ul_3_7, ul_3_8, ul_4_0, ul_4_1, ul_4_2, ul_4_3, ul_4_5, ul_4_6, ul_4_7, ul_4_8, ul_5_0, ul_5_1, ul_5_2, ul_5_3, ul_5_4, ul_5_6, ul_5_7, ul_5_8, ul_6_0, ul_6_1, ul_6_2, ul_6_3, ul_6_4, ul_6_5, ul_6_7, ul_6_8, ul_7_0, ul_7_1, ul_7_2, ul_7_3, ul_7_4, ul_7_5, ul_7_6, ul_7_8, ul_8_0, ul_8_1, ul_8_2, ul_8_3, ul_8_4, ul_8_5, ul_8_6, ul_8_7, a2]
  · simp only [z5_cross_v16, z5_putCrossing_1_f1, ul_e, ul_0_1, ul_0_2, ul_0_3, ul_0_4, ul_0_5, ul_0_6, ul_0_7, ul_0_8, ul_1_0, ul_1_2, ul_1_3, ul_1_4, ul_1_5, ul_1_6, ul_1_7, ul_1_8, ul_2_0, ul_2_1, ul_2_3, ul_2_4, ul_2_5, ul_2_6, ul_2_7, ul_2_8, ul_3_0, ul_3_1, ul_3_2, ul_3_4, ul_3_5, ul_3_6, ul_3_7, ul_3_8, ul_4_0, ul_4_1, ul_4_2, ul_4_3, ul_4_5, ul_4_6, ul_4_7, ul_4_8, ul_5_0, ul_5_1, ul_5_2, ul_5_3, ul_5_4, ul_5_6, ul_5_7, ul_5_8, ul_6_0, ul_6_1, ul_6_2, ul_6_3, ul_6_4, ul_6_5, ul_6_7, ul_6_8, ul_7_0, ul_7_1, ul_7_2, ul_7_3, ul_7_4, ul_7_5, ul_7_6, ul_7_8, ul_8_0, ul_8_1, ul_8_2, ul_8_3, ul_8_4, ul_8_5, ul_8_6, ul_8_7, pc_01, b0]
  · simp only [z5_cross_v16, z5_putCrossing_1_f1, ul_e, ul_0_1, ul_0_2, ul_0_3, ul_0_4, ul_0_5, ul_0_6, ul_0_7, ul_0_8, ul_1_0, ul_1_2, ul_1_3, ul_1_4, ul_1_5, ul_1_6, ul_1_7, ul_1_8, ul_2_0, ul_2_1, ul_2_3, ul_2_4, ul_2_5, ul_2_6, ul_2_7, ul_2_8, ul_3_0, ul_3_1, ul_3_2, ul_3_4, ul_3_5, ul_3_6, ul_3_7, ul_3_8, ul_4_0, ul_4_1, ul_4_2, ul_4_3, ul_4_5, ul_4_6, ul_4_7, ul_4_8, ul_5_0, ul_5_1, ul_5_2, ul_5_3, ul_5_4, ul_5_6, ul_5_7, ul_5_8, ul_6_0, ul_6_1, ul_6_2, ul_6_3, ul_6_4, ul_6_5, ul_6_7, ul_6_8, ul_7_0, ul_7_1, ul_7_2, ul_7_3, ul_7_4, ul_7_5, ul_7_6, ul_7_8, ul_8_0, ul_8_1, ul_8_2, ul_8_3, ul_8_4, ul_8_5, ul_8_6, ul_8_7, pc_01, b1]
  · simp only [z5_cross_v16, z5_putCrossing_1_f1, ul_e, ul_0_1, ul_0_2, ul_0_3, ul_0_4, ul_0_5, ul_0_6, ul_0_7, ul_0_8, ul_1_0, ul_1_2, ul_1_3, ul_1_4, ul_1_5, ul_1_6, ul_1_7, ul_1_8, ul_2_0, ul_2_1, ul_2_3, ul_2_4, ul_2_5, ul_2_6, ul_2_7, ul_2_8, ul_3_0, ul_3_1, ul_3_2, ul_3_4, ul_3_5, ul_3_6, ul_3_7, ul_3_8, ul_4_0, ul_4_1, ul_4_2, ul_4_3, ul_4_5, ul_4_6, ul_4_7, ul_4_8, ul_5_0, ul_5_1, ul_5_2, ul_5_3, ul_5_4, ul_5_6, ul_5_7, ul_5_8, ul_6_0, ul_6_1, ul_6_2, ul_6_3, ul_6_4, ul_6_5, ul_6_7, ul_6_8, ul_7_0, ul_7_1, ul_7_2, ul_7_3, ul_7_4, ul_7_5, ul_7_6, ul_7_8, ul_8_0, ul_8_1, ul_8_2, ul_8_3, ul_8_4, ul_8_5, ul_8_6, ul_8_7, pc_01, b2]
theorem v18_ok (gl gc : Nat → Int32) (fx fk fg fh fi : Nat → Int64) (c i : Int32) {P Q : Int64 × Int64 × Int64} (a0 : z5_putCrossing_0_v1 ((z5_layTwo gl fg fh i).1) ((z5_layTwo gl fg fh i).2) fi 1 0 0 = P.1) (a1 : z5_putCrossing_0_v1 ((z5_layTwo gl fg fh i).1) ((z5_layTwo gl fg fh i).2) fi 1 0 1 = P.2.1) (a2 : z5_putCrossing_0_v1 ((z5_layTwo gl fg fh i).1) ((z5_layTwo gl fg fh i).2) fi 1 0 2 = P.2.2)
    (b0 : z5_putCrossing_0_v1 ((z5_layTwo gl fg fh i).1) ((z5_layTwo gl fg fh i).2) (z5_putCrossing_0_f4 ((z5_layTwo gl fg fh i).1) ((z5_layTwo gl fg fh i).2) fi 1 0) (-(z5_cross_v12 gl gc fx fg fh c i)) ((z5_cross_v8 gl gc fx fg fh c i) / (z5_cross_v10 gl gc fx fg fh c i)) 0 = Q.1) (b1 : z5_putCrossing_0_v1 ((z5_layTwo gl fg fh i).1) ((z5_layTwo gl fg fh i).2) (z5_putCrossing_0_f4 ((z5_layTwo gl fg fh i).1) ((z5_layTwo gl fg fh i).2) fi 1 0) (-(z5_cross_v12 gl gc fx fg fh c i)) ((z5_cross_v8 gl gc fx fg fh c i) / (z5_cross_v10 gl gc fx fg fh c i)) 1 = Q.2.1) (b2 : z5_putCrossing_0_v1 ((z5_layTwo gl fg fh i).1) ((z5_layTwo gl fg fh i).2) (z5_putCrossing_0_f4 ((z5_layTwo gl fg fh i).1) ((z5_layTwo gl fg fh i).2) fi 1 0) (-(z5_cross_v12 gl gc fx fg fh c i)) ((z5_cross_v8 gl gc fx fg fh c i) / (z5_cross_v10 gl gc fx fg fh c i)) 2 = Q.2.2) : tkok (z5_cross_v18 gl gc fx fk fg fh fi c i) P Q := by
  refine ⟨?_, ?_, ?_, ?_, ?_, ?_⟩
  · simp only [z5_cross_v18, z5_putCrossing_1_f1, ul_e, ul_0_1, ul_0_2, ul_0_3, ul_0_4, ul_0_5, ul_0_6, ul_0_7, ul_0_8, ul_1_0, ul_1_2, ul_1_3, ul_1_4, ul_1_5, ul_1_6, ul_1_7, ul_1_8, ul_2_0, ul_2_1, ul_2_3, ul_2_4, ul_2_5, ul_2_6, ul_2_7, ul_2_8, ul_3_0, ul_3_1, ul_3_2, ul_3_4, ul_3_5, ul_3_6, ul_3_7, ul_3_8, ul_4_0, ul_4_1, ul_4_2, ul_4_3, ul_4_5, ul_4_6, ul_4_7, ul_4_8, ul_5_0, ul_5_1, ul_5_2, ul_5_3, ul_5_4, ul_5_6, ul_5_7, ul_5_8, ul_6_0, ul_6_1, ul_6_2, ul_6_3, ul_6_4, ul_6_5, ul_6_7, ul_6_8, ul_7_0, ul_7_1, ul_7_2, ul_7_3, ul_7_4, ul_7_5, ul_7_6, ul_7_8, ul_8_0, ul_8_1, ul_8_2, ul_8_3, ul_8_4, ul_8_5, ul_8_6, ul_8_7]
    simp only [z5_putCrossing_0_f1, ul_e, ul_0_1, ul_0_2, ul_0_3, ul_0_4, ul_0_5, ul_0_6, ul_0_7, ul_0_8, ul_1_0, ul_1_2, ul_1_3, ul_1_4, ul_1_5, ul_1_6, ul_1_7, ul_1_8, ul_2_0, ul_2_1, ul_2_3, ul_2_4, ul_2_5, ul_2_6, ul_2_7, ul_2_8, ul_3_0, ul_3_1, ul_3_2, ul_3_4, ul_3_5, ul_3_6, ul_3_7, ul_3_8, ul_4_0, ul_4_1, ul_4_2, ul_4_3, ul_4_5, ul_4_6, ul_4_7, ul_4_8, ul_5_0, ul_5_1, ul_5_2, ul_5_3, ul_5_4, ul_5_6, ul_5_7, ul_5_8, ul_6_0, ul_6_1, ul_6_2, ul_6_3, ul_6_4, ul_6_5, ul_6_7, ul_6_8, ul_7_0, ul_7_1, ul_7_2, ul_7_3, ul_7_4, ul_7_5, ul_7_6, ul_7_8, ul_8_0, ul_8_1, ul_8_2, ul_8_3, ul_8_4, ul_8_5, ul_8_6, ul_8_7, a0]
  · simp only [z5_cross_v18, z5_putCrossing_1_f1, ul_e, ul_0_1, ul_0_2, ul_0_3, ul_0_4, ul_0_5, ul_0_6, ul_0_7, ul_0_8, ul_1_0, ul_1_2, ul_1_3, ul_1_4, ul_1_5, ul_1_6, ul_1_7, ul_1_8, ul_2_0, ul_2_1, ul_2_3, ul_2_4, ul_2_5, ul_2_6, ul_2_7, ul_2_8, ul_3_0, ul_3_1, ul_3_2, ul_3_4, ul_3_5, ul_3_6, ul_3_7, ul_3_8, ul_4_0, ul_4_1, ul_4_2, ul_4_3, ul_4_5, ul_4_6, ul_4_7, ul_4_8, ul_5_0, ul_5_1, ul_5_2, ul_5_3, ul_5_4, ul_5_6, ul_5_7, ul_5_8, ul_6_0, ul_6_1, ul_6_2, ul_6_3, ul_6_4, ul_6_5, ul_6_7, ul_6_8, ul_7_0, ul_7_1, ul_7_2, ul_7_3, ul_7_4, ul_7_5, ul_7_6, ul_7_8, ul_8_0, ul_8_1, ul_8_2, ul_8_3, ul_8_4, ul_8_5, ul_8_6, ul_8_7]
    simp only [z5_putCrossing_0_f1, ul_e, ul_0_1, ul_0_2, ul_0_3, ul_0_4, ul_0_5, ul_0_6, ul_0_7, ul_0_8, ul_1_0, ul_1_2, ul_1_3, ul_1_4, ul_1_5, ul_1_6, ul_1_7, ul_1_8, ul_2_0, ul_2_1, ul_2_3, ul_2_4, ul_2_5, ul_2_6, ul_2_7, ul_2_8, ul_3_0, ul_3_1, ul_3_2, ul_3_4, ul_3_5, ul_3_6, ul_3_7, ul_3_8, ul_4_0, ul_4_1, ul_4_2, ul_4_3, ul_4_5, ul_4_6, ul_4_7, ul_4_8, ul_5_0, ul_5_1, ul_5_2, ul_5_3, ul_5_4, ul_5_6, ul_5_7, ul_5_8, ul_6_0, ul_6_1, ul_6_2, ul_6_3, ul_6_4, ul_6_5, ul_6_7, ul_6_8, ul_7_0, ul_7_1, ul_7_2, ul_7_3, ul_7_4, ul_7_5, ul_7_6, ul_7_8, ul_8_0, ul_8_1, ul_8_2, ul_8_3, ul_8_4, ul_8_5, ul_8_6, ul_8_7, a1]
  · simp only [z5_cross_v18, z5_putCrossing_1_f1, ul_e, ul_0_1, ul_0_2, ul_0_3, ul_0_4, ul_0_5, ul_0_6, ul_0_7, ul_0_8, ul_1_0, ul_1_2, ul_1_3, ul_1_4, ul_1_5, ul_1_6, ul_1_7, ul_1_8, ul_2_0, ul_2_1, ul_2_3, ul_2_4, ul_2_5, ul_2_6, ul_2_7, ul_2_8, ul_3_0, ul_3_1, ul_3_2, ul_3_4, ul_3_5, ul_3_6, ul_3_7, ul_3_8, ul_4_0, ul_4_1, ul_4_2, ul_4_3, ul_4_5, ul_4_6, ul_4_7, ul_4_8, ul_5_0, ul_5_1, ul_5_2, ul_5_3, ul_5_4, ul_5_6, ul_5_7, ul_5_8, ul_6_0, ul_6_1, ul_6_2, ul_6_3, ul_6_4, ul_6_5, ul_6_7, ul_6_8, ul_7_0, ul_7_1, ul_7_2, ul_7_3, ul_7_4, ul_7_5, ul_7_6, ul_7_8, ul_8_0, ul_8_1, ul_8_2, ul_8_3, ul_8_4, ul_8_5, ul_8_6, ul_8_7]
    simp only [z5_putCrossing_0_f1, ul_e, ul_0_1, ul_0_2, ul_0_3, ul_0_4, ul_0_5, ul_0_6, ul_0_7, ul_0_8, ul_1_0, ul_1_2, ul_1_3, ul_1_4, ul_1_5, ul_1_6, ul_1_7, ul_1_8, ul_2_0, ul_2_1, ul_2_3, ul_2_4, ul_2_5, ul_2_6, ul_2_7, ul_2_8, ul_3_0, ul_3_1, ul_3_2, ul_3_4, ul_3_5, ul_3_6, ul_3_7, ul_3_8, ul_4_0, ul_4_1, ul_4_2, ul_4_3, ul_4_5, ul_4_6, ul_4_7, ul_4_8, ul_5_0, ul_5_1, ul_5_2, ul_5_3, ul_5_4, ul_5_6, ul_5_7, ul_5_8, ul_6_0, ul_6_1, ul_6_2, ul_6_3, ul_6_4, ul_6_5, ul_6_7, ul_6_8, ul_7_0, ul_7_1, ul_7_2, ul_7_3, ul_7_4, ul_7_5, ul_7_6, ul_7_8, ul_8_0, ul_8_1, ul_8_2, ul_8_3, ul_8_4, ul_8_5, ul_8_6, ul_8_7, a2]
  · simp only [z5_cross_v18, z5_putCrossing_1_f1, ul_e, ul_0_1, ul_0_2, ul_0_3, ul_0_4, ul_0_5, ul_0_6, ul_0_7, ul_0_8, ul_1_0, ul_1_2, ul_1_3, ul_1_4, ul_1_5, ul_1_6, ul_1_7, ul_1_8, ul_2_0, ul_2_1, ul_2_3, ul_2_4, ul_2_5, ul_2_6, ul_2_7, ul_2_8, ul_3_0, ul_3_1, ul_3_2, ul_3_4, ul_3_5, ul_3_6, ul_3_7, ul_3_8, ul_4_0, ul_4_1, ul_4_2, ul_4_3, ul_4_5, ul_4_6, ul_4_7, ul_4_8, ul_5_0, ul_5_1, ul_5_2, ul_5_3, ul_5_4, ul_5_6, ul_5_7, ul_5_8, ul_6_0, ul_6_1, ul_6_2, ul_6_3, ul_6_4, ul_6_5, ul_6_7, ul_6_8, ul_7_0, ul_7_1, ul_7_2, ul_7_3, ul_7_4, ul_7_5, ul_7_6, ul_7_8, ul_8_0, ul_8_1, ul_8_2, ul_8_3, ul_8_4, ul_8_5, ul_8_6, ul_8_7, pc_01, b0]
  · simp only [z5_cross_v18, z5_putCrossing_1_f1, ul_e, ul_0_1, ul_0_2, ul_0_3, ul_0_4, ul_0_5, ul_0_6, ul_0_7, ul_0_8, ul_1_0, ul_1_2, ul_1_3, ul_1_4, ul_1_5, ul_1_6, ul_1_7, ul_1_8, ul_2_0, ul_2_1, ul_2_3, ul_2_4, ul_2_5, ul_2_6, ul_2_7, ul_2_8, ul_3_0, ul_3_1, ul_3_2, ul_3_4, ul_3_5, ul_3_6, ul_3_7, ul_3_8, ul_4_0, ul_4_1, ul_4_2, ul_4_3, ul_4_5, ul_4_6, ul_4_7, ul_4_8, ul_5_0, ul_5_1, ul_5_2, ul_5_3, ul_5_4, ul_5_6, ul_5_7, ul_5_8, ul_6_0, ul_6_1, ul_6_2, ul_6_3, ul_6_4, ul_6_5, ul_6_7, ul_6_8, ul_7_0, ul_7_1, ul_7_2, ul_7_3, ul_7_4, ul_7_5, ul_7_6, ul_7_8, ul_8_0, ul_8_1, ul_8_2, ul_8_3, ul_8_4, ul_8_5, ul_8_6, ul_8_7, pc_01, b1]
  · simp only [z5_cross_v18, z5_putCrossing_1_f1, ul_e, ul_0_1, ul_0_2, ul_0_3, ul_0_4, ul_0_5, ul_0_6, ul_0_7, ul_0_8, ul_1_0, ul_1_2, ul_1_3, ul_1_4, ul_1_5, ul_1_6, ul_1_7, ul_1_8, ul_2_0, ul_2_1, ul_2_3, ul_2_4, ul_2_5, ul_2_6, ul_2_7, ul_2_8, ul_3_0, ul_3_1, ul_3_2, ul_3_4, ul_3_5, ul_3_6, ul_3_7, ul_3_8, ul_4_0, ul_4_1, ul_4_2, ul_4_3, ul_4_5, ul_4_6, ul_4_7, ul_4_8, ul_5_0, ul_5_1, ul_5_2, ul_5_3, ul_5_4, ul_5_6, ul_5_7, ul_5_8, ul_6_0, ul_6_1, ul_6_2, ul_6_3, ul_6_4, ul_6_5, ul_6_7, ul_6_8, ul_7_0, ul_7_1, ul_7_2, ul_7_3, ul_7_4, ul_7_5, ul_7_6, ul_7_8, ul_8_0, ul_8_1, ul_8_2, ul_8_3, ul_8_4, ul_8_5, ul_8_6, ul_8_7, pc_01, b2]
/-- what the crossed matrix' rows stand for lies on line and conic -/
theorem x_place {A B C D E F x y z t1 t2 t3 u v w : Int} (hl : ¬ (x = 0 ∧ y = 0 ∧ z = 0)) (nz : ¬ (xA A B C D E F x y z = 0 ∧ xB A B C D E F x y z = 0 ∧ xC A B C D E F x y z = 0 ∧ xD A B C D E F x y z = 0 ∧ xE A B C D E F x y z = 0 ∧ xF A B C D E F x y z = 0)) (tu : turn (xA A B C D E F x y z) (xB A B C D E F x y z) (xC A B C D E F x y z) (xD A B C D E F x y z) (xE A B C D E F x y z) (xF A B C D E F x y z) t1 t2 t3) (h : rowsp (2 * xA A B C D E F x y z) (xB A B C D E F x y z - t3) (xD A B C D E F x y z + t2) (xB A B C D E F x y z + t3) (2 * xC A B C D E F x y z) (xE A B C D E F x y z - t1) (xD A B C D E F x y z - t2) (xE A B C D E F x y z + t1) (2 * xF A B C D E F x y z) u v w) : x * u + y * v + z * w = 0 ∧ qv A B C D E F u v w = 0 := by
  obtain ⟨r1, r2, r3'⟩ := x_rows tu
  have on : x * u + y * v + z * w = 0 := by
    obtain ⟨p1, p2, p3⟩ := h
    by_cases c1 : 2 * xA A B C D E F x y z = 0 ∧ xB A B C D E F x y z - t3 = 0 ∧ xD A B C D E F x y z + t2 = 0
    · by_cases c2 : xB A B C D E F x y z + t3 = 0 ∧ 2 * xC A B C D E F x y z = 0 ∧ xE A B C D E F x y z - t1 = 0
      · by_cases c3 : xD A B C D E F x y z - t2 = 0 ∧ xE A B C D E F x y z + t1 = 0 ∧ 2 * xF A B C D E F x y z = 0
        · exact absurd ⟨c1, c2, c3⟩ (mat_nz nz)
        · exact par_line c3 p3 r3'
      · exact par_line c2 p2 r2
    · exact par_line c1 p1 r1
  exact ⟨on, x_zero hl on h⟩
theorem sgn_of {m n U K : Int} (mn : m ≠ 0) (nn : n ≠ 0) (h : m * m * U = -(n * n * K)) : (0 < K ↔ U < 0) ∧ (K = 0 ↔ U = 0) := by
  have m2 := sq_pos mn
  have n2 := sq_pos nn
  generalize m * m = M at *
  generalize n * n = N at *
  constructor
  · constructor
    · intro k
      have := Int.mul_pos n2 k
      apply Classical.byContradiction
      intro c
      have := Int.mul_nonneg (Int.le_of_lt m2) (Int.not_lt.mp c)
      omega
    · intro u
      have := Int.mul_neg_of_pos_of_neg m2 u
      apply Classical.byContradiction
      intro c
      have := Int.mul_nonneg (Int.le_of_lt n2) (show 0 ≤ -K by omega)
      have e : N * -K = -(N * K) := by grind
      omega
  · constructor
    · intro k
      rw [k, Int.mul_zero] at h
      exact mz (a := M) (by omega) (by omega)
    · intro u
      rw [u, Int.mul_zero] at h
      exact mz (a := N) (by omega) (by omega)
/-- K times a square above 0: K is -/
theorem K_pos {K x : Int} (h : 0 < K * (x * x)) : 0 < K := Int.pos_of_mul_pos_left h (by
  rcases Int.lt_or_eq_of_le (sq_nn x) with q | q
  · exact q
  · rw [← q, Int.mul_zero] at h
    omega)
theorem K_neg {K x : Int} (h : K * (x * x) < 0) : K < 0 := by
  have := K_pos (K := -K) (x := x) (by rw [Int.neg_mul]; omega)
  omega
/-- no line that is kept is all 0 -/
def nz3 (g : Nat → Int32) (n : Int32) : Prop := ∀ i : Int32, ¬ z2_has n i = 0 → ¬ (r3 g i 0 = 0 ∧ r3 g i 1 = 0 ∧ r3 g i 2 = 0)
theorem nz3_i {g : Nat → Int32} {n i : Int32} (h : nz3 g n) (q : ¬ z2_has n i = 0) : ¬ ((r3 g i 0).toInt = 0 ∧ (r3 g i 1).toInt = 0 ∧ (r3 g i 2).toInt = 0) := by
  rintro ⟨a, b, c⟩
  exact h i q ⟨pu_nez.mpr a, pu_nez.mpr b, pu_nez.mpr c⟩
/-- the two that both have found are the same -/
theorem two_same {X Y P Q : Int64 × Int64 × Int64} (xn : nrm X.1.toInt X.2.1.toInt X.2.2.toInt) (yn : nrm Y.1.toInt Y.2.1.toInt Y.2.2.toInt) (pn : nrm P.1.toInt P.2.1.toInt P.2.2.toInt) (qn : nrm Q.1.toInt Q.2.1.toInt Q.2.2.toInt) (xy : X ≠ Y) (hx : par X.1.toInt X.2.1.toInt X.2.2.toInt P.1.toInt P.2.1.toInt P.2.2.toInt ∨ par X.1.toInt X.2.1.toInt X.2.2.toInt Q.1.toInt Q.2.1.toInt Q.2.2.toInt) (hy : par Y.1.toInt Y.2.1.toInt Y.2.2.toInt P.1.toInt P.2.1.toInt P.2.2.toInt ∨ par Y.1.toInt Y.2.1.toInt Y.2.2.toInt Q.1.toInt Q.2.1.toInt Q.2.2.toInt) : (X = P ∧ Y = Q) ∨ (X = Q ∧ Y = P) := by
  rcases hx with hx | hx <;> rcases hy with hy | hy
  · exact absurd ((tri_eq (par_uniq xn pn hx)).trans (tri_eq (par_uniq yn pn hy)).symm) xy
  · exact Or.inl ⟨tri_eq (par_uniq xn pn hx), tri_eq (par_uniq yn qn hy)⟩
  · exact Or.inr ⟨tri_eq (par_uniq xn qn hx), tri_eq (par_uniq yn pn hy)⟩
  · exact absurd ((tri_eq (par_uniq xn qn hx)).trans (tri_eq (par_uniq yn qn hy)).symm) xy
set_option maxHeartbeats 4000000 in
theorem pu_cross (n : Int32) (x y z u v w : Int64) (cm : Int32) (gm gl gc : Nat → Int32) (fx fk fg fh fi : Nat → Int64) (c i : Int32) (h1 : n_ok (gm 1)) (h2 : n_ok (gm 2)) (bl : b500 gl 3 (gm 1)) (bc : b500 gc 6 (gm 2)) (nzl : nz3 gl (gm 1)) (pr : pr_ok n x y z u v w cm fk) : agr (z4_cross n x y z u v w (gm 1) gl (gm 2) gc c i) (z5_cross cm gm gl gc fx fk fg fh fi c i) := by
  by_cases q : z2_has (gm 2) c = 0
  · unfold z4_cross z5_cross
    rw [pu_is2 h2, if_pos q, if_pos q]
    exact ⟨rfl, pr⟩
  by_cases t : z2_has (gm 1) i = 0
  · unfold z4_cross z5_cross
    rw [pu_is2 h2, pu_is1 h1, if_neg q, if_neg q, if_pos t, if_pos t]
    exact ⟨rfl, pr⟩
  have ha := ri6_0 bc h2 q
  have hb := ri6_1 bc h2 q
  have hc := ri6_2 bc h2 q
  have hd := ri6_3 bc h2 q
  have he := ri6_4 bc h2 q
  have hf := ri6_5 bc h2 q
  have l1 := ri3_0 bl h1 t
  have l2 := ri3_1 bl h1 t
  have l3 := ri3_2 bl h1 t
  have hl := nz3_i nzl t
  have xa := xi_A gl gc c i ha hb hc hd he hf l1 l2 l3
  have xb := xi_B gl gc c i ha hb hc hd he hf l1 l2 l3
  have xc := xi_C gl gc c i ha hb hc hd he hf l1 l2 l3
  have xd := xi_D gl gc c i ha hb hc hd he hf l1 l2 l3
  have xe := xi_E gl gc c i ha hb hc hd he hf l1 l2 l3
  have xf := xi_F gl gc c i ha hb hc hd he hf l1 l2 l3
  obtain ⟨p1, p2, p3, s1, s2, s3, i1, i2, i3, j1, j2, j3, tw⟩ := lt_spec gl fg fh i l1 l2 l3 hl
  obtain ⟨va, vb, vd⟩ := cr_ok gl gc fx fg fh c i ha hb hc hd he hf i1 i2 i3 j1 j2 j3
  have form := cr_form cm gm gl gc fx fk fg fh fi c i h1 h2 q t
  have eR : z4_cross n x y z u v w (gm 1) gl (gm 2) gc c i = if z0_isZero (z4_setCrossed_a (r6 gc c 0) (r6 gc c 1) (r6 gc c 2) (r6 gc c 3) (r6 gc c 4) (r6 gc c 5) (r3 gl i 1) (r3 gl i 2)) (z4_setCrossed_b (r6 gc c 0) (r6 gc c 1) (r6 gc c 2) (r6 gc c 3) (r6 gc c 4) (r6 gc c 5) (r3 gl i 0) (r3 gl i 1) (r3 gl i 2)) (z4_setCrossed_c (r6 gc c 0) (r6 gc c 1) (r6 gc c 2) (r6 gc c 3) (r6 gc c 4) (r6 gc c 5) (r3 gl i 0) (r3 gl i 2)) (z4_setCrossed_d (r6 gc c 0) (r6 gc c 1) (r6 gc c 2) (r6 gc c 3) (r6 gc c 4) (r6 gc c 5) (r3 gl i 0) (r3 gl i 1) (r3 gl i 2)) (z4_setCrossed_e (r6 gc c 0) (r6 gc c 1) (r6 gc c 2) (r6 gc c 3) (r6 gc c 4) (r6 gc c 5) (r3 gl i 0) (r3 gl i 1) (r3 gl i 2)) (z4_setCrossed_f (r6 gc c 0) (r6 gc c 1) (r6 gc c 2) (r6 gc c 3) (r6 gc c 4) (r6 gc c 5) (r3 gl i 0) (r3 gl i 1)) = 0 then z4_fallApart (z4_setCrossed_a (r6 gc c 0) (r6 gc c 1) (r6 gc c 2) (r6 gc c 3) (r6 gc c 4) (r6 gc c 5) (r3 gl i 1) (r3 gl i 2)) (z4_setCrossed_b (r6 gc c 0) (r6 gc c 1) (r6 gc c 2) (r6 gc c 3) (r6 gc c 4) (r6 gc c 5) (r3 gl i 0) (r3 gl i 1) (r3 gl i 2)) (z4_setCrossed_c (r6 gc c 0) (r6 gc c 1) (r6 gc c 2) (r6 gc c 3) (r6 gc c 4) (r6 gc c 5) (r3 gl i 0) (r3 gl i 2)) (z4_setCrossed_d (r6 gc c 0) (r6 gc c 1) (r6 gc c 2) (r6 gc c 3) (r6 gc c 4) (r6 gc c 5) (r3 gl i 0) (r3 gl i 1) (r3 gl i 2)) (z4_setCrossed_e (r6 gc c 0) (r6 gc c 1) (r6 gc c 2) (r6 gc c 3) (r6 gc c 4) (r6 gc c 5) (r3 gl i 0) (r3 gl i 1) (r3 gl i 2)) (z4_setCrossed_f (r6 gc c 0) (r6 gc c 1) (r6 gc c 2) (r6 gc c 3) (r6 gc c 4) (r6 gc c 5) (r3 gl i 0) (r3 gl i 1)) x y z u v w else (3, 0, x, y, z, u, v, w) := by
    unfold z4_cross
    rw [if_neg q, if_neg t]
    simp only [z4_cross_v1, z4_cross_v2, z4_cross_v3, z4_cross_v4, z4_cross_v5, z4_cross_v6, z4_cross_v7, z4_cross_v8, z4_cross_v9, z4_cross_v10, z4_cross_v11, z4_cross_v12, z4_cross_v13, z4_cross_v14, z4_cross_v15, rd6_a q, rd6_b q, rd6_c q, rd6_d q, rd6_e q, rd6_f q, rd3_x t, rd3_y t, rd3_z t]
    first | done | rw [pr8]
  have hall := x_all (A := (r6 gc c 0).toInt) (B := (r6 gc c 1).toInt) (C := (r6 gc c 2).toInt) (D := (r6 gc c 3).toInt) (E := (r6 gc c 4).toInt) (F := (r6 gc c 5).toInt) hl tw
  by_cases all : qv (r6 gc c 0).toInt (r6 gc c 1).toInt (r6 gc c 2).toInt (r6 gc c 3).toInt (r6 gc c 4).toInt (r6 gc c 5).toInt p1 p2 p3 = 0 ∧ bv (r6 gc c 0).toInt (r6 gc c 1).toInt (r6 gc c 2).toInt (r6 gc c 3).toInt (r6 gc c 4).toInt (r6 gc c 5).toInt p1 p2 p3 s1 s2 s3 = 0 ∧ qv (r6 gc c 0).toInt (r6 gc c 1).toInt (r6 gc c 2).toInt (r6 gc c 3).toInt (r6 gc c 4).toInt (r6 gc c 5).toInt s1 s2 s3 = 0
  · rw [if_pos ⟨(iv_z va).mpr all.1, (iv_z vb).mpr all.2.1, (iv_z vd).mpr all.2.2⟩] at form
    obtain ⟨k1, k2, k3, k4, k5, k6⟩ := hall.mpr all
    have zz : ¬ z0_isZero (z4_setCrossed_a (r6 gc c 0) (r6 gc c 1) (r6 gc c 2) (r6 gc c 3) (r6 gc c 4) (r6 gc c 5) (r3 gl i 1) (r3 gl i 2)) (z4_setCrossed_b (r6 gc c 0) (r6 gc c 1) (r6 gc c 2) (r6 gc c 3) (r6 gc c 4) (r6 gc c 5) (r3 gl i 0) (r3 gl i 1) (r3 gl i 2)) (z4_setCrossed_c (r6 gc c 0) (r6 gc c 1) (r6 gc c 2) (r6 gc c 3) (r6 gc c 4) (r6 gc c 5) (r3 gl i 0) (r3 gl i 2)) (z4_setCrossed_d (r6 gc c 0) (r6 gc c 1) (r6 gc c 2) (r6 gc c 3) (r6 gc c 4) (r6 gc c 5) (r3 gl i 0) (r3 gl i 1) (r3 gl i 2)) (z4_setCrossed_e (r6 gc c 0) (r6 gc c 1) (r6 gc c 2) (r6 gc c 3) (r6 gc c 4) (r6 gc c 5) (r3 gl i 0) (r3 gl i 1) (r3 gl i 2)) (z4_setCrossed_f (r6 gc c 0) (r6 gc c 1) (r6 gc c 2) (r6 gc c 3) (r6 gc c 4) (r6 gc c 5) (r3 gl i 0) (r3 gl i 1)) = 0 := fun s => (pu_isz6 _ _ _ _ _ _).mp s ⟨(iv_z xa).mpr k1, (iv_z xb).mpr k2, (iv_z xc).mpr k3, (iv_z xd).mpr k4, (iv_z xe).mpr k5, (iv_z xf).mpr k6⟩
    rw [if_neg zz] at eR
    rw [eR, form]
    exact ⟨rfl, pr0 _ _ _ _ _ _ _⟩
  have nzX := fun s => all (hall.mp s)
  have zz : z0_isZero (z4_setCrossed_a (r6 gc c 0) (r6 gc c 1) (r6 gc c 2) (r6 gc c 3) (r6 gc c 4) (r6 gc c 5) (r3 gl i 1) (r3 gl i 2)) (z4_setCrossed_b (r6 gc c 0) (r6 gc c 1) (r6 gc c 2) (r6 gc c 3) (r6 gc c 4) (r6 gc c 5) (r3 gl i 0) (r3 gl i 1) (r3 gl i 2)) (z4_setCrossed_c (r6 gc c 0) (r6 gc c 1) (r6 gc c 2) (r6 gc c 3) (r6 gc c 4) (r6 gc c 5) (r3 gl i 0) (r3 gl i 2)) (z4_setCrossed_d (r6 gc c 0) (r6 gc c 1) (r6 gc c 2) (r6 gc c 3) (r6 gc c 4) (r6 gc c 5) (r3 gl i 0) (r3 gl i 1) (r3 gl i 2)) (z4_setCrossed_e (r6 gc c 0) (r6 gc c 1) (r6 gc c 2) (r6 gc c 3) (r6 gc c 4) (r6 gc c 5) (r3 gl i 0) (r3 gl i 1) (r3 gl i 2)) (z4_setCrossed_f (r6 gc c 0) (r6 gc c 1) (r6 gc c 2) (r6 gc c 3) (r6 gc c 4) (r6 gc c 5) (r3 gl i 0) (r3 gl i 1)) = 0 := (pu_isz6 _ _ _ _ _ _).mpr (fun s => nzX ⟨(iv_z xa).mp s.1, (iv_z xb).mp s.2.1, (iv_z xc).mp s.2.2.1, (iv_z xd).mp s.2.2.2.1, (iv_z xe).mp s.2.2.2.2.1, (iv_z xf).mp s.2.2.2.2.2⟩)
  rw [if_pos zz] at eR
  rw [if_neg (fun s => all ⟨(iv_z va).mp s.1, (iv_z vb).mp s.2.1, (iv_z vd).mp s.2.2⟩)] at form
  obtain ⟨g, a', b', d', gn, ea, eb, ed, ia, ib, id', nz'⟩ := cr_div va vb vd all
  have ia : iv (z5_cross_v11 gl gc fx fg fh c i) a' 750000000 := ia
  have ib : iv ((z5_cross_v8 gl gc fx fg fh c i) / (z5_cross_v10 gl gc fx fg fh c i)) b' 1500000000 := ib
  have id' : iv (z5_cross_v12 gl gc fx fg fh c i) d' 750000000 := id'
  have iu : iv (z5_cross_v13 gl gc fx fg fh c i) (b' * b' - 4 * a' * d') 4500000000000000000 := iv_sub (iv_mul ib ib (by decide)) (iv_mul (iv_mul iv_4 ia (by decide)) id' (by decide)) (by decide)
  obtain ⟨m, nn, mn, nnn, edisc⟩ := two_disc (A := (r6 gc c 0).toInt) (B := (r6 gc c 1).toInt) (C := (r6 gc c 2).toInt) (D := (r6 gc c 3).toInt) (E := (r6 gc c 4).toInt) (F := (r6 gc c 5).toInt) tw
  rw [ea, eb, ed] at edisc
  obtain ⟨mi1, mi2, mi3, mi4, mi5, mi6⟩ := x_min (r6 gc c 0).toInt (r6 gc c 1).toInt (r6 gc c 2).toInt (r6 gc c 3).toInt (r6 gc c 4).toInt (r6 gc c 5).toInt ((r3 gl i 0).toInt) ((r3 gl i 1).toInt) ((r3 gl i 2).toInt)
  obtain ⟨nu1, nu2, nu3⟩ := x_null (r6 gc c 0).toInt (r6 gc c 1).toInt (r6 gc c 2).toInt (r6 gc c 3).toInt (r6 gc c 4).toInt (r6 gc c 5).toInt ((r3 gl i 0).toInt) ((r3 gl i 1).toInt) ((r3 gl i 2).toInt)
  have dz : detz (xA (r6 gc c 0).toInt (r6 gc c 1).toInt (r6 gc c 2).toInt (r6 gc c 3).toInt (r6 gc c 4).toInt (r6 gc c 5).toInt ((r3 gl i 0).toInt) ((r3 gl i 1).toInt) ((r3 gl i 2).toInt)) (xB (r6 gc c 0).toInt (r6 gc c 1).toInt (r6 gc c 2).toInt (r6 gc c 3).toInt (r6 gc c 4).toInt (r6 gc c 5).toInt ((r3 gl i 0).toInt) ((r3 gl i 1).toInt) ((r3 gl i 2).toInt)) (xC (r6 gc c 0).toInt (r6 gc c 1).toInt (r6 gc c 2).toInt (r6 gc c 3).toInt (r6 gc c 4).toInt (r6 gc c 5).toInt ((r3 gl i 0).toInt) ((r3 gl i 1).toInt) ((r3 gl i 2).toInt)) (xD (r6 gc c 0).toInt (r6 gc c 1).toInt (r6 gc c 2).toInt (r6 gc c 3).toInt (r6 gc c 4).toInt (r6 gc c 5).toInt ((r3 gl i 0).toInt) ((r3 gl i 1).toInt) ((r3 gl i 2).toInt)) (xE (r6 gc c 0).toInt (r6 gc c 1).toInt (r6 gc c 2).toInt (r6 gc c 3).toInt (r6 gc c 4).toInt (r6 gc c 5).toInt ((r3 gl i 0).toInt) ((r3 gl i 1).toInt) ((r3 gl i 2).toInt)) (xF (r6 gc c 0).toInt (r6 gc c 1).toInt (r6 gc c 2).toInt (r6 gc c 3).toInt (r6 gc c 4).toInt (r6 gc c 5).toInt ((r3 gl i 0).toInt) ((r3 gl i 1).toInt) ((r3 gl i 2).toInt)) := det_null hl nu1 nu2 nu3
  generalize eU : b' * b' - 4 * a' * d' = U at *
  have edisc : (m * g) * (m * g) * U = -(nn * nn * xK (r6 gc c 0).toInt (r6 gc c 1).toInt (r6 gc c 2).toInt (r6 gc c 3).toInt (r6 gc c 4).toInt (r6 gc c 5).toInt ((r3 gl i 0).toInt) ((r3 gl i 1).toInt) ((r3 gl i 2).toInt)) := by
    rw [← edisc, ← eU]
    grind
  have mgn : m * g ≠ 0 := fun s => (Int.mul_eq_zero.mp s).elim mn gn
  obtain ⟨sg1, sg2⟩ := sgn_of mgn nnn edisc
  generalize xK (r6 gc c 0).toInt (r6 gc c 1).toInt (r6 gc c 2).toInt (r6 gc c 3).toInt (r6 gc c 4).toInt (r6 gc c 5).toInt ((r3 gl i 0).toInt) ((r3 gl i 1).toInt) ((r3 gl i 2).toInt) = K at *
  have notsq : U < 0 → ¬ 0 ≤ (z5_cross_v13 gl gc fx fg fh c i) := fun s s' => by have := (iv_ge0 iu).mp s'; omega
  have root : 0 ≤ U → 0 ≤ (z5_cross_v13 gl gc fx fg fh c i) ∧ (((z5_rootOf (z5_cross_v13 gl gc fx fg fh c i)) * (z5_rootOf (z5_cross_v13 gl gc fx fg fh c i)) = (z5_cross_v13 gl gc fx fg fh c i) ∧ ∃ r, iv (z5_rootOf (z5_cross_v13 gl gc fx fg fh c i)) r 3000000000 ∧ r * r = U) ∨ (¬ (z5_rootOf (z5_cross_v13 gl gc fx fg fh c i)) * (z5_rootOf (z5_cross_v13 gl gc fx fg fh c i)) = (z5_cross_v13 gl gc fx fg fh c i) ∧ ¬ ∃ k, U = k * k)) := by
    intro u0
    have c' := (iv_ge0 iu).mpr u0
    have hbnd := iu.2
    obtain ⟨q0, q1, q2, q3⟩ := root5 (v := (z5_cross_v13 gl gc fx fg fh c i)) (by rw [iu.1]; exact u0) (by rw [iu.1]; omega)
    rw [iu.1] at q2 q3
    have hr : iv (z5_rootOf (z5_cross_v13 gl gc fx fg fh c i)) (z5_rootOf (z5_cross_v13 gl gc fx fg fh c i)).toInt 3000000000 := ⟨rfl, by omega⟩
    have hrr := iv_mul hr hr (by decide)
    have ri := root_iff q0 q2 q3
    refine ⟨c', ?_⟩
    by_cases e : (z5_rootOf (z5_cross_v13 gl gc fx fg fh c i)) * (z5_rootOf (z5_cross_v13 gl gc fx fg fh c i)) = (z5_cross_v13 gl gc fx fg fh c i)
    · refine Or.inl ⟨e, _, hr, ?_⟩
      have := congrArg Int64.toInt e
      rw [hrr.1, iu.1] at this
      exact this
    · exact Or.inr ⟨e, fun s => e (iv_eq hrr iu (ri.mpr s))⟩
  rw [eR]
  rcases fa_spec x y z u v w xa xb xc xd xe xf dz with ⟨gg, eF⟩ | ⟨gg, eF⟩ | ⟨T1, T2, T3, t1, t2, t3, k1, k2, k3, tu, eF⟩
  · -- no crossing
    have Kp : 0 < K := by
      rcases gg with gg | gg | gg
      · rw [mi1] at gg; exact K_pos gg
      · rw [mi2] at gg; exact K_pos gg
      · rw [mi3] at gg; exact K_pos gg
    rw [if_neg (notsq (sg1.mp Kp))] at form
    rw [eF, form]
    exact ⟨rfl, pr0 _ _ _ _ _ _ _⟩
  · -- crossings that are no whole numbers
    have Kn : K < 0 ∧ ¬ ∃ k, -K = k * k := by
      have sq : ∀ s : Int, (∃ k, -K = k * k) → ∃ k, -(K * (s * s)) = k * k := by
        rintro s ⟨k, e⟩
        exact ⟨k * s, by grind⟩
      rcases gg with ⟨gg, ns⟩ | ⟨gg, ns⟩ | ⟨gg, ns⟩
      · rw [mi1] at gg
        exact ⟨K_neg gg, fun s => ns (by obtain ⟨k, e⟩ := sq _ s; exact ⟨k, by rw [← e, ← mi1]; omega⟩)⟩
      · rw [mi2] at gg
        exact ⟨K_neg gg, fun s => ns (by obtain ⟨k, e⟩ := sq _ s; exact ⟨k, by rw [← e, ← mi2]; omega⟩)⟩
      · rw [mi3] at gg
        exact ⟨K_neg gg, fun s => ns (by obtain ⟨k, e⟩ := sq _ s; exact ⟨k, by rw [← e, ← mi3]; omega⟩)⟩
    have u0 : 0 ≤ U := by
      apply Classical.byContradiction
      intro s
      have := sg1.mpr (by omega)
      omega
    obtain ⟨c', rt⟩ := root u0
    rcases rt with ⟨_, r, _, rr⟩ | ⟨e, _⟩
    · exfalso
      apply Kn.2
      refine sq_root (p := nn) (q := m * g * r) ?_ nnn
      rw [← rr] at edisc
      grind
    · rw [if_pos c', if_neg e] at form
      rw [eF, form]
      exact ⟨rfl, pr0 _ _ _ _ _ _ _⟩
  · -- crossings
    have usq : ∃ k, U = k * k := by
      obtain ⟨h11, h12, h22, h13, h23, h33⟩ := tu
      by_cases c1 : (r3 gl i 0).toInt = 0
      · by_cases c2 : (r3 gl i 1).toInt = 0
        · have c3 : (r3 gl i 2).toInt ≠ 0 := fun s => hl ⟨c1, c2, s⟩
          refine sq_root (p := m * g * (r3 gl i 2).toInt) (q := nn * t3) ?_ (fun s => (Int.mul_eq_zero.mp s).elim mgn c3)
          have : t3 * t3 = -(K * ((r3 gl i 2).toInt * (r3 gl i 2).toInt)) := by omega
          grind
        · refine sq_root (p := m * g * (r3 gl i 1).toInt) (q := nn * t2) ?_ (fun s => (Int.mul_eq_zero.mp s).elim mgn c2)
          have : t2 * t2 = -(K * ((r3 gl i 1).toInt * (r3 gl i 1).toInt)) := by omega
          grind
      · refine sq_root (p := m * g * (r3 gl i 0).toInt) (q := nn * t1) ?_ (fun s => (Int.mul_eq_zero.mp s).elim mgn c1)
        have : t1 * t1 = -(K * ((r3 gl i 0).toInt * (r3 gl i 0).toInt)) := by omega
        grind
    have u0 : 0 ≤ U := by
      obtain ⟨k, e⟩ := usq
      rw [e]
      exact sq_nn k
    have tz : (t1 = 0 ∧ t2 = 0 ∧ t3 = 0) ↔ U = 0 := by
      obtain ⟨h11, h12, h22, h13, h23, h33⟩ := tu
      constructor
      · rintro ⟨z1, z2, z3⟩
        rw [z1] at h11
        rw [z2] at h22
        rw [z3] at h33
        apply sg2.mp
        have nn2 := nrm2 hl
        apply mz (a := (r3 gl i 0).toInt * (r3 gl i 0).toInt + (r3 gl i 1).toInt * (r3 gl i 1).toInt + (r3 gl i 2).toInt * (r3 gl i 2).toInt) ?_ nn2
        have : ((r3 gl i 0).toInt * (r3 gl i 0).toInt + (r3 gl i 1).toInt * (r3 gl i 1).toInt + (r3 gl i 2).toInt * (r3 gl i 2).toInt) * K = K * ((r3 gl i 0).toInt * (r3 gl i 0).toInt) + K * ((r3 gl i 1).toInt * (r3 gl i 1).toInt) + K * ((r3 gl i 2).toInt * (r3 gl i 2).toInt) := by grind
        rw [this]
        omega
      · intro s
        have k0 := sg2.mpr s
        rw [k0, Int.zero_mul] at mi1 mi2 mi3
        exact ⟨sqz (by omega), sqz (by omega), sqz (by omega)⟩
    obtain ⟨c', rt⟩ := root u0
    rcases rt with ⟨e, r, hr, rr⟩ | ⟨_, e⟩
    case inr => exact absurd usq e
    rw [if_pos c', if_pos e] at form
    obtain ⟨xn, xr⟩ := setrow_spec xa xb xc xd xe xf k1 k2 k3 (turn_rank tu dz) nzX
    obtain ⟨yn, yr⟩ := setrow_spec xa xb xc xd xe xf (iv_neg k1 (by decide)) (iv_neg k2 (by decide)) (iv_neg k3 (by decide)) (turn_rank (turn_neg tu) dz) nzX
    obtain ⟨xon, xq⟩ := x_place hl nzX tu xr
    obtain ⟨yon, yq⟩ := x_place hl nzX (turn_neg tu) yr
    have yr := rowsp_T yr
    have xnz := nrm_nz xn
    have ynz := nrm_nz yn
    have hu0 := iv_up (iv_sub hr ib (by decide)) (show 3000000000 + 1500000000 ≤ 5000000000 by decide)
    have hu1 := iv_up (iv_sub (iv_neg hr (by decide)) ib (by decide)) (show 3000000000 + 1500000000 ≤ 5000000000 by decide)
    have hv0 := iv_up (iv_mul iv_2 ia (by decide)) (show 2 * 750000000 ≤ 5000000000 by decide)
    have rr' : r * r = b' * b' - 4 * a' * d' := by rw [rr, eU]
    by_cases a0 : (z5_cross_v11 gl gc fx fg fh c i) = 0
    · have az := (iv_z ia).mp a0
      rw [az] at ea
      obtain ⟨P, A0, A1, A2, pn, pp, pz⟩ := pc_ok ((z5_layTwo gl fg fh i).1) ((z5_layTwo gl fg fh i).2) fi (iv_up iv_1 (by decide)) (iv_up iv_0 (by decide)) i1 i2 i3 j1 j2 j3 hl tw (by decide)
      have ubb : U = b' * b' := by rw [← eU, az]; omega
      rcases eF with ⟨t0, eF⟩ | ⟨t0, eF⟩
      · have uz := tz.mp t0
        rw [if_pos ((iv_z iu).mpr uz), if_pos a0] at form
        rw [eF, form]
        have bz : b' = 0 := sqz (by rw [← ubb]; exact uz)
        have dn : d' ≠ 0 := fun s => nz' ⟨az, bz, s⟩
        have tk : tkok (z5_putCrossing_0_f1 fk ((z5_layTwo gl fg fh i).1) ((z5_layTwo gl fg fh i).2) fi 1 0) P (fk 3, fk 4, fk 5) := by
          refine ⟨?_, ?_, ?_, ?_, ?_, ?_⟩
          · simp only [z5_putCrossing_0_f1, ul_e, ul_0_1, ul_0_2, ul_0_3, ul_0_4, ul_0_5, ul_0_6, ul_0_7, ul_0_8, ul_1_0, ul_1_2, ul_1_3, ul_1_4, ul_1_5, ul_1_6, ul_1_7, ul_1_8, ul_2_0, ul_2_1, ul_2_3, ul_2_4, ul_2_5, ul_2_6, ul_2_7, ul_2_8, ul_3_0, ul_3_1, ul_3_2, ul_3_4, ul_3_5, ul_3_6, ul_3_7, ul_3_8, ul_4_0, ul_4_1, ul_4_2, ul_4_3, ul_4_5, ul_4_6, ul_4_7, ul_4_8, ul_5_0, ul_5_1, ul_5_2, ul_5_3, ul_5_4, ul_5_6, ul_5_7, ul_5_8, ul_6_0, ul_6_1, ul_6_2, ul_6_3, ul_6_4, ul_6_5, ul_6_7, ul_6_8, ul_7_0, ul_7_1, ul_7_2, ul_7_3, ul_7_4, ul_7_5, ul_7_6, ul_7_8, ul_8_0, ul_8_1, ul_8_2, ul_8_3, ul_8_4, ul_8_5, ul_8_6, ul_8_7, A0]
          · simp only [z5_putCrossing_0_f1, ul_e, ul_0_1, ul_0_2, ul_0_3, ul_0_4, ul_0_5, ul_0_6, ul_0_7, ul_0_8, ul_1_0, ul_1_2, ul_1_3, ul_1_4, ul_1_5, ul_1_6, ul_1_7, ul_1_8, ul_2_0, ul_2_1, ul_2_3, ul_2_4, ul_2_5, ul_2_6, ul_2_7, ul_2_8, ul_3_0, ul_3_1, ul_3_2, ul_3_4, ul_3_5, ul_3_6, ul_3_7, ul_3_8, ul_4_0, ul_4_1, ul_4_2, ul_4_3, ul_4_5, ul_4_6, ul_4_7, ul_4_8, ul_5_0, ul_5_1, ul_5_2, ul_5_3, ul_5_4, ul_5_6, ul_5_7, ul_5_8, ul_6_0, ul_6_1, ul_6_2, ul_6_3, ul_6_4, ul_6_5, ul_6_7, ul_6_8, ul_7_0, ul_7_1, ul_7_2, ul_7_3, ul_7_4, ul_7_5, ul_7_6, ul_7_8, ul_8_0, ul_8_1, ul_8_2, ul_8_3, ul_8_4, ul_8_5, ul_8_6, ul_8_7, A1]
          · simp only [z5_putCrossing_0_f1, ul_e, ul_0_1, ul_0_2, ul_0_3, ul_0_4, ul_0_5, ul_0_6, ul_0_7, ul_0_8, ul_1_0, ul_1_2, ul_1_3, ul_1_4, ul_1_5, ul_1_6, ul_1_7, ul_1_8, ul_2_0, ul_2_1, ul_2_3, ul_2_4, ul_2_5, ul_2_6, ul_2_7, ul_2_8, ul_3_0, ul_3_1, ul_3_2, ul_3_4, ul_3_5, ul_3_6, ul_3_7, ul_3_8, ul_4_0, ul_4_1, ul_4_2, ul_4_3, ul_4_5, ul_4_6, ul_4_7, ul_4_8, ul_5_0, ul_5_1, ul_5_2, ul_5_3, ul_5_4, ul_5_6, ul_5_7, ul_5_8, ul_6_0, ul_6_1, ul_6_2, ul_6_3, ul_6_4, ul_6_5, ul_6_7, ul_6_8, ul_7_0, ul_7_1, ul_7_2, ul_7_3, ul_7_4, ul_7_5, ul_7_6, ul_7_8, ul_8_0, ul_8_1, ul_8_2, ul_8_3, ul_8_4, ul_8_5, ul_8_6, ul_8_7, A2]
          · simp only [z5_putCrossing_0_f1, ul_e, ul_0_1, ul_0_2, ul_0_3, ul_0_4, ul_0_5, ul_0_6, ul_0_7, ul_0_8, ul_1_0, ul_1_2, ul_1_3, ul_1_4, ul_1_5, ul_1_6, ul_1_7, ul_1_8, ul_2_0, ul_2_1, ul_2_3, ul_2_4, ul_2_5, ul_2_6, ul_2_7, ul_2_8, ul_3_0, ul_3_1, ul_3_2, ul_3_4, ul_3_5, ul_3_6, ul_3_7, ul_3_8, ul_4_0, ul_4_1, ul_4_2, ul_4_3, ul_4_5, ul_4_6, ul_4_7, ul_4_8, ul_5_0, ul_5_1, ul_5_2, ul_5_3, ul_5_4, ul_5_6, ul_5_7, ul_5_8, ul_6_0, ul_6_1, ul_6_2, ul_6_3, ul_6_4, ul_6_5, ul_6_7, ul_6_8, ul_7_0, ul_7_1, ul_7_2, ul_7_3, ul_7_4, ul_7_5, ul_7_6, ul_7_8, ul_8_0, ul_8_1, ul_8_2, ul_8_3, ul_8_4, ul_8_5, ul_8_6, ul_8_7]
          · simp only [z5_putCrossing_0_f1, ul_e, ul_0_1, ul_0_2, ul_0_3, ul_0_4, ul_0_5, ul_0_6, ul_0_7, ul_0_8, ul_1_0, ul_1_2, ul_1_3, ul_1_4, ul_1_5, ul_1_6, ul_1_7, ul_1_8, ul_2_0, ul_2_1, ul_2_3, ul_2_4, ul_2_5, ul_2_6, ul_2_7, ul_2_8, ul_3_0, ul_3_1, ul_3_2, ul_3_4, ul_3_5, ul_3_6, ul_3_7, ul_3_8, ul_4_0, ul_4_1, ul_4_2, ul_4_3, ul_4_5, ul_4_6, ul_4_7, ul_4_8, ul_5_0, ul_5_1, ul_5_2, ul_5_3, ul_5_4, ul_5_6, ul_5_7, ul_5_8, ul_6_0, ul_6_1, ul_6_2, ul_6_3, ul_6_4, ul_6_5, ul_6_7, ul_6_8, ul_7_0, ul_7_1, ul_7_2, ul_7_3, ul_7_4, ul_7_5, ul_7_6, ul_7_8, ul_8_0, ul_8_1, ul_8_2, ul_8_3, ul_8_4, ul_8_5, ul_8_6, ul_8_7]
          · simp only [z5_putCrossing_0_f1, ul_e, ul_0_1, ul_0_2, ul_0_3, ul_0_4, ul_0_5, ul_0_6, ul_0_7, ul_0_8, ul_1_0, ul_1_2, ul_1_3, ul_1_4, ul_1_5, ul_1_6, ul_1_7, ul_1_8, ul_2_0, ul_2_1, ul_2_3, ul_2_4, ul_2_5, ul_2_6, ul_2_7, ul_2_8, ul_3_0, ul_3_1, ul_3_2, ul_3_4, ul_3_5, ul_3_6, ul_3_7, ul_3_8, ul_4_0, ul_4_1, ul_4_2, ul_4_3, ul_4_5, ul_4_6, ul_4_7, ul_4_8, ul_5_0, ul_5_1, ul_5_2, ul_5_3, ul_5_4, ul_5_6, ul_5_7, ul_5_8, ul_6_0, ul_6_1, ul_6_2, ul_6_3, ul_6_4, ul_6_5, ul_6_7, ul_6_8, ul_7_0, ul_7_1, ul_7_2, ul_7_3, ul_7_4, ul_7_5, ul_7_6, ul_7_8, ul_8_0, ul_8_1, ul_8_2, ul_8_3, ul_8_4, ul_8_5, ul_8_6, ul_8_7]
        refine agr_1 tk (tri_eq (par_uniq xn pn ?_))
        rcases two_roots0 hl tw gn ea eb ed xon xq with s | s
        · exact par_trans pz (par_sym s) pp
        · have s' : par _ _ _ (1 * p1 + 0 * s1) (1 * p2 + 0 * s2) (1 * p3 + 0 * s3) := par_trans (a := -d' * p1 + b' * s1) (b := -d' * p2 + b' * s2) (c := -d' * p3 + b' * s3) (by
              rintro ⟨e1, e2, e3⟩
              rw [bz] at e1 e2 e3
              apply two_nz hl tw
              exact ⟨mz (a := d') (by grind) dn, mz (a := d') (by grind) dn, mz (a := d') (by grind) dn⟩) (par_sym s) (by rw [bz]; exact ⟨by grind, by grind, by grind⟩)
          exact par_trans pz (par_sym s') pp
      · have un : ¬ U = 0 := fun s => t0 (tz.mpr s)
        have bn : b' ≠ 0 := fun s => un (by rw [ubb, s]; rfl)
        rw [if_neg (fun s => un ((iv_z iu).mp s)), if_pos a0] at form
        rw [eF, form]
        obtain ⟨Q, B0, B1, B2, qn, qp, qz⟩ := pc_ok ((z5_layTwo gl fg fh i).1) ((z5_layTwo gl fg fh i).2) (z5_putCrossing_0_f4 ((z5_layTwo gl fg fh i).1) ((z5_layTwo gl fg fh i).2) fi 1 0) (iv_up (iv_neg id' (by decide)) (by decide)) (iv_up ib (by decide)) i1 i2 i3 j1 j2 j3 hl tw (fun s => bn s.2)
        have tk := v18_ok gl gc fx fk fg fh fi c i A0 A1 A2 B0 B1 B2
        refine agr_2 tk (two_same xn yn pn qn ?_ ?_ ?_)
        · intro s
          rw [s] at xr
          obtain ⟨w1, w2, w3⟩ := rowsp_sym ynz xr yr
          exact t0 ⟨by omega, by omega, by omega⟩
        · rcases two_roots0 hl tw gn ea eb ed xon xq with s | s
          · exact Or.inl (par_trans pz (par_sym s) pp)
          · exact Or.inr (par_trans qz (par_sym s) qp)
        · rcases two_roots0 hl tw gn ea eb ed yon yq with s | s
          · exact Or.inl (par_trans pz (par_sym s) pp)
          · exact Or.inr (par_trans qz (par_sym s) qp)
    · have an : a' ≠ 0 := fun s => a0 ((iv_z ia).mpr s)
      have vn : 2 * a' ≠ 0 := by omega
      obtain ⟨P, A0, A1, A2, pn, pp, pz⟩ := pc_ok ((z5_layTwo gl fg fh i).1) ((z5_layTwo gl fg fh i).2) fi hu0 hv0 i1 i2 i3 j1 j2 j3 hl tw (fun s => vn s.2)
      obtain ⟨Q, B0, B1, B2, qn, qp, qz⟩ := pc_ok ((z5_layTwo gl fg fh i).1) ((z5_layTwo gl fg fh i).2) (z5_cross_v15 gl gc fx fg fh fi c i) hu1 hv0 i1 i2 i3 j1 j2 j3 hl tw (fun s => vn s.2)
      have tk := v16_ok gl gc fx fk fg fh fi c i A0 A1 A2 B0 B1 B2
      have hX : par (z3_setRow (z4_setCrossed_a (r6 gc c 0) (r6 gc c 1) (r6 gc c 2) (r6 gc c 3) (r6 gc c 4) (r6 gc c 5) (r3 gl i 1) (r3 gl i 2)) (z4_setCrossed_b (r6 gc c 0) (r6 gc c 1) (r6 gc c 2) (r6 gc c 3) (r6 gc c 4) (r6 gc c 5) (r3 gl i 0) (r3 gl i 1) (r3 gl i 2)) (z4_setCrossed_c (r6 gc c 0) (r6 gc c 1) (r6 gc c 2) (r6 gc c 3) (r6 gc c 4) (r6 gc c 5) (r3 gl i 0) (r3 gl i 2)) (z4_setCrossed_d (r6 gc c 0) (r6 gc c 1) (r6 gc c 2) (r6 gc c 3) (r6 gc c 4) (r6 gc c 5) (r3 gl i 0) (r3 gl i 1) (r3 gl i 2)) (z4_setCrossed_e (r6 gc c 0) (r6 gc c 1) (r6 gc c 2) (r6 gc c 3) (r6 gc c 4) (r6 gc c 5) (r3 gl i 0) (r3 gl i 1) (r3 gl i 2)) (z4_setCrossed_f (r6 gc c 0) (r6 gc c 1) (r6 gc c 2) (r6 gc c 3) (r6 gc c 4) (r6 gc c 5) (r3 gl i 0) (r3 gl i 1)) T1 T2 T3).1.toInt (z3_setRow (z4_setCrossed_a (r6 gc c 0) (r6 gc c 1) (r6 gc c 2) (r6 gc c 3) (r6 gc c 4) (r6 gc c 5) (r3 gl i 1) (r3 gl i 2)) (z4_setCrossed_b (r6 gc c 0) (r6 gc c 1) (r6 gc c 2) (r6 gc c 3) (r6 gc c 4) (r6 gc c 5) (r3 gl i 0) (r3 gl i 1) (r3 gl i 2)) (z4_setCrossed_c (r6 gc c 0) (r6 gc c 1) (r6 gc c 2) (r6 gc c 3) (r6 gc c 4) (r6 gc c 5) (r3 gl i 0) (r3 gl i 2)) (z4_setCrossed_d (r6 gc c 0) (r6 gc c 1) (r6 gc c 2) (r6 gc c 3) (r6 gc c 4) (r6 gc c 5) (r3 gl i 0) (r3 gl i 1) (r3 gl i 2)) (z4_setCrossed_e (r6 gc c 0) (r6 gc c 1) (r6 gc c 2) (r6 gc c 3) (r6 gc c 4) (r6 gc c 5) (r3 gl i 0) (r3 gl i 1) (r3 gl i 2)) (z4_setCrossed_f (r6 gc c 0) (r6 gc c 1) (r6 gc c 2) (r6 gc c 3) (r6 gc c 4) (r6 gc c 5) (r3 gl i 0) (r3 gl i 1)) T1 T2 T3).2.1.toInt (z3_setRow (z4_setCrossed_a (r6 gc c 0) (r6 gc c 1) (r6 gc c 2) (r6 gc c 3) (r6 gc c 4) (r6 gc c 5) (r3 gl i 1) (r3 gl i 2)) (z4_setCrossed_b (r6 gc c 0) (r6 gc c 1) (r6 gc c 2) (r6 gc c 3) (r6 gc c 4) (r6 gc c 5) (r3 gl i 0) (r3 gl i 1) (r3 gl i 2)) (z4_setCrossed_c (r6 gc c 0) (r6 gc c 1) (r6 gc c 2) (r6 gc c 3) (r6 gc c 4) (r6 gc c 5) (r3 gl i 0) (r3 gl i 2)) (z4_setCrossed_d (r6 gc c 0) (r6 gc c 1) (r6 gc c 2) (r6 gc c 3) (r6 gc c 4) (r6 gc c 5) (r3 gl i 0) (r3 gl i 1) (r3 gl i 2)) (z4_setCrossed_e (r6 gc c 0) (r6 gc c 1) (r6 gc c 2) (r6 gc c 3) (r6 gc c 4) (r6 gc c 5) (r3 gl i 0) (r3 gl i 1) (r3 gl i 2)) (z4_setCrossed_f (r6 gc c 0) (r6 gc c 1) (r6 gc c 2) (r6 gc c 3) (r6 gc c 4) (r6 gc c 5) (r3 gl i 0) (r3 gl i 1)) T1 T2 T3).2.2.toInt P.1.toInt P.2.1.toInt P.2.2.toInt ∨ par (z3_setRow (z4_setCrossed_a (r6 gc c 0) (r6 gc c 1) (r6 gc c 2) (r6 gc c 3) (r6 gc c 4) (r6 gc c 5) (r3 gl i 1) (r3 gl i 2)) (z4_setCrossed_b (r6 gc c 0) (r6 gc c 1) (r6 gc c 2) (r6 gc c 3) (r6 gc c 4) (r6 gc c 5) (r3 gl i 0) (r3 gl i 1) (r3 gl i 2)) (z4_setCrossed_c (r6 gc c 0) (r6 gc c 1) (r6 gc c 2) (r6 gc c 3) (r6 gc c 4) (r6 gc c 5) (r3 gl i 0) (r3 gl i 2)) (z4_setCrossed_d (r6 gc c 0) (r6 gc c 1) (r6 gc c 2) (r6 gc c 3) (r6 gc c 4) (r6 gc c 5) (r3 gl i 0) (r3 gl i 1) (r3 gl i 2)) (z4_setCrossed_e (r6 gc c 0) (r6 gc c 1) (r6 gc c 2) (r6 gc c 3) (r6 gc c 4) (r6 gc c 5) (r3 gl i 0) (r3 gl i 1) (r3 gl i 2)) (z4_setCrossed_f (r6 gc c 0) (r6 gc c 1) (r6 gc c 2) (r6 gc c 3) (r6 gc c 4) (r6 gc c 5) (r3 gl i 0) (r3 gl i 1)) T1 T2 T3).1.toInt (z3_setRow (z4_setCrossed_a (r6 gc c 0) (r6 gc c 1) (r6 gc c 2) (r6 gc c 3) (r6 gc c 4) (r6 gc c 5) (r3 gl i 1) (r3 gl i 2)) (z4_setCrossed_b (r6 gc c 0) (r6 gc c 1) (r6 gc c 2) (r6 gc c 3) (r6 gc c 4) (r6 gc c 5) (r3 gl i 0) (r3 gl i 1) (r3 gl i 2)) (z4_setCrossed_c (r6 gc c 0) (r6 gc c 1) (r6 gc c 2) (r6 gc c 3) (r6 gc c 4) (r6 gc c 5) (r3 gl i 0) (r3 gl i 2)) (z4_setCrossed_d (r6 gc c 0) (r6 gc c 1) (r6 gc c 2) (r6 gc c 3) (r6 gc c 4) (r6 gc c 5) (r3 gl i 0) (r3 gl i 1) (r3 gl i 2)) (z4_setCrossed_e (r6 gc c 0) (r6 gc c 1) (r6 gc c 2) (r6 gc c 3) (r6 gc c 4) (r6 gc c 5) (r3 gl i 0) (r3 gl i 1) (r3 gl i 2)) (z4_setCrossed_f (r6 gc c 0) (r6 gc c 1) (r6 gc c 2) (r6 gc c 3) (r6 gc c 4) (r6 gc c 5) (r3 gl i 0) (r3 gl i 1)) T1 T2 T3).2.1.toInt (z3_setRow (z4_setCrossed_a (r6 gc c 0) (r6 gc c 1) (r6 gc c 2) (r6 gc c 3) (r6 gc c 4) (r6 gc c 5) (r3 gl i 1) (r3 gl i 2)) (z4_setCrossed_b (r6 gc c 0) (r6 gc c 1) (r6 gc c 2) (r6 gc c 3) (r6 gc c 4) (r6 gc c 5) (r3 gl i 0) (r3 gl i 1) (r3 gl i 2)) (z4_setCrossed_c (r6 gc c 0) (r6 gc c 1) (r6 gc c 2) (r6 gc c 3) (r6 gc c 4) (r6 gc c 5) (r3 gl i 0) (r3 gl i 2)) (z4_setCrossed_d (r6 gc c 0) (r6 gc c 1) (r6 gc c 2) (r6 gc c 3) (r6 gc c 4) (r6 gc c 5) (r3 gl i 0) (r3 gl i 1) (r3 gl i 2)) (z4_setCrossed_e (r6 gc c 0) (r6 gc c 1) (r6 gc c 2) (r6 gc c 3) (r6 gc c 4) (r6 gc c 5) (r3 gl i 0) (r3 gl i 1) (r3 gl i 2)) (z4_setCrossed_f (r6 gc c 0) (r6 gc c 1) (r6 gc c 2) (r6 gc c 3) (r6 gc c 4) (r6 gc c 5) (r3 gl i 0) (r3 gl i 1)) T1 T2 T3).2.2.toInt Q.1.toInt Q.2.1.toInt Q.2.2.toInt := by
        rcases two_roots hl tw gn ea eb ed an rr' xon xq xnz with s | s
        · exact Or.inl (par_trans pz (par_sym s) pp)
        · exact Or.inr (par_trans qz (par_sym s) qp)
      rcases eF with ⟨t0, eF⟩ | ⟨t0, eF⟩
      · have uz := tz.mp t0
        rw [if_pos ((iv_z iu).mpr uz), if_neg a0] at form
        rw [eF, form]
        have rz : r = 0 := sqz (by rw [rr]; exact uz)
        refine agr_1 tk (tri_eq (par_uniq xn pn ?_))
        rcases hX with s | s
        · exact s
        · refine par_trans (nrm_nz qn) (par_sym s) ?_
          rw [rz] at qp pp qz
          have e0 : (-0 - b' : Int) = 0 - b' := by omega
          rw [e0] at qp qz
          exact par_trans qz qp pp
      · have un : ¬ U = 0 := fun s => t0 (tz.mpr s)
        rw [if_neg (fun s => un ((iv_z iu).mp s)), if_neg a0] at form
        rw [eF, form]
        refine agr_2 tk (two_same xn yn pn qn ?_ hX ?_)
        · intro s
          rw [s] at xr
          obtain ⟨w1, w2, w3⟩ := rowsp_sym ynz xr yr
          exact t0 ⟨by omega, by omega, by omega⟩
        · rcases two_roots hl tw gn ea eb ed an rr' yon yq ynz with s | s
          · exact Or.inl (par_trans pz (par_sym s) pp)
          · exact Or.inr (par_trans qz (par_sym s) qp)
