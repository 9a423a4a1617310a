theorem nz6_i {g : Nat → Int32} {n i : Int32} (h : nz6 g n) (q : ¬ z2_has n i = 0) : ¬ ((r6 g i 0).toInt = 0 ∧ (r6 g i 1).toInt = 0 ∧ (r6 g i 2).toInt = 0 ∧ (r6 g i 3).toInt = 0 ∧ (r6 g i 4).toInt = 0 ∧ (r6 g i 5).toInt = 0) := by
  rintro ⟨a, b, c, d, e, f⟩
  exact h i q ⟨pu_nez.mpr a, pu_nez.mpr b, pu_nez.mpr c, pu_nez.mpr d, pu_nez.mpr e, pu_nez.mpr f⟩
theorem pr0 (x y z u v w : Int64) (f : Nat → Int64) : pr_ok 0 x y z u v w 0 f := ⟨rfl, by decide, by decide, fun h => absurd h (by decide), fun h => absurd h (by decide)⟩
theorem pr8 {a b c d e f g h : Type} (K : a × b × c × d × e × f × g × h) : (K.1, K.2.1, K.2.2.1, K.2.2.2.1, K.2.2.2.2.1, K.2.2.2.2.2.1, K.2.2.2.2.2.2.1, K.2.2.2.2.2.2.2) = K := rfl
/-- class and reference agree in answer and pair -/
def agr (R : Int32 × Int32 × Int64 × Int64 × Int64 × Int64 × Int64 × Int64) (S : Int32 × Int32 × (Nat → Int64)) : Prop := R.1 = S.1 ∧ pr_ok R.2.1 R.2.2.1 R.2.2.2.1 R.2.2.2.2.1 R.2.2.2.2.2.1 R.2.2.2.2.2.2.1 R.2.2.2.2.2.2.2 S.2.1 S.2.2
theorem tri_eq {X P : Int64 × Int64 × Int64} (h : X.1.toInt = P.1.toInt ∧ X.2.1.toInt = P.2.1.toInt ∧ X.2.2.toInt = P.2.2.toInt) : X = P :=
  Prod.ext (Int64.toInt_inj.mp h.1) (Prod.ext (Int64.toInt_inj.mp h.2.1) (Int64.toInt_inj.mp h.2.2))
/-- one found -/
theorem agr_1 {a b c d e f T1 T2 T3 : Int64} {G : Nat → Int64} {P Q : Int64 × Int64 × Int64} (h : tkok G P Q) (e1 : z3_setRow a b c d e f T1 T2 T3 = P) : agr (faS a b c d e f T1 T2 T3) (1, 1, G) := by
  obtain ⟨h0, h1, h2, h3, h4, h5⟩ := h
  subst e1
  exact ⟨rfl, rfl, (show (0 : Int) ≤ (1 : Int32).toInt by decide), (show (1 : Int32).toInt ≤ 2 by decide), fun _ => ⟨h0.symm, h1.symm, h2.symm⟩, fun t => absurd (show (2 : Int) ≤ (1 : Int32).toInt from t) (by decide)⟩
/-- two found -/
theorem agr_2 {a b c d e f T1 T2 T3 : Int64} {G : Nat → Int64} {P Q : Int64 × Int64 × Int64} (h : tkok G P Q) (ee : (z3_setRow a b c d e f T1 T2 T3 = P ∧ z3_setRow a b c d e f (-T1) (-T2) (-T3) = Q) ∨ (z3_setRow a b c d e f T1 T2 T3 = Q ∧ z3_setRow a b c d e f (-T1) (-T2) (-T3) = P)) : agr (faP (faO a b c d e f T1 T2 T3)) (2, 2, z5_arrange G) := by
  have o := ord_arr h
  have k : faO a b c d e f T1 T2 T3 = (2, z5_arrange G 0, z5_arrange G 1, z5_arrange G 2, z5_arrange G 3, z5_arrange G 4, z5_arrange G 5) := by
    unfold faO
    rcases ee with ⟨e1, e2⟩ | ⟨e1, e2⟩
    · rw [e1, e2]
      exact o
    · rw [e1, e2, ord_sym]
      exact o
  rw [k]
  exact ⟨rfl, rfl, (show (0 : Int) ≤ (2 : Int32).toInt by decide), (show (2 : Int32).toInt ≤ 2 by decide), fun _ => ⟨rfl, rfl, rfl⟩, fun _ => ⟨rfl, rfl, rfl⟩⟩
set_option maxHeartbeats 2000000 in
theorem pu_split (n : Int32) (x y z u v w : Int64) (pm : Int32) (gm gc : Nat → Int32) (fx fa ft fi : Nat → Int64) (c : Int32) (h2 : n_ok (gm 2)) (bc : b500 gc 6 (gm 2)) (nz : nz6 gc (gm 2)) (pr : pr_ok n x y z u v w pm ft) : agr (z4_split n x y z u v w (gm 2) gc c) (z5_split pm gm gc fx fa ft fi c) := by
  by_cases q : z2_has (gm 2) c = 0
  · unfold z4_split z5_split
    rw [pu_is2 h2, if_pos q, if_pos q]
    exact ⟨rfl, pr⟩
  have ha := ri6_0 bc h2 q
  have hb := ri6_1 bc h2 q
  have hc := ri6_2 bc h2 q
  have hd := ri6_3 bc h2 q
  have he := ri6_4 bc h2 q
  have hf := ri6_5 bc h2 q
  have hD : iv (z0_det (r6 gc c 0) (r6 gc c 1) (r6 gc c 2) (r6 gc c 3) (r6 gc c 4) (r6 gc c 5)) _ _ := (iv_sub (iv_sub (iv_sub (iv_add (iv_mul (iv_mul (iv_mul iv_4 ha (by decide)) hc (by decide)) hf (by decide)) (iv_mul (iv_mul hb hd (by decide)) he (by decide)) (by decide)) (iv_mul (iv_mul ha he (by decide)) he (by decide)) (by decide)) (iv_mul (iv_mul hc hd (by decide)) hd (by decide)) (by decide)) (iv_mul (iv_mul hf hb (by decide)) hb (by decide)) (by decide))
  have ed := pu_det gc fx fa c bc h2 q
  have e1 : z4_split_v1 (gm 2) gc c = z0_det (r6 gc c 0) (r6 gc c 1) (r6 gc c 2) (r6 gc c 3) (r6 gc c 4) (r6 gc c 5) := by
    simp only [z4_split_v1, rd6_a q, rd6_b q, rd6_c q, rd6_d q, rd6_e q, rd6_f q]
  by_cases s : z0_det (r6 gc c 0) (r6 gc c 1) (r6 gc c 2) (r6 gc c 3) (r6 gc c 4) (r6 gc c 5) = 0
  case neg =>
    unfold z4_split z5_split
    rw [pu_is2 h2, if_neg q, if_neg q, e1, ed, if_neg s, if_neg s]
    exact ⟨rfl, pr⟩
  have eR : z4_split n x y z u v w (gm 2) gc c = z4_fallApart (r6 gc c 0) (r6 gc c 1) (r6 gc c 2) (r6 gc c 3) (r6 gc c 4) (r6 gc c 5) x y z u v w := by
    unfold z4_split
    rw [if_neg q, e1, if_pos s]
    simp only [z4_split_v2, z4_split_v3, z4_split_v4, z4_split_v5, z4_split_v6, z4_split_v7, z4_split_v8, z4_split_v9, rd6_a q, rd6_b q, rd6_c q, rd6_d q, rd6_e q, rd6_f q] <;> exact pr8 _
  have dz : detz (r6 gc c 0).toInt (r6 gc c 1).toInt (r6 gc c 2).toInt (r6 gc c 3).toInt (r6 gc c 4).toInt (r6 gc c 5).toInt := (iv_z hD).mp s
  have nzi := nz6_i nz q
  rw [eR]
  have sp := sp_spec pm gm gc fx fa ft fi c h2 bc q ha hb hc hd he hf dz nzi (by rw [ed]; exact s)
  rcases fa_spec x y z u v w (iv_up ha (by decide)) (iv_up hb (by decide)) (iv_up hc (by decide)) (iv_up hd (by decide)) (iv_up he (by decide)) (iv_up hf (by decide)) dz with ⟨g, eF⟩ | ⟨g, eF⟩ | ⟨T1, T2, T3, t1, t2, t3, i1, i2, i3, tu, eF⟩
  · rw [eF]
    rcases sp with ⟨k, eS⟩ | ⟨k, eS⟩ | ⟨s1, s2, s3, ts, eS⟩
    · rw [eS]
      exact ⟨rfl, pr0 _ _ _ _ _ _ _⟩
    · exact (sgn_mix dz g (by rcases k with k | k | k; exact Or.inl k.1; exact Or.inr (Or.inl k.1); exact Or.inr (Or.inr k.1))).elim
    · exact absurd g (turn_np ts)
  · rw [eF]
    rcases sp with ⟨k, eS⟩ | ⟨k, eS⟩ | ⟨s1, s2, s3, ts, eS⟩
    · exact (sgn_mix dz k (by rcases g with k | k | k; exact Or.inl k.1; exact Or.inr (Or.inl k.1); exact Or.inr (Or.inr k.1))).elim
    · rw [eS]
      exact ⟨rfl, pr0 _ _ _ _ _ _ _⟩
    · exact absurd g (turn_ns ts)
  · rcases sp with ⟨k, eS⟩ | ⟨k, eS⟩ | ⟨s1, s2, s3, ts, eS⟩
    · exact absurd k (turn_np tu)
    · exact absurd k (turn_ns tu)
    · obtain ⟨xn, xr⟩ := setrow_spec (iv_up ha (by decide)) (iv_up hb (by decide)) (iv_up hc (by decide)) (iv_up hd (by decide)) (iv_up he (by decide)) (iv_up hf (by decide)) i1 i2 i3 (turn_rank tu dz) nzi
      obtain ⟨yn, yr⟩ := setrow_spec (iv_up ha (by decide)) (iv_up hb (by decide)) (iv_up hc (by decide)) (iv_up hd (by decide)) (iv_up he (by decide)) (iv_up hf (by decide)) (iv_neg i1 (by decide)) (iv_neg i2 (by decide)) (iv_neg i3 (by decide)) (turn_rank (turn_neg tu) dz) nzi
      have yr := rowsp_T yr
      rcases eF with ⟨t0, eF⟩ | ⟨t0, eF⟩
      · rcases eS with ⟨s0, G, eS, fz, P, Q, tk, pn, pr', qn, qr⟩ | ⟨s0, eS⟩
        · rw [eF, eS]
          obtain ⟨z1, z2, z3⟩ := t0
          obtain ⟨w1, w2, w3⟩ := s0
          subst z1 z2 z3 w1 w2 w3
          exact agr_1 tk (tri_eq (rowsp_uniq (mat_nz nzi) xr pr' xn pn))
        · obtain ⟨z1, z2, z3⟩ := t0
          rcases turn_pm tu ts with ⟨a1, a2, a3⟩ | ⟨a1, a2, a3⟩
          · exact absurd ⟨by omega, by omega, by omega⟩ s0
          · exact absurd ⟨by omega, by omega, by omega⟩ s0
      · rcases eS with ⟨s0, eS⟩ | ⟨s0, G, eS, fz, P, Q, tk, pn, pr', qn, qr⟩
        · obtain ⟨z1, z2, z3⟩ := s0
          rcases turn_pm tu ts with ⟨a1, a2, a3⟩ | ⟨a1, a2, a3⟩
          · exact absurd ⟨by omega, by omega, by omega⟩ t0
          · exact absurd ⟨by omega, by omega, by omega⟩ t0
        · rw [eF, eS]
          rcases turn_pm tu ts with ⟨a1, a2, a3⟩ | ⟨a1, a2, a3⟩
          · subst a1 a2 a3
            exact agr_2 tk (Or.inl ⟨tri_eq (rowsp_uniq (mat_nz nzi) xr pr' xn pn), tri_eq (rowsp_uniq (mat_nzT nzi) yr qr yn qn)⟩)
          · subst a1 a2 a3
            exact agr_2 tk (Or.inr ⟨tri_eq (rowsp_uniq (mat_nz nzi) xr (rowsp_T2 qr) xn qn), tri_eq (rowsp_uniq (mat_nzT nzi) yr (rowsp_T pr') yn pn)⟩)
