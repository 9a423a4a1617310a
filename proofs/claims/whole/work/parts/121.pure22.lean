/-! five -/
theorem ab_neg {x : Int64} (h : nm x) : z5_ab (-x) = z5_ab x ∧ nm (-x) ∧ (-x).toInt = -x.toInt := by
  have h' : -9223372036854775808 < x.toInt := h
  have h2 := Int64.toInt_lt x
  have e : (-x).toInt = -x.toInt := iv_b (Int64.toInt_neg x) (by omega)
  have n : nm (-x) := by
    show _ < _
    rw [e]
    omega
  refine ⟨Int64.toInt_inj.mp ?_, n, e⟩
  rw [pu_abn n, pu_abn h, e]
  omega
theorem div_neg {x s : Int64} (hx : nm x) (hs : nm s) : (-x) / (-s) = x / s := by
  obtain ⟨_, n, e⟩ := ab_neg hx
  obtain ⟨_, _, e2⟩ := ab_neg hs
  apply Int64.toInt_inj.mp
  rw [pu_divx n, pu_divx hx, e, e2, Int.neg_tdiv_neg]
theorem dv6_neg {a b c d e f : Int64} (ha : nm a) (hb : nm b) (hc : nm c) (hd : nm d) (he : nm e) (hf : nm f) : dv6 (-a) (-b) (-c) (-d) (-e) (-f) = dv6 a b c d e f := by
  unfold dv6 dv5 dv4 dv3 dv2
  rw [(ab_neg ha).1, (ab_neg hb).1, (ab_neg hc).1, (ab_neg hd).1, (ab_neg he).1, (ab_neg hf).1]
theorem fn_neg (a b c d e f : Int64) : z0_firstNumber (-a) (-b) (-c) (-d) (-e) (-f) = -(z0_firstNumber a b c d e f) := by
  unfold z0_firstNumber
  by_cases c0 : a = 0
  · rw [if_pos c0, if_pos (pu_nz.mpr c0)]
    by_cases c1 : b = 0
    · rw [if_pos c1, if_pos (pu_nz.mpr c1)]
      by_cases c2 : c = 0
      · rw [if_pos c2, if_pos (pu_nz.mpr c2)]
        by_cases c3 : d = 0
        · rw [if_pos c3, if_pos (pu_nz.mpr c3)]
          by_cases c4 : e = 0
          · rw [if_pos c4, if_pos (pu_nz.mpr c4)]
          · rw [if_neg c4, if_neg (fun q => c4 (pu_nz.mp q))]
        · rw [if_neg c3, if_neg (fun q => c3 (pu_nz.mp q))]
      · rw [if_neg c2, if_neg (fun q => c2 (pu_nz.mp q))]
    · rw [if_neg c1, if_neg (fun q => c1 (pu_nz.mp q))]
  · rw [if_neg c0, if_neg (fun q => c0 (pu_nz.mp q))]
theorem fn_nm {a b c d e f : Int64} (ha : nm a) (hb : nm b) (hc : nm c) (hd : nm d) (he : nm e) (hf : nm f) : nm (z0_firstNumber a b c d e f) := by
  unfold z0_firstNumber
  repeat' split
  all_goals assumption
theorem fn_nz {a b c d e f : Int64} (h : ¬ (a = 0 ∧ b = 0 ∧ c = 0 ∧ d = 0 ∧ e = 0 ∧ f = 0)) : ¬ z0_firstNumber a b c d e f = 0 := by
  unfold z0_firstNumber
  by_cases c0 : a = 0
  · rw [if_pos c0]
    by_cases c1 : b = 0
    · rw [if_pos c1]
      by_cases c2 : c = 0
      · rw [if_pos c2]
        by_cases c3 : d = 0
        · rw [if_pos c3]
          by_cases c4 : e = 0
          · rw [if_pos c4]
            exact fun c5 => h ⟨c0, c1, c2, c3, c4, c5⟩
          · rw [if_neg c4]; exact c4
        · rw [if_neg c3]; exact c3
      · rw [if_neg c2]; exact c2
    · rw [if_neg c1]; exact c1
  · rw [if_neg c0]; exact c0
theorem red6_neg {a b c d e f : Int64} (ha : nm a) (hb : nm b) (hc : nm c) (hd : nm d) (he : nm e) (hf : nm f) (h : ¬ (a = 0 ∧ b = 0 ∧ c = 0 ∧ d = 0 ∧ e = 0 ∧ f = 0)) : z0_reduce (-a) (-b) (-c) (-d) (-e) (-f) = z0_reduce a b c d e f := by
  have dn : ¬ dv6 a b c d e f = 0 := fun q => h (pu_dv6z.mp q)
  have hG := pu_dv6 ha hb hc hd he hf
  have lim := Int64.toInt_lt (dv6 a b c d e f)
  have nd : nm (dv6 a b c d e f) := by
    show _ < _
    rw [hG]
    omega
  have nnd := (ab_neg nd).2.1
  have fz := fn_nz h
  have fm := fn_nm ha hb hc hd he hf
  obtain ⟨_, _, fe⟩ := ab_neg fm
  have fz' : ¬ (z0_firstNumber a b c d e f).toInt = 0 := fun q => fz (pu_nez.mpr q)
  have es : sd6 (-a) (-b) (-c) (-d) (-e) (-f) = -(sd6 a b c d e f) ∧ nm (sd6 a b c d e f) := by
    unfold sd6
    rw [dv6_neg ha hb hc hd he hf, fn_neg]
    by_cases q : 0 ≤ z0_firstNumber a b c d e f
    · have q' : ¬ 0 ≤ -(z0_firstNumber a b c d e f) := by
        rw [Int64.le_iff_toInt_le, pu_z0] at q
        rw [Int64.le_iff_toInt_le, pu_z0, fe]
        omega
      rw [if_pos q, if_neg q']
      exact ⟨rfl, nd⟩
    · have q' : 0 ≤ -(z0_firstNumber a b c d e f) := by
        rw [Int64.le_iff_toInt_le, pu_z0] at q
        rw [Int64.le_iff_toInt_le, pu_z0, fe]
        omega
      rw [if_neg q, if_pos q', Int64.neg_neg]
      exact ⟨rfl, nnd⟩
  have sn : ¬ sd6 a b c d e f = 0 := fun q => dn (pu_sd6z.mp q)
  rw [pu_red6, pu_red6, es.1, if_neg sn, if_neg (fun q => sn (pu_nz.mp q)), div_neg ha es.2, div_neg hb es.2, div_neg hc es.2, div_neg hd es.2, div_neg he es.2, div_neg hf es.2]
theorem kp2n (gm : Nat → Int32) (F : Nat → Int64) (g : Nat → Int32) (r : Int32) (a b c d e f : Int64) (hG : G6 g (gm 2)) (e0 : F 0 = -a) (e1 : F 1 = -b) (e2 : F 2 = -c) (e3 : F 3 = -d) (e4 : F 4 = -e) (e5 : F 5 = -f) (ha : nm a) (hb : nm b) (hc : nm c) (hd : nm d) (he : nm e) (hf : nm f) : pk6 2 gm (z5_keep_2 gm F g r) (if z0_isZero a b c d e f = 0 then kt6 (gm 2) g a b c d e f else (r, gm 2, g)) := by
  have k := kp2 gm F g r (-a) (-b) (-c) (-d) (-e) (-f) hG e0 e1 e2 e3 e4 e5 (ab_neg ha).2.1 (ab_neg hb).2.1 (ab_neg hc).2.1 (ab_neg hd).2.1 (ab_neg he).2.1 (ab_neg hf).2.1
  by_cases q : a = 0 ∧ b = 0 ∧ c = 0 ∧ d = 0 ∧ e = 0 ∧ f = 0
  · have q' : -a = 0 ∧ -b = 0 ∧ -c = 0 ∧ -d = 0 ∧ -e = 0 ∧ -f = 0 := ⟨pu_nz.mpr q.1, pu_nz.mpr q.2.1, pu_nz.mpr q.2.2.1, pu_nz.mpr q.2.2.2.1, pu_nz.mpr q.2.2.2.2.1, pu_nz.mpr q.2.2.2.2.2⟩
    rw [if_neg (fun t => (pu_isz6 _ _ _ _ _ _).mp t q')] at k
    rw [if_neg (fun t => (pu_isz6 _ _ _ _ _ _).mp t q)]
    exact k
  · have q' : ¬ (-a = 0 ∧ -b = 0 ∧ -c = 0 ∧ -d = 0 ∧ -e = 0 ∧ -f = 0) := fun t => q ⟨pu_nz.mp t.1, pu_nz.mp t.2.1, pu_nz.mp t.2.2.1, pu_nz.mp t.2.2.2.1, pu_nz.mp t.2.2.2.2.1, pu_nz.mp t.2.2.2.2.2⟩
    have e : kt6 (gm 2) g (-a) (-b) (-c) (-d) (-e) (-f) = kt6 (gm 2) g a b c d e f := by rw [pu_kt6, pu_kt6, red6_neg ha hb hc hd he hf q]
    rw [if_pos ((pu_isz6 _ _ _ _ _ _).mpr q'), e] at k
    rw [if_pos ((pu_isz6 _ _ _ _ _ _).mpr q)]
    exact k
theorem sml (gp : Nat → Int32) {n i : Int32} (h : ¬ z2_has n i = 0) : z3_isWithin (z3_read_x 3 n i gp) (z3_read_y 3 n i gp) (z3_read_z 3 n i gp) 30 = z5_isSmall gp i := by
  have e : ∀ x : Int64, z4_isWithin x 30 = z5_in x (-30) 30 := by
    intro x
    unfold z4_isWithin z5_in
    have : (-(30 : Int64)) = -30 := by decide
    rw [this]
  unfold z3_isWithin z5_isSmall
  rw [e, e, e, rd3_x h, rd3_y h, rd3_z h]
  rfl
theorem sm30 {gp : Nat → Int32} {i : Int32} (h : ¬ z5_isSmall gp i = 0) : iv (r3 gp i 0) (r3 gp i 0).toInt 30 ∧ iv (r3 gp i 1) (r3 gp i 1).toInt 30 ∧ iv (r3 gp i 2) (r3 gp i 2).toInt 30 := by
  have key : ∀ x : Int64, ¬ z5_in x (-30) 30 = 0 → iv x x.toInt 30 := by
    intro x q
    refine ⟨rfl, ?_⟩
    unfold z5_in at q
    have m5 : (-30 : Int64).toInt = -30 := by decide
    have p5 : (30 : Int64).toInt = 30 := by decide
    by_cases c1 : x < -30
    · rw [if_pos c1] at q
      exact absurd rfl q
    · rw [if_neg c1] at q
      by_cases c2 : 30 < x
      · rw [if_pos c2] at q
        exact absurd rfl q
      · rw [Int64.lt_iff_toInt_lt, m5] at c1
        rw [Int64.lt_iff_toInt_lt, p5] at c2
        omega
  unfold z5_isSmall at h
  by_cases c0 : z5_in ((gp ((3 * i + 0).toNatClampNeg)).toInt64) (-30) 30 = 0
  · rw [if_pos c0] at h
    exact absurd rfl h
  · rw [if_neg c0] at h
    by_cases c1 : z5_in ((gp ((3 * i + 1).toNatClampNeg)).toInt64) (-30) 30 = 0
    · rw [if_pos c1] at h
      exact absurd rfl h
    · rw [if_neg c1] at h
      by_cases c2 : z5_in ((gp ((3 * i + 2).toNatClampNeg)).toInt64) (-30) 30 = 0
      · rw [if_pos c2] at h
        exact absurd rfl h
      · exact ⟨key _ c0, key _ c1, key _ c2⟩
set_option maxHeartbeats 4000000 in
theorem pu_five (gm gp gc gv gr : Nat → Int32) (ff fr fd : Nat → Int64) (i j k m t : Int32) (g0 : G3 gp (gm 0)) (g2 : G6 gc (gm 2)) : pk6 2 gm (z5_five gm ff gp gc fr fd gv i j k m t) (z4_five (gm 0) gp (gm 2) gc gr i j k m t) := by
  obtain ⟨h0, bp, nk⟩ := id g0
  have h2 := g2.1
  unfold z5_five z4_five
  rw [pu_is0 h0, pu_is0 h0, pu_is0 h0, pu_is0 h0, pu_is0 h0]
  by_cases hi : z2_has (gm 0) i = 0
  · rw [if_pos hi, if_pos hi]; exact pk6_s g2
  rw [if_neg hi, if_neg hi]
  by_cases hj : z2_has (gm 0) j = 0
  · rw [if_pos hj, if_pos hj]; exact pk6_s g2
  rw [if_neg hj, if_neg hj]
  by_cases hk : z2_has (gm 0) k = 0
  · rw [if_pos hk, if_pos hk]; exact pk6_s g2
  rw [if_neg hk, if_neg hk]
  by_cases hm : z2_has (gm 0) m = 0
  · rw [if_pos hm, if_pos hm]; exact pk6_s g2
  rw [if_neg hm, if_neg hm]
  by_cases ht : z2_has (gm 0) t = 0
  · rw [if_pos ht, if_pos ht]; exact pk6_s g2
  rw [if_neg ht, if_neg ht]
  have sv := several gp gv gr (gm 0) i j k m t bp h0 nk hi hj hk hm ht
  by_cases sq : z5_areSeveral gp (upd (upd (upd (upd (upd gv 0 i) 1 j) 2 k) 3 m) 4 t) = 0
  case neg =>
    rw [if_neg sq]
    by_cases c1 : z4_twoCornersAreSame (gm 0) gp (upd (upd (upd (upd (upd gr 0 i) 1 j) 2 k) 3 m) 4 t) = 0
    · by_cases c2 : z4_fourCornersAreInLine (gm 0) gp (upd (upd (upd (upd (upd gr 0 i) 1 j) 2 k) 3 m) 4 t) = 0
      · exact absurd (sv.mpr ⟨c1, c2⟩) sq
      · rw [if_pos c1, if_neg c2]; exact pk6_s g2
    · rw [if_neg c1]; exact pk6_s g2
  rw [if_pos sq, if_pos (sv.mp sq).1, if_pos (sv.mp sq).2]
  have es : z4_cornersAreSmall (gm 0) gp (upd (upd (upd (upd (upd gr 0 i) 1 j) 2 k) 3 m) 4 t) = (if z5_isSmall gp i = 0 then 0 else (if z5_isSmall gp j = 0 then 0 else (if z5_isSmall gp k = 0 then 0 else (if z5_isSmall gp m = 0 then 0 else (if z5_isSmall gp t = 0 then 0 else 1))))) := by
    have e : z4_cornersAreSmall (gm 0) gp (upd (upd (upd (upd (upd gr 0 i) 1 j) 2 k) 3 m) 4 t) = (if z3_isWithin (z3_read_x 3 (gm 0) i gp) (z3_read_y 3 (gm 0) i gp) (z3_read_z 3 (gm 0) i gp) 30 = 0 then 0 else (if z3_isWithin (z3_read_x 3 (gm 0) j gp) (z3_read_y 3 (gm 0) j gp) (z3_read_z 3 (gm 0) j gp) 30 = 0 then 0 else (if z3_isWithin (z3_read_x 3 (gm 0) k gp) (z3_read_y 3 (gm 0) k gp) (z3_read_z 3 (gm 0) k gp) 30 = 0 then 0 else (if z3_isWithin (z3_read_x 3 (gm 0) m gp) (z3_read_y 3 (gm 0) m gp) (z3_read_z 3 (gm 0) m gp) 30 = 0 then 0 else (if z3_isWithin (z3_read_x 3 (gm 0) t gp) (z3_read_y 3 (gm 0) t gp) (z3_read_z 3 (gm 0) t gp) 30 = 0 then 0 else 1))))) := rfl
    rw [e, sml gp hi, sml gp hj, sml gp hk, sml gp hm, sml gp ht]
  rw [es]
  by_cases si : z5_isSmall gp i = 0
  · rw [if_pos si, if_pos si, if_pos rfl]; exact pk6_s g2
  rw [if_neg si, if_neg si]
  by_cases sj : z5_isSmall gp j = 0
  · rw [if_pos sj, if_pos sj, if_pos rfl]; exact pk6_s g2
  rw [if_neg sj, if_neg sj]
  by_cases sk : z5_isSmall gp k = 0
  · rw [if_pos sk, if_pos sk, if_pos rfl]; exact pk6_s g2
  rw [if_neg sk, if_neg sk]
  by_cases sm : z5_isSmall gp m = 0
  · rw [if_pos sm, if_pos sm, if_pos rfl]; exact pk6_s g2
  rw [if_neg sm, if_neg sm]
  by_cases st : z5_isSmall gp t = 0
  · rw [if_pos st, if_pos st, if_pos rfl]; exact pk6_s g2
  rw [if_neg st, if_neg st]
  rw [if_neg pu_10]
  obtain ⟨i0, i1, i2⟩ := sm30 si
  obtain ⟨j0, j1, j2⟩ := sm30 sj
  obtain ⟨k0, k1, k2⟩ := sm30 sk
  obtain ⟨m0, m1, m2⟩ := sm30 sm
  obtain ⟨t0, t1, t2⟩ := sm30 st
  have L0 : iv (z0_setLines_a (z3_setAcross_x (r3 gp i 1) (r3 gp i 2) (r3 gp j 1) (r3 gp j 2)) (z3_setAcross_x (r3 gp k 1) (r3 gp k 2) (r3 gp m 1) (r3 gp m 2))) _ _ := (iv_mul (iv_sub (iv_mul i1 j2 (by decide)) (iv_mul i2 j1 (by decide)) (by decide)) (iv_sub (iv_mul k1 m2 (by decide)) (iv_mul k2 m1 (by decide)) (by decide)) (by decide))
  have R0 : iv (z0_setLines_a (z3_setAcross_x (r3 gp i 1) (r3 gp i 2) (r3 gp k 1) (r3 gp k 2)) (z3_setAcross_x (r3 gp j 1) (r3 gp j 2) (r3 gp m 1) (r3 gp m 2))) _ _ := (iv_mul (iv_sub (iv_mul i1 k2 (by decide)) (iv_mul i2 k1 (by decide)) (by decide)) (iv_sub (iv_mul j1 m2 (by decide)) (iv_mul j2 m1 (by decide)) (by decide)) (by decide))
  have L1 : iv (z0_setLines_b (z3_setAcross_x (r3 gp i 1) (r3 gp i 2) (r3 gp j 1) (r3 gp j 2)) (z3_setAcross_y (r3 gp i 0) (r3 gp i 2) (r3 gp j 0) (r3 gp j 2)) (z3_setAcross_x (r3 gp k 1) (r3 gp k 2) (r3 gp m 1) (r3 gp m 2)) (z3_setAcross_y (r3 gp k 0) (r3 gp k 2) (r3 gp m 0) (r3 gp m 2))) _ _ := (iv_add (iv_mul (iv_sub (iv_mul i1 j2 (by decide)) (iv_mul i2 j1 (by decide)) (by decide)) (iv_sub (iv_mul k2 m0 (by decide)) (iv_mul k0 m2 (by decide)) (by decide)) (by decide)) (iv_mul (iv_sub (iv_mul i2 j0 (by decide)) (iv_mul i0 j2 (by decide)) (by decide)) (iv_sub (iv_mul k1 m2 (by decide)) (iv_mul k2 m1 (by decide)) (by decide)) (by decide)) (by decide))
  have R1 : iv (z0_setLines_b (z3_setAcross_x (r3 gp i 1) (r3 gp i 2) (r3 gp k 1) (r3 gp k 2)) (z3_setAcross_y (r3 gp i 0) (r3 gp i 2) (r3 gp k 0) (r3 gp k 2)) (z3_setAcross_x (r3 gp j 1) (r3 gp j 2) (r3 gp m 1) (r3 gp m 2)) (z3_setAcross_y (r3 gp j 0) (r3 gp j 2) (r3 gp m 0) (r3 gp m 2))) _ _ := (iv_add (iv_mul (iv_sub (iv_mul i1 k2 (by decide)) (iv_mul i2 k1 (by decide)) (by decide)) (iv_sub (iv_mul j2 m0 (by decide)) (iv_mul j0 m2 (by decide)) (by decide)) (by decide)) (iv_mul (iv_sub (iv_mul i2 k0 (by decide)) (iv_mul i0 k2 (by decide)) (by decide)) (iv_sub (iv_mul j1 m2 (by decide)) (iv_mul j2 m1 (by decide)) (by decide)) (by decide)) (by decide))
  have L2 : iv (z0_setLines_c (z3_setAcross_y (r3 gp i 0) (r3 gp i 2) (r3 gp j 0) (r3 gp j 2)) (z3_setAcross_y (r3 gp k 0) (r3 gp k 2) (r3 gp m 0) (r3 gp m 2))) _ _ := (iv_mul (iv_sub (iv_mul i2 j0 (by decide)) (iv_mul i0 j2 (by decide)) (by decide)) (iv_sub (iv_mul k2 m0 (by decide)) (iv_mul k0 m2 (by decide)) (by decide)) (by decide))
  have R2 : iv (z0_setLines_c (z3_setAcross_y (r3 gp i 0) (r3 gp i 2) (r3 gp k 0) (r3 gp k 2)) (z3_setAcross_y (r3 gp j 0) (r3 gp j 2) (r3 gp m 0) (r3 gp m 2))) _ _ := (iv_mul (iv_sub (iv_mul i2 k0 (by decide)) (iv_mul i0 k2 (by decide)) (by decide)) (iv_sub (iv_mul j2 m0 (by decide)) (iv_mul j0 m2 (by decide)) (by decide)) (by decide))
  have L3 : iv (z0_setLines_d (z3_setAcross_x (r3 gp i 1) (r3 gp i 2) (r3 gp j 1) (r3 gp j 2)) (z3_setAcross_z (r3 gp i 0) (r3 gp i 1) (r3 gp j 0) (r3 gp j 1)) (z3_setAcross_x (r3 gp k 1) (r3 gp k 2) (r3 gp m 1) (r3 gp m 2)) (z3_setAcross_z (r3 gp k 0) (r3 gp k 1) (r3 gp m 0) (r3 gp m 1))) _ _ := (iv_add (iv_mul (iv_sub (iv_mul i1 j2 (by decide)) (iv_mul i2 j1 (by decide)) (by decide)) (iv_sub (iv_mul k0 m1 (by decide)) (iv_mul k1 m0 (by decide)) (by decide)) (by decide)) (iv_mul (iv_sub (iv_mul i0 j1 (by decide)) (iv_mul i1 j0 (by decide)) (by decide)) (iv_sub (iv_mul k1 m2 (by decide)) (iv_mul k2 m1 (by decide)) (by decide)) (by decide)) (by decide))
  have R3 : iv (z0_setLines_d (z3_setAcross_x (r3 gp i 1) (r3 gp i 2) (r3 gp k 1) (r3 gp k 2)) (z3_setAcross_z (r3 gp i 0) (r3 gp i 1) (r3 gp k 0) (r3 gp k 1)) (z3_setAcross_x (r3 gp j 1) (r3 gp j 2) (r3 gp m 1) (r3 gp m 2)) (z3_setAcross_z (r3 gp j 0) (r3 gp j 1) (r3 gp m 0) (r3 gp m 1))) _ _ := (iv_add (iv_mul (iv_sub (iv_mul i1 k2 (by decide)) (iv_mul i2 k1 (by decide)) (by decide)) (iv_sub (iv_mul j0 m1 (by decide)) (iv_mul j1 m0 (by decide)) (by decide)) (by decide)) (iv_mul (iv_sub (iv_mul i0 k1 (by decide)) (iv_mul i1 k0 (by decide)) (by decide)) (iv_sub (iv_mul j1 m2 (by decide)) (iv_mul j2 m1 (by decide)) (by decide)) (by decide)) (by decide))
  have L4 : iv (z0_setLines_e (z3_setAcross_y (r3 gp i 0) (r3 gp i 2) (r3 gp j 0) (r3 gp j 2)) (z3_setAcross_z (r3 gp i 0) (r3 gp i 1) (r3 gp j 0) (r3 gp j 1)) (z3_setAcross_y (r3 gp k 0) (r3 gp k 2) (r3 gp m 0) (r3 gp m 2)) (z3_setAcross_z (r3 gp k 0) (r3 gp k 1) (r3 gp m 0) (r3 gp m 1))) _ _ := (iv_add (iv_mul (iv_sub (iv_mul i2 j0 (by decide)) (iv_mul i0 j2 (by decide)) (by decide)) (iv_sub (iv_mul k0 m1 (by decide)) (iv_mul k1 m0 (by decide)) (by decide)) (by decide)) (iv_mul (iv_sub (iv_mul i0 j1 (by decide)) (iv_mul i1 j0 (by decide)) (by decide)) (iv_sub (iv_mul k2 m0 (by decide)) (iv_mul k0 m2 (by decide)) (by decide)) (by decide)) (by decide))
  have R4 : iv (z0_setLines_e (z3_setAcross_y (r3 gp i 0) (r3 gp i 2) (r3 gp k 0) (r3 gp k 2)) (z3_setAcross_z (r3 gp i 0) (r3 gp i 1) (r3 gp k 0) (r3 gp k 1)) (z3_setAcross_y (r3 gp j 0) (r3 gp j 2) (r3 gp m 0) (r3 gp m 2)) (z3_setAcross_z (r3 gp j 0) (r3 gp j 1) (r3 gp m 0) (r3 gp m 1))) _ _ := (iv_add (iv_mul (iv_sub (iv_mul i2 k0 (by decide)) (iv_mul i0 k2 (by decide)) (by decide)) (iv_sub (iv_mul j0 m1 (by decide)) (iv_mul j1 m0 (by decide)) (by decide)) (by decide)) (iv_mul (iv_sub (iv_mul i0 k1 (by decide)) (iv_mul i1 k0 (by decide)) (by decide)) (iv_sub (iv_mul j2 m0 (by decide)) (iv_mul j0 m2 (by decide)) (by decide)) (by decide)) (by decide))
  have L5 : iv (z0_setLines_f (z3_setAcross_z (r3 gp i 0) (r3 gp i 1) (r3 gp j 0) (r3 gp j 1)) (z3_setAcross_z (r3 gp k 0) (r3 gp k 1) (r3 gp m 0) (r3 gp m 1))) _ _ := (iv_mul (iv_sub (iv_mul i0 j1 (by decide)) (iv_mul i1 j0 (by decide)) (by decide)) (iv_sub (iv_mul k0 m1 (by decide)) (iv_mul k1 m0 (by decide)) (by decide)) (by decide))
  have R5 : iv (z0_setLines_f (z3_setAcross_z (r3 gp i 0) (r3 gp i 1) (r3 gp k 0) (r3 gp k 1)) (z3_setAcross_z (r3 gp j 0) (r3 gp j 1) (r3 gp m 0) (r3 gp m 1))) _ _ := (iv_mul (iv_sub (iv_mul i0 k1 (by decide)) (iv_mul i1 k0 (by decide)) (by decide)) (iv_sub (iv_mul j0 m1 (by decide)) (iv_mul j1 m0 (by decide)) (by decide)) (by decide))
  have vL : iv (z0_valueAt (z0_setLines_a (z3_setAcross_x (r3 gp i 1) (r3 gp i 2) (r3 gp j 1) (r3 gp j 2)) (z3_setAcross_x (r3 gp k 1) (r3 gp k 2) (r3 gp m 1) (r3 gp m 2))) (z0_setLines_b (z3_setAcross_x (r3 gp i 1) (r3 gp i 2) (r3 gp j 1) (r3 gp j 2)) (z3_setAcross_y (r3 gp i 0) (r3 gp i 2) (r3 gp j 0) (r3 gp j 2)) (z3_setAcross_x (r3 gp k 1) (r3 gp k 2) (r3 gp m 1) (r3 gp m 2)) (z3_setAcross_y (r3 gp k 0) (r3 gp k 2) (r3 gp m 0) (r3 gp m 2))) (z0_setLines_c (z3_setAcross_y (r3 gp i 0) (r3 gp i 2) (r3 gp j 0) (r3 gp j 2)) (z3_setAcross_y (r3 gp k 0) (r3 gp k 2) (r3 gp m 0) (r3 gp m 2))) (z0_setLines_d (z3_setAcross_x (r3 gp i 1) (r3 gp i 2) (r3 gp j 1) (r3 gp j 2)) (z3_setAcross_z (r3 gp i 0) (r3 gp i 1) (r3 gp j 0) (r3 gp j 1)) (z3_setAcross_x (r3 gp k 1) (r3 gp k 2) (r3 gp m 1) (r3 gp m 2)) (z3_setAcross_z (r3 gp k 0) (r3 gp k 1) (r3 gp m 0) (r3 gp m 1))) (z0_setLines_e (z3_setAcross_y (r3 gp i 0) (r3 gp i 2) (r3 gp j 0) (r3 gp j 2)) (z3_setAcross_z (r3 gp i 0) (r3 gp i 1) (r3 gp j 0) (r3 gp j 1)) (z3_setAcross_y (r3 gp k 0) (r3 gp k 2) (r3 gp m 0) (r3 gp m 2)) (z3_setAcross_z (r3 gp k 0) (r3 gp k 1) (r3 gp m 0) (r3 gp m 1))) (z0_setLines_f (z3_setAcross_z (r3 gp i 0) (r3 gp i 1) (r3 gp j 0) (r3 gp j 1)) (z3_setAcross_z (r3 gp k 0) (r3 gp k 1) (r3 gp m 0) (r3 gp m 1))) (r3 gp t 0) (r3 gp t 1) (r3 gp t 2)) _ _ := (iv_add (iv_add (iv_add (iv_add (iv_add (iv_mul (iv_mul L0 t0 (by decide)) t0 (by decide)) (iv_mul (iv_mul L1 t0 (by decide)) t1 (by decide)) (by decide)) (iv_mul (iv_mul L2 t1 (by decide)) t1 (by decide)) (by decide)) (iv_mul (iv_mul L3 t0 (by decide)) t2 (by decide)) (by decide)) (iv_mul (iv_mul L4 t1 (by decide)) t2 (by decide)) (by decide)) (iv_mul (iv_mul L5 t2 (by decide)) t2 (by decide)) (by decide))
  have vR : iv (z0_valueAt (z0_setLines_a (z3_setAcross_x (r3 gp i 1) (r3 gp i 2) (r3 gp k 1) (r3 gp k 2)) (z3_setAcross_x (r3 gp j 1) (r3 gp j 2) (r3 gp m 1) (r3 gp m 2))) (z0_setLines_b (z3_setAcross_x (r3 gp i 1) (r3 gp i 2) (r3 gp k 1) (r3 gp k 2)) (z3_setAcross_y (r3 gp i 0) (r3 gp i 2) (r3 gp k 0) (r3 gp k 2)) (z3_setAcross_x (r3 gp j 1) (r3 gp j 2) (r3 gp m 1) (r3 gp m 2)) (z3_setAcross_y (r3 gp j 0) (r3 gp j 2) (r3 gp m 0) (r3 gp m 2))) (z0_setLines_c (z3_setAcross_y (r3 gp i 0) (r3 gp i 2) (r3 gp k 0) (r3 gp k 2)) (z3_setAcross_y (r3 gp j 0) (r3 gp j 2) (r3 gp m 0) (r3 gp m 2))) (z0_setLines_d (z3_setAcross_x (r3 gp i 1) (r3 gp i 2) (r3 gp k 1) (r3 gp k 2)) (z3_setAcross_z (r3 gp i 0) (r3 gp i 1) (r3 gp k 0) (r3 gp k 1)) (z3_setAcross_x (r3 gp j 1) (r3 gp j 2) (r3 gp m 1) (r3 gp m 2)) (z3_setAcross_z (r3 gp j 0) (r3 gp j 1) (r3 gp m 0) (r3 gp m 1))) (z0_setLines_e (z3_setAcross_y (r3 gp i 0) (r3 gp i 2) (r3 gp k 0) (r3 gp k 2)) (z3_setAcross_z (r3 gp i 0) (r3 gp i 1) (r3 gp k 0) (r3 gp k 1)) (z3_setAcross_y (r3 gp j 0) (r3 gp j 2) (r3 gp m 0) (r3 gp m 2)) (z3_setAcross_z (r3 gp j 0) (r3 gp j 1) (r3 gp m 0) (r3 gp m 1))) (z0_setLines_f (z3_setAcross_z (r3 gp i 0) (r3 gp i 1) (r3 gp k 0) (r3 gp k 1)) (z3_setAcross_z (r3 gp j 0) (r3 gp j 1) (r3 gp m 0) (r3 gp m 1))) (r3 gp t 0) (r3 gp t 1) (r3 gp t 2)) _ _ := (iv_add (iv_add (iv_add (iv_add (iv_add (iv_mul (iv_mul R0 t0 (by decide)) t0 (by decide)) (iv_mul (iv_mul R1 t0 (by decide)) t1 (by decide)) (by decide)) (iv_mul (iv_mul R2 t1 (by decide)) t1 (by decide)) (by decide)) (iv_mul (iv_mul R3 t0 (by decide)) t2 (by decide)) (by decide)) (iv_mul (iv_mul R4 t1 (by decide)) t2 (by decide)) (by decide)) (iv_mul (iv_mul R5 t2 (by decide)) t2 (by decide)) (by decide))
  simp only [z5_five_v3, z5_five_v4, z5_five_v5, z4_five_v7, z4_five_v8, z4_five_v9, z4_five_v1, z4_five_v2, z4_five_v3, z4_five_v4, z4_five_v5, z4_five_v6, z4_setLinePair_a, z4_setLinePair_b, z4_setLinePair_c, z4_setLinePair_d, z4_setLinePair_e, z4_setLinePair_f, z4_setLinePair_v1, z4_setLinePair_v2, z4_setLinePair_v3, z4_setLineOf_x, z4_setLineOf_y, z4_setLineOf_z, rd3_x hi, rd3_y hi, rd3_z hi, rd3_x hj, rd3_y hj, rd3_z hj, rd3_x hk, rd3_y hk, rd3_z hk, rd3_x hm, rd3_y hm, rd3_z hm, rd3_x ht, rd3_y ht, rd3_z ht]
  rw [pr3, pr3, ku6]
  refine kp2n gm _ gc (-1000004) _ _ _ _ _ _ g2 ?_ ?_ ?_ ?_ ?_ ?_ ?_ ?_ ?_ ?_ ?_ ?_
  · simp only [ul_e, ul_0_1, ul_0_2, ul_0_3, ul_0_4, ul_0_5, ul_0_6, ul_0_7, ul_0_8, ul_1_0, ul_1_2, ul_1_3, ul_1_4, ul_1_5, ul_1_6, ul_1_7, ul_1_8, ul_2_0, ul_2_1, ul_2_3, ul_2_4, ul_2_5, ul_2_6, ul_2_7, ul_2_8, ul_3_0, ul_3_1, ul_3_2, ul_3_4, ul_3_5, ul_3_6, ul_3_7, ul_3_8, ul_4_0, ul_4_1, ul_4_2, ul_4_3, ul_4_5, ul_4_6, ul_4_7, ul_4_8, ul_5_0, ul_5_1, ul_5_2, ul_5_3, ul_5_4, ul_5_6, ul_5_7, ul_5_8, ul_6_0, ul_6_1, ul_6_2, ul_6_3, ul_6_4, ul_6_5, ul_6_7, ul_6_8, ul_7_0, ul_7_1, ul_7_2, ul_7_3, ul_7_4, ul_7_5, ul_7_6, ul_7_8, ul_8_0, ul_8_1, ul_8_2, ul_8_3, ul_8_4, ul_8_5, ul_8_6, ul_8_7, rm_62, q5_a]
  · simp only [ul_e, ul_0_1, ul_0_2, ul_0_3, ul_0_4, ul_0_5, ul_0_6, ul_0_7, ul_0_8, ul_1_0, ul_1_2, ul_1_3, ul_1_4, ul_1_5, ul_1_6, ul_1_7, ul_1_8, ul_2_0, ul_2_1, ul_2_3, ul_2_4, ul_2_5, ul_2_6, ul_2_7, ul_2_8, ul_3_0, ul_3_1, ul_3_2, ul_3_4, ul_3_5, ul_3_6, ul_3_7, ul_3_8, ul_4_0, ul_4_1, ul_4_2, ul_4_3, ul_4_5, ul_4_6, ul_4_7, ul_4_8, ul_5_0, ul_5_1, ul_5_2, ul_5_3, ul_5_4, ul_5_6, ul_5_7, ul_5_8, ul_6_0, ul_6_1, ul_6_2, ul_6_3, ul_6_4, ul_6_5, ul_6_7, ul_6_8, ul_7_0, ul_7_1, ul_7_2, ul_7_3, ul_7_4, ul_7_5, ul_7_6, ul_7_8, ul_8_0, ul_8_1, ul_8_2, ul_8_3, ul_8_4, ul_8_5, ul_8_6, ul_8_7, rm_61, q5_b]
  · simp only [ul_e, ul_0_1, ul_0_2, ul_0_3, ul_0_4, ul_0_5, ul_0_6, ul_0_7, ul_0_8, ul_1_0, ul_1_2, ul_1_3, ul_1_4, ul_1_5, ul_1_6, ul_1_7, ul_1_8, ul_2_0, ul_2_1, ul_2_3, ul_2_4, ul_2_5, ul_2_6, ul_2_7, ul_2_8, ul_3_0, ul_3_1, ul_3_2, ul_3_4, ul_3_5, ul_3_6, ul_3_7, ul_3_8, ul_4_0, ul_4_1, ul_4_2, ul_4_3, ul_4_5, ul_4_6, ul_4_7, ul_4_8, ul_5_0, ul_5_1, ul_5_2, ul_5_3, ul_5_4, ul_5_6, ul_5_7, ul_5_8, ul_6_0, ul_6_1, ul_6_2, ul_6_3, ul_6_4, ul_6_5, ul_6_7, ul_6_8, ul_7_0, ul_7_1, ul_7_2, ul_7_3, ul_7_4, ul_7_5, ul_7_6, ul_7_8, ul_8_0, ul_8_1, ul_8_2, ul_8_3, ul_8_4, ul_8_5, ul_8_6, ul_8_7, rm_59, q5_c]
  · simp only [ul_e, ul_0_1, ul_0_2, ul_0_3, ul_0_4, ul_0_5, ul_0_6, ul_0_7, ul_0_8, ul_1_0, ul_1_2, ul_1_3, ul_1_4, ul_1_5, ul_1_6, ul_1_7, ul_1_8, ul_2_0, ul_2_1, ul_2_3, ul_2_4, ul_2_5, ul_2_6, ul_2_7, ul_2_8, ul_3_0, ul_3_1, ul_3_2, ul_3_4, ul_3_5, ul_3_6, ul_3_7, ul_3_8, ul_4_0, ul_4_1, ul_4_2, ul_4_3, ul_4_5, ul_4_6, ul_4_7, ul_4_8, ul_5_0, ul_5_1, ul_5_2, ul_5_3, ul_5_4, ul_5_6, ul_5_7, ul_5_8, ul_6_0, ul_6_1, ul_6_2, ul_6_3, ul_6_4, ul_6_5, ul_6_7, ul_6_8, ul_7_0, ul_7_1, ul_7_2, ul_7_3, ul_7_4, ul_7_5, ul_7_6, ul_7_8, ul_8_0, ul_8_1, ul_8_2, ul_8_3, ul_8_4, ul_8_5, ul_8_6, ul_8_7, rm_55, q5_d]
  · simp only [ul_e, ul_0_1, ul_0_2, ul_0_3, ul_0_4, ul_0_5, ul_0_6, ul_0_7, ul_0_8, ul_1_0, ul_1_2, ul_1_3, ul_1_4, ul_1_5, ul_1_6, ul_1_7, ul_1_8, ul_2_0, ul_2_1, ul_2_3, ul_2_4, ul_2_5, ul_2_6, ul_2_7, ul_2_8, ul_3_0, ul_3_1, ul_3_2, ul_3_4, ul_3_5, ul_3_6, ul_3_7, ul_3_8, ul_4_0, ul_4_1, ul_4_2, ul_4_3, ul_4_5, ul_4_6, ul_4_7, ul_4_8, ul_5_0, ul_5_1, ul_5_2, ul_5_3, ul_5_4, ul_5_6, ul_5_7, ul_5_8, ul_6_0, ul_6_1, ul_6_2, ul_6_3, ul_6_4, ul_6_5, ul_6_7, ul_6_8, ul_7_0, ul_7_1, ul_7_2, ul_7_3, ul_7_4, ul_7_5, ul_7_6, ul_7_8, ul_8_0, ul_8_1, ul_8_2, ul_8_3, ul_8_4, ul_8_5, ul_8_6, ul_8_7, rm_47, q5_e]
  · simp only [ul_e, ul_0_1, ul_0_2, ul_0_3, ul_0_4, ul_0_5, ul_0_6, ul_0_7, ul_0_8, ul_1_0, ul_1_2, ul_1_3, ul_1_4, ul_1_5, ul_1_6, ul_1_7, ul_1_8, ul_2_0, ul_2_1, ul_2_3, ul_2_4, ul_2_5, ul_2_6, ul_2_7, ul_2_8, ul_3_0, ul_3_1, ul_3_2, ul_3_4, ul_3_5, ul_3_6, ul_3_7, ul_3_8, ul_4_0, ul_4_1, ul_4_2, ul_4_3, ul_4_5, ul_4_6, ul_4_7, ul_4_8, ul_5_0, ul_5_1, ul_5_2, ul_5_3, ul_5_4, ul_5_6, ul_5_7, ul_5_8, ul_6_0, ul_6_1, ul_6_2, ul_6_3, ul_6_4, ul_6_5, ul_6_7, ul_6_8, ul_7_0, ul_7_1, ul_7_2, ul_7_3, ul_7_4, ul_7_5, ul_7_6, ul_7_8, ul_8_0, ul_8_1, ul_8_2, ul_8_3, ul_8_4, ul_8_5, ul_8_6, ul_8_7, rm_31, q5_f]
  · exact iv_nm (iv_add (iv_mul vR L0 (by decide)) (iv_mul (iv_neg vL (by decide)) R0 (by decide)) (by decide)) (by decide)
  · exact iv_nm (iv_add (iv_mul vR L1 (by decide)) (iv_mul (iv_neg vL (by decide)) R1 (by decide)) (by decide)) (by decide)
  · exact iv_nm (iv_add (iv_mul vR L2 (by decide)) (iv_mul (iv_neg vL (by decide)) R2 (by decide)) (by decide)) (by decide)
  · exact iv_nm (iv_add (iv_mul vR L3 (by decide)) (iv_mul (iv_neg vL (by decide)) R3 (by decide)) (by decide)) (by decide)
  · exact iv_nm (iv_add (iv_mul vR L4 (by decide)) (iv_mul (iv_neg vL (by decide)) R4 (by decide)) (by decide)) (by decide)
  · exact iv_nm (iv_add (iv_mul vR L5 (by decide)) (iv_mul (iv_neg vL (by decide)) R5 (by decide)) (by decide)) (by decide)
