/-! six numbers -/
def dv4 (a b c d : Int64) : Int64 := z4_gcdl 100 (dv3 a b c) (z5_ab d)
def dv5 (a b c d e : Int64) : Int64 := z4_gcdl 100 (dv4 a b c d) (z5_ab e)
def dv6 (a b c d e f : Int64) : Int64 := z4_gcdl 100 (dv5 a b c d e) (z5_ab f)
def gg4 (a b c d : Int) : Nat := Nat.gcd (gg3 a b c) d.natAbs
def gg5 (a b c d e : Int) : Nat := Nat.gcd (gg4 a b c d) e.natAbs
def gg6 (a b c d e f : Int) : Nat := Nat.gcd (gg5 a b c d e) f.natAbs
theorem pu_dv4 {a b c d : Int64} (ha : nm a) (hb : nm b) (hc : nm c) (hd : nm d) : (dv4 a b c d).toInt = ((gg4 a.toInt b.toInt c.toInt d.toInt : Nat) : Int) := by
  unfold dv4 gg4
  rw [pu_g (by rw [pu_dv3 ha hb hc]; omega) (by rw [pu_abn hd]; omega), pu_dv3 ha hb hc, pu_abn hd, Int.natAbs_natCast, Int.natAbs_natCast]
theorem pu_com4 {a b c d : Int64} (ha : nm a) (hb : nm b) (hc : nm c) : z5_common (z5_common (z5_common (z5_common 0 a) b) c) d = dv4 a b c d := by
  rw [pu_com3 ha hb, pu_cn (by rw [pu_dv3 ha hb hc]; omega)]
  rfl
theorem pu_dv5 {a b c d e : Int64} (ha : nm a) (hb : nm b) (hc : nm c) (hd : nm d) (he : nm e) : (dv5 a b c d e).toInt = ((gg5 a.toInt b.toInt c.toInt d.toInt e.toInt : Nat) : Int) := by
  unfold dv5 gg5
  rw [pu_g (by rw [pu_dv4 ha hb hc hd]; omega) (by rw [pu_abn he]; omega), pu_dv4 ha hb hc hd, pu_abn he, Int.natAbs_natCast, Int.natAbs_natCast]
theorem pu_com5 {a b c d e : Int64} (ha : nm a) (hb : nm b) (hc : nm c) (hd : nm d) : z5_common (z5_common (z5_common (z5_common (z5_common 0 a) b) c) d) e = dv5 a b c d e := by
  rw [pu_com4 ha hb hc, pu_cn (by rw [pu_dv4 ha hb hc hd]; omega)]
  rfl
theorem pu_dv6 {a b c d e f : Int64} (ha : nm a) (hb : nm b) (hc : nm c) (hd : nm d) (he : nm e) (hf : nm f) : (dv6 a b c d e f).toInt = ((gg6 a.toInt b.toInt c.toInt d.toInt e.toInt f.toInt : Nat) : Int) := by
  unfold dv6 gg6
  rw [pu_g (by rw [pu_dv5 ha hb hc hd he]; omega) (by rw [pu_abn hf]; omega), pu_dv5 ha hb hc hd he, pu_abn hf, Int.natAbs_natCast, Int.natAbs_natCast]
theorem pu_com6 {a b c d e f : Int64} (ha : nm a) (hb : nm b) (hc : nm c) (hd : nm d) (he : nm e) : z5_common (z5_common (z5_common (z5_common (z5_common (z5_common 0 a) b) c) d) e) f = dv6 a b c d e f := by
  rw [pu_com5 ha hb hc hd, pu_cn (by rw [pu_dv5 ha hb hc hd he]; omega)]
  rfl
theorem pu_cls6 {a b c d e f : Int64} : z4_commonDivisor (z0_reduce_v1 a b c d e) (lg_ab f) = dv6 a b c d e f := by
  simp only [z0_reduce_v1, z4_commonDivisor, dv6, dv5, dv4, dv3, dv2, pu_ab]
theorem pu_gcz {x y : Int64} (h : z4_gcdl 100 x (z5_ab y) = 0) : x = 0 ∧ y = 0 := by
  constructor
  · apply Classical.byContradiction
    intro c
    exact pu_gA 100 _ _ c h
  · apply pu_abz
    apply Classical.byContradiction
    intro c
    exact pu_gB 99 _ _ c h
theorem pu_dv6z {a b c d e f : Int64} : dv6 a b c d e f = 0 ↔ a = 0 ∧ b = 0 ∧ c = 0 ∧ d = 0 ∧ e = 0 ∧ f = 0 := by
  constructor
  · intro h
    obtain ⟨h1, h2⟩ := pu_gcz h
    obtain ⟨h3, h4⟩ := pu_gcz h1
    obtain ⟨h5, h6⟩ := pu_gcz h3
    obtain ⟨h7, h8, h9⟩ := pu_dv3z.mp h5
    exact ⟨h7, h8, h9, h6, h4, h2⟩
  · rintro ⟨rfl, rfl, rfl, rfl, rfl, rfl⟩
    unfold dv6 dv5 dv4
    have : z5_ab 0 = 0 := by decide
    rw [pu_dv3z.mpr ⟨rfl, rfl, rfl⟩, this, pu_g0 98 0, pu_g0 98 0, pu_g0 98 0]
def sd6 (a b c d e f : Int64) : Int64 := if 0 ≤ z0_firstNumber a b c d e f then dv6 a b c d e f else -(dv6 a b c d e f)
theorem pu_nz {g : Int64} : -g = 0 ↔ g = 0 := by
  constructor
  · intro h
    have : - -g = -(0 : Int64) := by rw [h]
    rw [Int64.neg_neg] at this
    rw [this]
    rfl
  · intro h
    rw [h]
    rfl
theorem pu_sd6z {a b c d e f : Int64} : sd6 a b c d e f = 0 ↔ dv6 a b c d e f = 0 := by
  unfold sd6
  by_cases q : 0 ≤ z0_firstNumber a b c d e f
  · rw [if_pos q]
  · rw [if_neg q]
    exact pu_nz
theorem pu_red6 (a b c d e f : Int64) : z0_reduce a b c d e f = if sd6 a b c d e f = 0 then (a, b, c, d, e, f) else (a / sd6 a b c d e f, b / sd6 a b c d e f, c / sd6 a b c d e f, d / sd6 a b c d e f, e / sd6 a b c d e f, f / sd6 a b c d e f) := by
  unfold z0_reduce sd6
  rw [pu_cls6]
  by_cases q : 0 ≤ z0_firstNumber a b c d e f
  · simp only [if_pos q]
  · simp only [if_neg q]
theorem pu_nrm6 (f : Nat → Int64) (h0 : nm (f 0)) (h1 : nm (f 1)) (h2 : nm (f 2)) (h3 : nm (f 3)) (h4 : nm (f 4)) : z5_norm_6_6 f = if dv6 (f 0) (f 1) (f 2) (f 3) (f 4) (f 5) = 0 then (0, f) else (1, vp_updL (vp_updL (vp_updL (vp_updL (vp_updL (vp_updL f 0 (f 0 / sd6 (f 0) (f 1) (f 2) (f 3) (f 4) (f 5))) 1 (f 1 / sd6 (f 0) (f 1) (f 2) (f 3) (f 4) (f 5))) 2 (f 2 / sd6 (f 0) (f 1) (f 2) (f 3) (f 4) (f 5))) 3 (f 3 / sd6 (f 0) (f 1) (f 2) (f 3) (f 4) (f 5))) 4 (f 4 / sd6 (f 0) (f 1) (f 2) (f 3) (f 4) (f 5))) 5 (f 5 / sd6 (f 0) (f 1) (f 2) (f 3) (f 4) (f 5))) := by
  unfold z5_norm_6_6
  rw [pu_com6 h0 h1 h2 h3 h4]
  by_cases c : dv6 (f 0) (f 1) (f 2) (f 3) (f 4) (f 5) = 0
  · simp only [if_pos c]
  · simp only [if_neg c]
    unfold sd6 z0_firstNumber
    by_cases c0 : f 0 = 0
    · simp only [if_pos c0]
      by_cases c1 : f 1 = 0
      · simp only [if_pos c1]
        by_cases c2 : f 2 = 0
        · simp only [if_pos c2]
          by_cases c3 : f 3 = 0
          · simp only [if_pos c3]
            by_cases c4 : f 4 = 0
            · simp only [if_pos c4]
              by_cases c5 : f 5 = 0
              · exact absurd (pu_dv6z.mpr ⟨c0, c1, c2, c3, c4, c5⟩) c
              · simp only [if_neg c5]
                by_cases q : 0 ≤ f 5
                · simp only [if_pos q]
                · simp only [if_neg q]
            · simp only [if_neg c4]
              by_cases q : 0 ≤ f 4
              · simp only [if_pos q]
              · simp only [if_neg q]
          · simp only [if_neg c3]
            by_cases q : 0 ≤ f 3
            · simp only [if_pos q]
            · simp only [if_neg q]
        · simp only [if_neg c2]
          by_cases q : 0 ≤ f 2
          · simp only [if_pos q]
          · simp only [if_neg q]
      · simp only [if_neg c1]
        by_cases q : 0 ≤ f 1
        · simp only [if_pos q]
        · simp only [if_neg q]
    · simp only [if_neg c0]
      by_cases q : 0 ≤ f 0
      · simp only [if_pos q]
      · simp only [if_neg q]
/-- reduce and norm say the same of six numbers -/
theorem pu_nr6 (f : Nat → Int64) (h0 : nm (f 0)) (h1 : nm (f 1)) (h2 : nm (f 2)) (h3 : nm (f 3)) (h4 : nm (f 4)) : z5_norm_6_6 f = if f 0 = 0 ∧ f 1 = 0 ∧ f 2 = 0 ∧ f 3 = 0 ∧ f 4 = 0 ∧ f 5 = 0 then (0, f) else (1, vp_updL (vp_updL (vp_updL (vp_updL (vp_updL (vp_updL f 0 ((z0_reduce (f 0) (f 1) (f 2) (f 3) (f 4) (f 5)).1)) 1 ((z0_reduce (f 0) (f 1) (f 2) (f 3) (f 4) (f 5)).2.1)) 2 ((z0_reduce (f 0) (f 1) (f 2) (f 3) (f 4) (f 5)).2.2.1)) 3 ((z0_reduce (f 0) (f 1) (f 2) (f 3) (f 4) (f 5)).2.2.2.1)) 4 ((z0_reduce (f 0) (f 1) (f 2) (f 3) (f 4) (f 5)).2.2.2.2.1)) 5 ((z0_reduce (f 0) (f 1) (f 2) (f 3) (f 4) (f 5)).2.2.2.2.2)) := by
  rw [pu_nrm6 f h0 h1 h2 h3 h4]
  by_cases c : dv6 (f 0) (f 1) (f 2) (f 3) (f 4) (f 5) = 0
  · rw [if_pos c, if_pos (pu_dv6z.mp c)]
  · rw [if_neg c, if_neg (fun q => c (pu_dv6z.mpr q)), pu_red6, if_neg (fun q => c (pu_sd6z.mp q))]
