/-! Numbers that stay small: the machine's arithmetic is that of the whole numbers. -/
def iv (x : Int64) (v : Int) (B : Nat) : Prop := x.toInt = v ∧ v.natAbs ≤ B
def nm (x : Int64) : Prop := -9223372036854775808 < x.toInt
theorem pu_z0 : (0 : Int64).toInt = 0 := by decide
theorem iv_nm {x : Int64} {v : Int} {B : Nat} (h : iv x v B) (q : B < 9223372036854775808) : nm x := by
  obtain ⟨h1, h2⟩ := h
  show _ < _
  rw [h1]
  omega
theorem iv_b {x : Int64} {v : Int} (h1 : x.toInt = v.bmod (2 ^ 64)) (h2 : v.natAbs < 9223372036854775808) : x.toInt = v := by
  rw [h1]
  exact Int.bmod_eq_of_le (by omega) (by omega)
theorem iv_add {x y : Int64} {v w : Int} {B C : Nat} (h : iv x v B) (k : iv y w C) (q : B + C < 9223372036854775808) : iv (x + y) (v + w) (B + C) := by
  obtain ⟨h1, h2⟩ := h
  obtain ⟨k1, k2⟩ := k
  have b : (v + w).natAbs ≤ B + C := by omega
  exact ⟨iv_b (by rw [Int64.toInt_add, h1, k1]) (by omega), b⟩
theorem iv_sub {x y : Int64} {v w : Int} {B C : Nat} (h : iv x v B) (k : iv y w C) (q : B + C < 9223372036854775808) : iv (x - y) (v - w) (B + C) := by
  obtain ⟨h1, h2⟩ := h
  obtain ⟨k1, k2⟩ := k
  have b : (v - w).natAbs ≤ B + C := by omega
  exact ⟨iv_b (by rw [Int64.toInt_sub, h1, k1]) (by omega), b⟩
theorem iv_neg {x : Int64} {v : Int} {B : Nat} (h : iv x v B) (q : B < 9223372036854775808) : iv (-x) (-v) B := by
  obtain ⟨h1, h2⟩ := h
  have b : (-v).natAbs ≤ B := by omega
  exact ⟨iv_b (by rw [Int64.toInt_neg, h1]) (by omega), b⟩
theorem iv_mul {x y : Int64} {v w : Int} {B C : Nat} (h : iv x v B) (k : iv y w C) (q : B * C < 9223372036854775808) : iv (x * y) (v * w) (B * C) := by
  obtain ⟨h1, h2⟩ := h
  obtain ⟨k1, k2⟩ := k
  have b : (v * w).natAbs ≤ B * C := by
    rw [Int.natAbs_mul]
    exact Nat.mul_le_mul h2 k2
  exact ⟨iv_b (by rw [Int64.toInt_mul, h1, k1]) (Nat.lt_of_le_of_lt b q), b⟩
theorem iv_up {x : Int64} {v : Int} {B C : Nat} (h : iv x v B) (q : B ≤ C) : iv x v C := ⟨h.1, Nat.le_trans h.2 q⟩
theorem iv_0 : iv 0 0 0 := ⟨by decide, by decide⟩
theorem iv_1 : iv 1 1 1 := ⟨by decide, by decide⟩
theorem iv_2 : iv 2 2 2 := ⟨by decide, by decide⟩
theorem iv_4 : iv 4 4 4 := ⟨by decide, by decide⟩
theorem iv_32 {x : Int32} {B : Nat} (h : x.toInt.natAbs ≤ B) : iv x.toInt64 x.toInt B := ⟨i32_64 x, h⟩
theorem iv_eq {x y : Int64} {v w : Int} {B C : Nat} (h : iv x v B) (k : iv y w C) (e : v = w) : x = y :=
  Int64.toInt_inj.mp (h.1.trans (e.trans k.1.symm))
theorem iv_z {x : Int64} {v : Int} {B : Nat} (h : iv x v B) : x = 0 ↔ v = 0 := by
  rw [← Int64.toInt_inj, pu_z0, h.1]
theorem iv_lt0 {x : Int64} {v : Int} {B : Nat} (h : iv x v B) : x < 0 ↔ v < 0 := by
  rw [Int64.lt_iff_toInt_lt, pu_z0, h.1]
theorem iv_le0 {x : Int64} {v : Int} {B : Nat} (h : iv x v B) : x ≤ 0 ↔ v ≤ 0 := by
  rw [Int64.le_iff_toInt_le, pu_z0, h.1]
theorem iv_ge0 {x : Int64} {v : Int} {B : Nat} (h : iv x v B) : 0 ≤ x ↔ 0 ≤ v := by
  rw [Int64.le_iff_toInt_le, pu_z0, h.1]
theorem iv_div {x y : Int64} {v w : Int} {B C : Nat} (h : iv x v B) (k : iv y w C) (q : B < 9223372036854775808) : iv (x / y) (v.tdiv w) B := by
  obtain ⟨h1, h2⟩ := h
  have b : (v.tdiv w).natAbs ≤ B := Nat.le_trans (Int.natAbs_tdiv_le_natAbs v w) h2
  exact ⟨iv_b (by rw [Int64.toInt_div, h1, k.1]) (Nat.lt_of_le_of_lt b q), b⟩
/-! Euclid's way gives the greatest common divisor. -/
theorem pu_gA : ∀ (n : Nat) (h l : Int64), h ≠ 0 → z4_gcdl n h l ≠ 0
  | 0, _, _, q => q
  | n + 1, h, l, q => by
    rw [z4_gcdl]
    by_cases c : l = 0
    · rw [if_pos c]; exact q
    · rw [if_neg c]; exact pu_gA n l _ c
theorem pu_gB (n : Nat) (h l : Int64) (q : l ≠ 0) : z4_gcdl (n + 1) h l ≠ 0 := by
  rw [z4_gcdl, if_neg q]
  exact pu_gA n l _ q
theorem pu_gN : ∀ (n : Nat) (a b : Int64), 0 ≤ a.toInt → 0 ≤ b.toInt → g_ends n a b → (z4_gcdl n a b).toInt = ((Nat.gcd a.toInt.natAbs b.toInt.natAbs : Nat) : Int)
  | 0, a, b, ha, _, h => by
    have h : b = 0 := h
    subst h
    rw [z4_gcdl, pu_z0, Int.natAbs_zero, Nat.gcd_zero_right]
    omega
  | n + 1, a, b, ha, hb, h => by
    rw [z4_gcdl]
    by_cases c : b = 0
    · rw [if_pos c]
      subst c
      rw [pu_z0, Int.natAbs_zero, Nat.gcd_zero_right]
      omega
    · rw [if_neg c]
      have h' : g_ends n b (a - a / b * b) := h.resolve_left c
      have e : (a - a / b * b).toInt = a.toInt.tmod b.toInt := by rw [i64_rem, Int64.toInt_mod]
      have q : Nat.gcd b.toInt.natAbs (a.toInt.natAbs % b.toInt.natAbs) = Nat.gcd a.toInt.natAbs b.toInt.natAbs := by
        rw [Nat.gcd_comm a.toInt.natAbs, Nat.gcd_rec b.toInt.natAbs a.toInt.natAbs, Nat.gcd_comm]
      rw [pu_gN n _ _ hb (by rw [e]; exact Int.tmod_nonneg _ ha) h', e, Int.natAbs_tmod, q]
theorem pu_g {a b : Int64} (ha : 0 ≤ a.toInt) (hb : 0 ≤ b.toInt) : (z4_gcdl 100 a b).toInt = ((Nat.gcd a.toInt.natAbs b.toInt.natAbs : Nat) : Int) :=
  pu_gN 100 a b ha hb (g_100 a b)
theorem pu_abn {x : Int64} (h : nm x) : (z5_ab x).toInt = (x.toInt.natAbs : Int) := by
  have h : -9223372036854775808 < x.toInt := h
  have h2 := Int64.toInt_lt x
  unfold z5_ab
  by_cases c : 0 ≤ x
  · rw [if_pos c]
    rw [Int64.le_iff_toInt_le, pu_z0] at c
    omega
  · rw [if_neg c, Int64.toInt_neg]
    rw [Int64.le_iff_toInt_le, pu_z0] at c
    have e : (-x.toInt).bmod (2 ^ 64) = -x.toInt := Int.bmod_eq_of_le (by omega) (by omega)
    rw [e]
    omega
theorem pu_abi {x : Int64} (h : 0 ≤ x.toInt) : z5_ab x = x := by
  unfold z5_ab
  rw [if_pos]
  rw [Int64.le_iff_toInt_le, pu_z0]
  exact h
theorem pu_abz {x : Int64} (h : z5_ab x = 0) : x = 0 := by
  unfold z5_ab at h
  by_cases c : 0 ≤ x
  · rw [if_pos c] at h
    exact h
  · rw [if_neg c] at h
    have : - -x = -(0 : Int64) := by rw [h]
    rw [Int64.neg_neg] at this
    rw [this]
    rfl
theorem pu_c0 (x : Int64) : z5_common 0 x = z5_ab x := by
  unfold z5_common
  have : z5_ab 0 = 0 := by decide
  rw [this]
  exact pu_g0 98 _
theorem pu_cn {x y : Int64} (h : 0 ≤ x.toInt) : z5_common x y = z4_gcdl 100 x (z5_ab y) := by
  unfold z5_common
  rw [pu_abi h]
/-! three numbers -/
def dv2 (x y : Int64) : Int64 := z4_gcdl 100 (z5_ab x) (z5_ab y)
def dv3 (x y z : Int64) : Int64 := z4_gcdl 100 (dv2 x y) (z5_ab z)
theorem pu_dv2 {x y : Int64} (hx : nm x) (hy : nm y) : (dv2 x y).toInt = ((Nat.gcd x.toInt.natAbs y.toInt.natAbs : Nat) : Int) := by
  unfold dv2
  rw [pu_g (by rw [pu_abn hx]; omega) (by rw [pu_abn hy]; omega), pu_abn hx, pu_abn hy, Int.natAbs_natCast, Int.natAbs_natCast]
def gg3 (x y z : Int) : Nat := Nat.gcd (Nat.gcd x.natAbs y.natAbs) z.natAbs
theorem pu_dv3 {x y z : Int64} (hx : nm x) (hy : nm y) (hz : nm z) : (dv3 x y z).toInt = ((gg3 x.toInt y.toInt z.toInt : Nat) : Int) := by
  unfold dv3 gg3
  rw [pu_g (by rw [pu_dv2 hx hy]; omega) (by rw [pu_abn hz]; omega), pu_dv2 hx hy, pu_abn hz, Int.natAbs_natCast, Int.natAbs_natCast]
theorem pu_com2 {x y : Int64} (hx : nm x) : z5_common (z5_common 0 x) y = dv2 x y := by
  rw [pu_c0, pu_cn (by rw [pu_abn hx]; omega)]
  rfl
theorem pu_com3 {x y z : Int64} (hx : nm x) (hy : nm y) : z5_common (z5_common (z5_common 0 x) y) z = dv3 x y z := by
  rw [pu_com2 hx, pu_cn (by rw [pu_dv2 hx hy]; omega)]
  rfl
theorem pu_cls3 {x y z : Int64} : z4_commonDivisor (z4_commonDivisor (lg_ab x) (lg_ab y)) (lg_ab z) = dv3 x y z := by
  simp only [z4_commonDivisor, dv3, dv2, pu_ab]
theorem pu_dv3z {x y z : Int64} : dv3 x y z = 0 ↔ x = 0 ∧ y = 0 ∧ z = 0 := by
  constructor
  · intro h
    have h3 : z = 0 := by
      apply pu_abz
      apply Classical.byContradiction
      intro c
      exact pu_gB 99 _ _ c h
    have h2 : dv2 x y = 0 := by
      apply Classical.byContradiction
      intro c
      exact pu_gA 100 _ _ c h
    have h4 : y = 0 := by
      apply pu_abz
      apply Classical.byContradiction
      intro c
      exact pu_gB 99 _ _ c h2
    have h5 : x = 0 := by
      apply pu_abz
      apply Classical.byContradiction
      intro c
      exact pu_gA 100 _ _ c h2
    exact ⟨h5, h4, h3⟩
  · rintro ⟨rfl, rfl, rfl⟩
    unfold dv3 dv2
    have : z5_ab 0 = 0 := by decide
    rw [this, pu_g0 98 0, pu_g0 98 0]
/-- the divisor with its sign -/
def sd3 (x y z : Int64) : Int64 := if x < 0 then -(dv3 x y z) else if x = 0 then if y < 0 then -(dv3 x y z) else if y = 0 then if 0 ≤ z then dv3 x y z else -(dv3 x y z) else dv3 x y z else dv3 x y z
theorem pu_red3 (x y z : Int64) : z3_reduce x y z = if sd3 x y z = 0 then (x, y, z) else (x / sd3 x y z, y / sd3 x y z, z / sd3 x y z) := by
  unfold z3_reduce sd3
  rw [pu_cls3]
  by_cases c1 : x < 0
  · simp only [if_pos c1]
  · simp only [if_neg c1]
    by_cases c2 : x = 0
    · simp only [if_pos c2]
      by_cases c3 : y < 0
      · simp only [if_pos c3]
      · simp only [if_neg c3]
        by_cases c4 : y = 0
        · simp only [if_pos c4]
          by_cases c5 : 0 ≤ z
          · simp only [if_pos c5]
          · simp only [if_neg c5]
        · simp only [if_neg c4]
    · simp only [if_neg c2]
theorem pu_lt0 {x : Int64} (h : ¬ x = 0) (q : 0 ≤ x) : ¬ x < 0 := by
  rw [Int64.not_lt]; exact q
theorem pu_ge0 {x : Int64} (q : ¬ 0 ≤ x) : x < 0 := Int64.not_le.mp q
theorem pu_00 {x : Int64} (h : x = 0) : ¬ x < 0 := by rw [h]; decide
theorem pu_nrm3 (f : Nat → Int64) (hx : nm (f 0)) (hy : nm (f 1)) : z5_norm_3_3 f = if dv3 (f 0) (f 1) (f 2) = 0 then (0, f) else (1, vp_updL (vp_updL (vp_updL f 0 (f 0 / sd3 (f 0) (f 1) (f 2))) 1 (f 1 / sd3 (f 0) (f 1) (f 2))) 2 (f 2 / sd3 (f 0) (f 1) (f 2))) := by
  unfold z5_norm_3_3
  rw [pu_com3 hx hy]
  by_cases c : dv3 (f 0) (f 1) (f 2) = 0
  · simp only [if_pos c]
  · simp only [if_neg c]
    unfold sd3
    by_cases c0 : f 0 = 0
    · simp only [if_pos c0, if_neg (pu_00 c0)]
      by_cases c1 : f 1 = 0
      · simp only [if_pos c1, if_neg (pu_00 c1)]
        by_cases c2 : f 2 = 0
        · exact absurd (pu_dv3z.mpr ⟨c0, c1, c2⟩) c
        · simp only [if_neg c2]
          by_cases c3 : 0 ≤ f 2
          · simp only [if_pos c3]
          · simp only [if_neg c3]
      · simp only [if_neg c1]
        by_cases c3 : 0 ≤ f 1
        · simp only [if_pos c3, if_neg (pu_lt0 c1 c3)]
        · simp only [if_neg c3, if_pos (pu_ge0 c3)]
    · simp only [if_neg c0]
      by_cases c3 : 0 ≤ f 0
      · simp only [if_pos c3, if_neg (pu_lt0 c0 c3)]
      · simp only [if_neg c3, if_pos (pu_ge0 c3)]
theorem pu_nrm36 (f : Nat → Int64) : z5_norm_3_6 f = z5_norm_3_3 f := rfl
theorem pu_sd3z {x y z : Int64} : sd3 x y z = 0 ↔ dv3 x y z = 0 := by
  have q : ∀ g : Int64, -g = 0 ↔ g = 0 := by
    intro g
    constructor
    · intro h
      have : - -g = -(0 : Int64) := by rw [h]
      rw [Int64.neg_neg] at this
      rw [this]
      rfl
    · intro h
      rw [h]
      rfl
  unfold sd3
  repeat' split
  all_goals first | exact q _ | exact Iff.rfl
/-- reduce and norm say the same of three numbers -/
theorem pu_nr3 (f : Nat → Int64) (hx : nm (f 0)) (hy : nm (f 1)) : z5_norm_3_3 f = if f 0 = 0 ∧ f 1 = 0 ∧ f 2 = 0 then (0, f) else (1, vp_updL (vp_updL (vp_updL f 0 (z3_reduce (f 0) (f 1) (f 2)).1) 1 (z3_reduce (f 0) (f 1) (f 2)).2.1) 2 (z3_reduce (f 0) (f 1) (f 2)).2.2) := by
  rw [pu_nrm3 f hx hy]
  by_cases c : dv3 (f 0) (f 1) (f 2) = 0
  · rw [if_pos c, if_pos (pu_dv3z.mp c)]
  · rw [if_neg c, if_neg (fun q => c (pu_dv3z.mpr q)), pu_red3, if_neg (fun q => c (pu_sd3z.mp q))]
