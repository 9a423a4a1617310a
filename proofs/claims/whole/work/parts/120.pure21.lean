/-! several: two the same, or four in a line -/
theorem i3z {a b c : Prop} [Decidable a] [Decidable b] [Decidable c] (X : Int32) : (if a then if b then if c then (1 : Int32) else X else X else X) = 0 ↔ ¬ (a ∧ b ∧ c) ∧ X = 0 := by
  by_cases ha : a
  · by_cases hb : b
    · by_cases hc : c
      · rw [if_pos ha, if_pos hb, if_pos hc]
        exact ⟨fun q => absurd q pu_10, fun q => absurd ⟨ha, hb, hc⟩ q.1⟩
      · rw [if_pos ha, if_pos hb, if_neg hc]
        exact ⟨fun q => ⟨fun t => hc t.2.2, q⟩, fun q => q.2⟩
    · rw [if_pos ha, if_neg hb]
      exact ⟨fun q => ⟨fun t => hb t.2.1, q⟩, fun q => q.2⟩
  · rw [if_neg ha]
    exact ⟨fun q => ⟨fun t => ha t.1, q⟩, fun q => q.2⟩
theorem i4z {a b c d : Prop} [Decidable a] [Decidable b] [Decidable c] [Decidable d] (X : Int32) : (if a then if b then if c then if d then (1 : Int32) else X else X else X else X) = 0 ↔ ¬ (a ∧ b ∧ c ∧ d) ∧ X = 0 := by
  by_cases ha : a
  · by_cases hb : b
    · by_cases hc : c
      · by_cases hd : d
        · rw [if_pos ha, if_pos hb, if_pos hc, if_pos hd]
          exact ⟨fun q => absurd q pu_10, fun q => absurd ⟨ha, hb, hc, hd⟩ q.1⟩
        · rw [if_pos ha, if_pos hb, if_pos hc, if_neg hd]
          exact ⟨fun q => ⟨fun t => hd t.2.2.2, q⟩, fun q => q.2⟩
      · rw [if_pos ha, if_pos hb, if_neg hc]
        exact ⟨fun q => ⟨fun t => hc t.2.2.1, q⟩, fun q => q.2⟩
    · rw [if_pos ha, if_neg hb]
      exact ⟨fun q => ⟨fun t => hb t.2.1, q⟩, fun q => q.2⟩
  · rw [if_neg ha]
    exact ⟨fun q => ⟨fun t => ha t.1, q⟩, fun q => q.2⟩
/-- (a = 0) then X else if (b = 0) then X else 1 -/
theorem i2z {a b X : Int32} : (if a = 0 then X else if b = 0 then X else (1 : Int32)) = 0 ↔ ¬ (¬ a = 0 ∧ ¬ b = 0) ∧ X = 0 := by
  by_cases ha : a = 0
  · rw [if_pos ha]
    exact ⟨fun q => ⟨fun t => t.1 ha, q⟩, fun q => q.2⟩
  · by_cases hb : b = 0
    · rw [if_neg ha, if_pos hb]
      exact ⟨fun q => ⟨fun t => t.2 hb, q⟩, fun q => q.2⟩
    · rw [if_neg ha, if_neg hb]
      exact ⟨fun q => absurd q pu_10, fun q => absurd ⟨ha, hb⟩ q.1⟩
theorem i1z {a X : Int32} : (if a = 0 then X else (1 : Int32)) = 0 ↔ a = 0 ∧ X = 0 := by
  by_cases ha : a = 0
  · rw [if_pos ha]
    exact ⟨fun q => ⟨ha, q⟩, fun q => q.2⟩
  · rw [if_neg ha]
    exact ⟨fun q => absurd q pu_10, fun q => absurd q.1 ha⟩
def sm (gp : Nat → Int32) (i j : Int32) : Prop := gp ((3 * i + 0).toNatClampNeg) = gp ((3 * j + 0).toNatClampNeg) ∧ gp ((3 * i + 1).toNatClampNeg) = gp ((3 * j + 1).toNatClampNeg) ∧ gp ((3 * i + 2).toNatClampNeg) = gp ((3 * j + 2).toNatClampNeg)
theorem sm_sym {gp : Nat → Int32} {i j : Int32} (h : sm gp i j) : sm gp j i := ⟨h.1.symm, h.2.1.symm, h.2.2.symm⟩
def dt (gp : Nat → Int32) (i j k : Int32) : Int64 := r3 gp i 0 * (r3 gp j 1 * r3 gp k 2 - r3 gp j 2 * r3 gp k 1) + r3 gp i 1 * (r3 gp j 2 * r3 gp k 0 - r3 gp j 0 * r3 gp k 2) + r3 gp i 2 * (r3 gp j 0 * r3 gp k 1 - r3 gp j 1 * r3 gp k 0)
theorem as_sm {gp : Nat → Int32} {n i j : Int32} (hi : ¬ z2_has n i = 0) (hj : ¬ z2_has n j = 0) : z2_areSame n i j gp = 0 ↔ ¬ sm gp i j := by
  unfold z2_areSame
  rw [pu_get3 hi (by decide) (by decide), pu_get3 hi (by decide) (by decide), pu_get3 hi (by decide) (by decide), pu_get3 hj (by decide) (by decide), pu_get3 hj (by decide) (by decide), pu_get3 hj (by decide) (by decide), i3z]
  exact ⟨fun q => q.1, fun q => ⟨q, rfl⟩⟩
theorem on_dt {gp : Nat → Int32} {n i j k : Int32} (hi : ¬ z2_has n i = 0) (hj : ¬ z2_has n j = 0) (hk : ¬ z2_has n k = 0) : ¬ z4_isOnSecond n gp (z4_setLineOf_x n gp i j) (z4_setLineOf_y n gp i j) (z4_setLineOf_z n gp i j) k = 0 ↔ dt gp i j k = 0 := by
  have e : z3_times (z4_setLineOf_x n gp i j) (z4_setLineOf_y n gp i j) (z4_setLineOf_z n gp i j) (z3_read_x 3 n k gp) (z3_read_y 3 n k gp) (z3_read_z 3 n k gp) = dt gp i j k := by
    simp only [z4_setLineOf_x, z4_setLineOf_y, z4_setLineOf_z, rd3_x hi, rd3_y hi, rd3_z hi, rd3_x hj, rd3_y hj, rd3_z hj, rd3_x hk, rd3_y hk, rd3_z hk, z3_setAcross_x, z3_setAcross_y, z3_setAcross_z, z3_times, dt]
    grind
  unfold z4_isOnSecond
  rw [e]
  by_cases q : dt gp i j k = 0
  · rw [if_pos q]
    exact ⟨fun _ => q, fun _ => pu_10⟩
  · rw [if_neg q]
    exact ⟨fun t => absurd rfl t, fun t => absurd t q⟩
theorem spd_012 (gp gv : Nat → Int32) (i j k m t : Int32) : z5_spreadOf gp (upd (upd (upd (upd (upd gv 0 i) 1 j) 2 k) 3 m) 4 t) 0 1 2 = dt gp i j k := by
  have h : z5_spreadOf gp (upd (upd (upd (upd (upd gv 0 i) 1 j) 2 k) 3 m) 4 t) 0 1 2 = 0 + (gp ((3 * i + 0).toNatClampNeg)).toInt64 * ((gp ((3 * j + 1).toNatClampNeg)).toInt64 * (gp ((3 * k + 2).toNatClampNeg)).toInt64 - (gp ((3 * j + 2).toNatClampNeg)).toInt64 * (gp ((3 * k + 1).toNatClampNeg)).toInt64) + (gp ((3 * i + 1).toNatClampNeg)).toInt64 * ((gp ((3 * j + 2).toNatClampNeg)).toInt64 * (gp ((3 * k + 0).toNatClampNeg)).toInt64 - (gp ((3 * j + 0).toNatClampNeg)).toInt64 * (gp ((3 * k + 2).toNatClampNeg)).toInt64) + (gp ((3 * i + 2).toNatClampNeg)).toInt64 * ((gp ((3 * j + 0).toNatClampNeg)).toInt64 * (gp ((3 * k + 1).toNatClampNeg)).toInt64 - (gp ((3 * j + 1).toNatClampNeg)).toInt64 * (gp ((3 * k + 0).toNatClampNeg)).toInt64) := rfl
  rw [h, Int64.zero_add]
  rfl
theorem spd_013 (gp gv : Nat → Int32) (i j k m t : Int32) : z5_spreadOf gp (upd (upd (upd (upd (upd gv 0 i) 1 j) 2 k) 3 m) 4 t) 0 1 3 = dt gp i j m := by
  have h : z5_spreadOf gp (upd (upd (upd (upd (upd gv 0 i) 1 j) 2 k) 3 m) 4 t) 0 1 3 = 0 + (gp ((3 * i + 0).toNatClampNeg)).toInt64 * ((gp ((3 * j + 1).toNatClampNeg)).toInt64 * (gp ((3 * m + 2).toNatClampNeg)).toInt64 - (gp ((3 * j + 2).toNatClampNeg)).toInt64 * (gp ((3 * m + 1).toNatClampNeg)).toInt64) + (gp ((3 * i + 1).toNatClampNeg)).toInt64 * ((gp ((3 * j + 2).toNatClampNeg)).toInt64 * (gp ((3 * m + 0).toNatClampNeg)).toInt64 - (gp ((3 * j + 0).toNatClampNeg)).toInt64 * (gp ((3 * m + 2).toNatClampNeg)).toInt64) + (gp ((3 * i + 2).toNatClampNeg)).toInt64 * ((gp ((3 * j + 0).toNatClampNeg)).toInt64 * (gp ((3 * m + 1).toNatClampNeg)).toInt64 - (gp ((3 * j + 1).toNatClampNeg)).toInt64 * (gp ((3 * m + 0).toNatClampNeg)).toInt64) := rfl
  rw [h, Int64.zero_add]
  rfl
theorem spd_023 (gp gv : Nat → Int32) (i j k m t : Int32) : z5_spreadOf gp (upd (upd (upd (upd (upd gv 0 i) 1 j) 2 k) 3 m) 4 t) 0 2 3 = dt gp i k m := by
  have h : z5_spreadOf gp (upd (upd (upd (upd (upd gv 0 i) 1 j) 2 k) 3 m) 4 t) 0 2 3 = 0 + (gp ((3 * i + 0).toNatClampNeg)).toInt64 * ((gp ((3 * k + 1).toNatClampNeg)).toInt64 * (gp ((3 * m + 2).toNatClampNeg)).toInt64 - (gp ((3 * k + 2).toNatClampNeg)).toInt64 * (gp ((3 * m + 1).toNatClampNeg)).toInt64) + (gp ((3 * i + 1).toNatClampNeg)).toInt64 * ((gp ((3 * k + 2).toNatClampNeg)).toInt64 * (gp ((3 * m + 0).toNatClampNeg)).toInt64 - (gp ((3 * k + 0).toNatClampNeg)).toInt64 * (gp ((3 * m + 2).toNatClampNeg)).toInt64) + (gp ((3 * i + 2).toNatClampNeg)).toInt64 * ((gp ((3 * k + 0).toNatClampNeg)).toInt64 * (gp ((3 * m + 1).toNatClampNeg)).toInt64 - (gp ((3 * k + 1).toNatClampNeg)).toInt64 * (gp ((3 * m + 0).toNatClampNeg)).toInt64) := rfl
  rw [h, Int64.zero_add]
  rfl
theorem spd_123 (gp gv : Nat → Int32) (i j k m t : Int32) : z5_spreadOf gp (upd (upd (upd (upd (upd gv 0 i) 1 j) 2 k) 3 m) 4 t) 1 2 3 = dt gp j k m := by
  have h : z5_spreadOf gp (upd (upd (upd (upd (upd gv 0 i) 1 j) 2 k) 3 m) 4 t) 1 2 3 = 0 + (gp ((3 * j + 0).toNatClampNeg)).toInt64 * ((gp ((3 * k + 1).toNatClampNeg)).toInt64 * (gp ((3 * m + 2).toNatClampNeg)).toInt64 - (gp ((3 * k + 2).toNatClampNeg)).toInt64 * (gp ((3 * m + 1).toNatClampNeg)).toInt64) + (gp ((3 * j + 1).toNatClampNeg)).toInt64 * ((gp ((3 * k + 2).toNatClampNeg)).toInt64 * (gp ((3 * m + 0).toNatClampNeg)).toInt64 - (gp ((3 * k + 0).toNatClampNeg)).toInt64 * (gp ((3 * m + 2).toNatClampNeg)).toInt64) + (gp ((3 * j + 2).toNatClampNeg)).toInt64 * ((gp ((3 * k + 0).toNatClampNeg)).toInt64 * (gp ((3 * m + 1).toNatClampNeg)).toInt64 - (gp ((3 * k + 1).toNatClampNeg)).toInt64 * (gp ((3 * m + 0).toNatClampNeg)).toInt64) := rfl
  rw [h, Int64.zero_add]
  rfl
theorem spd_124 (gp gv : Nat → Int32) (i j k m t : Int32) : z5_spreadOf gp (upd (upd (upd (upd (upd gv 0 i) 1 j) 2 k) 3 m) 4 t) 1 2 4 = dt gp j k t := by
  have h : z5_spreadOf gp (upd (upd (upd (upd (upd gv 0 i) 1 j) 2 k) 3 m) 4 t) 1 2 4 = 0 + (gp ((3 * j + 0).toNatClampNeg)).toInt64 * ((gp ((3 * k + 1).toNatClampNeg)).toInt64 * (gp ((3 * t + 2).toNatClampNeg)).toInt64 - (gp ((3 * k + 2).toNatClampNeg)).toInt64 * (gp ((3 * t + 1).toNatClampNeg)).toInt64) + (gp ((3 * j + 1).toNatClampNeg)).toInt64 * ((gp ((3 * k + 2).toNatClampNeg)).toInt64 * (gp ((3 * t + 0).toNatClampNeg)).toInt64 - (gp ((3 * k + 0).toNatClampNeg)).toInt64 * (gp ((3 * t + 2).toNatClampNeg)).toInt64) + (gp ((3 * j + 2).toNatClampNeg)).toInt64 * ((gp ((3 * k + 0).toNatClampNeg)).toInt64 * (gp ((3 * t + 1).toNatClampNeg)).toInt64 - (gp ((3 * k + 1).toNatClampNeg)).toInt64 * (gp ((3 * t + 0).toNatClampNeg)).toInt64) := rfl
  rw [h, Int64.zero_add]
  rfl
theorem spd_134 (gp gv : Nat → Int32) (i j k m t : Int32) : z5_spreadOf gp (upd (upd (upd (upd (upd gv 0 i) 1 j) 2 k) 3 m) 4 t) 1 3 4 = dt gp j m t := by
  have h : z5_spreadOf gp (upd (upd (upd (upd (upd gv 0 i) 1 j) 2 k) 3 m) 4 t) 1 3 4 = 0 + (gp ((3 * j + 0).toNatClampNeg)).toInt64 * ((gp ((3 * m + 1).toNatClampNeg)).toInt64 * (gp ((3 * t + 2).toNatClampNeg)).toInt64 - (gp ((3 * m + 2).toNatClampNeg)).toInt64 * (gp ((3 * t + 1).toNatClampNeg)).toInt64) + (gp ((3 * j + 1).toNatClampNeg)).toInt64 * ((gp ((3 * m + 2).toNatClampNeg)).toInt64 * (gp ((3 * t + 0).toNatClampNeg)).toInt64 - (gp ((3 * m + 0).toNatClampNeg)).toInt64 * (gp ((3 * t + 2).toNatClampNeg)).toInt64) + (gp ((3 * j + 2).toNatClampNeg)).toInt64 * ((gp ((3 * m + 0).toNatClampNeg)).toInt64 * (gp ((3 * t + 1).toNatClampNeg)).toInt64 - (gp ((3 * m + 1).toNatClampNeg)).toInt64 * (gp ((3 * t + 0).toNatClampNeg)).toInt64) := rfl
  rw [h, Int64.zero_add]
  rfl
theorem spd_230 (gp gv : Nat → Int32) (i j k m t : Int32) : z5_spreadOf gp (upd (upd (upd (upd (upd gv 0 i) 1 j) 2 k) 3 m) 4 t) 2 3 0 = dt gp k m i := by
  have h : z5_spreadOf gp (upd (upd (upd (upd (upd gv 0 i) 1 j) 2 k) 3 m) 4 t) 2 3 0 = 0 + (gp ((3 * k + 0).toNatClampNeg)).toInt64 * ((gp ((3 * m + 1).toNatClampNeg)).toInt64 * (gp ((3 * i + 2).toNatClampNeg)).toInt64 - (gp ((3 * m + 2).toNatClampNeg)).toInt64 * (gp ((3 * i + 1).toNatClampNeg)).toInt64) + (gp ((3 * k + 1).toNatClampNeg)).toInt64 * ((gp ((3 * m + 2).toNatClampNeg)).toInt64 * (gp ((3 * i + 0).toNatClampNeg)).toInt64 - (gp ((3 * m + 0).toNatClampNeg)).toInt64 * (gp ((3 * i + 2).toNatClampNeg)).toInt64) + (gp ((3 * k + 2).toNatClampNeg)).toInt64 * ((gp ((3 * m + 0).toNatClampNeg)).toInt64 * (gp ((3 * i + 1).toNatClampNeg)).toInt64 - (gp ((3 * m + 1).toNatClampNeg)).toInt64 * (gp ((3 * i + 0).toNatClampNeg)).toInt64) := rfl
  rw [h, Int64.zero_add]
  rfl
theorem spd_234 (gp gv : Nat → Int32) (i j k m t : Int32) : z5_spreadOf gp (upd (upd (upd (upd (upd gv 0 i) 1 j) 2 k) 3 m) 4 t) 2 3 4 = dt gp k m t := by
  have h : z5_spreadOf gp (upd (upd (upd (upd (upd gv 0 i) 1 j) 2 k) 3 m) 4 t) 2 3 4 = 0 + (gp ((3 * k + 0).toNatClampNeg)).toInt64 * ((gp ((3 * m + 1).toNatClampNeg)).toInt64 * (gp ((3 * t + 2).toNatClampNeg)).toInt64 - (gp ((3 * m + 2).toNatClampNeg)).toInt64 * (gp ((3 * t + 1).toNatClampNeg)).toInt64) + (gp ((3 * k + 1).toNatClampNeg)).toInt64 * ((gp ((3 * m + 2).toNatClampNeg)).toInt64 * (gp ((3 * t + 0).toNatClampNeg)).toInt64 - (gp ((3 * m + 0).toNatClampNeg)).toInt64 * (gp ((3 * t + 2).toNatClampNeg)).toInt64) + (gp ((3 * k + 2).toNatClampNeg)).toInt64 * ((gp ((3 * m + 0).toNatClampNeg)).toInt64 * (gp ((3 * t + 1).toNatClampNeg)).toInt64 - (gp ((3 * m + 1).toNatClampNeg)).toInt64 * (gp ((3 * t + 0).toNatClampNeg)).toInt64) := rfl
  rw [h, Int64.zero_add]
  rfl
theorem spd_240 (gp gv : Nat → Int32) (i j k m t : Int32) : z5_spreadOf gp (upd (upd (upd (upd (upd gv 0 i) 1 j) 2 k) 3 m) 4 t) 2 4 0 = dt gp k t i := by
  have h : z5_spreadOf gp (upd (upd (upd (upd (upd gv 0 i) 1 j) 2 k) 3 m) 4 t) 2 4 0 = 0 + (gp ((3 * k + 0).toNatClampNeg)).toInt64 * ((gp ((3 * t + 1).toNatClampNeg)).toInt64 * (gp ((3 * i + 2).toNatClampNeg)).toInt64 - (gp ((3 * t + 2).toNatClampNeg)).toInt64 * (gp ((3 * i + 1).toNatClampNeg)).toInt64) + (gp ((3 * k + 1).toNatClampNeg)).toInt64 * ((gp ((3 * t + 2).toNatClampNeg)).toInt64 * (gp ((3 * i + 0).toNatClampNeg)).toInt64 - (gp ((3 * t + 0).toNatClampNeg)).toInt64 * (gp ((3 * i + 2).toNatClampNeg)).toInt64) + (gp ((3 * k + 2).toNatClampNeg)).toInt64 * ((gp ((3 * t + 0).toNatClampNeg)).toInt64 * (gp ((3 * i + 1).toNatClampNeg)).toInt64 - (gp ((3 * t + 1).toNatClampNeg)).toInt64 * (gp ((3 * i + 0).toNatClampNeg)).toInt64) := rfl
  rw [h, Int64.zero_add]
  rfl
theorem spd_301 (gp gv : Nat → Int32) (i j k m t : Int32) : z5_spreadOf gp (upd (upd (upd (upd (upd gv 0 i) 1 j) 2 k) 3 m) 4 t) 3 0 1 = dt gp m i j := by
  have h : z5_spreadOf gp (upd (upd (upd (upd (upd gv 0 i) 1 j) 2 k) 3 m) 4 t) 3 0 1 = 0 + (gp ((3 * m + 0).toNatClampNeg)).toInt64 * ((gp ((3 * i + 1).toNatClampNeg)).toInt64 * (gp ((3 * j + 2).toNatClampNeg)).toInt64 - (gp ((3 * i + 2).toNatClampNeg)).toInt64 * (gp ((3 * j + 1).toNatClampNeg)).toInt64) + (gp ((3 * m + 1).toNatClampNeg)).toInt64 * ((gp ((3 * i + 2).toNatClampNeg)).toInt64 * (gp ((3 * j + 0).toNatClampNeg)).toInt64 - (gp ((3 * i + 0).toNatClampNeg)).toInt64 * (gp ((3 * j + 2).toNatClampNeg)).toInt64) + (gp ((3 * m + 2).toNatClampNeg)).toInt64 * ((gp ((3 * i + 0).toNatClampNeg)).toInt64 * (gp ((3 * j + 1).toNatClampNeg)).toInt64 - (gp ((3 * i + 1).toNatClampNeg)).toInt64 * (gp ((3 * j + 0).toNatClampNeg)).toInt64) := rfl
  rw [h, Int64.zero_add]
  rfl
theorem spd_340 (gp gv : Nat → Int32) (i j k m t : Int32) : z5_spreadOf gp (upd (upd (upd (upd (upd gv 0 i) 1 j) 2 k) 3 m) 4 t) 3 4 0 = dt gp m t i := by
  have h : z5_spreadOf gp (upd (upd (upd (upd (upd gv 0 i) 1 j) 2 k) 3 m) 4 t) 3 4 0 = 0 + (gp ((3 * m + 0).toNatClampNeg)).toInt64 * ((gp ((3 * t + 1).toNatClampNeg)).toInt64 * (gp ((3 * i + 2).toNatClampNeg)).toInt64 - (gp ((3 * t + 2).toNatClampNeg)).toInt64 * (gp ((3 * i + 1).toNatClampNeg)).toInt64) + (gp ((3 * m + 1).toNatClampNeg)).toInt64 * ((gp ((3 * t + 2).toNatClampNeg)).toInt64 * (gp ((3 * i + 0).toNatClampNeg)).toInt64 - (gp ((3 * t + 0).toNatClampNeg)).toInt64 * (gp ((3 * i + 2).toNatClampNeg)).toInt64) + (gp ((3 * m + 2).toNatClampNeg)).toInt64 * ((gp ((3 * t + 0).toNatClampNeg)).toInt64 * (gp ((3 * i + 1).toNatClampNeg)).toInt64 - (gp ((3 * t + 1).toNatClampNeg)).toInt64 * (gp ((3 * i + 0).toNatClampNeg)).toInt64) := rfl
  rw [h, Int64.zero_add]
  rfl
theorem spd_341 (gp gv : Nat → Int32) (i j k m t : Int32) : z5_spreadOf gp (upd (upd (upd (upd (upd gv 0 i) 1 j) 2 k) 3 m) 4 t) 3 4 1 = dt gp m t j := by
  have h : z5_spreadOf gp (upd (upd (upd (upd (upd gv 0 i) 1 j) 2 k) 3 m) 4 t) 3 4 1 = 0 + (gp ((3 * m + 0).toNatClampNeg)).toInt64 * ((gp ((3 * t + 1).toNatClampNeg)).toInt64 * (gp ((3 * j + 2).toNatClampNeg)).toInt64 - (gp ((3 * t + 2).toNatClampNeg)).toInt64 * (gp ((3 * j + 1).toNatClampNeg)).toInt64) + (gp ((3 * m + 1).toNatClampNeg)).toInt64 * ((gp ((3 * t + 2).toNatClampNeg)).toInt64 * (gp ((3 * j + 0).toNatClampNeg)).toInt64 - (gp ((3 * t + 0).toNatClampNeg)).toInt64 * (gp ((3 * j + 2).toNatClampNeg)).toInt64) + (gp ((3 * m + 2).toNatClampNeg)).toInt64 * ((gp ((3 * t + 0).toNatClampNeg)).toInt64 * (gp ((3 * j + 1).toNatClampNeg)).toInt64 - (gp ((3 * t + 1).toNatClampNeg)).toInt64 * (gp ((3 * j + 0).toNatClampNeg)).toInt64) := rfl
  rw [h, Int64.zero_add]
  rfl
theorem spd_401 (gp gv : Nat → Int32) (i j k m t : Int32) : z5_spreadOf gp (upd (upd (upd (upd (upd gv 0 i) 1 j) 2 k) 3 m) 4 t) 4 0 1 = dt gp t i j := by
  have h : z5_spreadOf gp (upd (upd (upd (upd (upd gv 0 i) 1 j) 2 k) 3 m) 4 t) 4 0 1 = 0 + (gp ((3 * t + 0).toNatClampNeg)).toInt64 * ((gp ((3 * i + 1).toNatClampNeg)).toInt64 * (gp ((3 * j + 2).toNatClampNeg)).toInt64 - (gp ((3 * i + 2).toNatClampNeg)).toInt64 * (gp ((3 * j + 1).toNatClampNeg)).toInt64) + (gp ((3 * t + 1).toNatClampNeg)).toInt64 * ((gp ((3 * i + 2).toNatClampNeg)).toInt64 * (gp ((3 * j + 0).toNatClampNeg)).toInt64 - (gp ((3 * i + 0).toNatClampNeg)).toInt64 * (gp ((3 * j + 2).toNatClampNeg)).toInt64) + (gp ((3 * t + 2).toNatClampNeg)).toInt64 * ((gp ((3 * i + 0).toNatClampNeg)).toInt64 * (gp ((3 * j + 1).toNatClampNeg)).toInt64 - (gp ((3 * i + 1).toNatClampNeg)).toInt64 * (gp ((3 * j + 0).toNatClampNeg)).toInt64) := rfl
  rw [h, Int64.zero_add]
  rfl
theorem spd_402 (gp gv : Nat → Int32) (i j k m t : Int32) : z5_spreadOf gp (upd (upd (upd (upd (upd gv 0 i) 1 j) 2 k) 3 m) 4 t) 4 0 2 = dt gp t i k := by
  have h : z5_spreadOf gp (upd (upd (upd (upd (upd gv 0 i) 1 j) 2 k) 3 m) 4 t) 4 0 2 = 0 + (gp ((3 * t + 0).toNatClampNeg)).toInt64 * ((gp ((3 * i + 1).toNatClampNeg)).toInt64 * (gp ((3 * k + 2).toNatClampNeg)).toInt64 - (gp ((3 * i + 2).toNatClampNeg)).toInt64 * (gp ((3 * k + 1).toNatClampNeg)).toInt64) + (gp ((3 * t + 1).toNatClampNeg)).toInt64 * ((gp ((3 * i + 2).toNatClampNeg)).toInt64 * (gp ((3 * k + 0).toNatClampNeg)).toInt64 - (gp ((3 * i + 0).toNatClampNeg)).toInt64 * (gp ((3 * k + 2).toNatClampNeg)).toInt64) + (gp ((3 * t + 2).toNatClampNeg)).toInt64 * ((gp ((3 * i + 0).toNatClampNeg)).toInt64 * (gp ((3 * k + 1).toNatClampNeg)).toInt64 - (gp ((3 * i + 1).toNatClampNeg)).toInt64 * (gp ((3 * k + 0).toNatClampNeg)).toInt64) := rfl
  rw [h, Int64.zero_add]
  rfl
theorem spd_412 (gp gv : Nat → Int32) (i j k m t : Int32) : z5_spreadOf gp (upd (upd (upd (upd (upd gv 0 i) 1 j) 2 k) 3 m) 4 t) 4 1 2 = dt gp t j k := by
  have h : z5_spreadOf gp (upd (upd (upd (upd (upd gv 0 i) 1 j) 2 k) 3 m) 4 t) 4 1 2 = 0 + (gp ((3 * t + 0).toNatClampNeg)).toInt64 * ((gp ((3 * j + 1).toNatClampNeg)).toInt64 * (gp ((3 * k + 2).toNatClampNeg)).toInt64 - (gp ((3 * j + 2).toNatClampNeg)).toInt64 * (gp ((3 * k + 1).toNatClampNeg)).toInt64) + (gp ((3 * t + 1).toNatClampNeg)).toInt64 * ((gp ((3 * j + 2).toNatClampNeg)).toInt64 * (gp ((3 * k + 0).toNatClampNeg)).toInt64 - (gp ((3 * j + 0).toNatClampNeg)).toInt64 * (gp ((3 * k + 2).toNatClampNeg)).toInt64) + (gp ((3 * t + 2).toNatClampNeg)).toInt64 * ((gp ((3 * j + 0).toNatClampNeg)).toInt64 * (gp ((3 * k + 1).toNatClampNeg)).toInt64 - (gp ((3 * j + 1).toNatClampNeg)).toInt64 * (gp ((3 * k + 0).toNatClampNeg)).toInt64) := rfl
  rw [h, Int64.zero_add]
  rfl
set_option maxHeartbeats 2000000 in
theorem sev_iff (gp gv : Nat → Int32) (i j k m t : Int32) : z5_areSeveral gp (upd (upd (upd (upd (upd gv 0 i) 1 j) 2 k) 3 m) 4 t) = 0 ↔ ¬ (dt gp j k m = 0 ∧ dt gp j k t = 0 ∧ dt gp k m t = 0 ∧ dt gp j m t = 0) ∧ ¬ sm gp j i ∧ ¬ (dt gp k m t = 0 ∧ dt gp k m i = 0 ∧ dt gp m t i = 0 ∧ dt gp k t i = 0) ∧ ¬ sm gp k i ∧ ¬ sm gp k j ∧ ¬ (dt gp m t i = 0 ∧ dt gp m t j = 0 ∧ dt gp t i j = 0 ∧ dt gp m i j = 0) ∧ ¬ sm gp m i ∧ ¬ sm gp m j ∧ ¬ sm gp m k ∧ ¬ (dt gp t i j = 0 ∧ dt gp t i k = 0 ∧ dt gp i j k = 0 ∧ dt gp t j k = 0) ∧ ¬ sm gp t i ∧ ¬ sm gp t j ∧ ¬ sm gp t k ∧ ¬ sm gp t m ∧ ¬ (dt gp i j k = 0 ∧ dt gp i j m = 0 ∧ dt gp j k m = 0 ∧ dt gp i k m = 0) ∧ (0 : Int32) = 0 := by
  unfold z5_areSeveral
  rw [i4z, spd_123, spd_124, spd_234, spd_134]
  refine and_congr Iff.rfl ?_
  unfold z5_areSeveral_j1
  rw [i3z]
  refine and_congr Iff.rfl ?_
  unfold z5_areSeveral_j2
  rw [i4z, spd_234, spd_230, spd_340, spd_240]
  refine and_congr Iff.rfl ?_
  unfold z5_areSeveral_j3
  rw [i3z]
  refine and_congr Iff.rfl ?_
  unfold z5_areSeveral_j4
  rw [i3z]
  refine and_congr Iff.rfl ?_
  unfold z5_areSeveral_j5
  rw [i4z, spd_340, spd_341, spd_401, spd_301]
  refine and_congr Iff.rfl ?_
  unfold z5_areSeveral_j6
  rw [i3z]
  refine and_congr Iff.rfl ?_
  unfold z5_areSeveral_j7
  rw [i3z]
  refine and_congr Iff.rfl ?_
  unfold z5_areSeveral_j8
  rw [i3z]
  refine and_congr Iff.rfl ?_
  unfold z5_areSeveral_j9
  rw [i4z, spd_401, spd_402, spd_012, spd_412]
  refine and_congr Iff.rfl ?_
  unfold z5_areSeveral_j10
  rw [i3z]
  refine and_congr Iff.rfl ?_
  unfold z5_areSeveral_j11
  rw [i3z]
  refine and_congr Iff.rfl ?_
  unfold z5_areSeveral_j12
  rw [i3z]
  refine and_congr Iff.rfl ?_
  unfold z5_areSeveral_j13
  rw [i3z]
  refine and_congr Iff.rfl ?_
  unfold z5_areSeveral_j14
  rw [i4z, spd_012, spd_013, spd_123, spd_023]
  refine and_congr Iff.rfl ?_
  exact Iff.rfl
theorem two_iff (gp gr : Nat → Int32) (n i j k m t : Int32) (hi : ¬ z2_has n i = 0) (hj : ¬ z2_has n j = 0) (hk : ¬ z2_has n k = 0) (hm : ¬ z2_has n m = 0) (ht : ¬ z2_has n t = 0) : z4_twoCornersAreSame n gp (upd (upd (upd (upd (upd gr 0 i) 1 j) 2 k) 3 m) 4 t) = 0 ↔ ¬ sm gp i j ∧ ¬ sm gp i k ∧ ¬ sm gp i m ∧ ¬ sm gp i t ∧ ¬ sm gp j k ∧ ¬ sm gp j m ∧ ¬ sm gp j t ∧ ¬ sm gp k m ∧ ¬ sm gp k t ∧ ¬ sm gp m t ∧ (0 : Int32) = 0 := by
  have e : z4_twoCornersAreSame n gp (upd (upd (upd (upd (upd gr 0 i) 1 j) 2 k) 3 m) 4 t) = (if z2_areSame n i j gp = 0 then (if z2_areSame n i k gp = 0 then (if z2_areSame n i m gp = 0 then (if z2_areSame n i t gp = 0 then (if z2_areSame n j k gp = 0 then (if z2_areSame n j m gp = 0 then (if z2_areSame n j t gp = 0 then (if z2_areSame n k m gp = 0 then (if z2_areSame n k t gp = 0 then (if z2_areSame n m t gp = 0 then 0 else 1) else 1) else 1) else 1) else 1) else 1) else 1) else 1) else 1) else 1) := rfl
  rw [e, i1z, as_sm hi hj, i1z, as_sm hi hk, i1z, as_sm hi hm, i1z, as_sm hi ht, i1z, as_sm hj hk, i1z, as_sm hj hm, i1z, as_sm hj ht, i1z, as_sm hk hm, i1z, as_sm hk ht, i1z, as_sm hm ht]
theorem four_iff (gp gr : Nat → Int32) (n i j k m t : Int32) (hi : ¬ z2_has n i = 0) (hj : ¬ z2_has n j = 0) (hk : ¬ z2_has n k = 0) (hm : ¬ z2_has n m = 0) (ht : ¬ z2_has n t = 0) : z4_fourCornersAreInLine n gp (upd (upd (upd (upd (upd gr 0 i) 1 j) 2 k) 3 m) 4 t) = 0 ↔ ¬ (dt gp j k m = 0 ∧ dt gp j k t = 0) ∧ ¬ (dt gp k m t = 0 ∧ dt gp k m i = 0) ∧ ¬ (dt gp m t i = 0 ∧ dt gp m t j = 0) ∧ ¬ (dt gp t i j = 0 ∧ dt gp t i k = 0) ∧ ¬ (dt gp i j k = 0 ∧ dt gp i j m = 0) ∧ (0 : Int32) = 0 := by
  unfold z4_fourCornersAreInLine
  rw [i2z]
  refine and_congr (not_congr (and_congr (on_dt hj hk hm) (on_dt hj hk ht))) ?_
  unfold z4_fourCornersAreInLine_j1
  rw [i2z]
  refine and_congr (not_congr (and_congr (on_dt hk hm ht) (on_dt hk hm hi))) ?_
  unfold z4_fourCornersAreInLine_j2
  rw [i2z]
  refine and_congr (not_congr (and_congr (on_dt hm ht hi) (on_dt hm ht hj))) ?_
  unfold z4_fourCornersAreInLine_j3
  rw [i2z]
  refine and_congr (not_congr (and_congr (on_dt ht hi hj) (on_dt ht hi hk))) ?_
  unfold z4_fourCornersAreInLine_j4
  rw [i2z]
  refine and_congr (not_congr (and_congr (on_dt hi hj hk) (on_dt hi hj hm))) ?_
  exact Iff.rfl
def dti (a0 a1 a2 b0 b1 b2 c0 c1 c2 : Int) : Int := a0 * (b1 * c2 - b2 * c1) + a1 * (b2 * c0 - b0 * c2) + a2 * (b0 * c1 - b1 * c0)
theorem dt_z {g : Nat → Int32} {n i j k : Int32} (bp : b500 g 3 n) (hn : n_ok n) (hi : ¬ z2_has n i = 0) (hj : ¬ z2_has n j = 0) (hk : ¬ z2_has n k = 0) : dt g i j k = 0 ↔ dti (r3 g i 0).toInt (r3 g i 1).toInt (r3 g i 2).toInt (r3 g j 0).toInt (r3 g j 1).toInt (r3 g j 2).toInt (r3 g k 0).toInt (r3 g k 1).toInt (r3 g k 2).toInt = 0 := by
  have a0 := ri3_0 bp hn hi
  have a1 := ri3_1 bp hn hi
  have a2 := ri3_2 bp hn hi
  have b0 := ri3_0 bp hn hj
  have b1 := ri3_1 bp hn hj
  have b2 := ri3_2 bp hn hj
  have c0 := ri3_0 bp hn hk
  have c1 := ri3_1 bp hn hk
  have c2 := ri3_2 bp hn hk
  exact iv_z (iv_add (iv_add (iv_mul a0 (iv_sub (iv_mul b1 c2 (by decide)) (iv_mul b2 c1 (by decide)) (by decide)) (by decide)) (iv_mul a1 (iv_sub (iv_mul b2 c0 (by decide)) (iv_mul b0 c2 (by decide)) (by decide)) (by decide)) (by decide)) (iv_mul a2 (iv_sub (iv_mul b0 c1 (by decide)) (iv_mul b1 c0 (by decide)) (by decide)) (by decide)) (by decide))
theorem sm_of {g : Nat → Int32} {n i j : Int32} (nk : nk3 g n) (hi : ¬ z2_has n i = 0) (hj : ¬ z2_has n j = 0) (p : par (r3 g i 0).toInt (r3 g i 1).toInt (r3 g i 2).toInt (r3 g j 0).toInt (r3 g j 1).toInt (r3 g j 2).toInt) : sm g i j := by
  obtain ⟨e0, e1, e2⟩ := par_uniq (nk i hi) (nk j hj) p
  unfold r3 at e0 e1 e2
  rw [i32_64, i32_64] at e0 e1 e2
  exact ⟨Int32.toInt_inj.mp e0, Int32.toInt_inj.mp e1, Int32.toInt_inj.mp e2⟩
/-- two of the four are not the same: the other two on their line tell all -/
theorem four_all {g : Nat → Int32} {n a b c d : Int32} (bp : b500 g 3 n) (hn : n_ok n) (nk : nk3 g n) (ha : ¬ z2_has n a = 0) (hb : ¬ z2_has n b = 0) (hc : ¬ z2_has n c = 0) (hd : ¬ z2_has n d = 0) (ns : ¬ sm g a b) (h1 : dt g a b c = 0) (h2 : dt g a b d = 0) : dt g b c d = 0 ∧ dt g a c d = 0 := by
  rw [dt_z bp hn ha hb hc] at h1
  rw [dt_z bp hn ha hb hd] at h2
  rw [dt_z bp hn hb hc hd, dt_z bp hn ha hc hd]
  have np : ¬ par (r3 g a 0).toInt (r3 g a 1).toInt (r3 g a 2).toInt (r3 g b 0).toInt (r3 g b 1).toInt (r3 g b 2).toInt := fun p => ns (sm_of nk ha hb p)
  generalize (r3 g a 0).toInt = a0 at *
  generalize (r3 g a 1).toInt = a1 at *
  generalize (r3 g a 2).toInt = a2 at *
  generalize (r3 g b 0).toInt = b0 at *
  generalize (r3 g b 1).toInt = b1 at *
  generalize (r3 g b 2).toInt = b2 at *
  generalize (r3 g c 0).toInt = c0 at *
  generalize (r3 g c 1).toInt = c1 at *
  generalize (r3 g c 2).toInt = c2 at *
  generalize (r3 g d 0).toInt = d0 at *
  generalize (r3 g d 1).toInt = d1 at *
  generalize (r3 g d 2).toInt = d2 at *
  unfold dti at *
  have key : ∀ s : Int, (a1 * b2 - a2 * b1) * s = 0 → (a2 * b0 - a0 * b2) * s = 0 → (a0 * b1 - a1 * b0) * s = 0 → s = 0 := by
    intro s q1 q2 q3
    by_cases hs : s = 0
    · exact hs
    · have w1 := mz (a := s) (by rw [Int.mul_comm]; exact q1) hs
      have w2 := mz (a := s) (by rw [Int.mul_comm]; exact q2) hs
      have w3 := mz (a := s) (by rw [Int.mul_comm]; exact q3) hs
      exact absurd ⟨by omega, by omega, by omega⟩ np
  exact ⟨key _ (by grind) (by grind) (by grind), key _ (by grind) (by grind) (by grind)⟩
theorem several (gp gv gr : Nat → Int32) (n i j k m t : Int32) (bp : b500 gp 3 n) (hn : n_ok n) (nk : nk3 gp n) (hi : ¬ z2_has n i = 0) (hj : ¬ z2_has n j = 0) (hk : ¬ z2_has n k = 0) (hm : ¬ z2_has n m = 0) (ht : ¬ z2_has n t = 0) : z5_areSeveral gp (upd (upd (upd (upd (upd gv 0 i) 1 j) 2 k) 3 m) 4 t) = 0 ↔ (z4_twoCornersAreSame n gp (upd (upd (upd (upd (upd gr 0 i) 1 j) 2 k) 3 m) 4 t) = 0 ∧ z4_fourCornersAreInLine n gp (upd (upd (upd (upd (upd gr 0 i) 1 j) 2 k) 3 m) 4 t) = 0) := by
  rw [sev_iff, two_iff gp gr n i j k m t hi hj hk hm ht, four_iff gp gr n i j k m t hi hj hk hm ht]
  have S := fun (a b : Int32) (q : ¬ sm gp a b) (p : sm gp b a) => q (sm_sym p)
  constructor
  · rintro ⟨q0, s10, q1, s20, s21, q2, s30, s31, s32, q3, s40, s41, s42, s43, q4, -⟩
    refine ⟨⟨S _ _ s10, S _ _ s20, S _ _ s30, S _ _ s40, S _ _ s21, S _ _ s31, S _ _ s41, S _ _ s32, S _ _ s42, S _ _ s43, rfl⟩, ?_, ?_, ?_, ?_, ?_, rfl⟩
    · rintro ⟨d1, d2⟩
      obtain ⟨e1, e2⟩ := four_all bp hn nk hj hk hm ht (S _ _ s21) d1 d2
      exact q0 ⟨d1, d2, e1, e2⟩
    · rintro ⟨d1, d2⟩
      obtain ⟨e1, e2⟩ := four_all bp hn nk hk hm ht hi (S _ _ s32) d1 d2
      exact q1 ⟨d1, d2, e1, e2⟩
    · rintro ⟨d1, d2⟩
      obtain ⟨e1, e2⟩ := four_all bp hn nk hm ht hi hj (S _ _ s43) d1 d2
      exact q2 ⟨d1, d2, e1, e2⟩
    · rintro ⟨d1, d2⟩
      obtain ⟨e1, e2⟩ := four_all bp hn nk ht hi hj hk s40 d1 d2
      exact q3 ⟨d1, d2, e1, e2⟩
    · rintro ⟨d1, d2⟩
      obtain ⟨e1, e2⟩ := four_all bp hn nk hi hj hk hm (S _ _ s10) d1 d2
      exact q4 ⟨d1, d2, e1, e2⟩
  · rintro ⟨⟨s01, s02, s03, s04, s12, s13, s14, s23, s24, s34, -⟩, q0, q1, q2, q3, q4, -⟩
    exact ⟨fun p => q0 ⟨p.1, p.2.1⟩, S _ _ s01, fun p => q1 ⟨p.1, p.2.1⟩, S _ _ s02, S _ _ s12, fun p => q2 ⟨p.1, p.2.1⟩, S _ _ s03, S _ _ s13, S _ _ s23, fun p => q3 ⟨p.1, p.2.1⟩, S _ _ s04, S _ _ s14, S _ _ s24, S _ _ s34, fun p => q4 ⟨p.1, p.2.1⟩, rfl⟩
