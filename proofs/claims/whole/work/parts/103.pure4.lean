/-! What is kept: the class's shelves against the reference's arrays. -/
def lf (s : Nat) (gm : Nat → Int32) (r : Int32 × Int32 × (Nat → Int32)) : Int32 × (Nat → Int32) × (Nat → Int32) := (r.1, upd gm s r.2.1, r.2.2)
theorem upd_same (g : Nat → Int32) (k : Nat) : upd g k (g k) = g := by
  funext j
  unfold upd
  by_cases c : j = k
  · rw [if_pos c, c]
  · rw [if_neg c]
theorem lf_same (s : Nat) (gm : Nat → Int32) (a : Int32) (g : Nat → Int32) : lf s gm (a, gm s, g) = (a, gm, g) := by
  show (a, upd gm s (gm s), g) = (a, gm, g)
  rw [upd_same]
theorem pu_put {w n k : Int32} {f : Nat → Int32} {x : Int64} (h : ¬ 60 ≤ n) (h1 : ¬ k < 0) (h2 : ¬ w ≤ k) : z2_put w n k f x = upd f ((w * n + k).toNatClampNeg) x.toInt32 := by
  unfold z2_put
  rw [if_neg h, if_neg h1, if_neg h2, Int32.mul_comm]
theorem pu_put60 {w n k : Int32} {f : Nat → Int32} {x : Int64} (h : 60 ≤ n) : z2_put w n k f x = f := by
  unfold z2_put
  rw [if_pos h]
theorem pu_lt60 {n : Int32} (hn : n_ok n) (c : ¬ n = 60) : n < 60 ∧ ¬ 60 ≤ n := by
  obtain ⟨h1, h2⟩ := hn
  have z6 : (60 : Int32).toInt = 60 := by decide
  have q : n.toInt ≠ 60 := by
    intro e
    apply c
    apply Int32.toInt_inj.mp
    rw [z6]
    exact e
  constructor
  · rw [Int32.lt_iff_toInt_lt, z6]
    omega
  · rw [Int32.le_iff_toInt_le, z6]
    omega
theorem pu_cl60 {n : Int32} (h : n < 60) : z2_close n = (n, n + 1) := by
  unfold z2_close
  rw [if_pos h]
  have : n + 1 - 1 = n := by
    rw [Int32.add_sub_cancel]
  rw [this]
theorem pu_clf {n : Int32} (h : ¬ n < 60) : z2_close n = (-1000005, n) := by
  unfold z2_close
  rw [if_neg h]
theorem pu_10 : ¬ (1 : Int32) = 0 := by decide
theorem pu_keepA3 (s : Nat) (gm g : Nat → Int32) (x y z : Int64) (hn : n_ok (gm s)) : (if (z5_in x (-500) 500) = 0 then ((-1000006), gm, g) else if (z5_in y (-500) 500) = 0 then ((-1000006), gm, g) else if (z5_in z (-500) 500) = 0 then ((-1000006), gm, g) else if (gm s) = 60 then ((-1000005), gm, g) else (gm s, upd gm s ((gm s) + 1), upd (upd (upd g (((3 * (gm s)) + 0).toNatClampNeg) (x.toInt32)) (((3 * (gm s)) + 1).toNatClampNeg) (y.toInt32)) (((3 * (gm s)) + 2).toNatClampNeg) (z.toInt32))) = lf s gm (if (z3_isWithin x y z 500) = 0 then ((-1000006), gm s, g) else ((z2_close (gm s)).1, (z2_close (gm s)).2, z2_put 3 (gm s) 2 (z2_put 3 (gm s) 1 (z2_put 3 (gm s) 0 g x) y) z)) := by
  unfold z3_isWithin
  rw [pu_within5, pu_within5, pu_within5]
  by_cases c0 : z5_in x (-500) 500 = 0
  · rw [if_pos c0, if_pos c0, if_pos rfl]
    exact (lf_same _ _ _ _).symm
  rw [if_neg c0, if_neg c0]
  by_cases c1 : z5_in y (-500) 500 = 0
  · rw [if_pos c1, if_pos c1, if_pos rfl]
    exact (lf_same _ _ _ _).symm
  rw [if_neg c1, if_neg c1]
  by_cases c2 : z5_in z (-500) 500 = 0
  · rw [if_pos c2, if_pos c2, if_pos rfl]
    exact (lf_same _ _ _ _).symm
  rw [if_neg c2, if_neg c2]
  rw [if_neg pu_10]
  by_cases q : gm s = 60
  · have q1 : ¬ gm s < 60 := by rw [q]; decide
    have q2 : 60 ≤ gm s := by rw [q]; decide
    rw [if_pos q, pu_clf q1, pu_put60 q2, pu_put60 q2, pu_put60 q2]
    exact (lf_same _ _ _ _).symm
  · obtain ⟨q1, q2⟩ := pu_lt60 hn q
    rw [if_neg q, pu_cl60 q1, pu_put (k := 2) q2 (by decide) (by decide), pu_put (k := 1) q2 (by decide) (by decide), pu_put (k := 0) q2 (by decide) (by decide)]
    rfl
def kt3 (n : Int32) (g : Nat → Int32) (x y z : Int64) : Int32 × Int32 × (Nat → Int32) := ((z2_keepTriple 3 n g x y z).1, (z2_keepTriple 3 n g x y z).2.1, (z2_keepTriple 3 n g x y z).2.2.1)
theorem pu_kt3 (n : Int32) (g : Nat → Int32) (x y z : Int64) : kt3 n g x y z = if (z3_isWithin ((z3_reduce x y z).1) ((z3_reduce x y z).2.1) ((z3_reduce x y z).2.2) 500) = 0 then ((-1000006), n, g) else ((z2_close n).1, (z2_close n).2, z2_put 3 n 2 (z2_put 3 n 1 (z2_put 3 n 0 g ((z3_reduce x y z).1)) ((z3_reduce x y z).2.1)) ((z3_reduce x y z).2.2)) := by
  unfold kt3 z2_keepTriple
  by_cases q : z3_isWithin ((z3_reduce x y z).1) ((z3_reduce x y z).2.1) ((z3_reduce x y z).2.2) 500 = 0
  · simp only [if_pos q]
  · simp only [if_neg q, z2_keepTriple_v1]
theorem pu_isz3 (x y z : Int64) : z3_isZero x y z = 0 ↔ ¬ (x = 0 ∧ y = 0 ∧ z = 0) := by
  unfold z3_isZero
  by_cases c0 : x = 0
  · rw [if_pos c0]
    by_cases c1 : y = 0
    · rw [if_pos c1]
      by_cases c2 : z = 0
      · rw [if_pos c2]
        exact ⟨fun q => absurd q pu_10, fun q => absurd ⟨c0, c1, c2⟩ q⟩
      · rw [if_neg c2]
        exact ⟨fun _ q => c2 q.2.2, fun _ => rfl⟩
    · rw [if_neg c1]
      exact ⟨fun _ q => c1 q.2.1, fun _ => rfl⟩
  · rw [if_neg c0]
    exact ⟨fun _ q => c0 q.1, fun _ => rfl⟩
theorem pu_keep0 (gm : Nat → Int32) (ff : Nat → Int64) (g : Nat → Int32) (r : Int32) (hn : n_ok (gm 0)) (h0 : nm (ff 0)) (h1 : nm (ff 1)) : z5_keep_0 gm ff g r = if ff 0 = 0 ∧ ff 1 = 0 ∧ ff 2 = 0 then (r, gm, g) else lf 0 gm (kt3 (gm 0) g (ff 0) (ff 1) (ff 2)) := by
  unfold z5_keep_0
  rw [pu_nrm36]
  have e := pu_nr3 ff h0 h1
  by_cases q : ff 0 = 0 ∧ ff 1 = 0 ∧ ff 2 = 0
  · rw [if_pos q] at e
    rw [e, if_pos q, if_pos rfl]
  · rw [if_neg q] at e
    rw [e, if_neg q, pu_kt3]
    generalize (z3_reduce (ff 0) (ff 1) (ff 2)).1 = r0
    generalize (z3_reduce (ff 0) (ff 1) (ff 2)).2.1 = r1
    generalize (z3_reduce (ff 0) (ff 1) (ff 2)).2.2 = r2
    rw [if_neg pu_10, ← pu_keepA3 0 gm g r0 r1 r2 hn]
    rfl
theorem pu_keep1 (gm : Nat → Int32) (ff : Nat → Int64) (g : Nat → Int32) (r : Int32) (hn : n_ok (gm 1)) (h0 : nm (ff 0)) (h1 : nm (ff 1)) : z5_keep_1 gm ff g r = if ff 0 = 0 ∧ ff 1 = 0 ∧ ff 2 = 0 then (r, gm, g) else lf 1 gm (kt3 (gm 1) g (ff 0) (ff 1) (ff 2)) := by
  unfold z5_keep_1
  rw [pu_nrm36]
  have e := pu_nr3 ff h0 h1
  by_cases q : ff 0 = 0 ∧ ff 1 = 0 ∧ ff 2 = 0
  · rw [if_pos q] at e
    rw [e, if_pos q, if_pos rfl]
  · rw [if_neg q] at e
    rw [e, if_neg q, pu_kt3]
    generalize (z3_reduce (ff 0) (ff 1) (ff 2)).1 = r0
    generalize (z3_reduce (ff 0) (ff 1) (ff 2)).2.1 = r1
    generalize (z3_reduce (ff 0) (ff 1) (ff 2)).2.2 = r2
    rw [if_neg pu_10, ← pu_keepA3 1 gm g r0 r1 r2 hn]
    rfl
theorem pu_keepA6 (s : Nat) (gm g : Nat → Int32) (a b c d e f : Int64) (hn : n_ok (gm s)) : (if (z5_in a (-500) 500) = 0 then ((-1000006), gm, g) else if (z5_in b (-500) 500) = 0 then ((-1000006), gm, g) else if (z5_in c (-500) 500) = 0 then ((-1000006), gm, g) else if (z5_in d (-500) 500) = 0 then ((-1000006), gm, g) else if (z5_in e (-500) 500) = 0 then ((-1000006), gm, g) else if (z5_in f (-500) 500) = 0 then ((-1000006), gm, g) else if (gm s) = 60 then ((-1000005), gm, g) else (gm s, upd gm s ((gm s) + 1), upd (upd (upd (upd (upd (upd g (((6 * (gm s)) + 0).toNatClampNeg) (a.toInt32)) (((6 * (gm s)) + 1).toNatClampNeg) (b.toInt32)) (((6 * (gm s)) + 2).toNatClampNeg) (c.toInt32)) (((6 * (gm s)) + 3).toNatClampNeg) (d.toInt32)) (((6 * (gm s)) + 4).toNatClampNeg) (e.toInt32)) (((6 * (gm s)) + 5).toNatClampNeg) (f.toInt32))) = lf s gm (if (z0_isWithin a b c d e f 500) = 0 then ((-1000006), gm s, g) else ((z2_close (gm s)).1, (z2_close (gm s)).2, z2_put 6 (gm s) 5 (z2_put 6 (gm s) 4 (z2_put 6 (gm s) 3 (z2_put 6 (gm s) 2 (z2_put 6 (gm s) 1 (z2_put 6 (gm s) 0 g a) b) c) d) e) f)) := by
  unfold z0_isWithin
  rw [pu_within5, pu_within5, pu_within5, pu_within5, pu_within5, pu_within5]
  by_cases c0 : z5_in a (-500) 500 = 0
  · rw [if_pos c0, if_pos c0, if_pos rfl]
    exact (lf_same _ _ _ _).symm
  rw [if_neg c0, if_neg c0]
  by_cases c1 : z5_in b (-500) 500 = 0
  · rw [if_pos c1, if_pos c1, if_pos rfl]
    exact (lf_same _ _ _ _).symm
  rw [if_neg c1, if_neg c1]
  by_cases c2 : z5_in c (-500) 500 = 0
  · rw [if_pos c2, if_pos c2, if_pos rfl]
    exact (lf_same _ _ _ _).symm
  rw [if_neg c2, if_neg c2]
  by_cases c3 : z5_in d (-500) 500 = 0
  · rw [if_pos c3, if_pos c3, if_pos rfl]
    exact (lf_same _ _ _ _).symm
  rw [if_neg c3, if_neg c3]
  by_cases c4 : z5_in e (-500) 500 = 0
  · rw [if_pos c4, if_pos c4, if_pos rfl]
    exact (lf_same _ _ _ _).symm
  rw [if_neg c4, if_neg c4]
  by_cases c5 : z5_in f (-500) 500 = 0
  · rw [if_pos c5, if_pos c5, if_pos rfl]
    exact (lf_same _ _ _ _).symm
  rw [if_neg c5, if_neg c5]
  rw [if_neg pu_10]
  by_cases q : gm s = 60
  · have q1 : ¬ gm s < 60 := by rw [q]; decide
    have q2 : 60 ≤ gm s := by rw [q]; decide
    rw [if_pos q, pu_clf q1, pu_put60 q2, pu_put60 q2, pu_put60 q2, pu_put60 q2, pu_put60 q2, pu_put60 q2]
    exact (lf_same _ _ _ _).symm
  · obtain ⟨q1, q2⟩ := pu_lt60 hn q
    rw [if_neg q, pu_cl60 q1, pu_put (k := 5) q2 (by decide) (by decide), pu_put (k := 4) q2 (by decide) (by decide), pu_put (k := 3) q2 (by decide) (by decide), pu_put (k := 2) q2 (by decide) (by decide), pu_put (k := 1) q2 (by decide) (by decide), pu_put (k := 0) q2 (by decide) (by decide)]
    rfl
def kt6 (n : Int32) (g : Nat → Int32) (a b c d e f : Int64) : Int32 × Int32 × (Nat → Int32) := ((z2_keepForm 6 n g a b c d e f).1, (z2_keepForm 6 n g a b c d e f).2.1, (z2_keepForm 6 n g a b c d e f).2.2.1)
theorem pu_kt6 (n : Int32) (g : Nat → Int32) (a b c d e f : Int64) : kt6 n g a b c d e f = if (z0_isWithin ((z0_reduce a b c d e f).1) ((z0_reduce a b c d e f).2.1) ((z0_reduce a b c d e f).2.2.1) ((z0_reduce a b c d e f).2.2.2.1) ((z0_reduce a b c d e f).2.2.2.2.1) ((z0_reduce a b c d e f).2.2.2.2.2) 500) = 0 then ((-1000006), n, g) else ((z2_close n).1, (z2_close n).2, z2_put 6 n 5 (z2_put 6 n 4 (z2_put 6 n 3 (z2_put 6 n 2 (z2_put 6 n 1 (z2_put 6 n 0 g ((z0_reduce a b c d e f).1)) ((z0_reduce a b c d e f).2.1)) ((z0_reduce a b c d e f).2.2.1)) ((z0_reduce a b c d e f).2.2.2.1)) ((z0_reduce a b c d e f).2.2.2.2.1)) ((z0_reduce a b c d e f).2.2.2.2.2)) := by
  unfold kt6 z2_keepForm
  have ev : z2_keepForm_v1 a b c d e f = z0_isWithin ((z0_reduce a b c d e f).1) ((z0_reduce a b c d e f).2.1) ((z0_reduce a b c d e f).2.2.1) ((z0_reduce a b c d e f).2.2.2.1) ((z0_reduce a b c d e f).2.2.2.2.1) ((z0_reduce a b c d e f).2.2.2.2.2) 500 := rfl
  rw [ev]
  by_cases q : z0_isWithin ((z0_reduce a b c d e f).1) ((z0_reduce a b c d e f).2.1) ((z0_reduce a b c d e f).2.2.1) ((z0_reduce a b c d e f).2.2.2.1) ((z0_reduce a b c d e f).2.2.2.2.1) ((z0_reduce a b c d e f).2.2.2.2.2) 500 = 0
  · simp only [if_pos q]
  · simp only [if_neg q, z2_keepForm_v1, z2_keepForm_v2, z2_keepForm_v3]
theorem pu_isz6 (a b c d e f : Int64) : z0_isZero a b c d e f = 0 ↔ ¬ (a = 0 ∧ b = 0 ∧ c = 0 ∧ d = 0 ∧ e = 0 ∧ f = 0) := by
  unfold z0_isZero
  by_cases c0 : a = 0
  · rw [if_pos c0]
    by_cases c1 : b = 0
    · rw [if_pos c1]
      by_cases c2 : c = 0
      · rw [if_pos c2]
        by_cases c3 : d = 0
        · rw [if_pos c3]
          by_cases c4 : e = 0
          · rw [if_pos c4]
            by_cases c5 : f = 0
            · rw [if_pos c5]
              exact ⟨fun q => absurd q pu_10, fun q => absurd ⟨c0, c1, c2, c3, c4, c5⟩ q⟩
            · rw [if_neg c5]
              exact ⟨fun _ q => c5 q.2.2.2.2.2, fun _ => rfl⟩
          · rw [if_neg c4]
            exact ⟨fun _ q => c4 q.2.2.2.2.1, fun _ => rfl⟩
        · rw [if_neg c3]
          exact ⟨fun _ q => c3 q.2.2.2.1, fun _ => rfl⟩
      · rw [if_neg c2]
        exact ⟨fun _ q => c2 q.2.2.1, fun _ => rfl⟩
    · rw [if_neg c1]
      exact ⟨fun _ q => c1 q.2.1, fun _ => rfl⟩
  · rw [if_neg c0]
    exact ⟨fun _ q => c0 q.1, fun _ => rfl⟩
theorem pu_keep2 (gm : Nat → Int32) (ff : Nat → Int64) (g : Nat → Int32) (r : Int32) (hn : n_ok (gm 2)) (h0 : nm (ff 0)) (h1 : nm (ff 1)) (h2 : nm (ff 2)) (h3 : nm (ff 3)) (h4 : nm (ff 4)) : z5_keep_2 gm ff g r = if ff 0 = 0 ∧ ff 1 = 0 ∧ ff 2 = 0 ∧ ff 3 = 0 ∧ ff 4 = 0 ∧ ff 5 = 0 then (r, gm, g) else lf 2 gm (kt6 (gm 2) g (ff 0) (ff 1) (ff 2) (ff 3) (ff 4) (ff 5)) := by
  unfold z5_keep_2
  have e := pu_nr6 ff h0 h1 h2 h3 h4
  by_cases q : ff 0 = 0 ∧ ff 1 = 0 ∧ ff 2 = 0 ∧ ff 3 = 0 ∧ ff 4 = 0 ∧ ff 5 = 0
  · rw [if_pos q] at e
    rw [e, if_pos q, if_pos rfl]
  · rw [if_neg q] at e
    rw [e, if_neg q, pu_kt6]
    generalize (z0_reduce (ff 0) (ff 1) (ff 2) (ff 3) (ff 4) (ff 5)).1 = r0
    generalize (z0_reduce (ff 0) (ff 1) (ff 2) (ff 3) (ff 4) (ff 5)).2.1 = r1
    generalize (z0_reduce (ff 0) (ff 1) (ff 2) (ff 3) (ff 4) (ff 5)).2.2.1 = r2
    generalize (z0_reduce (ff 0) (ff 1) (ff 2) (ff 3) (ff 4) (ff 5)).2.2.2.1 = r3
    generalize (z0_reduce (ff 0) (ff 1) (ff 2) (ff 3) (ff 4) (ff 5)).2.2.2.2.1 = r4
    generalize (z0_reduce (ff 0) (ff 1) (ff 2) (ff 3) (ff 4) (ff 5)).2.2.2.2.2 = r5
    rw [if_neg pu_10, ← pu_keepA6 2 gm g r0 r1 r2 r3 r4 r5 hn]
    rfl
