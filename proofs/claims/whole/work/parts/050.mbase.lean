-- laid by wip/whole/gen
abbrev kM (o p l c m f r n v x a k : Nat) (cm : Int32) (t : Nat) (pm : Int32) (g h i : Nat) : Nat × va_E := (o, .inr (5, [.ref p, .ref l, .ref c, .ref m, .ref f, .ref r, .ref n, .ref v, .ref x, .ref a, .ref k, .int cm, .ref t, .int pm, .ref g, .ref h, .ref i]))
-- Euclid's way ends within a hundred steps
def g_ends : Nat → Int64 → Int64 → Prop
  | 0, _, y => y = 0
  | n + 1, x, y => y = 0 ∨ g_ends n y (x - x / y * y)
def e_ends : Nat → Nat → Nat → Prop
  | 0, _, b => b = 0
  | n + 1, a, b => b = 0 ∨ e_ends n b (a % b)
def fb_p : Nat → Nat × Nat
  | 0 => (1, 1)
  | n + 1 => ((fb_p n).2, (fb_p n).1 + (fb_p n).2)
theorem fb_pos : ∀ n, 0 < (fb_p n).1 ∧ 0 < (fb_p n).2
  | 0 => by decide
  | n + 1 => by
    have h := fb_pos n
    simp only [fb_p]
    omega
theorem e_fib : ∀ n, (∀ a b, b < (fb_p n).1 → e_ends n a b) ∧ (∀ a b, b < (fb_p n).2 → e_ends (n + 1) a b)
  | 0 => by
    constructor
    · intro a b h
      simp only [fb_p] at h
      show b = 0
      omega
    · intro a b h
      simp only [fb_p] at h
      exact Or.inl (by omega)
  | n + 1 => by
    obtain ⟨h1, h2⟩ := e_fib n
    refine ⟨h2, ?_⟩
    intro a b h
    simp only [fb_p] at h
    by_cases hb : b = 0
    · exact Or.inl hb
    · refine Or.inr ?_
      have hr : a % b < b := Nat.mod_lt _ (by omega)
      by_cases hc : a % b < (fb_p n).2
      · exact h2 _ _ hc
      · have hp := (fb_pos n).2
        refine Or.inr (h1 _ _ ?_)
        have e1 : b % (a % b) = (b - a % b) % (a % b) := Nat.mod_eq_sub_mod (by omega)
        have e2 : (b - a % b) % (a % b) ≤ b - a % b := Nat.mod_le _ _
        omega
theorem i64_rem (x y : Int64) : x - x / y * y = x % y := by
  apply Int64.toInt_inj.mp
  rw [Int64.toInt_sub, Int64.toInt_mul, Int64.toInt_div, Int64.toInt_mod]
  have h1 : x.toInt - x.toInt.tdiv y.toInt * y.toInt = x.toInt.tmod y.toInt := by
    rw [Int.tmod_def, Int.mul_comm]
  have hx1 := Int64.le_toInt x
  have hx2 := Int64.toInt_lt x
  have h2 : (x.toInt.tmod y.toInt).natAbs ≤ x.toInt.natAbs := by
    rw [Int.natAbs_tmod]
    exact Nat.mod_le _ _
  rw [Int.sub_bmod_bmod, ← Int.sub_bmod_bmod (y := _ * _), Int.bmod_mul_bmod, Int.sub_bmod_bmod, h1]
  have h3 := Int64.toInt_lt (x % y)
  have h4 := Int64.le_toInt (x % y)
  rw [Int64.toInt_mod] at h3 h4
  exact Int.bmod_eq_of_le (by omega) (by omega)
theorem g_of_e : ∀ (n : Nat) (x y : Int64), e_ends n x.toInt.natAbs y.toInt.natAbs → g_ends n x y
  | 0, x, y, h => by
    have h : y.toInt.natAbs = 0 := h
    show y = 0
    apply Int64.toInt_inj.mp
    have z0 : (0 : Int64).toInt = 0 := by decide
    rw [z0]
    omega
  | n + 1, x, y, h => by
    rcases h with h | h
    · refine Or.inl ?_
      apply Int64.toInt_inj.mp
      have z0 : (0 : Int64).toInt = 0 := by decide
      rw [z0]
      omega
    · refine Or.inr (g_of_e n _ _ ?_)
      rw [i64_rem, Int64.toInt_mod, Int.natAbs_tmod]
      exact h
theorem g_100 (x y : Int64) : g_ends 100 x y := by
  apply g_of_e
  apply (e_fib 100).1
  have hx1 := Int64.le_toInt y
  have hx2 := Int64.toInt_lt y
  have h2 : 9223372036854775808 < (fb_p 100).1 := by decide +kernel
  omega
def z5_in (x : Int64) (a : Int64) (b : Int64) : Int32 := if x < a then 0 else if b < x then 0 else 1
set_option maxHeartbeats 4000000 in
set_option maxRecDepth 100000 in
/-- X5.in -/
theorem c_X5_in (l : Launch) (D : va_G) (cI cJ : ClassId) (x : Int64) (a : Int64) (b : Int64) : mr_C l yX5_in wsX5_in ({ frames := 0, cells := 0, slots := 0, locals := 0 }) D cI cJ [.long x, .long a, .long b] [] (vp_Si (fun r : Int32 => r = z5_in x a b)) := by
  refine mr_in (cc := cX5_in) (lv := [(0, .long x), (2, .long a), (4, .long b)]) (by decide) rfl (Nat.le_of_ble_eq_true rfl) rfl ?_
  intro pG eG sG mG below meth cG ls hx hb hr hml hown hts hlk hP hK hl
  have hown : sG.vm.findClass RX5 = some mG.cls := hown
  refine lv_lload_n hx hb dX5_in_0 rfl (lv_at hl 0 rfl) ?_
  refine lv_lload_n hx hb dX5_in_1 rfl (lv_at hl 1 rfl) ?_
  refine lb_lt (tgt := 17) hx hb dX5_in_2 rfl dX5_in_3 (by decide) (fun c_1 => ?_) (fun c_1 => ?_)
  · skip
    refine lv_iconst (v := 0) hx hb dX5_in_17 (by decide) ?_
    have he : z5_in x a b = 0 := by unfold z5_in; rw [if_pos c_1]
    exact rr_z hx hb hr rfl hlk dX5_in_18 he.symm
  · skip
    refine lv_lload_n hx hb dX5_in_6 rfl (lv_at hl 0 rfl) ?_
    refine lv_lload hx hb dX5_in_7 (lv_at hl 2 rfl) ?_
    refine lb_gt (tgt := 17) hx hb dX5_in_9 rfl dX5_in_10 (by decide) (fun c_2 => ?_) (fun c_2 => ?_)
    · skip
      refine lv_iconst (v := 0) hx hb dX5_in_17 (by decide) ?_
      have he : z5_in x a b = 0 := by unfold z5_in; rw [if_neg c_1, if_pos c_2]
      exact rr_z hx hb hr rfl hlk dX5_in_18 he.symm
    · skip
      refine lv_iconst (v := 1) hx hb dX5_in_13 (by decide) ?_
      refine lv_goto (tgt := 18) hx hb dX5_in_14 (by decide) ?_
      have he : z5_in x a b = 1 := by unfold z5_in; rw [if_neg c_1, if_neg c_2]
      exact rr_z hx hb hr rfl hlk dX5_in_18 he.symm
theorem nb_in (x a b : Int64) : narrow .boolean (.int (z5_in x a b)) = .int (z5_in x a b) := by
  unfold z5_in
  by_cases c1 : x < a
  · rw [if_pos c1]; rfl
  · rw [if_neg c1]
    by_cases c2 : b < x
    · rw [if_pos c2]; rfl
    · rw [if_neg c2]; rfl
def z5_wide (s : Int32) : Int32 := if s = 2 then 6 else 3
set_option maxHeartbeats 4000000 in
set_option maxRecDepth 100000 in
/-- X5.wide -/
theorem c_X5_wide (l : Launch) (D : va_G) (cI cJ : ClassId) (s : Int32) : mr_C l yX5_wide wsX5_wide ({ frames := 0, cells := 0, slots := 0, locals := 0 }) D cI cJ [.int s] [] (vp_Si (fun r : Int32 => r = z5_wide s)) := by
  refine mr_in (cc := cX5_wide) (lv := [(0, .int s)]) (by decide) rfl (Nat.le_of_ble_eq_true rfl) rfl ?_
  intro pG eG sG mG below meth cG ls hx hb hr hml hown hts hlk hP hK hl
  have hown : sG.vm.findClass RX5 = some mG.cls := hown
  refine lv_iload_n hx hb dX5_wide_0 rfl (lv_at hl 0 rfl) ?_
  refine lv_iconst (v := 2) hx hb dX5_wide_1 (by decide) ?_
  refine lv_icmp_ne (tgt := 10) hx hb dX5_wide_2 (by decide) (fun c_1 => ?_) (fun c_1 => ?_)
  · skip
    refine lv_iconst (v := 3) hx hb dX5_wide_10 (by decide) ?_
    have he : z5_wide s = 3 := by unfold z5_wide; rw [if_neg c_1]
    exact rr_i hx hb hr hlk dX5_wide_11 he.symm
  · skip
    refine lv_bipush (v := 6) hx hb dX5_wide_5 (by decide) ?_
    refine lv_goto (tgt := 11) hx hb dX5_wide_7 (by decide) ?_
    have he : z5_wide s = 6 := by unfold z5_wide; rw [if_pos c_1]
    exact rr_i hx hb hr hlk dX5_wide_11 he.symm
def z5_isNear (x : Int64) : Int32 := z5_in x (-1000) 1000
set_option maxHeartbeats 4000000 in
set_option maxRecDepth 100000 in
/-- X5.isNear -/
theorem c_X5_isNear (l : Launch) (D : va_G) (cI cJ : ClassId) (x : Int64) : mr_C l yX5_isNear wsX5_isNear ({ frames := 1, cells := 0, slots := 0, locals := 25 }) D cI cJ [.long x] [] (vp_Si (fun r : Int32 => r = z5_isNear x)) := by
  refine mr_in (cc := cX5_isNear) (lv := [(0, .long x)]) (by decide) rfl (Nat.le_of_ble_eq_true rfl) rfl ?_
  intro pG eG sG mG below meth cG ls hx hb hr hml hown hts hlk hP hK hl
  have hown : sG.vm.findClass RX5 = some mG.cls := hown
  have k_1 := hts (.constantLong RX5 78 (-1000)) (by decide +kernel)
  have k_2 := hts (.constantLong RX5 80 (1000)) (by decide +kernel)
  refine lv_lload_n hx hb dX5_isNear_0 rfl (lv_at hl 0 rfl) ?_
  refine lv_ldc2 hx hb hown k_1 dX5_isNear_1 ?_
  refine lv_ldc2 hx hb hown k_2 dX5_isNear_4 ?_
  have hPc := hP.sub (ws' := []) [] rfl
  refine cr_i (va_runS (As := [.long x, .long (-1000), .long 1000]) (rest := []) ⟨hx, hb, hml, hown, hts⟩ (c_X5_in l D cI cJ x (-1000) 1000) (va_cwS 3 hts gX5_isNear_X5_in rfl rfl rfl (by decide +kernel) ⟨Nat.le_of_ble_eq_true rfl, Nat.le_of_ble_eq_true rfl⟩) ⟨gd_blR, gd_prR hPc hK⟩ rfl rfl hl.1 rfl (lv_room (Nat.le_of_ble_eq_true rfl)) dX5_isNear_7 ⟨Nat.zero_le _, Nat.zero_le _⟩) (fun r_7 hw => ?_)
  subst hw
  clear hPc
  exact rr_z hx hb hr (nb_in _ _ _) hlk dX5_isNear_10 rfl
def z5_ab (a : Int64) : Int64 := if 0 ≤ a then a else -a
def z5_common (a b : Int64) : Int64 := z4_gcdl 100 (z5_ab a) (z5_ab b)
set_option maxHeartbeats 4000000 in
set_option maxRecDepth 100000 in
/-- X5.common -/
theorem c_X5_common (l : Launch) (D : va_G) (cI cJ : ClassId) (a : Int64) (b : Int64) : mr_C l yX5_common wsX5_common ({ frames := 0, cells := 0, slots := 0, locals := 0 }) D cI cJ [.long a, .long b] [] (vp_Sl (fun r : Int64 => r = z5_common a b)) := by
  refine mr_in (cc := cX5_common) (lv := [(0, .long a), (2, .long b)]) (by decide) rfl (Nat.le_of_ble_eq_true rfl) rfl ?_
  intro pG eG sG mG below meth cG ls hx hb hr hml hown hts hlk hP hK hl
  have hown : sG.vm.findClass RX5 = some mG.cls := hown
  have loop : ∀ (n : Nat) (u v : Int64), g_ends n u v → z4_gcdl n u v = z5_common a b → ∀ ls : Array Slot, lv_has ls 10 [(4, .long u), (6, .long v)] → W pG l eG (headSpec wsX5_common ({ frames := 0, cells := 0, slots := 0, locals := 0 })).room sG mG ([.long a, .long b] : List Value).toArray below meth cG sG.heap [] 0 0 (MQ below (vp_Sl (fun r : Int64 => r = z5_common a b)) ([.long a, .long b] : List Value).toArray sG 0 0 (fun _ => False)) (F0 mG 28 ls []) := by
    intro n
    induction n with
    | zero =>
      intro u v he hv ls hl
      refine lv_lload hx hb dX5_common_28 (lv_at hl 1 rfl) ?_
      refine lv_lconst (v := 0) hx hb dX5_common_30 (by decide) ?_
      refine lb_eq (tgt := 53) hx hb dX5_common_31 rfl dX5_common_32 (by decide) (fun _ => ?_) (fun h => absurd he h)
      refine lv_lload hx hb dX5_common_53 (lv_at hl 0 rfl) ?_
      exact rr_l hx hb hr hlk dX5_common_55 hv
    | succ n ih =>
      intro u v he hv ls hl
      rw [z4_gcdl] at hv
      refine lv_lload hx hb dX5_common_28 (lv_at hl 1 rfl) ?_
      refine lv_lconst (v := 0) hx hb dX5_common_30 (by decide) ?_
      refine lb_eq (tgt := 53) hx hb dX5_common_31 rfl dX5_common_32 (by decide) (fun c_1 => ?_) (fun c_1 => ?_)
      · skip
        refine lv_lload hx hb dX5_common_53 (lv_at hl 0 rfl) ?_
        exact rr_l hx hb hr hlk dX5_common_55 (by rw [if_pos c_1] at hv; exact hv)
      · skip
        refine lv_lload hx hb dX5_common_35 (lv_at hl 0 rfl) ?_
        refine lv_lload hx hb dX5_common_37 (lv_at hl 1 rfl) ?_
        refine lv_lrem hx hb dX5_common_39 c_1 ?_
        refine lv_lstore (lv' := [(8, .long (u - u / v * v)), (4, .long u), (6, .long v)]) hx hb dX5_common_40 hl (by decide) rfl (fun ls hl => ?_)
        refine lv_lload hx hb dX5_common_42 (lv_at hl 2 rfl) ?_
        refine lv_lstore (lv' := [(4, .long v), (8, .long (u - u / v * v)), (6, .long v)]) hx hb dX5_common_44 hl (by decide) rfl (fun ls hl => ?_)
        refine lv_lload hx hb dX5_common_46 (lv_at hl 1 rfl) ?_
        refine lv_lstore (lv' := [(6, .long (u - u / v * v)), (4, .long v), (8, .long (u - u / v * v))]) hx hb dX5_common_48 hl (by decide) rfl (fun ls hl => ?_)
        refine lv_goto (tgt := 28) hx hb dX5_common_50 (by decide) ?_
        exact ih v (u - u / v * v) (he.resolve_left c_1) (by rw [if_neg c_1] at hv; exact hv) ls (lv_sub hl [1, 0] rfl)
  refine lv_lload_n hx hb dX5_common_0 rfl (lv_at hl 0 rfl) ?_
  refine lv_lconst (v := 0) hx hb dX5_common_1 (by decide) ?_
  refine lb_ge (tgt := 11) hx hb dX5_common_2 rfl dX5_common_3 (by decide) (fun c_2 => ?_) (fun c_2 => ?_)
  · skip
    refine lv_lload_n hx hb dX5_common_11 rfl (lv_at hl 0 rfl) ?_
    refine lv_lstore (lv' := [(4, .long a), (0, .long a), (2, .long b)]) hx hb dX5_common_12 hl (by decide) rfl (fun ls hl => ?_)
    refine lv_lload_n hx hb dX5_common_14 rfl (lv_at hl 2 rfl) ?_
    refine lv_lconst (v := 0) hx hb dX5_common_15 (by decide) ?_
    refine lb_ge (tgt := 25) hx hb dX5_common_16 rfl dX5_common_17 (by decide) (fun c_3 => ?_) (fun c_3 => ?_)
    · skip
      refine lv_lload_n hx hb dX5_common_25 rfl (lv_at hl 2 rfl) ?_
      refine lv_lstore (lv' := [(6, .long b), (4, .long a), (0, .long a), (2, .long b)]) hx hb dX5_common_26 hl (by decide) rfl (fun ls hl => ?_)
      exact loop 100 a b (g_100 _ _) (by unfold z5_common z5_ab; rw [if_pos c_2, if_pos c_3]) ls (lv_sub hl [1, 0] rfl)
    · skip
      refine lv_lload_n hx hb dX5_common_20 rfl (lv_at hl 2 rfl) ?_
      refine lv_lneg hx hb dX5_common_21 ?_
      refine lv_goto (tgt := 26) hx hb dX5_common_22 (by decide) ?_
      refine lv_lstore (lv' := [(6, .long (-b)), (4, .long a), (0, .long a), (2, .long b)]) hx hb dX5_common_26 hl (by decide) rfl (fun ls hl => ?_)
      exact loop 100 a (-b) (g_100 _ _) (by unfold z5_common z5_ab; rw [if_pos c_2, if_neg c_3]) ls (lv_sub hl [1, 0] rfl)
  · skip
    refine lv_lload_n hx hb dX5_common_6 rfl (lv_at hl 0 rfl) ?_
    refine lv_lneg hx hb dX5_common_7 ?_
    refine lv_goto (tgt := 12) hx hb dX5_common_8 (by decide) ?_
    refine lv_lstore (lv' := [(4, .long (-a)), (0, .long a), (2, .long b)]) hx hb dX5_common_12 hl (by decide) rfl (fun ls hl => ?_)
    refine lv_lload_n hx hb dX5_common_14 rfl (lv_at hl 2 rfl) ?_
    refine lv_lconst (v := 0) hx hb dX5_common_15 (by decide) ?_
    refine lb_ge (tgt := 25) hx hb dX5_common_16 rfl dX5_common_17 (by decide) (fun c_4 => ?_) (fun c_4 => ?_)
    · skip
      refine lv_lload_n hx hb dX5_common_25 rfl (lv_at hl 2 rfl) ?_
      refine lv_lstore (lv' := [(6, .long b), (4, .long (-a)), (0, .long a), (2, .long b)]) hx hb dX5_common_26 hl (by decide) rfl (fun ls hl => ?_)
      exact loop 100 (-a) b (g_100 _ _) (by unfold z5_common z5_ab; rw [if_neg c_2, if_pos c_4]) ls (lv_sub hl [1, 0] rfl)
    · skip
      refine lv_lload_n hx hb dX5_common_20 rfl (lv_at hl 2 rfl) ?_
      refine lv_lneg hx hb dX5_common_21 ?_
      refine lv_goto (tgt := 26) hx hb dX5_common_22 (by decide) ?_
      refine lv_lstore (lv' := [(6, .long (-b)), (4, .long (-a)), (0, .long a), (2, .long b)]) hx hb dX5_common_26 hl (by decide) rfl (fun ls hl => ?_)
      exact loop 100 (-a) (-b) (g_100 _ _) (by unfold z5_common z5_ab; rw [if_neg c_2, if_neg c_4]) ls (lv_sub hl [1, 0] rfl)
theorem ng_ne {x : Int64} (h : ¬ x = 0) : ¬ -x = 0 := by
  intro h2
  apply h
  have h3 : - -x = 0 := by rw [h2]; decide
  rwa [Int64.neg_neg] at h3
theorem z5_common_00 : z5_common 0 0 = 0 := by decide +kernel
